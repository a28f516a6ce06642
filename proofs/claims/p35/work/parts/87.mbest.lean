set_option maxHeartbeats 8000000 in
set_option maxRecDepth 100000 in
theorem c_X12_best (l : Launch) (dC : Nat → ClassId) (dI : Nat → Nat → Nat) (g : Nat → Nat) (c : Nat → ClassId) (adK adV : Nat → Nat) (v : Nat → Int32) (F : Nat → Nat → Int32) (rc sz : Nat) (p0 : Int32) (p1 : Int32) (hg : injM g) (hI : IM v F) (hL : JL (v 31) (F 28) (F 29) (F 27)) : Met l yX12_best (Cond.code yX12_best cX12_best 12 (some .int) :: wA) ({ frames := 8, cells := 0, slots := 0, locals := 320 }) (va_Pc [.ref (g 0), .int p0, .int p1] (PM dC dI g c adK adV v F rc sz)) (va_Qi (fun (r : Int32) (u : StM) => IM u.1 u.2.1 ∧ u.2.2 = rc ∧ (∀ k, k ∉ ([57, 58] : List Nat) → u.1 k = v k) ∧ (∀ k, k ∉ ([30, 31, 42, 43] : List Nat) → u.2.1 k = F k) ∧ True) (BM dC dI g c) (AM g sz)) 0 0 (AM g sz) := by
  refine Met.ofW (cc := cX12_best) (maxL := 12) (ret := (some .int)) (by decide) rfl ?_
  intro p e s m args below meth c0 s₁ B hml hv
  obtain ⟨rfl, hsz, hP, hK, hE⟩ := hv
  have hx := B.exec
  have hb := B.bytes
  have hr := B.returns
  have hts := atoms_spec (ws := Cond.code yX12_best cX12_best 12 (some .int) :: wA) B.pre
  have hwd : ∀ w ∈ wA, w.before _ s = true := fun w h => hts w (List.mem_cons_of_mem _ h)
  have hown : s.vm.findClass RX12 = some m.cls := findClass_of_methodNamed B.named
  have hlocks := B.notSynchronized
  subst hsz
  have hl := lv_entry ([.ref (g 0), .int p0, .int p1]) (n := 12) (Nat.le_of_ble_eq_true rfl)
  rw [lg_entry_eq]
  generalize (lg_sl ([.ref (g 0), .int p0, .int p1]) ++ List.replicate (12 - (lg_sl ([.ref (g 0), .int p0, .int p1])).length) Slot.unset).toArray = ls at hl ⊢
  have hl : lv_has ls 12 [(0, .ref (g 0)), (1, .int p0), (2, .int p1)] := hl
  obtain ⟨H, eH⟩ : ∃ z, z = s.heap := ⟨_, rfl⟩
  have hP : va_P (dC, dI) classes (wM g c v F rc) H := by rw [eH]; exact hP
  have hS : va_S (AM g s.heap.size) s.heap H [] := by rw [eH]; exact va_S.rf
  refine my_heap eH ?_
  have hF : ∀ k, k ∉ ([30, 31, 42, 43] : List Nat) → F k = F k := fun _ _ => rfl
  have rp0 := i32_rng p0
  have rp1 := i32_rng p1
  have hb31 : 0 ≤ (v 31).toInt ∧ (v 31).toInt ≤ 10 := hI.1 31 _ _ rfl
  refine lv_aload_n hx hb dX12_best_0 rfl (lv_at hl 0 rfl) ?_
  refine lv_iload_n hx hb dX12_best_1 rfl (lv_at hl 1 rfl) ?_
  have t14422 : 0 ≤ (v 6).toInt ∧ (v 6).toInt ≤ 10 := hI.1 6 _ _ rfl
  refine va_calli (va_runV (As := [.int p0]) (rest := []) ⟨hx, hb, hml, hown, hwd⟩ (c_X12_isPlane l dC dI g c adK adV v F rc H.size p0 hg hI ) (cwV 1 hwd (gV wk_305 wk_302 wk_303 wk_304 wk_5) rfl rfl rfl (by decide +kernel) ⟨Nat.le_of_ble_eq_true rfl, Nat.le_of_ble_eq_true rfl⟩) ⟨PM.blind, va_recv hK hP (ci := 12) (q0 := 0) rfl rfl, fun U hU hW => ⟨rfl, PM.at hK hE hP hS hU hW⟩⟩ rfl rfl hl.1 rfl (lv_room (Nat.le_of_ble_eq_true rfl)) dX12_best_2 ⟨Nat.le_of_ble_eq_true rfl, Nat.le_of_ble_eq_true rfl⟩) hS (fun q _ h => (freeM hS) q h) (freeM hS) (fun r14423 u t H1 locs ht hvm hw hB hz1 hk1 hS => ?_)
  unfold BM at hB
  rw [ht] at hB
  have hP : va_P (dC, dI) classes (wM g c v F rc) H1 := hB
  replace hw : (r14423.toInt = 1 ∧ 0 ≤ p0.toInt ∧ p0.toInt < (v 6).toInt) ∨ (r14423.toInt = 0 ∧ (p0.toInt < 0 ∨ (v 6).toInt ≤ p0.toInt)) := hw
  have hw_r14423 := hw
  clear hw
  clear hz1
  generalize H1 = H at hP hS ⊢
  refine lv_if_eq (tgt := 16) hx hb dX12_best_5 (by decide) (fun c14424 => ?_) (fun c14424 => ?_)
  · skip
    have t14425 := cv_eq (a := r14423.toInt) rfl (b := 0) (by decide) c14424
    refine lv_iconst (v := (-1)) hx hb dX12_best_16 (by decide) ?_
    have hP9 : va_P (dC, dI) classes (wM g c v F rc) H := hP
    exact W.iret (v := (-1)) hx hb hr (fun t ht hW => ⟨⟨(-1), (v, F, rc), rfl, ⟨hI, rfl, (fun _ _ => rfl), hF, trivial⟩, (by show va_P _ _ _ t.heap; rw [ht]; exact hP9)⟩, hS.F ht⟩) hS.2.2 dX12_best_17
  · skip
    have t14426 := cv_ne (a := r14423.toInt) rfl (b := 0) (by decide) c14424
    refine lv_aload_n hx hb dX12_best_8 rfl (lv_at hl 0 rfl) ?_
    refine lv_iload_n hx hb dX12_best_9 rfl (lv_at hl 2 rfl) ?_
    have t14427 : 0 ≤ (v 2).toInt ∧ (v 2).toInt ≤ 10 := hI.1 2 _ _ rfl
    refine va_calli (va_runV (As := [.int p1]) (rest := []) ⟨hx, hb, hml, hown, hwd⟩ (c_X12_isKind l dC dI g c adK adV v F rc H.size p1 hg hI ) (cwV 1 hwd (gV wk_309 wk_306 wk_307 wk_308 wk_5) rfl rfl rfl (by decide +kernel) ⟨Nat.le_of_ble_eq_true rfl, Nat.le_of_ble_eq_true rfl⟩) ⟨PM.blind, va_recv hK hP (ci := 12) (q0 := 0) rfl rfl, fun U hU hW => ⟨rfl, PM.at hK hE hP hS hU hW⟩⟩ rfl rfl hl.1 rfl (lv_room (Nat.le_of_ble_eq_true rfl)) dX12_best_10 ⟨Nat.le_of_ble_eq_true rfl, Nat.le_of_ble_eq_true rfl⟩) hS (fun q _ h => (freeM hS) q h) (freeM hS) (fun r14428 u t H1 locs ht hvm hw hB hz1 hk1 hS => ?_)
    unfold BM at hB
    rw [ht] at hB
    have hP : va_P (dC, dI) classes (wM g c v F rc) H1 := hB
    replace hw : (r14428.toInt = 1 ∧ 0 ≤ p1.toInt ∧ p1.toInt < (v 2).toInt) ∨ (r14428.toInt = 0 ∧ (p1.toInt < 0 ∨ (v 2).toInt ≤ p1.toInt)) := hw
    have hw_r14428 := hw
    clear hw
    clear hz1
    generalize H1 = H at hP hS ⊢
    refine lv_if_ne (tgt := 18) hx hb dX12_best_13 (by decide) (fun c14429 => ?_) (fun c14429 => ?_)
    · skip
      have t14430 := cv_ne (a := r14428.toInt) rfl (b := 0) (by decide) c14429
      refine lv_aload_n hx hb dX12_best_18 rfl (lv_at hl 0 rfl) ?_
      refine lv_iload_n hx hb dX12_best_19 rfl (lv_at hl 1 rfl) ?_
      refine va_calli (va_runV (As := [.int p0]) (rest := []) ⟨hx, hb, hml, hown, hwd⟩ (c_X12_hasContract l dC dI g c adK adV v F rc H.size p0 hg hI (by omega)) (cwV 1 hwd (gV wk_1201 wk_1198 wk_1199 wk_1200 wk_5) rfl rfl rfl (by decide +kernel) ⟨Nat.le_of_ble_eq_true rfl, Nat.le_of_ble_eq_true rfl⟩) ⟨PM.blind, va_recv hK hP (ci := 12) (q0 := 0) rfl rfl, fun U hU hW => ⟨rfl, PM.at hK hE hP hS hU hW⟩⟩ rfl rfl hl.1 rfl (lv_room (Nat.le_of_ble_eq_true rfl)) dX12_best_20 ⟨Nat.le_of_ble_eq_true rfl, Nat.le_of_ble_eq_true rfl⟩) hS (fun q _ h => (freeM hS) q h) (freeM hS) (fun r14431 u t H1 locs ht hvm hw hB hz1 hk1 hS => ?_)
      unfold BM at hB
      rw [ht] at hB
      have hP : va_P (dC, dI) classes (wM g c v F rc) H1 := hB
      have hw_r14431 : 0 ≤ r14431.toInt ∧ r14431.toInt ≤ 1 := hw
      clear hw
      clear hz1
      generalize H1 = H at hP hS ⊢
      refine lv_if_eq (tgt := 48) hx hb dX12_best_23 (by decide) (fun c14432 => ?_) (fun c14432 => ?_)
      · skip
        have t14433 := cv_eq (a := r14431.toInt) rfl (b := 0) (by decide) c14432
        refine lv_bipush (v := (-2)) hx hb dX12_best_48 (by decide) ?_
        have hP9 : va_P (dC, dI) classes (wM g c v F rc) H := hP
        exact W.iret (v := (-2)) hx hb hr (fun t ht hW => ⟨⟨(-2), (v, F, rc), rfl, ⟨hI, rfl, (fun _ _ => rfl), hF, trivial⟩, (by show va_P _ _ _ t.heap; rw [ht]; exact hP9)⟩, hS.F ht⟩) hS.2.2 dX12_best_50
      · skip
        have t14434 := cv_ne (a := r14431.toInt) rfl (b := 0) (by decide) c14432
        refine lv_aload_n hx hb dX12_best_26 rfl (lv_at hl 0 rfl) ?_
        refine lv_iload_n hx hb dX12_best_27 rfl (lv_at hl 1 rfl) ?_
        refine va_calli (va_runV (As := [.int p0]) (rest := []) ⟨hx, hb, hml, hown, hwd⟩ (c_X12_isReturned l dC dI g c adK adV v F rc H.size p0 hg hI (by omega)) (cwV 1 hwd (gV wk_313 wk_310 wk_311 wk_312 wk_5) rfl rfl rfl (by decide +kernel) ⟨Nat.le_of_ble_eq_true rfl, Nat.le_of_ble_eq_true rfl⟩) ⟨PM.blind, va_recv hK hP (ci := 12) (q0 := 0) rfl rfl, fun U hU hW => ⟨rfl, PM.at hK hE hP hS hU hW⟩⟩ rfl rfl hl.1 rfl (lv_room (Nat.le_of_ble_eq_true rfl)) dX12_best_28 ⟨Nat.le_of_ble_eq_true rfl, Nat.le_of_ble_eq_true rfl⟩) hS (fun q _ h => (freeM hS) q h) (freeM hS) (fun r14435 u t H1 locs ht hvm hw hB hz1 hk1 hS => ?_)
        unfold BM at hB
        rw [ht] at hB
        have hP : va_P (dC, dI) classes (wM g c v F rc) H1 := hB
        have hw_r14435 : 0 ≤ r14435.toInt ∧ r14435.toInt ≤ 1 := hw
        clear hw
        clear hz1
        generalize H1 = H at hP hS ⊢
        refine lv_if_ne (tgt := 48) hx hb dX12_best_31 (by decide) (fun c14436 => ?_) (fun c14436 => ?_)
        · skip
          have t14437 := cv_ne (a := r14435.toInt) rfl (b := 0) (by decide) c14436
          refine lv_bipush (v := (-2)) hx hb dX12_best_48 (by decide) ?_
          have hP9 : va_P (dC, dI) classes (wM g c v F rc) H := hP
          exact W.iret (v := (-2)) hx hb hr (fun t ht hW => ⟨⟨(-2), (v, F, rc), rfl, ⟨hI, rfl, (fun _ _ => rfl), hF, trivial⟩, (by show va_P _ _ _ t.heap; rw [ht]; exact hP9)⟩, hS.F ht⟩) hS.2.2 dX12_best_50
        · skip
          have t14438 := cv_eq (a := r14435.toInt) rfl (b := 0) (by decide) c14436
          refine lv_aload_n hx hb dX12_best_34 rfl (lv_at hl 0 rfl) ?_
          refine va_get (D := (dC, dI)) (ci := 12) (v := .ref (g 9)) (C := RX12) (T := TX12) (N := 63) hx hb hwd inA_X12 hown hK hP 0 rfl rfl 12 (by decide) (hwd _ wk_190) (fun _ h9 => h9) rfl dX12_best_35 ?_
          refine lv_bipush (v := 10) hx hb dX12_best_38 (by decide) ?_
          refine lv_iload_n hx hb dX12_best_40 rfl (lv_at hl 1 rfl) ?_
          refine lv_imul hx hb dX12_best_41 ?_
          refine lv_topi (fun z14439 e14440 => ?_)
          try (have t14441 := tmul e14440 (a := 10) (by decide) (b := p0.toInt) rfl (by omega))
          refine lv_iload_n hx hb dX12_best_42 rfl (lv_at hl 2 rfl) ?_
          refine lv_iadd hx hb dX12_best_43 ?_
          refine lv_topi (fun z14442 e14443 => ?_)
          try (have t14444 := tadd e14443 (a := z14439.toInt) rfl (b := p1.toInt) rfl (by omega))
          refine va_iald hx hb hK hP 9 8 rfl rfl (i := z14442) (vin (a := z14442.toInt) rfl (by omega)) dX12_best_44 ?_
          refine lv_topi (fun z14445 e14446 => ?_)
          refine lv_if_ne (tgt := 51) hx hb dX12_best_45 (by decide) (fun c14447 => ?_) (fun c14447 => ?_)
          · skip
            have t14448 := cv_ne (a := z14445.toInt) rfl (b := 0) (by decide) c14447
            refine lv_iconst (v := 0) hx hb dX12_best_51 (by decide) ?_
            refine lv_istore_n (lv' := [(3, .int 0), (0, .ref (g 0)), (1, .int p0), (2, .int p1)]) hx hb dX12_best_52 rfl hl (by decide) rfl (fun ls hl => ?_)
            refine lv_iconst (v := 0) hx hb dX12_best_53 (by decide) ?_
            refine lv_istore (lv' := [(4, .int 0), (3, .int 0), (0, .ref (g 0)), (1, .int p0), (2, .int p1)]) hx hb dX12_best_54 hl (by decide) rfl (fun ls hl => ?_)
            refine lv_iconst (v := 0) hx hb dX12_best_56 (by decide) ?_
            refine lv_istore (lv' := [(5, .int 0), (4, .int 0), (3, .int 0), (0, .ref (g 0)), (1, .int p0), (2, .int p1)]) hx hb dX12_best_57 hl (by decide) rfl (fun ls hl => ?_)
            have lp14449 : ∀ (n : Nat) (x5_lp14449 : Int32) (x4_lp14449 : Int32) (x3_lp14449 : Int32) (v_lp14449 : Nat → Int32) (F_lp14449 : Nat → Nat → Int32) (H : Heap) (locs : List Loc) (ls : Array Slot), (0 ≤ x5_lp14449.toInt) → (0 ≤ x3_lp14449.toInt) → (x3_lp14449.toInt ≤ 8) → (2147483648 - x5_lp14449.toInt ≤ (n : Int)) → (∀ k, k ∉ ([] : List Nat) → v_lp14449 k = v k) → IM v_lp14449 F_lp14449 → (∀ k, k ∉ ([30, 31, 42, 43] : List Nat) → F_lp14449 k = F k) → va_P (dC, dI) classes (wM g c v_lp14449 F_lp14449 rc) H → va_S (AM g s.heap.size) s.heap H locs → lv_has ls 12 [(5, .int x5_lp14449), (4, .int x4_lp14449), (3, .int x3_lp14449), (0, .ref (g 0)), (1, .int p0), (2, .int p1)] → W p l e (headSpec (Cond.code yX12_best cX12_best 12 (some .int) :: wA) ({ frames := 8, cells := 0, slots := 0, locals := 320 })).room s m ([.ref (g 0), .int p0, .int p1] : List Value).toArray below meth c0 H locs 0 0 (MQ below (va_Qi (fun (r : Int32) (u : StM) => IM u.1 u.2.1 ∧ u.2.2 = rc ∧ (∀ k, k ∉ ([57, 58] : List Nat) → u.1 k = v k) ∧ (∀ k, k ∉ ([30, 31, 42, 43] : List Nat) → u.2.1 k = F k) ∧ True) (BM dC dI g c) (AM g s.heap.size)) ([.ref (g 0), .int p0, .int p1] : List Value).toArray s 0 0 (AM g s.heap.size)) (F0 m 59 ls []) := by
              intro n
              induction n with
              | zero =>
                intro x5_lp14449 x4_lp14449 x3_lp14449 v_lp14449 F_lp14449 H locs ls t14450 t14451 t14452 hm hf_lp14449 hI hF hP hS hl
                exfalso
                have := i32_rng x5_lp14449
                have := i32_rng x4_lp14449
                have := i32_rng x3_lp14449
                have hI1 := hI.1
                omega
              | succ n ih_lp14449 =>
                intro x5_lp14449 x4_lp14449 x3_lp14449 v_lp14449 F_lp14449 H locs ls t14450 t14451 t14452 hm hf_lp14449 hI hF hP hS hl
                have rx5_lp14449 := i32_rng x5_lp14449
                have rx4_lp14449 := i32_rng x4_lp14449
                have rx3_lp14449 := i32_rng x3_lp14449
                refine lv_iload hx hb dX12_best_59 (lv_at hl 0 rfl) ?_
                refine lv_aload_n hx hb dX12_best_61 rfl (lv_at hl 3 rfl) ?_
                refine va_get (D := (dC, dI)) (ci := 12) (v := .int (v_lp14449 14)) (C := RX12) (T := TX12) (N := 63) hx hb hwd inA_X12 hown hK hP 0 rfl rfl 14 (by decide) (hwd _ wk_318) (fun _ h9 => h9) rfl dX12_best_62 ?_
                refine my_top (v := v 14) (hf_lp14449 14 (by decide)) ?_
                have t14453 : 0 ≤ (v 14).toInt ∧ (v 14).toInt ≤ 100 := by have h9 := hI.1 14 _ _ rfl; rw [show v_lp14449 14 = v 14 from hf_lp14449 14 (by decide)] at h9; exact h9
                refine lv_icmp_ge (tgt := 154) hx hb dX12_best_65 (by decide) (fun c14454 => ?_) (fun c14454 => ?_)
                · skip
                  have t14455 := cv_le (a := (v 14).toInt) rfl (b := x5_lp14449.toInt) rfl c14454
                  refine lv_aload_n hx hb dX12_best_154 rfl (lv_at hl 3 rfl) ?_
                  refine va_get (D := (dC, dI)) (ci := 12) (v := .ref (g 9)) (C := RX12) (T := TX12) (N := 63) hx hb hwd inA_X12 hown hK hP 0 rfl rfl 12 (by decide) (hwd _ wk_190) (fun _ h9 => h9) rfl dX12_best_155 ?_
                  refine lv_bipush (v := 10) hx hb dX12_best_158 (by decide) ?_
                  refine lv_iload_n hx hb dX12_best_160 rfl (lv_at hl 4 rfl) ?_
                  refine lv_imul hx hb dX12_best_161 ?_
                  refine lv_topi (fun z14456 e14457 => ?_)
                  try (have t14458 := tmul e14457 (a := 10) (by decide) (b := p0.toInt) rfl (by omega))
                  refine lv_iload_n hx hb dX12_best_162 rfl (lv_at hl 5 rfl) ?_
                  refine lv_iadd hx hb dX12_best_163 ?_
                  refine lv_topi (fun z14459 e14460 => ?_)
                  try (have t14461 := tadd e14460 (a := z14456.toInt) rfl (b := p1.toInt) rfl (by omega))
                  refine va_iald hx hb hK hP 9 8 rfl rfl (i := z14459) (vin (a := z14459.toInt) rfl (by omega)) dX12_best_164 ?_
                  refine lv_topi (fun z14462 e14463 => ?_)
                  have e14463 : z14462 = F 9 (z14459 : Int32).toNatClampNeg := e14463.trans (congrFun (hF 9 (by decide)) _)
                  refine lv_iload_n hx hb dX12_best_165 rfl (lv_at hl 2 rfl) ?_
                  refine lv_icmp_ge (tgt := 183) hx hb dX12_best_166 (by decide) (fun c14464 => ?_) (fun c14464 => ?_)
                  · skip
                    have t14465 := cv_le (a := x3_lp14449.toInt) rfl (b := z14462.toInt) rfl c14464
                    refine lv_iload_n hx hb dX12_best_183 rfl (lv_at hl 2 rfl) ?_
                    refine lv_istore (lv' := [(5, .int x3_lp14449), (4, .int x4_lp14449), (3, .int x3_lp14449), (0, .ref (g 0)), (1, .int p0), (2, .int p1)]) hx hb dX12_best_184 hl (by decide) rfl (fun ls hl => ?_)
                    refine lv_aload_n hx hb dX12_best_186 rfl (lv_at hl 3 rfl) ?_
                    refine lv_iload_n hx hb dX12_best_187 rfl (lv_at hl 4 rfl) ?_
                    have t14466 : 0 ≤ (v 14).toInt ∧ (v 14).toInt ≤ 100 := by have h9 := hI.1 14 _ _ rfl; rw [show v_lp14449 14 = v 14 from hf_lp14449 14 (by decide)] at h9; exact h9
                    refine va_callv (va_runV (As := [.int p0]) (rest := []) ⟨hx, hb, hml, hown, hwd⟩ (c_X12_board l dC dI g c adK adV v_lp14449 F_lp14449 rc H.size p0 hg hI ) (cwV 1 hwd (gV wk_1205 wk_1202 wk_1203 wk_1204 wk_5) rfl rfl rfl (by decide +kernel) ⟨Nat.le_of_ble_eq_true rfl, Nat.le_of_ble_eq_true rfl⟩) ⟨PM.blind, va_recv hK hP (ci := 12) (q0 := 0) rfl rfl, fun U hU hW => ⟨rfl, PM.at hK hE hP hS hU hW⟩⟩ rfl rfl hl.1 rfl (lv_room (Nat.le_of_ble_eq_true rfl)) dX12_best_188 ⟨Nat.le_of_ble_eq_true rfl, Nat.le_of_ble_eq_true rfl⟩) hS (fun q _ h => (freeM hS) q h) (freeM hS) (fun u t H1 locs ht hvm hw hB hz1 hk1 hS => ?_)
                    unfold BM at hB
                    rw [ht] at hB
                    obtain ⟨v14468, F14469, rc9⟩ := u
                    obtain ⟨hI, hrc, hf14470, hG14471, hw⟩ := hw
                    dsimp only at hI hrc hB hf14470 hG14471 hw
                    have hF := frCF (by decide) hG14471 hF
                    rw [hrc] at hB
                    have hP : va_P (dC, dI) classes (wM g c v14468 F14469 rc) H1 := hB
                    replace hw : ∀ j : Nat, (j : Int) < (v_lp14449 14).toInt → (F14469 42 j).toInt ≠ 0 → (F_lp14449 13 j).toInt = p0.toInt := hw
                    rw [show v_lp14449 14 = v 14 from hf_lp14449 14 (by decide)] at hw
                    have hw_r14467 := hw
                    clear hw
                    clear hz1
                    generalize H1 = H at hP hS ⊢
                    refine lv_iconst (v := (-1)) hx hb dX12_best_191 (by decide) ?_
                    refine lv_istore (lv' := [(6, .int (-1)), (5, .int x3_lp14449), (4, .int x4_lp14449), (3, .int x3_lp14449), (0, .ref (g 0)), (1, .int p0), (2, .int p1)]) hx hb dX12_best_192 hl (by decide) rfl (fun ls hl => ?_)
                    refine lv_iconst (v := 0) hx hb dX12_best_194 (by decide) ?_
                    refine lv_istore (lv' := [(7, .int 0), (6, .int (-1)), (5, .int x3_lp14449), (4, .int x4_lp14449), (3, .int x3_lp14449), (0, .ref (g 0)), (1, .int p0), (2, .int p1)]) hx hb dX12_best_195 hl (by decide) rfl (fun ls hl => ?_)
                    refine lv_iconst (v := 0) hx hb dX12_best_197 (by decide) ?_
                    refine lv_istore (lv' := [(8, .int 0), (7, .int 0), (6, .int (-1)), (5, .int x3_lp14449), (4, .int x4_lp14449), (3, .int x3_lp14449), (0, .ref (g 0)), (1, .int p0), (2, .int p1)]) hx hb dX12_best_198 hl (by decide) rfl (fun ls hl => ?_)
                    have lp14472 : ∀ (n : Nat) (x8_lp14472 : Int32) (x7_lp14472 : Int32) (x6_lp14472 : Int32) (v_lp14472 : Nat → Int32) (F_lp14472 : Nat → Nat → Int32) (H : Heap) (locs : List Loc) (ls : Array Slot), (0 ≤ x8_lp14472.toInt) → (2147483648 - x8_lp14472.toInt ≤ (n : Int)) → (∀ k, k ∉ ([] : List Nat) → v_lp14472 k = v14468 k) → IM v_lp14472 F_lp14472 → (∀ k, k ∉ ([30, 31, 42, 43] : List Nat) → F_lp14472 k = F k) → va_P (dC, dI) classes (wM g c v_lp14472 F_lp14472 rc) H → va_S (AM g s.heap.size) s.heap H locs → lv_has ls 12 [(8, .int x8_lp14472), (7, .int x7_lp14472), (6, .int x6_lp14472), (5, .int x3_lp14449), (4, .int x4_lp14449), (3, .int x3_lp14449), (0, .ref (g 0)), (1, .int p0), (2, .int p1)] → W p l e (headSpec (Cond.code yX12_best cX12_best 12 (some .int) :: wA) ({ frames := 8, cells := 0, slots := 0, locals := 320 })).room s m ([.ref (g 0), .int p0, .int p1] : List Value).toArray below meth c0 H locs 0 0 (MQ below (va_Qi (fun (r : Int32) (u : StM) => IM u.1 u.2.1 ∧ u.2.2 = rc ∧ (∀ k, k ∉ ([57, 58] : List Nat) → u.1 k = v k) ∧ (∀ k, k ∉ ([30, 31, 42, 43] : List Nat) → u.2.1 k = F k) ∧ True) (BM dC dI g c) (AM g s.heap.size)) ([.ref (g 0), .int p0, .int p1] : List Value).toArray s 0 0 (AM g s.heap.size)) (F0 m 200 ls []) := by
                      intro n
                      induction n with
                      | zero =>
                        intro x8_lp14472 x7_lp14472 x6_lp14472 v_lp14472 F_lp14472 H locs ls t14473 hm hf_lp14472 hI hF hP hS hl
                        exfalso
                        have := i32_rng x8_lp14472
                        have := i32_rng x7_lp14472
                        have := i32_rng x6_lp14472
                        have hI1 := hI.1
                        omega
                      | succ n ih_lp14472 =>
                        intro x8_lp14472 x7_lp14472 x6_lp14472 v_lp14472 F_lp14472 H locs ls t14473 hm hf_lp14472 hI hF hP hS hl
                        have rx8_lp14472 := i32_rng x8_lp14472
                        have rx7_lp14472 := i32_rng x7_lp14472
                        have rx6_lp14472 := i32_rng x6_lp14472
                        refine lv_iload hx hb dX12_best_200 (lv_at hl 0 rfl) ?_
                        refine lv_iconst (v := 1) hx hb dX12_best_202 (by decide) ?_
                        refine lv_iload_n hx hb dX12_best_203 rfl (lv_at hl 5 rfl) ?_
                        refine lv_ishl hx hb dX12_best_204 ?_
                        refine lv_topi (fun z14474 e14475 => ?_)
                        have rr_z14474 := i32_rng z14474
                        refine lv_icmp_ge (tgt := 367) hx hb dX12_best_205 (by decide) (fun c14477 => ?_) (fun c14477 => ?_)
                        · skip
                          have t14478 := cv_le (a := z14474.toInt) rfl (b := x8_lp14472.toInt) rfl c14477
                          refine lv_aload_n hx hb dX12_best_367 rfl (lv_at hl 6 rfl) ?_
                          refine lv_iconst (v := 1) hx hb dX12_best_368 (by decide) ?_
                          refine va_put (D := (dC, dI)) (ci := 12) (v := .int 1) (ty := .boolean) (C := RX12) (T := TX12) (N := 63) (fs := fsM_0 g v_lp14472 rc) hx hb hwd inA_X12 tyX12 tyX12_ok nmX12 hown hK hP (DM hg) hS 0 rfl rfl 57 (by decide) (hwd _ wk_1304) (fun _ h9 => h9) rfl (by decide +kernel) rfl rfl (Nat.le_of_ble_eq_true rfl) dX12_best_369 (fun H locs hP _ hS => ?_)
                          have hP := va_P_eq (pM_57 g c _ _ _ _) hP
                          have hI := IM.put0 hI 57 1 rfl
                          refine lv_aload_n hx hb dX12_best_372 rfl (lv_at hl 6 rfl) ?_
                          refine lv_iload hx hb dX12_best_373 (lv_at hl 1 rfl) ?_
                          refine va_put (D := (dC, dI)) (ci := 12) (v := .int x7_lp14472) (ty := .int) (C := RX12) (T := TX12) (N := 63) (fs := fsM_0 g (va_up v_lp14472 57 1) rc) hx hb hwd inA_X12 tyX12 tyX12_ok nmX12 hown hK hP (DM hg) hS 0 rfl rfl 58 (by decide) (hwd _ wk_1305) (fun _ h9 => h9) rfl (by decide +kernel) rfl rfl (Nat.le_of_ble_eq_true rfl) dX12_best_375 (fun H locs hP _ hS => ?_)
                          have hP := va_P_eq (pM_58 g c _ _ _ _) hP
                          have hI := IM.put0 hI 58 x7_lp14472 rfl
                          refine lv_iload hx hb dX12_best_378 (lv_at hl 2 rfl) ?_
                          have hP9 : va_P (dC, dI) classes (wM g c (va_up (va_up v_lp14472 57 1) 58 x7_lp14472) F_lp14472 rc) H := hP
                          exact W.iret (v := x6_lp14472) hx hb hr (fun t ht hW => ⟨⟨x6_lp14472, ((va_up (va_up v_lp14472 57 1) 58 x7_lp14472), F_lp14472, rc), rfl, ⟨hI, rfl, (frU (by decide) (frU (by decide) (frC (by decide) hf_lp14472 (frC (by decide) hf14470 (frC (by decide) hf_lp14449 (fun _ _ => rfl)))))), hF, trivial⟩, (by show va_P _ _ _ t.heap; rw [ht]; exact hP9)⟩, hS.F ht⟩) hS.2.2 dX12_best_380
                        · skip
                          have t14479 := cv_nle (a := z14474.toInt) rfl (b := x8_lp14472.toInt) rfl c14477
                          refine lv_iload hx hb dX12_best_208 (lv_at hl 0 rfl) ?_
                          refine va_calli (va_runS (As := [.int x8_lp14472]) (rest := []) ⟨hx, hb, hml, hown, hwd⟩ (c_X12_bitsOf l dC dI g c adK adV v_lp14472 F_lp14472 rc H.size x8_lp14472 hg hI ) (va_cwS 1 hwd (gT wk_1308 wk_1306 wk_1307 wk_5) rfl rfl rfl (by decide +kernel) ⟨Nat.le_of_ble_eq_true rfl, Nat.le_of_ble_eq_true rfl⟩) ⟨PM.blind, fun U hU hW => ⟨rfl, PM.at hK hE hP hS hU hW⟩⟩ rfl rfl hl.1 rfl (lv_room (Nat.le_of_ble_eq_true rfl)) dX12_best_210 ⟨Nat.le_of_ble_eq_true rfl, Nat.le_of_ble_eq_true rfl⟩) hS (fun q _ h => (freeM hS) q h) (freeM hS) (fun r14480 u t H1 locs ht hvm hw hB hz1 hk1 hS => ?_)
                          unfold BM at hB
                          rw [ht] at hB
                          have hP : va_P (dC, dI) classes (wM g c v_lp14472 F_lp14472 rc) H1 := hB
                          clear hz1
                          generalize H1 = H at hP hS ⊢
                          have rr_r14480 := i32_rng r14480
                          refine lv_iload hx hb dX12_best_213 (lv_at hl 3 rfl) ?_
                          refine lv_icmp_eq (tgt := 221) hx hb dX12_best_215 (by decide) (fun c14481 => ?_) (fun c14481 => ?_)
                          · skip
                            have t14482 := cv_eq (a := r14480.toInt) rfl (b := x3_lp14449.toInt) rfl c14481
                            refine lv_iconst (v := 0) hx hb dX12_best_221 (by decide) ?_
                            refine lv_istore (lv' := [(9, .int 0), (8, .int x8_lp14472), (7, .int x7_lp14472), (6, .int x6_lp14472), (5, .int x3_lp14449), (4, .int x4_lp14449), (3, .int x3_lp14449), (0, .ref (g 0)), (1, .int p0), (2, .int p1)]) hx hb dX12_best_222 hl (by decide) rfl (fun ls hl => ?_)
                            have lp14483 : ∀ (n : Nat) (x9_lp14483 : Int32) (v_lp14483 : Nat → Int32) (F_lp14483 : Nat → Nat → Int32) (H : Heap) (locs : List Loc) (ls : Array Slot), (0 ≤ x9_lp14483.toInt) → (2147483648 - x9_lp14483.toInt ≤ (n : Int)) → (∀ k, k ∉ ([] : List Nat) → v_lp14483 k = v_lp14472 k) → IM v_lp14483 F_lp14483 → (∀ k, k ∉ ([30, 31, 42, 43] : List Nat) → F_lp14483 k = F k) → va_P (dC, dI) classes (wM g c v_lp14483 F_lp14483 rc) H → va_S (AM g s.heap.size) s.heap H locs → lv_has ls 12 [(9, .int x9_lp14483), (8, .int x8_lp14472), (7, .int x7_lp14472), (6, .int x6_lp14472), (5, .int x3_lp14449), (4, .int x4_lp14449), (3, .int x3_lp14449), (0, .ref (g 0)), (1, .int p0), (2, .int p1)] → W p l e (headSpec (Cond.code yX12_best cX12_best 12 (some .int) :: wA) ({ frames := 8, cells := 0, slots := 0, locals := 320 })).room s m ([.ref (g 0), .int p0, .int p1] : List Value).toArray below meth c0 H locs 0 0 (MQ below (va_Qi (fun (r : Int32) (u : StM) => IM u.1 u.2.1 ∧ u.2.2 = rc ∧ (∀ k, k ∉ ([57, 58] : List Nat) → u.1 k = v k) ∧ (∀ k, k ∉ ([30, 31, 42, 43] : List Nat) → u.2.1 k = F k) ∧ True) (BM dC dI g c) (AM g s.heap.size)) ([.ref (g 0), .int p0, .int p1] : List Value).toArray s 0 0 (AM g s.heap.size)) (F0 m 224 ls []) := by
                              intro n
                              induction n with
                              | zero =>
                                intro x9_lp14483 v_lp14483 F_lp14483 H locs ls t14484 hm hf_lp14483 hI hF hP hS hl
                                exfalso
                                have := i32_rng x9_lp14483
                                have hI1 := hI.1
                                omega
                              | succ n ih_lp14483 =>
                                intro x9_lp14483 v_lp14483 F_lp14483 H locs ls t14484 hm hf_lp14483 hI hF hP hS hl
                                have rx9_lp14483 := i32_rng x9_lp14483
                                refine lv_iload hx hb dX12_best_224 (lv_at hl 0 rfl) ?_
                                refine lv_iload_n hx hb dX12_best_226 rfl (lv_at hl 6 rfl) ?_
                                refine lv_icmp_ge (tgt := 264) hx hb dX12_best_227 (by decide) (fun c14485 => ?_) (fun c14485 => ?_)
                                · skip
                                  have t14486 := cv_le (a := x3_lp14449.toInt) rfl (b := x9_lp14483.toInt) rfl c14485
                                  refine lv_aload_n hx hb dX12_best_264 rfl (lv_at hl 7 rfl) ?_
                                  refine lv_iload_n hx hb dX12_best_265 rfl (lv_at hl 8 rfl) ?_
                                  refine lv_aload_n hx hb dX12_best_266 rfl (lv_at hl 7 rfl) ?_
                                  refine va_get (D := (dC, dI)) (ci := 12) (v := .int (v_lp14483 1)) (C := RX12) (T := TX12) (N := 63) hx hb hwd inA_X12 hown hK hP 0 rfl rfl 1 (by decide) (hwd _ wk_332) (fun _ h9 => h9) rfl dX12_best_267 ?_
                                  refine my_top (v := v 1) ((hf_lp14483 1 (by decide)).trans ((hf_lp14472 1 (by decide)).trans ((hf14470 1 (by decide)).trans (hf_lp14449 1 (by decide))))) ?_
                                  have t14487 : 0 ≤ (v 1).toInt ∧ (v 1).toInt ≤ 9999 := by have h9 := hI.1 1 _ _ rfl; rw [show v_lp14483 1 = v 1 from (hf_lp14483 1 (by decide)).trans ((hf_lp14472 1 (by decide)).trans ((hf14470 1 (by decide)).trans (hf_lp14449 1 (by decide))))] at h9; exact h9
                                  refine lv_aload_n hx hb dX12_best_270 rfl (lv_at hl 7 rfl) ?_
                                  refine va_get (D := (dC, dI)) (ci := 12) (v := .int (v_lp14483 1)) (C := RX12) (T := TX12) (N := 63) hx hb hwd inA_X12 hown hK hP 0 rfl rfl 1 (by decide) (hwd _ wk_332) (fun _ h9 => h9) rfl dX12_best_271 ?_
                                  refine my_top (v := v 1) ((hf_lp14483 1 (by decide)).trans ((hf_lp14472 1 (by decide)).trans ((hf14470 1 (by decide)).trans (hf_lp14449 1 (by decide))))) ?_
                                  have t14488 : 0 ≤ (v 1).toInt ∧ (v 1).toInt ≤ 9999 := by have h9 := hI.1 1 _ _ rfl; rw [show v_lp14483 1 = v 1 from (hf_lp14483 1 (by decide)).trans ((hf_lp14472 1 (by decide)).trans ((hf14470 1 (by decide)).trans (hf_lp14449 1 (by decide))))] at h9; exact h9
                                  refine va_calli (va_runV (As := [.int p0, .int (v 1), .int (v 1)]) (rest := []) ⟨hx, hb, hml, hown, hwd⟩ (c_X12_costOfAll l dC dI g c adK adV v_lp14483 F_lp14483 rc H.size p0 (v 1) (v 1) hg hI (by omega) (JL.to hL (show v_lp14483 31 = v 31 from (hf_lp14483 31 (by decide)).trans ((hf_lp14472 31 (by decide)).trans ((hf14470 31 (by decide)).trans (hf_lp14449 31 (by decide))))) (hF 28 (by decide)) (hF 29 (by decide)) (hF 27 (by decide)))) (cwV 3 hwd (gV wk_1247 wk_1244 wk_1245 wk_1246 wk_5) rfl rfl rfl (by decide +kernel) ⟨Nat.le_of_ble_eq_true rfl, Nat.le_of_ble_eq_true rfl⟩) ⟨PM.blind, va_recv hK hP (ci := 12) (q0 := 0) rfl rfl, fun U hU hW => ⟨rfl, PM.at hK hE hP hS hU hW⟩⟩ rfl rfl hl.1 rfl (lv_room (Nat.le_of_ble_eq_true rfl)) dX12_best_274 ⟨Nat.le_of_ble_eq_true rfl, Nat.le_of_ble_eq_true rfl⟩) hS (fun q _ h => (freeM hS) q h) (freeM hS) (fun r14489 u t H1 locs ht hvm hw hB hz1 hk1 hS => ?_)
                                  unfold BM at hB
                                  rw [ht] at hB
                                  obtain ⟨v14490, F14491, rc9⟩ := u
                                  obtain ⟨hI, hrc, hf14492, hG14493, hw⟩ := hw
                                  dsimp only at hI hrc hB hf14492 hG14493 hw
                                  have hF := frCF (by decide) hG14493 hF
                                  rw [hrc] at hB
                                  have hP : va_P (dC, dI) classes (wM g c v14490 F14491 rc) H1 := hB
                                  clear hz1
                                  generalize H1 = H at hP hS ⊢
                                  have rr_r14489 := i32_rng r14489
                                  refine lv_istore (lv' := [(9, .int r14489), (8, .int x8_lp14472), (7, .int x7_lp14472), (6, .int x6_lp14472), (5, .int x3_lp14449), (4, .int x4_lp14449), (3, .int x3_lp14449), (0, .ref (g 0)), (1, .int p0), (2, .int p1)]) hx hb dX12_best_277 hl (by decide) rfl (fun ls hl => ?_)
                                  refine lv_iload hx hb dX12_best_279 (lv_at hl 3 rfl) ?_
                                  refine lv_if_lt (tgt := 353) hx hb dX12_best_281 (by decide) (fun c14494 => ?_) (fun c14494 => ?_)
                                  · skip
                                    have t14495 := cv_lt (a := x6_lp14472.toInt) rfl (b := 0) (by decide) c14494
                                    refine lv_iload hx hb dX12_best_353 (lv_at hl 1 rfl) ?_
                                    refine lv_istore (lv' := [(6, .int x8_lp14472), (9, .int r14489), (8, .int x8_lp14472), (7, .int x7_lp14472), (5, .int x3_lp14449), (4, .int x4_lp14449), (3, .int x3_lp14449), (0, .ref (g 0)), (1, .int p0), (2, .int p1)]) hx hb dX12_best_355 hl (by decide) rfl (fun ls hl => ?_)
                                    refine lv_iload hx hb dX12_best_357 (lv_at hl 1 rfl) ?_
                                    refine lv_istore (lv' := [(7, .int r14489), (6, .int x8_lp14472), (9, .int r14489), (8, .int x8_lp14472), (5, .int x3_lp14449), (4, .int x4_lp14449), (3, .int x3_lp14449), (0, .ref (g 0)), (1, .int p0), (2, .int p1)]) hx hb dX12_best_359 hl (by decide) rfl (fun ls hl => ?_)
                                    obtain ⟨z14496, e14497⟩ : ∃ y : Int32, y = x8_lp14472 + 1 := ⟨_, rfl⟩
                                    try (have t14498 := tadd e14497 rfl (b := 1) (by decide) (by omega))
                                    refine lv_iinc (v := z14496) (lv' := [(8, .int z14496), (7, .int r14489), (6, .int x8_lp14472), (9, .int r14489), (5, .int x3_lp14449), (4, .int x4_lp14449), (3, .int x3_lp14449), (0, .ref (g 0)), (1, .int p0), (2, .int p1)]) hx hb dX12_best_361 hl (k := 3) rfl (by rw [e14497]; rfl) (by decide) rfl (fun ls hl => ?_)
                                    refine lv_goto (tgt := 200) hx hb dX12_best_364 (by decide) ?_
                                    exact ih_lp14472 z14496 r14489 x8_lp14472 v14490 F14491 _ _ _ (by omega) (by omega) (frC (by decide) hf14492 (frC (by decide) hf_lp14483 hf_lp14472)) hI hF hP hS (lv_sub hl [0, 1, 2, 4, 5, 6, 7, 8, 9] rfl)
                                  · skip
                                    have t14499 := cv_nlt (a := x6_lp14472.toInt) rfl (b := 0) (by decide) c14494
                                    refine lv_iload hx hb dX12_best_284 (lv_at hl 1 rfl) ?_
                                    refine lv_iload hx hb dX12_best_286 (lv_at hl 5 rfl) ?_
                                    refine lv_iconst (v := (-1)) hx hb dX12_best_288 (by decide) ?_
                                    refine lv_ixor hx hb dX12_best_289 ?_
                                    refine lv_topi (fun z14500 e14501 => ?_)
                                    refine lv_iand hx hb dX12_best_290 ?_
                                    refine lv_topi (fun z14503 e14504 => ?_)
                                    refine va_calli (va_runS (As := [.int z14503]) (rest := []) ⟨hx, hb, hml, hown, hwd⟩ (c_X12_bitsOf l dC dI g c adK adV v14490 F14491 rc H.size z14503 hg hI ) (va_cwS 1 hwd (gT wk_1308 wk_1306 wk_1307 wk_5) rfl rfl rfl (by decide +kernel) ⟨Nat.le_of_ble_eq_true rfl, Nat.le_of_ble_eq_true rfl⟩) ⟨PM.blind, fun U hU hW => ⟨rfl, PM.at hK hE hP hS hU hW⟩⟩ rfl rfl hl.1 rfl (lv_room (Nat.le_of_ble_eq_true rfl)) dX12_best_291 ⟨Nat.le_of_ble_eq_true rfl, Nat.le_of_ble_eq_true rfl⟩) hS (fun q _ h => (freeM hS) q h) (freeM hS) (fun r14506 u t H1 locs ht hvm hw hB hz1 hk1 hS => ?_)
                                    unfold BM at hB
                                    rw [ht] at hB
                                    have hP : va_P (dC, dI) classes (wM g c v14490 F14491 rc) H1 := hB
                                    clear hz1
                                    generalize H1 = H at hP hS ⊢
                                    have rr_r14506 := i32_rng r14506
                                    refine lv_iload hx hb dX12_best_294 (lv_at hl 3 rfl) ?_
                                    refine lv_iload hx hb dX12_best_296 (lv_at hl 5 rfl) ?_
                                    refine lv_iconst (v := (-1)) hx hb dX12_best_298 (by decide) ?_
                                    refine lv_ixor hx hb dX12_best_299 ?_
                                    refine lv_topi (fun z14507 e14508 => ?_)
                                    refine lv_iand hx hb dX12_best_300 ?_
                                    refine lv_topi (fun z14510 e14511 => ?_)
                                    refine va_calli (va_runS (As := [.int z14510]) (rest := [.int r14506]) ⟨hx, hb, hml, hown, hwd⟩ (c_X12_bitsOf l dC dI g c adK adV v14490 F14491 rc H.size z14510 hg hI ) (va_cwS 1 hwd (gT wk_1308 wk_1306 wk_1307 wk_5) rfl rfl rfl (by decide +kernel) ⟨Nat.le_of_ble_eq_true rfl, Nat.le_of_ble_eq_true rfl⟩) ⟨PM.blind, fun U hU hW => ⟨rfl, PM.at hK hE hP hS hU hW⟩⟩ rfl rfl hl.1 rfl (lv_room (Nat.le_of_ble_eq_true rfl)) dX12_best_301 ⟨Nat.le_of_ble_eq_true rfl, Nat.le_of_ble_eq_true rfl⟩) hS (fun q _ h => (freeM hS) q h) (freeM hS) (fun r14513 u t H1 locs ht hvm hw hB hz1 hk1 hS => ?_)
                                    unfold BM at hB
                                    rw [ht] at hB
                                    have hP : va_P (dC, dI) classes (wM g c v14490 F14491 rc) H1 := hB
                                    clear hz1
                                    generalize H1 = H at hP hS ⊢
                                    have rr_r14513 := i32_rng r14513
                                    refine lv_isub hx hb dX12_best_304 ?_
                                    refine lv_topi (fun z14514 e14515 => ?_)
                                    try (have t14516 := tsub e14515 (a := r14506.toInt) rfl (b := r14513.toInt) rfl (by omega))
                                    refine lv_istore (lv' := [(10, .int z14514), (9, .int r14489), (8, .int x8_lp14472), (7, .int x7_lp14472), (6, .int x6_lp14472), (5, .int x3_lp14449), (4, .int x4_lp14449), (3, .int x3_lp14449), (0, .ref (g 0)), (1, .int p0), (2, .int p1)]) hx hb dX12_best_305 hl (by decide) rfl (fun ls hl => ?_)
                                    refine lv_iload hx hb dX12_best_307 (lv_at hl 2 rfl) ?_
                                    refine lv_iload hx hb dX12_best_309 (lv_at hl 4 rfl) ?_
                                    refine lv_ixor hx hb dX12_best_311 ?_
                                    refine lv_topi (fun z14517 e14518 => ?_)
                                    refine lv_istore (lv' := [(11, .int z14517), (10, .int z14514), (9, .int r14489), (8, .int x8_lp14472), (7, .int x7_lp14472), (6, .int x6_lp14472), (5, .int x3_lp14449), (4, .int x4_lp14449), (3, .int x3_lp14449), (0, .ref (g 0)), (1, .int p0), (2, .int p1)]) hx hb dX12_best_312 hl (by decide) rfl (fun ls hl => ?_)
                                    refine lv_iload hx hb dX12_best_314 (lv_at hl 2 rfl) ?_
                                    refine lv_iload hx hb dX12_best_316 (lv_at hl 4 rfl) ?_
                                    refine lv_icmp_gt (tgt := 361) hx hb dX12_best_318 (by decide) (fun c14520 => ?_) (fun c14520 => ?_)
                                    · skip
                                      have t14521 := cv_lt (a := x7_lp14472.toInt) rfl (b := r14489.toInt) rfl c14520
                                      obtain ⟨z14522, e14523⟩ : ∃ y : Int32, y = x8_lp14472 + 1 := ⟨_, rfl⟩
                                      try (have t14524 := tadd e14523 rfl (b := 1) (by decide) (by omega))
                                      refine lv_iinc (v := z14522) (lv' := [(8, .int z14522), (11, .int z14517), (10, .int z14514), (9, .int r14489), (7, .int x7_lp14472), (6, .int x6_lp14472), (5, .int x3_lp14449), (4, .int x4_lp14449), (3, .int x3_lp14449), (0, .ref (g 0)), (1, .int p0), (2, .int p1)]) hx hb dX12_best_361 hl (k := 3) rfl (by rw [e14523]; rfl) (by decide) rfl (fun ls hl => ?_)
                                      refine lv_goto (tgt := 200) hx hb dX12_best_364 (by decide) ?_
                                      exact ih_lp14472 z14522 x7_lp14472 x6_lp14472 v14490 F14491 _ _ _ (by omega) (by omega) (frC (by decide) hf14492 (frC (by decide) hf_lp14483 hf_lp14472)) hI hF hP hS (lv_sub hl [0, 4, 5, 6, 7, 8, 9, 10, 11] rfl)
                                    · skip
                                      have t14525 := cv_nlt (a := x7_lp14472.toInt) rfl (b := r14489.toInt) rfl c14520
                                      refine lv_iload hx hb dX12_best_321 (lv_at hl 2 rfl) ?_
                                      refine lv_iload hx hb dX12_best_323 (lv_at hl 4 rfl) ?_
                                      refine lv_icmp_ne (tgt := 353) hx hb dX12_best_325 (by decide) (fun c14526 => ?_) (fun c14526 => ?_)
                                      · skip
                                        have t14527 := cv_ne (a := r14489.toInt) rfl (b := x7_lp14472.toInt) rfl c14526
                                        refine lv_iload hx hb dX12_best_353 (lv_at hl 3 rfl) ?_
                                        refine lv_istore (lv' := [(6, .int x8_lp14472), (11, .int z14517), (10, .int z14514), (9, .int r14489), (8, .int x8_lp14472), (7, .int x7_lp14472), (5, .int x3_lp14449), (4, .int x4_lp14449), (3, .int x3_lp14449), (0, .ref (g 0)), (1, .int p0), (2, .int p1)]) hx hb dX12_best_355 hl (by decide) rfl (fun ls hl => ?_)
                                        refine lv_iload hx hb dX12_best_357 (lv_at hl 3 rfl) ?_
                                        refine lv_istore (lv' := [(7, .int r14489), (6, .int x8_lp14472), (11, .int z14517), (10, .int z14514), (9, .int r14489), (8, .int x8_lp14472), (5, .int x3_lp14449), (4, .int x4_lp14449), (3, .int x3_lp14449), (0, .ref (g 0)), (1, .int p0), (2, .int p1)]) hx hb dX12_best_359 hl (by decide) rfl (fun ls hl => ?_)
                                        obtain ⟨z14528, e14529⟩ : ∃ y : Int32, y = x8_lp14472 + 1 := ⟨_, rfl⟩
                                        try (have t14530 := tadd e14529 rfl (b := 1) (by decide) (by omega))
                                        refine lv_iinc (v := z14528) (lv' := [(8, .int z14528), (7, .int r14489), (6, .int x8_lp14472), (11, .int z14517), (10, .int z14514), (9, .int r14489), (5, .int x3_lp14449), (4, .int x4_lp14449), (3, .int x3_lp14449), (0, .ref (g 0)), (1, .int p0), (2, .int p1)]) hx hb dX12_best_361 hl (k := 5) rfl (by rw [e14529]; rfl) (by decide) rfl (fun ls hl => ?_)
                                        refine lv_goto (tgt := 200) hx hb dX12_best_364 (by decide) ?_
                                        exact ih_lp14472 z14528 r14489 x8_lp14472 v14490 F14491 _ _ _ (by omega) (by omega) (frC (by decide) hf14492 (frC (by decide) hf_lp14483 hf_lp14472)) hI hF hP hS (lv_sub hl [0, 1, 2, 6, 7, 8, 9, 10, 11] rfl)
                                      · skip
                                        have t14531 := cv_eq (a := r14489.toInt) rfl (b := x7_lp14472.toInt) rfl c14526
                                        refine lv_iload hx hb dX12_best_328 (lv_at hl 1 rfl) ?_
                                        refine lv_if_gt (tgt := 361) hx hb dX12_best_330 (by decide) (fun c14532 => ?_) (fun c14532 => ?_)
                                        · skip
                                          have t14533 := cv_lt (a := 0) (by decide) (b := z14514.toInt) rfl c14532
                                          obtain ⟨z14534, e14535⟩ : ∃ y : Int32, y = x8_lp14472 + 1 := ⟨_, rfl⟩
                                          try (have t14536 := tadd e14535 rfl (b := 1) (by decide) (by omega))
                                          refine lv_iinc (v := z14534) (lv' := [(8, .int z14534), (11, .int z14517), (10, .int z14514), (9, .int r14489), (7, .int x7_lp14472), (6, .int x6_lp14472), (5, .int x3_lp14449), (4, .int x4_lp14449), (3, .int x3_lp14449), (0, .ref (g 0)), (1, .int p0), (2, .int p1)]) hx hb dX12_best_361 hl (k := 3) rfl (by rw [e14535]; rfl) (by decide) rfl (fun ls hl => ?_)
                                          refine lv_goto (tgt := 200) hx hb dX12_best_364 (by decide) ?_
                                          exact ih_lp14472 z14534 x7_lp14472 x6_lp14472 v14490 F14491 _ _ _ (by omega) (by omega) (frC (by decide) hf14492 (frC (by decide) hf_lp14483 hf_lp14472)) hI hF hP hS (lv_sub hl [0, 4, 5, 6, 7, 8, 9, 10, 11] rfl)
                                        · skip
                                          have t14537 := cv_nlt (a := 0) (by decide) (b := z14514.toInt) rfl c14532
                                          refine lv_iload hx hb dX12_best_333 (lv_at hl 1 rfl) ?_
                                          refine lv_if_ne (tgt := 353) hx hb dX12_best_335 (by decide) (fun c14538 => ?_) (fun c14538 => ?_)
                                          · skip
                                            have t14539 := cv_ne (a := z14514.toInt) rfl (b := 0) (by decide) c14538
                                            refine lv_iload hx hb dX12_best_353 (lv_at hl 3 rfl) ?_
                                            refine lv_istore (lv' := [(6, .int x8_lp14472), (11, .int z14517), (10, .int z14514), (9, .int r14489), (8, .int x8_lp14472), (7, .int x7_lp14472), (5, .int x3_lp14449), (4, .int x4_lp14449), (3, .int x3_lp14449), (0, .ref (g 0)), (1, .int p0), (2, .int p1)]) hx hb dX12_best_355 hl (by decide) rfl (fun ls hl => ?_)
                                            refine lv_iload hx hb dX12_best_357 (lv_at hl 3 rfl) ?_
                                            refine lv_istore (lv' := [(7, .int r14489), (6, .int x8_lp14472), (11, .int z14517), (10, .int z14514), (9, .int r14489), (8, .int x8_lp14472), (5, .int x3_lp14449), (4, .int x4_lp14449), (3, .int x3_lp14449), (0, .ref (g 0)), (1, .int p0), (2, .int p1)]) hx hb dX12_best_359 hl (by decide) rfl (fun ls hl => ?_)
                                            obtain ⟨z14540, e14541⟩ : ∃ y : Int32, y = x8_lp14472 + 1 := ⟨_, rfl⟩
                                            try (have t14542 := tadd e14541 rfl (b := 1) (by decide) (by omega))
                                            refine lv_iinc (v := z14540) (lv' := [(8, .int z14540), (7, .int r14489), (6, .int x8_lp14472), (11, .int z14517), (10, .int z14514), (9, .int r14489), (5, .int x3_lp14449), (4, .int x4_lp14449), (3, .int x3_lp14449), (0, .ref (g 0)), (1, .int p0), (2, .int p1)]) hx hb dX12_best_361 hl (k := 5) rfl (by rw [e14541]; rfl) (by decide) rfl (fun ls hl => ?_)
                                            refine lv_goto (tgt := 200) hx hb dX12_best_364 (by decide) ?_
                                            exact ih_lp14472 z14540 r14489 x8_lp14472 v14490 F14491 _ _ _ (by omega) (by omega) (frC (by decide) hf14492 (frC (by decide) hf_lp14483 hf_lp14472)) hI hF hP hS (lv_sub hl [0, 1, 2, 6, 7, 8, 9, 10, 11] rfl)
                                          · skip
                                            have t14543 := cv_eq (a := z14514.toInt) rfl (b := 0) (by decide) c14538
                                            refine lv_iload hx hb dX12_best_338 (lv_at hl 3 rfl) ?_
                                            refine lv_iload hx hb dX12_best_340 (lv_at hl 0 rfl) ?_
                                            refine lv_iand hx hb dX12_best_342 ?_
                                            refine lv_topi (fun z14544 e14545 => ?_)
                                            refine lv_iload hx hb dX12_best_343 (lv_at hl 0 rfl) ?_
                                            refine lv_ineg hx hb dX12_best_345 ?_
                                            refine lv_topi (fun z14547 e14548 => ?_)
                                            refine lv_iand hx hb dX12_best_346 ?_
                                            refine lv_topi (fun z14549 e14550 => ?_)
                                            refine lv_if_ne (tgt := 353) hx hb dX12_best_347 (by decide) (fun c14552 => ?_) (fun c14552 => ?_)
                                            · skip
                                              have t14553 := cv_ne (a := z14549.toInt) rfl (b := 0) (by decide) c14552
                                              refine lv_iload hx hb dX12_best_353 (lv_at hl 3 rfl) ?_
                                              refine lv_istore (lv' := [(6, .int x8_lp14472), (11, .int z14517), (10, .int z14514), (9, .int r14489), (8, .int x8_lp14472), (7, .int x7_lp14472), (5, .int x3_lp14449), (4, .int x4_lp14449), (3, .int x3_lp14449), (0, .ref (g 0)), (1, .int p0), (2, .int p1)]) hx hb dX12_best_355 hl (by decide) rfl (fun ls hl => ?_)
                                              refine lv_iload hx hb dX12_best_357 (lv_at hl 3 rfl) ?_
                                              refine lv_istore (lv' := [(7, .int r14489), (6, .int x8_lp14472), (11, .int z14517), (10, .int z14514), (9, .int r14489), (8, .int x8_lp14472), (5, .int x3_lp14449), (4, .int x4_lp14449), (3, .int x3_lp14449), (0, .ref (g 0)), (1, .int p0), (2, .int p1)]) hx hb dX12_best_359 hl (by decide) rfl (fun ls hl => ?_)
                                              obtain ⟨z14554, e14555⟩ : ∃ y : Int32, y = x8_lp14472 + 1 := ⟨_, rfl⟩
                                              try (have t14556 := tadd e14555 rfl (b := 1) (by decide) (by omega))
                                              refine lv_iinc (v := z14554) (lv' := [(8, .int z14554), (7, .int r14489), (6, .int x8_lp14472), (11, .int z14517), (10, .int z14514), (9, .int r14489), (5, .int x3_lp14449), (4, .int x4_lp14449), (3, .int x3_lp14449), (0, .ref (g 0)), (1, .int p0), (2, .int p1)]) hx hb dX12_best_361 hl (k := 5) rfl (by rw [e14555]; rfl) (by decide) rfl (fun ls hl => ?_)
                                              refine lv_goto (tgt := 200) hx hb dX12_best_364 (by decide) ?_
                                              exact ih_lp14472 z14554 r14489 x8_lp14472 v14490 F14491 _ _ _ (by omega) (by omega) (frC (by decide) hf14492 (frC (by decide) hf_lp14483 hf_lp14472)) hI hF hP hS (lv_sub hl [0, 1, 2, 6, 7, 8, 9, 10, 11] rfl)
                                            · skip
                                              have t14557 := cv_eq (a := z14549.toInt) rfl (b := 0) (by decide) c14552
                                              refine lv_goto (tgt := 361) hx hb dX12_best_350 (by decide) ?_
                                              obtain ⟨z14558, e14559⟩ : ∃ y : Int32, y = x8_lp14472 + 1 := ⟨_, rfl⟩
                                              try (have t14560 := tadd e14559 rfl (b := 1) (by decide) (by omega))
                                              refine lv_iinc (v := z14558) (lv' := [(8, .int z14558), (11, .int z14517), (10, .int z14514), (9, .int r14489), (7, .int x7_lp14472), (6, .int x6_lp14472), (5, .int x3_lp14449), (4, .int x4_lp14449), (3, .int x3_lp14449), (0, .ref (g 0)), (1, .int p0), (2, .int p1)]) hx hb dX12_best_361 hl (k := 3) rfl (by rw [e14559]; rfl) (by decide) rfl (fun ls hl => ?_)
                                              refine lv_goto (tgt := 200) hx hb dX12_best_364 (by decide) ?_
                                              exact ih_lp14472 z14558 x7_lp14472 x6_lp14472 v14490 F14491 _ _ _ (by omega) (by omega) (frC (by decide) hf14492 (frC (by decide) hf_lp14483 hf_lp14472)) hI hF hP hS (lv_sub hl [0, 4, 5, 6, 7, 8, 9, 10, 11] rfl)
                                · skip
                                  have t14561 := cv_nle (a := x3_lp14449.toInt) rfl (b := x9_lp14483.toInt) rfl c14485
                                  refine lv_aload_n hx hb dX12_best_230 rfl (lv_at hl 7 rfl) ?_
                                  refine va_get (D := (dC, dI)) (ci := 12) (v := .ref (g 42)) (C := RX12) (T := TX12) (N := 63) hx hb hwd inA_X12 hown hK hP 0 rfl rfl 56 (by decide) (hwd _ wk_224) (fun _ h9 => h9) rfl dX12_best_231 ?_
                                  refine lv_aload_n hx hb dX12_best_234 rfl (lv_at hl 7 rfl) ?_
                                  refine va_get (D := (dC, dI)) (ci := 12) (v := .ref (g 43)) (C := RX12) (T := TX12) (N := 63) hx hb hwd inA_X12 hown hK hP 0 rfl rfl 59 (by decide) (hwd _ wk_225) (fun _ h9 => h9) rfl dX12_best_235 ?_
                                  refine lv_iload hx hb dX12_best_238 (lv_at hl 0 rfl) ?_
                                  refine va_iald hx hb hK hP 43 42 rfl rfl (i := x9_lp14483) (vin (a := x9_lp14483.toInt) rfl (by omega)) dX12_best_240 ?_
                                  refine lv_topi (fun z14562 e14563 => ?_)
                                  have t14564 : 0 ≤ z14562.toInt ∧ z14562.toInt ≤ 99 := by rw [e14563]; exact hI.2 43 _ _ rfl _
                                  refine lv_iload hx hb dX12_best_241 (lv_at hl 1 rfl) ?_
                                  refine lv_iload hx hb dX12_best_243 (lv_at hl 0 rfl) ?_
                                  refine lv_ishr hx hb dX12_best_245 ?_
                                  refine lv_topi (fun z14565 e14566 => ?_)
                                  refine lv_iconst (v := 1) hx hb dX12_best_246 (by decide) ?_
                                  refine lv_iand hx hb dX12_best_247 ?_
                                  refine lv_topi (fun z14568 e14569 => ?_)
                                  refine lv_iconst (v := 1) hx hb dX12_best_248 (by decide) ?_
                                  refine lv_icmp_ne (tgt := 256) hx hb dX12_best_249 (by decide) (fun c14571 => ?_) (fun c14571 => ?_)
                                  · skip
                                    have t14572 := cv_ne (a := z14568.toInt) rfl (b := 1) (by decide) c14571
                                    refine lv_iconst (v := 0) hx hb dX12_best_256 (by decide) ?_
                                    refine va_zast hx hb hK hP (DM hg) hS 42 41 rfl rfl (i := z14562) (x := 0) (vin (a := z14562.toInt) rfl (by omega)) dX12_best_257 (fun H locs hP _ hS => ?_)
                                    have hP := va_P_eq (sM_42 g c _ _ _ _) hP
                                    have hI := IM.store0 hI 42 (z14562 : Int32).toNatClampNeg (vp_nar .boolean 0) rfl
                                    have hF := frUF (k := 42) (f := upd (F_lp14483 42) (z14562 : Int32).toNatClampNeg (vp_nar .boolean 0)) (by decide) hF
                                    have hP : va_P (dC, dI) classes (wM g c v_lp14483 (va_up F_lp14483 42 (upd (F_lp14483 42) (z14562 : Int32).toNatClampNeg (vp_nar .boolean 0))) rc) H := hP
                                    generalize (va_up F_lp14483 42 (upd (F_lp14483 42) (z14562 : Int32).toNatClampNeg (vp_nar .boolean 0))) = F14573 at hP hI hF
                                    obtain ⟨z14574, e14575⟩ : ∃ y : Int32, y = x9_lp14483 + 1 := ⟨_, rfl⟩
                                    try (have t14576 := tadd e14575 rfl (b := 1) (by decide) (by omega))
                                    refine lv_iinc (v := z14574) (lv' := [(9, .int z14574), (8, .int x8_lp14472), (7, .int x7_lp14472), (6, .int x6_lp14472), (5, .int x3_lp14449), (4, .int x4_lp14449), (3, .int x3_lp14449), (0, .ref (g 0)), (1, .int p0), (2, .int p1)]) hx hb dX12_best_258 hl (k := 0) rfl (by rw [e14575]; rfl) (by decide) rfl (fun ls hl => ?_)
                                    refine lv_goto (tgt := 224) hx hb dX12_best_261 (by decide) ?_
                                    exact ih_lp14483 z14574 v_lp14483 F14573 _ _ _ (by omega) (by omega) hf_lp14483 hI hF hP hS (lv_sub hl [0, 1, 2, 3, 4, 5, 6, 7, 8, 9] rfl)
                                  · skip
                                    have t14577 := cv_eq (a := z14568.toInt) rfl (b := 1) (by decide) c14571
                                    refine lv_iconst (v := 1) hx hb dX12_best_252 (by decide) ?_
                                    refine lv_goto (tgt := 257) hx hb dX12_best_253 (by decide) ?_
                                    refine va_zast hx hb hK hP (DM hg) hS 42 41 rfl rfl (i := z14562) (x := 1) (vin (a := z14562.toInt) rfl (by omega)) dX12_best_257 (fun H locs hP _ hS => ?_)
                                    have hP := va_P_eq (sM_42 g c _ _ _ _) hP
                                    have hI := IM.store0 hI 42 (z14562 : Int32).toNatClampNeg (vp_nar .boolean 1) rfl
                                    have hF := frUF (k := 42) (f := upd (F_lp14483 42) (z14562 : Int32).toNatClampNeg (vp_nar .boolean 1)) (by decide) hF
                                    have hP : va_P (dC, dI) classes (wM g c v_lp14483 (va_up F_lp14483 42 (upd (F_lp14483 42) (z14562 : Int32).toNatClampNeg (vp_nar .boolean 1))) rc) H := hP
                                    generalize (va_up F_lp14483 42 (upd (F_lp14483 42) (z14562 : Int32).toNatClampNeg (vp_nar .boolean 1))) = F14578 at hP hI hF
                                    obtain ⟨z14579, e14580⟩ : ∃ y : Int32, y = x9_lp14483 + 1 := ⟨_, rfl⟩
                                    try (have t14581 := tadd e14580 rfl (b := 1) (by decide) (by omega))
                                    refine lv_iinc (v := z14579) (lv' := [(9, .int z14579), (8, .int x8_lp14472), (7, .int x7_lp14472), (6, .int x6_lp14472), (5, .int x3_lp14449), (4, .int x4_lp14449), (3, .int x3_lp14449), (0, .ref (g 0)), (1, .int p0), (2, .int p1)]) hx hb dX12_best_258 hl (k := 0) rfl (by rw [e14580]; rfl) (by decide) rfl (fun ls hl => ?_)
                                    refine lv_goto (tgt := 224) hx hb dX12_best_261 (by decide) ?_
                                    exact ih_lp14483 z14579 v_lp14483 F14578 _ _ _ (by omega) (by omega) hf_lp14483 hI hF hP hS (lv_sub hl [0, 1, 2, 3, 4, 5, 6, 7, 8, 9] rfl)
                            obtain ⟨n9, hn9⟩ : ∃ n : Nat, 2147483648 - 0 ≤ (n : Int) := ⟨((2147483648 - 0 : Int)).toNat, by omega⟩
                            exact lp14483 n9 0 v_lp14472 F_lp14472 H _ ls (by have : (0 : Int32).toInt = 0 := (by decide); omega) (by have : (0 : Int32).toInt = 0 := (by decide); omega) (fun _ _ => rfl) hI hF hP hS hl
                          · skip
                            have t14582 := cv_ne (a := r14480.toInt) rfl (b := x3_lp14449.toInt) rfl c14481
                            refine lv_goto (tgt := 361) hx hb dX12_best_218 (by decide) ?_
                            obtain ⟨z14583, e14584⟩ : ∃ y : Int32, y = x8_lp14472 + 1 := ⟨_, rfl⟩
                            try (have t14585 := tadd e14584 rfl (b := 1) (by decide) (by omega))
                            refine lv_iinc (v := z14583) (lv' := [(8, .int z14583), (7, .int x7_lp14472), (6, .int x6_lp14472), (5, .int x3_lp14449), (4, .int x4_lp14449), (3, .int x3_lp14449), (0, .ref (g 0)), (1, .int p0), (2, .int p1)]) hx hb dX12_best_361 hl (k := 0) rfl (by rw [e14584]; rfl) (by decide) rfl (fun ls hl => ?_)
                            refine lv_goto (tgt := 200) hx hb dX12_best_364 (by decide) ?_
                            exact ih_lp14472 z14583 x7_lp14472 x6_lp14472 v_lp14472 F_lp14472 _ _ _ (by omega) (by omega) hf_lp14472 hI hF hP hS (lv_sub hl [0, 1, 2, 3, 4, 5, 6, 7, 8] rfl)
                    obtain ⟨n9, hn9⟩ : ∃ n : Nat, 2147483648 - 0 ≤ (n : Int) := ⟨((2147483648 - 0 : Int)).toNat, by omega⟩
                    exact lp14472 n9 0 0 (-1) v14468 F14469 H _ ls (by have : (0 : Int32).toInt = 0 := (by decide); have : (0 : Int32).toInt = 0 := (by decide); have : ((-1) : Int32).toInt = (-1) := (by decide); omega) (by have : (0 : Int32).toInt = 0 := (by decide); have : (0 : Int32).toInt = 0 := (by decide); have : ((-1) : Int32).toInt = (-1) := (by decide); omega) (fun _ _ => rfl) hI hF hP hS hl
                  · skip
                    have t14586 := cv_nle (a := x3_lp14449.toInt) rfl (b := z14462.toInt) rfl c14464
                    refine lv_aload_n hx hb dX12_best_169 rfl (lv_at hl 3 rfl) ?_
                    refine va_get (D := (dC, dI)) (ci := 12) (v := .ref (g 9)) (C := RX12) (T := TX12) (N := 63) hx hb hwd inA_X12 hown hK hP 0 rfl rfl 12 (by decide) (hwd _ wk_190) (fun _ h9 => h9) rfl dX12_best_170 ?_
                    refine lv_bipush (v := 10) hx hb dX12_best_173 (by decide) ?_
                    refine lv_iload_n hx hb dX12_best_175 rfl (lv_at hl 4 rfl) ?_
                    refine lv_imul hx hb dX12_best_176 ?_
                    refine lv_topi (fun z14587 e14588 => ?_)
                    try (have t14589 := tmul e14588 (a := 10) (by decide) (b := p0.toInt) rfl (by omega))
                    refine lv_iload_n hx hb dX12_best_177 rfl (lv_at hl 5 rfl) ?_
                    refine lv_iadd hx hb dX12_best_178 ?_
                    refine lv_topi (fun z14590 e14591 => ?_)
                    try (have t14592 := tadd e14591 (a := z14587.toInt) rfl (b := p1.toInt) rfl (by omega))
                    refine va_iald hx hb hK hP 9 8 rfl rfl (i := z14590) (vin (a := z14590.toInt) rfl (by omega)) dX12_best_179 ?_
                    refine lv_topi (fun z14593 e14594 => ?_)
                    have e14594 : z14593 = F 9 (z14590 : Int32).toNatClampNeg := e14594.trans (congrFun (hF 9 (by decide)) _)
                    refine lv_goto (tgt := 184) hx hb dX12_best_180 (by decide) ?_
                    refine lv_istore (lv' := [(5, .int z14593), (4, .int x4_lp14449), (3, .int x3_lp14449), (0, .ref (g 0)), (1, .int p0), (2, .int p1)]) hx hb dX12_best_184 hl (by decide) rfl (fun ls hl => ?_)
                    refine lv_aload_n hx hb dX12_best_186 rfl (lv_at hl 3 rfl) ?_
                    refine lv_iload_n hx hb dX12_best_187 rfl (lv_at hl 4 rfl) ?_
                    have t14595 : 0 ≤ (v 14).toInt ∧ (v 14).toInt ≤ 100 := by have h9 := hI.1 14 _ _ rfl; rw [show v_lp14449 14 = v 14 from hf_lp14449 14 (by decide)] at h9; exact h9
                    refine va_callv (va_runV (As := [.int p0]) (rest := []) ⟨hx, hb, hml, hown, hwd⟩ (c_X12_board l dC dI g c adK adV v_lp14449 F_lp14449 rc H.size p0 hg hI ) (cwV 1 hwd (gV wk_1205 wk_1202 wk_1203 wk_1204 wk_5) rfl rfl rfl (by decide +kernel) ⟨Nat.le_of_ble_eq_true rfl, Nat.le_of_ble_eq_true rfl⟩) ⟨PM.blind, va_recv hK hP (ci := 12) (q0 := 0) rfl rfl, fun U hU hW => ⟨rfl, PM.at hK hE hP hS hU hW⟩⟩ rfl rfl hl.1 rfl (lv_room (Nat.le_of_ble_eq_true rfl)) dX12_best_188 ⟨Nat.le_of_ble_eq_true rfl, Nat.le_of_ble_eq_true rfl⟩) hS (fun q _ h => (freeM hS) q h) (freeM hS) (fun u t H1 locs ht hvm hw hB hz1 hk1 hS => ?_)
                    unfold BM at hB
                    rw [ht] at hB
                    obtain ⟨v14597, F14598, rc9⟩ := u
                    obtain ⟨hI, hrc, hf14599, hG14600, hw⟩ := hw
                    dsimp only at hI hrc hB hf14599 hG14600 hw
                    have hF := frCF (by decide) hG14600 hF
                    rw [hrc] at hB
                    have hP : va_P (dC, dI) classes (wM g c v14597 F14598 rc) H1 := hB
                    replace hw : ∀ j : Nat, (j : Int) < (v_lp14449 14).toInt → (F14598 42 j).toInt ≠ 0 → (F_lp14449 13 j).toInt = p0.toInt := hw
                    rw [show v_lp14449 14 = v 14 from hf_lp14449 14 (by decide)] at hw
                    have hw_r14596 := hw
                    clear hw
                    clear hz1
                    generalize H1 = H at hP hS ⊢
                    refine lv_iconst (v := (-1)) hx hb dX12_best_191 (by decide) ?_
                    refine lv_istore (lv' := [(6, .int (-1)), (5, .int z14593), (4, .int x4_lp14449), (3, .int x3_lp14449), (0, .ref (g 0)), (1, .int p0), (2, .int p1)]) hx hb dX12_best_192 hl (by decide) rfl (fun ls hl => ?_)
                    refine lv_iconst (v := 0) hx hb dX12_best_194 (by decide) ?_
                    refine lv_istore (lv' := [(7, .int 0), (6, .int (-1)), (5, .int z14593), (4, .int x4_lp14449), (3, .int x3_lp14449), (0, .ref (g 0)), (1, .int p0), (2, .int p1)]) hx hb dX12_best_195 hl (by decide) rfl (fun ls hl => ?_)
                    refine lv_iconst (v := 0) hx hb dX12_best_197 (by decide) ?_
                    refine lv_istore (lv' := [(8, .int 0), (7, .int 0), (6, .int (-1)), (5, .int z14593), (4, .int x4_lp14449), (3, .int x3_lp14449), (0, .ref (g 0)), (1, .int p0), (2, .int p1)]) hx hb dX12_best_198 hl (by decide) rfl (fun ls hl => ?_)
                    have lp14601 : ∀ (n : Nat) (x8_lp14601 : Int32) (x7_lp14601 : Int32) (x6_lp14601 : Int32) (v_lp14601 : Nat → Int32) (F_lp14601 : Nat → Nat → Int32) (H : Heap) (locs : List Loc) (ls : Array Slot), (0 ≤ x8_lp14601.toInt) → (2147483648 - x8_lp14601.toInt ≤ (n : Int)) → (∀ k, k ∉ ([] : List Nat) → v_lp14601 k = v14597 k) → IM v_lp14601 F_lp14601 → (∀ k, k ∉ ([30, 31, 42, 43] : List Nat) → F_lp14601 k = F k) → va_P (dC, dI) classes (wM g c v_lp14601 F_lp14601 rc) H → va_S (AM g s.heap.size) s.heap H locs → lv_has ls 12 [(8, .int x8_lp14601), (7, .int x7_lp14601), (6, .int x6_lp14601), (5, .int z14593), (4, .int x4_lp14449), (3, .int x3_lp14449), (0, .ref (g 0)), (1, .int p0), (2, .int p1)] → W p l e (headSpec (Cond.code yX12_best cX12_best 12 (some .int) :: wA) ({ frames := 8, cells := 0, slots := 0, locals := 320 })).room s m ([.ref (g 0), .int p0, .int p1] : List Value).toArray below meth c0 H locs 0 0 (MQ below (va_Qi (fun (r : Int32) (u : StM) => IM u.1 u.2.1 ∧ u.2.2 = rc ∧ (∀ k, k ∉ ([57, 58] : List Nat) → u.1 k = v k) ∧ (∀ k, k ∉ ([30, 31, 42, 43] : List Nat) → u.2.1 k = F k) ∧ True) (BM dC dI g c) (AM g s.heap.size)) ([.ref (g 0), .int p0, .int p1] : List Value).toArray s 0 0 (AM g s.heap.size)) (F0 m 200 ls []) := by
                      intro n
                      induction n with
                      | zero =>
                        intro x8_lp14601 x7_lp14601 x6_lp14601 v_lp14601 F_lp14601 H locs ls t14602 hm hf_lp14601 hI hF hP hS hl
                        exfalso
                        have := i32_rng x8_lp14601
                        have := i32_rng x7_lp14601
                        have := i32_rng x6_lp14601
                        have hI1 := hI.1
                        omega
                      | succ n ih_lp14601 =>
                        intro x8_lp14601 x7_lp14601 x6_lp14601 v_lp14601 F_lp14601 H locs ls t14602 hm hf_lp14601 hI hF hP hS hl
                        have rx8_lp14601 := i32_rng x8_lp14601
                        have rx7_lp14601 := i32_rng x7_lp14601
                        have rx6_lp14601 := i32_rng x6_lp14601
                        refine lv_iload hx hb dX12_best_200 (lv_at hl 0 rfl) ?_
                        refine lv_iconst (v := 1) hx hb dX12_best_202 (by decide) ?_
                        refine lv_iload_n hx hb dX12_best_203 rfl (lv_at hl 5 rfl) ?_
                        refine lv_ishl hx hb dX12_best_204 ?_
                        refine lv_topi (fun z14603 e14604 => ?_)
                        have rr_z14603 := i32_rng z14603
                        refine lv_icmp_ge (tgt := 367) hx hb dX12_best_205 (by decide) (fun c14606 => ?_) (fun c14606 => ?_)
                        · skip
                          have t14607 := cv_le (a := z14603.toInt) rfl (b := x8_lp14601.toInt) rfl c14606
                          refine lv_aload_n hx hb dX12_best_367 rfl (lv_at hl 6 rfl) ?_
                          refine lv_iconst (v := 1) hx hb dX12_best_368 (by decide) ?_
                          refine va_put (D := (dC, dI)) (ci := 12) (v := .int 1) (ty := .boolean) (C := RX12) (T := TX12) (N := 63) (fs := fsM_0 g v_lp14601 rc) hx hb hwd inA_X12 tyX12 tyX12_ok nmX12 hown hK hP (DM hg) hS 0 rfl rfl 57 (by decide) (hwd _ wk_1304) (fun _ h9 => h9) rfl (by decide +kernel) rfl rfl (Nat.le_of_ble_eq_true rfl) dX12_best_369 (fun H locs hP _ hS => ?_)
                          have hP := va_P_eq (pM_57 g c _ _ _ _) hP
                          have hI := IM.put0 hI 57 1 rfl
                          refine lv_aload_n hx hb dX12_best_372 rfl (lv_at hl 6 rfl) ?_
                          refine lv_iload hx hb dX12_best_373 (lv_at hl 1 rfl) ?_
                          refine va_put (D := (dC, dI)) (ci := 12) (v := .int x7_lp14601) (ty := .int) (C := RX12) (T := TX12) (N := 63) (fs := fsM_0 g (va_up v_lp14601 57 1) rc) hx hb hwd inA_X12 tyX12 tyX12_ok nmX12 hown hK hP (DM hg) hS 0 rfl rfl 58 (by decide) (hwd _ wk_1305) (fun _ h9 => h9) rfl (by decide +kernel) rfl rfl (Nat.le_of_ble_eq_true rfl) dX12_best_375 (fun H locs hP _ hS => ?_)
                          have hP := va_P_eq (pM_58 g c _ _ _ _) hP
                          have hI := IM.put0 hI 58 x7_lp14601 rfl
                          refine lv_iload hx hb dX12_best_378 (lv_at hl 2 rfl) ?_
                          have hP9 : va_P (dC, dI) classes (wM g c (va_up (va_up v_lp14601 57 1) 58 x7_lp14601) F_lp14601 rc) H := hP
                          exact W.iret (v := x6_lp14601) hx hb hr (fun t ht hW => ⟨⟨x6_lp14601, ((va_up (va_up v_lp14601 57 1) 58 x7_lp14601), F_lp14601, rc), rfl, ⟨hI, rfl, (frU (by decide) (frU (by decide) (frC (by decide) hf_lp14601 (frC (by decide) hf14599 (frC (by decide) hf_lp14449 (fun _ _ => rfl)))))), hF, trivial⟩, (by show va_P _ _ _ t.heap; rw [ht]; exact hP9)⟩, hS.F ht⟩) hS.2.2 dX12_best_380
                        · skip
                          have t14608 := cv_nle (a := z14603.toInt) rfl (b := x8_lp14601.toInt) rfl c14606
                          refine lv_iload hx hb dX12_best_208 (lv_at hl 0 rfl) ?_
                          refine va_calli (va_runS (As := [.int x8_lp14601]) (rest := []) ⟨hx, hb, hml, hown, hwd⟩ (c_X12_bitsOf l dC dI g c adK adV v_lp14601 F_lp14601 rc H.size x8_lp14601 hg hI ) (va_cwS 1 hwd (gT wk_1308 wk_1306 wk_1307 wk_5) rfl rfl rfl (by decide +kernel) ⟨Nat.le_of_ble_eq_true rfl, Nat.le_of_ble_eq_true rfl⟩) ⟨PM.blind, fun U hU hW => ⟨rfl, PM.at hK hE hP hS hU hW⟩⟩ rfl rfl hl.1 rfl (lv_room (Nat.le_of_ble_eq_true rfl)) dX12_best_210 ⟨Nat.le_of_ble_eq_true rfl, Nat.le_of_ble_eq_true rfl⟩) hS (fun q _ h => (freeM hS) q h) (freeM hS) (fun r14609 u t H1 locs ht hvm hw hB hz1 hk1 hS => ?_)
                          unfold BM at hB
                          rw [ht] at hB
                          have hP : va_P (dC, dI) classes (wM g c v_lp14601 F_lp14601 rc) H1 := hB
                          clear hz1
                          generalize H1 = H at hP hS ⊢
                          have rr_r14609 := i32_rng r14609
                          refine lv_iload hx hb dX12_best_213 (lv_at hl 3 rfl) ?_
                          refine lv_icmp_eq (tgt := 221) hx hb dX12_best_215 (by decide) (fun c14610 => ?_) (fun c14610 => ?_)
                          · skip
                            have t14611 := cv_eq (a := r14609.toInt) rfl (b := z14593.toInt) rfl c14610
                            refine lv_iconst (v := 0) hx hb dX12_best_221 (by decide) ?_
                            refine lv_istore (lv' := [(9, .int 0), (8, .int x8_lp14601), (7, .int x7_lp14601), (6, .int x6_lp14601), (5, .int z14593), (4, .int x4_lp14449), (3, .int x3_lp14449), (0, .ref (g 0)), (1, .int p0), (2, .int p1)]) hx hb dX12_best_222 hl (by decide) rfl (fun ls hl => ?_)
                            have lp14612 : ∀ (n : Nat) (x9_lp14612 : Int32) (v_lp14612 : Nat → Int32) (F_lp14612 : Nat → Nat → Int32) (H : Heap) (locs : List Loc) (ls : Array Slot), (0 ≤ x9_lp14612.toInt) → (2147483648 - x9_lp14612.toInt ≤ (n : Int)) → (∀ k, k ∉ ([] : List Nat) → v_lp14612 k = v_lp14601 k) → IM v_lp14612 F_lp14612 → (∀ k, k ∉ ([30, 31, 42, 43] : List Nat) → F_lp14612 k = F k) → va_P (dC, dI) classes (wM g c v_lp14612 F_lp14612 rc) H → va_S (AM g s.heap.size) s.heap H locs → lv_has ls 12 [(9, .int x9_lp14612), (8, .int x8_lp14601), (7, .int x7_lp14601), (6, .int x6_lp14601), (5, .int z14593), (4, .int x4_lp14449), (3, .int x3_lp14449), (0, .ref (g 0)), (1, .int p0), (2, .int p1)] → W p l e (headSpec (Cond.code yX12_best cX12_best 12 (some .int) :: wA) ({ frames := 8, cells := 0, slots := 0, locals := 320 })).room s m ([.ref (g 0), .int p0, .int p1] : List Value).toArray below meth c0 H locs 0 0 (MQ below (va_Qi (fun (r : Int32) (u : StM) => IM u.1 u.2.1 ∧ u.2.2 = rc ∧ (∀ k, k ∉ ([57, 58] : List Nat) → u.1 k = v k) ∧ (∀ k, k ∉ ([30, 31, 42, 43] : List Nat) → u.2.1 k = F k) ∧ True) (BM dC dI g c) (AM g s.heap.size)) ([.ref (g 0), .int p0, .int p1] : List Value).toArray s 0 0 (AM g s.heap.size)) (F0 m 224 ls []) := by
                              intro n
                              induction n with
                              | zero =>
                                intro x9_lp14612 v_lp14612 F_lp14612 H locs ls t14613 hm hf_lp14612 hI hF hP hS hl
                                exfalso
                                have := i32_rng x9_lp14612
                                have hI1 := hI.1
                                omega
                              | succ n ih_lp14612 =>
                                intro x9_lp14612 v_lp14612 F_lp14612 H locs ls t14613 hm hf_lp14612 hI hF hP hS hl
                                have rx9_lp14612 := i32_rng x9_lp14612
                                refine lv_iload hx hb dX12_best_224 (lv_at hl 0 rfl) ?_
                                refine lv_iload_n hx hb dX12_best_226 rfl (lv_at hl 6 rfl) ?_
                                refine lv_icmp_ge (tgt := 264) hx hb dX12_best_227 (by decide) (fun c14614 => ?_) (fun c14614 => ?_)
                                · skip
                                  have t14615 := cv_le (a := x3_lp14449.toInt) rfl (b := x9_lp14612.toInt) rfl c14614
                                  refine lv_aload_n hx hb dX12_best_264 rfl (lv_at hl 7 rfl) ?_
                                  refine lv_iload_n hx hb dX12_best_265 rfl (lv_at hl 8 rfl) ?_
                                  refine lv_aload_n hx hb dX12_best_266 rfl (lv_at hl 7 rfl) ?_
                                  refine va_get (D := (dC, dI)) (ci := 12) (v := .int (v_lp14612 1)) (C := RX12) (T := TX12) (N := 63) hx hb hwd inA_X12 hown hK hP 0 rfl rfl 1 (by decide) (hwd _ wk_332) (fun _ h9 => h9) rfl dX12_best_267 ?_
                                  refine my_top (v := v 1) ((hf_lp14612 1 (by decide)).trans ((hf_lp14601 1 (by decide)).trans ((hf14599 1 (by decide)).trans (hf_lp14449 1 (by decide))))) ?_
                                  have t14616 : 0 ≤ (v 1).toInt ∧ (v 1).toInt ≤ 9999 := by have h9 := hI.1 1 _ _ rfl; rw [show v_lp14612 1 = v 1 from (hf_lp14612 1 (by decide)).trans ((hf_lp14601 1 (by decide)).trans ((hf14599 1 (by decide)).trans (hf_lp14449 1 (by decide))))] at h9; exact h9
                                  refine lv_aload_n hx hb dX12_best_270 rfl (lv_at hl 7 rfl) ?_
                                  refine va_get (D := (dC, dI)) (ci := 12) (v := .int (v_lp14612 1)) (C := RX12) (T := TX12) (N := 63) hx hb hwd inA_X12 hown hK hP 0 rfl rfl 1 (by decide) (hwd _ wk_332) (fun _ h9 => h9) rfl dX12_best_271 ?_
                                  refine my_top (v := v 1) ((hf_lp14612 1 (by decide)).trans ((hf_lp14601 1 (by decide)).trans ((hf14599 1 (by decide)).trans (hf_lp14449 1 (by decide))))) ?_
                                  have t14617 : 0 ≤ (v 1).toInt ∧ (v 1).toInt ≤ 9999 := by have h9 := hI.1 1 _ _ rfl; rw [show v_lp14612 1 = v 1 from (hf_lp14612 1 (by decide)).trans ((hf_lp14601 1 (by decide)).trans ((hf14599 1 (by decide)).trans (hf_lp14449 1 (by decide))))] at h9; exact h9
                                  refine va_calli (va_runV (As := [.int p0, .int (v 1), .int (v 1)]) (rest := []) ⟨hx, hb, hml, hown, hwd⟩ (c_X12_costOfAll l dC dI g c adK adV v_lp14612 F_lp14612 rc H.size p0 (v 1) (v 1) hg hI (by omega) (JL.to hL (show v_lp14612 31 = v 31 from (hf_lp14612 31 (by decide)).trans ((hf_lp14601 31 (by decide)).trans ((hf14599 31 (by decide)).trans (hf_lp14449 31 (by decide))))) (hF 28 (by decide)) (hF 29 (by decide)) (hF 27 (by decide)))) (cwV 3 hwd (gV wk_1247 wk_1244 wk_1245 wk_1246 wk_5) rfl rfl rfl (by decide +kernel) ⟨Nat.le_of_ble_eq_true rfl, Nat.le_of_ble_eq_true rfl⟩) ⟨PM.blind, va_recv hK hP (ci := 12) (q0 := 0) rfl rfl, fun U hU hW => ⟨rfl, PM.at hK hE hP hS hU hW⟩⟩ rfl rfl hl.1 rfl (lv_room (Nat.le_of_ble_eq_true rfl)) dX12_best_274 ⟨Nat.le_of_ble_eq_true rfl, Nat.le_of_ble_eq_true rfl⟩) hS (fun q _ h => (freeM hS) q h) (freeM hS) (fun r14618 u t H1 locs ht hvm hw hB hz1 hk1 hS => ?_)
                                  unfold BM at hB
                                  rw [ht] at hB
                                  obtain ⟨v14619, F14620, rc9⟩ := u
                                  obtain ⟨hI, hrc, hf14621, hG14622, hw⟩ := hw
                                  dsimp only at hI hrc hB hf14621 hG14622 hw
                                  have hF := frCF (by decide) hG14622 hF
                                  rw [hrc] at hB
                                  have hP : va_P (dC, dI) classes (wM g c v14619 F14620 rc) H1 := hB
                                  clear hz1
                                  generalize H1 = H at hP hS ⊢
                                  have rr_r14618 := i32_rng r14618
                                  refine lv_istore (lv' := [(9, .int r14618), (8, .int x8_lp14601), (7, .int x7_lp14601), (6, .int x6_lp14601), (5, .int z14593), (4, .int x4_lp14449), (3, .int x3_lp14449), (0, .ref (g 0)), (1, .int p0), (2, .int p1)]) hx hb dX12_best_277 hl (by decide) rfl (fun ls hl => ?_)
                                  refine lv_iload hx hb dX12_best_279 (lv_at hl 3 rfl) ?_
                                  refine lv_if_lt (tgt := 353) hx hb dX12_best_281 (by decide) (fun c14623 => ?_) (fun c14623 => ?_)
                                  · skip
                                    have t14624 := cv_lt (a := x6_lp14601.toInt) rfl (b := 0) (by decide) c14623
                                    refine lv_iload hx hb dX12_best_353 (lv_at hl 1 rfl) ?_
                                    refine lv_istore (lv' := [(6, .int x8_lp14601), (9, .int r14618), (8, .int x8_lp14601), (7, .int x7_lp14601), (5, .int z14593), (4, .int x4_lp14449), (3, .int x3_lp14449), (0, .ref (g 0)), (1, .int p0), (2, .int p1)]) hx hb dX12_best_355 hl (by decide) rfl (fun ls hl => ?_)
                                    refine lv_iload hx hb dX12_best_357 (lv_at hl 1 rfl) ?_
                                    refine lv_istore (lv' := [(7, .int r14618), (6, .int x8_lp14601), (9, .int r14618), (8, .int x8_lp14601), (5, .int z14593), (4, .int x4_lp14449), (3, .int x3_lp14449), (0, .ref (g 0)), (1, .int p0), (2, .int p1)]) hx hb dX12_best_359 hl (by decide) rfl (fun ls hl => ?_)
                                    obtain ⟨z14625, e14626⟩ : ∃ y : Int32, y = x8_lp14601 + 1 := ⟨_, rfl⟩
                                    try (have t14627 := tadd e14626 rfl (b := 1) (by decide) (by omega))
                                    refine lv_iinc (v := z14625) (lv' := [(8, .int z14625), (7, .int r14618), (6, .int x8_lp14601), (9, .int r14618), (5, .int z14593), (4, .int x4_lp14449), (3, .int x3_lp14449), (0, .ref (g 0)), (1, .int p0), (2, .int p1)]) hx hb dX12_best_361 hl (k := 3) rfl (by rw [e14626]; rfl) (by decide) rfl (fun ls hl => ?_)
                                    refine lv_goto (tgt := 200) hx hb dX12_best_364 (by decide) ?_
                                    exact ih_lp14601 z14625 r14618 x8_lp14601 v14619 F14620 _ _ _ (by omega) (by omega) (frC (by decide) hf14621 (frC (by decide) hf_lp14612 hf_lp14601)) hI hF hP hS (lv_sub hl [0, 1, 2, 4, 5, 6, 7, 8, 9] rfl)
                                  · skip
                                    have t14628 := cv_nlt (a := x6_lp14601.toInt) rfl (b := 0) (by decide) c14623
                                    refine lv_iload hx hb dX12_best_284 (lv_at hl 1 rfl) ?_
                                    refine lv_iload hx hb dX12_best_286 (lv_at hl 5 rfl) ?_
                                    refine lv_iconst (v := (-1)) hx hb dX12_best_288 (by decide) ?_
                                    refine lv_ixor hx hb dX12_best_289 ?_
                                    refine lv_topi (fun z14629 e14630 => ?_)
                                    refine lv_iand hx hb dX12_best_290 ?_
                                    refine lv_topi (fun z14632 e14633 => ?_)
                                    refine va_calli (va_runS (As := [.int z14632]) (rest := []) ⟨hx, hb, hml, hown, hwd⟩ (c_X12_bitsOf l dC dI g c adK adV v14619 F14620 rc H.size z14632 hg hI ) (va_cwS 1 hwd (gT wk_1308 wk_1306 wk_1307 wk_5) rfl rfl rfl (by decide +kernel) ⟨Nat.le_of_ble_eq_true rfl, Nat.le_of_ble_eq_true rfl⟩) ⟨PM.blind, fun U hU hW => ⟨rfl, PM.at hK hE hP hS hU hW⟩⟩ rfl rfl hl.1 rfl (lv_room (Nat.le_of_ble_eq_true rfl)) dX12_best_291 ⟨Nat.le_of_ble_eq_true rfl, Nat.le_of_ble_eq_true rfl⟩) hS (fun q _ h => (freeM hS) q h) (freeM hS) (fun r14635 u t H1 locs ht hvm hw hB hz1 hk1 hS => ?_)
                                    unfold BM at hB
                                    rw [ht] at hB
                                    have hP : va_P (dC, dI) classes (wM g c v14619 F14620 rc) H1 := hB
                                    clear hz1
                                    generalize H1 = H at hP hS ⊢
                                    have rr_r14635 := i32_rng r14635
                                    refine lv_iload hx hb dX12_best_294 (lv_at hl 3 rfl) ?_
                                    refine lv_iload hx hb dX12_best_296 (lv_at hl 5 rfl) ?_
                                    refine lv_iconst (v := (-1)) hx hb dX12_best_298 (by decide) ?_
                                    refine lv_ixor hx hb dX12_best_299 ?_
                                    refine lv_topi (fun z14636 e14637 => ?_)
                                    refine lv_iand hx hb dX12_best_300 ?_
                                    refine lv_topi (fun z14639 e14640 => ?_)
                                    refine va_calli (va_runS (As := [.int z14639]) (rest := [.int r14635]) ⟨hx, hb, hml, hown, hwd⟩ (c_X12_bitsOf l dC dI g c adK adV v14619 F14620 rc H.size z14639 hg hI ) (va_cwS 1 hwd (gT wk_1308 wk_1306 wk_1307 wk_5) rfl rfl rfl (by decide +kernel) ⟨Nat.le_of_ble_eq_true rfl, Nat.le_of_ble_eq_true rfl⟩) ⟨PM.blind, fun U hU hW => ⟨rfl, PM.at hK hE hP hS hU hW⟩⟩ rfl rfl hl.1 rfl (lv_room (Nat.le_of_ble_eq_true rfl)) dX12_best_301 ⟨Nat.le_of_ble_eq_true rfl, Nat.le_of_ble_eq_true rfl⟩) hS (fun q _ h => (freeM hS) q h) (freeM hS) (fun r14642 u t H1 locs ht hvm hw hB hz1 hk1 hS => ?_)
                                    unfold BM at hB
                                    rw [ht] at hB
                                    have hP : va_P (dC, dI) classes (wM g c v14619 F14620 rc) H1 := hB
                                    clear hz1
                                    generalize H1 = H at hP hS ⊢
                                    have rr_r14642 := i32_rng r14642
                                    refine lv_isub hx hb dX12_best_304 ?_
                                    refine lv_topi (fun z14643 e14644 => ?_)
                                    try (have t14645 := tsub e14644 (a := r14635.toInt) rfl (b := r14642.toInt) rfl (by omega))
                                    refine lv_istore (lv' := [(10, .int z14643), (9, .int r14618), (8, .int x8_lp14601), (7, .int x7_lp14601), (6, .int x6_lp14601), (5, .int z14593), (4, .int x4_lp14449), (3, .int x3_lp14449), (0, .ref (g 0)), (1, .int p0), (2, .int p1)]) hx hb dX12_best_305 hl (by decide) rfl (fun ls hl => ?_)
                                    refine lv_iload hx hb dX12_best_307 (lv_at hl 2 rfl) ?_
                                    refine lv_iload hx hb dX12_best_309 (lv_at hl 4 rfl) ?_
                                    refine lv_ixor hx hb dX12_best_311 ?_
                                    refine lv_topi (fun z14646 e14647 => ?_)
                                    refine lv_istore (lv' := [(11, .int z14646), (10, .int z14643), (9, .int r14618), (8, .int x8_lp14601), (7, .int x7_lp14601), (6, .int x6_lp14601), (5, .int z14593), (4, .int x4_lp14449), (3, .int x3_lp14449), (0, .ref (g 0)), (1, .int p0), (2, .int p1)]) hx hb dX12_best_312 hl (by decide) rfl (fun ls hl => ?_)
                                    refine lv_iload hx hb dX12_best_314 (lv_at hl 2 rfl) ?_
                                    refine lv_iload hx hb dX12_best_316 (lv_at hl 4 rfl) ?_
                                    refine lv_icmp_gt (tgt := 361) hx hb dX12_best_318 (by decide) (fun c14649 => ?_) (fun c14649 => ?_)
                                    · skip
                                      have t14650 := cv_lt (a := x7_lp14601.toInt) rfl (b := r14618.toInt) rfl c14649
                                      obtain ⟨z14651, e14652⟩ : ∃ y : Int32, y = x8_lp14601 + 1 := ⟨_, rfl⟩
                                      try (have t14653 := tadd e14652 rfl (b := 1) (by decide) (by omega))
                                      refine lv_iinc (v := z14651) (lv' := [(8, .int z14651), (11, .int z14646), (10, .int z14643), (9, .int r14618), (7, .int x7_lp14601), (6, .int x6_lp14601), (5, .int z14593), (4, .int x4_lp14449), (3, .int x3_lp14449), (0, .ref (g 0)), (1, .int p0), (2, .int p1)]) hx hb dX12_best_361 hl (k := 3) rfl (by rw [e14652]; rfl) (by decide) rfl (fun ls hl => ?_)
                                      refine lv_goto (tgt := 200) hx hb dX12_best_364 (by decide) ?_
                                      exact ih_lp14601 z14651 x7_lp14601 x6_lp14601 v14619 F14620 _ _ _ (by omega) (by omega) (frC (by decide) hf14621 (frC (by decide) hf_lp14612 hf_lp14601)) hI hF hP hS (lv_sub hl [0, 4, 5, 6, 7, 8, 9, 10, 11] rfl)
                                    · skip
                                      have t14654 := cv_nlt (a := x7_lp14601.toInt) rfl (b := r14618.toInt) rfl c14649
                                      refine lv_iload hx hb dX12_best_321 (lv_at hl 2 rfl) ?_
                                      refine lv_iload hx hb dX12_best_323 (lv_at hl 4 rfl) ?_
                                      refine lv_icmp_ne (tgt := 353) hx hb dX12_best_325 (by decide) (fun c14655 => ?_) (fun c14655 => ?_)
                                      · skip
                                        have t14656 := cv_ne (a := r14618.toInt) rfl (b := x7_lp14601.toInt) rfl c14655
                                        refine lv_iload hx hb dX12_best_353 (lv_at hl 3 rfl) ?_
                                        refine lv_istore (lv' := [(6, .int x8_lp14601), (11, .int z14646), (10, .int z14643), (9, .int r14618), (8, .int x8_lp14601), (7, .int x7_lp14601), (5, .int z14593), (4, .int x4_lp14449), (3, .int x3_lp14449), (0, .ref (g 0)), (1, .int p0), (2, .int p1)]) hx hb dX12_best_355 hl (by decide) rfl (fun ls hl => ?_)
                                        refine lv_iload hx hb dX12_best_357 (lv_at hl 3 rfl) ?_
                                        refine lv_istore (lv' := [(7, .int r14618), (6, .int x8_lp14601), (11, .int z14646), (10, .int z14643), (9, .int r14618), (8, .int x8_lp14601), (5, .int z14593), (4, .int x4_lp14449), (3, .int x3_lp14449), (0, .ref (g 0)), (1, .int p0), (2, .int p1)]) hx hb dX12_best_359 hl (by decide) rfl (fun ls hl => ?_)
                                        obtain ⟨z14657, e14658⟩ : ∃ y : Int32, y = x8_lp14601 + 1 := ⟨_, rfl⟩
                                        try (have t14659 := tadd e14658 rfl (b := 1) (by decide) (by omega))
                                        refine lv_iinc (v := z14657) (lv' := [(8, .int z14657), (7, .int r14618), (6, .int x8_lp14601), (11, .int z14646), (10, .int z14643), (9, .int r14618), (5, .int z14593), (4, .int x4_lp14449), (3, .int x3_lp14449), (0, .ref (g 0)), (1, .int p0), (2, .int p1)]) hx hb dX12_best_361 hl (k := 5) rfl (by rw [e14658]; rfl) (by decide) rfl (fun ls hl => ?_)
                                        refine lv_goto (tgt := 200) hx hb dX12_best_364 (by decide) ?_
                                        exact ih_lp14601 z14657 r14618 x8_lp14601 v14619 F14620 _ _ _ (by omega) (by omega) (frC (by decide) hf14621 (frC (by decide) hf_lp14612 hf_lp14601)) hI hF hP hS (lv_sub hl [0, 1, 2, 6, 7, 8, 9, 10, 11] rfl)
                                      · skip
                                        have t14660 := cv_eq (a := r14618.toInt) rfl (b := x7_lp14601.toInt) rfl c14655
                                        refine lv_iload hx hb dX12_best_328 (lv_at hl 1 rfl) ?_
                                        refine lv_if_gt (tgt := 361) hx hb dX12_best_330 (by decide) (fun c14661 => ?_) (fun c14661 => ?_)
                                        · skip
                                          have t14662 := cv_lt (a := 0) (by decide) (b := z14643.toInt) rfl c14661
                                          obtain ⟨z14663, e14664⟩ : ∃ y : Int32, y = x8_lp14601 + 1 := ⟨_, rfl⟩
                                          try (have t14665 := tadd e14664 rfl (b := 1) (by decide) (by omega))
                                          refine lv_iinc (v := z14663) (lv' := [(8, .int z14663), (11, .int z14646), (10, .int z14643), (9, .int r14618), (7, .int x7_lp14601), (6, .int x6_lp14601), (5, .int z14593), (4, .int x4_lp14449), (3, .int x3_lp14449), (0, .ref (g 0)), (1, .int p0), (2, .int p1)]) hx hb dX12_best_361 hl (k := 3) rfl (by rw [e14664]; rfl) (by decide) rfl (fun ls hl => ?_)
                                          refine lv_goto (tgt := 200) hx hb dX12_best_364 (by decide) ?_
                                          exact ih_lp14601 z14663 x7_lp14601 x6_lp14601 v14619 F14620 _ _ _ (by omega) (by omega) (frC (by decide) hf14621 (frC (by decide) hf_lp14612 hf_lp14601)) hI hF hP hS (lv_sub hl [0, 4, 5, 6, 7, 8, 9, 10, 11] rfl)
                                        · skip
                                          have t14666 := cv_nlt (a := 0) (by decide) (b := z14643.toInt) rfl c14661
                                          refine lv_iload hx hb dX12_best_333 (lv_at hl 1 rfl) ?_
                                          refine lv_if_ne (tgt := 353) hx hb dX12_best_335 (by decide) (fun c14667 => ?_) (fun c14667 => ?_)
                                          · skip
                                            have t14668 := cv_ne (a := z14643.toInt) rfl (b := 0) (by decide) c14667
                                            refine lv_iload hx hb dX12_best_353 (lv_at hl 3 rfl) ?_
                                            refine lv_istore (lv' := [(6, .int x8_lp14601), (11, .int z14646), (10, .int z14643), (9, .int r14618), (8, .int x8_lp14601), (7, .int x7_lp14601), (5, .int z14593), (4, .int x4_lp14449), (3, .int x3_lp14449), (0, .ref (g 0)), (1, .int p0), (2, .int p1)]) hx hb dX12_best_355 hl (by decide) rfl (fun ls hl => ?_)
                                            refine lv_iload hx hb dX12_best_357 (lv_at hl 3 rfl) ?_
                                            refine lv_istore (lv' := [(7, .int r14618), (6, .int x8_lp14601), (11, .int z14646), (10, .int z14643), (9, .int r14618), (8, .int x8_lp14601), (5, .int z14593), (4, .int x4_lp14449), (3, .int x3_lp14449), (0, .ref (g 0)), (1, .int p0), (2, .int p1)]) hx hb dX12_best_359 hl (by decide) rfl (fun ls hl => ?_)
                                            obtain ⟨z14669, e14670⟩ : ∃ y : Int32, y = x8_lp14601 + 1 := ⟨_, rfl⟩
                                            try (have t14671 := tadd e14670 rfl (b := 1) (by decide) (by omega))
                                            refine lv_iinc (v := z14669) (lv' := [(8, .int z14669), (7, .int r14618), (6, .int x8_lp14601), (11, .int z14646), (10, .int z14643), (9, .int r14618), (5, .int z14593), (4, .int x4_lp14449), (3, .int x3_lp14449), (0, .ref (g 0)), (1, .int p0), (2, .int p1)]) hx hb dX12_best_361 hl (k := 5) rfl (by rw [e14670]; rfl) (by decide) rfl (fun ls hl => ?_)
                                            refine lv_goto (tgt := 200) hx hb dX12_best_364 (by decide) ?_
                                            exact ih_lp14601 z14669 r14618 x8_lp14601 v14619 F14620 _ _ _ (by omega) (by omega) (frC (by decide) hf14621 (frC (by decide) hf_lp14612 hf_lp14601)) hI hF hP hS (lv_sub hl [0, 1, 2, 6, 7, 8, 9, 10, 11] rfl)
                                          · skip
                                            have t14672 := cv_eq (a := z14643.toInt) rfl (b := 0) (by decide) c14667
                                            refine lv_iload hx hb dX12_best_338 (lv_at hl 3 rfl) ?_
                                            refine lv_iload hx hb dX12_best_340 (lv_at hl 0 rfl) ?_
                                            refine lv_iand hx hb dX12_best_342 ?_
                                            refine lv_topi (fun z14673 e14674 => ?_)
                                            refine lv_iload hx hb dX12_best_343 (lv_at hl 0 rfl) ?_
                                            refine lv_ineg hx hb dX12_best_345 ?_
                                            refine lv_topi (fun z14676 e14677 => ?_)
                                            refine lv_iand hx hb dX12_best_346 ?_
                                            refine lv_topi (fun z14678 e14679 => ?_)
                                            refine lv_if_ne (tgt := 353) hx hb dX12_best_347 (by decide) (fun c14681 => ?_) (fun c14681 => ?_)
                                            · skip
                                              have t14682 := cv_ne (a := z14678.toInt) rfl (b := 0) (by decide) c14681
                                              refine lv_iload hx hb dX12_best_353 (lv_at hl 3 rfl) ?_
                                              refine lv_istore (lv' := [(6, .int x8_lp14601), (11, .int z14646), (10, .int z14643), (9, .int r14618), (8, .int x8_lp14601), (7, .int x7_lp14601), (5, .int z14593), (4, .int x4_lp14449), (3, .int x3_lp14449), (0, .ref (g 0)), (1, .int p0), (2, .int p1)]) hx hb dX12_best_355 hl (by decide) rfl (fun ls hl => ?_)
                                              refine lv_iload hx hb dX12_best_357 (lv_at hl 3 rfl) ?_
                                              refine lv_istore (lv' := [(7, .int r14618), (6, .int x8_lp14601), (11, .int z14646), (10, .int z14643), (9, .int r14618), (8, .int x8_lp14601), (5, .int z14593), (4, .int x4_lp14449), (3, .int x3_lp14449), (0, .ref (g 0)), (1, .int p0), (2, .int p1)]) hx hb dX12_best_359 hl (by decide) rfl (fun ls hl => ?_)
                                              obtain ⟨z14683, e14684⟩ : ∃ y : Int32, y = x8_lp14601 + 1 := ⟨_, rfl⟩
                                              try (have t14685 := tadd e14684 rfl (b := 1) (by decide) (by omega))
                                              refine lv_iinc (v := z14683) (lv' := [(8, .int z14683), (7, .int r14618), (6, .int x8_lp14601), (11, .int z14646), (10, .int z14643), (9, .int r14618), (5, .int z14593), (4, .int x4_lp14449), (3, .int x3_lp14449), (0, .ref (g 0)), (1, .int p0), (2, .int p1)]) hx hb dX12_best_361 hl (k := 5) rfl (by rw [e14684]; rfl) (by decide) rfl (fun ls hl => ?_)
                                              refine lv_goto (tgt := 200) hx hb dX12_best_364 (by decide) ?_
                                              exact ih_lp14601 z14683 r14618 x8_lp14601 v14619 F14620 _ _ _ (by omega) (by omega) (frC (by decide) hf14621 (frC (by decide) hf_lp14612 hf_lp14601)) hI hF hP hS (lv_sub hl [0, 1, 2, 6, 7, 8, 9, 10, 11] rfl)
                                            · skip
                                              have t14686 := cv_eq (a := z14678.toInt) rfl (b := 0) (by decide) c14681
                                              refine lv_goto (tgt := 361) hx hb dX12_best_350 (by decide) ?_
                                              obtain ⟨z14687, e14688⟩ : ∃ y : Int32, y = x8_lp14601 + 1 := ⟨_, rfl⟩
                                              try (have t14689 := tadd e14688 rfl (b := 1) (by decide) (by omega))
                                              refine lv_iinc (v := z14687) (lv' := [(8, .int z14687), (11, .int z14646), (10, .int z14643), (9, .int r14618), (7, .int x7_lp14601), (6, .int x6_lp14601), (5, .int z14593), (4, .int x4_lp14449), (3, .int x3_lp14449), (0, .ref (g 0)), (1, .int p0), (2, .int p1)]) hx hb dX12_best_361 hl (k := 3) rfl (by rw [e14688]; rfl) (by decide) rfl (fun ls hl => ?_)
                                              refine lv_goto (tgt := 200) hx hb dX12_best_364 (by decide) ?_
                                              exact ih_lp14601 z14687 x7_lp14601 x6_lp14601 v14619 F14620 _ _ _ (by omega) (by omega) (frC (by decide) hf14621 (frC (by decide) hf_lp14612 hf_lp14601)) hI hF hP hS (lv_sub hl [0, 4, 5, 6, 7, 8, 9, 10, 11] rfl)
                                · skip
                                  have t14690 := cv_nle (a := x3_lp14449.toInt) rfl (b := x9_lp14612.toInt) rfl c14614
                                  refine lv_aload_n hx hb dX12_best_230 rfl (lv_at hl 7 rfl) ?_
                                  refine va_get (D := (dC, dI)) (ci := 12) (v := .ref (g 42)) (C := RX12) (T := TX12) (N := 63) hx hb hwd inA_X12 hown hK hP 0 rfl rfl 56 (by decide) (hwd _ wk_224) (fun _ h9 => h9) rfl dX12_best_231 ?_
                                  refine lv_aload_n hx hb dX12_best_234 rfl (lv_at hl 7 rfl) ?_
                                  refine va_get (D := (dC, dI)) (ci := 12) (v := .ref (g 43)) (C := RX12) (T := TX12) (N := 63) hx hb hwd inA_X12 hown hK hP 0 rfl rfl 59 (by decide) (hwd _ wk_225) (fun _ h9 => h9) rfl dX12_best_235 ?_
                                  refine lv_iload hx hb dX12_best_238 (lv_at hl 0 rfl) ?_
                                  refine va_iald hx hb hK hP 43 42 rfl rfl (i := x9_lp14612) (vin (a := x9_lp14612.toInt) rfl (by omega)) dX12_best_240 ?_
                                  refine lv_topi (fun z14691 e14692 => ?_)
                                  have t14693 : 0 ≤ z14691.toInt ∧ z14691.toInt ≤ 99 := by rw [e14692]; exact hI.2 43 _ _ rfl _
                                  refine lv_iload hx hb dX12_best_241 (lv_at hl 1 rfl) ?_
                                  refine lv_iload hx hb dX12_best_243 (lv_at hl 0 rfl) ?_
                                  refine lv_ishr hx hb dX12_best_245 ?_
                                  refine lv_topi (fun z14694 e14695 => ?_)
                                  refine lv_iconst (v := 1) hx hb dX12_best_246 (by decide) ?_
                                  refine lv_iand hx hb dX12_best_247 ?_
                                  refine lv_topi (fun z14697 e14698 => ?_)
                                  refine lv_iconst (v := 1) hx hb dX12_best_248 (by decide) ?_
                                  refine lv_icmp_ne (tgt := 256) hx hb dX12_best_249 (by decide) (fun c14700 => ?_) (fun c14700 => ?_)
                                  · skip
                                    have t14701 := cv_ne (a := z14697.toInt) rfl (b := 1) (by decide) c14700
                                    refine lv_iconst (v := 0) hx hb dX12_best_256 (by decide) ?_
                                    refine va_zast hx hb hK hP (DM hg) hS 42 41 rfl rfl (i := z14691) (x := 0) (vin (a := z14691.toInt) rfl (by omega)) dX12_best_257 (fun H locs hP _ hS => ?_)
                                    have hP := va_P_eq (sM_42 g c _ _ _ _) hP
                                    have hI := IM.store0 hI 42 (z14691 : Int32).toNatClampNeg (vp_nar .boolean 0) rfl
                                    have hF := frUF (k := 42) (f := upd (F_lp14612 42) (z14691 : Int32).toNatClampNeg (vp_nar .boolean 0)) (by decide) hF
                                    have hP : va_P (dC, dI) classes (wM g c v_lp14612 (va_up F_lp14612 42 (upd (F_lp14612 42) (z14691 : Int32).toNatClampNeg (vp_nar .boolean 0))) rc) H := hP
                                    generalize (va_up F_lp14612 42 (upd (F_lp14612 42) (z14691 : Int32).toNatClampNeg (vp_nar .boolean 0))) = F14702 at hP hI hF
                                    obtain ⟨z14703, e14704⟩ : ∃ y : Int32, y = x9_lp14612 + 1 := ⟨_, rfl⟩
                                    try (have t14705 := tadd e14704 rfl (b := 1) (by decide) (by omega))
                                    refine lv_iinc (v := z14703) (lv' := [(9, .int z14703), (8, .int x8_lp14601), (7, .int x7_lp14601), (6, .int x6_lp14601), (5, .int z14593), (4, .int x4_lp14449), (3, .int x3_lp14449), (0, .ref (g 0)), (1, .int p0), (2, .int p1)]) hx hb dX12_best_258 hl (k := 0) rfl (by rw [e14704]; rfl) (by decide) rfl (fun ls hl => ?_)
                                    refine lv_goto (tgt := 224) hx hb dX12_best_261 (by decide) ?_
                                    exact ih_lp14612 z14703 v_lp14612 F14702 _ _ _ (by omega) (by omega) hf_lp14612 hI hF hP hS (lv_sub hl [0, 1, 2, 3, 4, 5, 6, 7, 8, 9] rfl)
                                  · skip
                                    have t14706 := cv_eq (a := z14697.toInt) rfl (b := 1) (by decide) c14700
                                    refine lv_iconst (v := 1) hx hb dX12_best_252 (by decide) ?_
                                    refine lv_goto (tgt := 257) hx hb dX12_best_253 (by decide) ?_
                                    refine va_zast hx hb hK hP (DM hg) hS 42 41 rfl rfl (i := z14691) (x := 1) (vin (a := z14691.toInt) rfl (by omega)) dX12_best_257 (fun H locs hP _ hS => ?_)
                                    have hP := va_P_eq (sM_42 g c _ _ _ _) hP
                                    have hI := IM.store0 hI 42 (z14691 : Int32).toNatClampNeg (vp_nar .boolean 1) rfl
                                    have hF := frUF (k := 42) (f := upd (F_lp14612 42) (z14691 : Int32).toNatClampNeg (vp_nar .boolean 1)) (by decide) hF
                                    have hP : va_P (dC, dI) classes (wM g c v_lp14612 (va_up F_lp14612 42 (upd (F_lp14612 42) (z14691 : Int32).toNatClampNeg (vp_nar .boolean 1))) rc) H := hP
                                    generalize (va_up F_lp14612 42 (upd (F_lp14612 42) (z14691 : Int32).toNatClampNeg (vp_nar .boolean 1))) = F14707 at hP hI hF
                                    obtain ⟨z14708, e14709⟩ : ∃ y : Int32, y = x9_lp14612 + 1 := ⟨_, rfl⟩
                                    try (have t14710 := tadd e14709 rfl (b := 1) (by decide) (by omega))
                                    refine lv_iinc (v := z14708) (lv' := [(9, .int z14708), (8, .int x8_lp14601), (7, .int x7_lp14601), (6, .int x6_lp14601), (5, .int z14593), (4, .int x4_lp14449), (3, .int x3_lp14449), (0, .ref (g 0)), (1, .int p0), (2, .int p1)]) hx hb dX12_best_258 hl (k := 0) rfl (by rw [e14709]; rfl) (by decide) rfl (fun ls hl => ?_)
                                    refine lv_goto (tgt := 224) hx hb dX12_best_261 (by decide) ?_
                                    exact ih_lp14612 z14708 v_lp14612 F14707 _ _ _ (by omega) (by omega) hf_lp14612 hI hF hP hS (lv_sub hl [0, 1, 2, 3, 4, 5, 6, 7, 8, 9] rfl)
                            obtain ⟨n9, hn9⟩ : ∃ n : Nat, 2147483648 - 0 ≤ (n : Int) := ⟨((2147483648 - 0 : Int)).toNat, by omega⟩
                            exact lp14612 n9 0 v_lp14601 F_lp14601 H _ ls (by have : (0 : Int32).toInt = 0 := (by decide); omega) (by have : (0 : Int32).toInt = 0 := (by decide); omega) (fun _ _ => rfl) hI hF hP hS hl
                          · skip
                            have t14711 := cv_ne (a := r14609.toInt) rfl (b := z14593.toInt) rfl c14610
                            refine lv_goto (tgt := 361) hx hb dX12_best_218 (by decide) ?_
                            obtain ⟨z14712, e14713⟩ : ∃ y : Int32, y = x8_lp14601 + 1 := ⟨_, rfl⟩
                            try (have t14714 := tadd e14713 rfl (b := 1) (by decide) (by omega))
                            refine lv_iinc (v := z14712) (lv' := [(8, .int z14712), (7, .int x7_lp14601), (6, .int x6_lp14601), (5, .int z14593), (4, .int x4_lp14449), (3, .int x3_lp14449), (0, .ref (g 0)), (1, .int p0), (2, .int p1)]) hx hb dX12_best_361 hl (k := 0) rfl (by rw [e14713]; rfl) (by decide) rfl (fun ls hl => ?_)
                            refine lv_goto (tgt := 200) hx hb dX12_best_364 (by decide) ?_
                            exact ih_lp14601 z14712 x7_lp14601 x6_lp14601 v_lp14601 F_lp14601 _ _ _ (by omega) (by omega) hf_lp14601 hI hF hP hS (lv_sub hl [0, 1, 2, 3, 4, 5, 6, 7, 8] rfl)
                    obtain ⟨n9, hn9⟩ : ∃ n : Nat, 2147483648 - 0 ≤ (n : Int) := ⟨((2147483648 - 0 : Int)).toNat, by omega⟩
                    exact lp14601 n9 0 0 (-1) v14597 F14598 H _ ls (by have : (0 : Int32).toInt = 0 := (by decide); have : (0 : Int32).toInt = 0 := (by decide); have : ((-1) : Int32).toInt = (-1) := (by decide); omega) (by have : (0 : Int32).toInt = 0 := (by decide); have : (0 : Int32).toInt = 0 := (by decide); have : ((-1) : Int32).toInt = (-1) := (by decide); omega) (fun _ _ => rfl) hI hF hP hS hl
                · skip
                  have t14715 := cv_nle (a := (v 14).toInt) rfl (b := x5_lp14449.toInt) rfl c14454
                  refine lv_aload_n hx hb dX12_best_68 rfl (lv_at hl 3 rfl) ?_
                  refine va_get (D := (dC, dI)) (ci := 12) (v := .ref (g 11)) (C := RX12) (T := TX12) (N := 63) hx hb hwd inA_X12 hown hK hP 0 rfl rfl 15 (by decide) (hwd _ wk_192) (fun _ h9 => h9) rfl dX12_best_69 ?_
                  refine lv_iload hx hb dX12_best_72 (lv_at hl 0 rfl) ?_
                  refine va_iald hx hb hK hP 11 10 rfl rfl (i := x5_lp14449) (vin (a := x5_lp14449.toInt) rfl (by omega)) dX12_best_74 ?_
                  refine lv_topi (fun z14716 e14717 => ?_)
                  have t14718 : 0 ≤ z14716.toInt ∧ z14716.toInt ≤ 9 := by rw [e14717]; exact hI.2 11 _ _ rfl _
                  have e14717 : z14716 = F 11 (x5_lp14449 : Int32).toNatClampNeg := e14717.trans (congrFun (hF 11 (by decide)) _)
                  refine lv_iload_n hx hb dX12_best_75 rfl (lv_at hl 5 rfl) ?_
                  refine lv_icmp_ne (tgt := 148) hx hb dX12_best_76 (by decide) (fun c14719 => ?_) (fun c14719 => ?_)
                  · skip
                    have t14720 := cv_ne (a := z14716.toInt) rfl (b := p1.toInt) rfl c14719
                    obtain ⟨z14721, e14722⟩ : ∃ y : Int32, y = x5_lp14449 + 1 := ⟨_, rfl⟩
                    try (have t14723 := tadd e14722 rfl (b := 1) (by decide) (by omega))
                    refine lv_iinc (v := z14721) (lv' := [(5, .int z14721), (4, .int x4_lp14449), (3, .int x3_lp14449), (0, .ref (g 0)), (1, .int p0), (2, .int p1)]) hx hb dX12_best_148 hl (k := 0) rfl (by rw [e14722]; rfl) (by decide) rfl (fun ls hl => ?_)
                    refine lv_goto (tgt := 59) hx hb dX12_best_151 (by decide) ?_
                    exact ih_lp14449 z14721 x4_lp14449 x3_lp14449 v_lp14449 F_lp14449 _ _ _ (by omega) (by omega) (by omega) (by omega) hf_lp14449 hI hF hP hS (lv_sub hl [0, 1, 2, 3, 4, 5] rfl)
                  · skip
                    have t14724 := cv_eq (a := z14716.toInt) rfl (b := p1.toInt) rfl c14719
                    refine lv_aload_n hx hb dX12_best_79 rfl (lv_at hl 3 rfl) ?_
                    refine va_get (D := (dC, dI)) (ci := 12) (v := .ref (g 13)) (C := RX12) (T := TX12) (N := 63) hx hb hwd inA_X12 hown hK hP 0 rfl rfl 17 (by decide) (hwd _ wk_194) (fun _ h9 => h9) rfl dX12_best_80 ?_
                    refine lv_iload hx hb dX12_best_83 (lv_at hl 0 rfl) ?_
                    refine va_iald hx hb hK hP 13 12 rfl rfl (i := x5_lp14449) (vin (a := x5_lp14449.toInt) rfl (by omega)) dX12_best_85 ?_
                    refine lv_topi (fun z14725 e14726 => ?_)
                    have t14727 : 0 ≤ z14725.toInt ∧ z14725.toInt ≤ 12 := by rw [e14726]; exact hI.2 13 _ _ rfl _
                    have e14726 : z14725 = F 13 (x5_lp14449 : Int32).toNatClampNeg := e14726.trans (congrFun (hF 13 (by decide)) _)
                    refine lv_iload_n hx hb dX12_best_86 rfl (lv_at hl 4 rfl) ?_
                    refine lv_icmp_eq (tgt := 105) hx hb dX12_best_87 (by decide) (fun c14728 => ?_) (fun c14728 => ?_)
                    · skip
                      have t14729 := cv_eq (a := z14725.toInt) rfl (b := p0.toInt) rfl c14728
                      refine lv_iload_n hx hb dX12_best_105 rfl (lv_at hl 2 rfl) ?_
                      refine lv_bipush (v := 8) hx hb dX12_best_106 (by decide) ?_
                      refine lv_icmp_ne (tgt := 114) hx hb dX12_best_108 (by decide) (fun c14730 => ?_) (fun c14730 => ?_)
                      · skip
                        have t14731 := cv_ne (a := x3_lp14449.toInt) rfl (b := 8) (by decide) c14730
                        refine lv_aload_n hx hb dX12_best_114 rfl (lv_at hl 3 rfl) ?_
                        refine va_get (D := (dC, dI)) (ci := 12) (v := .ref (g 43)) (C := RX12) (T := TX12) (N := 63) hx hb hwd inA_X12 hown hK hP 0 rfl rfl 59 (by decide) (hwd _ wk_225) (fun _ h9 => h9) rfl dX12_best_115 ?_
                        refine lv_iload_n hx hb dX12_best_118 rfl (lv_at hl 2 rfl) ?_
                        refine lv_iload hx hb dX12_best_119 (lv_at hl 0 rfl) ?_
                        refine va_iast hx hb hK hP (DM hg) hS 43 42 rfl rfl (i := x3_lp14449) (x := x5_lp14449) (vin (a := x3_lp14449.toInt) rfl (by omega)) dX12_best_121 (fun H locs hP _ hS => ?_)
                        have hP := va_P_eq (sM_43 g c _ _ _ _) hP
                        have hI := IM.store hI 43 (x3_lp14449 : Int32).toNatClampNeg x5_lp14449 rfl (by omega)
                        have hF := frUF (k := 43) (f := upd (F_lp14449 43) (x3_lp14449 : Int32).toNatClampNeg x5_lp14449) (by decide) hF
                        have hP : va_P (dC, dI) classes (wM g c v_lp14449 (va_up F_lp14449 43 (upd (F_lp14449 43) (x3_lp14449 : Int32).toNatClampNeg x5_lp14449)) rc) H := hP
                        generalize (va_up F_lp14449 43 (upd (F_lp14449 43) (x3_lp14449 : Int32).toNatClampNeg x5_lp14449)) = F14732 at hP hI hF
                        refine lv_iload hx hb dX12_best_122 (lv_at hl 1 rfl) ?_
                        refine lv_aload_n hx hb dX12_best_124 rfl (lv_at hl 3 rfl) ?_
                        refine va_get (D := (dC, dI)) (ci := 12) (v := .ref (g 13)) (C := RX12) (T := TX12) (N := 63) hx hb hwd inA_X12 hown hK hP 0 rfl rfl 17 (by decide) (hwd _ wk_194) (fun _ h9 => h9) rfl dX12_best_125 ?_
                        refine lv_iload hx hb dX12_best_128 (lv_at hl 0 rfl) ?_
                        refine va_iald hx hb hK hP 13 12 rfl rfl (i := x5_lp14449) (vin (a := x5_lp14449.toInt) rfl (by omega)) dX12_best_130 ?_
                        refine lv_topi (fun z14733 e14734 => ?_)
                        have t14735 : 0 ≤ z14733.toInt ∧ z14733.toInt ≤ 12 := by rw [e14734]; exact hI.2 13 _ _ rfl _
                        have e14734 : z14733 = F 13 (x5_lp14449 : Int32).toNatClampNeg := e14734.trans (congrFun (hF 13 (by decide)) _)
                        refine lv_iload_n hx hb dX12_best_131 rfl (lv_at hl 4 rfl) ?_
                        refine lv_icmp_ne (tgt := 141) hx hb dX12_best_132 (by decide) (fun c14736 => ?_) (fun c14736 => ?_)
                        · skip
                          have t14737 := cv_ne (a := z14733.toInt) rfl (b := p0.toInt) rfl c14736
                          refine lv_iconst (v := 0) hx hb dX12_best_141 (by decide) ?_
                          refine lv_ior hx hb dX12_best_142 ?_
                          refine lv_topi (fun z14738 e14739 => ?_)
                          refine lv_istore (lv' := [(4, .int z14738), (5, .int x5_lp14449), (3, .int x3_lp14449), (0, .ref (g 0)), (1, .int p0), (2, .int p1)]) hx hb dX12_best_143 hl (by decide) rfl (fun ls hl => ?_)
                          obtain ⟨z14741, e14742⟩ : ∃ y : Int32, y = x3_lp14449 + 1 := ⟨_, rfl⟩
                          try (have t14743 := tadd e14742 rfl (b := 1) (by decide) (by omega))
                          refine lv_iinc (v := z14741) (lv' := [(3, .int z14741), (4, .int z14738), (5, .int x5_lp14449), (0, .ref (g 0)), (1, .int p0), (2, .int p1)]) hx hb dX12_best_145 hl (k := 2) rfl (by rw [e14742]; rfl) (by decide) rfl (fun ls hl => ?_)
                          obtain ⟨z14744, e14745⟩ : ∃ y : Int32, y = x5_lp14449 + 1 := ⟨_, rfl⟩
                          try (have t14746 := tadd e14745 rfl (b := 1) (by decide) (by omega))
                          refine lv_iinc (v := z14744) (lv' := [(5, .int z14744), (3, .int z14741), (4, .int z14738), (0, .ref (g 0)), (1, .int p0), (2, .int p1)]) hx hb dX12_best_148 hl (k := 2) rfl (by rw [e14745]; rfl) (by decide) rfl (fun ls hl => ?_)
                          refine lv_goto (tgt := 59) hx hb dX12_best_151 (by decide) ?_
                          exact ih_lp14449 z14744 z14738 z14741 v_lp14449 F14732 _ _ _ (by omega) (by omega) (by omega) (by omega) hf_lp14449 hI hF hP hS (lv_sub hl [0, 2, 1, 3, 4, 5] rfl)
                        · skip
                          have t14747 := cv_eq (a := z14733.toInt) rfl (b := p0.toInt) rfl c14736
                          refine lv_iconst (v := 1) hx hb dX12_best_135 (by decide) ?_
                          refine lv_iload_n hx hb dX12_best_136 rfl (lv_at hl 2 rfl) ?_
                          refine lv_ishl hx hb dX12_best_137 ?_
                          refine lv_topi (fun z14748 e14749 => ?_)
                          have rr_z14748 := i32_rng z14748
                          refine lv_goto (tgt := 142) hx hb dX12_best_138 (by decide) ?_
                          refine lv_ior hx hb dX12_best_142 ?_
                          refine lv_topi (fun z14751 e14752 => ?_)
                          refine lv_istore (lv' := [(4, .int z14751), (5, .int x5_lp14449), (3, .int x3_lp14449), (0, .ref (g 0)), (1, .int p0), (2, .int p1)]) hx hb dX12_best_143 hl (by decide) rfl (fun ls hl => ?_)
                          obtain ⟨z14754, e14755⟩ : ∃ y : Int32, y = x3_lp14449 + 1 := ⟨_, rfl⟩
                          try (have t14756 := tadd e14755 rfl (b := 1) (by decide) (by omega))
                          refine lv_iinc (v := z14754) (lv' := [(3, .int z14754), (4, .int z14751), (5, .int x5_lp14449), (0, .ref (g 0)), (1, .int p0), (2, .int p1)]) hx hb dX12_best_145 hl (k := 2) rfl (by rw [e14755]; rfl) (by decide) rfl (fun ls hl => ?_)
                          obtain ⟨z14757, e14758⟩ : ∃ y : Int32, y = x5_lp14449 + 1 := ⟨_, rfl⟩
                          try (have t14759 := tadd e14758 rfl (b := 1) (by decide) (by omega))
                          refine lv_iinc (v := z14757) (lv' := [(5, .int z14757), (3, .int z14754), (4, .int z14751), (0, .ref (g 0)), (1, .int p0), (2, .int p1)]) hx hb dX12_best_148 hl (k := 2) rfl (by rw [e14758]; rfl) (by decide) rfl (fun ls hl => ?_)
                          refine lv_goto (tgt := 59) hx hb dX12_best_151 (by decide) ?_
                          exact ih_lp14449 z14757 z14751 z14754 v_lp14449 F14732 _ _ _ (by omega) (by omega) (by omega) (by omega) hf_lp14449 hI hF hP hS (lv_sub hl [0, 2, 1, 3, 4, 5] rfl)
                      · skip
                        have t14760 := cv_eq (a := x3_lp14449.toInt) rfl (b := 8) (by decide) c14730
                        refine lv_bipush (v := (-4)) hx hb dX12_best_111 (by decide) ?_
                        have hP9 : va_P (dC, dI) classes (wM g c v_lp14449 F_lp14449 rc) H := hP
                        exact W.iret (v := (-4)) hx hb hr (fun t ht hW => ⟨⟨(-4), (v_lp14449, F_lp14449, rc), rfl, ⟨hI, rfl, (frC (by decide) hf_lp14449 (fun _ _ => rfl)), hF, trivial⟩, (by show va_P _ _ _ t.heap; rw [ht]; exact hP9)⟩, hS.F ht⟩) hS.2.2 dX12_best_113
                    · skip
                      have t14761 := cv_ne (a := z14725.toInt) rfl (b := p0.toInt) rfl c14728
                      refine lv_aload_n hx hb dX12_best_90 rfl (lv_at hl 3 rfl) ?_
                      refine va_get (D := (dC, dI)) (ci := 12) (v := .ref (g 13)) (C := RX12) (T := TX12) (N := 63) hx hb hwd inA_X12 hown hK hP 0 rfl rfl 17 (by decide) (hwd _ wk_194) (fun _ h9 => h9) rfl dX12_best_91 ?_
                      refine lv_iload hx hb dX12_best_94 (lv_at hl 0 rfl) ?_
                      refine va_iald hx hb hK hP 13 12 rfl rfl (i := x5_lp14449) (vin (a := x5_lp14449.toInt) rfl (by omega)) dX12_best_96 ?_
                      refine lv_topi (fun z14762 e14763 => ?_)
                      have t14764 : 0 ≤ z14762.toInt ∧ z14762.toInt ≤ 12 := by rw [e14763]; exact hI.2 13 _ _ rfl _
                      have e14763 : z14762 = F 13 (x5_lp14449 : Int32).toNatClampNeg := e14763.trans (congrFun (hF 13 (by decide)) _)
                      refine lv_bipush (v := 11) hx hb dX12_best_97 (by decide) ?_
                      refine lv_icmp_eq (tgt := 105) hx hb dX12_best_99 (by decide) (fun c14765 => ?_) (fun c14765 => ?_)
                      · skip
                        have t14766 := cv_eq (a := z14762.toInt) rfl (b := 11) (by decide) c14765
                        refine lv_iload_n hx hb dX12_best_105 rfl (lv_at hl 2 rfl) ?_
                        refine lv_bipush (v := 8) hx hb dX12_best_106 (by decide) ?_
                        refine lv_icmp_ne (tgt := 114) hx hb dX12_best_108 (by decide) (fun c14767 => ?_) (fun c14767 => ?_)
                        · skip
                          have t14768 := cv_ne (a := x3_lp14449.toInt) rfl (b := 8) (by decide) c14767
                          refine lv_aload_n hx hb dX12_best_114 rfl (lv_at hl 3 rfl) ?_
                          refine va_get (D := (dC, dI)) (ci := 12) (v := .ref (g 43)) (C := RX12) (T := TX12) (N := 63) hx hb hwd inA_X12 hown hK hP 0 rfl rfl 59 (by decide) (hwd _ wk_225) (fun _ h9 => h9) rfl dX12_best_115 ?_
                          refine lv_iload_n hx hb dX12_best_118 rfl (lv_at hl 2 rfl) ?_
                          refine lv_iload hx hb dX12_best_119 (lv_at hl 0 rfl) ?_
                          refine va_iast hx hb hK hP (DM hg) hS 43 42 rfl rfl (i := x3_lp14449) (x := x5_lp14449) (vin (a := x3_lp14449.toInt) rfl (by omega)) dX12_best_121 (fun H locs hP _ hS => ?_)
                          have hP := va_P_eq (sM_43 g c _ _ _ _) hP
                          have hI := IM.store hI 43 (x3_lp14449 : Int32).toNatClampNeg x5_lp14449 rfl (by omega)
                          have hF := frUF (k := 43) (f := upd (F_lp14449 43) (x3_lp14449 : Int32).toNatClampNeg x5_lp14449) (by decide) hF
                          have hP : va_P (dC, dI) classes (wM g c v_lp14449 (va_up F_lp14449 43 (upd (F_lp14449 43) (x3_lp14449 : Int32).toNatClampNeg x5_lp14449)) rc) H := hP
                          generalize (va_up F_lp14449 43 (upd (F_lp14449 43) (x3_lp14449 : Int32).toNatClampNeg x5_lp14449)) = F14769 at hP hI hF
                          refine lv_iload hx hb dX12_best_122 (lv_at hl 1 rfl) ?_
                          refine lv_aload_n hx hb dX12_best_124 rfl (lv_at hl 3 rfl) ?_
                          refine va_get (D := (dC, dI)) (ci := 12) (v := .ref (g 13)) (C := RX12) (T := TX12) (N := 63) hx hb hwd inA_X12 hown hK hP 0 rfl rfl 17 (by decide) (hwd _ wk_194) (fun _ h9 => h9) rfl dX12_best_125 ?_
                          refine lv_iload hx hb dX12_best_128 (lv_at hl 0 rfl) ?_
                          refine va_iald hx hb hK hP 13 12 rfl rfl (i := x5_lp14449) (vin (a := x5_lp14449.toInt) rfl (by omega)) dX12_best_130 ?_
                          refine lv_topi (fun z14770 e14771 => ?_)
                          have t14772 : 0 ≤ z14770.toInt ∧ z14770.toInt ≤ 12 := by rw [e14771]; exact hI.2 13 _ _ rfl _
                          have e14771 : z14770 = F 13 (x5_lp14449 : Int32).toNatClampNeg := e14771.trans (congrFun (hF 13 (by decide)) _)
                          refine lv_iload_n hx hb dX12_best_131 rfl (lv_at hl 4 rfl) ?_
                          refine lv_icmp_ne (tgt := 141) hx hb dX12_best_132 (by decide) (fun c14773 => ?_) (fun c14773 => ?_)
                          · skip
                            have t14774 := cv_ne (a := z14770.toInt) rfl (b := p0.toInt) rfl c14773
                            refine lv_iconst (v := 0) hx hb dX12_best_141 (by decide) ?_
                            refine lv_ior hx hb dX12_best_142 ?_
                            refine lv_topi (fun z14775 e14776 => ?_)
                            refine lv_istore (lv' := [(4, .int z14775), (5, .int x5_lp14449), (3, .int x3_lp14449), (0, .ref (g 0)), (1, .int p0), (2, .int p1)]) hx hb dX12_best_143 hl (by decide) rfl (fun ls hl => ?_)
                            obtain ⟨z14778, e14779⟩ : ∃ y : Int32, y = x3_lp14449 + 1 := ⟨_, rfl⟩
                            try (have t14780 := tadd e14779 rfl (b := 1) (by decide) (by omega))
                            refine lv_iinc (v := z14778) (lv' := [(3, .int z14778), (4, .int z14775), (5, .int x5_lp14449), (0, .ref (g 0)), (1, .int p0), (2, .int p1)]) hx hb dX12_best_145 hl (k := 2) rfl (by rw [e14779]; rfl) (by decide) rfl (fun ls hl => ?_)
                            obtain ⟨z14781, e14782⟩ : ∃ y : Int32, y = x5_lp14449 + 1 := ⟨_, rfl⟩
                            try (have t14783 := tadd e14782 rfl (b := 1) (by decide) (by omega))
                            refine lv_iinc (v := z14781) (lv' := [(5, .int z14781), (3, .int z14778), (4, .int z14775), (0, .ref (g 0)), (1, .int p0), (2, .int p1)]) hx hb dX12_best_148 hl (k := 2) rfl (by rw [e14782]; rfl) (by decide) rfl (fun ls hl => ?_)
                            refine lv_goto (tgt := 59) hx hb dX12_best_151 (by decide) ?_
                            exact ih_lp14449 z14781 z14775 z14778 v_lp14449 F14769 _ _ _ (by omega) (by omega) (by omega) (by omega) hf_lp14449 hI hF hP hS (lv_sub hl [0, 2, 1, 3, 4, 5] rfl)
                          · skip
                            have t14784 := cv_eq (a := z14770.toInt) rfl (b := p0.toInt) rfl c14773
                            refine lv_iconst (v := 1) hx hb dX12_best_135 (by decide) ?_
                            refine lv_iload_n hx hb dX12_best_136 rfl (lv_at hl 2 rfl) ?_
                            refine lv_ishl hx hb dX12_best_137 ?_
                            refine lv_topi (fun z14785 e14786 => ?_)
                            have rr_z14785 := i32_rng z14785
                            refine lv_goto (tgt := 142) hx hb dX12_best_138 (by decide) ?_
                            refine lv_ior hx hb dX12_best_142 ?_
                            refine lv_topi (fun z14788 e14789 => ?_)
                            refine lv_istore (lv' := [(4, .int z14788), (5, .int x5_lp14449), (3, .int x3_lp14449), (0, .ref (g 0)), (1, .int p0), (2, .int p1)]) hx hb dX12_best_143 hl (by decide) rfl (fun ls hl => ?_)
                            obtain ⟨z14791, e14792⟩ : ∃ y : Int32, y = x3_lp14449 + 1 := ⟨_, rfl⟩
                            try (have t14793 := tadd e14792 rfl (b := 1) (by decide) (by omega))
                            refine lv_iinc (v := z14791) (lv' := [(3, .int z14791), (4, .int z14788), (5, .int x5_lp14449), (0, .ref (g 0)), (1, .int p0), (2, .int p1)]) hx hb dX12_best_145 hl (k := 2) rfl (by rw [e14792]; rfl) (by decide) rfl (fun ls hl => ?_)
                            obtain ⟨z14794, e14795⟩ : ∃ y : Int32, y = x5_lp14449 + 1 := ⟨_, rfl⟩
                            try (have t14796 := tadd e14795 rfl (b := 1) (by decide) (by omega))
                            refine lv_iinc (v := z14794) (lv' := [(5, .int z14794), (3, .int z14791), (4, .int z14788), (0, .ref (g 0)), (1, .int p0), (2, .int p1)]) hx hb dX12_best_148 hl (k := 2) rfl (by rw [e14795]; rfl) (by decide) rfl (fun ls hl => ?_)
                            refine lv_goto (tgt := 59) hx hb dX12_best_151 (by decide) ?_
                            exact ih_lp14449 z14794 z14788 z14791 v_lp14449 F14769 _ _ _ (by omega) (by omega) (by omega) (by omega) hf_lp14449 hI hF hP hS (lv_sub hl [0, 2, 1, 3, 4, 5] rfl)
                        · skip
                          have t14797 := cv_eq (a := x3_lp14449.toInt) rfl (b := 8) (by decide) c14767
                          refine lv_bipush (v := (-4)) hx hb dX12_best_111 (by decide) ?_
                          have hP9 : va_P (dC, dI) classes (wM g c v_lp14449 F_lp14449 rc) H := hP
                          exact W.iret (v := (-4)) hx hb hr (fun t ht hW => ⟨⟨(-4), (v_lp14449, F_lp14449, rc), rfl, ⟨hI, rfl, (frC (by decide) hf_lp14449 (fun _ _ => rfl)), hF, trivial⟩, (by show va_P _ _ _ t.heap; rw [ht]; exact hP9)⟩, hS.F ht⟩) hS.2.2 dX12_best_113
                      · skip
                        have t14798 := cv_ne (a := z14762.toInt) rfl (b := 11) (by decide) c14765
                        refine lv_goto (tgt := 148) hx hb dX12_best_102 (by decide) ?_
                        obtain ⟨z14799, e14800⟩ : ∃ y : Int32, y = x5_lp14449 + 1 := ⟨_, rfl⟩
                        try (have t14801 := tadd e14800 rfl (b := 1) (by decide) (by omega))
                        refine lv_iinc (v := z14799) (lv' := [(5, .int z14799), (4, .int x4_lp14449), (3, .int x3_lp14449), (0, .ref (g 0)), (1, .int p0), (2, .int p1)]) hx hb dX12_best_148 hl (k := 0) rfl (by rw [e14800]; rfl) (by decide) rfl (fun ls hl => ?_)
                        refine lv_goto (tgt := 59) hx hb dX12_best_151 (by decide) ?_
                        exact ih_lp14449 z14799 x4_lp14449 x3_lp14449 v_lp14449 F_lp14449 _ _ _ (by omega) (by omega) (by omega) (by omega) hf_lp14449 hI hF hP hS (lv_sub hl [0, 1, 2, 3, 4, 5] rfl)
            obtain ⟨n9, hn9⟩ : ∃ n : Nat, 2147483648 - 0 ≤ (n : Int) := ⟨((2147483648 - 0 : Int)).toNat, by omega⟩
            exact lp14449 n9 0 0 0 v F H _ ls (by have : (0 : Int32).toInt = 0 := (by decide); have : (0 : Int32).toInt = 0 := (by decide); have : (0 : Int32).toInt = 0 := (by decide); omega) (by have : (0 : Int32).toInt = 0 := (by decide); have : (0 : Int32).toInt = 0 := (by decide); have : (0 : Int32).toInt = 0 := (by decide); omega) (by have : (0 : Int32).toInt = 0 := (by decide); have : (0 : Int32).toInt = 0 := (by decide); have : (0 : Int32).toInt = 0 := (by decide); omega) (by have : (0 : Int32).toInt = 0 := (by decide); have : (0 : Int32).toInt = 0 := (by decide); have : (0 : Int32).toInt = 0 := (by decide); omega) (fun _ _ => rfl) hI hF hP hS hl
          · skip
            have t14802 := cv_eq (a := z14445.toInt) rfl (b := 0) (by decide) c14447
            refine lv_bipush (v := (-2)) hx hb dX12_best_48 (by decide) ?_
            have hP9 : va_P (dC, dI) classes (wM g c v F rc) H := hP
            exact W.iret (v := (-2)) hx hb hr (fun t ht hW => ⟨⟨(-2), (v, F, rc), rfl, ⟨hI, rfl, (fun _ _ => rfl), hF, trivial⟩, (by show va_P _ _ _ t.heap; rw [ht]; exact hP9)⟩, hS.F ht⟩) hS.2.2 dX12_best_50
    · skip
      have t14803 := cv_eq (a := r14428.toInt) rfl (b := 0) (by decide) c14429
      refine lv_iconst (v := (-1)) hx hb dX12_best_16 (by decide) ?_
      have hP9 : va_P (dC, dI) classes (wM g c v F rc) H := hP
      exact W.iret (v := (-1)) hx hb hr (fun t ht hW => ⟨⟨(-1), (v, F, rc), rfl, ⟨hI, rfl, (fun _ _ => rfl), hF, trivial⟩, (by show va_P _ _ _ t.heap; rw [ht]; exact hP9)⟩, hS.F ht⟩) hS.2.2 dX12_best_17
