set_option maxHeartbeats 8000000 in
set_option maxRecDepth 100000 in
theorem c_X12_feed (l : Launch) (dC : Nat → ClassId) (dI : Nat → Nat → Nat) (g : Nat → Nat) (c : Nat → ClassId) (adK adV : Nat → Nat) (v : Nat → Int32) (F : Nat → Nat → Int32) (rc sz : Nat) (p0 : Int32) (p1 : Int32) (hg : injM g) (hI : IM v F) : Met l yX12_feed (Cond.code yX12_feed cX12_feed 4 (some .int) :: wA) ({ frames := 2, cells := 0, slots := 0, locals := 80 }) (va_Pc [.ref (g 0), .int p0, .int p1] (PM dC dI g c adK adV v F rc sz)) (va_Qi (fun (r : Int32) (u : StM) => IM u.1 u.2.1 ∧ u.2.2 = rc ∧ (∀ k, k ∉ ([30] : List Nat) → u.1 k = v k) ∧ (∀ k, k ∉ ([24] : List Nat) → u.2.1 k = F k) ∧ ((¬ (1 ≤ p0.toInt ∧ p0.toInt ≤ 4) ∧ r.toInt = -1 ∧ (u.1 30).toInt = (v 30).toInt ∧ u.2.1 24 = F 24) ∨ ((1 ≤ p0.toInt ∧ p0.toInt ≤ 4) ∧ 120 < (v 30).toInt + p0.toInt ∧ r.toInt = -3 ∧ (u.1 30).toInt = (v 30).toInt ∧ u.2.1 24 = F 24) ∨ ((1 ≤ p0.toInt ∧ p0.toInt ≤ 4) ∧ (v 30).toInt + p0.toInt ≤ 120 ∧ r.toInt = (v 30).toInt + p0.toInt ∧ (u.1 30).toInt = (v 30).toInt + p0.toInt ∧ fc (fun x => vp_nar .byte x.toInt8.toInt32) (F 24) (u.2.1 24) (v 30).toInt p0.toInt p1))) (BM dC dI g c) (AM g sz)) 0 0 (AM g sz) := by
  refine Met.ofW (cc := cX12_feed) (maxL := 4) (ret := (some .int)) (by decide) rfl ?_
  intro p e s m args below meth c0 s₁ B hml hv
  obtain ⟨rfl, hsz, hP, hK, hE⟩ := hv
  have hx := B.exec
  have hb := B.bytes
  have hr := B.returns
  have hts := atoms_spec (ws := Cond.code yX12_feed cX12_feed 4 (some .int) :: wA) B.pre
  have hwd : ∀ w ∈ wA, w.before _ s = true := fun w h => hts w (List.mem_cons_of_mem _ h)
  have hown : s.vm.findClass RX12 = some m.cls := findClass_of_methodNamed B.named
  have hlocks := B.notSynchronized
  subst hsz
  have hl := lv_entry ([.ref (g 0), .int p0, .int p1]) (n := 4) (Nat.le_of_ble_eq_true rfl)
  rw [lg_entry_eq]
  generalize (lg_sl ([.ref (g 0), .int p0, .int p1]) ++ List.replicate (4 - (lg_sl ([.ref (g 0), .int p0, .int p1])).length) Slot.unset).toArray = ls at hl ⊢
  have hl : lv_has ls 4 [(0, .ref (g 0)), (1, .int p0), (2, .int p1)] := hl
  obtain ⟨H, eH⟩ : ∃ z, z = s.heap := ⟨_, rfl⟩
  have hP : va_P (dC, dI) classes (wM g c v F rc) H := by rw [eH]; exact hP
  have hS : va_S (AM g s.heap.size) s.heap H [] := by rw [eH]; exact va_S.rf
  refine my_heap eH ?_
  have hF : ∀ k, k ∉ ([24] : List Nat) → F k = F k := fun _ _ => rfl
  have rp0 := i32_rng p0
  have rp1 := i32_rng p1
  have hb30 : 0 ≤ (v 30).toInt ∧ (v 30).toInt ≤ 120 := hI.1 30 _ _ rfl
  refine lv_iload_n hx hb dX12_feed_0 rfl (lv_at hl 1 rfl) ?_
  refine lv_iconst (v := 1) hx hb dX12_feed_1 (by decide) ?_
  refine lv_iconst (v := 4) hx hb dX12_feed_2 (by decide) ?_
  refine va_calli (va_runS (As := [.int p0, .int 1, .int 4]) (rest := []) ⟨hx, hb, hml, hown, hwd⟩ (c_X12_in l dC dI g c adK adV v F rc H.size p0 1 4 hg hI ) (va_cwS 3 hwd (gT wk_254 wk_252 wk_253 wk_5) rfl rfl rfl (by decide +kernel) ⟨Nat.le_of_ble_eq_true rfl, Nat.le_of_ble_eq_true rfl⟩) ⟨PM.blind, fun U hU hW => ⟨rfl, PM.at hK hE hP hS hU hW⟩⟩ rfl rfl hl.1 rfl (lv_room (Nat.le_of_ble_eq_true rfl)) dX12_feed_3 ⟨Nat.le_of_ble_eq_true rfl, Nat.le_of_ble_eq_true rfl⟩) hS (fun q _ h => (freeM hS) q h) (freeM hS) (fun r7528 u t H1 locs ht hvm hw hB hz1 hk1 hS => ?_)
  unfold BM at hB
  rw [ht] at hB
  have hP : va_P (dC, dI) classes (wM g c v F rc) H1 := hB
  have hw_r7528 : (r7528.toInt = 1 ∧ (1 : Int32).toInt ≤ p0.toInt ∧ p0.toInt ≤ (4 : Int32).toInt) ∨ (r7528.toInt = 0 ∧ (p0.toInt < (1 : Int32).toInt ∨ (4 : Int32).toInt < p0.toInt)) := hw
  clear hw
  have k7529 : (1 : Int32).toInt = 1 := by decide
  have k7530 : (4 : Int32).toInt = 4 := by decide
  clear hz1
  generalize H1 = H at hP hS ⊢
  refine lv_if_ne (tgt := 11) hx hb dX12_feed_6 (by decide) (fun c7531 => ?_) (fun c7531 => ?_)
  · skip
    have t7532 := cv_ne (a := r7528.toInt) rfl (b := 0) (by decide) c7531
    refine lv_aload_n hx hb dX12_feed_11 rfl (lv_at hl 0 rfl) ?_
    refine va_get (D := (dC, dI)) (ci := 12) (v := .int (v 30)) (C := RX12) (T := TX12) (N := 63) hx hb hwd inA_X12 hown hK hP 0 rfl rfl 30 (by decide) (hwd _ wk_839) (fun _ h9 => h9) rfl dX12_feed_12 ?_
    have t7533 : 0 ≤ (v 30).toInt ∧ (v 30).toInt ≤ 120 := hI.1 30 _ _ rfl
    refine lv_iload_n hx hb dX12_feed_15 rfl (lv_at hl 1 rfl) ?_
    refine lv_iadd hx hb dX12_feed_16 ?_
    refine lv_topi (fun z7534 e7535 => ?_)
    try (have t7536 := tadd e7535 (a := (v 30).toInt) rfl (b := p0.toInt) rfl (by omega))
    refine lv_bipush (v := 120) hx hb dX12_feed_17 (by decide) ?_
    refine lv_icmp_le (tgt := 25) hx hb dX12_feed_19 (by decide) (fun c7537 => ?_) (fun c7537 => ?_)
    · skip
      have t7538 := cv_le (a := z7534.toInt) rfl (b := 120) (by decide) c7537
      refine lv_iconst (v := 0) hx hb dX12_feed_25 (by decide) ?_
      refine lv_istore_n (lv' := [(3, .int 0), (0, .ref (g 0)), (1, .int p0), (2, .int p1)]) hx hb dX12_feed_26 rfl hl (by decide) rfl (fun ls hl => ?_)
      have lp7539 : ∀ (n : Nat) (x3_lp7539 : Int32) (v_lp7539 : Nat → Int32) (F_lp7539 : Nat → Nat → Int32) (H : Heap) (locs : List Loc) (ls : Array Slot), (0 ≤ x3_lp7539.toInt) → (x3_lp7539.toInt ≤ p0.toInt) → ((v_lp7539 30).toInt = (v 30).toInt + x3_lp7539.toInt) → (fc (fun x => vp_nar .byte x.toInt8.toInt32) (F 24) (F_lp7539 24) (v 30).toInt x3_lp7539.toInt p1) → (2147483648 - x3_lp7539.toInt ≤ (n : Int)) → (∀ k, k ∉ ([30] : List Nat) → v_lp7539 k = v k) → IM v_lp7539 F_lp7539 → (∀ k, k ∉ ([24] : List Nat) → F_lp7539 k = F k) → va_P (dC, dI) classes (wM g c v_lp7539 F_lp7539 rc) H → va_S (AM g s.heap.size) s.heap H locs → lv_has ls 4 [(3, .int x3_lp7539), (0, .ref (g 0)), (1, .int p0), (2, .int p1)] → W p l e (headSpec (Cond.code yX12_feed cX12_feed 4 (some .int) :: wA) ({ frames := 2, cells := 0, slots := 0, locals := 80 })).room s m ([.ref (g 0), .int p0, .int p1] : List Value).toArray below meth c0 H locs 0 0 (MQ below (va_Qi (fun (r : Int32) (u : StM) => IM u.1 u.2.1 ∧ u.2.2 = rc ∧ (∀ k, k ∉ ([30] : List Nat) → u.1 k = v k) ∧ (∀ k, k ∉ ([24] : List Nat) → u.2.1 k = F k) ∧ ((¬ (1 ≤ p0.toInt ∧ p0.toInt ≤ 4) ∧ r.toInt = -1 ∧ (u.1 30).toInt = (v 30).toInt ∧ u.2.1 24 = F 24) ∨ ((1 ≤ p0.toInt ∧ p0.toInt ≤ 4) ∧ 120 < (v 30).toInt + p0.toInt ∧ r.toInt = -3 ∧ (u.1 30).toInt = (v 30).toInt ∧ u.2.1 24 = F 24) ∨ ((1 ≤ p0.toInt ∧ p0.toInt ≤ 4) ∧ (v 30).toInt + p0.toInt ≤ 120 ∧ r.toInt = (v 30).toInt + p0.toInt ∧ (u.1 30).toInt = (v 30).toInt + p0.toInt ∧ fc (fun x => vp_nar .byte x.toInt8.toInt32) (F 24) (u.2.1 24) (v 30).toInt p0.toInt p1))) (BM dC dI g c) (AM g s.heap.size)) ([.ref (g 0), .int p0, .int p1] : List Value).toArray s 0 0 (AM g s.heap.size)) (F0 m 27 ls []) := by
        intro n
        induction n with
        | zero =>
          intro x3_lp7539 v_lp7539 F_lp7539 H locs ls t7540 t7541 t7542 t7543 hm hf_lp7539 hI hF hP hS hl
          exfalso
          have := i32_rng x3_lp7539
          have hI1 := hI.1
          omega
        | succ n ih_lp7539 =>
          intro x3_lp7539 v_lp7539 F_lp7539 H locs ls t7540 t7541 t7542 t7543 hm hf_lp7539 hI hF hP hS hl
          have rx3_lp7539 := i32_rng x3_lp7539
          refine lv_iload_n hx hb dX12_feed_27 rfl (lv_at hl 0 rfl) ?_
          refine lv_iload_n hx hb dX12_feed_28 rfl (lv_at hl 2 rfl) ?_
          refine lv_icmp_ge (tgt := 64) hx hb dX12_feed_29 (by decide) (fun c7544 => ?_) (fun c7544 => ?_)
          · skip
            have t7545 := cv_le (a := p0.toInt) rfl (b := x3_lp7539.toInt) rfl c7544
            refine lv_aload_n hx hb dX12_feed_64 rfl (lv_at hl 1 rfl) ?_
            refine va_get (D := (dC, dI)) (ci := 12) (v := .int (v_lp7539 30)) (C := RX12) (T := TX12) (N := 63) hx hb hwd inA_X12 hown hK hP 0 rfl rfl 30 (by decide) (hwd _ wk_839) (fun _ h9 => h9) rfl dX12_feed_65 ?_
            have t7546 : 0 ≤ (v_lp7539 30).toInt ∧ (v_lp7539 30).toInt ≤ 120 := hI.1 30 _ _ rfl
            have hP9 : va_P (dC, dI) classes (wM g c v_lp7539 F_lp7539 rc) H := hP
            exact W.iret (v := v_lp7539 30) hx hb hr (fun t ht hW => ⟨⟨(v_lp7539 30), (v_lp7539, F_lp7539, rc), rfl, ⟨hI, rfl, (frC (by decide) hf_lp7539 (fun _ _ => rfl)), hF, (by show (¬ (1 ≤ p0.toInt ∧ p0.toInt ≤ 4) ∧ (v_lp7539 30).toInt = -1 ∧ (v_lp7539 30).toInt = (v 30).toInt ∧ F_lp7539 24 = F 24) ∨ ((1 ≤ p0.toInt ∧ p0.toInt ≤ 4) ∧ 120 < (v 30).toInt + p0.toInt ∧ (v_lp7539 30).toInt = -3 ∧ (v_lp7539 30).toInt = (v 30).toInt ∧ F_lp7539 24 = F 24) ∨ ((1 ≤ p0.toInt ∧ p0.toInt ≤ 4) ∧ (v 30).toInt + p0.toInt ≤ 120 ∧ (v_lp7539 30).toInt = (v 30).toInt + p0.toInt ∧ (v_lp7539 30).toInt = (v 30).toInt + p0.toInt ∧ fc (fun x => vp_nar .byte x.toInt8.toInt32) (F 24) (F_lp7539 24) (v 30).toInt p0.toInt p1); exact Or.inr (Or.inr ⟨by omega, by omega, by omega, by omega, (by rw [show p0.toInt = x3_lp7539.toInt by omega]; exact t7543)⟩))⟩, (by show va_P _ _ _ t.heap; rw [ht]; exact hP9)⟩, hS.F ht⟩) hS.2.2 dX12_feed_68
          · skip
            have t7547 := cv_nle (a := p0.toInt) rfl (b := x3_lp7539.toInt) rfl c7544
            refine lv_aload_n hx hb dX12_feed_32 rfl (lv_at hl 1 rfl) ?_
            refine va_get (D := (dC, dI)) (ci := 12) (v := .ref (g 24)) (C := RX12) (T := TX12) (N := 63) hx hb hwd inA_X12 hown hK hP 0 rfl rfl 29 (by decide) (hwd _ wk_206) (fun _ h9 => h9) rfl dX12_feed_33 ?_
            refine lv_aload_n hx hb dX12_feed_36 rfl (lv_at hl 1 rfl) ?_
            refine va_get (D := (dC, dI)) (ci := 12) (v := .int (v_lp7539 30)) (C := RX12) (T := TX12) (N := 63) hx hb hwd inA_X12 hown hK hP 0 rfl rfl 30 (by decide) (hwd _ wk_839) (fun _ h9 => h9) rfl dX12_feed_37 ?_
            have t7548 : 0 ≤ (v_lp7539 30).toInt ∧ (v_lp7539 30).toInt ≤ 120 := hI.1 30 _ _ rfl
            refine lv_iload_n hx hb dX12_feed_40 rfl (lv_at hl 3 rfl) ?_
            refine lv_bipush (v := 8) hx hb dX12_feed_41 (by decide) ?_
            refine lv_iload_n hx hb dX12_feed_43 rfl (lv_at hl 0 rfl) ?_
            refine lv_imul hx hb dX12_feed_44 ?_
            refine lv_topi (fun z7549 e7550 => ?_)
            try (have t7551 := tmul e7550 (a := 8) (by decide) (b := x3_lp7539.toInt) rfl (by omega))
            refine lv_ishr hx hb dX12_feed_45 ?_
            refine lv_topi (fun z7552 e7553 => ?_)
            refine lv_i2b hx hb dX12_feed_46 rfl ?_
            refine lv_topi (fun z7555 e7556 => ?_)
            refine va_bast hx hb hK hP (DM hg) hS 24 23 rfl rfl (i := (v_lp7539 30)) (x := z7555) (vin (a := (v_lp7539 30).toInt) rfl (by omega)) dX12_feed_47 (fun H locs hP _ hS => ?_)
            have hP := va_P_eq (sM_24 g c _ _ _ _) hP
            have hI := IM.store0 hI 24 (v_lp7539 30 : Int32).toNatClampNeg (vp_nar .byte z7555) rfl
            have hF := frUF (k := 24) (f := upd (F_lp7539 24) (v_lp7539 30 : Int32).toNatClampNeg (vp_nar .byte z7555)) (by decide) hF
            have st7558 : (va_up F_lp7539 24 (upd (F_lp7539 24) (v_lp7539 30 : Int32).toNatClampNeg (vp_nar .byte z7555))) 24 = upd (F_lp7539 24) (v_lp7539 30 : Int32).toNatClampNeg (vp_nar .byte z7555) := va_up_self _ _ _
            have sn7559 : ∀ k9, k9 ≠ 24 → (va_up F_lp7539 24 (upd (F_lp7539 24) (v_lp7539 30 : Int32).toNatClampNeg (vp_nar .byte z7555))) k9 = F_lp7539 k9 := fun k9 h9 => va_up_ne _ _ h9
            have hP : va_P (dC, dI) classes (wM g c v_lp7539 (va_up F_lp7539 24 (upd (F_lp7539 24) (v_lp7539 30 : Int32).toNatClampNeg (vp_nar .byte z7555))) rc) H := hP
            generalize (va_up F_lp7539 24 (upd (F_lp7539 24) (v_lp7539 30 : Int32).toNatClampNeg (vp_nar .byte z7555))) = F7557 at hP hI hF st7558 sn7559
            refine lv_aload_n hx hb dX12_feed_48 rfl (lv_at hl 1 rfl) ?_
            refine lv_dup hx hb dX12_feed_49 rfl ?_
            refine va_get (D := (dC, dI)) (ci := 12) (v := .int (v_lp7539 30)) (C := RX12) (T := TX12) (N := 63) hx hb hwd inA_X12 hown hK hP 0 rfl rfl 30 (by decide) (hwd _ wk_839) (fun _ h9 => h9) rfl dX12_feed_50 ?_
            have t7560 : 0 ≤ (v_lp7539 30).toInt ∧ (v_lp7539 30).toInt ≤ 120 := hI.1 30 _ _ rfl
            refine lv_iconst (v := 1) hx hb dX12_feed_53 (by decide) ?_
            refine lv_iadd hx hb dX12_feed_54 ?_
            refine lv_topi (fun z7561 e7562 => ?_)
            try (have t7563 := tadd e7562 (a := (v_lp7539 30).toInt) rfl (b := 1) (by decide) (by omega))
            refine va_put (D := (dC, dI)) (ci := 12) (v := .int z7561) (ty := .int) (C := RX12) (T := TX12) (N := 63) (fs := fsM_0 g v_lp7539 rc) hx hb hwd inA_X12 tyX12 tyX12_ok nmX12 hown hK hP (DM hg) hS 0 rfl rfl 30 (by decide) (hwd _ wk_839) (fun _ h9 => h9) rfl (by decide +kernel) rfl rfl (Nat.le_of_ble_eq_true rfl) dX12_feed_55 (fun H locs hP _ hS => ?_)
            have hP := va_P_eq (pM_30 g c _ _ _ _) hP
            have hI := IM.put hI 30 z7561 rfl (by omega)
            obtain ⟨z7564, e7565⟩ : ∃ y : Int32, y = x3_lp7539 + 1 := ⟨_, rfl⟩
            try (have t7566 := tadd e7565 rfl (b := 1) (by decide) (by omega))
            refine lv_iinc (v := z7564) (lv' := [(3, .int z7564), (0, .ref (g 0)), (1, .int p0), (2, .int p1)]) hx hb dX12_feed_58 hl (k := 0) rfl (by rw [e7565]; rfl) (by decide) rfl (fun ls hl => ?_)
            refine lv_goto (tgt := 27) hx hb dX12_feed_61 (by decide) ?_
            exact ih_lp7539 z7564 (va_up v_lp7539 30 z7561) F7557 _ _ _ (by omega) (by omega) (by have h9 : (va_up v_lp7539 30 z7561) 30 = z7561 := rfl; (try rw [h9]); clear h9; omega) (fc.step (x := x3_lp7539) t7543 (by omega) (by omega) (j := (v_lp7539 30 : Int32).toNatClampNeg) (by show (((v_lp7539 30 : Int32).toInt.toNat : Nat) : Int) = _; omega) (by show vp_nar .byte z7555 = vp_nar .byte _; rw [e7556, e7553, e7550]) st7558) (by omega) (frU (by decide) hf_lp7539) hI hF hP hS (lv_sub hl [0, 1, 2, 3] rfl)
      obtain ⟨n9, hn9⟩ : ∃ n : Nat, 2147483648 - 0 ≤ (n : Int) := ⟨((2147483648 - 0 : Int)).toNat, by omega⟩
      exact lp7539 n9 0 v F H _ ls (by have : (0 : Int32).toInt = 0 := (by decide); omega) (by have : (0 : Int32).toInt = 0 := (by decide); omega) (by have h9 : v 30 = v 30 := rfl; (try rw [h9]); clear h9; have : (0 : Int32).toInt = 0 := (by decide); omega) (fc.zero (by decide) rfl) (by have : (0 : Int32).toInt = 0 := (by decide); omega) (fun _ _ => rfl) hI hF hP hS hl
    · skip
      have t7567 := cv_nle (a := z7534.toInt) rfl (b := 120) (by decide) c7537
      refine lv_bipush (v := (-3)) hx hb dX12_feed_22 (by decide) ?_
      have hP9 : va_P (dC, dI) classes (wM g c v F rc) H := hP
      exact W.iret (v := (-3)) hx hb hr (fun t ht hW => ⟨⟨(-3), (v, F, rc), rfl, ⟨hI, rfl, (fun _ _ => rfl), hF, (by show (¬ (1 ≤ p0.toInt ∧ p0.toInt ≤ 4) ∧ ((-3) : Int32).toInt = -1 ∧ (v 30).toInt = (v 30).toInt ∧ F 24 = F 24) ∨ ((1 ≤ p0.toInt ∧ p0.toInt ≤ 4) ∧ 120 < (v 30).toInt + p0.toInt ∧ ((-3) : Int32).toInt = -3 ∧ (v 30).toInt = (v 30).toInt ∧ F 24 = F 24) ∨ ((1 ≤ p0.toInt ∧ p0.toInt ≤ 4) ∧ (v 30).toInt + p0.toInt ≤ 120 ∧ ((-3) : Int32).toInt = (v 30).toInt + p0.toInt ∧ (v 30).toInt = (v 30).toInt + p0.toInt ∧ fc (fun x => vp_nar .byte x.toInt8.toInt32) (F 24) (F 24) (v 30).toInt p0.toInt p1); have : ((-3) : Int32).toInt = (-3) := (by decide); exact Or.inr (Or.inl ⟨by omega, by omega, by omega, by omega, rfl⟩))⟩, (by show va_P _ _ _ t.heap; rw [ht]; exact hP9)⟩, hS.F ht⟩) hS.2.2 dX12_feed_24
  · skip
    have t7568 := cv_eq (a := r7528.toInt) rfl (b := 0) (by decide) c7531
    refine lv_iconst (v := (-1)) hx hb dX12_feed_9 (by decide) ?_
    have hP9 : va_P (dC, dI) classes (wM g c v F rc) H := hP
    exact W.iret (v := (-1)) hx hb hr (fun t ht hW => ⟨⟨(-1), (v, F, rc), rfl, ⟨hI, rfl, (fun _ _ => rfl), hF, (by show (¬ (1 ≤ p0.toInt ∧ p0.toInt ≤ 4) ∧ ((-1) : Int32).toInt = -1 ∧ (v 30).toInt = (v 30).toInt ∧ F 24 = F 24) ∨ ((1 ≤ p0.toInt ∧ p0.toInt ≤ 4) ∧ 120 < (v 30).toInt + p0.toInt ∧ ((-1) : Int32).toInt = -3 ∧ (v 30).toInt = (v 30).toInt ∧ F 24 = F 24) ∨ ((1 ≤ p0.toInt ∧ p0.toInt ≤ 4) ∧ (v 30).toInt + p0.toInt ≤ 120 ∧ ((-1) : Int32).toInt = (v 30).toInt + p0.toInt ∧ (v 30).toInt = (v 30).toInt + p0.toInt ∧ fc (fun x => vp_nar .byte x.toInt8.toInt32) (F 24) (F 24) (v 30).toInt p0.toInt p1); have : ((-1) : Int32).toInt = (-1) := (by decide); exact Or.inl ⟨by omega, by omega, by omega, rfl⟩)⟩, (by show va_P _ _ _ t.heap; rw [ht]; exact hP9)⟩, hS.F ht⟩) hS.2.2 dX12_feed_10
