set_option maxHeartbeats 8000000 in
set_option maxRecDepth 100000 in
theorem c_X10_take (l : Launch) (dC : Nat → ClassId) (dI : Nat → Nat → Nat) (g : Nat → Nat) (c : Nat → ClassId) (adK adV : Nat → Nat) (v : Nat → Int32) (F : Nat → Nat → Int32) (rc sz : Nat) (p0 : Int32) (p1 : Int32) (hg : injX g) (hI : IX v F) (h0 : 1 ≤ p0.toInt ∧ p0.toInt ≤ 4) : Met l yX10_take (Cond.code yX10_take cX10_take 4 (some .int) :: wA) ({ frames := 1, cells := 0, slots := 0, locals := 40 }) (va_Pc [.ref (g 5), .int p0, .int p1] (PX dC dI g c adK adV v F rc sz)) (va_Qi (fun (r : Int32) (u : StX) => IX u.1 u.2.1 ∧ alX u.1 u.2.1 = alX v F ∧ u.2.2 = rc ∧ (∀ k, k ∉ ([100] : List Nat) → u.1 k = v k) ∧ True) (BX dC dI g c) (AX g sz)) 0 0 (AX g sz) := by
  refine Met.ofW (cc := cX10_take) (maxL := 4) (ret := (some .int)) (by decide) rfl ?_
  intro p e s m args below meth c0 s₁ B hml hv
  obtain ⟨rfl, hsz, hP, hK, hE⟩ := hv
  have hx := B.exec
  have hb := B.bytes
  have hr := B.returns
  have hts := atoms_spec (ws := Cond.code yX10_take cX10_take 4 (some .int) :: wA) B.pre
  have hwd : ∀ w ∈ wA, w.before _ s = true := fun w h => hts w (List.mem_cons_of_mem _ h)
  have hown : s.vm.findClass RX10 = some m.cls := findClass_of_methodNamed B.named
  have hlocks := B.notSynchronized
  subst hsz
  have hl := lv_entry ([.ref (g 5), .int p0, .int p1]) (n := 4) (Nat.le_of_ble_eq_true rfl)
  rw [lg_entry_eq]
  generalize (lg_sl ([.ref (g 5), .int p0, .int p1]) ++ List.replicate (4 - (lg_sl ([.ref (g 5), .int p0, .int p1])).length) Slot.unset).toArray = ls at hl ⊢
  have hl : lv_has ls 4 [(0, .ref (g 5)), (1, .int p0), (2, .int p1)] := hl
  obtain ⟨H, eH⟩ : ∃ z, z = s.heap := ⟨_, rfl⟩
  have hP : va_P (dC, dI) classes (wX g c v F rc) H := by rw [eH]; exact hP
  have hS : va_S (AX g s.heap.size) s.heap H [] := by rw [eH]; exact va_S.rf
  refine my_heap eH ?_
  have hal : alX v F = alX v F := rfl
  have rp0 := i32_rng p0
  have rp1 := i32_rng p1
  refine lv_aload_n hx hb dX10_take_0 rfl (lv_at hl 0 rfl) ?_
  refine va_get (D := (dC, dI)) (ci := 10) (v := .int (v 100)) (C := RX10) (T := TX10) (N := 2) hx hb hwd inA_X10 hown hK hP 5 rfl rfl 0 (by decide) (hwd _ wk_834) (fun _ h9 => h9) rfl dX10_take_1 ?_
  have t572 : 0 ≤ (v 100).toInt ∧ (v 100).toInt ≤ 120 := hI.1 100 _ _ rfl
  refine lv_iload_n hx hb dX10_take_4 rfl (lv_at hl 1 rfl) ?_
  refine lv_iadd hx hb dX10_take_5 ?_
  refine lv_topi (fun z573 e574 => ?_)
  try (have t575 := tadd e574 (a := (v 100).toInt) rfl (b := p0.toInt) rfl (by omega))
  refine lv_bipush (v := 120) hx hb dX10_take_6 (by decide) ?_
  refine lv_icmp_le (tgt := 14) hx hb dX10_take_8 (by decide) (fun c576 => ?_) (fun c576 => ?_)
  · skip
    have t577 := cv_le (a := z573.toInt) rfl (b := 120) (by decide) c576
    refine lv_iconst (v := 0) hx hb dX10_take_14 (by decide) ?_
    refine lv_istore_n (lv' := [(3, .int 0), (0, .ref (g 5)), (1, .int p0), (2, .int p1)]) hx hb dX10_take_15 rfl hl (by decide) rfl (fun ls hl => ?_)
    have lp578 : ∀ (n : Nat) (x3_lp578 : Int32) (v_lp578 : Nat → Int32) (F_lp578 : Nat → Nat → Int32) (H : Heap) (locs : List Loc) (ls : Array Slot), (0 ≤ x3_lp578.toInt) → (2147483648 - x3_lp578.toInt ≤ (n : Int)) → (∀ k, k ∉ ([] : List Nat) → v_lp578 k = v k) → IX v_lp578 F_lp578 → alX v_lp578 F_lp578 = alX v F → va_P (dC, dI) classes (wX g c v_lp578 F_lp578 rc) H → va_S (AX g s.heap.size) s.heap H locs → lv_has ls 4 [(3, .int x3_lp578), (0, .ref (g 5)), (1, .int p0), (2, .int p1)] → W p l e (headSpec (Cond.code yX10_take cX10_take 4 (some .int) :: wA) ({ frames := 1, cells := 0, slots := 0, locals := 40 })).room s m ([.ref (g 5), .int p0, .int p1] : List Value).toArray below meth c0 H locs 0 0 (MQ below (va_Qi (fun (r : Int32) (u : StX) => IX u.1 u.2.1 ∧ alX u.1 u.2.1 = alX v F ∧ u.2.2 = rc ∧ (∀ k, k ∉ ([100] : List Nat) → u.1 k = v k) ∧ True) (BX dC dI g c) (AX g s.heap.size)) ([.ref (g 5), .int p0, .int p1] : List Value).toArray s 0 0 (AX g s.heap.size)) (F0 m 16 ls []) := by
      intro n
      induction n with
      | zero =>
        intro x3_lp578 v_lp578 F_lp578 H locs ls t579 hm hf_lp578 hI hal hP hS hl
        exfalso
        have := i32_rng x3_lp578
        have hI1 := hI.1
        omega
      | succ n ih_lp578 =>
        intro x3_lp578 v_lp578 F_lp578 H locs ls t579 hm hf_lp578 hI hal hP hS hl
        have rx3_lp578 := i32_rng x3_lp578
        refine lv_iload_n hx hb dX10_take_16 rfl (lv_at hl 0 rfl) ?_
        refine lv_iload_n hx hb dX10_take_17 rfl (lv_at hl 2 rfl) ?_
        refine lv_icmp_ge (tgt := 48) hx hb dX10_take_18 (by decide) (fun c580 => ?_) (fun c580 => ?_)
        · skip
          have t581 := cv_le (a := p0.toInt) rfl (b := x3_lp578.toInt) rfl c580
          refine lv_aload_n hx hb dX10_take_48 rfl (lv_at hl 1 rfl) ?_
          refine lv_dup hx hb dX10_take_49 rfl ?_
          refine va_get (D := (dC, dI)) (ci := 10) (v := .int (v_lp578 100)) (C := RX10) (T := TX10) (N := 2) hx hb hwd inA_X10 hown hK hP 5 rfl rfl 0 (by decide) (hwd _ wk_834) (fun _ h9 => h9) rfl dX10_take_50 ?_
          refine my_top (v := v 100) (hf_lp578 100 (by decide)) ?_
          have t582 : 0 ≤ (v 100).toInt ∧ (v 100).toInt ≤ 120 := by have h9 := hI.1 100 _ _ rfl; rw [show v_lp578 100 = v 100 from hf_lp578 100 (by decide)] at h9; exact h9
          refine lv_iload_n hx hb dX10_take_53 rfl (lv_at hl 2 rfl) ?_
          refine lv_iadd hx hb dX10_take_54 ?_
          refine lv_topi (fun z583 e584 => ?_)
          try (have t585 := tadd e584 (a := (v 100).toInt) rfl (b := p0.toInt) rfl (by omega))
          refine va_put (D := (dC, dI)) (ci := 10) (v := .int z583) (ty := .int) (C := RX10) (T := TX10) (N := 2) (fs := fsX_5 g v_lp578 rc) hx hb hwd inA_X10 tyX10 tyX10_ok nmX10 hown hK hP (DX hg) hS 5 rfl rfl 0 (by decide) (hwd _ wk_834) (fun _ h9 => h9) rfl (by decide +kernel) rfl rfl (Nat.le_of_ble_eq_true rfl) dX10_take_55 (fun H locs hP _ hS => ?_)
          have hP := va_P_eq (pX_100 g c _ _ _ _) hP
          have hI := IX.put hI 100 z583 rfl (by omega)
          have hal := (alX_v _ _ 100 z583 (by decide) (by decide) (by decide) (by decide)).trans hal
          refine lv_aload_n hx hb dX10_take_58 rfl (lv_at hl 1 rfl) ?_
          refine va_get (D := (dC, dI)) (ci := 10) (v := .int z583) (C := RX10) (T := TX10) (N := 2) hx hb hwd inA_X10 hown hK hP 5 rfl rfl 0 (by decide) (hwd _ wk_834) (fun _ h9 => h9) rfl dX10_take_59 ?_
          have t586 : 0 ≤ z583.toInt ∧ z583.toInt ≤ 120 := hI.1 100 _ _ rfl
          have hP9 : va_P (dC, dI) classes (wX g c (va_up v_lp578 100 z583) F_lp578 rc) H := hP
          exact W.iret (v := z583) hx hb hr (fun t ht hW => ⟨⟨z583, ((va_up v_lp578 100 z583), F_lp578, rc), rfl, ⟨hI, hal, rfl, (frU (by decide) (frC (by decide) hf_lp578 (fun _ _ => rfl))), trivial⟩, (by show va_P _ _ _ t.heap; rw [ht]; exact hP9)⟩, hS.F ht⟩) hS.2.2 dX10_take_62
        · skip
          have t587 := cv_nle (a := p0.toInt) rfl (b := x3_lp578.toInt) rfl c580
          refine lv_aload_n hx hb dX10_take_21 rfl (lv_at hl 1 rfl) ?_
          refine va_get (D := (dC, dI)) (ci := 10) (v := .ref (g 39)) (C := RX10) (T := TX10) (N := 2) hx hb hwd inA_X10 hown hK hP 5 rfl rfl 1 (by decide) (hwd _ wk_104) (fun _ h9 => h9) rfl dX10_take_22 ?_
          refine lv_aload_n hx hb dX10_take_25 rfl (lv_at hl 1 rfl) ?_
          refine va_get (D := (dC, dI)) (ci := 10) (v := .int (v_lp578 100)) (C := RX10) (T := TX10) (N := 2) hx hb hwd inA_X10 hown hK hP 5 rfl rfl 0 (by decide) (hwd _ wk_834) (fun _ h9 => h9) rfl dX10_take_26 ?_
          refine my_top (v := v 100) (hf_lp578 100 (by decide)) ?_
          have t588 : 0 ≤ (v 100).toInt ∧ (v 100).toInt ≤ 120 := by have h9 := hI.1 100 _ _ rfl; rw [show v_lp578 100 = v 100 from hf_lp578 100 (by decide)] at h9; exact h9
          refine lv_iload_n hx hb dX10_take_29 rfl (lv_at hl 0 rfl) ?_
          refine lv_iadd hx hb dX10_take_30 ?_
          refine lv_topi (fun z589 e590 => ?_)
          try (have t591 := tadd e590 (a := (v 100).toInt) rfl (b := x3_lp578.toInt) rfl (by omega))
          refine lv_iload_n hx hb dX10_take_31 rfl (lv_at hl 3 rfl) ?_
          refine lv_bipush (v := 8) hx hb dX10_take_32 (by decide) ?_
          refine lv_iload_n hx hb dX10_take_34 rfl (lv_at hl 0 rfl) ?_
          refine lv_imul hx hb dX10_take_35 ?_
          refine lv_topi (fun z592 e593 => ?_)
          try (have t594 := tmul e593 (a := 8) (by decide) (b := x3_lp578.toInt) rfl (by omega))
          refine lv_ishr hx hb dX10_take_36 ?_
          refine lv_topi (fun z595 e596 => ?_)
          refine lv_sipush (v := 255) hx hb dX10_take_37 (by decide) ?_
          refine lv_iand hx hb dX10_take_40 ?_
          refine lv_topi (fun z598 e599 => ?_)
          refine va_iast hx hb hK hP (DX hg) hS 39 27 rfl rfl (i := z589) (x := z598) (vin (a := z589.toInt) rfl (by omega)) dX10_take_41 (fun H locs hP _ hS => ?_)
          have hP := va_P_eq (sX_39 g c _ _ _ _) hP
          have hI := IX.store0 hI 39 (z589 : Int32).toNatClampNeg z598 rfl
          have hal := (alX_F _ _ 39 (upd (F_lp578 39) (z589 : Int32).toNatClampNeg z598) (by decide) (by decide)).trans hal
          have hP : va_P (dC, dI) classes (wX g c v_lp578 (va_up F_lp578 39 (upd (F_lp578 39) (z589 : Int32).toNatClampNeg z598)) rc) H := hP
          generalize (va_up F_lp578 39 (upd (F_lp578 39) (z589 : Int32).toNatClampNeg z598)) = F601 at hP hI hal
          obtain ⟨z602, e603⟩ : ∃ y : Int32, y = x3_lp578 + 1 := ⟨_, rfl⟩
          try (have t604 := tadd e603 rfl (b := 1) (by decide) (by omega))
          refine lv_iinc (v := z602) (lv' := [(3, .int z602), (0, .ref (g 5)), (1, .int p0), (2, .int p1)]) hx hb dX10_take_42 hl (k := 0) rfl (by rw [e603]; rfl) (by decide) rfl (fun ls hl => ?_)
          refine lv_goto (tgt := 16) hx hb dX10_take_45 (by decide) ?_
          exact ih_lp578 z602 v_lp578 F601 _ _ _ (by omega) (by omega) hf_lp578 hI hal hP hS (lv_sub hl [0, 1, 2, 3] rfl)
    obtain ⟨n9, hn9⟩ : ∃ n : Nat, 2147483648 - 0 ≤ (n : Int) := ⟨((2147483648 - 0 : Int)).toNat, by omega⟩
    exact lp578 n9 0 v F H _ ls (by have : (0 : Int32).toInt = 0 := (by decide); omega) (by have : (0 : Int32).toInt = 0 := (by decide); omega) (fun _ _ => rfl) hI hal hP hS hl
  · skip
    have t605 := cv_nle (a := z573.toInt) rfl (b := 120) (by decide) c576
    refine lv_bipush (v := (-3)) hx hb dX10_take_11 (by decide) ?_
    have hP9 : va_P (dC, dI) classes (wX g c v F rc) H := hP
    exact W.iret (v := (-3)) hx hb hr (fun t ht hW => ⟨⟨(-3), (v, F, rc), rfl, ⟨hI, hal, rfl, (fun _ _ => rfl), trivial⟩, (by show va_P _ _ _ t.heap; rw [ht]; exact hP9)⟩, hS.F ht⟩) hS.2.2 dX10_take_13
set_option maxHeartbeats 8000000 in
set_option maxRecDepth 100000 in
theorem c_X10_at (l : Launch) (dC : Nat → ClassId) (dI : Nat → Nat → Nat) (g : Nat → Nat) (c : Nat → ClassId) (adK adV : Nat → Nat) (v : Nat → Int32) (F : Nat → Nat → Int32) (rc sz : Nat) (p0 : Int32) (hg : injX g) (hI : IX v F) : Met l yX10_at (Cond.code yX10_at cX10_at 2 (some .int) :: wA) ({ frames := 1, cells := 0, slots := 0, locals := 40 }) (va_Pc [.ref (g 5), .int p0] (PX dC dI g c adK adV v F rc sz)) (va_Qi (fun (r : Int32) (u : Unit) => True) (fun (_ : Unit) => BX dC dI g c (v, F, rc)) (AX g sz)) 0 0 (AX g sz) := by
  refine Met.ofW (cc := cX10_at) (maxL := 2) (ret := (some .int)) (by decide) rfl ?_
  intro p e s m args below meth c0 s₁ B hml hv
  obtain ⟨rfl, hsz, hP, hK, hE⟩ := hv
  have hx := B.exec
  have hb := B.bytes
  have hr := B.returns
  have hts := atoms_spec (ws := Cond.code yX10_at cX10_at 2 (some .int) :: wA) B.pre
  have hwd : ∀ w ∈ wA, w.before _ s = true := fun w h => hts w (List.mem_cons_of_mem _ h)
  have hown : s.vm.findClass RX10 = some m.cls := findClass_of_methodNamed B.named
  have hlocks := B.notSynchronized
  subst hsz
  have hl := lv_entry ([.ref (g 5), .int p0]) (n := 2) (Nat.le_of_ble_eq_true rfl)
  rw [lg_entry_eq]
  generalize (lg_sl ([.ref (g 5), .int p0]) ++ List.replicate (2 - (lg_sl ([.ref (g 5), .int p0])).length) Slot.unset).toArray = ls at hl ⊢
  have hl : lv_has ls 2 [(0, .ref (g 5)), (1, .int p0)] := hl
  obtain ⟨H, eH⟩ : ∃ z, z = s.heap := ⟨_, rfl⟩
  have hP : va_P (dC, dI) classes (wX g c v F rc) H := by rw [eH]; exact hP
  have hS : va_S (AX g s.heap.size) s.heap H [] := by rw [eH]; exact va_S.rf
  refine my_heap eH ?_
  have rp0 := i32_rng p0
  refine lv_iload_n hx hb dX10_at_0 rfl (lv_at hl 1 rfl) ?_
  refine lv_if_lt (tgt := 21) hx hb dX10_at_1 (by decide) (fun c606 => ?_) (fun c606 => ?_)
  · skip
    have t607 := cv_lt (a := p0.toInt) rfl (b := 0) (by decide) c606
    refine lv_iconst (v := (-1)) hx hb dX10_at_21 (by decide) ?_
    have hP9 : va_P (dC, dI) classes (wX g c v F rc) H := hP
    exact W.iret (v := (-1)) hx hb hr (fun t ht hW => ⟨⟨(-1), (), rfl, trivial, (by show va_P _ _ _ t.heap; rw [ht]; exact hP9)⟩, hS.F ht⟩) hS.2.2 dX10_at_22
  · skip
    have t608 := cv_nlt (a := p0.toInt) rfl (b := 0) (by decide) c606
    refine lv_iload_n hx hb dX10_at_4 rfl (lv_at hl 1 rfl) ?_
    refine lv_aload_n hx hb dX10_at_5 rfl (lv_at hl 0 rfl) ?_
    refine va_get (D := (dC, dI)) (ci := 10) (v := .int (v 100)) (C := RX10) (T := TX10) (N := 2) hx hb hwd inA_X10 hown hK hP 5 rfl rfl 0 (by decide) (hwd _ wk_834) (fun _ h9 => h9) rfl dX10_at_6 ?_
    have t609 : 0 ≤ (v 100).toInt ∧ (v 100).toInt ≤ 120 := hI.1 100 _ _ rfl
    refine lv_icmp_ge (tgt := 21) hx hb dX10_at_9 (by decide) (fun c610 => ?_) (fun c610 => ?_)
    · skip
      have t611 := cv_le (a := (v 100).toInt) rfl (b := p0.toInt) rfl c610
      refine lv_iconst (v := (-1)) hx hb dX10_at_21 (by decide) ?_
      have hP9 : va_P (dC, dI) classes (wX g c v F rc) H := hP
      exact W.iret (v := (-1)) hx hb hr (fun t ht hW => ⟨⟨(-1), (), rfl, trivial, (by show va_P _ _ _ t.heap; rw [ht]; exact hP9)⟩, hS.F ht⟩) hS.2.2 dX10_at_22
    · skip
      have t612 := cv_nle (a := (v 100).toInt) rfl (b := p0.toInt) rfl c610
      refine lv_aload_n hx hb dX10_at_12 rfl (lv_at hl 0 rfl) ?_
      refine va_get (D := (dC, dI)) (ci := 10) (v := .ref (g 39)) (C := RX10) (T := TX10) (N := 2) hx hb hwd inA_X10 hown hK hP 5 rfl rfl 1 (by decide) (hwd _ wk_104) (fun _ h9 => h9) rfl dX10_at_13 ?_
      refine lv_iload_n hx hb dX10_at_16 rfl (lv_at hl 1 rfl) ?_
      refine va_iald hx hb hK hP 39 27 rfl rfl (i := p0) (vin (a := p0.toInt) rfl (by omega)) dX10_at_17 ?_
      refine lv_topi (fun z613 e614 => ?_)
      refine lv_goto (tgt := 22) hx hb dX10_at_18 (by decide) ?_
      have hP9 : va_P (dC, dI) classes (wX g c v F rc) H := hP
      exact W.iret (v := z613) hx hb hr (fun t ht hW => ⟨⟨z613, (), rfl, trivial, (by show va_P _ _ _ t.heap; rw [ht]; exact hP9)⟩, hS.F ht⟩) hS.2.2 dX10_at_22
set_option maxHeartbeats 8000000 in
set_option maxRecDepth 100000 in
theorem c_X10_hasDigitAt (l : Launch) (dC : Nat → ClassId) (dI : Nat → Nat → Nat) (g : Nat → Nat) (c : Nat → ClassId) (adK adV : Nat → Nat) (v : Nat → Int32) (F : Nat → Nat → Int32) (rc sz : Nat) (p0 : Int32) (hg : injX g) (hI : IX v F) : Met l yX10_hasDigitAt (Cond.code yX10_hasDigitAt cX10_hasDigitAt 2 (some .boolean) :: wA) ({ frames := 2, cells := 0, slots := 0, locals := 80 }) (va_Pc [.ref (g 5), .int p0] (PX dC dI g c adK adV v F rc sz)) (va_Qi (fun (r : Int32) (u : Unit) => 0 ≤ r.toInt ∧ r.toInt ≤ 1) (fun (_ : Unit) => BX dC dI g c (v, F, rc)) (AX g sz)) 0 0 (AX g sz) := by
  refine Met.ofW (cc := cX10_hasDigitAt) (maxL := 2) (ret := (some .boolean)) (by decide) rfl ?_
  intro p e s m args below meth c0 s₁ B hml hv
  obtain ⟨rfl, hsz, hP, hK, hE⟩ := hv
  have hx := B.exec
  have hb := B.bytes
  have hr := B.returns
  have hts := atoms_spec (ws := Cond.code yX10_hasDigitAt cX10_hasDigitAt 2 (some .boolean) :: wA) B.pre
  have hwd : ∀ w ∈ wA, w.before _ s = true := fun w h => hts w (List.mem_cons_of_mem _ h)
  have hown : s.vm.findClass RX10 = some m.cls := findClass_of_methodNamed B.named
  have hlocks := B.notSynchronized
  subst hsz
  have hl := lv_entry ([.ref (g 5), .int p0]) (n := 2) (Nat.le_of_ble_eq_true rfl)
  rw [lg_entry_eq]
  generalize (lg_sl ([.ref (g 5), .int p0]) ++ List.replicate (2 - (lg_sl ([.ref (g 5), .int p0])).length) Slot.unset).toArray = ls at hl ⊢
  have hl : lv_has ls 2 [(0, .ref (g 5)), (1, .int p0)] := hl
  obtain ⟨H, eH⟩ : ∃ z, z = s.heap := ⟨_, rfl⟩
  have hP : va_P (dC, dI) classes (wX g c v F rc) H := by rw [eH]; exact hP
  have hS : va_S (AX g s.heap.size) s.heap H [] := by rw [eH]; exact va_S.rf
  refine my_heap eH ?_
  have rp0 := i32_rng p0
  refine lv_aload_n hx hb dX10_hasDigitAt_0 rfl (lv_at hl 0 rfl) ?_
  refine lv_iload_n hx hb dX10_hasDigitAt_1 rfl (lv_at hl 1 rfl) ?_
  refine va_calli (va_runV (As := [.int p0]) (rest := []) ⟨hx, hb, hml, hown, hwd⟩ (c_X10_at l dC dI g c adK adV v F rc H.size p0 hg hI ) (cwV 1 hwd (gV wk_870 wk_984 wk_868 wk_869 wk_30) rfl rfl rfl (by decide +kernel) ⟨Nat.le_of_ble_eq_true rfl, Nat.le_of_ble_eq_true rfl⟩) ⟨PX.blind, va_recv hK hP (ci := 10) (q0 := 5) rfl rfl, fun U hU hW => ⟨rfl, PX.at hK hE hP hS hU hW⟩⟩ rfl rfl hl.1 rfl (lv_room (Nat.le_of_ble_eq_true rfl)) dX10_hasDigitAt_2 ⟨Nat.le_of_ble_eq_true rfl, Nat.le_of_ble_eq_true rfl⟩) hS (fun q _ h => (freeX hS) q h) (freeX hS) (fun r615 u t H1 locs ht hvm hw hB hz1 hk1 hS => ?_)
  unfold BX at hB
  rw [ht] at hB
  have hP : va_P (dC, dI) classes (wX g c v F rc) H1 := hB
  generalize H1 = H at hP hS ⊢
  have rr_r615 := i32_rng r615
  refine lv_bipush (v := 48) hx hb dX10_hasDigitAt_5 (by decide) ?_
  refine lv_icmp_lt (tgt := 24) hx hb dX10_hasDigitAt_7 (by decide) (fun c616 => ?_) (fun c616 => ?_)
  · skip
    have t617 := cv_lt (a := r615.toInt) rfl (b := 48) (by decide) c616
    refine lv_iconst (v := 0) hx hb dX10_hasDigitAt_24 (by decide) ?_
    have hP9 : va_P (dC, dI) classes (wX g c v F rc) H := hP
    exact W.zret (v := 0) hx hb hr (rfl) (fun t ht hW => ⟨⟨0, (), rfl, by have : (0 : Int32).toInt = 0 := (by decide); omega, (by show va_P _ _ _ t.heap; rw [ht]; exact hP9)⟩, hS.F ht⟩) hS.2.2 dX10_hasDigitAt_25
  · skip
    have t618 := cv_nlt (a := r615.toInt) rfl (b := 48) (by decide) c616
    refine lv_aload_n hx hb dX10_hasDigitAt_10 rfl (lv_at hl 0 rfl) ?_
    refine lv_iload_n hx hb dX10_hasDigitAt_11 rfl (lv_at hl 1 rfl) ?_
    refine va_calli (va_runV (As := [.int p0]) (rest := []) ⟨hx, hb, hml, hown, hwd⟩ (c_X10_at l dC dI g c adK adV v F rc H.size p0 hg hI ) (cwV 1 hwd (gV wk_870 wk_984 wk_868 wk_869 wk_30) rfl rfl rfl (by decide +kernel) ⟨Nat.le_of_ble_eq_true rfl, Nat.le_of_ble_eq_true rfl⟩) ⟨PX.blind, va_recv hK hP (ci := 10) (q0 := 5) rfl rfl, fun U hU hW => ⟨rfl, PX.at hK hE hP hS hU hW⟩⟩ rfl rfl hl.1 rfl (lv_room (Nat.le_of_ble_eq_true rfl)) dX10_hasDigitAt_12 ⟨Nat.le_of_ble_eq_true rfl, Nat.le_of_ble_eq_true rfl⟩) hS (fun q _ h => (freeX hS) q h) (freeX hS) (fun r619 u t H1 locs ht hvm hw hB hz1 hk1 hS => ?_)
    unfold BX at hB
    rw [ht] at hB
    have hP : va_P (dC, dI) classes (wX g c v F rc) H1 := hB
    generalize H1 = H at hP hS ⊢
    have rr_r619 := i32_rng r619
    refine lv_bipush (v := 57) hx hb dX10_hasDigitAt_15 (by decide) ?_
    refine lv_icmp_gt (tgt := 24) hx hb dX10_hasDigitAt_17 (by decide) (fun c620 => ?_) (fun c620 => ?_)
    · skip
      have t621 := cv_lt (a := 57) (by decide) (b := r619.toInt) rfl c620
      refine lv_iconst (v := 0) hx hb dX10_hasDigitAt_24 (by decide) ?_
      have hP9 : va_P (dC, dI) classes (wX g c v F rc) H := hP
      exact W.zret (v := 0) hx hb hr (rfl) (fun t ht hW => ⟨⟨0, (), rfl, by have : (0 : Int32).toInt = 0 := (by decide); omega, (by show va_P _ _ _ t.heap; rw [ht]; exact hP9)⟩, hS.F ht⟩) hS.2.2 dX10_hasDigitAt_25
    · skip
      have t622 := cv_nlt (a := 57) (by decide) (b := r619.toInt) rfl c620
      refine lv_iconst (v := 1) hx hb dX10_hasDigitAt_20 (by decide) ?_
      refine lv_goto (tgt := 25) hx hb dX10_hasDigitAt_21 (by decide) ?_
      have hP9 : va_P (dC, dI) classes (wX g c v F rc) H := hP
      exact W.zret (v := 1) hx hb hr (rfl) (fun t ht hW => ⟨⟨1, (), rfl, by have : (1 : Int32).toInt = 1 := (by decide); omega, (by show va_P _ _ _ t.heap; rw [ht]; exact hP9)⟩, hS.F ht⟩) hS.2.2 dX10_hasDigitAt_25
set_option maxHeartbeats 8000000 in
set_option maxRecDepth 100000 in
theorem c_X10_digitsAt (l : Launch) (dC : Nat → ClassId) (dI : Nat → Nat → Nat) (g : Nat → Nat) (c : Nat → ClassId) (adK adV : Nat → Nat) (v : Nat → Int32) (F : Nat → Nat → Int32) (rc sz : Nat) (p0 : Int32) (hg : injX g) (hI : IX v F) : Met l yX10_digitsAt (Cond.code yX10_digitsAt cX10_digitsAt 3 (some .int) :: wA) ({ frames := 3, cells := 0, slots := 0, locals := 120 }) (va_Pc [.ref (g 5), .int p0] (PX dC dI g c adK adV v F rc sz)) (va_Qi (fun (r : Int32) (u : Unit) => 0 ≤ r.toInt ∧ r.toInt ≤ 5) (fun (_ : Unit) => BX dC dI g c (v, F, rc)) (AX g sz)) 0 0 (AX g sz) := by
  refine Met.ofW (cc := cX10_digitsAt) (maxL := 3) (ret := (some .int)) (by decide) rfl ?_
  intro p e s m args below meth c0 s₁ B hml hv
  obtain ⟨rfl, hsz, hP, hK, hE⟩ := hv
  have hx := B.exec
  have hb := B.bytes
  have hr := B.returns
  have hts := atoms_spec (ws := Cond.code yX10_digitsAt cX10_digitsAt 3 (some .int) :: wA) B.pre
  have hwd : ∀ w ∈ wA, w.before _ s = true := fun w h => hts w (List.mem_cons_of_mem _ h)
  have hown : s.vm.findClass RX10 = some m.cls := findClass_of_methodNamed B.named
  have hlocks := B.notSynchronized
  subst hsz
  have hl := lv_entry ([.ref (g 5), .int p0]) (n := 3) (Nat.le_of_ble_eq_true rfl)
  rw [lg_entry_eq]
  generalize (lg_sl ([.ref (g 5), .int p0]) ++ List.replicate (3 - (lg_sl ([.ref (g 5), .int p0])).length) Slot.unset).toArray = ls at hl ⊢
  have hl : lv_has ls 3 [(0, .ref (g 5)), (1, .int p0)] := hl
  obtain ⟨H, eH⟩ : ∃ z, z = s.heap := ⟨_, rfl⟩
  have hP : va_P (dC, dI) classes (wX g c v F rc) H := by rw [eH]; exact hP
  have hS : va_S (AX g s.heap.size) s.heap H [] := by rw [eH]; exact va_S.rf
  refine my_heap eH ?_
  have rp0 := i32_rng p0
  refine lv_iconst (v := 0) hx hb dX10_digitsAt_0 (by decide) ?_
  refine lv_istore_n (lv' := [(2, .int 0), (0, .ref (g 5)), (1, .int p0)]) hx hb dX10_digitsAt_1 rfl hl (by decide) rfl (fun ls hl => ?_)
  have lp623 : ∀ (n : Nat) (x2_lp623 : Int32) (H : Heap) (locs : List Loc) (ls : Array Slot), (0 ≤ x2_lp623.toInt) → (x2_lp623.toInt ≤ 5) → (2147483648 - x2_lp623.toInt ≤ (n : Int)) → va_P (dC, dI) classes (wX g c v F rc) H → va_S (AX g s.heap.size) s.heap H locs → lv_has ls 3 [(2, .int x2_lp623), (0, .ref (g 5)), (1, .int p0)] → W p l e (headSpec (Cond.code yX10_digitsAt cX10_digitsAt 3 (some .int) :: wA) ({ frames := 3, cells := 0, slots := 0, locals := 120 })).room s m ([.ref (g 5), .int p0] : List Value).toArray below meth c0 H locs 0 0 (MQ below (va_Qi (fun (r : Int32) (u : Unit) => 0 ≤ r.toInt ∧ r.toInt ≤ 5) (fun (_ : Unit) => BX dC dI g c (v, F, rc)) (AX g s.heap.size)) ([.ref (g 5), .int p0] : List Value).toArray s 0 0 (AX g s.heap.size)) (F0 m 2 ls []) := by
    intro n
    induction n with
    | zero =>
      intro x2_lp623 H locs ls t624 t625 hm hP hS hl
      exfalso
      have := i32_rng x2_lp623
      omega
    | succ n ih_lp623 =>
      intro x2_lp623 H locs ls t624 t625 hm hP hS hl
      have rx2_lp623 := i32_rng x2_lp623
      refine lv_iload_n hx hb dX10_digitsAt_2 rfl (lv_at hl 0 rfl) ?_
      refine lv_iconst (v := 5) hx hb dX10_digitsAt_3 (by decide) ?_
      refine lv_icmp_ge (tgt := 23) hx hb dX10_digitsAt_4 (by decide) (fun c626 => ?_) (fun c626 => ?_)
      · skip
        have t627 := cv_le (a := 5) (by decide) (b := x2_lp623.toInt) rfl c626
        refine lv_iload_n hx hb dX10_digitsAt_23 rfl (lv_at hl 0 rfl) ?_
        have hP9 : va_P (dC, dI) classes (wX g c v F rc) H := hP
        exact W.iret (v := x2_lp623) hx hb hr (fun t ht hW => ⟨⟨x2_lp623, (), rfl, by omega, (by show va_P _ _ _ t.heap; rw [ht]; exact hP9)⟩, hS.F ht⟩) hS.2.2 dX10_digitsAt_24
      · skip
        have t628 := cv_nle (a := 5) (by decide) (b := x2_lp623.toInt) rfl c626
        refine lv_aload_n hx hb dX10_digitsAt_7 rfl (lv_at hl 1 rfl) ?_
        refine lv_iload_n hx hb dX10_digitsAt_8 rfl (lv_at hl 2 rfl) ?_
        refine lv_iload_n hx hb dX10_digitsAt_9 rfl (lv_at hl 0 rfl) ?_
        refine lv_iadd hx hb dX10_digitsAt_10 ?_
        refine lv_topi (fun z629 e630 => ?_)
        try (have t631 := tadd e630 (a := p0.toInt) rfl (b := x2_lp623.toInt) rfl (by omega))
        refine va_calli (va_runV (As := [.int z629]) (rest := []) ⟨hx, hb, hml, hown, hwd⟩ (c_X10_hasDigitAt l dC dI g c adK adV v F rc H.size z629 hg hI ) (cwV 1 hwd (gV wk_983 wk_980 wk_981 wk_982 wk_30) rfl rfl rfl (by decide +kernel) ⟨Nat.le_of_ble_eq_true rfl, Nat.le_of_ble_eq_true rfl⟩) ⟨PX.blind, va_recv hK hP (ci := 10) (q0 := 5) rfl rfl, fun U hU hW => ⟨rfl, PX.at hK hE hP hS hU hW⟩⟩ rfl rfl hl.1 rfl (lv_room (Nat.le_of_ble_eq_true rfl)) dX10_digitsAt_11 ⟨Nat.le_of_ble_eq_true rfl, Nat.le_of_ble_eq_true rfl⟩) hS (fun q _ h => (freeX hS) q h) (freeX hS) (fun r632 u t H1 locs ht hvm hw hB hz1 hk1 hS => ?_)
        unfold BX at hB
        rw [ht] at hB
        have hP : va_P (dC, dI) classes (wX g c v F rc) H1 := hB
        have hw : 0 ≤ r632.toInt ∧ r632.toInt ≤ 1 := hw
        generalize H1 = H at hP hS ⊢
        have hw_r632 := hw
        refine lv_if_eq (tgt := 23) hx hb dX10_digitsAt_14 (by decide) (fun c633 => ?_) (fun c633 => ?_)
        · skip
          have t634 := cv_eq (a := r632.toInt) rfl (b := 0) (by decide) c633
          refine lv_iload_n hx hb dX10_digitsAt_23 rfl (lv_at hl 0 rfl) ?_
          have hP9 : va_P (dC, dI) classes (wX g c v F rc) H := hP
          exact W.iret (v := x2_lp623) hx hb hr (fun t ht hW => ⟨⟨x2_lp623, (), rfl, by omega, (by show va_P _ _ _ t.heap; rw [ht]; exact hP9)⟩, hS.F ht⟩) hS.2.2 dX10_digitsAt_24
        · skip
          have t635 := cv_ne (a := r632.toInt) rfl (b := 0) (by decide) c633
          obtain ⟨z636, e637⟩ : ∃ y : Int32, y = x2_lp623 + 1 := ⟨_, rfl⟩
          try (have t638 := tadd e637 rfl (b := 1) (by decide) (by omega))
          refine lv_iinc (v := z636) (lv' := [(2, .int z636), (0, .ref (g 5)), (1, .int p0)]) hx hb dX10_digitsAt_17 hl (k := 0) rfl (by rw [e637]; rfl) (by decide) rfl (fun ls hl => ?_)
          refine lv_goto (tgt := 2) hx hb dX10_digitsAt_20 (by decide) ?_
          exact ih_lp623 z636  _ _ _ (by omega) (by omega) (by omega) hP hS (lv_sub hl [0, 1, 2] rfl)
  obtain ⟨n9, hn9⟩ : ∃ n : Nat, 2147483648 - 0 ≤ (n : Int) := ⟨((2147483648 - 0 : Int)).toNat, by omega⟩
  exact lp623 n9 0  H _ ls (by have : (0 : Int32).toInt = 0 := (by decide); omega) (by have : (0 : Int32).toInt = 0 := (by decide); omega) (by have : (0 : Int32).toInt = 0 := (by decide); omega) hP hS hl
set_option maxHeartbeats 8000000 in
set_option maxRecDepth 100000 in
theorem c_X10_numberAt (l : Launch) (dC : Nat → ClassId) (dI : Nat → Nat → Nat) (g : Nat → Nat) (c : Nat → ClassId) (adK adV : Nat → Nat) (v : Nat → Int32) (F : Nat → Nat → Int32) (rc sz : Nat) (p0 : Int32) (p1 : Int32) (hg : injX g) (hI : IX v F) (h1 : 0 ≤ p1.toInt ∧ p1.toInt ≤ 5) : Met l yX10_numberAt (Cond.code yX10_numberAt cX10_numberAt 5 (some .int) :: wA) ({ frames := 2, cells := 0, slots := 0, locals := 80 }) (va_Pc [.ref (g 5), .int p0, .int p1] (PX dC dI g c adK adV v F rc sz)) (va_Qi (fun (r : Int32) (u : Unit) => True) (fun (_ : Unit) => BX dC dI g c (v, F, rc)) (AX g sz)) 0 0 (AX g sz) := by
  refine Met.ofW (cc := cX10_numberAt) (maxL := 5) (ret := (some .int)) (by decide) rfl ?_
  intro p e s m args below meth c0 s₁ B hml hv
  obtain ⟨rfl, hsz, hP, hK, hE⟩ := hv
  have hx := B.exec
  have hb := B.bytes
  have hr := B.returns
  have hts := atoms_spec (ws := Cond.code yX10_numberAt cX10_numberAt 5 (some .int) :: wA) B.pre
  have hwd : ∀ w ∈ wA, w.before _ s = true := fun w h => hts w (List.mem_cons_of_mem _ h)
  have hown : s.vm.findClass RX10 = some m.cls := findClass_of_methodNamed B.named
  have hlocks := B.notSynchronized
  subst hsz
  have hl := lv_entry ([.ref (g 5), .int p0, .int p1]) (n := 5) (Nat.le_of_ble_eq_true rfl)
  rw [lg_entry_eq]
  generalize (lg_sl ([.ref (g 5), .int p0, .int p1]) ++ List.replicate (5 - (lg_sl ([.ref (g 5), .int p0, .int p1])).length) Slot.unset).toArray = ls at hl ⊢
  have hl : lv_has ls 5 [(0, .ref (g 5)), (1, .int p0), (2, .int p1)] := hl
  obtain ⟨H, eH⟩ : ∃ z, z = s.heap := ⟨_, rfl⟩
  have hP : va_P (dC, dI) classes (wX g c v F rc) H := by rw [eH]; exact hP
  have hS : va_S (AX g s.heap.size) s.heap H [] := by rw [eH]; exact va_S.rf
  refine my_heap eH ?_
  have rp0 := i32_rng p0
  have rp1 := i32_rng p1
  refine lv_iconst (v := 0) hx hb dX10_numberAt_0 (by decide) ?_
  refine lv_istore_n (lv' := [(3, .int 0), (0, .ref (g 5)), (1, .int p0), (2, .int p1)]) hx hb dX10_numberAt_1 rfl hl (by decide) rfl (fun ls hl => ?_)
  refine lv_iconst (v := 0) hx hb dX10_numberAt_2 (by decide) ?_
  refine lv_istore (lv' := [(4, .int 0), (3, .int 0), (0, .ref (g 5)), (1, .int p0), (2, .int p1)]) hx hb dX10_numberAt_3 hl (by decide) rfl (fun ls hl => ?_)
  have lp639 : ∀ (n : Nat) (x4_lp639 : Int32) (x3_lp639 : Int32) (H : Heap) (locs : List Loc) (ls : Array Slot), (0 ≤ x4_lp639.toInt) → (2147483648 - x4_lp639.toInt ≤ (n : Int)) → va_P (dC, dI) classes (wX g c v F rc) H → va_S (AX g s.heap.size) s.heap H locs → lv_has ls 5 [(4, .int x4_lp639), (3, .int x3_lp639), (0, .ref (g 5)), (1, .int p0), (2, .int p1)] → W p l e (headSpec (Cond.code yX10_numberAt cX10_numberAt 5 (some .int) :: wA) ({ frames := 2, cells := 0, slots := 0, locals := 80 })).room s m ([.ref (g 5), .int p0, .int p1] : List Value).toArray below meth c0 H locs 0 0 (MQ below (va_Qi (fun (r : Int32) (u : Unit) => True) (fun (_ : Unit) => BX dC dI g c (v, F, rc)) (AX g s.heap.size)) ([.ref (g 5), .int p0, .int p1] : List Value).toArray s 0 0 (AX g s.heap.size)) (F0 m 5 ls []) := by
    intro n
    induction n with
    | zero =>
      intro x4_lp639 x3_lp639 H locs ls t640 hm hP hS hl
      exfalso
      have := i32_rng x4_lp639
      have := i32_rng x3_lp639
      omega
    | succ n ih_lp639 =>
      intro x4_lp639 x3_lp639 H locs ls t640 hm hP hS hl
      have rx4_lp639 := i32_rng x4_lp639
      have rx3_lp639 := i32_rng x3_lp639
      refine lv_iload hx hb dX10_numberAt_5 (lv_at hl 0 rfl) ?_
      refine lv_iload_n hx hb dX10_numberAt_7 rfl (lv_at hl 4 rfl) ?_
      refine lv_icmp_ge (tgt := 34) hx hb dX10_numberAt_8 (by decide) (fun c641 => ?_) (fun c641 => ?_)
      · skip
        have t642 := cv_le (a := p1.toInt) rfl (b := x4_lp639.toInt) rfl c641
        refine lv_iload_n hx hb dX10_numberAt_34 rfl (lv_at hl 1 rfl) ?_
        have hP9 : va_P (dC, dI) classes (wX g c v F rc) H := hP
        exact W.iret (v := x3_lp639) hx hb hr (fun t ht hW => ⟨⟨x3_lp639, (), rfl, trivial, (by show va_P _ _ _ t.heap; rw [ht]; exact hP9)⟩, hS.F ht⟩) hS.2.2 dX10_numberAt_35
      · skip
        have t643 := cv_nle (a := p1.toInt) rfl (b := x4_lp639.toInt) rfl c641
        refine lv_iload_n hx hb dX10_numberAt_11 rfl (lv_at hl 1 rfl) ?_
        refine lv_bipush (v := 10) hx hb dX10_numberAt_12 (by decide) ?_
        refine lv_imul hx hb dX10_numberAt_14 ?_
        refine lv_topi (fun z644 e645 => ?_)
        try (have t646 := tmul e645 (a := x3_lp639.toInt) rfl (b := 10) (by decide) (by omega))
        refine lv_aload_n hx hb dX10_numberAt_15 rfl (lv_at hl 2 rfl) ?_
        refine lv_iload_n hx hb dX10_numberAt_16 rfl (lv_at hl 3 rfl) ?_
        refine lv_iload hx hb dX10_numberAt_17 (lv_at hl 0 rfl) ?_
        refine lv_iadd hx hb dX10_numberAt_19 ?_
        refine lv_topi (fun z647 e648 => ?_)
        try (have t649 := tadd e648 (a := p0.toInt) rfl (b := x4_lp639.toInt) rfl (by omega))
        refine va_calli (va_runV (As := [.int z647]) (rest := [.int z644]) ⟨hx, hb, hml, hown, hwd⟩ (c_X10_at l dC dI g c adK adV v F rc H.size z647 hg hI ) (cwV 1 hwd (gV wk_870 wk_984 wk_868 wk_869 wk_30) rfl rfl rfl (by decide +kernel) ⟨Nat.le_of_ble_eq_true rfl, Nat.le_of_ble_eq_true rfl⟩) ⟨PX.blind, va_recv hK hP (ci := 10) (q0 := 5) rfl rfl, fun U hU hW => ⟨rfl, PX.at hK hE hP hS hU hW⟩⟩ rfl rfl hl.1 rfl (lv_room (Nat.le_of_ble_eq_true rfl)) dX10_numberAt_20 ⟨Nat.le_of_ble_eq_true rfl, Nat.le_of_ble_eq_true rfl⟩) hS (fun q _ h => (freeX hS) q h) (freeX hS) (fun r650 u t H1 locs ht hvm hw hB hz1 hk1 hS => ?_)
        unfold BX at hB
        rw [ht] at hB
        have hP : va_P (dC, dI) classes (wX g c v F rc) H1 := hB
        generalize H1 = H at hP hS ⊢
        have rr_r650 := i32_rng r650
        refine lv_iadd hx hb dX10_numberAt_23 ?_
        refine lv_topi (fun z651 e652 => ?_)
        try (have t653 := tadd e652 (a := z644.toInt) rfl (b := r650.toInt) rfl (by omega))
        refine lv_bipush (v := 48) hx hb dX10_numberAt_24 (by decide) ?_
        refine lv_isub hx hb dX10_numberAt_26 ?_
        refine lv_topi (fun z654 e655 => ?_)
        try (have t656 := tsub e655 (a := z651.toInt) rfl (b := 48) (by decide) (by omega))
        refine lv_istore_n (lv' := [(3, .int z654), (4, .int x4_lp639), (0, .ref (g 5)), (1, .int p0), (2, .int p1)]) hx hb dX10_numberAt_27 rfl hl (by decide) rfl (fun ls hl => ?_)
        obtain ⟨z657, e658⟩ : ∃ y : Int32, y = x4_lp639 + 1 := ⟨_, rfl⟩
        try (have t659 := tadd e658 rfl (b := 1) (by decide) (by omega))
        refine lv_iinc (v := z657) (lv' := [(4, .int z657), (3, .int z654), (0, .ref (g 5)), (1, .int p0), (2, .int p1)]) hx hb dX10_numberAt_28 hl (k := 1) rfl (by rw [e658]; rfl) (by decide) rfl (fun ls hl => ?_)
        refine lv_goto (tgt := 5) hx hb dX10_numberAt_31 (by decide) ?_
        exact ih_lp639 z657 z654  _ _ _ (by omega) (by omega) hP hS (lv_sub hl [0, 1, 2, 3, 4] rfl)
  obtain ⟨n9, hn9⟩ : ∃ n : Nat, 2147483648 - 0 ≤ (n : Int) := ⟨((2147483648 - 0 : Int)).toNat, by omega⟩
  exact lp639 n9 0 0  H _ ls (by have : (0 : Int32).toInt = 0 := (by decide); have : (0 : Int32).toInt = 0 := (by decide); omega) (by have : (0 : Int32).toInt = 0 := (by decide); have : (0 : Int32).toInt = 0 := (by decide); omega) hP hS hl
