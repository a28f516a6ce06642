set_option maxHeartbeats 8000000 in
set_option maxRecDepth 100000 in
theorem c_X8_isBack_x (l : Launch) (dC : Nat → ClassId) (dI : Nat → Nat → Nat) (g : Nat → Nat) (c : Nat → ClassId) (adK adV : Nat → Nat) (v : Nat → Int32) (F : Nat → Nat → Int32) (rc sz : Nat) (p0 : Int32) (hg : injX g) (hI : IX v F) (h0 : 0 ≤ p0.toInt ∧ p0.toInt ≤ 9) : Met l yX8_isBack (Cond.code yX8_isBack cX8_isBack 2 (some .boolean) :: wA) ({ frames := 1, cells := 0, slots := 0, locals := 40 }) (va_Pc [.ref (g 2), .int p0] (PX dC dI g c adK adV v F rc sz)) (va_Qi (fun (r : Int32) (u : Unit) => (r.toInt = 1 ∧ 0 ≤ (F 19 p0.toNatClampNeg).toInt) ∨ (r.toInt = 0 ∧ (F 19 p0.toNatClampNeg).toInt < 0)) (fun (_ : Unit) => BX dC dI g c (v, F, rc)) (AX g sz)) 0 0 (AX g sz) := by
  refine Met.ofW (cc := cX8_isBack) (maxL := 2) (ret := (some .boolean)) (by decide) rfl ?_
  intro p e s m args below meth c0 s₁ B hml hv
  obtain ⟨rfl, hsz, hP, hK, hE⟩ := hv
  have hx := B.exec
  have hb := B.bytes
  have hr := B.returns
  have hts := atoms_spec (ws := Cond.code yX8_isBack cX8_isBack 2 (some .boolean) :: wA) B.pre
  have hwd : ∀ w ∈ wA, w.before _ s = true := fun w h => hts w (List.mem_cons_of_mem _ h)
  have hown : s.vm.findClass RX8 = some m.cls := findClass_of_methodNamed B.named
  have hlocks := B.notSynchronized
  subst hsz
  have hl := lv_entry ([.ref (g 2), .int p0]) (n := 2) (Nat.le_of_ble_eq_true rfl)
  rw [lg_entry_eq]
  generalize (lg_sl ([.ref (g 2), .int p0]) ++ List.replicate (2 - (lg_sl ([.ref (g 2), .int p0])).length) Slot.unset).toArray = ls at hl ⊢
  have hl : lv_has ls 2 [(0, .ref (g 2)), (1, .int p0)] := hl
  obtain ⟨H, eH⟩ : ∃ z, z = s.heap := ⟨_, rfl⟩
  have hP : va_P (dC, dI) classes (wX g c v F rc) H := by rw [eH]; exact hP
  have hS : va_S (AX g s.heap.size) s.heap H [] := by rw [eH]; exact va_S.rf
  refine my_heap eH ?_
  have rp0 := i32_rng p0
  refine lv_aload_n hx hb dX8_isBack_0 rfl (lv_at hl 0 rfl) ?_
  refine va_get (D := (dC, dI)) (ci := 8) (v := .ref (g 19)) (C := RX8) (T := TX8) (N := 10) hx hb hwd inA_X8 hown hK hP 2 rfl rfl 5 (by decide) (hwd _ wk_72) (fun _ h9 => h9) rfl dX8_isBack_1 ?_
  refine lv_iload_n hx hb dX8_isBack_4 rfl (lv_at hl 1 rfl) ?_
  refine va_iald hx hb hK hP 19 7 rfl rfl (i := p0) (vin (a := p0.toInt) rfl (by omega)) dX8_isBack_5 ?_
  refine lv_topi (fun z4493 e4494 => ?_)
  refine lv_if_lt (tgt := 13) hx hb dX8_isBack_6 (by decide) (fun c4495 => ?_) (fun c4495 => ?_)
  · skip
    have t4496 := cv_lt (a := z4493.toInt) rfl (b := 0) (by decide) c4495
    refine lv_iconst (v := 0) hx hb dX8_isBack_13 (by decide) ?_
    have hP9 : va_P (dC, dI) classes (wX g c v F rc) H := hP
    exact W.zret (v := 0) hx hb hr (rfl) (fun t ht hW => ⟨⟨0, (), rfl, (by have : (0 : Int32).toInt = 0 := (by decide); have a_z4493 := congrArg Int32.toInt e4494; omega), (by show va_P _ _ _ t.heap; rw [ht]; exact hP9)⟩, hS.F ht⟩) hS.2.2 dX8_isBack_14
  · skip
    have t4497 := cv_nlt (a := z4493.toInt) rfl (b := 0) (by decide) c4495
    refine lv_iconst (v := 1) hx hb dX8_isBack_9 (by decide) ?_
    refine lv_goto (tgt := 14) hx hb dX8_isBack_10 (by decide) ?_
    have hP9 : va_P (dC, dI) classes (wX g c v F rc) H := hP
    exact W.zret (v := 1) hx hb hr (rfl) (fun t ht hW => ⟨⟨1, (), rfl, (by have : (1 : Int32).toInt = 1 := (by decide); have a_z4493 := congrArg Int32.toInt e4494; omega), (by show va_P _ _ _ t.heap; rw [ht]; exact hP9)⟩, hS.F ht⟩) hS.2.2 dX8_isBack_14
set_option maxHeartbeats 8000000 in
set_option maxRecDepth 100000 in
theorem c_X0_isSigned_x (l : Launch) (dC : Nat → ClassId) (dI : Nat → Nat → Nat) (g : Nat → Nat) (c : Nat → ClassId) (adK adV : Nat → Nat) (v : Nat → Int32) (F : Nat → Nat → Int32) (rc sz : Nat) (p0 : Int32) (hg : injX g) (hI : IX v F) (h0 : 0 ≤ p0.toInt ∧ p0.toInt ≤ 9) : Met l yX0_isSigned (Cond.code yX0_isSigned cX0_isSigned 2 (some .boolean) :: wA) ({ frames := 1, cells := 0, slots := 0, locals := 40 }) (va_Pc [.ref (g 9), .int p0] (PX dC dI g c adK adV v F rc sz)) (va_Qi (fun (r : Int32) (u : Unit) => (r.toInt = 1 ∧ 0 < (F 58 p0.toNatClampNeg).toInt) ∨ (r.toInt = 0 ∧ (F 58 p0.toNatClampNeg).toInt ≤ 0)) (fun (_ : Unit) => BX dC dI g c (v, F, rc)) (AX g sz)) 0 0 (AX g sz) := by
  refine Met.ofW (cc := cX0_isSigned) (maxL := 2) (ret := (some .boolean)) (by decide) rfl ?_
  intro p e s m args below meth c0 s₁ B hml hv
  obtain ⟨rfl, hsz, hP, hK, hE⟩ := hv
  have hx := B.exec
  have hb := B.bytes
  have hr := B.returns
  have hts := atoms_spec (ws := Cond.code yX0_isSigned cX0_isSigned 2 (some .boolean) :: wA) B.pre
  have hwd : ∀ w ∈ wA, w.before _ s = true := fun w h => hts w (List.mem_cons_of_mem _ h)
  have hown : s.vm.findClass RX0 = some m.cls := findClass_of_methodNamed B.named
  have hlocks := B.notSynchronized
  subst hsz
  have hl := lv_entry ([.ref (g 9), .int p0]) (n := 2) (Nat.le_of_ble_eq_true rfl)
  rw [lg_entry_eq]
  generalize (lg_sl ([.ref (g 9), .int p0]) ++ List.replicate (2 - (lg_sl ([.ref (g 9), .int p0])).length) Slot.unset).toArray = ls at hl ⊢
  have hl : lv_has ls 2 [(0, .ref (g 9)), (1, .int p0)] := hl
  obtain ⟨H, eH⟩ : ∃ z, z = s.heap := ⟨_, rfl⟩
  have hP : va_P (dC, dI) classes (wX g c v F rc) H := by rw [eH]; exact hP
  have hS : va_S (AX g s.heap.size) s.heap H [] := by rw [eH]; exact va_S.rf
  refine my_heap eH ?_
  have rp0 := i32_rng p0
  refine lv_aload_n hx hb dX0_isSigned_0 rfl (lv_at hl 0 rfl) ?_
  refine va_get (D := (dC, dI)) (ci := 0) (v := .ref (g 58)) (C := RX0) (T := TX0) (N := 9) hx hb hwd inA_X0 hown hK hP 9 rfl rfl 1 (by decide) (hwd _ wk_132) (fun _ h9 => h9) rfl dX0_isSigned_1 ?_
  refine lv_iload_n hx hb dX0_isSigned_4 rfl (lv_at hl 1 rfl) ?_
  refine va_iald hx hb hK hP 58 46 rfl rfl (i := p0) (vin (a := p0.toInt) rfl (by omega)) dX0_isSigned_5 ?_
  refine lv_topi (fun z4498 e4499 => ?_)
  have t4500 : 0 ≤ z4498.toInt ∧ z4498.toInt ≤ 30 := by rw [e4499]; exact hI.2 58 _ _ rfl _
  refine lv_if_le (tgt := 13) hx hb dX0_isSigned_6 (by decide) (fun c4501 => ?_) (fun c4501 => ?_)
  · skip
    have t4502 := cv_le (a := z4498.toInt) rfl (b := 0) (by decide) c4501
    refine lv_iconst (v := 0) hx hb dX0_isSigned_13 (by decide) ?_
    have hP9 : va_P (dC, dI) classes (wX g c v F rc) H := hP
    exact W.zret (v := 0) hx hb hr (rfl) (fun t ht hW => ⟨⟨0, (), rfl, (by have : (0 : Int32).toInt = 0 := (by decide); have a_z4498 := congrArg Int32.toInt e4499; omega), (by show va_P _ _ _ t.heap; rw [ht]; exact hP9)⟩, hS.F ht⟩) hS.2.2 dX0_isSigned_14
  · skip
    have t4503 := cv_nle (a := z4498.toInt) rfl (b := 0) (by decide) c4501
    refine lv_iconst (v := 1) hx hb dX0_isSigned_9 (by decide) ?_
    refine lv_goto (tgt := 14) hx hb dX0_isSigned_10 (by decide) ?_
    have hP9 : va_P (dC, dI) classes (wX g c v F rc) H := hP
    exact W.zret (v := 1) hx hb hr (rfl) (fun t ht hW => ⟨⟨1, (), rfl, (by have : (1 : Int32).toInt = 1 := (by decide); have a_z4498 := congrArg Int32.toInt e4499; omega), (by show va_P _ _ _ t.heap; rw [ht]; exact hP9)⟩, hS.F ht⟩) hS.2.2 dX0_isSigned_14
set_option maxHeartbeats 8000000 in
set_option maxRecDepth 100000 in
theorem c_X10_take (l : Launch) (dC : Nat → ClassId) (dI : Nat → Nat → Nat) (g : Nat → Nat) (c : Nat → ClassId) (adK adV : Nat → Nat) (v : Nat → Int32) (F : Nat → Nat → Int32) (rc sz : Nat) (p0 : Int32) (p1 : Int32) (hg : injX g) (hI : IX v F) (h0 : 1 ≤ p0.toInt ∧ p0.toInt ≤ 4) : Met l yX10_take (Cond.code yX10_take cX10_take 4 (some .int) :: wA) ({ frames := 1, cells := 0, slots := 0, locals := 40 }) (va_Pc [.ref (g 5), .int p0, .int p1] (PX dC dI g c adK adV v F rc sz)) (va_Qi (fun (r : Int32) (u : StX) => IX u.1 u.2.1 ∧ ((120 < (v 100).toInt + p0.toInt ∧ r.toInt = -3 ∧ (u.1 100).toInt = (v 100).toInt ∧ alX u.1 u.2.1 = alX v F) ∨ ((v 100).toInt + p0.toInt ≤ 120 ∧ r.toInt = (v 100).toInt + p0.toInt ∧ (u.1 100).toInt = (v 100).toInt + p0.toInt ∧ exF (fun f9 => alX u.1 u.2.1 = alXS6 (alX v F) f9 ∧ fc (fun x => x &&& 255) (F 39) f9 (v 100).toInt p0.toInt p1))) ∧ u.2.2 = rc ∧ (∀ k, k ∉ ([100] : List Nat) → u.1 k = v k) ∧ True) (BX dC dI g c) (AX g sz)) 0 0 (AX g sz) := by
  refine Met.ofW (cc := cX10_take) (maxL := 4) (ret := (some .int)) (by decide) rfl ?_
  intro p e s m args below meth c0 s₁ B hml hv
  obtain ⟨rfl, hsz, hP, hK, hE⟩ := hv
  have hx := B.exec
  have hb := B.bytes
  have hr := B.returns
  have hts := atoms_spec (ws := Cond.code yX10_take cX10_take 4 (some .int) :: wA) B.pre
  have hwd : ∀ w ∈ wA, w.before _ s = true := fun w h => hts w (List.mem_cons_of_mem _ h)
  have hown : s.vm.findClass RX10 = some m.cls := findClass_of_methodNamed B.named
  have hlocks := B.notSynchronized
  subst hsz
  have hl := lv_entry ([.ref (g 5), .int p0, .int p1]) (n := 4) (Nat.le_of_ble_eq_true rfl)
  rw [lg_entry_eq]
  generalize (lg_sl ([.ref (g 5), .int p0, .int p1]) ++ List.replicate (4 - (lg_sl ([.ref (g 5), .int p0, .int p1])).length) Slot.unset).toArray = ls at hl ⊢
  have hl : lv_has ls 4 [(0, .ref (g 5)), (1, .int p0), (2, .int p1)] := hl
  obtain ⟨H, eH⟩ : ∃ z, z = s.heap := ⟨_, rfl⟩
  have hP : va_P (dC, dI) classes (wX g c v F rc) H := by rw [eH]; exact hP
  have hS : va_S (AX g s.heap.size) s.heap H [] := by rw [eH]; exact va_S.rf
  refine my_heap eH ?_
  have hal : alX v F = alX v F := rfl
  have rp0 := i32_rng p0
  have rp1 := i32_rng p1
  refine lv_aload_n hx hb dX10_take_0 rfl (lv_at hl 0 rfl) ?_
  refine va_get (D := (dC, dI)) (ci := 10) (v := .int (v 100)) (C := RX10) (T := TX10) (N := 2) hx hb hwd inA_X10 hown hK hP 5 rfl rfl 0 (by decide) (hwd _ wk_834) (fun _ h9 => h9) rfl dX10_take_1 ?_
  have t4504 : 0 ≤ (v 100).toInt ∧ (v 100).toInt ≤ 120 := hI.1 100 _ _ rfl
  refine lv_iload_n hx hb dX10_take_4 rfl (lv_at hl 1 rfl) ?_
  refine lv_iadd hx hb dX10_take_5 ?_
  refine lv_topi (fun z4505 e4506 => ?_)
  try (have t4507 := tadd e4506 (a := (v 100).toInt) rfl (b := p0.toInt) rfl (by omega))
  refine lv_bipush (v := 120) hx hb dX10_take_6 (by decide) ?_
  refine lv_icmp_le (tgt := 14) hx hb dX10_take_8 (by decide) (fun c4508 => ?_) (fun c4508 => ?_)
  · skip
    have t4509 := cv_le (a := z4505.toInt) rfl (b := 120) (by decide) c4508
    refine lv_iconst (v := 0) hx hb dX10_take_14 (by decide) ?_
    refine lv_istore_n (lv' := [(3, .int 0), (0, .ref (g 5)), (1, .int p0), (2, .int p1)]) hx hb dX10_take_15 rfl hl (by decide) rfl (fun ls hl => ?_)
    have lp4510 : ∀ (n : Nat) (x3_lp4510 : Int32) (v_lp4510 : Nat → Int32) (F_lp4510 : Nat → Nat → Int32) (H : Heap) (locs : List Loc) (ls : Array Slot), (0 ≤ x3_lp4510.toInt) → (x3_lp4510.toInt ≤ p0.toInt) → (fc (fun x => x &&& 255) (F 39) (F_lp4510 39) (v 100).toInt x3_lp4510.toInt p1) → (2147483648 - x3_lp4510.toInt ≤ (n : Int)) → (∀ k, k ∉ ([] : List Nat) → v_lp4510 k = v k) → IX v_lp4510 F_lp4510 → alX v_lp4510 F_lp4510 = alXS6 (alX v F) (F_lp4510 39) → va_P (dC, dI) classes (wX g c v_lp4510 F_lp4510 rc) H → va_S (AX g s.heap.size) s.heap H locs → lv_has ls 4 [(3, .int x3_lp4510), (0, .ref (g 5)), (1, .int p0), (2, .int p1)] → W p l e (headSpec (Cond.code yX10_take cX10_take 4 (some .int) :: wA) ({ frames := 1, cells := 0, slots := 0, locals := 40 })).room s m ([.ref (g 5), .int p0, .int p1] : List Value).toArray below meth c0 H locs 0 0 (MQ below (va_Qi (fun (r : Int32) (u : StX) => IX u.1 u.2.1 ∧ ((120 < (v 100).toInt + p0.toInt ∧ r.toInt = -3 ∧ (u.1 100).toInt = (v 100).toInt ∧ alX u.1 u.2.1 = alX v F) ∨ ((v 100).toInt + p0.toInt ≤ 120 ∧ r.toInt = (v 100).toInt + p0.toInt ∧ (u.1 100).toInt = (v 100).toInt + p0.toInt ∧ exF (fun f9 => alX u.1 u.2.1 = alXS6 (alX v F) f9 ∧ fc (fun x => x &&& 255) (F 39) f9 (v 100).toInt p0.toInt p1))) ∧ u.2.2 = rc ∧ (∀ k, k ∉ ([100] : List Nat) → u.1 k = v k) ∧ True) (BX dC dI g c) (AX g s.heap.size)) ([.ref (g 5), .int p0, .int p1] : List Value).toArray s 0 0 (AX g s.heap.size)) (F0 m 16 ls []) := by
      intro n
      induction n with
      | zero =>
        intro x3_lp4510 v_lp4510 F_lp4510 H locs ls t4511 t4512 t4513 hm hf_lp4510 hI hal hP hS hl
        exfalso
        have := i32_rng x3_lp4510
        have hI1 := hI.1
        omega
      | succ n ih_lp4510 =>
        intro x3_lp4510 v_lp4510 F_lp4510 H locs ls t4511 t4512 t4513 hm hf_lp4510 hI hal hP hS hl
        have rx3_lp4510 := i32_rng x3_lp4510
        refine lv_iload_n hx hb dX10_take_16 rfl (lv_at hl 0 rfl) ?_
        refine lv_iload_n hx hb dX10_take_17 rfl (lv_at hl 2 rfl) ?_
        refine lv_icmp_ge (tgt := 48) hx hb dX10_take_18 (by decide) (fun c4514 => ?_) (fun c4514 => ?_)
        · skip
          have t4515 := cv_le (a := p0.toInt) rfl (b := x3_lp4510.toInt) rfl c4514
          refine lv_aload_n hx hb dX10_take_48 rfl (lv_at hl 1 rfl) ?_
          refine lv_dup hx hb dX10_take_49 rfl ?_
          refine va_get (D := (dC, dI)) (ci := 10) (v := .int (v_lp4510 100)) (C := RX10) (T := TX10) (N := 2) hx hb hwd inA_X10 hown hK hP 5 rfl rfl 0 (by decide) (hwd _ wk_834) (fun _ h9 => h9) rfl dX10_take_50 ?_
          refine my_top (v := v 100) (hf_lp4510 100 (by decide)) ?_
          have t4516 : 0 ≤ (v 100).toInt ∧ (v 100).toInt ≤ 120 := by have h9 := hI.1 100 _ _ rfl; rw [show v_lp4510 100 = v 100 from hf_lp4510 100 (by decide)] at h9; exact h9
          refine lv_iload_n hx hb dX10_take_53 rfl (lv_at hl 2 rfl) ?_
          refine lv_iadd hx hb dX10_take_54 ?_
          refine lv_topi (fun z4517 e4518 => ?_)
          try (have t4519 := tadd e4518 (a := (v 100).toInt) rfl (b := p0.toInt) rfl (by omega))
          refine va_put (D := (dC, dI)) (ci := 10) (v := .int z4517) (ty := .int) (C := RX10) (T := TX10) (N := 2) (fs := fsX_5 g v_lp4510 rc) hx hb hwd inA_X10 tyX10 tyX10_ok nmX10 hown hK hP (DX hg) hS 5 rfl rfl 0 (by decide) (hwd _ wk_834) (fun _ h9 => h9) rfl (by decide +kernel) rfl rfl (Nat.le_of_ble_eq_true rfl) dX10_take_55 (fun H locs hP _ hS => ?_)
          have hP := va_P_eq (pX_100 g c _ _ _ _) hP
          have hI := IX.put hI 100 z4517 rfl (by omega)
          have hal := (alX_v _ _ 100 z4517 (by decide) (by decide) (by decide) (by decide)).trans hal
          refine lv_aload_n hx hb dX10_take_58 rfl (lv_at hl 1 rfl) ?_
          refine va_get (D := (dC, dI)) (ci := 10) (v := .int z4517) (C := RX10) (T := TX10) (N := 2) hx hb hwd inA_X10 hown hK hP 5 rfl rfl 0 (by decide) (hwd _ wk_834) (fun _ h9 => h9) rfl dX10_take_59 ?_
          have t4520 : 0 ≤ z4517.toInt ∧ z4517.toInt ≤ 120 := hI.1 100 _ _ rfl
          have hP9 : va_P (dC, dI) classes (wX g c (va_up v_lp4510 100 z4517) F_lp4510 rc) H := hP
          exact W.iret (v := z4517) hx hb hr (fun t ht hW => ⟨⟨z4517, ((va_up v_lp4510 100 z4517), F_lp4510, rc), rfl, ⟨hI, (Or.inr ⟨by omega, by omega, (by show (z4517 : Int32).toInt = _; omega), F_lp4510 39, hal, (by rw [show p0.toInt = x3_lp4510.toInt by omega]; exact t4513)⟩), rfl, (frU (by decide) (frC (by decide) hf_lp4510 (fun _ _ => rfl))), trivial⟩, (by show va_P _ _ _ t.heap; rw [ht]; exact hP9)⟩, hS.F ht⟩) hS.2.2 dX10_take_62
        · skip
          have t4521 := cv_nle (a := p0.toInt) rfl (b := x3_lp4510.toInt) rfl c4514
          refine lv_aload_n hx hb dX10_take_21 rfl (lv_at hl 1 rfl) ?_
          refine va_get (D := (dC, dI)) (ci := 10) (v := .ref (g 39)) (C := RX10) (T := TX10) (N := 2) hx hb hwd inA_X10 hown hK hP 5 rfl rfl 1 (by decide) (hwd _ wk_104) (fun _ h9 => h9) rfl dX10_take_22 ?_
          refine lv_aload_n hx hb dX10_take_25 rfl (lv_at hl 1 rfl) ?_
          refine va_get (D := (dC, dI)) (ci := 10) (v := .int (v_lp4510 100)) (C := RX10) (T := TX10) (N := 2) hx hb hwd inA_X10 hown hK hP 5 rfl rfl 0 (by decide) (hwd _ wk_834) (fun _ h9 => h9) rfl dX10_take_26 ?_
          refine my_top (v := v 100) (hf_lp4510 100 (by decide)) ?_
          have t4522 : 0 ≤ (v 100).toInt ∧ (v 100).toInt ≤ 120 := by have h9 := hI.1 100 _ _ rfl; rw [show v_lp4510 100 = v 100 from hf_lp4510 100 (by decide)] at h9; exact h9
          refine lv_iload_n hx hb dX10_take_29 rfl (lv_at hl 0 rfl) ?_
          refine lv_iadd hx hb dX10_take_30 ?_
          refine lv_topi (fun z4523 e4524 => ?_)
          try (have t4525 := tadd e4524 (a := (v 100).toInt) rfl (b := x3_lp4510.toInt) rfl (by omega))
          refine lv_iload_n hx hb dX10_take_31 rfl (lv_at hl 3 rfl) ?_
          refine lv_bipush (v := 8) hx hb dX10_take_32 (by decide) ?_
          refine lv_iload_n hx hb dX10_take_34 rfl (lv_at hl 0 rfl) ?_
          refine lv_imul hx hb dX10_take_35 ?_
          refine lv_topi (fun z4526 e4527 => ?_)
          try (have t4528 := tmul e4527 (a := 8) (by decide) (b := x3_lp4510.toInt) rfl (by omega))
          refine lv_ishr hx hb dX10_take_36 ?_
          refine lv_topi (fun z4529 e4530 => ?_)
          refine lv_sipush (v := 255) hx hb dX10_take_37 (by decide) ?_
          refine lv_iand hx hb dX10_take_40 ?_
          refine lv_topi (fun z4532 e4533 => ?_)
          have taz4532 := tand e4533 (by decide)
          have k255 : (255 : Int32).toInt = 255 := by decide
          refine va_iast hx hb hK hP (DX hg) hS 39 27 rfl rfl (i := z4523) (x := z4532) (vin (a := z4523.toInt) rfl (by omega)) dX10_take_41 (fun H locs hP _ hS => ?_)
          have hP := va_P_eq (sX_39 g c _ _ _ _) hP
          have hI := IX.store hI 39 (z4523 : Int32).toNatClampNeg z4532 rfl (by omega)
          have hal := (alX_s6 _ _ (upd (F_lp4510 39) (z4523 : Int32).toNatClampNeg z4532)).trans (congrArg (fun t => alXS6 t (upd (F_lp4510 39) (z4523 : Int32).toNatClampNeg z4532)) hal)
          have hP : va_P (dC, dI) classes (wX g c v_lp4510 (va_up F_lp4510 39 (upd (F_lp4510 39) (z4523 : Int32).toNatClampNeg z4532)) rc) H := hP
          have hstF4535 : (va_up F_lp4510 39 (upd (F_lp4510 39) (z4523 : Int32).toNatClampNeg z4532)) 39 = (upd (F_lp4510 39) (z4523 : Int32).toNatClampNeg z4532) := va_up_self _ _ _
          generalize (va_up F_lp4510 39 (upd (F_lp4510 39) (z4523 : Int32).toNatClampNeg z4532)) = F4535 at hP hI hal hstF4535
          have hal : alX v_lp4510 F4535 = alXS6 (alX v F) (F4535 39) := by rw [hstF4535]; exact hal
          obtain ⟨z4536, e4537⟩ : ∃ y : Int32, y = x3_lp4510 + 1 := ⟨_, rfl⟩
          try (have t4538 := tadd e4537 rfl (b := 1) (by decide) (by omega))
          refine lv_iinc (v := z4536) (lv' := [(3, .int z4536), (0, .ref (g 5)), (1, .int p0), (2, .int p1)]) hx hb dX10_take_42 hl (k := 0) rfl (by rw [e4537]; rfl) (by decide) rfl (fun ls hl => ?_)
          refine lv_goto (tgt := 16) hx hb dX10_take_45 (by decide) ?_
          exact ih_lp4510 z4536 v_lp4510 F4535 _ _ _ (by omega) (by omega) (fc.step (x := x3_lp4510) t4513 (by omega) (by omega) (j := (z4523 : Int32).toNatClampNeg) (by show (((z4523 : Int32).toInt.toNat : Nat) : Int) = _; omega) (by rw [e4533, e4530, e4527]) hstF4535) (by omega) hf_lp4510 hI hal hP hS (lv_sub hl [0, 1, 2, 3] rfl)
    obtain ⟨n9, hn9⟩ : ∃ n : Nat, 2147483648 - 0 ≤ (n : Int) := ⟨((2147483648 - 0 : Int)).toNat, by omega⟩
    exact lp4510 n9 0 v F H _ ls (by have : (0 : Int32).toInt = 0 := (by decide); omega) (by have : (0 : Int32).toInt = 0 := (by decide); omega) (fc.zero (by decide) rfl) (by have : (0 : Int32).toInt = 0 := (by decide); omega) (fun _ _ => rfl) hI hal hP hS hl
  · skip
    have t4539 := cv_nle (a := z4505.toInt) rfl (b := 120) (by decide) c4508
    refine lv_bipush (v := (-3)) hx hb dX10_take_11 (by decide) ?_
    have hP9 : va_P (dC, dI) classes (wX g c v F rc) H := hP
    exact W.iret (v := (-3)) hx hb hr (fun t ht hW => ⟨⟨(-3), (v, F, rc), rfl, ⟨hI, (Or.inl ⟨by omega, by decide, rfl, hal⟩), rfl, (fun _ _ => rfl), trivial⟩, (by show va_P _ _ _ t.heap; rw [ht]; exact hP9)⟩, hS.F ht⟩) hS.2.2 dX10_take_13
set_option maxHeartbeats 8000000 in
set_option maxRecDepth 100000 in
theorem c_X11_feed_x (l : Launch) (dC : Nat → ClassId) (dI : Nat → Nat → Nat) (g : Nat → Nat) (c : Nat → ClassId) (adK adV : Nat → Nat) (v : Nat → Int32) (F : Nat → Nat → Int32) (rc sz : Nat) (p0 : Int32) (p1 : Int32) (hg : injX g) (hI : IX v F) : Met l yX11_feed (Cond.code yX11_feed cX11_feed 3 (some .int) :: wA) ({ frames := 2, cells := 0, slots := 0, locals := 80 }) (va_Pc [.ref (g 0), .int p0, .int p1] (PX dC dI g c adK adV v F rc sz)) (va_Qi (fun (r : Int32) (u : StX) => IX u.1 u.2.1 ∧ ((¬ (1 ≤ p0.toInt ∧ p0.toInt ≤ 4) ∧ r.toInt = -1 ∧ (u.1 100).toInt = (v 100).toInt ∧ alX u.1 u.2.1 = alX v F) ∨ ((1 ≤ p0.toInt ∧ p0.toInt ≤ 4) ∧ ((120 < (v 100).toInt + p0.toInt ∧ r.toInt = -3 ∧ (u.1 100).toInt = (v 100).toInt ∧ alX u.1 u.2.1 = alX v F) ∨ ((v 100).toInt + p0.toInt ≤ 120 ∧ r.toInt = (v 100).toInt + p0.toInt ∧ (u.1 100).toInt = (v 100).toInt + p0.toInt ∧ exF (fun f9 => alX u.1 u.2.1 = alXS6 (alX v F) f9 ∧ fc (fun x => x &&& 255) (F 39) f9 (v 100).toInt p0.toInt p1))))) ∧ u.2.2 = rc ∧ (∀ k, k ∉ ([100] : List Nat) → u.1 k = v k) ∧ True) (BX dC dI g c) (AX g sz)) 0 0 (AX g sz) := by
  refine Met.ofW (cc := cX11_feed) (maxL := 3) (ret := (some .int)) (by decide) rfl ?_
  intro p e s m args below meth c0 s₁ B hml hv
  obtain ⟨rfl, hsz, hP, hK, hE⟩ := hv
  have hx := B.exec
  have hb := B.bytes
  have hr := B.returns
  have hts := atoms_spec (ws := Cond.code yX11_feed cX11_feed 3 (some .int) :: wA) B.pre
  have hwd : ∀ w ∈ wA, w.before _ s = true := fun w h => hts w (List.mem_cons_of_mem _ h)
  have hown : s.vm.findClass RX11 = some m.cls := findClass_of_methodNamed B.named
  have hlocks := B.notSynchronized
  subst hsz
  have hl := lv_entry ([.ref (g 0), .int p0, .int p1]) (n := 3) (Nat.le_of_ble_eq_true rfl)
  rw [lg_entry_eq]
  generalize (lg_sl ([.ref (g 0), .int p0, .int p1]) ++ List.replicate (3 - (lg_sl ([.ref (g 0), .int p0, .int p1])).length) Slot.unset).toArray = ls at hl ⊢
  have hl : lv_has ls 3 [(0, .ref (g 0)), (1, .int p0), (2, .int p1)] := hl
  obtain ⟨H, eH⟩ : ∃ z, z = s.heap := ⟨_, rfl⟩
  have hP : va_P (dC, dI) classes (wX g c v F rc) H := by rw [eH]; exact hP
  have hS : va_S (AX g s.heap.size) s.heap H [] := by rw [eH]; exact va_S.rf
  refine my_heap eH ?_
  have hal : alX v F = alX v F := rfl
  have rp0 := i32_rng p0
  have rp1 := i32_rng p1
  refine lv_iload_n hx hb dX11_feed_0 rfl (lv_at hl 1 rfl) ?_
  refine lv_iconst (v := 1) hx hb dX11_feed_1 (by decide) ?_
  refine lv_iconst (v := 4) hx hb dX11_feed_2 (by decide) ?_
  refine va_calli (va_runS (As := [.int p0, .int 1, .int 4]) (rest := []) ⟨hx, hb, hml, hown, hwd⟩ (c_X11_within l dC dI g c adK adV v F rc H.size p0 1 4 hg hI ) (va_cwS 3 hwd (gT wk_239 wk_237 wk_238 wk_2) rfl rfl rfl (by decide +kernel) ⟨Nat.le_of_ble_eq_true rfl, Nat.le_of_ble_eq_true rfl⟩) ⟨PX.blind, fun U hU hW => ⟨rfl, PX.at hK hE hP hS hU hW⟩⟩ rfl rfl hl.1 rfl (lv_room (Nat.le_of_ble_eq_true rfl)) dX11_feed_3 ⟨Nat.le_of_ble_eq_true rfl, Nat.le_of_ble_eq_true rfl⟩) hS (fun q _ h => (freeX hS) q h) (freeX hS) (fun r4540 u t H1 locs ht hvm hw hB hz1 hk1 hS => ?_)
  unfold BX at hB
  rw [ht] at hB
  have hP : va_P (dC, dI) classes (wX g c v F rc) H1 := hB
  have hw : (r4540.toInt = 1 ∧ (1 : Int32).toInt ≤ p0.toInt ∧ p0.toInt ≤ (4 : Int32).toInt) ∨ (r4540.toInt = 0 ∧ (p0.toInt < (1 : Int32).toInt ∨ (4 : Int32).toInt < p0.toInt)) := hw
  have k4541 : (1 : Int32).toInt = 1 := by decide
  have k4542 : (4 : Int32).toInt = 4 := by decide
  generalize H1 = H at hP hS ⊢
  have hw_r4540 := hw
  refine lv_if_ne (tgt := 11) hx hb dX11_feed_6 (by decide) (fun c4543 => ?_) (fun c4543 => ?_)
  · skip
    have t4544 := cv_ne (a := r4540.toInt) rfl (b := 0) (by decide) c4543
    refine lv_aload_n hx hb dX11_feed_11 rfl (lv_at hl 0 rfl) ?_
    refine va_get (D := (dC, dI)) (ci := 11) (v := .ref (g 5)) (C := RX11) (T := TX11) (N := 14) hx hb hwd inA_X11 hown hK hP 0 rfl rfl 4 (by decide) (hwd _ wk_31) (fun _ h9 => h9) rfl dX11_feed_12 ?_
    refine lv_iload_n hx hb dX11_feed_15 rfl (lv_at hl 1 rfl) ?_
    refine lv_iload_n hx hb dX11_feed_16 rfl (lv_at hl 2 rfl) ?_
    refine va_calli (va_runV (As := [.int p0, .int p1]) (rest := []) ⟨hx, hb, hml, hown, hwd⟩ (c_X10_take l dC dI g c adK adV v F rc H.size p0 p1 hg hI (by omega)) (cwV 2 hwd (gV wk_833 wk_830 wk_831 wk_832 wk_30) rfl rfl rfl (by decide +kernel) ⟨Nat.le_of_ble_eq_true rfl, Nat.le_of_ble_eq_true rfl⟩) ⟨PX.blind, va_recv hK hP (ci := 10) (q0 := 5) rfl rfl, fun U hU hW => ⟨rfl, PX.at hK hE hP hS hU hW⟩⟩ rfl rfl hl.1 rfl (lv_room (Nat.le_of_ble_eq_true rfl)) dX11_feed_17 ⟨Nat.le_of_ble_eq_true rfl, Nat.le_of_ble_eq_true rfl⟩) hS (fun q _ h => (freeX hS) q h) (freeX hS) (fun r4545 u t H1 locs ht hvm hw hB hz1 hk1 hS => ?_)
    unfold BX at hB
    rw [ht] at hB
    obtain ⟨v4546, F4547, rc9⟩ := u
    obtain ⟨hI, hal9, hrc, hf4548, hw⟩ := hw
    dsimp only at hI hal9 hrc hB hf4548 hw
    rw [hrc] at hB
    have hq4549 := hal9
    have hP : va_P (dC, dI) classes (wX g c v4546 F4547 rc) H1 := hB
    generalize H1 = H at hP hS ⊢
    have rr_r4545 := i32_rng r4545
    have hP9 : va_P (dC, dI) classes (wX g c v4546 F4547 rc) H := hP
    exact W.iret (v := r4545) hx hb hr (fun t ht hW => ⟨⟨r4545, (v4546, F4547, rc), rfl, ⟨hI, (Or.inr ⟨by omega, hq4549⟩), rfl, (frC (by decide) hf4548 (fun _ _ => rfl)), trivial⟩, (by show va_P _ _ _ t.heap; rw [ht]; exact hP9)⟩, hS.F ht⟩) hS.2.2 dX11_feed_20
  · skip
    have t4550 := cv_eq (a := r4540.toInt) rfl (b := 0) (by decide) c4543
    refine lv_iconst (v := (-1)) hx hb dX11_feed_9 (by decide) ?_
    have hP9 : va_P (dC, dI) classes (wX g c v F rc) H := hP
    exact W.iret (v := (-1)) hx hb hr (fun t ht hW => ⟨⟨(-1), (v, F, rc), rfl, ⟨hI, (Or.inl ⟨by omega, by decide, rfl, hal⟩), rfl, (fun _ _ => rfl), trivial⟩, (by show va_P _ _ _ t.heap; rw [ht]; exact hP9)⟩, hS.F ht⟩) hS.2.2 dX11_feed_10
set_option maxHeartbeats 8000000 in
set_option maxRecDepth 100000 in
theorem c_X11_contract_x (l : Launch) (dC : Nat → ClassId) (dI : Nat → Nat → Nat) (g : Nat → Nat) (c : Nat → ClassId) (adK adV : Nat → Nat) (v : Nat → Int32) (F : Nat → Nat → Int32) (rc sz : Nat) (p0 : Int32) (p1 : Int32) (p2 : Int32) (hg : injX g) (hI : IX v F) : Met l yX11_contract (Cond.code yX11_contract cX11_contract 5 (some .int) :: wA) ({ frames := 7, cells := 0, slots := 0, locals := 280 }) (va_Pc [.ref (g 0), .int p0, .int p1, .int p2] (PX dC dI g c adK adV v F rc sz)) (va_Qi (fun (r : Int32) (u : StX) => IX u.1 u.2.1 ∧ ((¬ ((0 ≤ p0.toInt ∧ p0.toInt < (v 40).toInt) ∧ (0 ≤ p1.toInt ∧ p1.toInt ≤ 9999) ∧ (0 ≤ p2.toInt ∧ p2.toInt ≤ 99999)) ∧ r.toInt = -1 ∧ (u.1 100).toInt = (v 100).toInt ∧ alX u.1 u.2.1 = alX v F) ∨ (((0 ≤ p0.toInt ∧ p0.toInt < (v 40).toInt) ∧ (0 ≤ p1.toInt ∧ p1.toInt ≤ 9999) ∧ (0 ≤ p2.toInt ∧ p2.toInt ≤ 99999)) ∧ 0 ≤ (F 19 p0.toNatClampNeg).toInt ∧ r.toInt = -2 ∧ (u.1 100).toInt = (v 100).toInt ∧ alX u.1 u.2.1 = alX v F) ∨ (((0 ≤ p0.toInt ∧ p0.toInt < (v 40).toInt) ∧ (0 ≤ p1.toInt ∧ p1.toInt ≤ 9999) ∧ (0 ≤ p2.toInt ∧ p2.toInt ≤ 99999)) ∧ (F 19 p0.toNatClampNeg).toInt < 0 ∧ (u.1 100).toInt = 0 ∧ cans (v 100) (F 39) r.toInt ∧ ((r.toInt ≤ -100 ∧ alX u.1 u.2.1 = alX v F) ∨ (1 ≤ r.toInt ∧ exI (fun x9 => x9.toInt = r.toInt ∧ alX u.1 u.2.1 = alXS7 (alX v F) (upd (F 58) p0.toNatClampNeg x9)))))) ∧ u.2.2 = rc ∧ (∀ k, k ∉ ([100, 186, 187, 188] : List Nat) → u.1 k = v k) ∧ True) (BX dC dI g c) (AX g sz)) 0 0 (AX g sz) := by
  refine Met.ofW (cc := cX11_contract) (maxL := 5) (ret := (some .int)) (by decide) rfl ?_
  intro p e s m args below meth c0 s₁ B hml hv
  obtain ⟨rfl, hsz, hP, hK, hE⟩ := hv
  have hx := B.exec
  have hb := B.bytes
  have hr := B.returns
  have hts := atoms_spec (ws := Cond.code yX11_contract cX11_contract 5 (some .int) :: wA) B.pre
  have hwd : ∀ w ∈ wA, w.before _ s = true := fun w h => hts w (List.mem_cons_of_mem _ h)
  have hown : s.vm.findClass RX11 = some m.cls := findClass_of_methodNamed B.named
  have hlocks := B.notSynchronized
  subst hsz
  have hl := lv_entry ([.ref (g 0), .int p0, .int p1, .int p2]) (n := 5) (Nat.le_of_ble_eq_true rfl)
  rw [lg_entry_eq]
  generalize (lg_sl ([.ref (g 0), .int p0, .int p1, .int p2]) ++ List.replicate (5 - (lg_sl ([.ref (g 0), .int p0, .int p1, .int p2])).length) Slot.unset).toArray = ls at hl ⊢
  have hl : lv_has ls 5 [(0, .ref (g 0)), (1, .int p0), (2, .int p1), (3, .int p2)] := hl
  obtain ⟨H, eH⟩ : ∃ z, z = s.heap := ⟨_, rfl⟩
  have hP : va_P (dC, dI) classes (wX g c v F rc) H := by rw [eH]; exact hP
  have hS : va_S (AX g s.heap.size) s.heap H [] := by rw [eH]; exact va_S.rf
  refine my_heap eH ?_
  have hal : alX v F = alX v F := rfl
  have rp0 := i32_rng p0
  have rp1 := i32_rng p1
  have rp2 := i32_rng p2
  have hbs : 0 ≤ (v 40).toInt ∧ (v 40).toInt ≤ 10 := hI.1 40 _ _ rfl
  have k0 : (0 : Int32).toInt = 0 := by decide
  have km1 : (-1 : Int32).toInt = -1 := by decide
  refine lv_aload_n hx hb dX11_contract_0 rfl (lv_at hl 0 rfl) ?_
  refine va_get (D := (dC, dI)) (ci := 11) (v := .ref (g 2)) (C := RX11) (T := TX11) (N := 14) hx hb hwd inA_X11 hown hK hP 0 rfl rfl 1 (by decide) (hwd _ wk_19) (fun _ h9 => h9) rfl dX11_contract_1 ?_
  refine lv_iload_n hx hb dX11_contract_4 rfl (lv_at hl 1 rfl) ?_
  refine va_calli (va_runV (As := [.int p0]) (rest := []) ⟨hx, hb, hml, hown, hwd⟩ (c_X8_has_x l dC dI g c adK adV v F rc H.size p0 hg hI ) (cwV 1 hwd (gV wk_276 wk_273 wk_274 wk_275 wk_18) rfl rfl rfl (by decide +kernel) ⟨Nat.le_of_ble_eq_true rfl, Nat.le_of_ble_eq_true rfl⟩) ⟨PX.blind, va_recv hK hP (ci := 8) (q0 := 2) rfl rfl, fun U hU hW => ⟨rfl, PX.at hK hE hP hS hU hW⟩⟩ rfl rfl hl.1 rfl (lv_room (Nat.le_of_ble_eq_true rfl)) dX11_contract_5 ⟨Nat.le_of_ble_eq_true rfl, Nat.le_of_ble_eq_true rfl⟩) hS (fun q _ h => (freeX hS) q h) (freeX hS) (fun r4551 u t H1 locs ht hvm hw hB hz1 hk1 hS => ?_)
  unfold BX at hB
  rw [ht] at hB
  have hP : va_P (dC, dI) classes (wX g c v F rc) H1 := hB
  have hw : (r4551.toInt = 1 ∧ 0 ≤ p0.toInt ∧ p0.toInt < (v 40).toInt) ∨ (r4551.toInt = 0 ∧ (p0.toInt < 0 ∨ (v 40).toInt ≤ p0.toInt)) := hw
  generalize H1 = H at hP hS ⊢
  have hw_r4551 := hw
  refine lv_if_eq (tgt := 25) hx hb dX11_contract_8 (by decide) (fun c4552 => ?_) (fun c4552 => ?_)
  · skip
    have t4553 := cv_eq (a := r4551.toInt) rfl (b := 0) (by decide) c4552
    refine lv_iconst (v := (-1)) hx hb dX11_contract_25 (by decide) ?_
    have hP9 : va_P (dC, dI) classes (wX g c v F rc) H := hP
    exact W.iret (v := (-1)) hx hb hr (fun t ht hW => ⟨⟨(-1), (v, F, rc), rfl, ⟨hI, (Or.inl ⟨by omega, by decide, rfl, hal⟩), rfl, (fun _ _ => rfl), trivial⟩, (by show va_P _ _ _ t.heap; rw [ht]; exact hP9)⟩, hS.F ht⟩) hS.2.2 dX11_contract_26
  · skip
    have t4554 := cv_ne (a := r4551.toInt) rfl (b := 0) (by decide) c4552
    refine lv_iload_n hx hb dX11_contract_11 rfl (lv_at hl 2 rfl) ?_
    refine va_calli (va_runS (As := [.int p1]) (rest := []) ⟨hx, hb, hml, hown, hwd⟩ (c_X11_isDay l dC dI g c adK adV v F rc H.size p1 hg hI ) (va_cwS 1 hwd (gT wk_549 wk_547 wk_548 wk_2) rfl rfl rfl (by decide +kernel) ⟨Nat.le_of_ble_eq_true rfl, Nat.le_of_ble_eq_true rfl⟩) ⟨PX.blind, fun U hU hW => ⟨rfl, PX.at hK hE hP hS hU hW⟩⟩ rfl rfl hl.1 rfl (lv_room (Nat.le_of_ble_eq_true rfl)) dX11_contract_12 ⟨Nat.le_of_ble_eq_true rfl, Nat.le_of_ble_eq_true rfl⟩) hS (fun q _ h => (freeX hS) q h) (freeX hS) (fun r4555 u t H1 locs ht hvm hw hB hz1 hk1 hS => ?_)
    unfold BX at hB
    rw [ht] at hB
    have hP : va_P (dC, dI) classes (wX g c v F rc) H1 := hB
    have hw : (r4555.toInt = 1 ∧ 0 ≤ p1.toInt ∧ p1.toInt ≤ 9999) ∨ (r4555.toInt = 0 ∧ (p1.toInt < 0 ∨ 9999 < p1.toInt)) := hw
    generalize H1 = H at hP hS ⊢
    have hw_r4555 := hw
    refine lv_if_eq (tgt := 25) hx hb dX11_contract_15 (by decide) (fun c4556 => ?_) (fun c4556 => ?_)
    · skip
      have t4557 := cv_eq (a := r4555.toInt) rfl (b := 0) (by decide) c4556
      refine lv_iconst (v := (-1)) hx hb dX11_contract_25 (by decide) ?_
      have hP9 : va_P (dC, dI) classes (wX g c v F rc) H := hP
      exact W.iret (v := (-1)) hx hb hr (fun t ht hW => ⟨⟨(-1), (v, F, rc), rfl, ⟨hI, (Or.inl ⟨by omega, by decide, rfl, hal⟩), rfl, (fun _ _ => rfl), trivial⟩, (by show va_P _ _ _ t.heap; rw [ht]; exact hP9)⟩, hS.F ht⟩) hS.2.2 dX11_contract_26
    · skip
      have t4558 := cv_ne (a := r4555.toInt) rfl (b := 0) (by decide) c4556
      refine lv_iload_n hx hb dX11_contract_18 rfl (lv_at hl 3 rfl) ?_
      refine va_calli (va_runS (As := [.int p2]) (rest := []) ⟨hx, hb, hml, hown, hwd⟩ (c_X11_isTold l dC dI g c adK adV v F rc H.size p2 hg hI ) (va_cwS 1 hwd (gT wk_235 wk_233 wk_234 wk_2) rfl rfl rfl (by decide +kernel) ⟨Nat.le_of_ble_eq_true rfl, Nat.le_of_ble_eq_true rfl⟩) ⟨PX.blind, fun U hU hW => ⟨rfl, PX.at hK hE hP hS hU hW⟩⟩ rfl rfl hl.1 rfl (lv_room (Nat.le_of_ble_eq_true rfl)) dX11_contract_19 ⟨Nat.le_of_ble_eq_true rfl, Nat.le_of_ble_eq_true rfl⟩) hS (fun q _ h => (freeX hS) q h) (freeX hS) (fun r4559 u t H1 locs ht hvm hw hB hz1 hk1 hS => ?_)
      unfold BX at hB
      rw [ht] at hB
      have hP : va_P (dC, dI) classes (wX g c v F rc) H1 := hB
      have hw : (r4559.toInt = 1 ∧ 0 ≤ p2.toInt ∧ p2.toInt ≤ 99999) ∨ (r4559.toInt = 0 ∧ (p2.toInt < 0 ∨ 99999 < p2.toInt)) := hw
      generalize H1 = H at hP hS ⊢
      have hw_r4559 := hw
      refine lv_if_ne (tgt := 27) hx hb dX11_contract_22 (by decide) (fun c4560 => ?_) (fun c4560 => ?_)
      · skip
        have t4561 := cv_ne (a := r4559.toInt) rfl (b := 0) (by decide) c4560
        refine lv_aload_n hx hb dX11_contract_27 rfl (lv_at hl 0 rfl) ?_
        refine va_get (D := (dC, dI)) (ci := 11) (v := .ref (g 2)) (C := RX11) (T := TX11) (N := 14) hx hb hwd inA_X11 hown hK hP 0 rfl rfl 1 (by decide) (hwd _ wk_19) (fun _ h9 => h9) rfl dX11_contract_28 ?_
        refine lv_iload_n hx hb dX11_contract_31 rfl (lv_at hl 1 rfl) ?_
        refine va_calli (va_runV (As := [.int p0]) (rest := []) ⟨hx, hb, hml, hown, hwd⟩ (c_X8_isBack_x l dC dI g c adK adV v F rc H.size p0 hg hI (by omega)) (cwV 1 hwd (gV wk_284 wk_281 wk_282 wk_283 wk_18) rfl rfl rfl (by decide +kernel) ⟨Nat.le_of_ble_eq_true rfl, Nat.le_of_ble_eq_true rfl⟩) ⟨PX.blind, va_recv hK hP (ci := 8) (q0 := 2) rfl rfl, fun U hU hW => ⟨rfl, PX.at hK hE hP hS hU hW⟩⟩ rfl rfl hl.1 rfl (lv_room (Nat.le_of_ble_eq_true rfl)) dX11_contract_32 ⟨Nat.le_of_ble_eq_true rfl, Nat.le_of_ble_eq_true rfl⟩) hS (fun q _ h => (freeX hS) q h) (freeX hS) (fun r4562 u t H1 locs ht hvm hw hB hz1 hk1 hS => ?_)
        unfold BX at hB
        rw [ht] at hB
        have hP : va_P (dC, dI) classes (wX g c v F rc) H1 := hB
        have hw : (r4562.toInt = 1 ∧ 0 ≤ (F 19 p0.toNatClampNeg).toInt) ∨ (r4562.toInt = 0 ∧ (F 19 p0.toNatClampNeg).toInt < 0) := hw
        generalize H1 = H at hP hS ⊢
        have hw_r4562 := hw
        refine lv_if_eq (tgt := 41) hx hb dX11_contract_35 (by decide) (fun c4563 => ?_) (fun c4563 => ?_)
        · skip
          have t4564 := cv_eq (a := r4562.toInt) rfl (b := 0) (by decide) c4563
          refine lv_aload_n hx hb dX11_contract_41 rfl (lv_at hl 0 rfl) ?_
          refine va_get (D := (dC, dI)) (ci := 11) (v := .ref (g 9)) (C := RX11) (T := TX11) (N := 14) hx hb hwd inA_X11 hown hK hP 0 rfl rfl 8 (by decide) (hwd _ wk_47) (fun _ h9 => h9) rfl dX11_contract_42 ?_
          have t4565 : 0 ≤ (v 100).toInt ∧ (v 100).toInt ≤ 120 := hI.1 100 _ _ rfl
          refine va_calli (va_runV (As := []) (rest := []) ⟨hx, hb, hml, hown, hwd⟩ (c_X0_read l dC dI g c adK adV v F rc H.size  hg hI ) (cwV 0 hwd (gV wk_1093 wk_1090 wk_1091 wk_1092 wk_46) rfl rfl rfl (by decide +kernel) ⟨Nat.le_of_ble_eq_true rfl, Nat.le_of_ble_eq_true rfl⟩) ⟨PX.blind, va_recv hK hP (ci := 0) (q0 := 9) rfl rfl, fun U hU hW => ⟨rfl, PX.at hK hE hP hS hU hW⟩⟩ rfl rfl hl.1 rfl (lv_room (Nat.le_of_ble_eq_true rfl)) dX11_contract_45 ⟨Nat.le_of_ble_eq_true rfl, Nat.le_of_ble_eq_true rfl⟩) hS (fun q _ h => (freeX hS) q h) (freeX hS) (fun r4566 u t H1 locs ht hvm hw hB hz1 hk1 hS => ?_)
          unfold BX at hB
          rw [ht] at hB
          obtain ⟨v4567, F4568, rc9⟩ := u
          obtain ⟨hI, hal9, hrc, hf4569, hw⟩ := hw
          dsimp only at hI hal9 hrc hB hf4569 hw
          rw [hrc] at hB
          have hal := hal9.trans hal
          have hP : va_P (dC, dI) classes (wX g c v4567 F4568 rc) H1 := hB
          replace hw : cread (v 100) (F 39) r4566.toInt (v4567 186).toInt ∧ (r4566.toInt = -1 ∨ (0 ≤ r4566.toInt ∧ r4566.toInt ≤ 120)) ∧ (1 ≤ (v4567 186).toInt ∧ (v4567 186).toInt ≤ 30) := hw
          have hw_r4566 := hw
          clear hw
          have t4570 : 0 ≤ (v4567 186).toInt ∧ (v4567 186).toInt ≤ 30 := hI.1 186 _ _ rfl
          generalize H1 = H at hP hS ⊢
          have rr_r4566 := i32_rng r4566
          refine lv_istore (lv' := [(4, .int r4566), (0, .ref (g 0)), (1, .int p0), (2, .int p1), (3, .int p2)]) hx hb dX11_contract_48 hl (by decide) rfl (fun ls hl => ?_)
          refine lv_aload_n hx hb dX11_contract_50 rfl (lv_at hl 1 rfl) ?_
          refine va_get (D := (dC, dI)) (ci := 11) (v := .ref (g 5)) (C := RX11) (T := TX11) (N := 14) hx hb hwd inA_X11 hown hK hP 0 rfl rfl 4 (by decide) (hwd _ wk_31) (fun _ h9 => h9) rfl dX11_contract_51 ?_
          refine lv_iconst (v := 0) hx hb dX11_contract_54 (by decide) ?_
          refine va_put (D := (dC, dI)) (ci := 10) (v := .int 0) (ty := .int) (C := RX10) (T := TX10) (N := 2) (fs := fsX_5 g v4567 rc) hx hb hwd inA_X10 tyX10 tyX10_ok nmX10 hown hK hP (DX hg) hS 5 rfl rfl 0 (by decide) (hwd _ wk_846) (fun _ h9 => h9) rfl (by decide +kernel) rfl rfl (Nat.le_of_ble_eq_true rfl) dX11_contract_55 (fun H locs hP _ hS => ?_)
          have hP := va_P_eq (pX_100 g c _ _ _ _) hP
          have hI := IX.put hI 100 0 rfl (by have : (0 : Int32).toInt = 0 := (by decide); omega)
          have hal := (alX_v _ _ 100 0 (by decide) (by decide) (by decide) (by decide)).trans hal
          refine lv_iload hx hb dX11_contract_58 (lv_at hl 0 rfl) ?_
          refine lv_iconst (v := (-1)) hx hb dX11_contract_60 (by decide) ?_
          refine lv_icmp_eq (tgt := 70) hx hb dX11_contract_61 (by decide) (fun c4571 => ?_) (fun c4571 => ?_)
          · skip
            have t4572 := cv_eq (a := r4566.toInt) rfl (b := (-1)) (by decide) c4571
            refine lv_aload_n hx hb dX11_contract_70 rfl (lv_at hl 1 rfl) ?_
            refine va_get (D := (dC, dI)) (ci := 11) (v := .ref (g 9)) (C := RX11) (T := TX11) (N := 14) hx hb hwd inA_X11 hown hK hP 0 rfl rfl 8 (by decide) (hwd _ wk_47) (fun _ h9 => h9) rfl dX11_contract_71 ?_
            refine lv_iload_n hx hb dX11_contract_74 rfl (lv_at hl 2 rfl) ?_
            refine lv_iload_n hx hb dX11_contract_75 rfl (lv_at hl 3 rfl) ?_
            refine lv_iload_n hx hb dX11_contract_76 rfl (lv_at hl 4 rfl) ?_
            refine va_calli (va_runV (As := [.int p0, .int p1, .int p2]) (rest := []) ⟨hx, hb, hml, hown, hwd⟩ (c_X0_sign l dC dI g c adK adV (va_up v4567 100 0) F4568 rc H.size p0 p1 p2 hg hI (by omega)) (cwV 3 hwd (gV wk_1119 wk_1116 wk_1117 wk_1118 wk_46) rfl rfl rfl (by decide +kernel) ⟨Nat.le_of_ble_eq_true rfl, Nat.le_of_ble_eq_true rfl⟩) ⟨PX.blind, va_recv hK hP (ci := 0) (q0 := 9) rfl rfl, fun U hU hW => ⟨rfl, PX.at hK hE hP hS hU hW⟩⟩ rfl rfl hl.1 rfl (lv_room (Nat.le_of_ble_eq_true rfl)) dX11_contract_77 ⟨Nat.le_of_ble_eq_true rfl, Nat.le_of_ble_eq_true rfl⟩) hS (fun q _ h => (freeX hS) q h) (freeX hS) (fun r4573 u t H1 locs ht hvm hw hB hz1 hk1 hS => ?_)
            unfold BX at hB
            rw [ht] at hB
            obtain ⟨v4574, F4575, rc9⟩ := u
            obtain ⟨hI, hal9, hrc, hf4576, hw⟩ := hw
            dsimp only at hI hal9 hrc hB hf4576 hw
            rw [hrc] at hB
            have hq4577 := hal9
            have hP : va_P (dC, dI) classes (wX g c v4574 F4575 rc) H1 := hB
            generalize H1 = H at hP hS ⊢
            have rr_r4573 := i32_rng r4573
            have hP9 : va_P (dC, dI) classes (wX g c v4574 F4575 rc) H := hP
            exact W.iret (v := r4573) hx hb hr (fun t ht hW => ⟨⟨r4573, (v4574, F4575, rc), rfl, ⟨hI, (by have q9 := hq4577; have d9 : r4573 = v4567 186 := q9.1.trans (rfl); have d8 := congrArg Int32.toInt d9; have hL9 : F4568 58 = F 58 := congrArg (fun t : ALX => t.2.2.2.2.2.2.2.1) hal; have a9 := q9.2; rw [hL9] at a9; exact Or.inr (Or.inr ⟨by omega, by omega, (by have h9 : v4574 100 = 0 := hf4576 100 (by decide); exact (congrArg Int32.toInt h9).trans (by decide)), cans.of hw_r4566.1 (by omega), Or.inr ⟨by omega, _, (by rw [d9]; exact congrArg Int32.toInt (rfl)), a9.trans (congrArg (fun t => alXS7 t _) hal)⟩⟩)), rfl, (frC (by decide) hf4576 (frU (by decide) (frC (by decide) hf4569 (fun _ _ => rfl)))), trivial⟩, (by show va_P _ _ _ t.heap; rw [ht]; exact hP9)⟩, hS.F ht⟩) hS.2.2 dX11_contract_80
          · skip
            have t4578 := cv_ne (a := r4566.toInt) rfl (b := (-1)) (by decide) c4571
            refine lv_bipush (v := (-100)) hx hb dX11_contract_64 (by decide) ?_
            refine lv_iload hx hb dX11_contract_66 (lv_at hl 0 rfl) ?_
            refine lv_isub hx hb dX11_contract_68 ?_
            refine lv_topi (fun z4579 e4580 => ?_)
            try (have t4581 := tsub e4580 (a := (-100)) (by decide) (b := r4566.toInt) rfl (by omega))
            have hP9 : va_P (dC, dI) classes (wX g c (va_up v4567 100 0) F4568 rc) H := hP
            exact W.iret (v := z4579) hx hb hr (fun t ht hW => ⟨⟨z4579, ((va_up v4567 100 0), F4568, rc), rfl, ⟨hI, (Or.inr (Or.inr ⟨by omega, by omega, (by have h9 : (va_up v4567 100 0) 100 = 0 := rfl; exact (congrArg Int32.toInt h9).trans (by decide)), cans.of hw_r4566.1 (by omega), Or.inl ⟨by omega, hal⟩⟩)), rfl, (frU (by decide) (frC (by decide) hf4569 (fun _ _ => rfl))), trivial⟩, (by show va_P _ _ _ t.heap; rw [ht]; exact hP9)⟩, hS.F ht⟩) hS.2.2 dX11_contract_69
        · skip
          have t4582 := cv_ne (a := r4562.toInt) rfl (b := 0) (by decide) c4563
          refine lv_bipush (v := (-2)) hx hb dX11_contract_38 (by decide) ?_
          have hP9 : va_P (dC, dI) classes (wX g c v F rc) H := hP
          exact W.iret (v := (-2)) hx hb hr (fun t ht hW => ⟨⟨(-2), (v, F, rc), rfl, ⟨hI, (Or.inr (Or.inl ⟨by omega, by omega, by decide, rfl, hal⟩)), rfl, (fun _ _ => rfl), trivial⟩, (by show va_P _ _ _ t.heap; rw [ht]; exact hP9)⟩, hS.F ht⟩) hS.2.2 dX11_contract_40
      · skip
        have t4583 := cv_eq (a := r4559.toInt) rfl (b := 0) (by decide) c4560
        refine lv_iconst (v := (-1)) hx hb dX11_contract_25 (by decide) ?_
        have hP9 : va_P (dC, dI) classes (wX g c v F rc) H := hP
        exact W.iret (v := (-1)) hx hb hr (fun t ht hW => ⟨⟨(-1), (v, F, rc), rfl, ⟨hI, (Or.inl ⟨by omega, by decide, rfl, hal⟩), rfl, (fun _ _ => rfl), trivial⟩, (by show va_P _ _ _ t.heap; rw [ht]; exact hP9)⟩, hS.F ht⟩) hS.2.2 dX11_contract_26
