set_option maxHeartbeats 8000000 in
set_option maxRecDepth 100000 in
theorem c_X10_at_e (l : Launch) (dC : Nat → ClassId) (dI : Nat → Nat → Nat) (g : Nat → Nat) (c : Nat → ClassId) (adK adV : Nat → Nat) (v : Nat → Int32) (F : Nat → Nat → Int32) (rc sz : Nat) (p0 : Int32) (hg : injX g) (hI : IX v F) : Met l yX10_at (Cond.code yX10_at cX10_at 2 (some .int) :: wA) ({ frames := 1, cells := 0, slots := 0, locals := 40 }) (va_Pc [.ref (g 5), .int p0] (PX dC dI g c adK adV v F rc sz)) (va_Qi (fun (r : Int32) (u : Unit) => r.toInt = sg (v 100) (F 39) p0.toInt ∧ (-1 ≤ r.toInt ∧ r.toInt ≤ 255) ∧ (r.toInt = -1 ∨ (0 ≤ p0.toInt ∧ p0.toInt < (v 100).toInt))) (fun (_ : Unit) => BX dC dI g c (v, F, rc)) (AX g sz)) 0 0 (AX g sz) := by
  refine Met.ofW (cc := cX10_at) (maxL := 2) (ret := (some .int)) (by decide) rfl ?_
  intro p e s m args below meth c0 s₁ B hml hv
  obtain ⟨rfl, hsz, hP, hK, hE⟩ := hv
  have hx := B.exec
  have hb := B.bytes
  have hr := B.returns
  have hts := atoms_spec (ws := Cond.code yX10_at cX10_at 2 (some .int) :: wA) B.pre
  have hwd : ∀ w ∈ wA, w.before _ s = true := fun w h => hts w (List.mem_cons_of_mem _ h)
  have hown : s.vm.findClass RX10 = some m.cls := findClass_of_methodNamed B.named
  have hlocks := B.notSynchronized
  subst hsz
  have hl := lv_entry ([.ref (g 5), .int p0]) (n := 2) (Nat.le_of_ble_eq_true rfl)
  rw [lg_entry_eq]
  generalize (lg_sl ([.ref (g 5), .int p0]) ++ List.replicate (2 - (lg_sl ([.ref (g 5), .int p0])).length) Slot.unset).toArray = ls at hl ⊢
  have hl : lv_has ls 2 [(0, .ref (g 5)), (1, .int p0)] := hl
  obtain ⟨H, eH⟩ : ∃ z, z = s.heap := ⟨_, rfl⟩
  have hP : va_P (dC, dI) classes (wX g c v F rc) H := by rw [eH]; exact hP
  have hS : va_S (AX g s.heap.size) s.heap H [] := by rw [eH]; exact va_S.rf
  refine my_heap eH ?_
  have rp0 := i32_rng p0
  refine lv_iload_n hx hb dX10_at_0 rfl (lv_at hl 1 rfl) ?_
  refine lv_if_lt (tgt := 21) hx hb dX10_at_1 (by decide) (fun c3135 => ?_) (fun c3135 => ?_)
  · skip
    have t3136 := cv_lt (a := p0.toInt) rfl (b := 0) (by decide) c3135
    refine lv_iconst (v := (-1)) hx hb dX10_at_21 (by decide) ?_
    have hP9 : va_P (dC, dI) classes (wX g c v F rc) H := hP
    exact W.iret (v := (-1)) hx hb hr (fun t ht hW => ⟨⟨(-1), (), rfl, (by show ((-1) : Int32).toInt = sg (v 100) (F 39) p0.toInt ∧ (-1 ≤ ((-1) : Int32).toInt ∧ ((-1) : Int32).toInt ≤ 255) ∧ (((-1) : Int32).toInt = -1 ∨ (0 ≤ p0.toInt ∧ p0.toInt < (v 100).toInt)); have : ((-1) : Int32).toInt = (-1) := (by decide); refine ⟨?_, by omega, by omega⟩; unfold sg; rw [if_neg (by omega)] <;> omega), (by show va_P _ _ _ t.heap; rw [ht]; exact hP9)⟩, hS.F ht⟩) hS.2.2 dX10_at_22
  · skip
    have t3137 := cv_nlt (a := p0.toInt) rfl (b := 0) (by decide) c3135
    refine lv_iload_n hx hb dX10_at_4 rfl (lv_at hl 1 rfl) ?_
    refine lv_aload_n hx hb dX10_at_5 rfl (lv_at hl 0 rfl) ?_
    refine va_get (D := (dC, dI)) (ci := 10) (v := .int (v 100)) (C := RX10) (T := TX10) (N := 2) hx hb hwd inA_X10 hown hK hP 5 rfl rfl 0 (by decide) (hwd _ wk_834) (fun _ h9 => h9) rfl dX10_at_6 ?_
    have t3138 : 0 ≤ (v 100).toInt ∧ (v 100).toInt ≤ 120 := hI.1 100 _ _ rfl
    refine lv_icmp_ge (tgt := 21) hx hb dX10_at_9 (by decide) (fun c3139 => ?_) (fun c3139 => ?_)
    · skip
      have t3140 := cv_le (a := (v 100).toInt) rfl (b := p0.toInt) rfl c3139
      refine lv_iconst (v := (-1)) hx hb dX10_at_21 (by decide) ?_
      have hP9 : va_P (dC, dI) classes (wX g c v F rc) H := hP
      exact W.iret (v := (-1)) hx hb hr (fun t ht hW => ⟨⟨(-1), (), rfl, (by show ((-1) : Int32).toInt = sg (v 100) (F 39) p0.toInt ∧ (-1 ≤ ((-1) : Int32).toInt ∧ ((-1) : Int32).toInt ≤ 255) ∧ (((-1) : Int32).toInt = -1 ∨ (0 ≤ p0.toInt ∧ p0.toInt < (v 100).toInt)); have : ((-1) : Int32).toInt = (-1) := (by decide); refine ⟨?_, by omega, by omega⟩; unfold sg; rw [if_neg (by omega)] <;> omega), (by show va_P _ _ _ t.heap; rw [ht]; exact hP9)⟩, hS.F ht⟩) hS.2.2 dX10_at_22
    · skip
      have t3141 := cv_nle (a := (v 100).toInt) rfl (b := p0.toInt) rfl c3139
      refine lv_aload_n hx hb dX10_at_12 rfl (lv_at hl 0 rfl) ?_
      refine va_get (D := (dC, dI)) (ci := 10) (v := .ref (g 39)) (C := RX10) (T := TX10) (N := 2) hx hb hwd inA_X10 hown hK hP 5 rfl rfl 1 (by decide) (hwd _ wk_104) (fun _ h9 => h9) rfl dX10_at_13 ?_
      refine lv_iload_n hx hb dX10_at_16 rfl (lv_at hl 1 rfl) ?_
      refine va_iald hx hb hK hP 39 27 rfl rfl (i := p0) (vin (a := p0.toInt) rfl (by omega)) dX10_at_17 ?_
      refine lv_topi (fun z3142 e3143 => ?_)
      have t3144 : 0 ≤ z3142.toInt ∧ z3142.toInt ≤ 255 := by rw [e3143]; exact hI.2 39 _ _ rfl _
      refine lv_goto (tgt := 22) hx hb dX10_at_18 (by decide) ?_
      have hP9 : va_P (dC, dI) classes (wX g c v F rc) H := hP
      exact W.iret (v := z3142) hx hb hr (fun t ht hW => ⟨⟨z3142, (), rfl, (by show z3142.toInt = sg (v 100) (F 39) p0.toInt ∧ (-1 ≤ z3142.toInt ∧ z3142.toInt ≤ 255) ∧ (z3142.toInt = -1 ∨ (0 ≤ p0.toInt ∧ p0.toInt < (v 100).toInt)); refine ⟨?_, by omega, by omega⟩; unfold sg; rw [if_pos (by omega)]; exact congrArg Int32.toInt e3143), (by show va_P _ _ _ t.heap; rw [ht]; exact hP9)⟩, hS.F ht⟩) hS.2.2 dX10_at_22
set_option maxHeartbeats 8000000 in
set_option maxRecDepth 100000 in
theorem c_X10_hasDigitAt_e (l : Launch) (dC : Nat → ClassId) (dI : Nat → Nat → Nat) (g : Nat → Nat) (c : Nat → ClassId) (adK adV : Nat → Nat) (v : Nat → Int32) (F : Nat → Nat → Int32) (rc sz : Nat) (p0 : Int32) (hg : injX g) (hI : IX v F) : Met l yX10_hasDigitAt (Cond.code yX10_hasDigitAt cX10_hasDigitAt 2 (some .boolean) :: wA) ({ frames := 2, cells := 0, slots := 0, locals := 80 }) (va_Pc [.ref (g 5), .int p0] (PX dC dI g c adK adV v F rc sz)) (va_Qi (fun (r : Int32) (u : Unit) => (r.toInt = 1 ∧ (48 ≤ sg (v 100) (F 39) p0.toInt ∧ sg (v 100) (F 39) p0.toInt ≤ 57) ∧ 0 ≤ p0.toInt ∧ p0.toInt < (v 100).toInt) ∨ (r.toInt = 0 ∧ ¬ (48 ≤ sg (v 100) (F 39) p0.toInt ∧ sg (v 100) (F 39) p0.toInt ≤ 57))) (fun (_ : Unit) => BX dC dI g c (v, F, rc)) (AX g sz)) 0 0 (AX g sz) := by
  refine Met.ofW (cc := cX10_hasDigitAt) (maxL := 2) (ret := (some .boolean)) (by decide) rfl ?_
  intro p e s m args below meth c0 s₁ B hml hv
  obtain ⟨rfl, hsz, hP, hK, hE⟩ := hv
  have hx := B.exec
  have hb := B.bytes
  have hr := B.returns
  have hts := atoms_spec (ws := Cond.code yX10_hasDigitAt cX10_hasDigitAt 2 (some .boolean) :: wA) B.pre
  have hwd : ∀ w ∈ wA, w.before _ s = true := fun w h => hts w (List.mem_cons_of_mem _ h)
  have hown : s.vm.findClass RX10 = some m.cls := findClass_of_methodNamed B.named
  have hlocks := B.notSynchronized
  subst hsz
  have hl := lv_entry ([.ref (g 5), .int p0]) (n := 2) (Nat.le_of_ble_eq_true rfl)
  rw [lg_entry_eq]
  generalize (lg_sl ([.ref (g 5), .int p0]) ++ List.replicate (2 - (lg_sl ([.ref (g 5), .int p0])).length) Slot.unset).toArray = ls at hl ⊢
  have hl : lv_has ls 2 [(0, .ref (g 5)), (1, .int p0)] := hl
  obtain ⟨H, eH⟩ : ∃ z, z = s.heap := ⟨_, rfl⟩
  have hP : va_P (dC, dI) classes (wX g c v F rc) H := by rw [eH]; exact hP
  have hS : va_S (AX g s.heap.size) s.heap H [] := by rw [eH]; exact va_S.rf
  refine my_heap eH ?_
  have rp0 := i32_rng p0
  refine lv_aload_n hx hb dX10_hasDigitAt_0 rfl (lv_at hl 0 rfl) ?_
  refine lv_iload_n hx hb dX10_hasDigitAt_1 rfl (lv_at hl 1 rfl) ?_
  have t3145 : 0 ≤ (v 100).toInt ∧ (v 100).toInt ≤ 120 := hI.1 100 _ _ rfl
  refine va_calli (va_runV (As := [.int p0]) (rest := []) ⟨hx, hb, hml, hown, hwd⟩ (c_X10_at_e l dC dI g c adK adV v F rc H.size p0 hg hI ) (cwV 1 hwd (gV wk_870 wk_984 wk_868 wk_869 wk_30) rfl rfl rfl (by decide +kernel) ⟨Nat.le_of_ble_eq_true rfl, Nat.le_of_ble_eq_true rfl⟩) ⟨PX.blind, va_recv hK hP (ci := 10) (q0 := 5) rfl rfl, fun U hU hW => ⟨rfl, PX.at hK hE hP hS hU hW⟩⟩ rfl rfl hl.1 rfl (lv_room (Nat.le_of_ble_eq_true rfl)) dX10_hasDigitAt_2 ⟨Nat.le_of_ble_eq_true rfl, Nat.le_of_ble_eq_true rfl⟩) hS (fun q _ h => (freeX hS) q h) (freeX hS) (fun r3146 u t H1 locs ht hvm hw hB hz1 hk1 hS => ?_)
  unfold BX at hB
  rw [ht] at hB
  have hP : va_P (dC, dI) classes (wX g c v F rc) H1 := hB
  replace hw : r3146.toInt = sg (v 100) (F 39) p0.toInt ∧ (-1 ≤ r3146.toInt ∧ r3146.toInt ≤ 255) ∧ (r3146.toInt = -1 ∨ (0 ≤ p0.toInt ∧ p0.toInt < (v 100).toInt)) := hw
  have hw_r3146 := hw
  clear hw
  generalize H1 = H at hP hS ⊢
  have rr_r3146 := i32_rng r3146
  refine lv_bipush (v := 48) hx hb dX10_hasDigitAt_5 (by decide) ?_
  refine lv_icmp_lt (tgt := 24) hx hb dX10_hasDigitAt_7 (by decide) (fun c3147 => ?_) (fun c3147 => ?_)
  · skip
    have t3148 := cv_lt (a := r3146.toInt) rfl (b := 48) (by decide) c3147
    refine lv_iconst (v := 0) hx hb dX10_hasDigitAt_24 (by decide) ?_
    have hP9 : va_P (dC, dI) classes (wX g c v F rc) H := hP
    exact W.zret (v := 0) hx hb hr (rfl) (fun t ht hW => ⟨⟨0, (), rfl, (by show ((0 : Int32).toInt = 1 ∧ (48 ≤ sg (v 100) (F 39) p0.toInt ∧ sg (v 100) (F 39) p0.toInt ≤ 57) ∧ 0 ≤ p0.toInt ∧ p0.toInt < (v 100).toInt) ∨ ((0 : Int32).toInt = 0 ∧ ¬ (48 ≤ sg (v 100) (F 39) p0.toInt ∧ sg (v 100) (F 39) p0.toInt ≤ 57)); have : (0 : Int32).toInt = 0 := (by decide); omega), (by show va_P _ _ _ t.heap; rw [ht]; exact hP9)⟩, hS.F ht⟩) hS.2.2 dX10_hasDigitAt_25
  · skip
    have t3149 := cv_nlt (a := r3146.toInt) rfl (b := 48) (by decide) c3147
    refine lv_aload_n hx hb dX10_hasDigitAt_10 rfl (lv_at hl 0 rfl) ?_
    refine lv_iload_n hx hb dX10_hasDigitAt_11 rfl (lv_at hl 1 rfl) ?_
    have t3150 : 0 ≤ (v 100).toInt ∧ (v 100).toInt ≤ 120 := hI.1 100 _ _ rfl
    refine va_calli (va_runV (As := [.int p0]) (rest := []) ⟨hx, hb, hml, hown, hwd⟩ (c_X10_at_e l dC dI g c adK adV v F rc H.size p0 hg hI ) (cwV 1 hwd (gV wk_870 wk_984 wk_868 wk_869 wk_30) rfl rfl rfl (by decide +kernel) ⟨Nat.le_of_ble_eq_true rfl, Nat.le_of_ble_eq_true rfl⟩) ⟨PX.blind, va_recv hK hP (ci := 10) (q0 := 5) rfl rfl, fun U hU hW => ⟨rfl, PX.at hK hE hP hS hU hW⟩⟩ rfl rfl hl.1 rfl (lv_room (Nat.le_of_ble_eq_true rfl)) dX10_hasDigitAt_12 ⟨Nat.le_of_ble_eq_true rfl, Nat.le_of_ble_eq_true rfl⟩) hS (fun q _ h => (freeX hS) q h) (freeX hS) (fun r3151 u t H1 locs ht hvm hw hB hz1 hk1 hS => ?_)
    unfold BX at hB
    rw [ht] at hB
    have hP : va_P (dC, dI) classes (wX g c v F rc) H1 := hB
    replace hw : r3151.toInt = sg (v 100) (F 39) p0.toInt ∧ (-1 ≤ r3151.toInt ∧ r3151.toInt ≤ 255) ∧ (r3151.toInt = -1 ∨ (0 ≤ p0.toInt ∧ p0.toInt < (v 100).toInt)) := hw
    have hw_r3151 := hw
    clear hw
    generalize H1 = H at hP hS ⊢
    have rr_r3151 := i32_rng r3151
    refine lv_bipush (v := 57) hx hb dX10_hasDigitAt_15 (by decide) ?_
    refine lv_icmp_gt (tgt := 24) hx hb dX10_hasDigitAt_17 (by decide) (fun c3152 => ?_) (fun c3152 => ?_)
    · skip
      have t3153 := cv_lt (a := 57) (by decide) (b := r3151.toInt) rfl c3152
      refine lv_iconst (v := 0) hx hb dX10_hasDigitAt_24 (by decide) ?_
      have hP9 : va_P (dC, dI) classes (wX g c v F rc) H := hP
      exact W.zret (v := 0) hx hb hr (rfl) (fun t ht hW => ⟨⟨0, (), rfl, (by show ((0 : Int32).toInt = 1 ∧ (48 ≤ sg (v 100) (F 39) p0.toInt ∧ sg (v 100) (F 39) p0.toInt ≤ 57) ∧ 0 ≤ p0.toInt ∧ p0.toInt < (v 100).toInt) ∨ ((0 : Int32).toInt = 0 ∧ ¬ (48 ≤ sg (v 100) (F 39) p0.toInt ∧ sg (v 100) (F 39) p0.toInt ≤ 57)); have : (0 : Int32).toInt = 0 := (by decide); omega), (by show va_P _ _ _ t.heap; rw [ht]; exact hP9)⟩, hS.F ht⟩) hS.2.2 dX10_hasDigitAt_25
    · skip
      have t3154 := cv_nlt (a := 57) (by decide) (b := r3151.toInt) rfl c3152
      refine lv_iconst (v := 1) hx hb dX10_hasDigitAt_20 (by decide) ?_
      refine lv_goto (tgt := 25) hx hb dX10_hasDigitAt_21 (by decide) ?_
      have hP9 : va_P (dC, dI) classes (wX g c v F rc) H := hP
      exact W.zret (v := 1) hx hb hr (rfl) (fun t ht hW => ⟨⟨1, (), rfl, (by show ((1 : Int32).toInt = 1 ∧ (48 ≤ sg (v 100) (F 39) p0.toInt ∧ sg (v 100) (F 39) p0.toInt ≤ 57) ∧ 0 ≤ p0.toInt ∧ p0.toInt < (v 100).toInt) ∨ ((1 : Int32).toInt = 0 ∧ ¬ (48 ≤ sg (v 100) (F 39) p0.toInt ∧ sg (v 100) (F 39) p0.toInt ≤ 57)); have : (1 : Int32).toInt = 1 := (by decide); omega), (by show va_P _ _ _ t.heap; rw [ht]; exact hP9)⟩, hS.F ht⟩) hS.2.2 dX10_hasDigitAt_25
set_option maxHeartbeats 8000000 in
set_option maxRecDepth 100000 in
theorem c_X10_digitsAt_e (l : Launch) (dC : Nat → ClassId) (dI : Nat → Nat → Nat) (g : Nat → Nat) (c : Nat → ClassId) (adK adV : Nat → Nat) (v : Nat → Int32) (F : Nat → Nat → Int32) (rc sz : Nat) (p0 : Int32) (hg : injX g) (hI : IX v F) (h0 : 0 ≤ p0.toInt ∧ p0.toInt ≤ 120) : Met l yX10_digitsAt (Cond.code yX10_digitsAt cX10_digitsAt 3 (some .int) :: wA) ({ frames := 3, cells := 0, slots := 0, locals := 120 }) (va_Pc [.ref (g 5), .int p0] (PX dC dI g c adK adV v F rc sz)) (va_Qi (fun (r : Int32) (u : Unit) => (0 ≤ r.toInt ∧ r.toInt ≤ 5) ∧ dgA (v 100) (F 39) p0.toInt r.toInt ∧ (r.toInt = 5 ∨ ¬ (48 ≤ sg (v 100) (F 39) (p0.toInt + r.toInt) ∧ sg (v 100) (F 39) (p0.toInt + r.toInt) ≤ 57)) ∧ (r.toInt = 0 ∨ p0.toInt + r.toInt ≤ (v 100).toInt)) (fun (_ : Unit) => BX dC dI g c (v, F, rc)) (AX g sz)) 0 0 (AX g sz) := by
  refine Met.ofW (cc := cX10_digitsAt) (maxL := 3) (ret := (some .int)) (by decide) rfl ?_
  intro p e s m args below meth c0 s₁ B hml hv
  obtain ⟨rfl, hsz, hP, hK, hE⟩ := hv
  have hx := B.exec
  have hb := B.bytes
  have hr := B.returns
  have hts := atoms_spec (ws := Cond.code yX10_digitsAt cX10_digitsAt 3 (some .int) :: wA) B.pre
  have hwd : ∀ w ∈ wA, w.before _ s = true := fun w h => hts w (List.mem_cons_of_mem _ h)
  have hown : s.vm.findClass RX10 = some m.cls := findClass_of_methodNamed B.named
  have hlocks := B.notSynchronized
  subst hsz
  have hl := lv_entry ([.ref (g 5), .int p0]) (n := 3) (Nat.le_of_ble_eq_true rfl)
  rw [lg_entry_eq]
  generalize (lg_sl ([.ref (g 5), .int p0]) ++ List.replicate (3 - (lg_sl ([.ref (g 5), .int p0])).length) Slot.unset).toArray = ls at hl ⊢
  have hl : lv_has ls 3 [(0, .ref (g 5)), (1, .int p0)] := hl
  obtain ⟨H, eH⟩ : ∃ z, z = s.heap := ⟨_, rfl⟩
  have hP : va_P (dC, dI) classes (wX g c v F rc) H := by rw [eH]; exact hP
  have hS : va_S (AX g s.heap.size) s.heap H [] := by rw [eH]; exact va_S.rf
  refine my_heap eH ?_
  have rp0 := i32_rng p0
  refine lv_iconst (v := 0) hx hb dX10_digitsAt_0 (by decide) ?_
  refine lv_istore_n (lv' := [(2, .int 0), (0, .ref (g 5)), (1, .int p0)]) hx hb dX10_digitsAt_1 rfl hl (by decide) rfl (fun ls hl => ?_)
  have lp3155 : ∀ (n : Nat) (x2_lp3155 : Int32) (H : Heap) (locs : List Loc) (ls : Array Slot), (0 ≤ x2_lp3155.toInt) → (x2_lp3155.toInt ≤ 5) → (dgA (v 100) (F 39) p0.toInt x2_lp3155.toInt) → (x2_lp3155.toInt = 0 ∨ p0.toInt + x2_lp3155.toInt ≤ (v 100).toInt) → (2147483648 - x2_lp3155.toInt ≤ (n : Int)) → va_P (dC, dI) classes (wX g c v F rc) H → va_S (AX g s.heap.size) s.heap H locs → lv_has ls 3 [(2, .int x2_lp3155), (0, .ref (g 5)), (1, .int p0)] → W p l e (headSpec (Cond.code yX10_digitsAt cX10_digitsAt 3 (some .int) :: wA) ({ frames := 3, cells := 0, slots := 0, locals := 120 })).room s m ([.ref (g 5), .int p0] : List Value).toArray below meth c0 H locs 0 0 (MQ below (va_Qi (fun (r : Int32) (u : Unit) => (0 ≤ r.toInt ∧ r.toInt ≤ 5) ∧ dgA (v 100) (F 39) p0.toInt r.toInt ∧ (r.toInt = 5 ∨ ¬ (48 ≤ sg (v 100) (F 39) (p0.toInt + r.toInt) ∧ sg (v 100) (F 39) (p0.toInt + r.toInt) ≤ 57)) ∧ (r.toInt = 0 ∨ p0.toInt + r.toInt ≤ (v 100).toInt)) (fun (_ : Unit) => BX dC dI g c (v, F, rc)) (AX g s.heap.size)) ([.ref (g 5), .int p0] : List Value).toArray s 0 0 (AX g s.heap.size)) (F0 m 2 ls []) := by
    intro n
    induction n with
    | zero =>
      intro x2_lp3155 H locs ls t3156 t3157 t3158 t3159 hm hP hS hl
      exfalso
      have := i32_rng x2_lp3155
      omega
    | succ n ih_lp3155 =>
      intro x2_lp3155 H locs ls t3156 t3157 t3158 t3159 hm hP hS hl
      have rx2_lp3155 := i32_rng x2_lp3155
      refine lv_iload_n hx hb dX10_digitsAt_2 rfl (lv_at hl 0 rfl) ?_
      refine lv_iconst (v := 5) hx hb dX10_digitsAt_3 (by decide) ?_
      refine lv_icmp_ge (tgt := 23) hx hb dX10_digitsAt_4 (by decide) (fun c3160 => ?_) (fun c3160 => ?_)
      · skip
        have t3161 := cv_le (a := 5) (by decide) (b := x2_lp3155.toInt) rfl c3160
        refine lv_iload_n hx hb dX10_digitsAt_23 rfl (lv_at hl 0 rfl) ?_
        have hP9 : va_P (dC, dI) classes (wX g c v F rc) H := hP
        exact W.iret (v := x2_lp3155) hx hb hr (fun t ht hW => ⟨⟨x2_lp3155, (), rfl, (by show (0 ≤ x2_lp3155.toInt ∧ x2_lp3155.toInt ≤ 5) ∧ dgA (v 100) (F 39) p0.toInt x2_lp3155.toInt ∧ (x2_lp3155.toInt = 5 ∨ ¬ (48 ≤ sg (v 100) (F 39) (p0.toInt + x2_lp3155.toInt) ∧ sg (v 100) (F 39) (p0.toInt + x2_lp3155.toInt) ≤ 57)) ∧ (x2_lp3155.toInt = 0 ∨ p0.toInt + x2_lp3155.toInt ≤ (v 100).toInt); exact ⟨by omega, t3158, Or.inl (by omega), by omega⟩), (by show va_P _ _ _ t.heap; rw [ht]; exact hP9)⟩, hS.F ht⟩) hS.2.2 dX10_digitsAt_24
      · skip
        have t3162 := cv_nle (a := 5) (by decide) (b := x2_lp3155.toInt) rfl c3160
        refine lv_aload_n hx hb dX10_digitsAt_7 rfl (lv_at hl 1 rfl) ?_
        refine lv_iload_n hx hb dX10_digitsAt_8 rfl (lv_at hl 2 rfl) ?_
        refine lv_iload_n hx hb dX10_digitsAt_9 rfl (lv_at hl 0 rfl) ?_
        refine lv_iadd hx hb dX10_digitsAt_10 ?_
        refine lv_topi (fun z3163 e3164 => ?_)
        try (have t3165 := tadd e3164 (a := p0.toInt) rfl (b := x2_lp3155.toInt) rfl (by omega))
        have t3166 : 0 ≤ (v 100).toInt ∧ (v 100).toInt ≤ 120 := hI.1 100 _ _ rfl
        refine va_calli (va_runV (As := [.int z3163]) (rest := []) ⟨hx, hb, hml, hown, hwd⟩ (c_X10_hasDigitAt_e l dC dI g c adK adV v F rc H.size z3163 hg hI ) (cwV 1 hwd (gV wk_983 wk_980 wk_981 wk_982 wk_30) rfl rfl rfl (by decide +kernel) ⟨Nat.le_of_ble_eq_true rfl, Nat.le_of_ble_eq_true rfl⟩) ⟨PX.blind, va_recv hK hP (ci := 10) (q0 := 5) rfl rfl, fun U hU hW => ⟨rfl, PX.at hK hE hP hS hU hW⟩⟩ rfl rfl hl.1 rfl (lv_room (Nat.le_of_ble_eq_true rfl)) dX10_digitsAt_11 ⟨Nat.le_of_ble_eq_true rfl, Nat.le_of_ble_eq_true rfl⟩) hS (fun q _ h => (freeX hS) q h) (freeX hS) (fun r3167 u t H1 locs ht hvm hw hB hz1 hk1 hS => ?_)
        unfold BX at hB
        rw [ht] at hB
        have hP : va_P (dC, dI) classes (wX g c v F rc) H1 := hB
        replace hw : (r3167.toInt = 1 ∧ (48 ≤ sg (v 100) (F 39) z3163.toInt ∧ sg (v 100) (F 39) z3163.toInt ≤ 57) ∧ 0 ≤ z3163.toInt ∧ z3163.toInt < (v 100).toInt) ∨ (r3167.toInt = 0 ∧ ¬ (48 ≤ sg (v 100) (F 39) z3163.toInt ∧ sg (v 100) (F 39) z3163.toInt ≤ 57)) := hw
        have hw_r3167 := hw
        clear hw
        generalize H1 = H at hP hS ⊢
        have rr_r3167 := i32_rng r3167
        refine lv_if_eq (tgt := 23) hx hb dX10_digitsAt_14 (by decide) (fun c3168 => ?_) (fun c3168 => ?_)
        · skip
          have t3169 := cv_eq (a := r3167.toInt) rfl (b := 0) (by decide) c3168
          refine lv_iload_n hx hb dX10_digitsAt_23 rfl (lv_at hl 0 rfl) ?_
          have hP9 : va_P (dC, dI) classes (wX g c v F rc) H := hP
          exact W.iret (v := x2_lp3155) hx hb hr (fun t ht hW => ⟨⟨x2_lp3155, (), rfl, (by show (0 ≤ x2_lp3155.toInt ∧ x2_lp3155.toInt ≤ 5) ∧ dgA (v 100) (F 39) p0.toInt x2_lp3155.toInt ∧ (x2_lp3155.toInt = 5 ∨ ¬ (48 ≤ sg (v 100) (F 39) (p0.toInt + x2_lp3155.toInt) ∧ sg (v 100) (F 39) (p0.toInt + x2_lp3155.toInt) ≤ 57)) ∧ (x2_lp3155.toInt = 0 ∨ p0.toInt + x2_lp3155.toInt ≤ (v 100).toInt); exact ⟨by omega, t3158, Or.inr (by rw [show p0.toInt + x2_lp3155.toInt = z3163.toInt by omega]; omega), by omega⟩), (by show va_P _ _ _ t.heap; rw [ht]; exact hP9)⟩, hS.F ht⟩) hS.2.2 dX10_digitsAt_24
        · skip
          have t3170 := cv_ne (a := r3167.toInt) rfl (b := 0) (by decide) c3168
          obtain ⟨z3171, e3172⟩ : ∃ y : Int32, y = x2_lp3155 + 1 := ⟨_, rfl⟩
          try (have t3173 := tadd e3172 rfl (b := 1) (by decide) (by omega))
          refine lv_iinc (v := z3171) (lv' := [(2, .int z3171), (0, .ref (g 5)), (1, .int p0)]) hx hb dX10_digitsAt_17 hl (k := 0) rfl (by rw [e3172]; rfl) (by decide) rfl (fun ls hl => ?_)
          refine lv_goto (tgt := 2) hx hb dX10_digitsAt_20 (by decide) ?_
          exact ih_lp3155 z3171  _ _ _ (by omega) (by omega) (dgA.step t3158 (by omega) (by omega) (q := z3163.toInt) (by omega) (by omega)) (by omega) (by omega) hP hS (lv_sub hl [0, 1, 2] rfl)
  obtain ⟨n9, hn9⟩ : ∃ n : Nat, 2147483648 - 0 ≤ (n : Int) := ⟨((2147483648 - 0 : Int)).toNat, by omega⟩
  exact lp3155 n9 0  H _ ls (by have : (0 : Int32).toInt = 0 := (by decide); omega) (by have : (0 : Int32).toInt = 0 := (by decide); omega) (dgA.zero (by decide)) (Or.inl (by decide)) (by have : (0 : Int32).toInt = 0 := (by decide); omega) hP hS hl
set_option maxHeartbeats 8000000 in
set_option maxRecDepth 100000 in
theorem c_X10_numberAt_e (l : Launch) (dC : Nat → ClassId) (dI : Nat → Nat → Nat) (g : Nat → Nat) (c : Nat → ClassId) (adK adV : Nat → Nat) (v : Nat → Int32) (F : Nat → Nat → Int32) (rc sz : Nat) (p0 : Int32) (p1 : Int32) (hg : injX g) (hI : IX v F) (h0 : 0 ≤ p0.toInt ∧ p0.toInt ≤ 120) (h1 : 0 ≤ p1.toInt ∧ p1.toInt ≤ 5) (hdg : dgA (v 100) (F 39) p0.toInt p1.toInt) : Met l yX10_numberAt (Cond.code yX10_numberAt cX10_numberAt 5 (some .int) :: wA) ({ frames := 2, cells := 0, slots := 0, locals := 80 }) (va_Pc [.ref (g 5), .int p0, .int p1] (PX dC dI g c adK adV v F rc sz)) (va_Qi (fun (r : Int32) (u : Unit) => 0 ≤ r.toInt ∧ r.toInt ≤ 99999) (fun (_ : Unit) => BX dC dI g c (v, F, rc)) (AX g sz)) 0 0 (AX g sz) := by
  refine Met.ofW (cc := cX10_numberAt) (maxL := 5) (ret := (some .int)) (by decide) rfl ?_
  intro p e s m args below meth c0 s₁ B hml hv
  obtain ⟨rfl, hsz, hP, hK, hE⟩ := hv
  have hx := B.exec
  have hb := B.bytes
  have hr := B.returns
  have hts := atoms_spec (ws := Cond.code yX10_numberAt cX10_numberAt 5 (some .int) :: wA) B.pre
  have hwd : ∀ w ∈ wA, w.before _ s = true := fun w h => hts w (List.mem_cons_of_mem _ h)
  have hown : s.vm.findClass RX10 = some m.cls := findClass_of_methodNamed B.named
  have hlocks := B.notSynchronized
  subst hsz
  have hl := lv_entry ([.ref (g 5), .int p0, .int p1]) (n := 5) (Nat.le_of_ble_eq_true rfl)
  rw [lg_entry_eq]
  generalize (lg_sl ([.ref (g 5), .int p0, .int p1]) ++ List.replicate (5 - (lg_sl ([.ref (g 5), .int p0, .int p1])).length) Slot.unset).toArray = ls at hl ⊢
  have hl : lv_has ls 5 [(0, .ref (g 5)), (1, .int p0), (2, .int p1)] := hl
  obtain ⟨H, eH⟩ : ∃ z, z = s.heap := ⟨_, rfl⟩
  have hP : va_P (dC, dI) classes (wX g c v F rc) H := by rw [eH]; exact hP
  have hS : va_S (AX g s.heap.size) s.heap H [] := by rw [eH]; exact va_S.rf
  refine my_heap eH ?_
  have rp0 := i32_rng p0
  have rp1 := i32_rng p1
  refine lv_iconst (v := 0) hx hb dX10_numberAt_0 (by decide) ?_
  refine lv_istore_n (lv' := [(3, .int 0), (0, .ref (g 5)), (1, .int p0), (2, .int p1)]) hx hb dX10_numberAt_1 rfl hl (by decide) rfl (fun ls hl => ?_)
  refine lv_iconst (v := 0) hx hb dX10_numberAt_2 (by decide) ?_
  refine lv_istore (lv' := [(4, .int 0), (3, .int 0), (0, .ref (g 5)), (1, .int p0), (2, .int p1)]) hx hb dX10_numberAt_3 hl (by decide) rfl (fun ls hl => ?_)
  have lp3174 : ∀ (n : Nat) (x4_lp3174 : Int32) (x3_lp3174 : Int32) (H : Heap) (locs : List Loc) (ls : Array Slot), (0 ≤ x4_lp3174.toInt) → (x4_lp3174.toInt ≤ 5) → (0 ≤ x3_lp3174.toInt) → (x3_lp3174.toInt ≤ 99999) → ((x4_lp3174.toInt = 0 → x3_lp3174.toInt ≤ 0) ∧ (x4_lp3174.toInt = 1 → x3_lp3174.toInt ≤ 9) ∧ (x4_lp3174.toInt = 2 → x3_lp3174.toInt ≤ 99) ∧ (x4_lp3174.toInt = 3 → x3_lp3174.toInt ≤ 999) ∧ (x4_lp3174.toInt = 4 → x3_lp3174.toInt ≤ 9999) ∧ (x4_lp3174.toInt = 5 → x3_lp3174.toInt ≤ 99999)) → (2147483648 - x4_lp3174.toInt ≤ (n : Int)) → va_P (dC, dI) classes (wX g c v F rc) H → va_S (AX g s.heap.size) s.heap H locs → lv_has ls 5 [(4, .int x4_lp3174), (3, .int x3_lp3174), (0, .ref (g 5)), (1, .int p0), (2, .int p1)] → W p l e (headSpec (Cond.code yX10_numberAt cX10_numberAt 5 (some .int) :: wA) ({ frames := 2, cells := 0, slots := 0, locals := 80 })).room s m ([.ref (g 5), .int p0, .int p1] : List Value).toArray below meth c0 H locs 0 0 (MQ below (va_Qi (fun (r : Int32) (u : Unit) => 0 ≤ r.toInt ∧ r.toInt ≤ 99999) (fun (_ : Unit) => BX dC dI g c (v, F, rc)) (AX g s.heap.size)) ([.ref (g 5), .int p0, .int p1] : List Value).toArray s 0 0 (AX g s.heap.size)) (F0 m 5 ls []) := by
    intro n
    induction n with
    | zero =>
      intro x4_lp3174 x3_lp3174 H locs ls t3175 t3176 t3177 t3178 t3179 hm hP hS hl
      exfalso
      have := i32_rng x4_lp3174
      have := i32_rng x3_lp3174
      omega
    | succ n ih_lp3174 =>
      intro x4_lp3174 x3_lp3174 H locs ls t3175 t3176 t3177 t3178 t3179 hm hP hS hl
      have rx4_lp3174 := i32_rng x4_lp3174
      have rx3_lp3174 := i32_rng x3_lp3174
      refine lv_iload hx hb dX10_numberAt_5 (lv_at hl 0 rfl) ?_
      refine lv_iload_n hx hb dX10_numberAt_7 rfl (lv_at hl 4 rfl) ?_
      refine lv_icmp_ge (tgt := 34) hx hb dX10_numberAt_8 (by decide) (fun c3180 => ?_) (fun c3180 => ?_)
      · skip
        have t3181 := cv_le (a := p1.toInt) rfl (b := x4_lp3174.toInt) rfl c3180
        refine lv_iload_n hx hb dX10_numberAt_34 rfl (lv_at hl 1 rfl) ?_
        have hP9 : va_P (dC, dI) classes (wX g c v F rc) H := hP
        exact W.iret (v := x3_lp3174) hx hb hr (fun t ht hW => ⟨⟨x3_lp3174, (), rfl, by omega, (by show va_P _ _ _ t.heap; rw [ht]; exact hP9)⟩, hS.F ht⟩) hS.2.2 dX10_numberAt_35
      · skip
        have t3182 := cv_nle (a := p1.toInt) rfl (b := x4_lp3174.toInt) rfl c3180
        refine lv_iload_n hx hb dX10_numberAt_11 rfl (lv_at hl 1 rfl) ?_
        refine lv_bipush (v := 10) hx hb dX10_numberAt_12 (by decide) ?_
        refine lv_imul hx hb dX10_numberAt_14 ?_
        refine lv_topi (fun z3183 e3184 => ?_)
        try (have t3185 := tmul e3184 (a := x3_lp3174.toInt) rfl (b := 10) (by decide) (by omega))
        refine lv_aload_n hx hb dX10_numberAt_15 rfl (lv_at hl 2 rfl) ?_
        refine lv_iload_n hx hb dX10_numberAt_16 rfl (lv_at hl 3 rfl) ?_
        refine lv_iload hx hb dX10_numberAt_17 (lv_at hl 0 rfl) ?_
        refine lv_iadd hx hb dX10_numberAt_19 ?_
        refine lv_topi (fun z3186 e3187 => ?_)
        try (have t3188 := tadd e3187 (a := p0.toInt) rfl (b := x4_lp3174.toInt) rfl (by omega))
        have t3189 : 0 ≤ (v 100).toInt ∧ (v 100).toInt ≤ 120 := hI.1 100 _ _ rfl
        refine va_calli (va_runV (As := [.int z3186]) (rest := [.int z3183]) ⟨hx, hb, hml, hown, hwd⟩ (c_X10_at_e l dC dI g c adK adV v F rc H.size z3186 hg hI ) (cwV 1 hwd (gV wk_870 wk_984 wk_868 wk_869 wk_30) rfl rfl rfl (by decide +kernel) ⟨Nat.le_of_ble_eq_true rfl, Nat.le_of_ble_eq_true rfl⟩) ⟨PX.blind, va_recv hK hP (ci := 10) (q0 := 5) rfl rfl, fun U hU hW => ⟨rfl, PX.at hK hE hP hS hU hW⟩⟩ rfl rfl hl.1 rfl (lv_room (Nat.le_of_ble_eq_true rfl)) dX10_numberAt_20 ⟨Nat.le_of_ble_eq_true rfl, Nat.le_of_ble_eq_true rfl⟩) hS (fun q _ h => (freeX hS) q h) (freeX hS) (fun r3190 u t H1 locs ht hvm hw hB hz1 hk1 hS => ?_)
        unfold BX at hB
        rw [ht] at hB
        have hP : va_P (dC, dI) classes (wX g c v F rc) H1 := hB
        replace hw : r3190.toInt = sg (v 100) (F 39) z3186.toInt ∧ (-1 ≤ r3190.toInt ∧ r3190.toInt ≤ 255) ∧ (r3190.toInt = -1 ∨ (0 ≤ z3186.toInt ∧ z3186.toInt < (v 100).toInt)) := hw
        have hw_r3190 := hw
        clear hw
        generalize H1 = H at hP hS ⊢
        have td_r3190 := hdg.at' (x := x4_lp3174.toInt) (q := z3186.toInt) (by omega) (by omega) (by omega)
        have rr_r3190 := i32_rng r3190
        refine lv_iadd hx hb dX10_numberAt_23 ?_
        refine lv_topi (fun z3191 e3192 => ?_)
        try (have t3193 := tadd e3192 (a := z3183.toInt) rfl (b := r3190.toInt) rfl (by omega))
        refine lv_bipush (v := 48) hx hb dX10_numberAt_24 (by decide) ?_
        refine lv_isub hx hb dX10_numberAt_26 ?_
        refine lv_topi (fun z3194 e3195 => ?_)
        try (have t3196 := tsub e3195 (a := z3191.toInt) rfl (b := 48) (by decide) (by omega))
        refine lv_istore_n (lv' := [(3, .int z3194), (4, .int x4_lp3174), (0, .ref (g 5)), (1, .int p0), (2, .int p1)]) hx hb dX10_numberAt_27 rfl hl (by decide) rfl (fun ls hl => ?_)
        obtain ⟨z3197, e3198⟩ : ∃ y : Int32, y = x4_lp3174 + 1 := ⟨_, rfl⟩
        try (have t3199 := tadd e3198 rfl (b := 1) (by decide) (by omega))
        refine lv_iinc (v := z3197) (lv' := [(4, .int z3197), (3, .int z3194), (0, .ref (g 5)), (1, .int p0), (2, .int p1)]) hx hb dX10_numberAt_28 hl (k := 1) rfl (by rw [e3198]; rfl) (by decide) rfl (fun ls hl => ?_)
        refine lv_goto (tgt := 5) hx hb dX10_numberAt_31 (by decide) ?_
        exact ih_lp3174 z3197 z3194  _ _ _ (by omega) (by omega) (by omega) (by omega) (by omega) (by omega) hP hS (lv_sub hl [0, 1, 2, 3, 4] rfl)
  obtain ⟨n9, hn9⟩ : ∃ n : Nat, 2147483648 - 0 ≤ (n : Int) := ⟨((2147483648 - 0 : Int)).toNat, by omega⟩
  exact lp3174 n9 0 0  H _ ls (by have : (0 : Int32).toInt = 0 := (by decide); have : (0 : Int32).toInt = 0 := (by decide); omega) (by have : (0 : Int32).toInt = 0 := (by decide); have : (0 : Int32).toInt = 0 := (by decide); omega) (by have : (0 : Int32).toInt = 0 := (by decide); have : (0 : Int32).toInt = 0 := (by decide); omega) (by have : (0 : Int32).toInt = 0 := (by decide); have : (0 : Int32).toInt = 0 := (by decide); omega) (by have : (0 : Int32).toInt = 0 := (by decide); omega) (by have : (0 : Int32).toInt = 0 := (by decide); have : (0 : Int32).toInt = 0 := (by decide); omega) hP hS hl
