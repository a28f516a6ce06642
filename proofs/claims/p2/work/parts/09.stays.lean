set_option maxHeartbeats 8000000 in
set_option maxRecDepth 100000 in
theorem c_X9_hasRoom (l : Launch) (dC : Nat → ClassId) (dI : Nat → Nat → Nat) (g : Nat → Nat) (c : Nat → ClassId) (adK adV : Nat → Nat) (v : Nat → Int32) (F : Nat → Nat → Int32) (rc sz : Nat) (p0 : Int32) (hg : injX g) (hI : IX v F) : Met l yX9_hasRoom (Cond.code yX9_hasRoom cX9_hasRoom 2 (some .boolean) :: wA) ({ frames := 1, cells := 0, slots := 0, locals := 40 }) (va_Pc [.ref (g 4), .int p0] (PX dC dI g c adK adV v F rc sz)) (va_Qi (fun (r : Int32) (u : Unit) => 0 ≤ r.toInt ∧ r.toInt ≤ 1) (fun (_ : Unit) => BX dC dI g c (v, F, rc)) (AX g sz)) 0 0 (AX g sz) := by
  refine Met.ofW (cc := cX9_hasRoom) (maxL := 2) (ret := (some .boolean)) (by decide) rfl ?_
  intro p e s m args below meth c0 s₁ B hml hv
  obtain ⟨rfl, hsz, hP, hK, hE⟩ := hv
  have hx := B.exec
  have hb := B.bytes
  have hr := B.returns
  have hts := atoms_spec (ws := Cond.code yX9_hasRoom cX9_hasRoom 2 (some .boolean) :: wA) B.pre
  have hwd : ∀ w ∈ wA, w.before _ s = true := fun w h => hts w (List.mem_cons_of_mem _ h)
  have hown : s.vm.findClass RX9 = some m.cls := findClass_of_methodNamed B.named
  have hlocks := B.notSynchronized
  subst hsz
  have hl := lv_entry ([.ref (g 4), .int p0]) (n := 2) (Nat.le_of_ble_eq_true rfl)
  rw [lg_entry_eq]
  generalize (lg_sl ([.ref (g 4), .int p0]) ++ List.replicate (2 - (lg_sl ([.ref (g 4), .int p0])).length) Slot.unset).toArray = ls at hl ⊢
  have hl : lv_has ls 2 [(0, .ref (g 4)), (1, .int p0)] := hl
  obtain ⟨H, eH⟩ : ∃ z, z = s.heap := ⟨_, rfl⟩
  have hP : va_P (dC, dI) classes (wX g c v F rc) H := by rw [eH]; exact hP
  have hS : va_S (AX g s.heap.size) s.heap H [] := by rw [eH]; exact va_S.rf
  refine my_heap eH ?_
  have rp0 := i32_rng p0
  refine lv_aload_n hx hb dX9_hasRoom_0 rfl (lv_at hl 0 rfl) ?_
  refine va_get (D := (dC, dI)) (ci := 9) (v := .int (v 80)) (C := RX9) (T := TX9) (N := 11) hx hb hwd inA_X9 hown hK hP 4 rfl rfl 0 (by decide) (hwd _ wk_21) (fun _ h9 => h9) rfl dX9_hasRoom_1 ?_
  have t127 : 0 ≤ (v 80).toInt ∧ (v 80).toInt ≤ 500 := hI.1 80 _ _ rfl
  refine lv_iload_n hx hb dX9_hasRoom_4 rfl (lv_at hl 1 rfl) ?_
  refine lv_iadd hx hb dX9_hasRoom_5 ?_
  refine lv_topi (fun z128 e129 => ?_)
  try (have t130 := tadd e129 (a := (v 80).toInt) rfl (b := p0.toInt) rfl (by omega))
  refine lv_sipush (v := 500) hx hb dX9_hasRoom_6 (by decide) ?_
  refine lv_icmp_gt (tgt := 16) hx hb dX9_hasRoom_9 (by decide) (fun c131 => ?_) (fun c131 => ?_)
  · skip
    have t132 := cv_lt (a := 500) (by decide) (b := z128.toInt) rfl c131
    refine lv_iconst (v := 0) hx hb dX9_hasRoom_16 (by decide) ?_
    have hP9 : va_P (dC, dI) classes (wX g c v F rc) H := hP
    exact W.zret (v := 0) hx hb hr (rfl) (fun t ht hW => ⟨⟨0, (), rfl, by have : (0 : Int32).toInt = 0 := (by decide); omega, (by show va_P _ _ _ t.heap; rw [ht]; exact hP9)⟩, hS.F ht⟩) hS.2.2 dX9_hasRoom_17
  · skip
    have t133 := cv_nlt (a := 500) (by decide) (b := z128.toInt) rfl c131
    refine lv_iconst (v := 1) hx hb dX9_hasRoom_12 (by decide) ?_
    refine lv_goto (tgt := 17) hx hb dX9_hasRoom_13 (by decide) ?_
    have hP9 : va_P (dC, dI) classes (wX g c v F rc) H := hP
    exact W.zret (v := 1) hx hb hr (rfl) (fun t ht hW => ⟨⟨1, (), rfl, by have : (1 : Int32).toInt = 1 := (by decide); omega, (by show va_P _ _ _ t.heap; rw [ht]; exact hP9)⟩, hS.F ht⟩) hS.2.2 dX9_hasRoom_17
set_option maxHeartbeats 8000000 in
set_option maxRecDepth 100000 in
theorem c_X9_goesOn (l : Launch) (dC : Nat → ClassId) (dI : Nat → Nat → Nat) (g : Nat → Nat) (c : Nat → ClassId) (adK adV : Nat → Nat) (v : Nat → Int32) (F : Nat → Nat → Int32) (rc sz : Nat) (p0 : Int32) (hg : injX g) (hI : IX v F) (h0 : 0 ≤ p0.toInt ∧ p0.toInt ≤ 499) : Met l yX9_goesOn (Cond.code yX9_goesOn cX9_goesOn 2 (some .boolean) :: wA) ({ frames := 1, cells := 0, slots := 0, locals := 40 }) (va_Pc [.ref (g 4), .int p0] (PX dC dI g c adK adV v F rc sz)) (va_Qi (fun (r : Int32) (u : Unit) => 0 ≤ r.toInt ∧ r.toInt ≤ 1) (fun (_ : Unit) => BX dC dI g c (v, F, rc)) (AX g sz)) 0 0 (AX g sz) := by
  refine Met.ofW (cc := cX9_goesOn) (maxL := 2) (ret := (some .boolean)) (by decide) rfl ?_
  intro p e s m args below meth c0 s₁ B hml hv
  obtain ⟨rfl, hsz, hP, hK, hE⟩ := hv
  have hx := B.exec
  have hb := B.bytes
  have hr := B.returns
  have hts := atoms_spec (ws := Cond.code yX9_goesOn cX9_goesOn 2 (some .boolean) :: wA) B.pre
  have hwd : ∀ w ∈ wA, w.before _ s = true := fun w h => hts w (List.mem_cons_of_mem _ h)
  have hown : s.vm.findClass RX9 = some m.cls := findClass_of_methodNamed B.named
  have hlocks := B.notSynchronized
  subst hsz
  have hl := lv_entry ([.ref (g 4), .int p0]) (n := 2) (Nat.le_of_ble_eq_true rfl)
  rw [lg_entry_eq]
  generalize (lg_sl ([.ref (g 4), .int p0]) ++ List.replicate (2 - (lg_sl ([.ref (g 4), .int p0])).length) Slot.unset).toArray = ls at hl ⊢
  have hl : lv_has ls 2 [(0, .ref (g 4)), (1, .int p0)] := hl
  obtain ⟨H, eH⟩ : ∃ z, z = s.heap := ⟨_, rfl⟩
  have hP : va_P (dC, dI) classes (wX g c v F rc) H := by rw [eH]; exact hP
  have hS : va_S (AX g s.heap.size) s.heap H [] := by rw [eH]; exact va_S.rf
  refine my_heap eH ?_
  have rp0 := i32_rng p0
  refine lv_aload_n hx hb dX9_goesOn_0 rfl (lv_at hl 0 rfl) ?_
  refine va_get (D := (dC, dI)) (ci := 9) (v := .ref (g 31)) (C := RX9) (T := TX9) (N := 11) hx hb hwd inA_X9 hown hK hP 4 rfl rfl 3 (by decide) (hwd _ wk_22) (fun _ h9 => h9) rfl dX9_goesOn_1 ?_
  refine lv_iload_n hx hb dX9_goesOn_4 rfl (lv_at hl 1 rfl) ?_
  refine va_iald hx hb hK hP 31 19 rfl rfl (i := p0) (vin (a := p0.toInt) rfl (by omega)) dX9_goesOn_5 ?_
  refine lv_topi (fun z134 e135 => ?_)
  refine lv_ldc (v := (-2000000000)) hx hb hown (hwd _ wk_23) dX9_goesOn_6 ?_
  refine lv_icmp_ne (tgt := 15) hx hb dX9_goesOn_8 (by decide) (fun c136 => ?_) (fun c136 => ?_)
  · skip
    have t137 := cv_ne (a := z134.toInt) rfl (b := (-2000000000)) (by decide) c136
    refine lv_iconst (v := 0) hx hb dX9_goesOn_15 (by decide) ?_
    have hP9 : va_P (dC, dI) classes (wX g c v F rc) H := hP
    exact W.zret (v := 0) hx hb hr (rfl) (fun t ht hW => ⟨⟨0, (), rfl, by have : (0 : Int32).toInt = 0 := (by decide); omega, (by show va_P _ _ _ t.heap; rw [ht]; exact hP9)⟩, hS.F ht⟩) hS.2.2 dX9_goesOn_16
  · skip
    have t138 := cv_eq (a := z134.toInt) rfl (b := (-2000000000)) (by decide) c136
    refine lv_iconst (v := 1) hx hb dX9_goesOn_11 (by decide) ?_
    refine lv_goto (tgt := 16) hx hb dX9_goesOn_12 (by decide) ?_
    have hP9 : va_P (dC, dI) classes (wX g c v F rc) H := hP
    exact W.zret (v := 1) hx hb hr (rfl) (fun t ht hW => ⟨⟨1, (), rfl, by have : (1 : Int32).toInt = 1 := (by decide); omega, (by show va_P _ _ _ t.heap; rw [ht]; exact hP9)⟩, hS.F ht⟩) hS.2.2 dX9_goesOn_16
set_option maxHeartbeats 8000000 in
set_option maxRecDepth 100000 in
theorem c_X9_isGap (l : Launch) (dC : Nat → ClassId) (dI : Nat → Nat → Nat) (g : Nat → Nat) (c : Nat → ClassId) (adK adV : Nat → Nat) (v : Nat → Int32) (F : Nat → Nat → Int32) (rc sz : Nat) (p0 : Int32) (hg : injX g) (hI : IX v F) (h0 : 0 ≤ p0.toInt ∧ p0.toInt ≤ 499) : Met l yX9_isGap (Cond.code yX9_isGap cX9_isGap 2 (some .boolean) :: wA) ({ frames := 2, cells := 0, slots := 0, locals := 80 }) (va_Pc [.ref (g 4), .int p0] (PX dC dI g c adK adV v F rc sz)) (va_Qi (fun (r : Int32) (u : Unit) => 0 ≤ r.toInt ∧ r.toInt ≤ 1) (fun (_ : Unit) => BX dC dI g c (v, F, rc)) (AX g sz)) 0 0 (AX g sz) := by
  refine Met.ofW (cc := cX9_isGap) (maxL := 2) (ret := (some .boolean)) (by decide) rfl ?_
  intro p e s m args below meth c0 s₁ B hml hv
  obtain ⟨rfl, hsz, hP, hK, hE⟩ := hv
  have hx := B.exec
  have hb := B.bytes
  have hr := B.returns
  have hts := atoms_spec (ws := Cond.code yX9_isGap cX9_isGap 2 (some .boolean) :: wA) B.pre
  have hwd : ∀ w ∈ wA, w.before _ s = true := fun w h => hts w (List.mem_cons_of_mem _ h)
  have hown : s.vm.findClass RX9 = some m.cls := findClass_of_methodNamed B.named
  have hlocks := B.notSynchronized
  subst hsz
  have hl := lv_entry ([.ref (g 4), .int p0]) (n := 2) (Nat.le_of_ble_eq_true rfl)
  rw [lg_entry_eq]
  generalize (lg_sl ([.ref (g 4), .int p0]) ++ List.replicate (2 - (lg_sl ([.ref (g 4), .int p0])).length) Slot.unset).toArray = ls at hl ⊢
  have hl : lv_has ls 2 [(0, .ref (g 4)), (1, .int p0)] := hl
  obtain ⟨H, eH⟩ : ∃ z, z = s.heap := ⟨_, rfl⟩
  have hP : va_P (dC, dI) classes (wX g c v F rc) H := by rw [eH]; exact hP
  have hS : va_S (AX g s.heap.size) s.heap H [] := by rw [eH]; exact va_S.rf
  refine my_heap eH ?_
  have rp0 := i32_rng p0
  refine lv_aload_n hx hb dX9_isGap_0 rfl (lv_at hl 0 rfl) ?_
  refine lv_iload_n hx hb dX9_isGap_1 rfl (lv_at hl 1 rfl) ?_
  refine va_calli (va_runV (As := [.int p0]) (rest := []) ⟨hx, hb, hml, hown, hwd⟩ (c_X9_goesOn l dC dI g c adK adV v F rc H.size p0 hg hI (by omega)) (cwV 1 hwd (gV wk_24 wk_25 wk_26 wk_27 wk_28) rfl rfl rfl (by decide +kernel) ⟨Nat.le_of_ble_eq_true rfl, Nat.le_of_ble_eq_true rfl⟩) ⟨PX.blind, va_recv hK hP (ci := 9) (q0 := 4) rfl rfl, fun U hU hW => ⟨rfl, PX.at hK hE hP hS hU hW⟩⟩ rfl rfl hl.1 rfl (lv_room (Nat.le_of_ble_eq_true rfl)) dX9_isGap_2 ⟨Nat.le_of_ble_eq_true rfl, Nat.le_of_ble_eq_true rfl⟩) hS (fun q _ h => (freeX hS) q h) (freeX hS) (fun r139 u t H1 locs ht hvm hw hB hz1 hk1 hS => ?_)
  unfold BX at hB
  rw [ht] at hB
  have hP : va_P (dC, dI) classes (wX g c v F rc) H1 := hB
  have hw : 0 ≤ r139.toInt ∧ r139.toInt ≤ 1 := hw
  generalize H1 = H at hP hS ⊢
  have hw_r139 := hw
  refine lv_if_ne (tgt := 21) hx hb dX9_isGap_5 (by decide) (fun c140 => ?_) (fun c140 => ?_)
  · skip
    have t141 := cv_ne (a := r139.toInt) rfl (b := 0) (by decide) c140
    refine lv_iconst (v := 0) hx hb dX9_isGap_21 (by decide) ?_
    have hP9 : va_P (dC, dI) classes (wX g c v F rc) H := hP
    exact W.zret (v := 0) hx hb hr (rfl) (fun t ht hW => ⟨⟨0, (), rfl, by have : (0 : Int32).toInt = 0 := (by decide); omega, (by show va_P _ _ _ t.heap; rw [ht]; exact hP9)⟩, hS.F ht⟩) hS.2.2 dX9_isGap_22
  · skip
    have t142 := cv_eq (a := r139.toInt) rfl (b := 0) (by decide) c140
    refine lv_aload_n hx hb dX9_isGap_8 rfl (lv_at hl 0 rfl) ?_
    refine va_get (D := (dC, dI)) (ci := 9) (v := .ref (g 36)) (C := RX9) (T := TX9) (N := 11) hx hb hwd inA_X9 hown hK hP 4 rfl rfl 8 (by decide) (hwd _ wk_29) (fun _ h9 => h9) rfl dX9_isGap_9 ?_
    refine lv_iload_n hx hb dX9_isGap_12 rfl (lv_at hl 1 rfl) ?_
    refine va_zald hx hb hK hP 36 24 rfl rfl (i := p0) (vin (a := p0.toInt) rfl (by omega)) dX9_isGap_13 ?_
    refine lv_topi (fun z143 e144 => ?_)
    refine lv_if_ne (tgt := 21) hx hb dX9_isGap_14 (by decide) (fun c145 => ?_) (fun c145 => ?_)
    · skip
      have t146 := cv_ne (a := z143.toInt) rfl (b := 0) (by decide) c145
      refine lv_iconst (v := 0) hx hb dX9_isGap_21 (by decide) ?_
      have hP9 : va_P (dC, dI) classes (wX g c v F rc) H := hP
      exact W.zret (v := 0) hx hb hr (rfl) (fun t ht hW => ⟨⟨0, (), rfl, by have : (0 : Int32).toInt = 0 := (by decide); omega, (by show va_P _ _ _ t.heap; rw [ht]; exact hP9)⟩, hS.F ht⟩) hS.2.2 dX9_isGap_22
    · skip
      have t147 := cv_eq (a := z143.toInt) rfl (b := 0) (by decide) c145
      refine lv_iconst (v := 1) hx hb dX9_isGap_17 (by decide) ?_
      refine lv_goto (tgt := 22) hx hb dX9_isGap_18 (by decide) ?_
      have hP9 : va_P (dC, dI) classes (wX g c v F rc) H := hP
      exact W.zret (v := 1) hx hb hr (rfl) (fun t ht hW => ⟨⟨1, (), rfl, by have : (1 : Int32).toInt = 1 := (by decide); omega, (by show va_P _ _ _ t.heap; rw [ht]; exact hP9)⟩, hS.F ht⟩) hS.2.2 dX9_isGap_22
set_option maxHeartbeats 8000000 in
set_option maxRecDepth 100000 in
theorem c_X9_usedAtStart (l : Launch) (dC : Nat → ClassId) (dI : Nat → Nat → Nat) (g : Nat → Nat) (c : Nat → ClassId) (adK adV : Nat → Nat) (v : Nat → Int32) (F : Nat → Nat → Int32) (rc sz : Nat) (p0 : Int32) (p1 : Int32) (hg : injX g) (hI : IX v F) (h0 : 0 ≤ p0.toInt ∧ p0.toInt ≤ 499) : Met l yX9_usedAtStart (Cond.code yX9_usedAtStart cX9_usedAtStart 3 (some .int) :: wA) ({ frames := 1, cells := 0, slots := 0, locals := 40 }) (va_Pc [.ref (g 4), .int p0, .int p1] (PX dC dI g c adK adV v F rc sz)) (va_Qi (fun (r : Int32) (u : Unit) => True) (fun (_ : Unit) => BX dC dI g c (v, F, rc)) (AX g sz)) 0 0 (AX g sz) := by
  refine Met.ofW (cc := cX9_usedAtStart) (maxL := 3) (ret := (some .int)) (by decide) rfl ?_
  intro p e s m args below meth c0 s₁ B hml hv
  obtain ⟨rfl, hsz, hP, hK, hE⟩ := hv
  have hx := B.exec
  have hb := B.bytes
  have hr := B.returns
  have hts := atoms_spec (ws := Cond.code yX9_usedAtStart cX9_usedAtStart 3 (some .int) :: wA) B.pre
  have hwd : ∀ w ∈ wA, w.before _ s = true := fun w h => hts w (List.mem_cons_of_mem _ h)
  have hown : s.vm.findClass RX9 = some m.cls := findClass_of_methodNamed B.named
  have hlocks := B.notSynchronized
  subst hsz
  have hl := lv_entry ([.ref (g 4), .int p0, .int p1]) (n := 3) (Nat.le_of_ble_eq_true rfl)
  rw [lg_entry_eq]
  generalize (lg_sl ([.ref (g 4), .int p0, .int p1]) ++ List.replicate (3 - (lg_sl ([.ref (g 4), .int p0, .int p1])).length) Slot.unset).toArray = ls at hl ⊢
  have hl : lv_has ls 3 [(0, .ref (g 4)), (1, .int p0), (2, .int p1)] := hl
  obtain ⟨H, eH⟩ : ∃ z, z = s.heap := ⟨_, rfl⟩
  have hP : va_P (dC, dI) classes (wX g c v F rc) H := by rw [eH]; exact hP
  have hS : va_S (AX g s.heap.size) s.heap H [] := by rw [eH]; exact va_S.rf
  refine my_heap eH ?_
  have rp0 := i32_rng p0
  have rp1 := i32_rng p1
  refine lv_iload_n hx hb dX9_usedAtStart_0 rfl (lv_at hl 2 rfl) ?_
  refine lv_if_ne (tgt := 13) hx hb dX9_usedAtStart_1 (by decide) (fun c148 => ?_) (fun c148 => ?_)
  · skip
    have t149 := cv_ne (a := p1.toInt) rfl (b := 0) (by decide) c148
    refine lv_aload_n hx hb dX9_usedAtStart_13 rfl (lv_at hl 0 rfl) ?_
    refine va_get (D := (dC, dI)) (ci := 9) (v := .ref (g 34)) (C := RX9) (T := TX9) (N := 11) hx hb hwd inA_X9 hown hK hP 4 rfl rfl 6 (by decide) (hwd _ wk_30) (fun _ h9 => h9) rfl dX9_usedAtStart_14 ?_
    refine lv_iload_n hx hb dX9_usedAtStart_17 rfl (lv_at hl 1 rfl) ?_
    refine va_iald hx hb hK hP 34 22 rfl rfl (i := p0) (vin (a := p0.toInt) rfl (by omega)) dX9_usedAtStart_18 ?_
    refine lv_topi (fun z150 e151 => ?_)
    have hP9 : va_P (dC, dI) classes (wX g c v F rc) H := hP
    exact W.iret (v := z150) hx hb hr (fun t ht hW => ⟨⟨z150, (), rfl, trivial, (by show va_P _ _ _ t.heap; rw [ht]; exact hP9)⟩, hS.F ht⟩) hS.2.2 dX9_usedAtStart_19
  · skip
    have t152 := cv_eq (a := p1.toInt) rfl (b := 0) (by decide) c148
    refine lv_aload_n hx hb dX9_usedAtStart_4 rfl (lv_at hl 0 rfl) ?_
    refine va_get (D := (dC, dI)) (ci := 9) (v := .ref (g 32)) (C := RX9) (T := TX9) (N := 11) hx hb hwd inA_X9 hown hK hP 4 rfl rfl 4 (by decide) (hwd _ wk_31) (fun _ h9 => h9) rfl dX9_usedAtStart_5 ?_
    refine lv_iload_n hx hb dX9_usedAtStart_8 rfl (lv_at hl 1 rfl) ?_
    refine va_iald hx hb hK hP 32 20 rfl rfl (i := p0) (vin (a := p0.toInt) rfl (by omega)) dX9_usedAtStart_9 ?_
    refine lv_topi (fun z153 e154 => ?_)
    refine lv_goto (tgt := 19) hx hb dX9_usedAtStart_10 (by decide) ?_
    have hP9 : va_P (dC, dI) classes (wX g c v F rc) H := hP
    exact W.iret (v := z153) hx hb hr (fun t ht hW => ⟨⟨z153, (), rfl, trivial, (by show va_P _ _ _ t.heap; rw [ht]; exact hP9)⟩, hS.F ht⟩) hS.2.2 dX9_usedAtStart_19
set_option maxHeartbeats 8000000 in
set_option maxRecDepth 100000 in
theorem c_X9_usedAtEnd (l : Launch) (dC : Nat → ClassId) (dI : Nat → Nat → Nat) (g : Nat → Nat) (c : Nat → ClassId) (adK adV : Nat → Nat) (v : Nat → Int32) (F : Nat → Nat → Int32) (rc sz : Nat) (p0 : Int32) (p1 : Int32) (hg : injX g) (hI : IX v F) (h0 : 0 ≤ p0.toInt ∧ p0.toInt ≤ 499) : Met l yX9_usedAtEnd (Cond.code yX9_usedAtEnd cX9_usedAtEnd 3 (some .int) :: wA) ({ frames := 1, cells := 0, slots := 0, locals := 40 }) (va_Pc [.ref (g 4), .int p0, .int p1] (PX dC dI g c adK adV v F rc sz)) (va_Qi (fun (r : Int32) (u : Unit) => True) (fun (_ : Unit) => BX dC dI g c (v, F, rc)) (AX g sz)) 0 0 (AX g sz) := by
  refine Met.ofW (cc := cX9_usedAtEnd) (maxL := 3) (ret := (some .int)) (by decide) rfl ?_
  intro p e s m args below meth c0 s₁ B hml hv
  obtain ⟨rfl, hsz, hP, hK, hE⟩ := hv
  have hx := B.exec
  have hb := B.bytes
  have hr := B.returns
  have hts := atoms_spec (ws := Cond.code yX9_usedAtEnd cX9_usedAtEnd 3 (some .int) :: wA) B.pre
  have hwd : ∀ w ∈ wA, w.before _ s = true := fun w h => hts w (List.mem_cons_of_mem _ h)
  have hown : s.vm.findClass RX9 = some m.cls := findClass_of_methodNamed B.named
  have hlocks := B.notSynchronized
  subst hsz
  have hl := lv_entry ([.ref (g 4), .int p0, .int p1]) (n := 3) (Nat.le_of_ble_eq_true rfl)
  rw [lg_entry_eq]
  generalize (lg_sl ([.ref (g 4), .int p0, .int p1]) ++ List.replicate (3 - (lg_sl ([.ref (g 4), .int p0, .int p1])).length) Slot.unset).toArray = ls at hl ⊢
  have hl : lv_has ls 3 [(0, .ref (g 4)), (1, .int p0), (2, .int p1)] := hl
  obtain ⟨H, eH⟩ : ∃ z, z = s.heap := ⟨_, rfl⟩
  have hP : va_P (dC, dI) classes (wX g c v F rc) H := by rw [eH]; exact hP
  have hS : va_S (AX g s.heap.size) s.heap H [] := by rw [eH]; exact va_S.rf
  refine my_heap eH ?_
  have rp0 := i32_rng p0
  have rp1 := i32_rng p1
  refine lv_iload_n hx hb dX9_usedAtEnd_0 rfl (lv_at hl 2 rfl) ?_
  refine lv_if_ne (tgt := 13) hx hb dX9_usedAtEnd_1 (by decide) (fun c155 => ?_) (fun c155 => ?_)
  · skip
    have t156 := cv_ne (a := p1.toInt) rfl (b := 0) (by decide) c155
    refine lv_aload_n hx hb dX9_usedAtEnd_13 rfl (lv_at hl 0 rfl) ?_
    refine va_get (D := (dC, dI)) (ci := 9) (v := .ref (g 35)) (C := RX9) (T := TX9) (N := 11) hx hb hwd inA_X9 hown hK hP 4 rfl rfl 7 (by decide) (hwd _ wk_32) (fun _ h9 => h9) rfl dX9_usedAtEnd_14 ?_
    refine lv_iload_n hx hb dX9_usedAtEnd_17 rfl (lv_at hl 1 rfl) ?_
    refine va_iald hx hb hK hP 35 23 rfl rfl (i := p0) (vin (a := p0.toInt) rfl (by omega)) dX9_usedAtEnd_18 ?_
    refine lv_topi (fun z157 e158 => ?_)
    have hP9 : va_P (dC, dI) classes (wX g c v F rc) H := hP
    exact W.iret (v := z157) hx hb hr (fun t ht hW => ⟨⟨z157, (), rfl, trivial, (by show va_P _ _ _ t.heap; rw [ht]; exact hP9)⟩, hS.F ht⟩) hS.2.2 dX9_usedAtEnd_19
  · skip
    have t159 := cv_eq (a := p1.toInt) rfl (b := 0) (by decide) c155
    refine lv_aload_n hx hb dX9_usedAtEnd_4 rfl (lv_at hl 0 rfl) ?_
    refine va_get (D := (dC, dI)) (ci := 9) (v := .ref (g 33)) (C := RX9) (T := TX9) (N := 11) hx hb hwd inA_X9 hown hK hP 4 rfl rfl 5 (by decide) (hwd _ wk_33) (fun _ h9 => h9) rfl dX9_usedAtEnd_5 ?_
    refine lv_iload_n hx hb dX9_usedAtEnd_8 rfl (lv_at hl 1 rfl) ?_
    refine va_iald hx hb hK hP 33 21 rfl rfl (i := p0) (vin (a := p0.toInt) rfl (by omega)) dX9_usedAtEnd_9 ?_
    refine lv_topi (fun z160 e161 => ?_)
    refine lv_goto (tgt := 19) hx hb dX9_usedAtEnd_10 (by decide) ?_
    have hP9 : va_P (dC, dI) classes (wX g c v F rc) H := hP
    exact W.iret (v := z160) hx hb hr (fun t ht hW => ⟨⟨z160, (), rfl, trivial, (by show va_P _ _ _ t.heap; rw [ht]; exact hP9)⟩, hS.F ht⟩) hS.2.2 dX9_usedAtEnd_19
set_option maxHeartbeats 8000000 in
set_option maxRecDepth 100000 in
theorem c_X9_end (l : Launch) (dC : Nat → ClassId) (dI : Nat → Nat → Nat) (g : Nat → Nat) (c : Nat → ClassId) (adK adV : Nat → Nat) (v : Nat → Int32) (F : Nat → Nat → Int32) (rc sz : Nat) (p0 : Int32) (p1 : Int32) (p2 : Int32) (p3 : Int32) (hg : injX g) (hI : IX v F) : Met l yX9_end (Cond.code yX9_end cX9_end 5 none :: wA) ({ frames := 1, cells := 0, slots := 0, locals := 40 }) (va_Pc [.ref (g 4), .int p0, .int p1, .int p2, .int p3] (PX dC dI g c adK adV v F rc sz)) (va_Qv (fun (u : StX) => IX u.1 u.2.1 ∧ alX u.1 u.2.1 = alX v F ∧ u.2.2 = rc ∧ (∀ k, k ∉ ([] : List Nat) → u.1 k = v k) ∧ True) (BX dC dI g c) (AX g sz)) 0 0 (AX g sz) := by
  refine Met.ofW (cc := cX9_end) (maxL := 5) (ret := none) (by decide) rfl ?_
  intro p e s m args below meth c0 s₁ B hml hv
  obtain ⟨rfl, hsz, hP, hK, hE⟩ := hv
  have hx := B.exec
  have hb := B.bytes
  have hr := B.returns
  have hts := atoms_spec (ws := Cond.code yX9_end cX9_end 5 none :: wA) B.pre
  have hwd : ∀ w ∈ wA, w.before _ s = true := fun w h => hts w (List.mem_cons_of_mem _ h)
  have hown : s.vm.findClass RX9 = some m.cls := findClass_of_methodNamed B.named
  have hlocks := B.notSynchronized
  subst hsz
  have hl := lv_entry ([.ref (g 4), .int p0, .int p1, .int p2, .int p3]) (n := 5) (Nat.le_of_ble_eq_true rfl)
  rw [lg_entry_eq]
  generalize (lg_sl ([.ref (g 4), .int p0, .int p1, .int p2, .int p3]) ++ List.replicate (5 - (lg_sl ([.ref (g 4), .int p0, .int p1, .int p2, .int p3])).length) Slot.unset).toArray = ls at hl ⊢
  have hl : lv_has ls 5 [(0, .ref (g 4)), (1, .int p0), (2, .int p1), (3, .int p2), (4, .int p3)] := hl
  obtain ⟨H, eH⟩ : ∃ z, z = s.heap := ⟨_, rfl⟩
  have hP : va_P (dC, dI) classes (wX g c v F rc) H := by rw [eH]; exact hP
  have hS : va_S (AX g s.heap.size) s.heap H [] := by rw [eH]; exact va_S.rf
  refine my_heap eH ?_
  have hal : alX v F = alX v F := rfl
  have rp0 := i32_rng p0
  have rp1 := i32_rng p1
  have rp2 := i32_rng p2
  have rp3 := i32_rng p3
  refine lv_iload_n hx hb dX9_end_0 rfl (lv_at hl 1 rfl) ?_
  refine lv_if_lt (tgt := 12) hx hb dX9_end_1 (by decide) (fun c162 => ?_) (fun c162 => ?_)
  · skip
    have t163 := cv_lt (a := p0.toInt) rfl (b := 0) (by decide) c162
    have hP9 : va_P (dC, dI) classes (wX g c v F rc) H := hP
    exact W.vret hx hb hr (fun t ht hW => ⟨⟨(v, F, rc), rfl, ⟨hI, hal, rfl, (fun _ _ => rfl), trivial⟩, (by show va_P _ _ _ t.heap; rw [ht]; exact hP9)⟩, hS.F ht⟩) hS.2.2 dX9_end_12
  · skip
    have t164 := cv_nlt (a := p0.toInt) rfl (b := 0) (by decide) c162
    refine lv_iload_n hx hb dX9_end_4 rfl (lv_at hl 1 rfl) ?_
    refine lv_aload_n hx hb dX9_end_5 rfl (lv_at hl 0 rfl) ?_
    refine va_get (D := (dC, dI)) (ci := 9) (v := .int (v 80)) (C := RX9) (T := TX9) (N := 11) hx hb hwd inA_X9 hown hK hP 4 rfl rfl 0 (by decide) (hwd _ wk_21) (fun _ h9 => h9) rfl dX9_end_6 ?_
    have t165 : 0 ≤ (v 80).toInt ∧ (v 80).toInt ≤ 500 := hI.1 80 _ _ rfl
    refine lv_icmp_lt (tgt := 13) hx hb dX9_end_9 (by decide) (fun c166 => ?_) (fun c166 => ?_)
    · skip
      have t167 := cv_lt (a := p0.toInt) rfl (b := (v 80).toInt) rfl c166
      refine lv_aload_n hx hb dX9_end_13 rfl (lv_at hl 0 rfl) ?_
      refine va_get (D := (dC, dI)) (ci := 9) (v := .ref (g 31)) (C := RX9) (T := TX9) (N := 11) hx hb hwd inA_X9 hown hK hP 4 rfl rfl 3 (by decide) (hwd _ wk_22) (fun _ h9 => h9) rfl dX9_end_14 ?_
      refine lv_iload_n hx hb dX9_end_17 rfl (lv_at hl 1 rfl) ?_
      refine lv_iload_n hx hb dX9_end_18 rfl (lv_at hl 2 rfl) ?_
      refine va_iast hx hb hK hP (DX hg) hS 31 19 rfl rfl (i := p0) (x := p1) (vin (a := p0.toInt) rfl (by omega)) dX9_end_19 (fun H locs hP _ hS => ?_)
      have hP := va_P_eq (sX_31 g c _ _ _ _) hP
      have hI := IX.store0 hI 31 (p0).toNatClampNeg p1 rfl
      have hal : alX v (va_up F 31 (upd (F 31) (p0).toNatClampNeg p1)) = alX v F := hal
      refine lv_aload_n hx hb dX9_end_20 rfl (lv_at hl 0 rfl) ?_
      refine va_get (D := (dC, dI)) (ci := 9) (v := .ref (g 33)) (C := RX9) (T := TX9) (N := 11) hx hb hwd inA_X9 hown hK hP 4 rfl rfl 5 (by decide) (hwd _ wk_33) (fun _ h9 => h9) rfl dX9_end_21 ?_
      refine lv_iload_n hx hb dX9_end_24 rfl (lv_at hl 1 rfl) ?_
      refine lv_iload_n hx hb dX9_end_25 rfl (lv_at hl 3 rfl) ?_
      refine va_iast hx hb hK hP (DX hg) hS 33 21 rfl rfl (i := p0) (x := p2) (vin (a := p0.toInt) rfl (by omega)) dX9_end_26 (fun H locs hP _ hS => ?_)
      have hP := va_P_eq (sX_33 g c _ _ _ _) hP
      have hI := IX.store0 hI 33 (p0).toNatClampNeg p2 rfl
      have hal : alX v (va_up (va_up F 31 (upd (F 31) (p0).toNatClampNeg p1)) 33 (upd ((va_up F 31 (upd (F 31) (p0).toNatClampNeg p1)) 33) (p0).toNatClampNeg p2)) = alX v F := hal
      refine lv_aload_n hx hb dX9_end_27 rfl (lv_at hl 0 rfl) ?_
      refine va_get (D := (dC, dI)) (ci := 9) (v := .ref (g 35)) (C := RX9) (T := TX9) (N := 11) hx hb hwd inA_X9 hown hK hP 4 rfl rfl 7 (by decide) (hwd _ wk_32) (fun _ h9 => h9) rfl dX9_end_28 ?_
      refine lv_iload_n hx hb dX9_end_31 rfl (lv_at hl 1 rfl) ?_
      refine lv_iload hx hb dX9_end_32 (lv_at hl 4 rfl) ?_
      refine va_iast hx hb hK hP (DX hg) hS 35 23 rfl rfl (i := p0) (x := p3) (vin (a := p0.toInt) rfl (by omega)) dX9_end_34 (fun H locs hP _ hS => ?_)
      have hP := va_P_eq (sX_35 g c _ _ _ _) hP
      have hI := IX.store0 hI 35 (p0).toNatClampNeg p3 rfl
      have hal : alX v (va_up (va_up (va_up F 31 (upd (F 31) (p0).toNatClampNeg p1)) 33 (upd ((va_up F 31 (upd (F 31) (p0).toNatClampNeg p1)) 33) (p0).toNatClampNeg p2)) 35 (upd ((va_up (va_up F 31 (upd (F 31) (p0).toNatClampNeg p1)) 33 (upd ((va_up F 31 (upd (F 31) (p0).toNatClampNeg p1)) 33) (p0).toNatClampNeg p2)) 35) (p0).toNatClampNeg p3)) = alX v F := hal
      have hP9 : va_P (dC, dI) classes (wX g c v (va_up (va_up (va_up F 31 (upd (F 31) (p0).toNatClampNeg p1)) 33 (upd ((va_up F 31 (upd (F 31) (p0).toNatClampNeg p1)) 33) (p0).toNatClampNeg p2)) 35 (upd ((va_up (va_up F 31 (upd (F 31) (p0).toNatClampNeg p1)) 33 (upd ((va_up F 31 (upd (F 31) (p0).toNatClampNeg p1)) 33) (p0).toNatClampNeg p2)) 35) (p0).toNatClampNeg p3)) rc) H := hP
      exact W.vret hx hb hr (fun t ht hW => ⟨⟨(v, (va_up (va_up (va_up F 31 (upd (F 31) (p0).toNatClampNeg p1)) 33 (upd ((va_up F 31 (upd (F 31) (p0).toNatClampNeg p1)) 33) (p0).toNatClampNeg p2)) 35 (upd ((va_up (va_up F 31 (upd (F 31) (p0).toNatClampNeg p1)) 33 (upd ((va_up F 31 (upd (F 31) (p0).toNatClampNeg p1)) 33) (p0).toNatClampNeg p2)) 35) (p0).toNatClampNeg p3)), rc), rfl, ⟨hI, hal, rfl, (fun _ _ => rfl), trivial⟩, (by show va_P _ _ _ t.heap; rw [ht]; exact hP9)⟩, hS.F ht⟩) hS.2.2 dX9_end_35
    · skip
      have t168 := cv_nlt (a := p0.toInt) rfl (b := (v 80).toInt) rfl c166
      have hP9 : va_P (dC, dI) classes (wX g c v F rc) H := hP
      exact W.vret hx hb hr (fun t ht hW => ⟨⟨(v, F, rc), rfl, ⟨hI, hal, rfl, (fun _ _ => rfl), trivial⟩, (by show va_P _ _ _ t.heap; rw [ht]; exact hP9)⟩, hS.F ht⟩) hS.2.2 dX9_end_12
set_option maxHeartbeats 8000000 in
set_option maxRecDepth 100000 in
theorem c_X9_at (l : Launch) (dC : Nat → ClassId) (dI : Nat → Nat → Nat) (g : Nat → Nat) (c : Nat → ClassId) (adK adV : Nat → Nat) (v : Nat → Int32) (F : Nat → Nat → Int32) (rc sz : Nat) (p0 : Int32) (p1 : Int32) (hg : injX g) (hI : IX v F) (h0 : 0 ≤ p0.toInt ∧ p0.toInt ≤ 99) : Met l yX9_at (Cond.code yX9_at cX9_at 5 (some .int) :: wA) ({ frames := 1, cells := 0, slots := 0, locals := 40 }) (va_Pc [.ref (g 4), .int p0, .int p1] (PX dC dI g c adK adV v F rc sz)) (va_Qi (fun (r : Int32) (u : Unit) => -1 ≤ r.toInt ∧ r.toInt ≤ 499) (fun (_ : Unit) => BX dC dI g c (v, F, rc)) (AX g sz)) 0 0 (AX g sz) := by
  refine Met.ofW (cc := cX9_at) (maxL := 5) (ret := (some .int)) (by decide) rfl ?_
  intro p e s m args below meth c0 s₁ B hml hv
  obtain ⟨rfl, hsz, hP, hK, hE⟩ := hv
  have hx := B.exec
  have hb := B.bytes
  have hr := B.returns
  have hts := atoms_spec (ws := Cond.code yX9_at cX9_at 5 (some .int) :: wA) B.pre
  have hwd : ∀ w ∈ wA, w.before _ s = true := fun w h => hts w (List.mem_cons_of_mem _ h)
  have hown : s.vm.findClass RX9 = some m.cls := findClass_of_methodNamed B.named
  have hlocks := B.notSynchronized
  subst hsz
  have hl := lv_entry ([.ref (g 4), .int p0, .int p1]) (n := 5) (Nat.le_of_ble_eq_true rfl)
  rw [lg_entry_eq]
  generalize (lg_sl ([.ref (g 4), .int p0, .int p1]) ++ List.replicate (5 - (lg_sl ([.ref (g 4), .int p0, .int p1])).length) Slot.unset).toArray = ls at hl ⊢
  have hl : lv_has ls 5 [(0, .ref (g 4)), (1, .int p0), (2, .int p1)] := hl
  obtain ⟨H, eH⟩ : ∃ z, z = s.heap := ⟨_, rfl⟩
  have hP : va_P (dC, dI) classes (wX g c v F rc) H := by rw [eH]; exact hP
  have hS : va_S (AX g s.heap.size) s.heap H [] := by rw [eH]; exact va_S.rf
  refine my_heap eH ?_
  have rp0 := i32_rng p0
  have rp1 := i32_rng p1
  refine lv_iload_n hx hb dX9_at_0 rfl (lv_at hl 2 rfl) ?_
  refine lv_if_ge (tgt := 8) hx hb dX9_at_1 (by decide) (fun c169 => ?_) (fun c169 => ?_)
  · skip
    have t170 := cv_le (a := 0) (by decide) (b := p1.toInt) rfl c169
    refine lv_aload_n hx hb dX9_at_8 rfl (lv_at hl 0 rfl) ?_
    refine va_get (D := (dC, dI)) (ci := 9) (v := .ref (g 38)) (C := RX9) (T := TX9) (N := 11) hx hb hwd inA_X9 hown hK hP 4 rfl rfl 10 (by decide) (hwd _ wk_34) (fun _ h9 => h9) rfl dX9_at_9 ?_
    refine lv_iload_n hx hb dX9_at_12 rfl (lv_at hl 1 rfl) ?_
    refine va_iald hx hb hK hP 38 26 rfl rfl (i := p0) (vin (a := p0.toInt) rfl (by omega)) dX9_at_13 ?_
    refine lv_topi (fun z171 e172 => ?_)
    have t173 : -1 ≤ z171.toInt ∧ z171.toInt ≤ 499 := by rw [e172]; exact hI.2 38 _ _ rfl _
    refine lv_istore_n (lv' := [(3, .int z171), (0, .ref (g 4)), (1, .int p0), (2, .int p1)]) hx hb dX9_at_14 rfl hl (by decide) rfl (fun ls hl => ?_)
    refine lv_iconst (v := 0) hx hb dX9_at_15 (by decide) ?_
    refine lv_istore (lv' := [(4, .int 0), (3, .int z171), (0, .ref (g 4)), (1, .int p0), (2, .int p1)]) hx hb dX9_at_16 hl (by decide) rfl (fun ls hl => ?_)
    have lp174 : ∀ (n : Nat) (x4_lp174 : Int32) (x3_lp174 : Int32) (H : Heap) (locs : List Loc) (ls : Array Slot), (0 ≤ x4_lp174.toInt) → (-1 ≤ x3_lp174.toInt) → (x3_lp174.toInt ≤ 499) → (2147483648 - x4_lp174.toInt ≤ (n : Int)) → va_P (dC, dI) classes (wX g c v F rc) H → va_S (AX g s.heap.size) s.heap H locs → lv_has ls 5 [(4, .int x4_lp174), (3, .int x3_lp174), (0, .ref (g 4)), (1, .int p0), (2, .int p1)] → W p l e (headSpec (Cond.code yX9_at cX9_at 5 (some .int) :: wA) ({ frames := 1, cells := 0, slots := 0, locals := 40 })).room s m ([.ref (g 4), .int p0, .int p1] : List Value).toArray below meth c0 H locs 0 0 (MQ below (va_Qi (fun (r : Int32) (u : Unit) => -1 ≤ r.toInt ∧ r.toInt ≤ 499) (fun (_ : Unit) => BX dC dI g c (v, F, rc)) (AX g s.heap.size)) ([.ref (g 4), .int p0, .int p1] : List Value).toArray s 0 0 (AX g s.heap.size)) (F0 m 18 ls []) := by
      intro n
      induction n with
      | zero =>
        intro x4_lp174 x3_lp174 H locs ls t175 t176 t177 hm hP hS hl
        exfalso
        have := i32_rng x4_lp174
        have := i32_rng x3_lp174
        omega
      | succ n ih_lp174 =>
        intro x4_lp174 x3_lp174 H locs ls t175 t176 t177 hm hP hS hl
        have rx4_lp174 := i32_rng x4_lp174
        have rx3_lp174 := i32_rng x3_lp174
        refine lv_iload hx hb dX9_at_18 (lv_at hl 0 rfl) ?_
        refine lv_iload_n hx hb dX9_at_20 rfl (lv_at hl 4 rfl) ?_
        refine lv_icmp_ge (tgt := 42) hx hb dX9_at_21 (by decide) (fun c178 => ?_) (fun c178 => ?_)
        · skip
          have t179 := cv_le (a := p1.toInt) rfl (b := x4_lp174.toInt) rfl c178
          refine lv_iload_n hx hb dX9_at_42 rfl (lv_at hl 1 rfl) ?_
          have hP9 : va_P (dC, dI) classes (wX g c v F rc) H := hP
          exact W.iret (v := x3_lp174) hx hb hr (fun t ht hW => ⟨⟨x3_lp174, (), rfl, by omega, (by show va_P _ _ _ t.heap; rw [ht]; exact hP9)⟩, hS.F ht⟩) hS.2.2 dX9_at_43
        · skip
          have t180 := cv_nle (a := p1.toInt) rfl (b := x4_lp174.toInt) rfl c178
          refine lv_iload_n hx hb dX9_at_24 rfl (lv_at hl 1 rfl) ?_
          refine lv_iconst (v := (-1)) hx hb dX9_at_25 (by decide) ?_
          refine lv_icmp_eq (tgt := 42) hx hb dX9_at_26 (by decide) (fun c181 => ?_) (fun c181 => ?_)
          · skip
            have t182 := cv_eq (a := x3_lp174.toInt) rfl (b := (-1)) (by decide) c181
            refine lv_iload_n hx hb dX9_at_42 rfl (lv_at hl 1 rfl) ?_
            have hP9 : va_P (dC, dI) classes (wX g c v F rc) H := hP
            exact W.iret (v := x3_lp174) hx hb hr (fun t ht hW => ⟨⟨x3_lp174, (), rfl, by omega, (by show va_P _ _ _ t.heap; rw [ht]; exact hP9)⟩, hS.F ht⟩) hS.2.2 dX9_at_43
          · skip
            have t183 := cv_ne (a := x3_lp174.toInt) rfl (b := (-1)) (by decide) c181
            refine lv_aload_n hx hb dX9_at_29 rfl (lv_at hl 2 rfl) ?_
            refine va_get (D := (dC, dI)) (ci := 9) (v := .ref (g 37)) (C := RX9) (T := TX9) (N := 11) hx hb hwd inA_X9 hown hK hP 4 rfl rfl 9 (by decide) (hwd _ wk_35) (fun _ h9 => h9) rfl dX9_at_30 ?_
            refine lv_iload_n hx hb dX9_at_33 rfl (lv_at hl 1 rfl) ?_
            refine va_iald hx hb hK hP 37 25 rfl rfl (i := x3_lp174) (vin (a := x3_lp174.toInt) rfl (by omega)) dX9_at_34 ?_
            refine lv_topi (fun z184 e185 => ?_)
            have t186 : -1 ≤ z184.toInt ∧ z184.toInt ≤ 499 := by rw [e185]; exact hI.2 37 _ _ rfl _
            refine lv_istore_n (lv' := [(3, .int z184), (4, .int x4_lp174), (0, .ref (g 4)), (1, .int p0), (2, .int p1)]) hx hb dX9_at_35 rfl hl (by decide) rfl (fun ls hl => ?_)
            obtain ⟨z187, e188⟩ : ∃ y : Int32, y = x4_lp174 + 1 := ⟨_, rfl⟩
            try (have t189 := tadd e188 rfl (b := 1) (by decide) (by omega))
            refine lv_iinc (v := z187) (lv' := [(4, .int z187), (3, .int z184), (0, .ref (g 4)), (1, .int p0), (2, .int p1)]) hx hb dX9_at_36 hl (k := 1) rfl (by rw [e188]; rfl) (by decide) rfl (fun ls hl => ?_)
            refine lv_goto (tgt := 18) hx hb dX9_at_39 (by decide) ?_
            exact ih_lp174 z187 z184  _ _ _ (by omega) (by omega) (by omega) (by omega) hP hS (lv_sub hl [0, 1, 2, 3, 4] rfl)
    obtain ⟨n9, hn9⟩ : ∃ n : Nat, 2147483648 - 0 ≤ (n : Int) := ⟨((2147483648 - 0 : Int)).toNat, by omega⟩
    exact lp174 n9 0 z171  H _ ls (by have : (0 : Int32).toInt = 0 := (by decide); omega) (by have : (0 : Int32).toInt = 0 := (by decide); omega) (by have : (0 : Int32).toInt = 0 := (by decide); omega) (by have : (0 : Int32).toInt = 0 := (by decide); omega) hP hS hl
  · skip
    have t190 := cv_nle (a := 0) (by decide) (b := p1.toInt) rfl c169
    refine lv_iconst (v := (-1)) hx hb dX9_at_4 (by decide) ?_
    refine lv_goto (tgt := 14) hx hb dX9_at_5 (by decide) ?_
    refine lv_istore_n (lv' := [(3, .int (-1)), (0, .ref (g 4)), (1, .int p0), (2, .int p1)]) hx hb dX9_at_14 rfl hl (by decide) rfl (fun ls hl => ?_)
    refine lv_iconst (v := 0) hx hb dX9_at_15 (by decide) ?_
    refine lv_istore (lv' := [(4, .int 0), (3, .int (-1)), (0, .ref (g 4)), (1, .int p0), (2, .int p1)]) hx hb dX9_at_16 hl (by decide) rfl (fun ls hl => ?_)
    have lp191 : ∀ (n : Nat) (x4_lp191 : Int32) (x3_lp191 : Int32) (H : Heap) (locs : List Loc) (ls : Array Slot), (0 ≤ x4_lp191.toInt) → (-1 ≤ x3_lp191.toInt) → (x3_lp191.toInt ≤ 499) → (2147483648 - x4_lp191.toInt ≤ (n : Int)) → va_P (dC, dI) classes (wX g c v F rc) H → va_S (AX g s.heap.size) s.heap H locs → lv_has ls 5 [(4, .int x4_lp191), (3, .int x3_lp191), (0, .ref (g 4)), (1, .int p0), (2, .int p1)] → W p l e (headSpec (Cond.code yX9_at cX9_at 5 (some .int) :: wA) ({ frames := 1, cells := 0, slots := 0, locals := 40 })).room s m ([.ref (g 4), .int p0, .int p1] : List Value).toArray below meth c0 H locs 0 0 (MQ below (va_Qi (fun (r : Int32) (u : Unit) => -1 ≤ r.toInt ∧ r.toInt ≤ 499) (fun (_ : Unit) => BX dC dI g c (v, F, rc)) (AX g s.heap.size)) ([.ref (g 4), .int p0, .int p1] : List Value).toArray s 0 0 (AX g s.heap.size)) (F0 m 18 ls []) := by
      intro n
      induction n with
      | zero =>
        intro x4_lp191 x3_lp191 H locs ls t192 t193 t194 hm hP hS hl
        exfalso
        have := i32_rng x4_lp191
        have := i32_rng x3_lp191
        omega
      | succ n ih_lp191 =>
        intro x4_lp191 x3_lp191 H locs ls t192 t193 t194 hm hP hS hl
        have rx4_lp191 := i32_rng x4_lp191
        have rx3_lp191 := i32_rng x3_lp191
        refine lv_iload hx hb dX9_at_18 (lv_at hl 0 rfl) ?_
        refine lv_iload_n hx hb dX9_at_20 rfl (lv_at hl 4 rfl) ?_
        refine lv_icmp_ge (tgt := 42) hx hb dX9_at_21 (by decide) (fun c195 => ?_) (fun c195 => ?_)
        · skip
          have t196 := cv_le (a := p1.toInt) rfl (b := x4_lp191.toInt) rfl c195
          refine lv_iload_n hx hb dX9_at_42 rfl (lv_at hl 1 rfl) ?_
          have hP9 : va_P (dC, dI) classes (wX g c v F rc) H := hP
          exact W.iret (v := x3_lp191) hx hb hr (fun t ht hW => ⟨⟨x3_lp191, (), rfl, by omega, (by show va_P _ _ _ t.heap; rw [ht]; exact hP9)⟩, hS.F ht⟩) hS.2.2 dX9_at_43
        · skip
          have t197 := cv_nle (a := p1.toInt) rfl (b := x4_lp191.toInt) rfl c195
          refine lv_iload_n hx hb dX9_at_24 rfl (lv_at hl 1 rfl) ?_
          refine lv_iconst (v := (-1)) hx hb dX9_at_25 (by decide) ?_
          refine lv_icmp_eq (tgt := 42) hx hb dX9_at_26 (by decide) (fun c198 => ?_) (fun c198 => ?_)
          · skip
            have t199 := cv_eq (a := x3_lp191.toInt) rfl (b := (-1)) (by decide) c198
            refine lv_iload_n hx hb dX9_at_42 rfl (lv_at hl 1 rfl) ?_
            have hP9 : va_P (dC, dI) classes (wX g c v F rc) H := hP
            exact W.iret (v := x3_lp191) hx hb hr (fun t ht hW => ⟨⟨x3_lp191, (), rfl, by omega, (by show va_P _ _ _ t.heap; rw [ht]; exact hP9)⟩, hS.F ht⟩) hS.2.2 dX9_at_43
          · skip
            have t200 := cv_ne (a := x3_lp191.toInt) rfl (b := (-1)) (by decide) c198
            refine lv_aload_n hx hb dX9_at_29 rfl (lv_at hl 2 rfl) ?_
            refine va_get (D := (dC, dI)) (ci := 9) (v := .ref (g 37)) (C := RX9) (T := TX9) (N := 11) hx hb hwd inA_X9 hown hK hP 4 rfl rfl 9 (by decide) (hwd _ wk_35) (fun _ h9 => h9) rfl dX9_at_30 ?_
            refine lv_iload_n hx hb dX9_at_33 rfl (lv_at hl 1 rfl) ?_
            refine va_iald hx hb hK hP 37 25 rfl rfl (i := x3_lp191) (vin (a := x3_lp191.toInt) rfl (by omega)) dX9_at_34 ?_
            refine lv_topi (fun z201 e202 => ?_)
            have t203 : -1 ≤ z201.toInt ∧ z201.toInt ≤ 499 := by rw [e202]; exact hI.2 37 _ _ rfl _
            refine lv_istore_n (lv' := [(3, .int z201), (4, .int x4_lp191), (0, .ref (g 4)), (1, .int p0), (2, .int p1)]) hx hb dX9_at_35 rfl hl (by decide) rfl (fun ls hl => ?_)
            obtain ⟨z204, e205⟩ : ∃ y : Int32, y = x4_lp191 + 1 := ⟨_, rfl⟩
            try (have t206 := tadd e205 rfl (b := 1) (by decide) (by omega))
            refine lv_iinc (v := z204) (lv' := [(4, .int z204), (3, .int z201), (0, .ref (g 4)), (1, .int p0), (2, .int p1)]) hx hb dX9_at_36 hl (k := 1) rfl (by rw [e205]; rfl) (by decide) rfl (fun ls hl => ?_)
            refine lv_goto (tgt := 18) hx hb dX9_at_39 (by decide) ?_
            exact ih_lp191 z204 z201  _ _ _ (by omega) (by omega) (by omega) (by omega) hP hS (lv_sub hl [0, 1, 2, 3, 4] rfl)
    obtain ⟨n9, hn9⟩ : ∃ n : Nat, 2147483648 - 0 ≤ (n : Int) := ⟨((2147483648 - 0 : Int)).toNat, by omega⟩
    exact lp191 n9 0 (-1)  H _ ls (by have : (0 : Int32).toInt = 0 := (by decide); have : ((-1) : Int32).toInt = (-1) := (by decide); omega) (by have : (0 : Int32).toInt = 0 := (by decide); have : ((-1) : Int32).toInt = (-1) := (by decide); omega) (by have : (0 : Int32).toInt = 0 := (by decide); have : ((-1) : Int32).toInt = (-1) := (by decide); omega) (by have : (0 : Int32).toInt = 0 := (by decide); have : ((-1) : Int32).toInt = (-1) := (by decide); omega) hP hS hl
set_option maxHeartbeats 8000000 in
set_option maxRecDepth 100000 in
theorem c_X9_aheadOf (l : Launch) (dC : Nat → ClassId) (dI : Nat → Nat → Nat) (g : Nat → Nat) (c : Nat → ClassId) (adK adV : Nat → Nat) (v : Nat → Int32) (F : Nat → Nat → Int32) (rc sz : Nat) (p0 : Int32) (p1 : Int32) (hg : injX g) (hI : IX v F) (h0 : 0 ≤ p0.toInt ∧ p0.toInt ≤ 99) : Met l yX9_aheadOf (Cond.code yX9_aheadOf cX9_aheadOf 6 (some .int) :: wA) ({ frames := 1, cells := 0, slots := 0, locals := 40 }) (va_Pc [.ref (g 4), .int p0, .int p1] (PX dC dI g c adK adV v F rc sz)) (va_Qi (fun (r : Int32) (u : Unit) => -1 ≤ r.toInt ∧ r.toInt ≤ 499) (fun (_ : Unit) => BX dC dI g c (v, F, rc)) (AX g sz)) 0 0 (AX g sz) := by
  refine Met.ofW (cc := cX9_aheadOf) (maxL := 6) (ret := (some .int)) (by decide) rfl ?_
  intro p e s m args below meth c0 s₁ B hml hv
  obtain ⟨rfl, hsz, hP, hK, hE⟩ := hv
  have hx := B.exec
  have hb := B.bytes
  have hr := B.returns
  have hts := atoms_spec (ws := Cond.code yX9_aheadOf cX9_aheadOf 6 (some .int) :: wA) B.pre
  have hwd : ∀ w ∈ wA, w.before _ s = true := fun w h => hts w (List.mem_cons_of_mem _ h)
  have hown : s.vm.findClass RX9 = some m.cls := findClass_of_methodNamed B.named
  have hlocks := B.notSynchronized
  subst hsz
  have hl := lv_entry ([.ref (g 4), .int p0, .int p1]) (n := 6) (Nat.le_of_ble_eq_true rfl)
  rw [lg_entry_eq]
  generalize (lg_sl ([.ref (g 4), .int p0, .int p1]) ++ List.replicate (6 - (lg_sl ([.ref (g 4), .int p0, .int p1])).length) Slot.unset).toArray = ls at hl ⊢
  have hl : lv_has ls 6 [(0, .ref (g 4)), (1, .int p0), (2, .int p1)] := hl
  obtain ⟨H, eH⟩ : ∃ z, z = s.heap := ⟨_, rfl⟩
  have hP : va_P (dC, dI) classes (wX g c v F rc) H := by rw [eH]; exact hP
  have hS : va_S (AX g s.heap.size) s.heap H [] := by rw [eH]; exact va_S.rf
  refine my_heap eH ?_
  have rp0 := i32_rng p0
  have rp1 := i32_rng p1
  refine lv_iconst (v := (-1)) hx hb dX9_aheadOf_0 (by decide) ?_
  refine lv_istore_n (lv' := [(3, .int (-1)), (0, .ref (g 4)), (1, .int p0), (2, .int p1)]) hx hb dX9_aheadOf_1 rfl hl (by decide) rfl (fun ls hl => ?_)
  refine lv_aload_n hx hb dX9_aheadOf_2 rfl (lv_at hl 1 rfl) ?_
  refine va_get (D := (dC, dI)) (ci := 9) (v := .ref (g 38)) (C := RX9) (T := TX9) (N := 11) hx hb hwd inA_X9 hown hK hP 4 rfl rfl 10 (by decide) (hwd _ wk_34) (fun _ h9 => h9) rfl dX9_aheadOf_3 ?_
  refine lv_iload_n hx hb dX9_aheadOf_6 rfl (lv_at hl 2 rfl) ?_
  refine va_iald hx hb hK hP 38 26 rfl rfl (i := p0) (vin (a := p0.toInt) rfl (by omega)) dX9_aheadOf_7 ?_
  refine lv_topi (fun z207 e208 => ?_)
  have t209 : -1 ≤ z207.toInt ∧ z207.toInt ≤ 499 := by rw [e208]; exact hI.2 38 _ _ rfl _
  refine lv_istore (lv' := [(4, .int z207), (3, .int (-1)), (0, .ref (g 4)), (1, .int p0), (2, .int p1)]) hx hb dX9_aheadOf_8 hl (by decide) rfl (fun ls hl => ?_)
  refine lv_iconst (v := 0) hx hb dX9_aheadOf_10 (by decide) ?_
  refine lv_istore (lv' := [(5, .int 0), (4, .int z207), (3, .int (-1)), (0, .ref (g 4)), (1, .int p0), (2, .int p1)]) hx hb dX9_aheadOf_11 hl (by decide) rfl (fun ls hl => ?_)
  have lp210 : ∀ (n : Nat) (x5_lp210 : Int32) (x4_lp210 : Int32) (x3_lp210 : Int32) (H : Heap) (locs : List Loc) (ls : Array Slot), (0 ≤ x5_lp210.toInt) → (-1 ≤ x4_lp210.toInt) → (x4_lp210.toInt ≤ 499) → (-1 ≤ x3_lp210.toInt) → (x3_lp210.toInt ≤ 499) → (2147483648 - x5_lp210.toInt ≤ (n : Int)) → va_P (dC, dI) classes (wX g c v F rc) H → va_S (AX g s.heap.size) s.heap H locs → lv_has ls 6 [(5, .int x5_lp210), (4, .int x4_lp210), (3, .int x3_lp210), (0, .ref (g 4)), (1, .int p0), (2, .int p1)] → W p l e (headSpec (Cond.code yX9_aheadOf cX9_aheadOf 6 (some .int) :: wA) ({ frames := 1, cells := 0, slots := 0, locals := 40 })).room s m ([.ref (g 4), .int p0, .int p1] : List Value).toArray below meth c0 H locs 0 0 (MQ below (va_Qi (fun (r : Int32) (u : Unit) => -1 ≤ r.toInt ∧ r.toInt ≤ 499) (fun (_ : Unit) => BX dC dI g c (v, F, rc)) (AX g s.heap.size)) ([.ref (g 4), .int p0, .int p1] : List Value).toArray s 0 0 (AX g s.heap.size)) (F0 m 13 ls []) := by
    intro n
    induction n with
    | zero =>
      intro x5_lp210 x4_lp210 x3_lp210 H locs ls t211 t212 t213 t214 t215 hm hP hS hl
      exfalso
      have := i32_rng x5_lp210
      have := i32_rng x4_lp210
      have := i32_rng x3_lp210
      omega
    | succ n ih_lp210 =>
      intro x5_lp210 x4_lp210 x3_lp210 H locs ls t211 t212 t213 t214 t215 hm hP hS hl
      have rx5_lp210 := i32_rng x5_lp210
      have rx4_lp210 := i32_rng x4_lp210
      have rx3_lp210 := i32_rng x3_lp210
      refine lv_iload hx hb dX9_aheadOf_13 (lv_at hl 0 rfl) ?_
      refine lv_sipush (v := 500) hx hb dX9_aheadOf_15 (by decide) ?_
      refine lv_icmp_ge (tgt := 51) hx hb dX9_aheadOf_18 (by decide) (fun c216 => ?_) (fun c216 => ?_)
      · skip
        have t217 := cv_le (a := 500) (by decide) (b := x5_lp210.toInt) rfl c216
        refine lv_iload_n hx hb dX9_aheadOf_51 rfl (lv_at hl 2 rfl) ?_
        have hP9 : va_P (dC, dI) classes (wX g c v F rc) H := hP
        exact W.iret (v := x3_lp210) hx hb hr (fun t ht hW => ⟨⟨x3_lp210, (), rfl, by omega, (by show va_P _ _ _ t.heap; rw [ht]; exact hP9)⟩, hS.F ht⟩) hS.2.2 dX9_aheadOf_52
      · skip
        have t218 := cv_nle (a := 500) (by decide) (b := x5_lp210.toInt) rfl c216
        refine lv_iload hx hb dX9_aheadOf_21 (lv_at hl 1 rfl) ?_
        refine lv_iconst (v := (-1)) hx hb dX9_aheadOf_23 (by decide) ?_
        refine lv_icmp_eq (tgt := 51) hx hb dX9_aheadOf_24 (by decide) (fun c219 => ?_) (fun c219 => ?_)
        · skip
          have t220 := cv_eq (a := x4_lp210.toInt) rfl (b := (-1)) (by decide) c219
          refine lv_iload_n hx hb dX9_aheadOf_51 rfl (lv_at hl 2 rfl) ?_
          have hP9 : va_P (dC, dI) classes (wX g c v F rc) H := hP
          exact W.iret (v := x3_lp210) hx hb hr (fun t ht hW => ⟨⟨x3_lp210, (), rfl, by omega, (by show va_P _ _ _ t.heap; rw [ht]; exact hP9)⟩, hS.F ht⟩) hS.2.2 dX9_aheadOf_52
        · skip
          have t221 := cv_ne (a := x4_lp210.toInt) rfl (b := (-1)) (by decide) c219
          refine lv_iload hx hb dX9_aheadOf_27 (lv_at hl 1 rfl) ?_
          refine lv_iload_n hx hb dX9_aheadOf_29 rfl (lv_at hl 5 rfl) ?_
          refine lv_icmp_eq (tgt := 51) hx hb dX9_aheadOf_30 (by decide) (fun c222 => ?_) (fun c222 => ?_)
          · skip
            have t223 := cv_eq (a := x4_lp210.toInt) rfl (b := p1.toInt) rfl c222
            refine lv_iload_n hx hb dX9_aheadOf_51 rfl (lv_at hl 2 rfl) ?_
            have hP9 : va_P (dC, dI) classes (wX g c v F rc) H := hP
            exact W.iret (v := x3_lp210) hx hb hr (fun t ht hW => ⟨⟨x3_lp210, (), rfl, by omega, (by show va_P _ _ _ t.heap; rw [ht]; exact hP9)⟩, hS.F ht⟩) hS.2.2 dX9_aheadOf_52
          · skip
            have t224 := cv_ne (a := x4_lp210.toInt) rfl (b := p1.toInt) rfl c222
            refine lv_iload hx hb dX9_aheadOf_33 (lv_at hl 1 rfl) ?_
            refine lv_istore_n (lv' := [(3, .int x4_lp210), (5, .int x5_lp210), (4, .int x4_lp210), (0, .ref (g 4)), (1, .int p0), (2, .int p1)]) hx hb dX9_aheadOf_35 rfl hl (by decide) rfl (fun ls hl => ?_)
            refine lv_aload_n hx hb dX9_aheadOf_36 rfl (lv_at hl 3 rfl) ?_
            refine va_get (D := (dC, dI)) (ci := 9) (v := .ref (g 37)) (C := RX9) (T := TX9) (N := 11) hx hb hwd inA_X9 hown hK hP 4 rfl rfl 9 (by decide) (hwd _ wk_35) (fun _ h9 => h9) rfl dX9_aheadOf_37 ?_
            refine lv_iload hx hb dX9_aheadOf_40 (lv_at hl 2 rfl) ?_
            refine va_iald hx hb hK hP 37 25 rfl rfl (i := x4_lp210) (vin (a := x4_lp210.toInt) rfl (by omega)) dX9_aheadOf_42 ?_
            refine lv_topi (fun z225 e226 => ?_)
            have t227 : -1 ≤ z225.toInt ∧ z225.toInt ≤ 499 := by rw [e226]; exact hI.2 37 _ _ rfl _
            refine lv_istore (lv' := [(4, .int z225), (3, .int x4_lp210), (5, .int x5_lp210), (0, .ref (g 4)), (1, .int p0), (2, .int p1)]) hx hb dX9_aheadOf_43 hl (by decide) rfl (fun ls hl => ?_)
            obtain ⟨z228, e229⟩ : ∃ y : Int32, y = x5_lp210 + 1 := ⟨_, rfl⟩
            try (have t230 := tadd e229 rfl (b := 1) (by decide) (by omega))
            refine lv_iinc (v := z228) (lv' := [(5, .int z228), (4, .int z225), (3, .int x4_lp210), (0, .ref (g 4)), (1, .int p0), (2, .int p1)]) hx hb dX9_aheadOf_45 hl (k := 2) rfl (by rw [e229]; rfl) (by decide) rfl (fun ls hl => ?_)
            refine lv_goto (tgt := 13) hx hb dX9_aheadOf_48 (by decide) ?_
            exact ih_lp210 z228 z225 x4_lp210  _ _ _ (by omega) (by omega) (by omega) (by omega) (by omega) (by omega) hP hS (lv_sub hl [0, 1, 2, 3, 4, 5] rfl)
  obtain ⟨n9, hn9⟩ : ∃ n : Nat, 2147483648 - 0 ≤ (n : Int) := ⟨((2147483648 - 0 : Int)).toNat, by omega⟩
  exact lp210 n9 0 z207 (-1)  H _ ls (by have : (0 : Int32).toInt = 0 := (by decide); have : ((-1) : Int32).toInt = (-1) := (by decide); omega) (by have : (0 : Int32).toInt = 0 := (by decide); have : ((-1) : Int32).toInt = (-1) := (by decide); omega) (by have : (0 : Int32).toInt = 0 := (by decide); have : ((-1) : Int32).toInt = (-1) := (by decide); omega) (by have : (0 : Int32).toInt = 0 := (by decide); have : ((-1) : Int32).toInt = (-1) := (by decide); omega) (by have : (0 : Int32).toInt = 0 := (by decide); have : ((-1) : Int32).toInt = (-1) := (by decide); omega) (by have : (0 : Int32).toInt = 0 := (by decide); have : ((-1) : Int32).toInt = (-1) := (by decide); omega) hP hS hl
set_option maxHeartbeats 8000000 in
set_option maxRecDepth 100000 in
theorem c_X9_countOf (l : Launch) (dC : Nat → ClassId) (dI : Nat → Nat → Nat) (g : Nat → Nat) (c : Nat → ClassId) (adK adV : Nat → Nat) (v : Nat → Int32) (F : Nat → Nat → Int32) (rc sz : Nat) (p0 : Int32) (hg : injX g) (hI : IX v F) (h0 : 0 ≤ p0.toInt ∧ p0.toInt ≤ 99) : Met l yX9_countOf (Cond.code yX9_countOf cX9_countOf 5 (some .int) :: wA) ({ frames := 1, cells := 0, slots := 0, locals := 40 }) (va_Pc [.ref (g 4), .int p0] (PX dC dI g c adK adV v F rc sz)) (va_Qi (fun (r : Int32) (u : Unit) => True) (fun (_ : Unit) => BX dC dI g c (v, F, rc)) (AX g sz)) 0 0 (AX g sz) := by
  refine Met.ofW (cc := cX9_countOf) (maxL := 5) (ret := (some .int)) (by decide) rfl ?_
  intro p e s m args below meth c0 s₁ B hml hv
  obtain ⟨rfl, hsz, hP, hK, hE⟩ := hv
  have hx := B.exec
  have hb := B.bytes
  have hr := B.returns
  have hts := atoms_spec (ws := Cond.code yX9_countOf cX9_countOf 5 (some .int) :: wA) B.pre
  have hwd : ∀ w ∈ wA, w.before _ s = true := fun w h => hts w (List.mem_cons_of_mem _ h)
  have hown : s.vm.findClass RX9 = some m.cls := findClass_of_methodNamed B.named
  have hlocks := B.notSynchronized
  subst hsz
  have hl := lv_entry ([.ref (g 4), .int p0]) (n := 5) (Nat.le_of_ble_eq_true rfl)
  rw [lg_entry_eq]
  generalize (lg_sl ([.ref (g 4), .int p0]) ++ List.replicate (5 - (lg_sl ([.ref (g 4), .int p0])).length) Slot.unset).toArray = ls at hl ⊢
  have hl : lv_has ls 5 [(0, .ref (g 4)), (1, .int p0)] := hl
  obtain ⟨H, eH⟩ : ∃ z, z = s.heap := ⟨_, rfl⟩
  have hP : va_P (dC, dI) classes (wX g c v F rc) H := by rw [eH]; exact hP
  have hS : va_S (AX g s.heap.size) s.heap H [] := by rw [eH]; exact va_S.rf
  refine my_heap eH ?_
  have rp0 := i32_rng p0
  refine lv_iconst (v := 0) hx hb dX9_countOf_0 (by decide) ?_
  refine lv_istore_n (lv' := [(2, .int 0), (0, .ref (g 4)), (1, .int p0)]) hx hb dX9_countOf_1 rfl hl (by decide) rfl (fun ls hl => ?_)
  refine lv_aload_n hx hb dX9_countOf_2 rfl (lv_at hl 1 rfl) ?_
  refine va_get (D := (dC, dI)) (ci := 9) (v := .ref (g 38)) (C := RX9) (T := TX9) (N := 11) hx hb hwd inA_X9 hown hK hP 4 rfl rfl 10 (by decide) (hwd _ wk_34) (fun _ h9 => h9) rfl dX9_countOf_3 ?_
  refine lv_iload_n hx hb dX9_countOf_6 rfl (lv_at hl 2 rfl) ?_
  refine va_iald hx hb hK hP 38 26 rfl rfl (i := p0) (vin (a := p0.toInt) rfl (by omega)) dX9_countOf_7 ?_
  refine lv_topi (fun z231 e232 => ?_)
  have t233 : -1 ≤ z231.toInt ∧ z231.toInt ≤ 499 := by rw [e232]; exact hI.2 38 _ _ rfl _
  refine lv_istore_n (lv' := [(3, .int z231), (2, .int 0), (0, .ref (g 4)), (1, .int p0)]) hx hb dX9_countOf_8 rfl hl (by decide) rfl (fun ls hl => ?_)
  refine lv_iconst (v := 0) hx hb dX9_countOf_9 (by decide) ?_
  refine lv_istore (lv' := [(4, .int 0), (3, .int z231), (2, .int 0), (0, .ref (g 4)), (1, .int p0)]) hx hb dX9_countOf_10 hl (by decide) rfl (fun ls hl => ?_)
  have lp234 : ∀ (n : Nat) (x4_lp234 : Int32) (x3_lp234 : Int32) (x2_lp234 : Int32) (H : Heap) (locs : List Loc) (ls : Array Slot), (0 ≤ x4_lp234.toInt) → (-1 ≤ x3_lp234.toInt) → (x3_lp234.toInt ≤ 499) → (2147483648 - x4_lp234.toInt ≤ (n : Int)) → va_P (dC, dI) classes (wX g c v F rc) H → va_S (AX g s.heap.size) s.heap H locs → lv_has ls 5 [(4, .int x4_lp234), (3, .int x3_lp234), (2, .int x2_lp234), (0, .ref (g 4)), (1, .int p0)] → W p l e (headSpec (Cond.code yX9_countOf cX9_countOf 5 (some .int) :: wA) ({ frames := 1, cells := 0, slots := 0, locals := 40 })).room s m ([.ref (g 4), .int p0] : List Value).toArray below meth c0 H locs 0 0 (MQ below (va_Qi (fun (r : Int32) (u : Unit) => True) (fun (_ : Unit) => BX dC dI g c (v, F, rc)) (AX g s.heap.size)) ([.ref (g 4), .int p0] : List Value).toArray s 0 0 (AX g s.heap.size)) (F0 m 12 ls []) := by
    intro n
    induction n with
    | zero =>
      intro x4_lp234 x3_lp234 x2_lp234 H locs ls t235 t236 t237 hm hP hS hl
      exfalso
      have := i32_rng x4_lp234
      have := i32_rng x3_lp234
      have := i32_rng x2_lp234
      omega
    | succ n ih_lp234 =>
      intro x4_lp234 x3_lp234 x2_lp234 H locs ls t235 t236 t237 hm hP hS hl
      have rx4_lp234 := i32_rng x4_lp234
      have rx3_lp234 := i32_rng x3_lp234
      have rx2_lp234 := i32_rng x2_lp234
      refine lv_iload hx hb dX9_countOf_12 (lv_at hl 0 rfl) ?_
      refine lv_sipush (v := 500) hx hb dX9_countOf_14 (by decide) ?_
      refine lv_icmp_ge (tgt := 41) hx hb dX9_countOf_17 (by decide) (fun c238 => ?_) (fun c238 => ?_)
      · skip
        have t239 := cv_le (a := 500) (by decide) (b := x4_lp234.toInt) rfl c238
        refine lv_iload_n hx hb dX9_countOf_41 rfl (lv_at hl 2 rfl) ?_
        have hP9 : va_P (dC, dI) classes (wX g c v F rc) H := hP
        exact W.iret (v := x2_lp234) hx hb hr (fun t ht hW => ⟨⟨x2_lp234, (), rfl, trivial, (by show va_P _ _ _ t.heap; rw [ht]; exact hP9)⟩, hS.F ht⟩) hS.2.2 dX9_countOf_42
      · skip
        have t240 := cv_nle (a := 500) (by decide) (b := x4_lp234.toInt) rfl c238
        refine lv_iload_n hx hb dX9_countOf_20 rfl (lv_at hl 1 rfl) ?_
        refine lv_iconst (v := (-1)) hx hb dX9_countOf_21 (by decide) ?_
        refine lv_icmp_eq (tgt := 41) hx hb dX9_countOf_22 (by decide) (fun c241 => ?_) (fun c241 => ?_)
        · skip
          have t242 := cv_eq (a := x3_lp234.toInt) rfl (b := (-1)) (by decide) c241
          refine lv_iload_n hx hb dX9_countOf_41 rfl (lv_at hl 2 rfl) ?_
          have hP9 : va_P (dC, dI) classes (wX g c v F rc) H := hP
          exact W.iret (v := x2_lp234) hx hb hr (fun t ht hW => ⟨⟨x2_lp234, (), rfl, trivial, (by show va_P _ _ _ t.heap; rw [ht]; exact hP9)⟩, hS.F ht⟩) hS.2.2 dX9_countOf_42
        · skip
          have t243 := cv_ne (a := x3_lp234.toInt) rfl (b := (-1)) (by decide) c241
          obtain ⟨z244, e245⟩ : ∃ y : Int32, y = x2_lp234 + 1 := ⟨_, rfl⟩
          try (have t246 := tadd e245 rfl (b := 1) (by decide) (by omega))
          refine lv_iinc (v := z244) (lv' := [(2, .int z244), (4, .int x4_lp234), (3, .int x3_lp234), (0, .ref (g 4)), (1, .int p0)]) hx hb dX9_countOf_25 hl (k := 2) rfl (by rw [e245]; rfl) (by decide) rfl (fun ls hl => ?_)
          refine lv_aload_n hx hb dX9_countOf_28 rfl (lv_at hl 3 rfl) ?_
          refine va_get (D := (dC, dI)) (ci := 9) (v := .ref (g 37)) (C := RX9) (T := TX9) (N := 11) hx hb hwd inA_X9 hown hK hP 4 rfl rfl 9 (by decide) (hwd _ wk_35) (fun _ h9 => h9) rfl dX9_countOf_29 ?_
          refine lv_iload_n hx hb dX9_countOf_32 rfl (lv_at hl 2 rfl) ?_
          refine va_iald hx hb hK hP 37 25 rfl rfl (i := x3_lp234) (vin (a := x3_lp234.toInt) rfl (by omega)) dX9_countOf_33 ?_
          refine lv_topi (fun z247 e248 => ?_)
          have t249 : -1 ≤ z247.toInt ∧ z247.toInt ≤ 499 := by rw [e248]; exact hI.2 37 _ _ rfl _
          refine lv_istore_n (lv' := [(3, .int z247), (2, .int z244), (4, .int x4_lp234), (0, .ref (g 4)), (1, .int p0)]) hx hb dX9_countOf_34 rfl hl (by decide) rfl (fun ls hl => ?_)
          obtain ⟨z250, e251⟩ : ∃ y : Int32, y = x4_lp234 + 1 := ⟨_, rfl⟩
          try (have t252 := tadd e251 rfl (b := 1) (by decide) (by omega))
          refine lv_iinc (v := z250) (lv' := [(4, .int z250), (3, .int z247), (2, .int z244), (0, .ref (g 4)), (1, .int p0)]) hx hb dX9_countOf_35 hl (k := 2) rfl (by rw [e251]; rfl) (by decide) rfl (fun ls hl => ?_)
          refine lv_goto (tgt := 12) hx hb dX9_countOf_38 (by decide) ?_
          exact ih_lp234 z250 z247 z244  _ _ _ (by omega) (by omega) (by omega) (by omega) hP hS (lv_sub hl [0, 1, 2, 3, 4] rfl)
  obtain ⟨n9, hn9⟩ : ∃ n : Nat, 2147483648 - 0 ≤ (n : Int) := ⟨((2147483648 - 0 : Int)).toNat, by omega⟩
  exact lp234 n9 0 z231 0  H _ ls (by have : (0 : Int32).toInt = 0 := (by decide); have : (0 : Int32).toInt = 0 := (by decide); omega) (by have : (0 : Int32).toInt = 0 := (by decide); have : (0 : Int32).toInt = 0 := (by decide); omega) (by have : (0 : Int32).toInt = 0 := (by decide); have : (0 : Int32).toInt = 0 := (by decide); omega) (by have : (0 : Int32).toInt = 0 := (by decide); have : (0 : Int32).toInt = 0 := (by decide); omega) hP hS hl
set_option maxHeartbeats 8000000 in
set_option maxRecDepth 100000 in
theorem c_X9_gapsOf (l : Launch) (dC : Nat → ClassId) (dI : Nat → Nat → Nat) (g : Nat → Nat) (c : Nat → ClassId) (adK adV : Nat → Nat) (v : Nat → Int32) (F : Nat → Nat → Int32) (rc sz : Nat) (p0 : Int32) (hg : injX g) (hI : IX v F) (h0 : 0 ≤ p0.toInt ∧ p0.toInt ≤ 99) : Met l yX9_gapsOf (Cond.code yX9_gapsOf cX9_gapsOf 5 (some .int) :: wA) ({ frames := 3, cells := 0, slots := 0, locals := 120 }) (va_Pc [.ref (g 4), .int p0] (PX dC dI g c adK adV v F rc sz)) (va_Qi (fun (r : Int32) (u : Unit) => True) (fun (_ : Unit) => BX dC dI g c (v, F, rc)) (AX g sz)) 0 0 (AX g sz) := by
  refine Met.ofW (cc := cX9_gapsOf) (maxL := 5) (ret := (some .int)) (by decide) rfl ?_
  intro p e s m args below meth c0 s₁ B hml hv
  obtain ⟨rfl, hsz, hP, hK, hE⟩ := hv
  have hx := B.exec
  have hb := B.bytes
  have hr := B.returns
  have hts := atoms_spec (ws := Cond.code yX9_gapsOf cX9_gapsOf 5 (some .int) :: wA) B.pre
  have hwd : ∀ w ∈ wA, w.before _ s = true := fun w h => hts w (List.mem_cons_of_mem _ h)
  have hown : s.vm.findClass RX9 = some m.cls := findClass_of_methodNamed B.named
  have hlocks := B.notSynchronized
  subst hsz
  have hl := lv_entry ([.ref (g 4), .int p0]) (n := 5) (Nat.le_of_ble_eq_true rfl)
  rw [lg_entry_eq]
  generalize (lg_sl ([.ref (g 4), .int p0]) ++ List.replicate (5 - (lg_sl ([.ref (g 4), .int p0])).length) Slot.unset).toArray = ls at hl ⊢
  have hl : lv_has ls 5 [(0, .ref (g 4)), (1, .int p0)] := hl
  obtain ⟨H, eH⟩ : ∃ z, z = s.heap := ⟨_, rfl⟩
  have hP : va_P (dC, dI) classes (wX g c v F rc) H := by rw [eH]; exact hP
  have hS : va_S (AX g s.heap.size) s.heap H [] := by rw [eH]; exact va_S.rf
  refine my_heap eH ?_
  have rp0 := i32_rng p0
  refine lv_iconst (v := 0) hx hb dX9_gapsOf_0 (by decide) ?_
  refine lv_istore_n (lv' := [(2, .int 0), (0, .ref (g 4)), (1, .int p0)]) hx hb dX9_gapsOf_1 rfl hl (by decide) rfl (fun ls hl => ?_)
  refine lv_aload_n hx hb dX9_gapsOf_2 rfl (lv_at hl 1 rfl) ?_
  refine va_get (D := (dC, dI)) (ci := 9) (v := .ref (g 38)) (C := RX9) (T := TX9) (N := 11) hx hb hwd inA_X9 hown hK hP 4 rfl rfl 10 (by decide) (hwd _ wk_34) (fun _ h9 => h9) rfl dX9_gapsOf_3 ?_
  refine lv_iload_n hx hb dX9_gapsOf_6 rfl (lv_at hl 2 rfl) ?_
  refine va_iald hx hb hK hP 38 26 rfl rfl (i := p0) (vin (a := p0.toInt) rfl (by omega)) dX9_gapsOf_7 ?_
  refine lv_topi (fun z253 e254 => ?_)
  have t255 : -1 ≤ z253.toInt ∧ z253.toInt ≤ 499 := by rw [e254]; exact hI.2 38 _ _ rfl _
  refine lv_istore_n (lv' := [(3, .int z253), (2, .int 0), (0, .ref (g 4)), (1, .int p0)]) hx hb dX9_gapsOf_8 rfl hl (by decide) rfl (fun ls hl => ?_)
  refine lv_iconst (v := 0) hx hb dX9_gapsOf_9 (by decide) ?_
  refine lv_istore (lv' := [(4, .int 0), (3, .int z253), (2, .int 0), (0, .ref (g 4)), (1, .int p0)]) hx hb dX9_gapsOf_10 hl (by decide) rfl (fun ls hl => ?_)
  have lp256 : ∀ (n : Nat) (x4_lp256 : Int32) (x3_lp256 : Int32) (x2_lp256 : Int32) (H : Heap) (locs : List Loc) (ls : Array Slot), (0 ≤ x4_lp256.toInt) → (-1 ≤ x3_lp256.toInt) → (x3_lp256.toInt ≤ 499) → (2147483648 - x4_lp256.toInt ≤ (n : Int)) → va_P (dC, dI) classes (wX g c v F rc) H → va_S (AX g s.heap.size) s.heap H locs → lv_has ls 5 [(4, .int x4_lp256), (3, .int x3_lp256), (2, .int x2_lp256), (0, .ref (g 4)), (1, .int p0)] → W p l e (headSpec (Cond.code yX9_gapsOf cX9_gapsOf 5 (some .int) :: wA) ({ frames := 3, cells := 0, slots := 0, locals := 120 })).room s m ([.ref (g 4), .int p0] : List Value).toArray below meth c0 H locs 0 0 (MQ below (va_Qi (fun (r : Int32) (u : Unit) => True) (fun (_ : Unit) => BX dC dI g c (v, F, rc)) (AX g s.heap.size)) ([.ref (g 4), .int p0] : List Value).toArray s 0 0 (AX g s.heap.size)) (F0 m 12 ls []) := by
    intro n
    induction n with
    | zero =>
      intro x4_lp256 x3_lp256 x2_lp256 H locs ls t257 t258 t259 hm hP hS hl
      exfalso
      have := i32_rng x4_lp256
      have := i32_rng x3_lp256
      have := i32_rng x2_lp256
      omega
    | succ n ih_lp256 =>
      intro x4_lp256 x3_lp256 x2_lp256 H locs ls t257 t258 t259 hm hP hS hl
      have rx4_lp256 := i32_rng x4_lp256
      have rx3_lp256 := i32_rng x3_lp256
      have rx2_lp256 := i32_rng x2_lp256
      refine lv_iload hx hb dX9_gapsOf_12 (lv_at hl 0 rfl) ?_
      refine lv_sipush (v := 500) hx hb dX9_gapsOf_14 (by decide) ?_
      refine lv_icmp_ge (tgt := 54) hx hb dX9_gapsOf_17 (by decide) (fun c260 => ?_) (fun c260 => ?_)
      · skip
        have t261 := cv_le (a := 500) (by decide) (b := x4_lp256.toInt) rfl c260
        refine lv_iload_n hx hb dX9_gapsOf_54 rfl (lv_at hl 2 rfl) ?_
        have hP9 : va_P (dC, dI) classes (wX g c v F rc) H := hP
        exact W.iret (v := x2_lp256) hx hb hr (fun t ht hW => ⟨⟨x2_lp256, (), rfl, trivial, (by show va_P _ _ _ t.heap; rw [ht]; exact hP9)⟩, hS.F ht⟩) hS.2.2 dX9_gapsOf_55
      · skip
        have t262 := cv_nle (a := 500) (by decide) (b := x4_lp256.toInt) rfl c260
        refine lv_iload_n hx hb dX9_gapsOf_20 rfl (lv_at hl 1 rfl) ?_
        refine lv_iconst (v := (-1)) hx hb dX9_gapsOf_21 (by decide) ?_
        refine lv_icmp_eq (tgt := 54) hx hb dX9_gapsOf_22 (by decide) (fun c263 => ?_) (fun c263 => ?_)
        · skip
          have t264 := cv_eq (a := x3_lp256.toInt) rfl (b := (-1)) (by decide) c263
          refine lv_iload_n hx hb dX9_gapsOf_54 rfl (lv_at hl 2 rfl) ?_
          have hP9 : va_P (dC, dI) classes (wX g c v F rc) H := hP
          exact W.iret (v := x2_lp256) hx hb hr (fun t ht hW => ⟨⟨x2_lp256, (), rfl, trivial, (by show va_P _ _ _ t.heap; rw [ht]; exact hP9)⟩, hS.F ht⟩) hS.2.2 dX9_gapsOf_55
        · skip
          have t265 := cv_ne (a := x3_lp256.toInt) rfl (b := (-1)) (by decide) c263
          refine lv_iload_n hx hb dX9_gapsOf_25 rfl (lv_at hl 2 rfl) ?_
          refine lv_aload_n hx hb dX9_gapsOf_26 rfl (lv_at hl 3 rfl) ?_
          refine lv_iload_n hx hb dX9_gapsOf_27 rfl (lv_at hl 1 rfl) ?_
          refine va_calli (va_runV (As := [.int x3_lp256]) (rest := [.int x2_lp256]) ⟨hx, hb, hml, hown, hwd⟩ (c_X9_isGap l dC dI g c adK adV v F rc H.size x3_lp256 hg hI (by omega)) (cwV 1 hwd (gV wk_36 wk_37 wk_38 wk_39 wk_28) rfl rfl rfl (by decide +kernel) ⟨Nat.le_of_ble_eq_true rfl, Nat.le_of_ble_eq_true rfl⟩) ⟨PX.blind, va_recv hK hP (ci := 9) (q0 := 4) rfl rfl, fun U hU hW => ⟨rfl, PX.at hK hE hP hS hU hW⟩⟩ rfl rfl hl.1 rfl (lv_room (Nat.le_of_ble_eq_true rfl)) dX9_gapsOf_28 ⟨Nat.le_of_ble_eq_true rfl, Nat.le_of_ble_eq_true rfl⟩) hS (fun q _ h => (freeX hS) q h) (freeX hS) (fun r266 u t H1 locs ht hvm hw hB hz1 hk1 hS => ?_)
          unfold BX at hB
          rw [ht] at hB
          have hP : va_P (dC, dI) classes (wX g c v F rc) H1 := hB
          have hw : 0 ≤ r266.toInt ∧ r266.toInt ≤ 1 := hw
          generalize H1 = H at hP hS ⊢
          have hw_r266 := hw
          refine lv_if_eq (tgt := 38) hx hb dX9_gapsOf_31 (by decide) (fun c267 => ?_) (fun c267 => ?_)
          · skip
            have t268 := cv_eq (a := r266.toInt) rfl (b := 0) (by decide) c267
            refine lv_iconst (v := 0) hx hb dX9_gapsOf_38 (by decide) ?_
            refine lv_iadd hx hb dX9_gapsOf_39 ?_
            refine lv_topi (fun z269 e270 => ?_)
            try (have t271 := tadd e270 (a := x2_lp256.toInt) rfl (b := 0) (by decide) (by omega))
            refine lv_istore_n (lv' := [(2, .int z269), (4, .int x4_lp256), (3, .int x3_lp256), (0, .ref (g 4)), (1, .int p0)]) hx hb dX9_gapsOf_40 rfl hl (by decide) rfl (fun ls hl => ?_)
            refine lv_aload_n hx hb dX9_gapsOf_41 rfl (lv_at hl 3 rfl) ?_
            refine va_get (D := (dC, dI)) (ci := 9) (v := .ref (g 37)) (C := RX9) (T := TX9) (N := 11) hx hb hwd inA_X9 hown hK hP 4 rfl rfl 9 (by decide) (hwd _ wk_35) (fun _ h9 => h9) rfl dX9_gapsOf_42 ?_
            refine lv_iload_n hx hb dX9_gapsOf_45 rfl (lv_at hl 2 rfl) ?_
            refine va_iald hx hb hK hP 37 25 rfl rfl (i := x3_lp256) (vin (a := x3_lp256.toInt) rfl (by omega)) dX9_gapsOf_46 ?_
            refine lv_topi (fun z272 e273 => ?_)
            have t274 : -1 ≤ z272.toInt ∧ z272.toInt ≤ 499 := by rw [e273]; exact hI.2 37 _ _ rfl _
            refine lv_istore_n (lv' := [(3, .int z272), (2, .int z269), (4, .int x4_lp256), (0, .ref (g 4)), (1, .int p0)]) hx hb dX9_gapsOf_47 rfl hl (by decide) rfl (fun ls hl => ?_)
            obtain ⟨z275, e276⟩ : ∃ y : Int32, y = x4_lp256 + 1 := ⟨_, rfl⟩
            try (have t277 := tadd e276 rfl (b := 1) (by decide) (by omega))
            refine lv_iinc (v := z275) (lv' := [(4, .int z275), (3, .int z272), (2, .int z269), (0, .ref (g 4)), (1, .int p0)]) hx hb dX9_gapsOf_48 hl (k := 2) rfl (by rw [e276]; rfl) (by decide) rfl (fun ls hl => ?_)
            refine lv_goto (tgt := 12) hx hb dX9_gapsOf_51 (by decide) ?_
            exact ih_lp256 z275 z272 z269  _ _ _ (by omega) (by omega) (by omega) (by omega) hP hS (lv_sub hl [0, 1, 2, 3, 4] rfl)
          · skip
            have t278 := cv_ne (a := r266.toInt) rfl (b := 0) (by decide) c267
            refine lv_iconst (v := 1) hx hb dX9_gapsOf_34 (by decide) ?_
            refine lv_goto (tgt := 39) hx hb dX9_gapsOf_35 (by decide) ?_
            refine lv_iadd hx hb dX9_gapsOf_39 ?_
            refine lv_topi (fun z279 e280 => ?_)
            try (have t281 := tadd e280 (a := x2_lp256.toInt) rfl (b := 1) (by decide) (by omega))
            refine lv_istore_n (lv' := [(2, .int z279), (4, .int x4_lp256), (3, .int x3_lp256), (0, .ref (g 4)), (1, .int p0)]) hx hb dX9_gapsOf_40 rfl hl (by decide) rfl (fun ls hl => ?_)
            refine lv_aload_n hx hb dX9_gapsOf_41 rfl (lv_at hl 3 rfl) ?_
            refine va_get (D := (dC, dI)) (ci := 9) (v := .ref (g 37)) (C := RX9) (T := TX9) (N := 11) hx hb hwd inA_X9 hown hK hP 4 rfl rfl 9 (by decide) (hwd _ wk_35) (fun _ h9 => h9) rfl dX9_gapsOf_42 ?_
            refine lv_iload_n hx hb dX9_gapsOf_45 rfl (lv_at hl 2 rfl) ?_
            refine va_iald hx hb hK hP 37 25 rfl rfl (i := x3_lp256) (vin (a := x3_lp256.toInt) rfl (by omega)) dX9_gapsOf_46 ?_
            refine lv_topi (fun z282 e283 => ?_)
            have t284 : -1 ≤ z282.toInt ∧ z282.toInt ≤ 499 := by rw [e283]; exact hI.2 37 _ _ rfl _
            refine lv_istore_n (lv' := [(3, .int z282), (2, .int z279), (4, .int x4_lp256), (0, .ref (g 4)), (1, .int p0)]) hx hb dX9_gapsOf_47 rfl hl (by decide) rfl (fun ls hl => ?_)
            obtain ⟨z285, e286⟩ : ∃ y : Int32, y = x4_lp256 + 1 := ⟨_, rfl⟩
            try (have t287 := tadd e286 rfl (b := 1) (by decide) (by omega))
            refine lv_iinc (v := z285) (lv' := [(4, .int z285), (3, .int z282), (2, .int z279), (0, .ref (g 4)), (1, .int p0)]) hx hb dX9_gapsOf_48 hl (k := 2) rfl (by rw [e286]; rfl) (by decide) rfl (fun ls hl => ?_)
            refine lv_goto (tgt := 12) hx hb dX9_gapsOf_51 (by decide) ?_
            exact ih_lp256 z285 z282 z279  _ _ _ (by omega) (by omega) (by omega) (by omega) hP hS (lv_sub hl [0, 1, 2, 3, 4] rfl)
  obtain ⟨n9, hn9⟩ : ∃ n : Nat, 2147483648 - 0 ≤ (n : Int) := ⟨((2147483648 - 0 : Int)).toNat, by omega⟩
  exact lp256 n9 0 z253 0  H _ ls (by have : (0 : Int32).toInt = 0 := (by decide); have : (0 : Int32).toInt = 0 := (by decide); omega) (by have : (0 : Int32).toInt = 0 := (by decide); have : (0 : Int32).toInt = 0 := (by decide); omega) (by have : (0 : Int32).toInt = 0 := (by decide); have : (0 : Int32).toInt = 0 := (by decide); omega) (by have : (0 : Int32).toInt = 0 := (by decide); have : (0 : Int32).toInt = 0 := (by decide); omega) hP hS hl
set_option maxHeartbeats 8000000 in
set_option maxRecDepth 100000 in
theorem c_X9_gapsAhead (l : Launch) (dC : Nat → ClassId) (dI : Nat → Nat → Nat) (g : Nat → Nat) (c : Nat → ClassId) (adK adV : Nat → Nat) (v : Nat → Int32) (F : Nat → Nat → Int32) (rc sz : Nat) (p0 : Int32) (p1 : Int32) (hg : injX g) (hI : IX v F) (h0 : 0 ≤ p0.toInt ∧ p0.toInt ≤ 99) (h1 : 0 ≤ p1.toInt ∧ p1.toInt ≤ 499) : Met l yX9_gapsAhead (Cond.code yX9_gapsAhead cX9_gapsAhead 7 (some .int) :: wA) ({ frames := 3, cells := 0, slots := 0, locals := 120 }) (va_Pc [.ref (g 4), .int p0, .int p1] (PX dC dI g c adK adV v F rc sz)) (va_Qi (fun (r : Int32) (u : Unit) => True) (fun (_ : Unit) => BX dC dI g c (v, F, rc)) (AX g sz)) 0 0 (AX g sz) := by
  refine Met.ofW (cc := cX9_gapsAhead) (maxL := 7) (ret := (some .int)) (by decide) rfl ?_
  intro p e s m args below meth c0 s₁ B hml hv
  obtain ⟨rfl, hsz, hP, hK, hE⟩ := hv
  have hx := B.exec
  have hb := B.bytes
  have hr := B.returns
  have hts := atoms_spec (ws := Cond.code yX9_gapsAhead cX9_gapsAhead 7 (some .int) :: wA) B.pre
  have hwd : ∀ w ∈ wA, w.before _ s = true := fun w h => hts w (List.mem_cons_of_mem _ h)
  have hown : s.vm.findClass RX9 = some m.cls := findClass_of_methodNamed B.named
  have hlocks := B.notSynchronized
  subst hsz
  have hl := lv_entry ([.ref (g 4), .int p0, .int p1]) (n := 7) (Nat.le_of_ble_eq_true rfl)
  rw [lg_entry_eq]
  generalize (lg_sl ([.ref (g 4), .int p0, .int p1]) ++ List.replicate (7 - (lg_sl ([.ref (g 4), .int p0, .int p1])).length) Slot.unset).toArray = ls at hl ⊢
  have hl : lv_has ls 7 [(0, .ref (g 4)), (1, .int p0), (2, .int p1)] := hl
  obtain ⟨H, eH⟩ : ∃ z, z = s.heap := ⟨_, rfl⟩
  have hP : va_P (dC, dI) classes (wX g c v F rc) H := by rw [eH]; exact hP
  have hS : va_S (AX g s.heap.size) s.heap H [] := by rw [eH]; exact va_S.rf
  refine my_heap eH ?_
  have rp0 := i32_rng p0
  have rp1 := i32_rng p1
  refine lv_iconst (v := 0) hx hb dX9_gapsAhead_0 (by decide) ?_
  refine lv_istore_n (lv' := [(3, .int 0), (0, .ref (g 4)), (1, .int p0), (2, .int p1)]) hx hb dX9_gapsAhead_1 rfl hl (by decide) rfl (fun ls hl => ?_)
  refine lv_aload_n hx hb dX9_gapsAhead_2 rfl (lv_at hl 1 rfl) ?_
  refine va_get (D := (dC, dI)) (ci := 9) (v := .ref (g 38)) (C := RX9) (T := TX9) (N := 11) hx hb hwd inA_X9 hown hK hP 4 rfl rfl 10 (by decide) (hwd _ wk_34) (fun _ h9 => h9) rfl dX9_gapsAhead_3 ?_
  refine lv_iload_n hx hb dX9_gapsAhead_6 rfl (lv_at hl 2 rfl) ?_
  refine va_iald hx hb hK hP 38 26 rfl rfl (i := p0) (vin (a := p0.toInt) rfl (by omega)) dX9_gapsAhead_7 ?_
  refine lv_topi (fun z288 e289 => ?_)
  have t290 : -1 ≤ z288.toInt ∧ z288.toInt ≤ 499 := by rw [e289]; exact hI.2 38 _ _ rfl _
  refine lv_istore (lv' := [(4, .int z288), (3, .int 0), (0, .ref (g 4)), (1, .int p0), (2, .int p1)]) hx hb dX9_gapsAhead_8 hl (by decide) rfl (fun ls hl => ?_)
  refine lv_iconst (v := 1) hx hb dX9_gapsAhead_10 (by decide) ?_
  refine lv_istore (lv' := [(5, .int 1), (4, .int z288), (3, .int 0), (0, .ref (g 4)), (1, .int p0), (2, .int p1)]) hx hb dX9_gapsAhead_11 hl (by decide) rfl (fun ls hl => ?_)
  refine lv_iconst (v := 0) hx hb dX9_gapsAhead_13 (by decide) ?_
  refine lv_istore (lv' := [(6, .int 0), (5, .int 1), (4, .int z288), (3, .int 0), (0, .ref (g 4)), (1, .int p0), (2, .int p1)]) hx hb dX9_gapsAhead_14 hl (by decide) rfl (fun ls hl => ?_)
  have lp291 : ∀ (n : Nat) (x6_lp291 : Int32) (x5_lp291 : Int32) (x4_lp291 : Int32) (x3_lp291 : Int32) (H : Heap) (locs : List Loc) (ls : Array Slot), (0 ≤ x6_lp291.toInt) → (-1 ≤ x4_lp291.toInt) → (x4_lp291.toInt ≤ 499) → (2147483648 - x6_lp291.toInt ≤ (n : Int)) → va_P (dC, dI) classes (wX g c v F rc) H → va_S (AX g s.heap.size) s.heap H locs → lv_has ls 7 [(6, .int x6_lp291), (5, .int x5_lp291), (4, .int x4_lp291), (3, .int x3_lp291), (0, .ref (g 4)), (1, .int p0), (2, .int p1)] → W p l e (headSpec (Cond.code yX9_gapsAhead cX9_gapsAhead 7 (some .int) :: wA) ({ frames := 3, cells := 0, slots := 0, locals := 120 })).room s m ([.ref (g 4), .int p0, .int p1] : List Value).toArray below meth c0 H locs 0 0 (MQ below (va_Qi (fun (r : Int32) (u : Unit) => True) (fun (_ : Unit) => BX dC dI g c (v, F, rc)) (AX g s.heap.size)) ([.ref (g 4), .int p0, .int p1] : List Value).toArray s 0 0 (AX g s.heap.size)) (F0 m 16 ls []) := by
    intro n
    induction n with
    | zero =>
      intro x6_lp291 x5_lp291 x4_lp291 x3_lp291 H locs ls t292 t293 t294 hm hP hS hl
      exfalso
      have := i32_rng x6_lp291
      have := i32_rng x5_lp291
      have := i32_rng x4_lp291
      have := i32_rng x3_lp291
      omega
    | succ n ih_lp291 =>
      intro x6_lp291 x5_lp291 x4_lp291 x3_lp291 H locs ls t292 t293 t294 hm hP hS hl
      have rx6_lp291 := i32_rng x6_lp291
      have rx5_lp291 := i32_rng x5_lp291
      have rx4_lp291 := i32_rng x4_lp291
      have rx3_lp291 := i32_rng x3_lp291
      refine lv_iload hx hb dX9_gapsAhead_16 (lv_at hl 0 rfl) ?_
      refine lv_sipush (v := 500) hx hb dX9_gapsAhead_18 (by decide) ?_
      refine lv_icmp_ge (tgt := 106) hx hb dX9_gapsAhead_21 (by decide) (fun c295 => ?_) (fun c295 => ?_)
      · skip
        have t296 := cv_le (a := 500) (by decide) (b := x6_lp291.toInt) rfl c295
        refine lv_iload_n hx hb dX9_gapsAhead_106 rfl (lv_at hl 3 rfl) ?_
        have hP9 : va_P (dC, dI) classes (wX g c v F rc) H := hP
        exact W.iret (v := x3_lp291) hx hb hr (fun t ht hW => ⟨⟨x3_lp291, (), rfl, trivial, (by show va_P _ _ _ t.heap; rw [ht]; exact hP9)⟩, hS.F ht⟩) hS.2.2 dX9_gapsAhead_107
      · skip
        have t297 := cv_nle (a := 500) (by decide) (b := x6_lp291.toInt) rfl c295
        refine lv_iload hx hb dX9_gapsAhead_24 (lv_at hl 2 rfl) ?_
        refine lv_iconst (v := (-1)) hx hb dX9_gapsAhead_26 (by decide) ?_
        refine lv_icmp_eq (tgt := 106) hx hb dX9_gapsAhead_27 (by decide) (fun c298 => ?_) (fun c298 => ?_)
        · skip
          have t299 := cv_eq (a := x4_lp291.toInt) rfl (b := (-1)) (by decide) c298
          refine lv_iload_n hx hb dX9_gapsAhead_106 rfl (lv_at hl 3 rfl) ?_
          have hP9 : va_P (dC, dI) classes (wX g c v F rc) H := hP
          exact W.iret (v := x3_lp291) hx hb hr (fun t ht hW => ⟨⟨x3_lp291, (), rfl, trivial, (by show va_P _ _ _ t.heap; rw [ht]; exact hP9)⟩, hS.F ht⟩) hS.2.2 dX9_gapsAhead_107
        · skip
          have t300 := cv_ne (a := x4_lp291.toInt) rfl (b := (-1)) (by decide) c298
          refine lv_iload hx hb dX9_gapsAhead_30 (lv_at hl 2 rfl) ?_
          refine lv_iload_n hx hb dX9_gapsAhead_32 rfl (lv_at hl 6 rfl) ?_
          refine lv_icmp_ne (tgt := 42) hx hb dX9_gapsAhead_33 (by decide) (fun c301 => ?_) (fun c301 => ?_)
          · skip
            have t302 := cv_ne (a := x4_lp291.toInt) rfl (b := p1.toInt) rfl c301
            refine lv_aload_n hx hb dX9_gapsAhead_42 rfl (lv_at hl 4 rfl) ?_
            refine lv_iload hx hb dX9_gapsAhead_43 (lv_at hl 2 rfl) ?_
            refine va_calli (va_runV (As := [.int x4_lp291]) (rest := []) ⟨hx, hb, hml, hown, hwd⟩ (c_X9_isGap l dC dI g c adK adV v F rc H.size x4_lp291 hg hI (by omega)) (cwV 1 hwd (gV wk_36 wk_37 wk_38 wk_39 wk_28) rfl rfl rfl (by decide +kernel) ⟨Nat.le_of_ble_eq_true rfl, Nat.le_of_ble_eq_true rfl⟩) ⟨PX.blind, va_recv hK hP (ci := 9) (q0 := 4) rfl rfl, fun U hU hW => ⟨rfl, PX.at hK hE hP hS hU hW⟩⟩ rfl rfl hl.1 rfl (lv_room (Nat.le_of_ble_eq_true rfl)) dX9_gapsAhead_45 ⟨Nat.le_of_ble_eq_true rfl, Nat.le_of_ble_eq_true rfl⟩) hS (fun q _ h => (freeX hS) q h) (freeX hS) (fun r303 u t H1 locs ht hvm hw hB hz1 hk1 hS => ?_)
            unfold BX at hB
            rw [ht] at hB
            have hP : va_P (dC, dI) classes (wX g c v F rc) H1 := hB
            have hw : 0 ≤ r303.toInt ∧ r303.toInt ≤ 1 := hw
            generalize H1 = H at hP hS ⊢
            have hw_r303 := hw
            refine lv_if_eq (tgt := 91) hx hb dX9_gapsAhead_48 (by decide) (fun c304 => ?_) (fun c304 => ?_)
            · skip
              have t305 := cv_eq (a := r303.toInt) rfl (b := 0) (by decide) c304
              refine lv_aload_n hx hb dX9_gapsAhead_91 rfl (lv_at hl 4 rfl) ?_
              refine va_get (D := (dC, dI)) (ci := 9) (v := .ref (g 37)) (C := RX9) (T := TX9) (N := 11) hx hb hwd inA_X9 hown hK hP 4 rfl rfl 9 (by decide) (hwd _ wk_35) (fun _ h9 => h9) rfl dX9_gapsAhead_92 ?_
              refine lv_iload hx hb dX9_gapsAhead_95 (lv_at hl 2 rfl) ?_
              refine va_iald hx hb hK hP 37 25 rfl rfl (i := x4_lp291) (vin (a := x4_lp291.toInt) rfl (by omega)) dX9_gapsAhead_97 ?_
              refine lv_topi (fun z306 e307 => ?_)
              have t308 : -1 ≤ z306.toInt ∧ z306.toInt ≤ 499 := by rw [e307]; exact hI.2 37 _ _ rfl _
              refine lv_istore (lv' := [(4, .int z306), (6, .int x6_lp291), (5, .int x5_lp291), (3, .int x3_lp291), (0, .ref (g 4)), (1, .int p0), (2, .int p1)]) hx hb dX9_gapsAhead_98 hl (by decide) rfl (fun ls hl => ?_)
              obtain ⟨z309, e310⟩ : ∃ y : Int32, y = x6_lp291 + 1 := ⟨_, rfl⟩
              try (have t311 := tadd e310 rfl (b := 1) (by decide) (by omega))
              refine lv_iinc (v := z309) (lv' := [(6, .int z309), (4, .int z306), (5, .int x5_lp291), (3, .int x3_lp291), (0, .ref (g 4)), (1, .int p0), (2, .int p1)]) hx hb dX9_gapsAhead_100 hl (k := 1) rfl (by rw [e310]; rfl) (by decide) rfl (fun ls hl => ?_)
              refine lv_goto (tgt := 16) hx hb dX9_gapsAhead_103 (by decide) ?_
              exact ih_lp291 z309 x5_lp291 z306 x3_lp291  _ _ _ (by omega) (by omega) (by omega) (by omega) hP hS (lv_sub hl [0, 2, 1, 3, 4, 5, 6] rfl)
            · skip
              have t312 := cv_ne (a := r303.toInt) rfl (b := 0) (by decide) c304
              refine lv_aload_n hx hb dX9_gapsAhead_51 rfl (lv_at hl 4 rfl) ?_
              refine va_get (D := (dC, dI)) (ci := 9) (v := .ref (g 31)) (C := RX9) (T := TX9) (N := 11) hx hb hwd inA_X9 hown hK hP 4 rfl rfl 3 (by decide) (hwd _ wk_22) (fun _ h9 => h9) rfl dX9_gapsAhead_52 ?_
              refine lv_iload hx hb dX9_gapsAhead_55 (lv_at hl 2 rfl) ?_
              refine va_iald hx hb hK hP 31 19 rfl rfl (i := x4_lp291) (vin (a := x4_lp291.toInt) rfl (by omega)) dX9_gapsAhead_57 ?_
              refine lv_topi (fun z313 e314 => ?_)
              refine lv_aload_n hx hb dX9_gapsAhead_58 rfl (lv_at hl 4 rfl) ?_
              refine va_get (D := (dC, dI)) (ci := 9) (v := .ref (g 31)) (C := RX9) (T := TX9) (N := 11) hx hb hwd inA_X9 hown hK hP 4 rfl rfl 3 (by decide) (hwd _ wk_22) (fun _ h9 => h9) rfl dX9_gapsAhead_59 ?_
              refine lv_iload_n hx hb dX9_gapsAhead_62 rfl (lv_at hl 6 rfl) ?_
              refine va_iald hx hb hK hP 31 19 rfl rfl (i := p1) (vin (a := p1.toInt) rfl (by omega)) dX9_gapsAhead_63 ?_
              refine lv_topi (fun z315 e316 => ?_)
              refine lv_icmp_lt (tgt := 88) hx hb dX9_gapsAhead_64 (by decide) (fun c317 => ?_) (fun c317 => ?_)
              · skip
                have t318 := cv_lt (a := z313.toInt) rfl (b := z315.toInt) rfl c317
                obtain ⟨z319, e320⟩ : ∃ y : Int32, y = x3_lp291 + 1 := ⟨_, rfl⟩
                try (have t321 := tadd e320 rfl (b := 1) (by decide) (by omega))
                refine lv_iinc (v := z319) (lv' := [(3, .int z319), (6, .int x6_lp291), (5, .int x5_lp291), (4, .int x4_lp291), (0, .ref (g 4)), (1, .int p0), (2, .int p1)]) hx hb dX9_gapsAhead_88 hl (k := 3) rfl (by rw [e320]; rfl) (by decide) rfl (fun ls hl => ?_)
                refine lv_aload_n hx hb dX9_gapsAhead_91 rfl (lv_at hl 4 rfl) ?_
                refine va_get (D := (dC, dI)) (ci := 9) (v := .ref (g 37)) (C := RX9) (T := TX9) (N := 11) hx hb hwd inA_X9 hown hK hP 4 rfl rfl 9 (by decide) (hwd _ wk_35) (fun _ h9 => h9) rfl dX9_gapsAhead_92 ?_
                refine lv_iload hx hb dX9_gapsAhead_95 (lv_at hl 3 rfl) ?_
                refine va_iald hx hb hK hP 37 25 rfl rfl (i := x4_lp291) (vin (a := x4_lp291.toInt) rfl (by omega)) dX9_gapsAhead_97 ?_
                refine lv_topi (fun z322 e323 => ?_)
                have t324 : -1 ≤ z322.toInt ∧ z322.toInt ≤ 499 := by rw [e323]; exact hI.2 37 _ _ rfl _
                refine lv_istore (lv' := [(4, .int z322), (3, .int z319), (6, .int x6_lp291), (5, .int x5_lp291), (0, .ref (g 4)), (1, .int p0), (2, .int p1)]) hx hb dX9_gapsAhead_98 hl (by decide) rfl (fun ls hl => ?_)
                obtain ⟨z325, e326⟩ : ∃ y : Int32, y = x6_lp291 + 1 := ⟨_, rfl⟩
                try (have t327 := tadd e326 rfl (b := 1) (by decide) (by omega))
                refine lv_iinc (v := z325) (lv' := [(6, .int z325), (4, .int z322), (3, .int z319), (5, .int x5_lp291), (0, .ref (g 4)), (1, .int p0), (2, .int p1)]) hx hb dX9_gapsAhead_100 hl (k := 2) rfl (by rw [e326]; rfl) (by decide) rfl (fun ls hl => ?_)
                refine lv_goto (tgt := 16) hx hb dX9_gapsAhead_103 (by decide) ?_
                exact ih_lp291 z325 x5_lp291 z322 z319  _ _ _ (by omega) (by omega) (by omega) (by omega) hP hS (lv_sub hl [0, 3, 1, 2, 4, 5, 6] rfl)
              · skip
                have t328 := cv_nlt (a := z313.toInt) rfl (b := z315.toInt) rfl c317
                refine lv_iload hx hb dX9_gapsAhead_67 (lv_at hl 1 rfl) ?_
                refine lv_if_eq (tgt := 91) hx hb dX9_gapsAhead_69 (by decide) (fun c329 => ?_) (fun c329 => ?_)
                · skip
                  have t330 := cv_eq (a := x5_lp291.toInt) rfl (b := 0) (by decide) c329
                  refine lv_aload_n hx hb dX9_gapsAhead_91 rfl (lv_at hl 4 rfl) ?_
                  refine va_get (D := (dC, dI)) (ci := 9) (v := .ref (g 37)) (C := RX9) (T := TX9) (N := 11) hx hb hwd inA_X9 hown hK hP 4 rfl rfl 9 (by decide) (hwd _ wk_35) (fun _ h9 => h9) rfl dX9_gapsAhead_92 ?_
                  refine lv_iload hx hb dX9_gapsAhead_95 (lv_at hl 2 rfl) ?_
                  refine va_iald hx hb hK hP 37 25 rfl rfl (i := x4_lp291) (vin (a := x4_lp291.toInt) rfl (by omega)) dX9_gapsAhead_97 ?_
                  refine lv_topi (fun z331 e332 => ?_)
                  have t333 : -1 ≤ z331.toInt ∧ z331.toInt ≤ 499 := by rw [e332]; exact hI.2 37 _ _ rfl _
                  refine lv_istore (lv' := [(4, .int z331), (6, .int x6_lp291), (5, .int x5_lp291), (3, .int x3_lp291), (0, .ref (g 4)), (1, .int p0), (2, .int p1)]) hx hb dX9_gapsAhead_98 hl (by decide) rfl (fun ls hl => ?_)
                  obtain ⟨z334, e335⟩ : ∃ y : Int32, y = x6_lp291 + 1 := ⟨_, rfl⟩
                  try (have t336 := tadd e335 rfl (b := 1) (by decide) (by omega))
                  refine lv_iinc (v := z334) (lv' := [(6, .int z334), (4, .int z331), (5, .int x5_lp291), (3, .int x3_lp291), (0, .ref (g 4)), (1, .int p0), (2, .int p1)]) hx hb dX9_gapsAhead_100 hl (k := 1) rfl (by rw [e335]; rfl) (by decide) rfl (fun ls hl => ?_)
                  refine lv_goto (tgt := 16) hx hb dX9_gapsAhead_103 (by decide) ?_
                  exact ih_lp291 z334 x5_lp291 z331 x3_lp291  _ _ _ (by omega) (by omega) (by omega) (by omega) hP hS (lv_sub hl [0, 2, 1, 3, 4, 5, 6] rfl)
                · skip
                  have t337 := cv_ne (a := x5_lp291.toInt) rfl (b := 0) (by decide) c329
                  refine lv_aload_n hx hb dX9_gapsAhead_72 rfl (lv_at hl 4 rfl) ?_
                  refine va_get (D := (dC, dI)) (ci := 9) (v := .ref (g 31)) (C := RX9) (T := TX9) (N := 11) hx hb hwd inA_X9 hown hK hP 4 rfl rfl 3 (by decide) (hwd _ wk_22) (fun _ h9 => h9) rfl dX9_gapsAhead_73 ?_
                  refine lv_iload hx hb dX9_gapsAhead_76 (lv_at hl 2 rfl) ?_
                  refine va_iald hx hb hK hP 31 19 rfl rfl (i := x4_lp291) (vin (a := x4_lp291.toInt) rfl (by omega)) dX9_gapsAhead_78 ?_
                  refine lv_topi (fun z338 e339 => ?_)
                  refine lv_aload_n hx hb dX9_gapsAhead_79 rfl (lv_at hl 4 rfl) ?_
                  refine va_get (D := (dC, dI)) (ci := 9) (v := .ref (g 31)) (C := RX9) (T := TX9) (N := 11) hx hb hwd inA_X9 hown hK hP 4 rfl rfl 3 (by decide) (hwd _ wk_22) (fun _ h9 => h9) rfl dX9_gapsAhead_80 ?_
                  refine lv_iload_n hx hb dX9_gapsAhead_83 rfl (lv_at hl 6 rfl) ?_
                  refine va_iald hx hb hK hP 31 19 rfl rfl (i := p1) (vin (a := p1.toInt) rfl (by omega)) dX9_gapsAhead_84 ?_
                  refine lv_topi (fun z340 e341 => ?_)
                  refine lv_icmp_ne (tgt := 91) hx hb dX9_gapsAhead_85 (by decide) (fun c342 => ?_) (fun c342 => ?_)
                  · skip
                    have t343 := cv_ne (a := z338.toInt) rfl (b := z340.toInt) rfl c342
                    refine lv_aload_n hx hb dX9_gapsAhead_91 rfl (lv_at hl 4 rfl) ?_
                    refine va_get (D := (dC, dI)) (ci := 9) (v := .ref (g 37)) (C := RX9) (T := TX9) (N := 11) hx hb hwd inA_X9 hown hK hP 4 rfl rfl 9 (by decide) (hwd _ wk_35) (fun _ h9 => h9) rfl dX9_gapsAhead_92 ?_
                    refine lv_iload hx hb dX9_gapsAhead_95 (lv_at hl 2 rfl) ?_
                    refine va_iald hx hb hK hP 37 25 rfl rfl (i := x4_lp291) (vin (a := x4_lp291.toInt) rfl (by omega)) dX9_gapsAhead_97 ?_
                    refine lv_topi (fun z344 e345 => ?_)
                    have t346 : -1 ≤ z344.toInt ∧ z344.toInt ≤ 499 := by rw [e345]; exact hI.2 37 _ _ rfl _
                    refine lv_istore (lv' := [(4, .int z344), (6, .int x6_lp291), (5, .int x5_lp291), (3, .int x3_lp291), (0, .ref (g 4)), (1, .int p0), (2, .int p1)]) hx hb dX9_gapsAhead_98 hl (by decide) rfl (fun ls hl => ?_)
                    obtain ⟨z347, e348⟩ : ∃ y : Int32, y = x6_lp291 + 1 := ⟨_, rfl⟩
                    try (have t349 := tadd e348 rfl (b := 1) (by decide) (by omega))
                    refine lv_iinc (v := z347) (lv' := [(6, .int z347), (4, .int z344), (5, .int x5_lp291), (3, .int x3_lp291), (0, .ref (g 4)), (1, .int p0), (2, .int p1)]) hx hb dX9_gapsAhead_100 hl (k := 1) rfl (by rw [e348]; rfl) (by decide) rfl (fun ls hl => ?_)
                    refine lv_goto (tgt := 16) hx hb dX9_gapsAhead_103 (by decide) ?_
                    exact ih_lp291 z347 x5_lp291 z344 x3_lp291  _ _ _ (by omega) (by omega) (by omega) (by omega) hP hS (lv_sub hl [0, 2, 1, 3, 4, 5, 6] rfl)
                  · skip
                    have t350 := cv_eq (a := z338.toInt) rfl (b := z340.toInt) rfl c342
                    obtain ⟨z351, e352⟩ : ∃ y : Int32, y = x3_lp291 + 1 := ⟨_, rfl⟩
                    try (have t353 := tadd e352 rfl (b := 1) (by decide) (by omega))
                    refine lv_iinc (v := z351) (lv' := [(3, .int z351), (6, .int x6_lp291), (5, .int x5_lp291), (4, .int x4_lp291), (0, .ref (g 4)), (1, .int p0), (2, .int p1)]) hx hb dX9_gapsAhead_88 hl (k := 3) rfl (by rw [e352]; rfl) (by decide) rfl (fun ls hl => ?_)
                    refine lv_aload_n hx hb dX9_gapsAhead_91 rfl (lv_at hl 4 rfl) ?_
                    refine va_get (D := (dC, dI)) (ci := 9) (v := .ref (g 37)) (C := RX9) (T := TX9) (N := 11) hx hb hwd inA_X9 hown hK hP 4 rfl rfl 9 (by decide) (hwd _ wk_35) (fun _ h9 => h9) rfl dX9_gapsAhead_92 ?_
                    refine lv_iload hx hb dX9_gapsAhead_95 (lv_at hl 3 rfl) ?_
                    refine va_iald hx hb hK hP 37 25 rfl rfl (i := x4_lp291) (vin (a := x4_lp291.toInt) rfl (by omega)) dX9_gapsAhead_97 ?_
                    refine lv_topi (fun z354 e355 => ?_)
                    have t356 : -1 ≤ z354.toInt ∧ z354.toInt ≤ 499 := by rw [e355]; exact hI.2 37 _ _ rfl _
                    refine lv_istore (lv' := [(4, .int z354), (3, .int z351), (6, .int x6_lp291), (5, .int x5_lp291), (0, .ref (g 4)), (1, .int p0), (2, .int p1)]) hx hb dX9_gapsAhead_98 hl (by decide) rfl (fun ls hl => ?_)
                    obtain ⟨z357, e358⟩ : ∃ y : Int32, y = x6_lp291 + 1 := ⟨_, rfl⟩
                    try (have t359 := tadd e358 rfl (b := 1) (by decide) (by omega))
                    refine lv_iinc (v := z357) (lv' := [(6, .int z357), (4, .int z354), (3, .int z351), (5, .int x5_lp291), (0, .ref (g 4)), (1, .int p0), (2, .int p1)]) hx hb dX9_gapsAhead_100 hl (k := 2) rfl (by rw [e358]; rfl) (by decide) rfl (fun ls hl => ?_)
                    refine lv_goto (tgt := 16) hx hb dX9_gapsAhead_103 (by decide) ?_
                    exact ih_lp291 z357 x5_lp291 z354 z351  _ _ _ (by omega) (by omega) (by omega) (by omega) hP hS (lv_sub hl [0, 3, 1, 2, 4, 5, 6] rfl)
          · skip
            have t360 := cv_eq (a := x4_lp291.toInt) rfl (b := p1.toInt) rfl c301
            refine lv_iconst (v := 0) hx hb dX9_gapsAhead_36 (by decide) ?_
            refine lv_istore (lv' := [(5, .int 0), (6, .int x6_lp291), (4, .int x4_lp291), (3, .int x3_lp291), (0, .ref (g 4)), (1, .int p0), (2, .int p1)]) hx hb dX9_gapsAhead_37 hl (by decide) rfl (fun ls hl => ?_)
            refine lv_goto (tgt := 91) hx hb dX9_gapsAhead_39 (by decide) ?_
            refine lv_aload_n hx hb dX9_gapsAhead_91 rfl (lv_at hl 4 rfl) ?_
            refine va_get (D := (dC, dI)) (ci := 9) (v := .ref (g 37)) (C := RX9) (T := TX9) (N := 11) hx hb hwd inA_X9 hown hK hP 4 rfl rfl 9 (by decide) (hwd _ wk_35) (fun _ h9 => h9) rfl dX9_gapsAhead_92 ?_
            refine lv_iload hx hb dX9_gapsAhead_95 (lv_at hl 2 rfl) ?_
            refine va_iald hx hb hK hP 37 25 rfl rfl (i := x4_lp291) (vin (a := x4_lp291.toInt) rfl (by omega)) dX9_gapsAhead_97 ?_
            refine lv_topi (fun z361 e362 => ?_)
            have t363 : -1 ≤ z361.toInt ∧ z361.toInt ≤ 499 := by rw [e362]; exact hI.2 37 _ _ rfl _
            refine lv_istore (lv' := [(4, .int z361), (5, .int 0), (6, .int x6_lp291), (3, .int x3_lp291), (0, .ref (g 4)), (1, .int p0), (2, .int p1)]) hx hb dX9_gapsAhead_98 hl (by decide) rfl (fun ls hl => ?_)
            obtain ⟨z364, e365⟩ : ∃ y : Int32, y = x6_lp291 + 1 := ⟨_, rfl⟩
            try (have t366 := tadd e365 rfl (b := 1) (by decide) (by omega))
            refine lv_iinc (v := z364) (lv' := [(6, .int z364), (4, .int z361), (5, .int 0), (3, .int x3_lp291), (0, .ref (g 4)), (1, .int p0), (2, .int p1)]) hx hb dX9_gapsAhead_100 hl (k := 2) rfl (by rw [e365]; rfl) (by decide) rfl (fun ls hl => ?_)
            refine lv_goto (tgt := 16) hx hb dX9_gapsAhead_103 (by decide) ?_
            exact ih_lp291 z364 0 z361 x3_lp291  _ _ _ (by have : (0 : Int32).toInt = 0 := (by decide); omega) (by have : (0 : Int32).toInt = 0 := (by decide); omega) (by have : (0 : Int32).toInt = 0 := (by decide); omega) (by have : (0 : Int32).toInt = 0 := (by decide); omega) hP hS (lv_sub hl [0, 2, 1, 3, 4, 5, 6] rfl)
  obtain ⟨n9, hn9⟩ : ∃ n : Nat, 2147483648 - 0 ≤ (n : Int) := ⟨((2147483648 - 0 : Int)).toNat, by omega⟩
  exact lp291 n9 0 1 z288 0  H _ ls (by have : (0 : Int32).toInt = 0 := (by decide); have : (1 : Int32).toInt = 1 := (by decide); have : (0 : Int32).toInt = 0 := (by decide); omega) (by have : (0 : Int32).toInt = 0 := (by decide); have : (1 : Int32).toInt = 1 := (by decide); have : (0 : Int32).toInt = 0 := (by decide); omega) (by have : (0 : Int32).toInt = 0 := (by decide); have : (1 : Int32).toInt = 1 := (by decide); have : (0 : Int32).toInt = 0 := (by decide); omega) (by have : (0 : Int32).toInt = 0 := (by decide); have : (1 : Int32).toInt = 1 := (by decide); have : (0 : Int32).toInt = 0 := (by decide); omega) hP hS hl
set_option maxHeartbeats 8000000 in
set_option maxRecDepth 100000 in
theorem c_X9_lastDay (l : Launch) (dC : Nat → ClassId) (dI : Nat → Nat → Nat) (g : Nat → Nat) (c : Nat → ClassId) (adK adV : Nat → Nat) (v : Nat → Int32) (F : Nat → Nat → Int32) (rc sz : Nat) (p0 : Int32) (p1 : Int32) (hg : injX g) (hI : IX v F) (h0 : 0 ≤ p0.toInt ∧ p0.toInt ≤ 499) : Met l yX9_lastDay (Cond.code yX9_lastDay cX9_lastDay 3 (some .int) :: wA) ({ frames := 2, cells := 0, slots := 0, locals := 80 }) (va_Pc [.ref (g 4), .int p0, .int p1] (PX dC dI g c adK adV v F rc sz)) (va_Qi (fun (r : Int32) (u : Unit) => True) (fun (_ : Unit) => BX dC dI g c (v, F, rc)) (AX g sz)) 0 0 (AX g sz) := by
  refine Met.ofW (cc := cX9_lastDay) (maxL := 3) (ret := (some .int)) (by decide) rfl ?_
  intro p e s m args below meth c0 s₁ B hml hv
  obtain ⟨rfl, hsz, hP, hK, hE⟩ := hv
  have hx := B.exec
  have hb := B.bytes
  have hr := B.returns
  have hts := atoms_spec (ws := Cond.code yX9_lastDay cX9_lastDay 3 (some .int) :: wA) B.pre
  have hwd : ∀ w ∈ wA, w.before _ s = true := fun w h => hts w (List.mem_cons_of_mem _ h)
  have hown : s.vm.findClass RX9 = some m.cls := findClass_of_methodNamed B.named
  have hlocks := B.notSynchronized
  subst hsz
  have hl := lv_entry ([.ref (g 4), .int p0, .int p1]) (n := 3) (Nat.le_of_ble_eq_true rfl)
  rw [lg_entry_eq]
  generalize (lg_sl ([.ref (g 4), .int p0, .int p1]) ++ List.replicate (3 - (lg_sl ([.ref (g 4), .int p0, .int p1])).length) Slot.unset).toArray = ls at hl ⊢
  have hl : lv_has ls 3 [(0, .ref (g 4)), (1, .int p0), (2, .int p1)] := hl
  obtain ⟨H, eH⟩ : ∃ z, z = s.heap := ⟨_, rfl⟩
  have hP : va_P (dC, dI) classes (wX g c v F rc) H := by rw [eH]; exact hP
  have hS : va_S (AX g s.heap.size) s.heap H [] := by rw [eH]; exact va_S.rf
  refine my_heap eH ?_
  have rp0 := i32_rng p0
  have rp1 := i32_rng p1
  refine lv_aload_n hx hb dX9_lastDay_0 rfl (lv_at hl 0 rfl) ?_
  refine lv_iload_n hx hb dX9_lastDay_1 rfl (lv_at hl 1 rfl) ?_
  refine va_calli (va_runV (As := [.int p0]) (rest := []) ⟨hx, hb, hml, hown, hwd⟩ (c_X9_goesOn l dC dI g c adK adV v F rc H.size p0 hg hI (by omega)) (cwV 1 hwd (gV wk_24 wk_25 wk_26 wk_27 wk_28) rfl rfl rfl (by decide +kernel) ⟨Nat.le_of_ble_eq_true rfl, Nat.le_of_ble_eq_true rfl⟩) ⟨PX.blind, va_recv hK hP (ci := 9) (q0 := 4) rfl rfl, fun U hU hW => ⟨rfl, PX.at hK hE hP hS hU hW⟩⟩ rfl rfl hl.1 rfl (lv_room (Nat.le_of_ble_eq_true rfl)) dX9_lastDay_2 ⟨Nat.le_of_ble_eq_true rfl, Nat.le_of_ble_eq_true rfl⟩) hS (fun q _ h => (freeX hS) q h) (freeX hS) (fun r367 u t H1 locs ht hvm hw hB hz1 hk1 hS => ?_)
  unfold BX at hB
  rw [ht] at hB
  have hP : va_P (dC, dI) classes (wX g c v F rc) H1 := hB
  have hw : 0 ≤ r367.toInt ∧ r367.toInt ≤ 1 := hw
  generalize H1 = H at hP hS ⊢
  have hw_r367 := hw
  refine lv_if_eq (tgt := 12) hx hb dX9_lastDay_5 (by decide) (fun c368 => ?_) (fun c368 => ?_)
  · skip
    have t369 := cv_eq (a := r367.toInt) rfl (b := 0) (by decide) c368
    refine lv_aload_n hx hb dX9_lastDay_12 rfl (lv_at hl 0 rfl) ?_
    refine va_get (D := (dC, dI)) (ci := 9) (v := .ref (g 31)) (C := RX9) (T := TX9) (N := 11) hx hb hwd inA_X9 hown hK hP 4 rfl rfl 3 (by decide) (hwd _ wk_22) (fun _ h9 => h9) rfl dX9_lastDay_13 ?_
    refine lv_iload_n hx hb dX9_lastDay_16 rfl (lv_at hl 1 rfl) ?_
    refine va_iald hx hb hK hP 31 19 rfl rfl (i := p0) (vin (a := p0.toInt) rfl (by omega)) dX9_lastDay_17 ?_
    refine lv_topi (fun z370 e371 => ?_)
    have hP9 : va_P (dC, dI) classes (wX g c v F rc) H := hP
    exact W.iret (v := z370) hx hb hr (fun t ht hW => ⟨⟨z370, (), rfl, trivial, (by show va_P _ _ _ t.heap; rw [ht]; exact hP9)⟩, hS.F ht⟩) hS.2.2 dX9_lastDay_18
  · skip
    have t372 := cv_ne (a := r367.toInt) rfl (b := 0) (by decide) c368
    refine lv_iload_n hx hb dX9_lastDay_8 rfl (lv_at hl 2 rfl) ?_
    refine lv_goto (tgt := 18) hx hb dX9_lastDay_9 (by decide) ?_
    have hP9 : va_P (dC, dI) classes (wX g c v F rc) H := hP
    exact W.iret (v := p1) hx hb hr (fun t ht hW => ⟨⟨p1, (), rfl, trivial, (by show va_P _ _ _ t.heap; rw [ht]; exact hP9)⟩, hS.F ht⟩) hS.2.2 dX9_lastDay_18
set_option maxHeartbeats 8000000 in
set_option maxRecDepth 100000 in
theorem c_X9_overlap (l : Launch) (dC : Nat → ClassId) (dI : Nat → Nat → Nat) (g : Nat → Nat) (c : Nat → ClassId) (adK adV : Nat → Nat) (v : Nat → Int32) (F : Nat → Nat → Int32) (rc sz : Nat) (p0 : Int32) (p1 : Int32) (hg : injX g) (hI : IX v F) (h0 : 0 ≤ p0.toInt ∧ p0.toInt ≤ 99) : Met l yX9_overlap (Cond.code yX9_overlap cX9_overlap 7 (some .boolean) :: wA) ({ frames := 3, cells := 0, slots := 0, locals := 120 }) (va_Pc [.ref (g 4), .int p0, .int p1] (PX dC dI g c adK adV v F rc sz)) (va_Qi (fun (r : Int32) (u : Unit) => 0 ≤ r.toInt ∧ r.toInt ≤ 1) (fun (_ : Unit) => BX dC dI g c (v, F, rc)) (AX g sz)) 0 0 (AX g sz) := by
  refine Met.ofW (cc := cX9_overlap) (maxL := 7) (ret := (some .boolean)) (by decide) rfl ?_
  intro p e s m args below meth c0 s₁ B hml hv
  obtain ⟨rfl, hsz, hP, hK, hE⟩ := hv
  have hx := B.exec
  have hb := B.bytes
  have hr := B.returns
  have hts := atoms_spec (ws := Cond.code yX9_overlap cX9_overlap 7 (some .boolean) :: wA) B.pre
  have hwd : ∀ w ∈ wA, w.before _ s = true := fun w h => hts w (List.mem_cons_of_mem _ h)
  have hown : s.vm.findClass RX9 = some m.cls := findClass_of_methodNamed B.named
  have hlocks := B.notSynchronized
  subst hsz
  have hl := lv_entry ([.ref (g 4), .int p0, .int p1]) (n := 7) (Nat.le_of_ble_eq_true rfl)
  rw [lg_entry_eq]
  generalize (lg_sl ([.ref (g 4), .int p0, .int p1]) ++ List.replicate (7 - (lg_sl ([.ref (g 4), .int p0, .int p1])).length) Slot.unset).toArray = ls at hl ⊢
  have hl : lv_has ls 7 [(0, .ref (g 4)), (1, .int p0), (2, .int p1)] := hl
  obtain ⟨H, eH⟩ : ∃ z, z = s.heap := ⟨_, rfl⟩
  have hP : va_P (dC, dI) classes (wX g c v F rc) H := by rw [eH]; exact hP
  have hS : va_S (AX g s.heap.size) s.heap H [] := by rw [eH]; exact va_S.rf
  refine my_heap eH ?_
  have rp0 := i32_rng p0
  have rp1 := i32_rng p1
  refine lv_aload_n hx hb dX9_overlap_0 rfl (lv_at hl 0 rfl) ?_
  refine va_get (D := (dC, dI)) (ci := 9) (v := .ref (g 38)) (C := RX9) (T := TX9) (N := 11) hx hb hwd inA_X9 hown hK hP 4 rfl rfl 10 (by decide) (hwd _ wk_34) (fun _ h9 => h9) rfl dX9_overlap_1 ?_
  refine lv_iload_n hx hb dX9_overlap_4 rfl (lv_at hl 1 rfl) ?_
  refine va_iald hx hb hK hP 38 26 rfl rfl (i := p0) (vin (a := p0.toInt) rfl (by omega)) dX9_overlap_5 ?_
  refine lv_topi (fun z373 e374 => ?_)
  have t375 : -1 ≤ z373.toInt ∧ z373.toInt ≤ 499 := by rw [e374]; exact hI.2 38 _ _ rfl _
  refine lv_istore_n (lv' := [(3, .int z373), (0, .ref (g 4)), (1, .int p0), (2, .int p1)]) hx hb dX9_overlap_6 rfl hl (by decide) rfl (fun ls hl => ?_)
  refine lv_iconst (v := 0) hx hb dX9_overlap_7 (by decide) ?_
  refine lv_istore (lv' := [(4, .int 0), (3, .int z373), (0, .ref (g 4)), (1, .int p0), (2, .int p1)]) hx hb dX9_overlap_8 hl (by decide) rfl (fun ls hl => ?_)
  have lp376 : ∀ (n : Nat) (x4_lp376 : Int32) (x3_lp376 : Int32) (H : Heap) (locs : List Loc) (ls : Array Slot), (0 ≤ x4_lp376.toInt) → (-1 ≤ x3_lp376.toInt) → (x3_lp376.toInt ≤ 499) → (2147483648 - x4_lp376.toInt ≤ (n : Int)) → va_P (dC, dI) classes (wX g c v F rc) H → va_S (AX g s.heap.size) s.heap H locs → lv_has ls 7 [(4, .int x4_lp376), (3, .int x3_lp376), (0, .ref (g 4)), (1, .int p0), (2, .int p1)] → W p l e (headSpec (Cond.code yX9_overlap cX9_overlap 7 (some .boolean) :: wA) ({ frames := 3, cells := 0, slots := 0, locals := 120 })).room s m ([.ref (g 4), .int p0, .int p1] : List Value).toArray below meth c0 H locs 0 0 (MQ below (va_Qi (fun (r : Int32) (u : Unit) => 0 ≤ r.toInt ∧ r.toInt ≤ 1) (fun (_ : Unit) => BX dC dI g c (v, F, rc)) (AX g s.heap.size)) ([.ref (g 4), .int p0, .int p1] : List Value).toArray s 0 0 (AX g s.heap.size)) (F0 m 10 ls []) := by
    intro n
    induction n with
    | zero =>
      intro x4_lp376 x3_lp376 H locs ls t377 t378 t379 hm hP hS hl
      exfalso
      have := i32_rng x4_lp376
      have := i32_rng x3_lp376
      omega
    | succ n ih_lp376 =>
      intro x4_lp376 x3_lp376 H locs ls t377 t378 t379 hm hP hS hl
      have rx4_lp376 := i32_rng x4_lp376
      have rx3_lp376 := i32_rng x3_lp376
      refine lv_iload hx hb dX9_overlap_10 (lv_at hl 0 rfl) ?_
      refine lv_sipush (v := 500) hx hb dX9_overlap_12 (by decide) ?_
      refine lv_icmp_ge (tgt := 126) hx hb dX9_overlap_15 (by decide) (fun c380 => ?_) (fun c380 => ?_)
      · skip
        have t381 := cv_le (a := 500) (by decide) (b := x4_lp376.toInt) rfl c380
        refine lv_iconst (v := 0) hx hb dX9_overlap_126 (by decide) ?_
        have hP9 : va_P (dC, dI) classes (wX g c v F rc) H := hP
        exact W.zret (v := 0) hx hb hr (rfl) (fun t ht hW => ⟨⟨0, (), rfl, by have : (0 : Int32).toInt = 0 := (by decide); omega, (by show va_P _ _ _ t.heap; rw [ht]; exact hP9)⟩, hS.F ht⟩) hS.2.2 dX9_overlap_127
      · skip
        have t382 := cv_nle (a := 500) (by decide) (b := x4_lp376.toInt) rfl c380
        refine lv_iload_n hx hb dX9_overlap_18 rfl (lv_at hl 1 rfl) ?_
        refine lv_iconst (v := (-1)) hx hb dX9_overlap_19 (by decide) ?_
        refine lv_icmp_eq (tgt := 126) hx hb dX9_overlap_20 (by decide) (fun c383 => ?_) (fun c383 => ?_)
        · skip
          have t384 := cv_eq (a := x3_lp376.toInt) rfl (b := (-1)) (by decide) c383
          refine lv_iconst (v := 0) hx hb dX9_overlap_126 (by decide) ?_
          have hP9 : va_P (dC, dI) classes (wX g c v F rc) H := hP
          exact W.zret (v := 0) hx hb hr (rfl) (fun t ht hW => ⟨⟨0, (), rfl, by have : (0 : Int32).toInt = 0 := (by decide); omega, (by show va_P _ _ _ t.heap; rw [ht]; exact hP9)⟩, hS.F ht⟩) hS.2.2 dX9_overlap_127
        · skip
          have t385 := cv_ne (a := x3_lp376.toInt) rfl (b := (-1)) (by decide) c383
          refine lv_aload_n hx hb dX9_overlap_23 rfl (lv_at hl 2 rfl) ?_
          refine va_get (D := (dC, dI)) (ci := 9) (v := .ref (g 37)) (C := RX9) (T := TX9) (N := 11) hx hb hwd inA_X9 hown hK hP 4 rfl rfl 9 (by decide) (hwd _ wk_35) (fun _ h9 => h9) rfl dX9_overlap_24 ?_
          refine lv_iload_n hx hb dX9_overlap_27 rfl (lv_at hl 1 rfl) ?_
          refine va_iald hx hb hK hP 37 25 rfl rfl (i := x3_lp376) (vin (a := x3_lp376.toInt) rfl (by omega)) dX9_overlap_28 ?_
          refine lv_topi (fun z386 e387 => ?_)
          have t388 : -1 ≤ z386.toInt ∧ z386.toInt ≤ 499 := by rw [e387]; exact hI.2 37 _ _ rfl _
          refine lv_istore (lv' := [(5, .int z386), (4, .int x4_lp376), (3, .int x3_lp376), (0, .ref (g 4)), (1, .int p0), (2, .int p1)]) hx hb dX9_overlap_29 hl (by decide) rfl (fun ls hl => ?_)
          refine lv_iconst (v := 0) hx hb dX9_overlap_31 (by decide) ?_
          refine lv_istore (lv' := [(6, .int 0), (5, .int z386), (4, .int x4_lp376), (3, .int x3_lp376), (0, .ref (g 4)), (1, .int p0), (2, .int p1)]) hx hb dX9_overlap_32 hl (by decide) rfl (fun ls hl => ?_)
          have lp389 : ∀ (n : Nat) (x6_lp389 : Int32) (x5_lp389 : Int32) (H : Heap) (locs : List Loc) (ls : Array Slot), (0 ≤ x6_lp389.toInt) → (-1 ≤ x5_lp389.toInt) → (x5_lp389.toInt ≤ 499) → (2147483648 - x6_lp389.toInt ≤ (n : Int)) → va_P (dC, dI) classes (wX g c v F rc) H → va_S (AX g s.heap.size) s.heap H locs → lv_has ls 7 [(6, .int x6_lp389), (5, .int x5_lp389), (4, .int x4_lp376), (3, .int x3_lp376), (0, .ref (g 4)), (1, .int p0), (2, .int p1)] → W p l e (headSpec (Cond.code yX9_overlap cX9_overlap 7 (some .boolean) :: wA) ({ frames := 3, cells := 0, slots := 0, locals := 120 })).room s m ([.ref (g 4), .int p0, .int p1] : List Value).toArray below meth c0 H locs 0 0 (MQ below (va_Qi (fun (r : Int32) (u : Unit) => 0 ≤ r.toInt ∧ r.toInt ≤ 1) (fun (_ : Unit) => BX dC dI g c (v, F, rc)) (AX g s.heap.size)) ([.ref (g 4), .int p0, .int p1] : List Value).toArray s 0 0 (AX g s.heap.size)) (F0 m 34 ls []) := by
            intro n
            induction n with
            | zero =>
              intro x6_lp389 x5_lp389 H locs ls t390 t391 t392 hm hP hS hl
              exfalso
              have := i32_rng x6_lp389
              have := i32_rng x5_lp389
              omega
            | succ n ih_lp389 =>
              intro x6_lp389 x5_lp389 H locs ls t390 t391 t392 hm hP hS hl
              have rx6_lp389 := i32_rng x6_lp389
              have rx5_lp389 := i32_rng x5_lp389
              refine lv_iload hx hb dX9_overlap_34 (lv_at hl 0 rfl) ?_
              refine lv_sipush (v := 500) hx hb dX9_overlap_36 (by decide) ?_
              refine lv_icmp_ge (tgt := 113) hx hb dX9_overlap_39 (by decide) (fun c393 => ?_) (fun c393 => ?_)
              · skip
                have t394 := cv_le (a := 500) (by decide) (b := x6_lp389.toInt) rfl c393
                refine lv_aload_n hx hb dX9_overlap_113 rfl (lv_at hl 4 rfl) ?_
                refine va_get (D := (dC, dI)) (ci := 9) (v := .ref (g 37)) (C := RX9) (T := TX9) (N := 11) hx hb hwd inA_X9 hown hK hP 4 rfl rfl 9 (by decide) (hwd _ wk_35) (fun _ h9 => h9) rfl dX9_overlap_114 ?_
                refine lv_iload_n hx hb dX9_overlap_117 rfl (lv_at hl 3 rfl) ?_
                refine va_iald hx hb hK hP 37 25 rfl rfl (i := x3_lp376) (vin (a := x3_lp376.toInt) rfl (by omega)) dX9_overlap_118 ?_
                refine lv_topi (fun z395 e396 => ?_)
                have t397 : -1 ≤ z395.toInt ∧ z395.toInt ≤ 499 := by rw [e396]; exact hI.2 37 _ _ rfl _
                refine lv_istore_n (lv' := [(3, .int z395), (6, .int x6_lp389), (5, .int x5_lp389), (4, .int x4_lp376), (0, .ref (g 4)), (1, .int p0), (2, .int p1)]) hx hb dX9_overlap_119 rfl hl (by decide) rfl (fun ls hl => ?_)
                obtain ⟨z398, e399⟩ : ∃ y : Int32, y = x4_lp376 + 1 := ⟨_, rfl⟩
                try (have t400 := tadd e399 rfl (b := 1) (by decide) (by omega))
                refine lv_iinc (v := z398) (lv' := [(4, .int z398), (3, .int z395), (6, .int x6_lp389), (5, .int x5_lp389), (0, .ref (g 4)), (1, .int p0), (2, .int p1)]) hx hb dX9_overlap_120 hl (k := 3) rfl (by rw [e399]; rfl) (by decide) rfl (fun ls hl => ?_)
                refine lv_goto (tgt := 10) hx hb dX9_overlap_123 (by decide) ?_
                exact ih_lp376 z398 z395  _ _ _ (by omega) (by omega) (by omega) (by omega) hP hS (lv_sub hl [0, 1, 4, 5, 6] rfl)
              · skip
                have t401 := cv_nle (a := 500) (by decide) (b := x6_lp389.toInt) rfl c393
                refine lv_iload hx hb dX9_overlap_42 (lv_at hl 1 rfl) ?_
                refine lv_iconst (v := (-1)) hx hb dX9_overlap_44 (by decide) ?_
                refine lv_icmp_eq (tgt := 113) hx hb dX9_overlap_45 (by decide) (fun c402 => ?_) (fun c402 => ?_)
                · skip
                  have t403 := cv_eq (a := x5_lp389.toInt) rfl (b := (-1)) (by decide) c402
                  refine lv_aload_n hx hb dX9_overlap_113 rfl (lv_at hl 4 rfl) ?_
                  refine va_get (D := (dC, dI)) (ci := 9) (v := .ref (g 37)) (C := RX9) (T := TX9) (N := 11) hx hb hwd inA_X9 hown hK hP 4 rfl rfl 9 (by decide) (hwd _ wk_35) (fun _ h9 => h9) rfl dX9_overlap_114 ?_
                  refine lv_iload_n hx hb dX9_overlap_117 rfl (lv_at hl 3 rfl) ?_
                  refine va_iald hx hb hK hP 37 25 rfl rfl (i := x3_lp376) (vin (a := x3_lp376.toInt) rfl (by omega)) dX9_overlap_118 ?_
                  refine lv_topi (fun z404 e405 => ?_)
                  have t406 : -1 ≤ z404.toInt ∧ z404.toInt ≤ 499 := by rw [e405]; exact hI.2 37 _ _ rfl _
                  refine lv_istore_n (lv' := [(3, .int z404), (6, .int x6_lp389), (5, .int x5_lp389), (4, .int x4_lp376), (0, .ref (g 4)), (1, .int p0), (2, .int p1)]) hx hb dX9_overlap_119 rfl hl (by decide) rfl (fun ls hl => ?_)
                  obtain ⟨z407, e408⟩ : ∃ y : Int32, y = x4_lp376 + 1 := ⟨_, rfl⟩
                  try (have t409 := tadd e408 rfl (b := 1) (by decide) (by omega))
                  refine lv_iinc (v := z407) (lv' := [(4, .int z407), (3, .int z404), (6, .int x6_lp389), (5, .int x5_lp389), (0, .ref (g 4)), (1, .int p0), (2, .int p1)]) hx hb dX9_overlap_120 hl (k := 3) rfl (by rw [e408]; rfl) (by decide) rfl (fun ls hl => ?_)
                  refine lv_goto (tgt := 10) hx hb dX9_overlap_123 (by decide) ?_
                  exact ih_lp376 z407 z404  _ _ _ (by omega) (by omega) (by omega) (by omega) hP hS (lv_sub hl [0, 1, 4, 5, 6] rfl)
                · skip
                  have t410 := cv_ne (a := x5_lp389.toInt) rfl (b := (-1)) (by decide) c402
                  refine lv_aload_n hx hb dX9_overlap_48 rfl (lv_at hl 4 rfl) ?_
                  refine va_get (D := (dC, dI)) (ci := 9) (v := .ref (g 29)) (C := RX9) (T := TX9) (N := 11) hx hb hwd inA_X9 hown hK hP 4 rfl rfl 1 (by decide) (hwd _ wk_40) (fun _ h9 => h9) rfl dX9_overlap_49 ?_
                  refine lv_iload_n hx hb dX9_overlap_52 rfl (lv_at hl 3 rfl) ?_
                  refine va_iald hx hb hK hP 29 17 rfl rfl (i := x3_lp376) (vin (a := x3_lp376.toInt) rfl (by omega)) dX9_overlap_53 ?_
                  refine lv_topi (fun z411 e412 => ?_)
                  refine lv_aload_n hx hb dX9_overlap_54 rfl (lv_at hl 4 rfl) ?_
                  refine va_get (D := (dC, dI)) (ci := 9) (v := .ref (g 29)) (C := RX9) (T := TX9) (N := 11) hx hb hwd inA_X9 hown hK hP 4 rfl rfl 1 (by decide) (hwd _ wk_40) (fun _ h9 => h9) rfl dX9_overlap_55 ?_
                  refine lv_iload hx hb dX9_overlap_58 (lv_at hl 1 rfl) ?_
                  refine va_iald hx hb hK hP 29 17 rfl rfl (i := x5_lp389) (vin (a := x5_lp389.toInt) rfl (by omega)) dX9_overlap_60 ?_
                  refine lv_topi (fun z413 e414 => ?_)
                  refine lv_icmp_eq (tgt := 98) hx hb dX9_overlap_61 (by decide) (fun c415 => ?_) (fun c415 => ?_)
                  · skip
                    have t416 := cv_eq (a := z411.toInt) rfl (b := z413.toInt) rfl c415
                    refine lv_aload_n hx hb dX9_overlap_98 rfl (lv_at hl 4 rfl) ?_
                    refine va_get (D := (dC, dI)) (ci := 9) (v := .ref (g 37)) (C := RX9) (T := TX9) (N := 11) hx hb hwd inA_X9 hown hK hP 4 rfl rfl 9 (by decide) (hwd _ wk_35) (fun _ h9 => h9) rfl dX9_overlap_99 ?_
                    refine lv_iload hx hb dX9_overlap_102 (lv_at hl 1 rfl) ?_
                    refine va_iald hx hb hK hP 37 25 rfl rfl (i := x5_lp389) (vin (a := x5_lp389.toInt) rfl (by omega)) dX9_overlap_104 ?_
                    refine lv_topi (fun z417 e418 => ?_)
                    have t419 : -1 ≤ z417.toInt ∧ z417.toInt ≤ 499 := by rw [e418]; exact hI.2 37 _ _ rfl _
                    refine lv_istore (lv' := [(5, .int z417), (6, .int x6_lp389), (4, .int x4_lp376), (3, .int x3_lp376), (0, .ref (g 4)), (1, .int p0), (2, .int p1)]) hx hb dX9_overlap_105 hl (by decide) rfl (fun ls hl => ?_)
                    obtain ⟨z420, e421⟩ : ∃ y : Int32, y = x6_lp389 + 1 := ⟨_, rfl⟩
                    try (have t422 := tadd e421 rfl (b := 1) (by decide) (by omega))
                    refine lv_iinc (v := z420) (lv' := [(6, .int z420), (5, .int z417), (4, .int x4_lp376), (3, .int x3_lp376), (0, .ref (g 4)), (1, .int p0), (2, .int p1)]) hx hb dX9_overlap_107 hl (k := 1) rfl (by rw [e421]; rfl) (by decide) rfl (fun ls hl => ?_)
                    refine lv_goto (tgt := 34) hx hb dX9_overlap_110 (by decide) ?_
                    exact ih_lp389 z420 z417  _ _ _ (by omega) (by omega) (by omega) (by omega) hP hS (lv_sub hl [0, 1, 2, 3, 4, 5, 6] rfl)
                  · skip
                    have t423 := cv_ne (a := z411.toInt) rfl (b := z413.toInt) rfl c415
                    refine lv_aload_n hx hb dX9_overlap_64 rfl (lv_at hl 4 rfl) ?_
                    refine va_get (D := (dC, dI)) (ci := 9) (v := .ref (g 30)) (C := RX9) (T := TX9) (N := 11) hx hb hwd inA_X9 hown hK hP 4 rfl rfl 2 (by decide) (hwd _ wk_41) (fun _ h9 => h9) rfl dX9_overlap_65 ?_
                    refine lv_iload_n hx hb dX9_overlap_68 rfl (lv_at hl 3 rfl) ?_
                    refine va_iald hx hb hK hP 30 18 rfl rfl (i := x3_lp376) (vin (a := x3_lp376.toInt) rfl (by omega)) dX9_overlap_69 ?_
                    refine lv_topi (fun z424 e425 => ?_)
                    refine lv_aload_n hx hb dX9_overlap_70 rfl (lv_at hl 4 rfl) ?_
                    refine lv_iload hx hb dX9_overlap_71 (lv_at hl 1 rfl) ?_
                    refine lv_iload_n hx hb dX9_overlap_73 rfl (lv_at hl 6 rfl) ?_
                    refine va_calli (va_runV (As := [.int x5_lp389, .int p1]) (rest := [.int z424]) ⟨hx, hb, hml, hown, hwd⟩ (c_X9_lastDay l dC dI g c adK adV v F rc H.size x5_lp389 p1 hg hI (by omega)) (cwV 2 hwd (gV wk_42 wk_43 wk_44 wk_45 wk_28) rfl rfl rfl (by decide +kernel) ⟨Nat.le_of_ble_eq_true rfl, Nat.le_of_ble_eq_true rfl⟩) ⟨PX.blind, va_recv hK hP (ci := 9) (q0 := 4) rfl rfl, fun U hU hW => ⟨rfl, PX.at hK hE hP hS hU hW⟩⟩ rfl rfl hl.1 rfl (lv_room (Nat.le_of_ble_eq_true rfl)) dX9_overlap_74 ⟨Nat.le_of_ble_eq_true rfl, Nat.le_of_ble_eq_true rfl⟩) hS (fun q _ h => (freeX hS) q h) (freeX hS) (fun r426 u t H1 locs ht hvm hw hB hz1 hk1 hS => ?_)
                    unfold BX at hB
                    rw [ht] at hB
                    have hP : va_P (dC, dI) classes (wX g c v F rc) H1 := hB
                    generalize H1 = H at hP hS ⊢
                    refine lv_icmp_ge (tgt := 98) hx hb dX9_overlap_77 (by decide) (fun c427 => ?_) (fun c427 => ?_)
                    · skip
                      have t428 := cv_le (a := r426.toInt) rfl (b := z424.toInt) rfl c427
                      refine lv_aload_n hx hb dX9_overlap_98 rfl (lv_at hl 4 rfl) ?_
                      refine va_get (D := (dC, dI)) (ci := 9) (v := .ref (g 37)) (C := RX9) (T := TX9) (N := 11) hx hb hwd inA_X9 hown hK hP 4 rfl rfl 9 (by decide) (hwd _ wk_35) (fun _ h9 => h9) rfl dX9_overlap_99 ?_
                      refine lv_iload hx hb dX9_overlap_102 (lv_at hl 1 rfl) ?_
                      refine va_iald hx hb hK hP 37 25 rfl rfl (i := x5_lp389) (vin (a := x5_lp389.toInt) rfl (by omega)) dX9_overlap_104 ?_
                      refine lv_topi (fun z429 e430 => ?_)
                      have t431 : -1 ≤ z429.toInt ∧ z429.toInt ≤ 499 := by rw [e430]; exact hI.2 37 _ _ rfl _
                      refine lv_istore (lv' := [(5, .int z429), (6, .int x6_lp389), (4, .int x4_lp376), (3, .int x3_lp376), (0, .ref (g 4)), (1, .int p0), (2, .int p1)]) hx hb dX9_overlap_105 hl (by decide) rfl (fun ls hl => ?_)
                      obtain ⟨z432, e433⟩ : ∃ y : Int32, y = x6_lp389 + 1 := ⟨_, rfl⟩
                      try (have t434 := tadd e433 rfl (b := 1) (by decide) (by omega))
                      refine lv_iinc (v := z432) (lv' := [(6, .int z432), (5, .int z429), (4, .int x4_lp376), (3, .int x3_lp376), (0, .ref (g 4)), (1, .int p0), (2, .int p1)]) hx hb dX9_overlap_107 hl (k := 1) rfl (by rw [e433]; rfl) (by decide) rfl (fun ls hl => ?_)
                      refine lv_goto (tgt := 34) hx hb dX9_overlap_110 (by decide) ?_
                      exact ih_lp389 z432 z429  _ _ _ (by omega) (by omega) (by omega) (by omega) hP hS (lv_sub hl [0, 1, 2, 3, 4, 5, 6] rfl)
                    · skip
                      have t435 := cv_nle (a := r426.toInt) rfl (b := z424.toInt) rfl c427
                      refine lv_aload_n hx hb dX9_overlap_80 rfl (lv_at hl 4 rfl) ?_
                      refine va_get (D := (dC, dI)) (ci := 9) (v := .ref (g 30)) (C := RX9) (T := TX9) (N := 11) hx hb hwd inA_X9 hown hK hP 4 rfl rfl 2 (by decide) (hwd _ wk_41) (fun _ h9 => h9) rfl dX9_overlap_81 ?_
                      refine lv_iload hx hb dX9_overlap_84 (lv_at hl 1 rfl) ?_
                      refine va_iald hx hb hK hP 30 18 rfl rfl (i := x5_lp389) (vin (a := x5_lp389.toInt) rfl (by omega)) dX9_overlap_86 ?_
                      refine lv_topi (fun z436 e437 => ?_)
                      refine lv_aload_n hx hb dX9_overlap_87 rfl (lv_at hl 4 rfl) ?_
                      refine lv_iload_n hx hb dX9_overlap_88 rfl (lv_at hl 3 rfl) ?_
                      refine lv_iload_n hx hb dX9_overlap_89 rfl (lv_at hl 6 rfl) ?_
                      refine va_calli (va_runV (As := [.int x3_lp376, .int p1]) (rest := [.int z436]) ⟨hx, hb, hml, hown, hwd⟩ (c_X9_lastDay l dC dI g c adK adV v F rc H.size x3_lp376 p1 hg hI (by omega)) (cwV 2 hwd (gV wk_42 wk_43 wk_44 wk_45 wk_28) rfl rfl rfl (by decide +kernel) ⟨Nat.le_of_ble_eq_true rfl, Nat.le_of_ble_eq_true rfl⟩) ⟨PX.blind, va_recv hK hP (ci := 9) (q0 := 4) rfl rfl, fun U hU hW => ⟨rfl, PX.at hK hE hP hS hU hW⟩⟩ rfl rfl hl.1 rfl (lv_room (Nat.le_of_ble_eq_true rfl)) dX9_overlap_90 ⟨Nat.le_of_ble_eq_true rfl, Nat.le_of_ble_eq_true rfl⟩) hS (fun q _ h => (freeX hS) q h) (freeX hS) (fun r438 u t H1 locs ht hvm hw hB hz1 hk1 hS => ?_)
                      unfold BX at hB
                      rw [ht] at hB
                      have hP : va_P (dC, dI) classes (wX g c v F rc) H1 := hB
                      generalize H1 = H at hP hS ⊢
                      refine lv_icmp_ge (tgt := 98) hx hb dX9_overlap_93 (by decide) (fun c439 => ?_) (fun c439 => ?_)
                      · skip
                        have t440 := cv_le (a := r438.toInt) rfl (b := z436.toInt) rfl c439
                        refine lv_aload_n hx hb dX9_overlap_98 rfl (lv_at hl 4 rfl) ?_
                        refine va_get (D := (dC, dI)) (ci := 9) (v := .ref (g 37)) (C := RX9) (T := TX9) (N := 11) hx hb hwd inA_X9 hown hK hP 4 rfl rfl 9 (by decide) (hwd _ wk_35) (fun _ h9 => h9) rfl dX9_overlap_99 ?_
                        refine lv_iload hx hb dX9_overlap_102 (lv_at hl 1 rfl) ?_
                        refine va_iald hx hb hK hP 37 25 rfl rfl (i := x5_lp389) (vin (a := x5_lp389.toInt) rfl (by omega)) dX9_overlap_104 ?_
                        refine lv_topi (fun z441 e442 => ?_)
                        have t443 : -1 ≤ z441.toInt ∧ z441.toInt ≤ 499 := by rw [e442]; exact hI.2 37 _ _ rfl _
                        refine lv_istore (lv' := [(5, .int z441), (6, .int x6_lp389), (4, .int x4_lp376), (3, .int x3_lp376), (0, .ref (g 4)), (1, .int p0), (2, .int p1)]) hx hb dX9_overlap_105 hl (by decide) rfl (fun ls hl => ?_)
                        obtain ⟨z444, e445⟩ : ∃ y : Int32, y = x6_lp389 + 1 := ⟨_, rfl⟩
                        try (have t446 := tadd e445 rfl (b := 1) (by decide) (by omega))
                        refine lv_iinc (v := z444) (lv' := [(6, .int z444), (5, .int z441), (4, .int x4_lp376), (3, .int x3_lp376), (0, .ref (g 4)), (1, .int p0), (2, .int p1)]) hx hb dX9_overlap_107 hl (k := 1) rfl (by rw [e445]; rfl) (by decide) rfl (fun ls hl => ?_)
                        refine lv_goto (tgt := 34) hx hb dX9_overlap_110 (by decide) ?_
                        exact ih_lp389 z444 z441  _ _ _ (by omega) (by omega) (by omega) (by omega) hP hS (lv_sub hl [0, 1, 2, 3, 4, 5, 6] rfl)
                      · skip
                        have t447 := cv_nle (a := r438.toInt) rfl (b := z436.toInt) rfl c439
                        refine lv_iconst (v := 1) hx hb dX9_overlap_96 (by decide) ?_
                        have hP9 : va_P (dC, dI) classes (wX g c v F rc) H := hP
                        exact W.zret (v := 1) hx hb hr (rfl) (fun t ht hW => ⟨⟨1, (), rfl, by have : (1 : Int32).toInt = 1 := (by decide); omega, (by show va_P _ _ _ t.heap; rw [ht]; exact hP9)⟩, hS.F ht⟩) hS.2.2 dX9_overlap_97
          obtain ⟨n9, hn9⟩ : ∃ n : Nat, 2147483648 - 0 ≤ (n : Int) := ⟨((2147483648 - 0 : Int)).toNat, by omega⟩
          exact lp389 n9 0 z386  H _ ls (by have : (0 : Int32).toInt = 0 := (by decide); omega) (by have : (0 : Int32).toInt = 0 := (by decide); omega) (by have : (0 : Int32).toInt = 0 := (by decide); omega) (by have : (0 : Int32).toInt = 0 := (by decide); omega) hP hS hl
  obtain ⟨n9, hn9⟩ : ∃ n : Nat, 2147483648 - 0 ≤ (n : Int) := ⟨((2147483648 - 0 : Int)).toNat, by omega⟩
  exact lp376 n9 0 z373  H _ ls (by have : (0 : Int32).toInt = 0 := (by decide); omega) (by have : (0 : Int32).toInt = 0 := (by decide); omega) (by have : (0 : Int32).toInt = 0 := (by decide); omega) (by have : (0 : Int32).toInt = 0 := (by decide); omega) hP hS hl
set_option maxHeartbeats 8000000 in
set_option maxRecDepth 100000 in
theorem c_X9_chain (l : Launch) (dC : Nat → ClassId) (dI : Nat → Nat → Nat) (g : Nat → Nat) (c : Nat → ClassId) (adK adV : Nat → Nat) (v : Nat → Int32) (F : Nat → Nat → Int32) (rc sz : Nat) (p0 : Int32) (p1 : Int32) (hg : injX g) (hI : IX v F) (h0 : 0 ≤ p0.toInt ∧ p0.toInt ≤ 99) (h1 : 0 ≤ p1.toInt ∧ p1.toInt ≤ 499) : Met l yX9_chain (Cond.code yX9_chain cX9_chain 6 none :: wA) ({ frames := 1, cells := 0, slots := 0, locals := 40 }) (va_Pc [.ref (g 4), .int p0, .int p1] (PX dC dI g c adK adV v F rc sz)) (va_Qv (fun (u : StX) => IX u.1 u.2.1 ∧ alX u.1 u.2.1 = alX v F ∧ u.2.2 = rc ∧ (∀ k, k ∉ ([] : List Nat) → u.1 k = v k) ∧ True) (BX dC dI g c) (AX g sz)) 0 0 (AX g sz) := by
  refine Met.ofW (cc := cX9_chain) (maxL := 6) (ret := none) (by decide) rfl ?_
  intro p e s m args below meth c0 s₁ B hml hv
  obtain ⟨rfl, hsz, hP, hK, hE⟩ := hv
  have hx := B.exec
  have hb := B.bytes
  have hr := B.returns
  have hts := atoms_spec (ws := Cond.code yX9_chain cX9_chain 6 none :: wA) B.pre
  have hwd : ∀ w ∈ wA, w.before _ s = true := fun w h => hts w (List.mem_cons_of_mem _ h)
  have hown : s.vm.findClass RX9 = some m.cls := findClass_of_methodNamed B.named
  have hlocks := B.notSynchronized
  subst hsz
  have hl := lv_entry ([.ref (g 4), .int p0, .int p1]) (n := 6) (Nat.le_of_ble_eq_true rfl)
  rw [lg_entry_eq]
  generalize (lg_sl ([.ref (g 4), .int p0, .int p1]) ++ List.replicate (6 - (lg_sl ([.ref (g 4), .int p0, .int p1])).length) Slot.unset).toArray = ls at hl ⊢
  have hl : lv_has ls 6 [(0, .ref (g 4)), (1, .int p0), (2, .int p1)] := hl
  obtain ⟨H, eH⟩ : ∃ z, z = s.heap := ⟨_, rfl⟩
  have hP : va_P (dC, dI) classes (wX g c v F rc) H := by rw [eH]; exact hP
  have hS : va_S (AX g s.heap.size) s.heap H [] := by rw [eH]; exact va_S.rf
  refine my_heap eH ?_
  have hal : alX v F = alX v F := rfl
  have rp0 := i32_rng p0
  have rp1 := i32_rng p1
  refine lv_iconst (v := (-1)) hx hb dX9_chain_0 (by decide) ?_
  refine lv_istore_n (lv' := [(3, .int (-1)), (0, .ref (g 4)), (1, .int p0), (2, .int p1)]) hx hb dX9_chain_1 rfl hl (by decide) rfl (fun ls hl => ?_)
  refine lv_aload_n hx hb dX9_chain_2 rfl (lv_at hl 1 rfl) ?_
  refine va_get (D := (dC, dI)) (ci := 9) (v := .ref (g 38)) (C := RX9) (T := TX9) (N := 11) hx hb hwd inA_X9 hown hK hP 4 rfl rfl 10 (by decide) (hwd _ wk_34) (fun _ h9 => h9) rfl dX9_chain_3 ?_
  refine lv_iload_n hx hb dX9_chain_6 rfl (lv_at hl 2 rfl) ?_
  refine va_iald hx hb hK hP 38 26 rfl rfl (i := p0) (vin (a := p0.toInt) rfl (by omega)) dX9_chain_7 ?_
  refine lv_topi (fun z448 e449 => ?_)
  have t450 : -1 ≤ z448.toInt ∧ z448.toInt ≤ 499 := by rw [e449]; exact hI.2 38 _ _ rfl _
  refine lv_istore (lv' := [(4, .int z448), (3, .int (-1)), (0, .ref (g 4)), (1, .int p0), (2, .int p1)]) hx hb dX9_chain_8 hl (by decide) rfl (fun ls hl => ?_)
  refine lv_iconst (v := 0) hx hb dX9_chain_10 (by decide) ?_
  refine lv_istore (lv' := [(5, .int 0), (4, .int z448), (3, .int (-1)), (0, .ref (g 4)), (1, .int p0), (2, .int p1)]) hx hb dX9_chain_11 hl (by decide) rfl (fun ls hl => ?_)
  have lp451 : ∀ (n : Nat) (x5_lp451 : Int32) (x4_lp451 : Int32) (x3_lp451 : Int32) (v_lp451 : Nat → Int32) (F_lp451 : Nat → Nat → Int32) (H : Heap) (locs : List Loc) (ls : Array Slot), (0 ≤ x5_lp451.toInt) → (-1 ≤ x4_lp451.toInt) → (x4_lp451.toInt ≤ 499) → (-1 ≤ x3_lp451.toInt) → (x3_lp451.toInt ≤ 499) → (2147483648 - x5_lp451.toInt ≤ (n : Int)) → (∀ k, k ∉ ([] : List Nat) → v_lp451 k = v k) → IX v_lp451 F_lp451 → alX v_lp451 F_lp451 = alX v F → va_P (dC, dI) classes (wX g c v_lp451 F_lp451 rc) H → va_S (AX g s.heap.size) s.heap H locs → lv_has ls 6 [(5, .int x5_lp451), (4, .int x4_lp451), (3, .int x3_lp451), (0, .ref (g 4)), (1, .int p0), (2, .int p1)] → W p l e (headSpec (Cond.code yX9_chain cX9_chain 6 none :: wA) ({ frames := 1, cells := 0, slots := 0, locals := 40 })).room s m ([.ref (g 4), .int p0, .int p1] : List Value).toArray below meth c0 H locs 0 0 (MQ below (va_Qv (fun (u : StX) => IX u.1 u.2.1 ∧ alX u.1 u.2.1 = alX v F ∧ u.2.2 = rc ∧ (∀ k, k ∉ ([] : List Nat) → u.1 k = v k) ∧ True) (BX dC dI g c) (AX g s.heap.size)) ([.ref (g 4), .int p0, .int p1] : List Value).toArray s 0 0 (AX g s.heap.size)) (F0 m 13 ls []) := by
    intro n
    induction n with
    | zero =>
      intro x5_lp451 x4_lp451 x3_lp451 v_lp451 F_lp451 H locs ls t452 t453 t454 t455 t456 hm hf_lp451 hI hal hP hS hl
      exfalso
      have := i32_rng x5_lp451
      have := i32_rng x4_lp451
      have := i32_rng x3_lp451
      have hI1 := hI.1
      omega
    | succ n ih_lp451 =>
      intro x5_lp451 x4_lp451 x3_lp451 v_lp451 F_lp451 H locs ls t452 t453 t454 t455 t456 hm hf_lp451 hI hal hP hS hl
      have rx5_lp451 := i32_rng x5_lp451
      have rx4_lp451 := i32_rng x4_lp451
      have rx3_lp451 := i32_rng x3_lp451
      refine lv_iload hx hb dX9_chain_13 (lv_at hl 0 rfl) ?_
      refine lv_sipush (v := 500) hx hb dX9_chain_15 (by decide) ?_
      refine lv_icmp_ge (tgt := 61) hx hb dX9_chain_18 (by decide) (fun c457 => ?_) (fun c457 => ?_)
      · skip
        have t458 := cv_le (a := 500) (by decide) (b := x5_lp451.toInt) rfl c457
        refine lv_aload_n hx hb dX9_chain_61 rfl (lv_at hl 3 rfl) ?_
        refine va_get (D := (dC, dI)) (ci := 9) (v := .ref (g 37)) (C := RX9) (T := TX9) (N := 11) hx hb hwd inA_X9 hown hK hP 4 rfl rfl 9 (by decide) (hwd _ wk_35) (fun _ h9 => h9) rfl dX9_chain_62 ?_
        refine lv_iload_n hx hb dX9_chain_65 rfl (lv_at hl 5 rfl) ?_
        refine lv_iload hx hb dX9_chain_66 (lv_at hl 1 rfl) ?_
        refine va_iast hx hb hK hP (DX hg) hS 37 25 rfl rfl (i := p1) (x := x4_lp451) (vin (a := p1.toInt) rfl (by omega)) dX9_chain_68 (fun H locs hP _ hS => ?_)
        have hP := va_P_eq (sX_37 g c _ _ _ _) hP
        have hI := IX.store hI 37 (p1).toNatClampNeg x4_lp451 rfl (by omega)
        have hal : alX v_lp451 (va_up F_lp451 37 (upd (F_lp451 37) (p1).toNatClampNeg x4_lp451)) = alX v F := hal
        refine lv_iload_n hx hb dX9_chain_69 rfl (lv_at hl 2 rfl) ?_
        refine lv_iconst (v := (-1)) hx hb dX9_chain_70 (by decide) ?_
        refine lv_icmp_ne (tgt := 84) hx hb dX9_chain_71 (by decide) (fun c459 => ?_) (fun c459 => ?_)
        · skip
          have t460 := cv_ne (a := x3_lp451.toInt) rfl (b := (-1)) (by decide) c459
          refine lv_aload_n hx hb dX9_chain_84 rfl (lv_at hl 3 rfl) ?_
          refine va_get (D := (dC, dI)) (ci := 9) (v := .ref (g 37)) (C := RX9) (T := TX9) (N := 11) hx hb hwd inA_X9 hown hK hP 4 rfl rfl 9 (by decide) (hwd _ wk_35) (fun _ h9 => h9) rfl dX9_chain_85 ?_
          refine lv_iload_n hx hb dX9_chain_88 rfl (lv_at hl 2 rfl) ?_
          refine lv_iload_n hx hb dX9_chain_89 rfl (lv_at hl 5 rfl) ?_
          refine va_iast hx hb hK hP (DX hg) hS 37 25 rfl rfl (i := x3_lp451) (x := p1) (vin (a := x3_lp451.toInt) rfl (by omega)) dX9_chain_90 (fun H locs hP _ hS => ?_)
          have hP := va_P_eq (sX_37 g c _ _ _ _) hP
          have hI := IX.store hI 37 (x3_lp451).toNatClampNeg p1 rfl (by omega)
          have hal : alX v_lp451 (va_up (va_up F_lp451 37 (upd (F_lp451 37) (p1).toNatClampNeg x4_lp451)) 37 (upd ((va_up F_lp451 37 (upd (F_lp451 37) (p1).toNatClampNeg x4_lp451)) 37) (x3_lp451).toNatClampNeg p1)) = alX v F := hal
          have hP9 : va_P (dC, dI) classes (wX g c v_lp451 (va_up (va_up F_lp451 37 (upd (F_lp451 37) (p1).toNatClampNeg x4_lp451)) 37 (upd ((va_up F_lp451 37 (upd (F_lp451 37) (p1).toNatClampNeg x4_lp451)) 37) (x3_lp451).toNatClampNeg p1)) rc) H := hP
          exact W.vret hx hb hr (fun t ht hW => ⟨⟨(v_lp451, (va_up (va_up F_lp451 37 (upd (F_lp451 37) (p1).toNatClampNeg x4_lp451)) 37 (upd ((va_up F_lp451 37 (upd (F_lp451 37) (p1).toNatClampNeg x4_lp451)) 37) (x3_lp451).toNatClampNeg p1)), rc), rfl, ⟨hI, hal, rfl, (frC (by decide) hf_lp451 (fun _ _ => rfl)), trivial⟩, (by show va_P _ _ _ t.heap; rw [ht]; exact hP9)⟩, hS.F ht⟩) hS.2.2 dX9_chain_91
        · skip
          have t461 := cv_eq (a := x3_lp451.toInt) rfl (b := (-1)) (by decide) c459
          refine lv_aload_n hx hb dX9_chain_74 rfl (lv_at hl 3 rfl) ?_
          refine va_get (D := (dC, dI)) (ci := 9) (v := .ref (g 38)) (C := RX9) (T := TX9) (N := 11) hx hb hwd inA_X9 hown hK hP 4 rfl rfl 10 (by decide) (hwd _ wk_34) (fun _ h9 => h9) rfl dX9_chain_75 ?_
          refine lv_iload_n hx hb dX9_chain_78 rfl (lv_at hl 4 rfl) ?_
          refine lv_iload_n hx hb dX9_chain_79 rfl (lv_at hl 5 rfl) ?_
          refine va_iast hx hb hK hP (DX hg) hS 38 26 rfl rfl (i := p0) (x := p1) (vin (a := p0.toInt) rfl (by omega)) dX9_chain_80 (fun H locs hP _ hS => ?_)
          have hP := va_P_eq (sX_38 g c _ _ _ _) hP
          have hI := IX.store hI 38 (p0).toNatClampNeg p1 rfl (by omega)
          have hal : alX v_lp451 (va_up (va_up F_lp451 37 (upd (F_lp451 37) (p1).toNatClampNeg x4_lp451)) 38 (upd ((va_up F_lp451 37 (upd (F_lp451 37) (p1).toNatClampNeg x4_lp451)) 38) (p0).toNatClampNeg p1)) = alX v F := hal
          refine lv_goto (tgt := 91) hx hb dX9_chain_81 (by decide) ?_
          have hP9 : va_P (dC, dI) classes (wX g c v_lp451 (va_up (va_up F_lp451 37 (upd (F_lp451 37) (p1).toNatClampNeg x4_lp451)) 38 (upd ((va_up F_lp451 37 (upd (F_lp451 37) (p1).toNatClampNeg x4_lp451)) 38) (p0).toNatClampNeg p1)) rc) H := hP
          exact W.vret hx hb hr (fun t ht hW => ⟨⟨(v_lp451, (va_up (va_up F_lp451 37 (upd (F_lp451 37) (p1).toNatClampNeg x4_lp451)) 38 (upd ((va_up F_lp451 37 (upd (F_lp451 37) (p1).toNatClampNeg x4_lp451)) 38) (p0).toNatClampNeg p1)), rc), rfl, ⟨hI, hal, rfl, (frC (by decide) hf_lp451 (fun _ _ => rfl)), trivial⟩, (by show va_P _ _ _ t.heap; rw [ht]; exact hP9)⟩, hS.F ht⟩) hS.2.2 dX9_chain_91
      · skip
        have t462 := cv_nle (a := 500) (by decide) (b := x5_lp451.toInt) rfl c457
        refine lv_iload hx hb dX9_chain_21 (lv_at hl 1 rfl) ?_
        refine lv_iconst (v := (-1)) hx hb dX9_chain_23 (by decide) ?_
        refine lv_icmp_eq (tgt := 61) hx hb dX9_chain_24 (by decide) (fun c463 => ?_) (fun c463 => ?_)
        · skip
          have t464 := cv_eq (a := x4_lp451.toInt) rfl (b := (-1)) (by decide) c463
          refine lv_aload_n hx hb dX9_chain_61 rfl (lv_at hl 3 rfl) ?_
          refine va_get (D := (dC, dI)) (ci := 9) (v := .ref (g 37)) (C := RX9) (T := TX9) (N := 11) hx hb hwd inA_X9 hown hK hP 4 rfl rfl 9 (by decide) (hwd _ wk_35) (fun _ h9 => h9) rfl dX9_chain_62 ?_
          refine lv_iload_n hx hb dX9_chain_65 rfl (lv_at hl 5 rfl) ?_
          refine lv_iload hx hb dX9_chain_66 (lv_at hl 1 rfl) ?_
          refine va_iast hx hb hK hP (DX hg) hS 37 25 rfl rfl (i := p1) (x := x4_lp451) (vin (a := p1.toInt) rfl (by omega)) dX9_chain_68 (fun H locs hP _ hS => ?_)
          have hP := va_P_eq (sX_37 g c _ _ _ _) hP
          have hI := IX.store hI 37 (p1).toNatClampNeg x4_lp451 rfl (by omega)
          have hal : alX v_lp451 (va_up F_lp451 37 (upd (F_lp451 37) (p1).toNatClampNeg x4_lp451)) = alX v F := hal
          refine lv_iload_n hx hb dX9_chain_69 rfl (lv_at hl 2 rfl) ?_
          refine lv_iconst (v := (-1)) hx hb dX9_chain_70 (by decide) ?_
          refine lv_icmp_ne (tgt := 84) hx hb dX9_chain_71 (by decide) (fun c465 => ?_) (fun c465 => ?_)
          · skip
            have t466 := cv_ne (a := x3_lp451.toInt) rfl (b := (-1)) (by decide) c465
            refine lv_aload_n hx hb dX9_chain_84 rfl (lv_at hl 3 rfl) ?_
            refine va_get (D := (dC, dI)) (ci := 9) (v := .ref (g 37)) (C := RX9) (T := TX9) (N := 11) hx hb hwd inA_X9 hown hK hP 4 rfl rfl 9 (by decide) (hwd _ wk_35) (fun _ h9 => h9) rfl dX9_chain_85 ?_
            refine lv_iload_n hx hb dX9_chain_88 rfl (lv_at hl 2 rfl) ?_
            refine lv_iload_n hx hb dX9_chain_89 rfl (lv_at hl 5 rfl) ?_
            refine va_iast hx hb hK hP (DX hg) hS 37 25 rfl rfl (i := x3_lp451) (x := p1) (vin (a := x3_lp451.toInt) rfl (by omega)) dX9_chain_90 (fun H locs hP _ hS => ?_)
            have hP := va_P_eq (sX_37 g c _ _ _ _) hP
            have hI := IX.store hI 37 (x3_lp451).toNatClampNeg p1 rfl (by omega)
            have hal : alX v_lp451 (va_up (va_up F_lp451 37 (upd (F_lp451 37) (p1).toNatClampNeg x4_lp451)) 37 (upd ((va_up F_lp451 37 (upd (F_lp451 37) (p1).toNatClampNeg x4_lp451)) 37) (x3_lp451).toNatClampNeg p1)) = alX v F := hal
            have hP9 : va_P (dC, dI) classes (wX g c v_lp451 (va_up (va_up F_lp451 37 (upd (F_lp451 37) (p1).toNatClampNeg x4_lp451)) 37 (upd ((va_up F_lp451 37 (upd (F_lp451 37) (p1).toNatClampNeg x4_lp451)) 37) (x3_lp451).toNatClampNeg p1)) rc) H := hP
            exact W.vret hx hb hr (fun t ht hW => ⟨⟨(v_lp451, (va_up (va_up F_lp451 37 (upd (F_lp451 37) (p1).toNatClampNeg x4_lp451)) 37 (upd ((va_up F_lp451 37 (upd (F_lp451 37) (p1).toNatClampNeg x4_lp451)) 37) (x3_lp451).toNatClampNeg p1)), rc), rfl, ⟨hI, hal, rfl, (frC (by decide) hf_lp451 (fun _ _ => rfl)), trivial⟩, (by show va_P _ _ _ t.heap; rw [ht]; exact hP9)⟩, hS.F ht⟩) hS.2.2 dX9_chain_91
          · skip
            have t467 := cv_eq (a := x3_lp451.toInt) rfl (b := (-1)) (by decide) c465
            refine lv_aload_n hx hb dX9_chain_74 rfl (lv_at hl 3 rfl) ?_
            refine va_get (D := (dC, dI)) (ci := 9) (v := .ref (g 38)) (C := RX9) (T := TX9) (N := 11) hx hb hwd inA_X9 hown hK hP 4 rfl rfl 10 (by decide) (hwd _ wk_34) (fun _ h9 => h9) rfl dX9_chain_75 ?_
            refine lv_iload_n hx hb dX9_chain_78 rfl (lv_at hl 4 rfl) ?_
            refine lv_iload_n hx hb dX9_chain_79 rfl (lv_at hl 5 rfl) ?_
            refine va_iast hx hb hK hP (DX hg) hS 38 26 rfl rfl (i := p0) (x := p1) (vin (a := p0.toInt) rfl (by omega)) dX9_chain_80 (fun H locs hP _ hS => ?_)
            have hP := va_P_eq (sX_38 g c _ _ _ _) hP
            have hI := IX.store hI 38 (p0).toNatClampNeg p1 rfl (by omega)
            have hal : alX v_lp451 (va_up (va_up F_lp451 37 (upd (F_lp451 37) (p1).toNatClampNeg x4_lp451)) 38 (upd ((va_up F_lp451 37 (upd (F_lp451 37) (p1).toNatClampNeg x4_lp451)) 38) (p0).toNatClampNeg p1)) = alX v F := hal
            refine lv_goto (tgt := 91) hx hb dX9_chain_81 (by decide) ?_
            have hP9 : va_P (dC, dI) classes (wX g c v_lp451 (va_up (va_up F_lp451 37 (upd (F_lp451 37) (p1).toNatClampNeg x4_lp451)) 38 (upd ((va_up F_lp451 37 (upd (F_lp451 37) (p1).toNatClampNeg x4_lp451)) 38) (p0).toNatClampNeg p1)) rc) H := hP
            exact W.vret hx hb hr (fun t ht hW => ⟨⟨(v_lp451, (va_up (va_up F_lp451 37 (upd (F_lp451 37) (p1).toNatClampNeg x4_lp451)) 38 (upd ((va_up F_lp451 37 (upd (F_lp451 37) (p1).toNatClampNeg x4_lp451)) 38) (p0).toNatClampNeg p1)), rc), rfl, ⟨hI, hal, rfl, (frC (by decide) hf_lp451 (fun _ _ => rfl)), trivial⟩, (by show va_P _ _ _ t.heap; rw [ht]; exact hP9)⟩, hS.F ht⟩) hS.2.2 dX9_chain_91
        · skip
          have t468 := cv_ne (a := x4_lp451.toInt) rfl (b := (-1)) (by decide) c463
          refine lv_aload_n hx hb dX9_chain_27 rfl (lv_at hl 3 rfl) ?_
          refine va_get (D := (dC, dI)) (ci := 9) (v := .ref (g 30)) (C := RX9) (T := TX9) (N := 11) hx hb hwd inA_X9 hown hK hP 4 rfl rfl 2 (by decide) (hwd _ wk_41) (fun _ h9 => h9) rfl dX9_chain_28 ?_
          refine lv_iload hx hb dX9_chain_31 (lv_at hl 1 rfl) ?_
          refine va_iald hx hb hK hP 30 18 rfl rfl (i := x4_lp451) (vin (a := x4_lp451.toInt) rfl (by omega)) dX9_chain_33 ?_
          refine lv_topi (fun z469 e470 => ?_)
          refine lv_aload_n hx hb dX9_chain_34 rfl (lv_at hl 3 rfl) ?_
          refine va_get (D := (dC, dI)) (ci := 9) (v := .ref (g 30)) (C := RX9) (T := TX9) (N := 11) hx hb hwd inA_X9 hown hK hP 4 rfl rfl 2 (by decide) (hwd _ wk_41) (fun _ h9 => h9) rfl dX9_chain_35 ?_
          refine lv_iload_n hx hb dX9_chain_38 rfl (lv_at hl 5 rfl) ?_
          refine va_iald hx hb hK hP 30 18 rfl rfl (i := p1) (vin (a := p1.toInt) rfl (by omega)) dX9_chain_39 ?_
          refine lv_topi (fun z471 e472 => ?_)
          refine lv_icmp_gt (tgt := 61) hx hb dX9_chain_40 (by decide) (fun c473 => ?_) (fun c473 => ?_)
          · skip
            have t474 := cv_lt (a := z471.toInt) rfl (b := z469.toInt) rfl c473
            refine lv_aload_n hx hb dX9_chain_61 rfl (lv_at hl 3 rfl) ?_
            refine va_get (D := (dC, dI)) (ci := 9) (v := .ref (g 37)) (C := RX9) (T := TX9) (N := 11) hx hb hwd inA_X9 hown hK hP 4 rfl rfl 9 (by decide) (hwd _ wk_35) (fun _ h9 => h9) rfl dX9_chain_62 ?_
            refine lv_iload_n hx hb dX9_chain_65 rfl (lv_at hl 5 rfl) ?_
            refine lv_iload hx hb dX9_chain_66 (lv_at hl 1 rfl) ?_
            refine va_iast hx hb hK hP (DX hg) hS 37 25 rfl rfl (i := p1) (x := x4_lp451) (vin (a := p1.toInt) rfl (by omega)) dX9_chain_68 (fun H locs hP _ hS => ?_)
            have hP := va_P_eq (sX_37 g c _ _ _ _) hP
            have hI := IX.store hI 37 (p1).toNatClampNeg x4_lp451 rfl (by omega)
            have hal : alX v_lp451 (va_up F_lp451 37 (upd (F_lp451 37) (p1).toNatClampNeg x4_lp451)) = alX v F := hal
            refine lv_iload_n hx hb dX9_chain_69 rfl (lv_at hl 2 rfl) ?_
            refine lv_iconst (v := (-1)) hx hb dX9_chain_70 (by decide) ?_
            refine lv_icmp_ne (tgt := 84) hx hb dX9_chain_71 (by decide) (fun c475 => ?_) (fun c475 => ?_)
            · skip
              have t476 := cv_ne (a := x3_lp451.toInt) rfl (b := (-1)) (by decide) c475
              refine lv_aload_n hx hb dX9_chain_84 rfl (lv_at hl 3 rfl) ?_
              refine va_get (D := (dC, dI)) (ci := 9) (v := .ref (g 37)) (C := RX9) (T := TX9) (N := 11) hx hb hwd inA_X9 hown hK hP 4 rfl rfl 9 (by decide) (hwd _ wk_35) (fun _ h9 => h9) rfl dX9_chain_85 ?_
              refine lv_iload_n hx hb dX9_chain_88 rfl (lv_at hl 2 rfl) ?_
              refine lv_iload_n hx hb dX9_chain_89 rfl (lv_at hl 5 rfl) ?_
              refine va_iast hx hb hK hP (DX hg) hS 37 25 rfl rfl (i := x3_lp451) (x := p1) (vin (a := x3_lp451.toInt) rfl (by omega)) dX9_chain_90 (fun H locs hP _ hS => ?_)
              have hP := va_P_eq (sX_37 g c _ _ _ _) hP
              have hI := IX.store hI 37 (x3_lp451).toNatClampNeg p1 rfl (by omega)
              have hal : alX v_lp451 (va_up (va_up F_lp451 37 (upd (F_lp451 37) (p1).toNatClampNeg x4_lp451)) 37 (upd ((va_up F_lp451 37 (upd (F_lp451 37) (p1).toNatClampNeg x4_lp451)) 37) (x3_lp451).toNatClampNeg p1)) = alX v F := hal
              have hP9 : va_P (dC, dI) classes (wX g c v_lp451 (va_up (va_up F_lp451 37 (upd (F_lp451 37) (p1).toNatClampNeg x4_lp451)) 37 (upd ((va_up F_lp451 37 (upd (F_lp451 37) (p1).toNatClampNeg x4_lp451)) 37) (x3_lp451).toNatClampNeg p1)) rc) H := hP
              exact W.vret hx hb hr (fun t ht hW => ⟨⟨(v_lp451, (va_up (va_up F_lp451 37 (upd (F_lp451 37) (p1).toNatClampNeg x4_lp451)) 37 (upd ((va_up F_lp451 37 (upd (F_lp451 37) (p1).toNatClampNeg x4_lp451)) 37) (x3_lp451).toNatClampNeg p1)), rc), rfl, ⟨hI, hal, rfl, (frC (by decide) hf_lp451 (fun _ _ => rfl)), trivial⟩, (by show va_P _ _ _ t.heap; rw [ht]; exact hP9)⟩, hS.F ht⟩) hS.2.2 dX9_chain_91
            · skip
              have t477 := cv_eq (a := x3_lp451.toInt) rfl (b := (-1)) (by decide) c475
              refine lv_aload_n hx hb dX9_chain_74 rfl (lv_at hl 3 rfl) ?_
              refine va_get (D := (dC, dI)) (ci := 9) (v := .ref (g 38)) (C := RX9) (T := TX9) (N := 11) hx hb hwd inA_X9 hown hK hP 4 rfl rfl 10 (by decide) (hwd _ wk_34) (fun _ h9 => h9) rfl dX9_chain_75 ?_
              refine lv_iload_n hx hb dX9_chain_78 rfl (lv_at hl 4 rfl) ?_
              refine lv_iload_n hx hb dX9_chain_79 rfl (lv_at hl 5 rfl) ?_
              refine va_iast hx hb hK hP (DX hg) hS 38 26 rfl rfl (i := p0) (x := p1) (vin (a := p0.toInt) rfl (by omega)) dX9_chain_80 (fun H locs hP _ hS => ?_)
              have hP := va_P_eq (sX_38 g c _ _ _ _) hP
              have hI := IX.store hI 38 (p0).toNatClampNeg p1 rfl (by omega)
              have hal : alX v_lp451 (va_up (va_up F_lp451 37 (upd (F_lp451 37) (p1).toNatClampNeg x4_lp451)) 38 (upd ((va_up F_lp451 37 (upd (F_lp451 37) (p1).toNatClampNeg x4_lp451)) 38) (p0).toNatClampNeg p1)) = alX v F := hal
              refine lv_goto (tgt := 91) hx hb dX9_chain_81 (by decide) ?_
              have hP9 : va_P (dC, dI) classes (wX g c v_lp451 (va_up (va_up F_lp451 37 (upd (F_lp451 37) (p1).toNatClampNeg x4_lp451)) 38 (upd ((va_up F_lp451 37 (upd (F_lp451 37) (p1).toNatClampNeg x4_lp451)) 38) (p0).toNatClampNeg p1)) rc) H := hP
              exact W.vret hx hb hr (fun t ht hW => ⟨⟨(v_lp451, (va_up (va_up F_lp451 37 (upd (F_lp451 37) (p1).toNatClampNeg x4_lp451)) 38 (upd ((va_up F_lp451 37 (upd (F_lp451 37) (p1).toNatClampNeg x4_lp451)) 38) (p0).toNatClampNeg p1)), rc), rfl, ⟨hI, hal, rfl, (frC (by decide) hf_lp451 (fun _ _ => rfl)), trivial⟩, (by show va_P _ _ _ t.heap; rw [ht]; exact hP9)⟩, hS.F ht⟩) hS.2.2 dX9_chain_91
          · skip
            have t478 := cv_nlt (a := z471.toInt) rfl (b := z469.toInt) rfl c473
            refine lv_iload hx hb dX9_chain_43 (lv_at hl 1 rfl) ?_
            refine lv_istore_n (lv' := [(3, .int x4_lp451), (5, .int x5_lp451), (4, .int x4_lp451), (0, .ref (g 4)), (1, .int p0), (2, .int p1)]) hx hb dX9_chain_45 rfl hl (by decide) rfl (fun ls hl => ?_)
            refine lv_aload_n hx hb dX9_chain_46 rfl (lv_at hl 3 rfl) ?_
            refine va_get (D := (dC, dI)) (ci := 9) (v := .ref (g 37)) (C := RX9) (T := TX9) (N := 11) hx hb hwd inA_X9 hown hK hP 4 rfl rfl 9 (by decide) (hwd _ wk_35) (fun _ h9 => h9) rfl dX9_chain_47 ?_
            refine lv_iload hx hb dX9_chain_50 (lv_at hl 2 rfl) ?_
            refine va_iald hx hb hK hP 37 25 rfl rfl (i := x4_lp451) (vin (a := x4_lp451.toInt) rfl (by omega)) dX9_chain_52 ?_
            refine lv_topi (fun z479 e480 => ?_)
            have t481 : -1 ≤ z479.toInt ∧ z479.toInt ≤ 499 := by rw [e480]; exact hI.2 37 _ _ rfl _
            refine lv_istore (lv' := [(4, .int z479), (3, .int x4_lp451), (5, .int x5_lp451), (0, .ref (g 4)), (1, .int p0), (2, .int p1)]) hx hb dX9_chain_53 hl (by decide) rfl (fun ls hl => ?_)
            obtain ⟨z482, e483⟩ : ∃ y : Int32, y = x5_lp451 + 1 := ⟨_, rfl⟩
            try (have t484 := tadd e483 rfl (b := 1) (by decide) (by omega))
            refine lv_iinc (v := z482) (lv' := [(5, .int z482), (4, .int z479), (3, .int x4_lp451), (0, .ref (g 4)), (1, .int p0), (2, .int p1)]) hx hb dX9_chain_55 hl (k := 2) rfl (by rw [e483]; rfl) (by decide) rfl (fun ls hl => ?_)
            refine lv_goto (tgt := 13) hx hb dX9_chain_58 (by decide) ?_
            exact ih_lp451 z482 z479 x4_lp451 v_lp451 F_lp451 _ _ _ (by omega) (by omega) (by omega) (by omega) (by omega) (by omega) (frC (by decide) hf_lp451 (fun _ _ => rfl)) hI hal hP hS (lv_sub hl [0, 1, 2, 3, 4, 5] rfl)
  obtain ⟨n9, hn9⟩ : ∃ n : Nat, 2147483648 - 0 ≤ (n : Int) := ⟨((2147483648 - 0 : Int)).toNat, by omega⟩
  exact lp451 n9 0 z448 (-1) v F H _ ls (by have : (0 : Int32).toInt = 0 := (by decide); have : ((-1) : Int32).toInt = (-1) := (by decide); omega) (by have : (0 : Int32).toInt = 0 := (by decide); have : ((-1) : Int32).toInt = (-1) := (by decide); omega) (by have : (0 : Int32).toInt = 0 := (by decide); have : ((-1) : Int32).toInt = (-1) := (by decide); omega) (by have : (0 : Int32).toInt = 0 := (by decide); have : ((-1) : Int32).toInt = (-1) := (by decide); omega) (by have : (0 : Int32).toInt = 0 := (by decide); have : ((-1) : Int32).toInt = (-1) := (by decide); omega) (by have : (0 : Int32).toInt = 0 := (by decide); have : ((-1) : Int32).toInt = (-1) := (by decide); omega) (fun _ _ => rfl) hI hal hP hS hl
set_option maxHeartbeats 8000000 in
set_option maxRecDepth 100000 in
theorem c_X9_add (l : Launch) (dC : Nat → ClassId) (dI : Nat → Nat → Nat) (g : Nat → Nat) (c : Nat → ClassId) (adK adV : Nat → Nat) (v : Nat → Int32) (F : Nat → Nat → Int32) (rc sz : Nat) (p0 : Int32) (p1 : Int32) (p2 : Int32) (p3 : Int32) (p4 : Int32) (hg : injX g) (hI : IX v F) (h0 : 0 ≤ p0.toInt ∧ p0.toInt ≤ 99) : Met l yX9_add (Cond.code yX9_add cX9_add 6 (some .int) :: wA) ({ frames := 2, cells := 0, slots := 0, locals := 80 }) (va_Pc [.ref (g 4), .int p0, .int p1, .int p2, .int p3, .int p4] (PX dC dI g c adK adV v F rc sz)) (va_Qi (fun (r : Int32) (u : StX) => IX u.1 u.2.1 ∧ alX u.1 u.2.1 = alX v F ∧ u.2.2 = rc ∧ (∀ k, k ∉ ([80] : List Nat) → u.1 k = v k) ∧ -1 ≤ r.toInt ∧ r.toInt ≤ 499) (BX dC dI g c) (AX g sz)) 0 0 (AX g sz) := by
  refine Met.ofW (cc := cX9_add) (maxL := 6) (ret := (some .int)) (by decide) rfl ?_
  intro p e s m args below meth c0 s₁ B hml hv
  obtain ⟨rfl, hsz, hP, hK, hE⟩ := hv
  have hx := B.exec
  have hb := B.bytes
  have hr := B.returns
  have hts := atoms_spec (ws := Cond.code yX9_add cX9_add 6 (some .int) :: wA) B.pre
  have hwd : ∀ w ∈ wA, w.before _ s = true := fun w h => hts w (List.mem_cons_of_mem _ h)
  have hown : s.vm.findClass RX9 = some m.cls := findClass_of_methodNamed B.named
  have hlocks := B.notSynchronized
  subst hsz
  have hl := lv_entry ([.ref (g 4), .int p0, .int p1, .int p2, .int p3, .int p4]) (n := 6) (Nat.le_of_ble_eq_true rfl)
  rw [lg_entry_eq]
  generalize (lg_sl ([.ref (g 4), .int p0, .int p1, .int p2, .int p3, .int p4]) ++ List.replicate (6 - (lg_sl ([.ref (g 4), .int p0, .int p1, .int p2, .int p3, .int p4])).length) Slot.unset).toArray = ls at hl ⊢
  have hl : lv_has ls 6 [(0, .ref (g 4)), (1, .int p0), (2, .int p1), (3, .int p2), (4, .int p3), (5, .int p4)] := hl
  obtain ⟨H, eH⟩ : ∃ z, z = s.heap := ⟨_, rfl⟩
  have hP : va_P (dC, dI) classes (wX g c v F rc) H := by rw [eH]; exact hP
  have hS : va_S (AX g s.heap.size) s.heap H [] := by rw [eH]; exact va_S.rf
  refine my_heap eH ?_
  have hal : alX v F = alX v F := rfl
  have rp0 := i32_rng p0
  have rp1 := i32_rng p1
  have rp2 := i32_rng p2
  have rp3 := i32_rng p3
  have rp4 := i32_rng p4
  refine lv_aload_n hx hb dX9_add_0 rfl (lv_at hl 0 rfl) ?_
  refine va_get (D := (dC, dI)) (ci := 9) (v := .int (v 80)) (C := RX9) (T := TX9) (N := 11) hx hb hwd inA_X9 hown hK hP 4 rfl rfl 0 (by decide) (hwd _ wk_21) (fun _ h9 => h9) rfl dX9_add_1 ?_
  have t485 : 0 ≤ (v 80).toInt ∧ (v 80).toInt ≤ 500 := hI.1 80 _ _ rfl
  refine lv_sipush (v := 500) hx hb dX9_add_4 (by decide) ?_
  refine lv_icmp_lt (tgt := 12) hx hb dX9_add_7 (by decide) (fun c486 => ?_) (fun c486 => ?_)
  · skip
    have t487 := cv_lt (a := (v 80).toInt) rfl (b := 500) (by decide) c486
    refine lv_aload_n hx hb dX9_add_12 rfl (lv_at hl 0 rfl) ?_
    refine va_get (D := (dC, dI)) (ci := 9) (v := .ref (g 29)) (C := RX9) (T := TX9) (N := 11) hx hb hwd inA_X9 hown hK hP 4 rfl rfl 1 (by decide) (hwd _ wk_40) (fun _ h9 => h9) rfl dX9_add_13 ?_
    refine lv_aload_n hx hb dX9_add_16 rfl (lv_at hl 0 rfl) ?_
    refine va_get (D := (dC, dI)) (ci := 9) (v := .int (v 80)) (C := RX9) (T := TX9) (N := 11) hx hb hwd inA_X9 hown hK hP 4 rfl rfl 0 (by decide) (hwd _ wk_21) (fun _ h9 => h9) rfl dX9_add_17 ?_
    have t488 : 0 ≤ (v 80).toInt ∧ (v 80).toInt ≤ 500 := hI.1 80 _ _ rfl
    refine lv_iload_n hx hb dX9_add_20 rfl (lv_at hl 2 rfl) ?_
    refine va_iast hx hb hK hP (DX hg) hS 29 17 rfl rfl (i := (v 80)) (x := p1) (vin (a := (v 80).toInt) rfl (by omega)) dX9_add_21 (fun H locs hP _ hS => ?_)
    have hP := va_P_eq (sX_29 g c _ _ _ _) hP
    have hI := IX.store0 hI 29 ((v 80)).toNatClampNeg p1 rfl
    have hal : alX v (va_up F 29 (upd (F 29) ((v 80)).toNatClampNeg p1)) = alX v F := hal
    refine lv_aload_n hx hb dX9_add_22 rfl (lv_at hl 0 rfl) ?_
    refine va_get (D := (dC, dI)) (ci := 9) (v := .ref (g 30)) (C := RX9) (T := TX9) (N := 11) hx hb hwd inA_X9 hown hK hP 4 rfl rfl 2 (by decide) (hwd _ wk_41) (fun _ h9 => h9) rfl dX9_add_23 ?_
    refine lv_aload_n hx hb dX9_add_26 rfl (lv_at hl 0 rfl) ?_
    refine va_get (D := (dC, dI)) (ci := 9) (v := .int (v 80)) (C := RX9) (T := TX9) (N := 11) hx hb hwd inA_X9 hown hK hP 4 rfl rfl 0 (by decide) (hwd _ wk_21) (fun _ h9 => h9) rfl dX9_add_27 ?_
    have t489 : 0 ≤ (v 80).toInt ∧ (v 80).toInt ≤ 500 := hI.1 80 _ _ rfl
    refine lv_iload_n hx hb dX9_add_30 rfl (lv_at hl 3 rfl) ?_
    refine va_iast hx hb hK hP (DX hg) hS 30 18 rfl rfl (i := (v 80)) (x := p2) (vin (a := (v 80).toInt) rfl (by omega)) dX9_add_31 (fun H locs hP _ hS => ?_)
    have hP := va_P_eq (sX_30 g c _ _ _ _) hP
    have hI := IX.store0 hI 30 ((v 80)).toNatClampNeg p2 rfl
    have hal : alX v (va_up (va_up F 29 (upd (F 29) ((v 80)).toNatClampNeg p1)) 30 (upd ((va_up F 29 (upd (F 29) ((v 80)).toNatClampNeg p1)) 30) ((v 80)).toNatClampNeg p2)) = alX v F := hal
    refine lv_aload_n hx hb dX9_add_32 rfl (lv_at hl 0 rfl) ?_
    refine va_get (D := (dC, dI)) (ci := 9) (v := .ref (g 31)) (C := RX9) (T := TX9) (N := 11) hx hb hwd inA_X9 hown hK hP 4 rfl rfl 3 (by decide) (hwd _ wk_22) (fun _ h9 => h9) rfl dX9_add_33 ?_
    refine lv_aload_n hx hb dX9_add_36 rfl (lv_at hl 0 rfl) ?_
    refine va_get (D := (dC, dI)) (ci := 9) (v := .int (v 80)) (C := RX9) (T := TX9) (N := 11) hx hb hwd inA_X9 hown hK hP 4 rfl rfl 0 (by decide) (hwd _ wk_21) (fun _ h9 => h9) rfl dX9_add_37 ?_
    have t490 : 0 ≤ (v 80).toInt ∧ (v 80).toInt ≤ 500 := hI.1 80 _ _ rfl
    refine lv_ldc (v := (-2000000000)) hx hb hown (hwd _ wk_23) dX9_add_40 ?_
    refine va_iast hx hb hK hP (DX hg) hS 31 19 rfl rfl (i := (v 80)) (x := (-2000000000)) (vin (a := (v 80).toInt) rfl (by omega)) dX9_add_42 (fun H locs hP _ hS => ?_)
    have hP := va_P_eq (sX_31 g c _ _ _ _) hP
    have hI := IX.store0 hI 31 ((v 80)).toNatClampNeg (-2000000000) rfl
    have hal : alX v (va_up (va_up (va_up F 29 (upd (F 29) ((v 80)).toNatClampNeg p1)) 30 (upd ((va_up F 29 (upd (F 29) ((v 80)).toNatClampNeg p1)) 30) ((v 80)).toNatClampNeg p2)) 31 (upd ((va_up (va_up F 29 (upd (F 29) ((v 80)).toNatClampNeg p1)) 30 (upd ((va_up F 29 (upd (F 29) ((v 80)).toNatClampNeg p1)) 30) ((v 80)).toNatClampNeg p2)) 31) ((v 80)).toNatClampNeg (-2000000000))) = alX v F := hal
    refine lv_aload_n hx hb dX9_add_43 rfl (lv_at hl 0 rfl) ?_
    refine va_get (D := (dC, dI)) (ci := 9) (v := .ref (g 32)) (C := RX9) (T := TX9) (N := 11) hx hb hwd inA_X9 hown hK hP 4 rfl rfl 4 (by decide) (hwd _ wk_31) (fun _ h9 => h9) rfl dX9_add_44 ?_
    refine lv_aload_n hx hb dX9_add_47 rfl (lv_at hl 0 rfl) ?_
    refine va_get (D := (dC, dI)) (ci := 9) (v := .int (v 80)) (C := RX9) (T := TX9) (N := 11) hx hb hwd inA_X9 hown hK hP 4 rfl rfl 0 (by decide) (hwd _ wk_21) (fun _ h9 => h9) rfl dX9_add_48 ?_
    have t491 : 0 ≤ (v 80).toInt ∧ (v 80).toInt ≤ 500 := hI.1 80 _ _ rfl
    refine lv_iload hx hb dX9_add_51 (lv_at hl 4 rfl) ?_
    refine va_iast hx hb hK hP (DX hg) hS 32 20 rfl rfl (i := (v 80)) (x := p3) (vin (a := (v 80).toInt) rfl (by omega)) dX9_add_53 (fun H locs hP _ hS => ?_)
    have hP := va_P_eq (sX_32 g c _ _ _ _) hP
    have hI := IX.store0 hI 32 ((v 80)).toNatClampNeg p3 rfl
    have hal : alX v (va_up (va_up (va_up (va_up F 29 (upd (F 29) ((v 80)).toNatClampNeg p1)) 30 (upd ((va_up F 29 (upd (F 29) ((v 80)).toNatClampNeg p1)) 30) ((v 80)).toNatClampNeg p2)) 31 (upd ((va_up (va_up F 29 (upd (F 29) ((v 80)).toNatClampNeg p1)) 30 (upd ((va_up F 29 (upd (F 29) ((v 80)).toNatClampNeg p1)) 30) ((v 80)).toNatClampNeg p2)) 31) ((v 80)).toNatClampNeg (-2000000000))) 32 (upd ((va_up (va_up (va_up F 29 (upd (F 29) ((v 80)).toNatClampNeg p1)) 30 (upd ((va_up F 29 (upd (F 29) ((v 80)).toNatClampNeg p1)) 30) ((v 80)).toNatClampNeg p2)) 31 (upd ((va_up (va_up F 29 (upd (F 29) ((v 80)).toNatClampNeg p1)) 30 (upd ((va_up F 29 (upd (F 29) ((v 80)).toNatClampNeg p1)) 30) ((v 80)).toNatClampNeg p2)) 31) ((v 80)).toNatClampNeg (-2000000000))) 32) ((v 80)).toNatClampNeg p3)) = alX v F := hal
    refine lv_aload_n hx hb dX9_add_54 rfl (lv_at hl 0 rfl) ?_
    refine va_get (D := (dC, dI)) (ci := 9) (v := .ref (g 34)) (C := RX9) (T := TX9) (N := 11) hx hb hwd inA_X9 hown hK hP 4 rfl rfl 6 (by decide) (hwd _ wk_30) (fun _ h9 => h9) rfl dX9_add_55 ?_
    refine lv_aload_n hx hb dX9_add_58 rfl (lv_at hl 0 rfl) ?_
    refine va_get (D := (dC, dI)) (ci := 9) (v := .int (v 80)) (C := RX9) (T := TX9) (N := 11) hx hb hwd inA_X9 hown hK hP 4 rfl rfl 0 (by decide) (hwd _ wk_21) (fun _ h9 => h9) rfl dX9_add_59 ?_
    have t492 : 0 ≤ (v 80).toInt ∧ (v 80).toInt ≤ 500 := hI.1 80 _ _ rfl
    refine lv_iload hx hb dX9_add_62 (lv_at hl 5 rfl) ?_
    refine va_iast hx hb hK hP (DX hg) hS 34 22 rfl rfl (i := (v 80)) (x := p4) (vin (a := (v 80).toInt) rfl (by omega)) dX9_add_64 (fun H locs hP _ hS => ?_)
    have hP := va_P_eq (sX_34 g c _ _ _ _) hP
    have hI := IX.store0 hI 34 ((v 80)).toNatClampNeg p4 rfl
    have hal : alX v (va_up (va_up (va_up (va_up (va_up F 29 (upd (F 29) ((v 80)).toNatClampNeg p1)) 30 (upd ((va_up F 29 (upd (F 29) ((v 80)).toNatClampNeg p1)) 30) ((v 80)).toNatClampNeg p2)) 31 (upd ((va_up (va_up F 29 (upd (F 29) ((v 80)).toNatClampNeg p1)) 30 (upd ((va_up F 29 (upd (F 29) ((v 80)).toNatClampNeg p1)) 30) ((v 80)).toNatClampNeg p2)) 31) ((v 80)).toNatClampNeg (-2000000000))) 32 (upd ((va_up (va_up (va_up F 29 (upd (F 29) ((v 80)).toNatClampNeg p1)) 30 (upd ((va_up F 29 (upd (F 29) ((v 80)).toNatClampNeg p1)) 30) ((v 80)).toNatClampNeg p2)) 31 (upd ((va_up (va_up F 29 (upd (F 29) ((v 80)).toNatClampNeg p1)) 30 (upd ((va_up F 29 (upd (F 29) ((v 80)).toNatClampNeg p1)) 30) ((v 80)).toNatClampNeg p2)) 31) ((v 80)).toNatClampNeg (-2000000000))) 32) ((v 80)).toNatClampNeg p3)) 34 (upd ((va_up (va_up (va_up (va_up F 29 (upd (F 29) ((v 80)).toNatClampNeg p1)) 30 (upd ((va_up F 29 (upd (F 29) ((v 80)).toNatClampNeg p1)) 30) ((v 80)).toNatClampNeg p2)) 31 (upd ((va_up (va_up F 29 (upd (F 29) ((v 80)).toNatClampNeg p1)) 30 (upd ((va_up F 29 (upd (F 29) ((v 80)).toNatClampNeg p1)) 30) ((v 80)).toNatClampNeg p2)) 31) ((v 80)).toNatClampNeg (-2000000000))) 32 (upd ((va_up (va_up (va_up F 29 (upd (F 29) ((v 80)).toNatClampNeg p1)) 30 (upd ((va_up F 29 (upd (F 29) ((v 80)).toNatClampNeg p1)) 30) ((v 80)).toNatClampNeg p2)) 31 (upd ((va_up (va_up F 29 (upd (F 29) ((v 80)).toNatClampNeg p1)) 30 (upd ((va_up F 29 (upd (F 29) ((v 80)).toNatClampNeg p1)) 30) ((v 80)).toNatClampNeg p2)) 31) ((v 80)).toNatClampNeg (-2000000000))) 32) ((v 80)).toNatClampNeg p3)) 34) ((v 80)).toNatClampNeg p4)) = alX v F := hal
    refine lv_aload_n hx hb dX9_add_65 rfl (lv_at hl 0 rfl) ?_
    refine lv_iload_n hx hb dX9_add_66 rfl (lv_at hl 1 rfl) ?_
    refine lv_aload_n hx hb dX9_add_67 rfl (lv_at hl 0 rfl) ?_
    refine va_get (D := (dC, dI)) (ci := 9) (v := .int (v 80)) (C := RX9) (T := TX9) (N := 11) hx hb hwd inA_X9 hown hK hP 4 rfl rfl 0 (by decide) (hwd _ wk_21) (fun _ h9 => h9) rfl dX9_add_68 ?_
    have t493 : 0 ≤ (v 80).toInt ∧ (v 80).toInt ≤ 500 := hI.1 80 _ _ rfl
    refine va_callv (va_runV (As := [.int p0, .int (v 80)]) (rest := []) ⟨hx, hb, hml, hown, hwd⟩ (c_X9_chain l dC dI g c adK adV v (va_up (va_up (va_up (va_up (va_up F 29 (upd (F 29) ((v 80)).toNatClampNeg p1)) 30 (upd ((va_up F 29 (upd (F 29) ((v 80)).toNatClampNeg p1)) 30) ((v 80)).toNatClampNeg p2)) 31 (upd ((va_up (va_up F 29 (upd (F 29) ((v 80)).toNatClampNeg p1)) 30 (upd ((va_up F 29 (upd (F 29) ((v 80)).toNatClampNeg p1)) 30) ((v 80)).toNatClampNeg p2)) 31) ((v 80)).toNatClampNeg (-2000000000))) 32 (upd ((va_up (va_up (va_up F 29 (upd (F 29) ((v 80)).toNatClampNeg p1)) 30 (upd ((va_up F 29 (upd (F 29) ((v 80)).toNatClampNeg p1)) 30) ((v 80)).toNatClampNeg p2)) 31 (upd ((va_up (va_up F 29 (upd (F 29) ((v 80)).toNatClampNeg p1)) 30 (upd ((va_up F 29 (upd (F 29) ((v 80)).toNatClampNeg p1)) 30) ((v 80)).toNatClampNeg p2)) 31) ((v 80)).toNatClampNeg (-2000000000))) 32) ((v 80)).toNatClampNeg p3)) 34 (upd ((va_up (va_up (va_up (va_up F 29 (upd (F 29) ((v 80)).toNatClampNeg p1)) 30 (upd ((va_up F 29 (upd (F 29) ((v 80)).toNatClampNeg p1)) 30) ((v 80)).toNatClampNeg p2)) 31 (upd ((va_up (va_up F 29 (upd (F 29) ((v 80)).toNatClampNeg p1)) 30 (upd ((va_up F 29 (upd (F 29) ((v 80)).toNatClampNeg p1)) 30) ((v 80)).toNatClampNeg p2)) 31) ((v 80)).toNatClampNeg (-2000000000))) 32 (upd ((va_up (va_up (va_up F 29 (upd (F 29) ((v 80)).toNatClampNeg p1)) 30 (upd ((va_up F 29 (upd (F 29) ((v 80)).toNatClampNeg p1)) 30) ((v 80)).toNatClampNeg p2)) 31 (upd ((va_up (va_up F 29 (upd (F 29) ((v 80)).toNatClampNeg p1)) 30 (upd ((va_up F 29 (upd (F 29) ((v 80)).toNatClampNeg p1)) 30) ((v 80)).toNatClampNeg p2)) 31) ((v 80)).toNatClampNeg (-2000000000))) 32) ((v 80)).toNatClampNeg p3)) 34) ((v 80)).toNatClampNeg p4)) rc H.size p0 (v 80) hg hI (by omega) (by omega)) (cwV 2 hwd (gV wk_46 wk_47 wk_48 wk_49 wk_28) rfl rfl rfl (by decide +kernel) ⟨Nat.le_of_ble_eq_true rfl, Nat.le_of_ble_eq_true rfl⟩) ⟨PX.blind, va_recv hK hP (ci := 9) (q0 := 4) rfl rfl, fun U hU hW => ⟨rfl, PX.at hK hE hP hS hU hW⟩⟩ rfl rfl hl.1 rfl (lv_room (Nat.le_of_ble_eq_true rfl)) dX9_add_71 ⟨Nat.le_of_ble_eq_true rfl, Nat.le_of_ble_eq_true rfl⟩) hS (fun q _ h => (freeX hS) q h) (freeX hS) (fun u t H1 locs ht hvm hw hB hz1 hk1 hS => ?_)
    unfold BX at hB
    rw [ht] at hB
    obtain ⟨v495, F496, rc9⟩ := u
    obtain ⟨hI, hal9, hrc, hf497, hw⟩ := hw
    dsimp only at hI hal9 hrc hB hf497 hw
    rw [hrc] at hB
    have hal : alX v495 F496 = alX v F := hal9.trans hal
    have hP : va_P (dC, dI) classes (wX g c v495 F496 rc) H1 := hB
    generalize H1 = H at hP hS ⊢
    refine lv_aload_n hx hb dX9_add_74 rfl (lv_at hl 0 rfl) ?_
    refine lv_dup hx hb dX9_add_75 rfl ?_
    refine va_get (D := (dC, dI)) (ci := 9) (v := .int (v495 80)) (C := RX9) (T := TX9) (N := 11) hx hb hwd inA_X9 hown hK hP 4 rfl rfl 0 (by decide) (hwd _ wk_21) (fun _ h9 => h9) rfl dX9_add_76 ?_
    refine my_top (v := v 80) (hf497 80 (by decide)) ?_
    have t498 : 0 ≤ (v 80).toInt ∧ (v 80).toInt ≤ 500 := by have h9 := hI.1 80 _ _ rfl; rw [show v495 80 = v 80 from hf497 80 (by decide)] at h9; exact h9
    refine lv_dup_x1 hx hb dX9_add_79 rfl rfl ?_
    refine lv_iconst (v := 1) hx hb dX9_add_80 (by decide) ?_
    refine lv_iadd hx hb dX9_add_81 ?_
    refine lv_topi (fun z499 e500 => ?_)
    try (have t501 := tadd e500 (a := (v 80).toInt) rfl (b := 1) (by decide) (by omega))
    refine va_put (D := (dC, dI)) (ci := 9) (v := .int z499) (ty := .int) (C := RX9) (T := TX9) (N := 11) (fs := fsX_4 g v495 rc) hx hb hwd inA_X9 tyX9 tyX9_ok nmX9 hown hK hP (DX hg) hS 4 rfl rfl 0 (by decide) (hwd _ wk_21) (fun _ h9 => h9) rfl (by decide +kernel) rfl rfl (Nat.le_of_ble_eq_true rfl) dX9_add_82 (fun H locs hP _ hS => ?_)
    have hP := va_P_eq (pX_80 g c _ _ _ _) hP
    have hI := IX.put hI 80 z499 rfl (by omega)
    have hal : alX (va_up v495 80 z499) F496 = alX v F := hal
    have hP9 : va_P (dC, dI) classes (wX g c (va_up v495 80 z499) F496 rc) H := hP
    exact W.iret (v := v 80) hx hb hr (fun t ht hW => ⟨⟨(v 80), ((va_up v495 80 z499), F496, rc), rfl, ⟨hI, hal, rfl, (frU (by decide) (frC (by decide) hf497 (fun _ _ => rfl))), by omega⟩, (by show va_P _ _ _ t.heap; rw [ht]; exact hP9)⟩, hS.F ht⟩) hS.2.2 dX9_add_85
  · skip
    have t502 := cv_nlt (a := (v 80).toInt) rfl (b := 500) (by decide) c486
    refine lv_iconst (v := (-1)) hx hb dX9_add_10 (by decide) ?_
    have hP9 : va_P (dC, dI) classes (wX g c v F rc) H := hP
    exact W.iret (v := (-1)) hx hb hr (fun t ht hW => ⟨⟨(-1), (v, F, rc), rfl, ⟨hI, hal, rfl, (fun _ _ => rfl), by have : ((-1) : Int32).toInt = (-1) := (by decide); omega⟩, (by show va_P _ _ _ t.heap; rw [ht]; exact hP9)⟩, hS.F ht⟩) hS.2.2 dX9_add_11
