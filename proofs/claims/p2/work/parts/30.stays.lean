set_option maxHeartbeats 8000000 in
set_option maxRecDepth 100000 in
theorem c_X9_hasRoom (l : Launch) (dC : Nat → ClassId) (dI : Nat → Nat → Nat) (g : Nat → Nat) (c : Nat → ClassId) (adK adV : Nat → Nat) (v : Nat → Int32) (F : Nat → Nat → Int32) (rc sz : Nat) (p0 : Int32) (hg : injX g) (hI : IX v F) : Met l yX9_hasRoom (Cond.code yX9_hasRoom cX9_hasRoom 2 (some .boolean) :: wA) ({ frames := 1, cells := 0, slots := 0, locals := 40 }) (va_Pc [.ref (g 4), .int p0] (PX dC dI g c adK adV v F rc sz)) (va_Qi (fun (r : Int32) (u : Unit) => 0 ≤ r.toInt ∧ r.toInt ≤ 1) (fun (_ : Unit) => BX dC dI g c (v, F, rc)) (AX g sz)) 0 0 (AX g sz) := by
  refine Met.ofW (cc := cX9_hasRoom) (maxL := 2) (ret := (some .boolean)) (by decide) rfl ?_
  intro p e s m args below meth c0 s₁ B hml hv
  obtain ⟨rfl, hsz, hP, hK, hE⟩ := hv
  have hx := B.exec
  have hb := B.bytes
  have hr := B.returns
  have hts := atoms_spec (ws := Cond.code yX9_hasRoom cX9_hasRoom 2 (some .boolean) :: wA) B.pre
  have hwd : ∀ w ∈ wA, w.before _ s = true := fun w h => hts w (List.mem_cons_of_mem _ h)
  have hown : s.vm.findClass RX9 = some m.cls := findClass_of_methodNamed B.named
  have hlocks := B.notSynchronized
  subst hsz
  have hl := lv_entry ([.ref (g 4), .int p0]) (n := 2) (Nat.le_of_ble_eq_true rfl)
  rw [lg_entry_eq]
  generalize (lg_sl ([.ref (g 4), .int p0]) ++ List.replicate (2 - (lg_sl ([.ref (g 4), .int p0])).length) Slot.unset).toArray = ls at hl ⊢
  have hl : lv_has ls 2 [(0, .ref (g 4)), (1, .int p0)] := hl
  obtain ⟨H, eH⟩ : ∃ z, z = s.heap := ⟨_, rfl⟩
  have hP : va_P (dC, dI) classes (wX g c v F rc) H := by rw [eH]; exact hP
  have hS : va_S (AX g s.heap.size) s.heap H [] := by rw [eH]; exact va_S.rf
  refine my_heap eH ?_
  have rp0 := i32_rng p0
  refine lv_aload_n hx hb dX9_hasRoom_0 rfl (lv_at hl 0 rfl) ?_
  refine va_get (D := (dC, dI)) (ci := 9) (v := .int (v 80)) (C := RX9) (T := TX9) (N := 11) hx hb hwd inA_X9 hown hK hP 4 rfl rfl 0 (by decide) (hwd _ wk_566) (fun _ h9 => h9) rfl dX9_hasRoom_1 ?_
  have t174 : 0 ≤ (v 80).toInt ∧ (v 80).toInt ≤ 500 := hI.1 80 _ _ rfl
  refine lv_iload_n hx hb dX9_hasRoom_4 rfl (lv_at hl 1 rfl) ?_
  refine lv_iadd hx hb dX9_hasRoom_5 ?_
  refine lv_topi (fun z175 e176 => ?_)
  try (have t177 := tadd e176 (a := (v 80).toInt) rfl (b := p0.toInt) rfl (by omega))
  refine lv_sipush (v := 500) hx hb dX9_hasRoom_6 (by decide) ?_
  refine lv_icmp_gt (tgt := 16) hx hb dX9_hasRoom_9 (by decide) (fun c178 => ?_) (fun c178 => ?_)
  · skip
    have t179 := cv_lt (a := 500) (by decide) (b := z175.toInt) rfl c178
    refine lv_iconst (v := 0) hx hb dX9_hasRoom_16 (by decide) ?_
    have hP9 : va_P (dC, dI) classes (wX g c v F rc) H := hP
    exact W.zret (v := 0) hx hb hr (rfl) (fun t ht hW => ⟨⟨0, (), rfl, by have : (0 : Int32).toInt = 0 := (by decide); omega, (by show va_P _ _ _ t.heap; rw [ht]; exact hP9)⟩, hS.F ht⟩) hS.2.2 dX9_hasRoom_17
  · skip
    have t180 := cv_nlt (a := 500) (by decide) (b := z175.toInt) rfl c178
    refine lv_iconst (v := 1) hx hb dX9_hasRoom_12 (by decide) ?_
    refine lv_goto (tgt := 17) hx hb dX9_hasRoom_13 (by decide) ?_
    have hP9 : va_P (dC, dI) classes (wX g c v F rc) H := hP
    exact W.zret (v := 1) hx hb hr (rfl) (fun t ht hW => ⟨⟨1, (), rfl, by have : (1 : Int32).toInt = 1 := (by decide); omega, (by show va_P _ _ _ t.heap; rw [ht]; exact hP9)⟩, hS.F ht⟩) hS.2.2 dX9_hasRoom_17
set_option maxHeartbeats 8000000 in
set_option maxRecDepth 100000 in
theorem c_X9_goesOn (l : Launch) (dC : Nat → ClassId) (dI : Nat → Nat → Nat) (g : Nat → Nat) (c : Nat → ClassId) (adK adV : Nat → Nat) (v : Nat → Int32) (F : Nat → Nat → Int32) (rc sz : Nat) (p0 : Int32) (hg : injX g) (hI : IX v F) (h0 : 0 ≤ p0.toInt ∧ p0.toInt ≤ 499) : Met l yX9_goesOn (Cond.code yX9_goesOn cX9_goesOn 2 (some .boolean) :: wA) ({ frames := 1, cells := 0, slots := 0, locals := 40 }) (va_Pc [.ref (g 4), .int p0] (PX dC dI g c adK adV v F rc sz)) (va_Qi (fun (r : Int32) (u : Unit) => 0 ≤ r.toInt ∧ r.toInt ≤ 1) (fun (_ : Unit) => BX dC dI g c (v, F, rc)) (AX g sz)) 0 0 (AX g sz) := by
  refine Met.ofW (cc := cX9_goesOn) (maxL := 2) (ret := (some .boolean)) (by decide) rfl ?_
  intro p e s m args below meth c0 s₁ B hml hv
  obtain ⟨rfl, hsz, hP, hK, hE⟩ := hv
  have hx := B.exec
  have hb := B.bytes
  have hr := B.returns
  have hts := atoms_spec (ws := Cond.code yX9_goesOn cX9_goesOn 2 (some .boolean) :: wA) B.pre
  have hwd : ∀ w ∈ wA, w.before _ s = true := fun w h => hts w (List.mem_cons_of_mem _ h)
  have hown : s.vm.findClass RX9 = some m.cls := findClass_of_methodNamed B.named
  have hlocks := B.notSynchronized
  subst hsz
  have hl := lv_entry ([.ref (g 4), .int p0]) (n := 2) (Nat.le_of_ble_eq_true rfl)
  rw [lg_entry_eq]
  generalize (lg_sl ([.ref (g 4), .int p0]) ++ List.replicate (2 - (lg_sl ([.ref (g 4), .int p0])).length) Slot.unset).toArray = ls at hl ⊢
  have hl : lv_has ls 2 [(0, .ref (g 4)), (1, .int p0)] := hl
  obtain ⟨H, eH⟩ : ∃ z, z = s.heap := ⟨_, rfl⟩
  have hP : va_P (dC, dI) classes (wX g c v F rc) H := by rw [eH]; exact hP
  have hS : va_S (AX g s.heap.size) s.heap H [] := by rw [eH]; exact va_S.rf
  refine my_heap eH ?_
  have rp0 := i32_rng p0
  refine lv_aload_n hx hb dX9_goesOn_0 rfl (lv_at hl 0 rfl) ?_
  refine va_get (D := (dC, dI)) (ci := 9) (v := .ref (g 31)) (C := RX9) (T := TX9) (N := 11) hx hb hwd inA_X9 hown hK hP 4 rfl rfl 3 (by decide) (hwd _ wk_82) (fun _ h9 => h9) rfl dX9_goesOn_1 ?_
  refine lv_iload_n hx hb dX9_goesOn_4 rfl (lv_at hl 1 rfl) ?_
  refine va_iald hx hb hK hP 31 19 rfl rfl (i := p0) (vin (a := p0.toInt) rfl (by omega)) dX9_goesOn_5 ?_
  refine lv_topi (fun z181 e182 => ?_)
  refine lv_ldc (v := (-2000000000)) hx hb hown (hwd _ wk_378) dX9_goesOn_6 ?_
  refine lv_icmp_ne (tgt := 15) hx hb dX9_goesOn_8 (by decide) (fun c183 => ?_) (fun c183 => ?_)
  · skip
    have t184 := cv_ne (a := z181.toInt) rfl (b := (-2000000000)) (by decide) c183
    refine lv_iconst (v := 0) hx hb dX9_goesOn_15 (by decide) ?_
    have hP9 : va_P (dC, dI) classes (wX g c v F rc) H := hP
    exact W.zret (v := 0) hx hb hr (rfl) (fun t ht hW => ⟨⟨0, (), rfl, by have : (0 : Int32).toInt = 0 := (by decide); omega, (by show va_P _ _ _ t.heap; rw [ht]; exact hP9)⟩, hS.F ht⟩) hS.2.2 dX9_goesOn_16
  · skip
    have t185 := cv_eq (a := z181.toInt) rfl (b := (-2000000000)) (by decide) c183
    refine lv_iconst (v := 1) hx hb dX9_goesOn_11 (by decide) ?_
    refine lv_goto (tgt := 16) hx hb dX9_goesOn_12 (by decide) ?_
    have hP9 : va_P (dC, dI) classes (wX g c v F rc) H := hP
    exact W.zret (v := 1) hx hb hr (rfl) (fun t ht hW => ⟨⟨1, (), rfl, by have : (1 : Int32).toInt = 1 := (by decide); omega, (by show va_P _ _ _ t.heap; rw [ht]; exact hP9)⟩, hS.F ht⟩) hS.2.2 dX9_goesOn_16
set_option maxHeartbeats 8000000 in
set_option maxRecDepth 100000 in
theorem c_X9_isGap (l : Launch) (dC : Nat → ClassId) (dI : Nat → Nat → Nat) (g : Nat → Nat) (c : Nat → ClassId) (adK adV : Nat → Nat) (v : Nat → Int32) (F : Nat → Nat → Int32) (rc sz : Nat) (p0 : Int32) (hg : injX g) (hI : IX v F) (h0 : 0 ≤ p0.toInt ∧ p0.toInt ≤ 499) : Met l yX9_isGap (Cond.code yX9_isGap cX9_isGap 2 (some .boolean) :: wA) ({ frames := 2, cells := 0, slots := 0, locals := 80 }) (va_Pc [.ref (g 4), .int p0] (PX dC dI g c adK adV v F rc sz)) (va_Qi (fun (r : Int32) (u : Unit) => 0 ≤ r.toInt ∧ r.toInt ≤ 1) (fun (_ : Unit) => BX dC dI g c (v, F, rc)) (AX g sz)) 0 0 (AX g sz) := by
  refine Met.ofW (cc := cX9_isGap) (maxL := 2) (ret := (some .boolean)) (by decide) rfl ?_
  intro p e s m args below meth c0 s₁ B hml hv
  obtain ⟨rfl, hsz, hP, hK, hE⟩ := hv
  have hx := B.exec
  have hb := B.bytes
  have hr := B.returns
  have hts := atoms_spec (ws := Cond.code yX9_isGap cX9_isGap 2 (some .boolean) :: wA) B.pre
  have hwd : ∀ w ∈ wA, w.before _ s = true := fun w h => hts w (List.mem_cons_of_mem _ h)
  have hown : s.vm.findClass RX9 = some m.cls := findClass_of_methodNamed B.named
  have hlocks := B.notSynchronized
  subst hsz
  have hl := lv_entry ([.ref (g 4), .int p0]) (n := 2) (Nat.le_of_ble_eq_true rfl)
  rw [lg_entry_eq]
  generalize (lg_sl ([.ref (g 4), .int p0]) ++ List.replicate (2 - (lg_sl ([.ref (g 4), .int p0])).length) Slot.unset).toArray = ls at hl ⊢
  have hl : lv_has ls 2 [(0, .ref (g 4)), (1, .int p0)] := hl
  obtain ⟨H, eH⟩ : ∃ z, z = s.heap := ⟨_, rfl⟩
  have hP : va_P (dC, dI) classes (wX g c v F rc) H := by rw [eH]; exact hP
  have hS : va_S (AX g s.heap.size) s.heap H [] := by rw [eH]; exact va_S.rf
  refine my_heap eH ?_
  have rp0 := i32_rng p0
  refine lv_aload_n hx hb dX9_isGap_0 rfl (lv_at hl 0 rfl) ?_
  refine lv_iload_n hx hb dX9_isGap_1 rfl (lv_at hl 1 rfl) ?_
  refine va_calli (va_runV (As := [.int p0]) (rest := []) ⟨hx, hb, hml, hown, hwd⟩ (c_X9_goesOn l dC dI g c adK adV v F rc H.size p0 hg hI (by omega)) (cwV 1 hwd (gV wk_377 wk_374 wk_375 wk_376 wk_22) rfl rfl rfl (by decide +kernel) ⟨Nat.le_of_ble_eq_true rfl, Nat.le_of_ble_eq_true rfl⟩) ⟨PX.blind, va_recv hK hP (ci := 9) (q0 := 4) rfl rfl, fun U hU hW => ⟨rfl, PX.at hK hE hP hS hU hW⟩⟩ rfl rfl hl.1 rfl (lv_room (Nat.le_of_ble_eq_true rfl)) dX9_isGap_2 ⟨Nat.le_of_ble_eq_true rfl, Nat.le_of_ble_eq_true rfl⟩) hS (fun q _ h => (freeX hS) q h) (freeX hS) (fun r186 u t H1 locs ht hvm hw hB hz1 hk1 hS => ?_)
  unfold BX at hB
  rw [ht] at hB
  have hP : va_P (dC, dI) classes (wX g c v F rc) H1 := hB
  have hw : 0 ≤ r186.toInt ∧ r186.toInt ≤ 1 := hw
  generalize H1 = H at hP hS ⊢
  have hw_r186 := hw
  refine lv_if_ne (tgt := 21) hx hb dX9_isGap_5 (by decide) (fun c187 => ?_) (fun c187 => ?_)
  · skip
    have t188 := cv_ne (a := r186.toInt) rfl (b := 0) (by decide) c187
    refine lv_iconst (v := 0) hx hb dX9_isGap_21 (by decide) ?_
    have hP9 : va_P (dC, dI) classes (wX g c v F rc) H := hP
    exact W.zret (v := 0) hx hb hr (rfl) (fun t ht hW => ⟨⟨0, (), rfl, by have : (0 : Int32).toInt = 0 := (by decide); omega, (by show va_P _ _ _ t.heap; rw [ht]; exact hP9)⟩, hS.F ht⟩) hS.2.2 dX9_isGap_22
  · skip
    have t189 := cv_eq (a := r186.toInt) rfl (b := 0) (by decide) c187
    refine lv_aload_n hx hb dX9_isGap_8 rfl (lv_at hl 0 rfl) ?_
    refine va_get (D := (dC, dI)) (ci := 9) (v := .ref (g 36)) (C := RX9) (T := TX9) (N := 11) hx hb hwd inA_X9 hown hK hP 4 rfl rfl 8 (by decide) (hwd _ wk_88) (fun _ h9 => h9) rfl dX9_isGap_9 ?_
    refine lv_iload_n hx hb dX9_isGap_12 rfl (lv_at hl 1 rfl) ?_
    refine va_zald hx hb hK hP 36 24 rfl rfl (i := p0) (vin (a := p0.toInt) rfl (by omega)) dX9_isGap_13 ?_
    refine lv_topi (fun z190 e191 => ?_)
    refine lv_if_ne (tgt := 21) hx hb dX9_isGap_14 (by decide) (fun c192 => ?_) (fun c192 => ?_)
    · skip
      have t193 := cv_ne (a := z190.toInt) rfl (b := 0) (by decide) c192
      refine lv_iconst (v := 0) hx hb dX9_isGap_21 (by decide) ?_
      have hP9 : va_P (dC, dI) classes (wX g c v F rc) H := hP
      exact W.zret (v := 0) hx hb hr (rfl) (fun t ht hW => ⟨⟨0, (), rfl, by have : (0 : Int32).toInt = 0 := (by decide); omega, (by show va_P _ _ _ t.heap; rw [ht]; exact hP9)⟩, hS.F ht⟩) hS.2.2 dX9_isGap_22
    · skip
      have t194 := cv_eq (a := z190.toInt) rfl (b := 0) (by decide) c192
      refine lv_iconst (v := 1) hx hb dX9_isGap_17 (by decide) ?_
      refine lv_goto (tgt := 22) hx hb dX9_isGap_18 (by decide) ?_
      have hP9 : va_P (dC, dI) classes (wX g c v F rc) H := hP
      exact W.zret (v := 1) hx hb hr (rfl) (fun t ht hW => ⟨⟨1, (), rfl, by have : (1 : Int32).toInt = 1 := (by decide); omega, (by show va_P _ _ _ t.heap; rw [ht]; exact hP9)⟩, hS.F ht⟩) hS.2.2 dX9_isGap_22
set_option maxHeartbeats 8000000 in
set_option maxRecDepth 100000 in
theorem c_X9_usedAtStart (l : Launch) (dC : Nat → ClassId) (dI : Nat → Nat → Nat) (g : Nat → Nat) (c : Nat → ClassId) (adK adV : Nat → Nat) (v : Nat → Int32) (F : Nat → Nat → Int32) (rc sz : Nat) (p0 : Int32) (p1 : Int32) (hg : injX g) (hI : IX v F) (h0 : 0 ≤ p0.toInt ∧ p0.toInt ≤ 499) : Met l yX9_usedAtStart (Cond.code yX9_usedAtStart cX9_usedAtStart 3 (some .int) :: wA) ({ frames := 1, cells := 0, slots := 0, locals := 40 }) (va_Pc [.ref (g 4), .int p0, .int p1] (PX dC dI g c adK adV v F rc sz)) (va_Qi (fun (r : Int32) (u : Unit) => True) (fun (_ : Unit) => BX dC dI g c (v, F, rc)) (AX g sz)) 0 0 (AX g sz) := by
  refine Met.ofW (cc := cX9_usedAtStart) (maxL := 3) (ret := (some .int)) (by decide) rfl ?_
  intro p e s m args below meth c0 s₁ B hml hv
  obtain ⟨rfl, hsz, hP, hK, hE⟩ := hv
  have hx := B.exec
  have hb := B.bytes
  have hr := B.returns
  have hts := atoms_spec (ws := Cond.code yX9_usedAtStart cX9_usedAtStart 3 (some .int) :: wA) B.pre
  have hwd : ∀ w ∈ wA, w.before _ s = true := fun w h => hts w (List.mem_cons_of_mem _ h)
  have hown : s.vm.findClass RX9 = some m.cls := findClass_of_methodNamed B.named
  have hlocks := B.notSynchronized
  subst hsz
  have hl := lv_entry ([.ref (g 4), .int p0, .int p1]) (n := 3) (Nat.le_of_ble_eq_true rfl)
  rw [lg_entry_eq]
  generalize (lg_sl ([.ref (g 4), .int p0, .int p1]) ++ List.replicate (3 - (lg_sl ([.ref (g 4), .int p0, .int p1])).length) Slot.unset).toArray = ls at hl ⊢
  have hl : lv_has ls 3 [(0, .ref (g 4)), (1, .int p0), (2, .int p1)] := hl
  obtain ⟨H, eH⟩ : ∃ z, z = s.heap := ⟨_, rfl⟩
  have hP : va_P (dC, dI) classes (wX g c v F rc) H := by rw [eH]; exact hP
  have hS : va_S (AX g s.heap.size) s.heap H [] := by rw [eH]; exact va_S.rf
  refine my_heap eH ?_
  have rp0 := i32_rng p0
  have rp1 := i32_rng p1
  refine lv_iload_n hx hb dX9_usedAtStart_0 rfl (lv_at hl 2 rfl) ?_
  refine lv_if_ne (tgt := 13) hx hb dX9_usedAtStart_1 (by decide) (fun c195 => ?_) (fun c195 => ?_)
  · skip
    have t196 := cv_ne (a := p1.toInt) rfl (b := 0) (by decide) c195
    refine lv_aload_n hx hb dX9_usedAtStart_13 rfl (lv_at hl 0 rfl) ?_
    refine va_get (D := (dC, dI)) (ci := 9) (v := .ref (g 34)) (C := RX9) (T := TX9) (N := 11) hx hb hwd inA_X9 hown hK hP 4 rfl rfl 6 (by decide) (hwd _ wk_85) (fun _ h9 => h9) rfl dX9_usedAtStart_14 ?_
    refine lv_iload_n hx hb dX9_usedAtStart_17 rfl (lv_at hl 1 rfl) ?_
    refine va_iald hx hb hK hP 34 22 rfl rfl (i := p0) (vin (a := p0.toInt) rfl (by omega)) dX9_usedAtStart_18 ?_
    refine lv_topi (fun z197 e198 => ?_)
    have hP9 : va_P (dC, dI) classes (wX g c v F rc) H := hP
    exact W.iret (v := z197) hx hb hr (fun t ht hW => ⟨⟨z197, (), rfl, trivial, (by show va_P _ _ _ t.heap; rw [ht]; exact hP9)⟩, hS.F ht⟩) hS.2.2 dX9_usedAtStart_19
  · skip
    have t199 := cv_eq (a := p1.toInt) rfl (b := 0) (by decide) c195
    refine lv_aload_n hx hb dX9_usedAtStart_4 rfl (lv_at hl 0 rfl) ?_
    refine va_get (D := (dC, dI)) (ci := 9) (v := .ref (g 32)) (C := RX9) (T := TX9) (N := 11) hx hb hwd inA_X9 hown hK hP 4 rfl rfl 4 (by decide) (hwd _ wk_83) (fun _ h9 => h9) rfl dX9_usedAtStart_5 ?_
    refine lv_iload_n hx hb dX9_usedAtStart_8 rfl (lv_at hl 1 rfl) ?_
    refine va_iald hx hb hK hP 32 20 rfl rfl (i := p0) (vin (a := p0.toInt) rfl (by omega)) dX9_usedAtStart_9 ?_
    refine lv_topi (fun z200 e201 => ?_)
    refine lv_goto (tgt := 19) hx hb dX9_usedAtStart_10 (by decide) ?_
    have hP9 : va_P (dC, dI) classes (wX g c v F rc) H := hP
    exact W.iret (v := z200) hx hb hr (fun t ht hW => ⟨⟨z200, (), rfl, trivial, (by show va_P _ _ _ t.heap; rw [ht]; exact hP9)⟩, hS.F ht⟩) hS.2.2 dX9_usedAtStart_19
set_option maxHeartbeats 8000000 in
set_option maxRecDepth 100000 in
theorem c_X9_usedAtEnd (l : Launch) (dC : Nat → ClassId) (dI : Nat → Nat → Nat) (g : Nat → Nat) (c : Nat → ClassId) (adK adV : Nat → Nat) (v : Nat → Int32) (F : Nat → Nat → Int32) (rc sz : Nat) (p0 : Int32) (p1 : Int32) (hg : injX g) (hI : IX v F) (h0 : 0 ≤ p0.toInt ∧ p0.toInt ≤ 499) : Met l yX9_usedAtEnd (Cond.code yX9_usedAtEnd cX9_usedAtEnd 3 (some .int) :: wA) ({ frames := 1, cells := 0, slots := 0, locals := 40 }) (va_Pc [.ref (g 4), .int p0, .int p1] (PX dC dI g c adK adV v F rc sz)) (va_Qi (fun (r : Int32) (u : Unit) => True) (fun (_ : Unit) => BX dC dI g c (v, F, rc)) (AX g sz)) 0 0 (AX g sz) := by
  refine Met.ofW (cc := cX9_usedAtEnd) (maxL := 3) (ret := (some .int)) (by decide) rfl ?_
  intro p e s m args below meth c0 s₁ B hml hv
  obtain ⟨rfl, hsz, hP, hK, hE⟩ := hv
  have hx := B.exec
  have hb := B.bytes
  have hr := B.returns
  have hts := atoms_spec (ws := Cond.code yX9_usedAtEnd cX9_usedAtEnd 3 (some .int) :: wA) B.pre
  have hwd : ∀ w ∈ wA, w.before _ s = true := fun w h => hts w (List.mem_cons_of_mem _ h)
  have hown : s.vm.findClass RX9 = some m.cls := findClass_of_methodNamed B.named
  have hlocks := B.notSynchronized
  subst hsz
  have hl := lv_entry ([.ref (g 4), .int p0, .int p1]) (n := 3) (Nat.le_of_ble_eq_true rfl)
  rw [lg_entry_eq]
  generalize (lg_sl ([.ref (g 4), .int p0, .int p1]) ++ List.replicate (3 - (lg_sl ([.ref (g 4), .int p0, .int p1])).length) Slot.unset).toArray = ls at hl ⊢
  have hl : lv_has ls 3 [(0, .ref (g 4)), (1, .int p0), (2, .int p1)] := hl
  obtain ⟨H, eH⟩ : ∃ z, z = s.heap := ⟨_, rfl⟩
  have hP : va_P (dC, dI) classes (wX g c v F rc) H := by rw [eH]; exact hP
  have hS : va_S (AX g s.heap.size) s.heap H [] := by rw [eH]; exact va_S.rf
  refine my_heap eH ?_
  have rp0 := i32_rng p0
  have rp1 := i32_rng p1
  refine lv_iload_n hx hb dX9_usedAtEnd_0 rfl (lv_at hl 2 rfl) ?_
  refine lv_if_ne (tgt := 13) hx hb dX9_usedAtEnd_1 (by decide) (fun c202 => ?_) (fun c202 => ?_)
  · skip
    have t203 := cv_ne (a := p1.toInt) rfl (b := 0) (by decide) c202
    refine lv_aload_n hx hb dX9_usedAtEnd_13 rfl (lv_at hl 0 rfl) ?_
    refine va_get (D := (dC, dI)) (ci := 9) (v := .ref (g 35)) (C := RX9) (T := TX9) (N := 11) hx hb hwd inA_X9 hown hK hP 4 rfl rfl 7 (by decide) (hwd _ wk_86) (fun _ h9 => h9) rfl dX9_usedAtEnd_14 ?_
    refine lv_iload_n hx hb dX9_usedAtEnd_17 rfl (lv_at hl 1 rfl) ?_
    refine va_iald hx hb hK hP 35 23 rfl rfl (i := p0) (vin (a := p0.toInt) rfl (by omega)) dX9_usedAtEnd_18 ?_
    refine lv_topi (fun z204 e205 => ?_)
    have hP9 : va_P (dC, dI) classes (wX g c v F rc) H := hP
    exact W.iret (v := z204) hx hb hr (fun t ht hW => ⟨⟨z204, (), rfl, trivial, (by show va_P _ _ _ t.heap; rw [ht]; exact hP9)⟩, hS.F ht⟩) hS.2.2 dX9_usedAtEnd_19
  · skip
    have t206 := cv_eq (a := p1.toInt) rfl (b := 0) (by decide) c202
    refine lv_aload_n hx hb dX9_usedAtEnd_4 rfl (lv_at hl 0 rfl) ?_
    refine va_get (D := (dC, dI)) (ci := 9) (v := .ref (g 33)) (C := RX9) (T := TX9) (N := 11) hx hb hwd inA_X9 hown hK hP 4 rfl rfl 5 (by decide) (hwd _ wk_84) (fun _ h9 => h9) rfl dX9_usedAtEnd_5 ?_
    refine lv_iload_n hx hb dX9_usedAtEnd_8 rfl (lv_at hl 1 rfl) ?_
    refine va_iald hx hb hK hP 33 21 rfl rfl (i := p0) (vin (a := p0.toInt) rfl (by omega)) dX9_usedAtEnd_9 ?_
    refine lv_topi (fun z207 e208 => ?_)
    refine lv_goto (tgt := 19) hx hb dX9_usedAtEnd_10 (by decide) ?_
    have hP9 : va_P (dC, dI) classes (wX g c v F rc) H := hP
    exact W.iret (v := z207) hx hb hr (fun t ht hW => ⟨⟨z207, (), rfl, trivial, (by show va_P _ _ _ t.heap; rw [ht]; exact hP9)⟩, hS.F ht⟩) hS.2.2 dX9_usedAtEnd_19
set_option maxHeartbeats 8000000 in
set_option maxRecDepth 100000 in
theorem c_X9_end (l : Launch) (dC : Nat → ClassId) (dI : Nat → Nat → Nat) (g : Nat → Nat) (c : Nat → ClassId) (adK adV : Nat → Nat) (v : Nat → Int32) (F : Nat → Nat → Int32) (rc sz : Nat) (p0 : Int32) (p1 : Int32) (p2 : Int32) (p3 : Int32) (hg : injX g) (hI : IX v F) : Met l yX9_end (Cond.code yX9_end cX9_end 5 none :: wA) ({ frames := 1, cells := 0, slots := 0, locals := 40 }) (va_Pc [.ref (g 4), .int p0, .int p1, .int p2, .int p3] (PX dC dI g c adK adV v F rc sz)) (va_Qv (fun (u : StX) => IX u.1 u.2.1 ∧ alX u.1 u.2.1 = alX v F ∧ u.2.2 = rc ∧ (∀ k, k ∉ ([] : List Nat) → u.1 k = v k) ∧ True) (BX dC dI g c) (AX g sz)) 0 0 (AX g sz) := by
  refine Met.ofW (cc := cX9_end) (maxL := 5) (ret := none) (by decide) rfl ?_
  intro p e s m args below meth c0 s₁ B hml hv
  obtain ⟨rfl, hsz, hP, hK, hE⟩ := hv
  have hx := B.exec
  have hb := B.bytes
  have hr := B.returns
  have hts := atoms_spec (ws := Cond.code yX9_end cX9_end 5 none :: wA) B.pre
  have hwd : ∀ w ∈ wA, w.before _ s = true := fun w h => hts w (List.mem_cons_of_mem _ h)
  have hown : s.vm.findClass RX9 = some m.cls := findClass_of_methodNamed B.named
  have hlocks := B.notSynchronized
  subst hsz
  have hl := lv_entry ([.ref (g 4), .int p0, .int p1, .int p2, .int p3]) (n := 5) (Nat.le_of_ble_eq_true rfl)
  rw [lg_entry_eq]
  generalize (lg_sl ([.ref (g 4), .int p0, .int p1, .int p2, .int p3]) ++ List.replicate (5 - (lg_sl ([.ref (g 4), .int p0, .int p1, .int p2, .int p3])).length) Slot.unset).toArray = ls at hl ⊢
  have hl : lv_has ls 5 [(0, .ref (g 4)), (1, .int p0), (2, .int p1), (3, .int p2), (4, .int p3)] := hl
  obtain ⟨H, eH⟩ : ∃ z, z = s.heap := ⟨_, rfl⟩
  have hP : va_P (dC, dI) classes (wX g c v F rc) H := by rw [eH]; exact hP
  have hS : va_S (AX g s.heap.size) s.heap H [] := by rw [eH]; exact va_S.rf
  refine my_heap eH ?_
  have hal : alX v F = alX v F := rfl
  have rp0 := i32_rng p0
  have rp1 := i32_rng p1
  have rp2 := i32_rng p2
  have rp3 := i32_rng p3
  refine lv_iload_n hx hb dX9_end_0 rfl (lv_at hl 1 rfl) ?_
  refine lv_if_lt (tgt := 12) hx hb dX9_end_1 (by decide) (fun c209 => ?_) (fun c209 => ?_)
  · skip
    have t210 := cv_lt (a := p0.toInt) rfl (b := 0) (by decide) c209
    have hP9 : va_P (dC, dI) classes (wX g c v F rc) H := hP
    exact W.vret hx hb hr (fun t ht hW => ⟨⟨(v, F, rc), rfl, ⟨hI, hal, rfl, (fun _ _ => rfl), trivial⟩, (by show va_P _ _ _ t.heap; rw [ht]; exact hP9)⟩, hS.F ht⟩) hS.2.2 dX9_end_12
  · skip
    have t211 := cv_nlt (a := p0.toInt) rfl (b := 0) (by decide) c209
    refine lv_iload_n hx hb dX9_end_4 rfl (lv_at hl 1 rfl) ?_
    refine lv_aload_n hx hb dX9_end_5 rfl (lv_at hl 0 rfl) ?_
    refine va_get (D := (dC, dI)) (ci := 9) (v := .int (v 80)) (C := RX9) (T := TX9) (N := 11) hx hb hwd inA_X9 hown hK hP 4 rfl rfl 0 (by decide) (hwd _ wk_566) (fun _ h9 => h9) rfl dX9_end_6 ?_
    have t212 : 0 ≤ (v 80).toInt ∧ (v 80).toInt ≤ 500 := hI.1 80 _ _ rfl
    refine lv_icmp_lt (tgt := 13) hx hb dX9_end_9 (by decide) (fun c213 => ?_) (fun c213 => ?_)
    · skip
      have t214 := cv_lt (a := p0.toInt) rfl (b := (v 80).toInt) rfl c213
      refine lv_aload_n hx hb dX9_end_13 rfl (lv_at hl 0 rfl) ?_
      refine va_get (D := (dC, dI)) (ci := 9) (v := .ref (g 31)) (C := RX9) (T := TX9) (N := 11) hx hb hwd inA_X9 hown hK hP 4 rfl rfl 3 (by decide) (hwd _ wk_82) (fun _ h9 => h9) rfl dX9_end_14 ?_
      refine lv_iload_n hx hb dX9_end_17 rfl (lv_at hl 1 rfl) ?_
      refine lv_iload_n hx hb dX9_end_18 rfl (lv_at hl 2 rfl) ?_
      refine va_iast hx hb hK hP (DX hg) hS 31 19 rfl rfl (i := p0) (x := p1) (vin (a := p0.toInt) rfl (by omega)) dX9_end_19 (fun H locs hP _ hS => ?_)
      have hP := va_P_eq (sX_31 g c _ _ _ _) hP
      have hI := IX.store0 hI 31 (p0).toNatClampNeg p1 rfl
      have hal := (alX_F _ _ 31 (upd (F 31) (p0).toNatClampNeg p1) (by decide) (by decide)).trans hal
      refine lv_aload_n hx hb dX9_end_20 rfl (lv_at hl 0 rfl) ?_
      refine va_get (D := (dC, dI)) (ci := 9) (v := .ref (g 33)) (C := RX9) (T := TX9) (N := 11) hx hb hwd inA_X9 hown hK hP 4 rfl rfl 5 (by decide) (hwd _ wk_84) (fun _ h9 => h9) rfl dX9_end_21 ?_
      refine lv_iload_n hx hb dX9_end_24 rfl (lv_at hl 1 rfl) ?_
      refine lv_iload_n hx hb dX9_end_25 rfl (lv_at hl 3 rfl) ?_
      refine va_iast hx hb hK hP (DX hg) hS 33 21 rfl rfl (i := p0) (x := p2) (vin (a := p0.toInt) rfl (by omega)) dX9_end_26 (fun H locs hP _ hS => ?_)
      have hP := va_P_eq (sX_33 g c _ _ _ _) hP
      have hI := IX.store0 hI 33 (p0).toNatClampNeg p2 rfl
      have hal := (alX_F _ _ 33 (upd ((va_up F 31 (upd (F 31) (p0).toNatClampNeg p1)) 33) (p0).toNatClampNeg p2) (by decide) (by decide)).trans hal
      refine lv_aload_n hx hb dX9_end_27 rfl (lv_at hl 0 rfl) ?_
      refine va_get (D := (dC, dI)) (ci := 9) (v := .ref (g 35)) (C := RX9) (T := TX9) (N := 11) hx hb hwd inA_X9 hown hK hP 4 rfl rfl 7 (by decide) (hwd _ wk_86) (fun _ h9 => h9) rfl dX9_end_28 ?_
      refine lv_iload_n hx hb dX9_end_31 rfl (lv_at hl 1 rfl) ?_
      refine lv_iload hx hb dX9_end_32 (lv_at hl 4 rfl) ?_
      refine va_iast hx hb hK hP (DX hg) hS 35 23 rfl rfl (i := p0) (x := p3) (vin (a := p0.toInt) rfl (by omega)) dX9_end_34 (fun H locs hP _ hS => ?_)
      have hP := va_P_eq (sX_35 g c _ _ _ _) hP
      have hI := IX.store0 hI 35 (p0).toNatClampNeg p3 rfl
      have hal := (alX_F _ _ 35 (upd ((va_up (va_up F 31 (upd (F 31) (p0).toNatClampNeg p1)) 33 (upd ((va_up F 31 (upd (F 31) (p0).toNatClampNeg p1)) 33) (p0).toNatClampNeg p2)) 35) (p0).toNatClampNeg p3) (by decide) (by decide)).trans hal
      have hP9 : va_P (dC, dI) classes (wX g c v (va_up (va_up (va_up F 31 (upd (F 31) (p0).toNatClampNeg p1)) 33 (upd ((va_up F 31 (upd (F 31) (p0).toNatClampNeg p1)) 33) (p0).toNatClampNeg p2)) 35 (upd ((va_up (va_up F 31 (upd (F 31) (p0).toNatClampNeg p1)) 33 (upd ((va_up F 31 (upd (F 31) (p0).toNatClampNeg p1)) 33) (p0).toNatClampNeg p2)) 35) (p0).toNatClampNeg p3)) rc) H := hP
      exact W.vret hx hb hr (fun t ht hW => ⟨⟨(v, (va_up (va_up (va_up F 31 (upd (F 31) (p0).toNatClampNeg p1)) 33 (upd ((va_up F 31 (upd (F 31) (p0).toNatClampNeg p1)) 33) (p0).toNatClampNeg p2)) 35 (upd ((va_up (va_up F 31 (upd (F 31) (p0).toNatClampNeg p1)) 33 (upd ((va_up F 31 (upd (F 31) (p0).toNatClampNeg p1)) 33) (p0).toNatClampNeg p2)) 35) (p0).toNatClampNeg p3)), rc), rfl, ⟨hI, hal, rfl, (fun _ _ => rfl), trivial⟩, (by show va_P _ _ _ t.heap; rw [ht]; exact hP9)⟩, hS.F ht⟩) hS.2.2 dX9_end_35
    · skip
      have t215 := cv_nlt (a := p0.toInt) rfl (b := (v 80).toInt) rfl c213
      have hP9 : va_P (dC, dI) classes (wX g c v F rc) H := hP
      exact W.vret hx hb hr (fun t ht hW => ⟨⟨(v, F, rc), rfl, ⟨hI, hal, rfl, (fun _ _ => rfl), trivial⟩, (by show va_P _ _ _ t.heap; rw [ht]; exact hP9)⟩, hS.F ht⟩) hS.2.2 dX9_end_12
set_option maxHeartbeats 8000000 in
set_option maxRecDepth 100000 in
theorem c_X9_at (l : Launch) (dC : Nat → ClassId) (dI : Nat → Nat → Nat) (g : Nat → Nat) (c : Nat → ClassId) (adK adV : Nat → Nat) (v : Nat → Int32) (F : Nat → Nat → Int32) (rc sz : Nat) (p0 : Int32) (p1 : Int32) (hg : injX g) (hI : IX v F) (h0 : 0 ≤ p0.toInt ∧ p0.toInt ≤ 99) : Met l yX9_at (Cond.code yX9_at cX9_at 5 (some .int) :: wA) ({ frames := 1, cells := 0, slots := 0, locals := 40 }) (va_Pc [.ref (g 4), .int p0, .int p1] (PX dC dI g c adK adV v F rc sz)) (va_Qi (fun (r : Int32) (u : Unit) => -1 ≤ r.toInt ∧ r.toInt ≤ 499) (fun (_ : Unit) => BX dC dI g c (v, F, rc)) (AX g sz)) 0 0 (AX g sz) := by
  refine Met.ofW (cc := cX9_at) (maxL := 5) (ret := (some .int)) (by decide) rfl ?_
  intro p e s m args below meth c0 s₁ B hml hv
  obtain ⟨rfl, hsz, hP, hK, hE⟩ := hv
  have hx := B.exec
  have hb := B.bytes
  have hr := B.returns
  have hts := atoms_spec (ws := Cond.code yX9_at cX9_at 5 (some .int) :: wA) B.pre
  have hwd : ∀ w ∈ wA, w.before _ s = true := fun w h => hts w (List.mem_cons_of_mem _ h)
  have hown : s.vm.findClass RX9 = some m.cls := findClass_of_methodNamed B.named
  have hlocks := B.notSynchronized
  subst hsz
  have hl := lv_entry ([.ref (g 4), .int p0, .int p1]) (n := 5) (Nat.le_of_ble_eq_true rfl)
  rw [lg_entry_eq]
  generalize (lg_sl ([.ref (g 4), .int p0, .int p1]) ++ List.replicate (5 - (lg_sl ([.ref (g 4), .int p0, .int p1])).length) Slot.unset).toArray = ls at hl ⊢
  have hl : lv_has ls 5 [(0, .ref (g 4)), (1, .int p0), (2, .int p1)] := hl
  obtain ⟨H, eH⟩ : ∃ z, z = s.heap := ⟨_, rfl⟩
  have hP : va_P (dC, dI) classes (wX g c v F rc) H := by rw [eH]; exact hP
  have hS : va_S (AX g s.heap.size) s.heap H [] := by rw [eH]; exact va_S.rf
  refine my_heap eH ?_
  have rp0 := i32_rng p0
  have rp1 := i32_rng p1
  refine lv_iload_n hx hb dX9_at_0 rfl (lv_at hl 2 rfl) ?_
  refine lv_if_ge (tgt := 8) hx hb dX9_at_1 (by decide) (fun c216 => ?_) (fun c216 => ?_)
  · skip
    have t217 := cv_le (a := 0) (by decide) (b := p1.toInt) rfl c216
    refine lv_aload_n hx hb dX9_at_8 rfl (lv_at hl 0 rfl) ?_
    refine va_get (D := (dC, dI)) (ci := 9) (v := .ref (g 38)) (C := RX9) (T := TX9) (N := 11) hx hb hwd inA_X9 hown hK hP 4 rfl rfl 10 (by decide) (hwd _ wk_90) (fun _ h9 => h9) rfl dX9_at_9 ?_
    refine lv_iload_n hx hb dX9_at_12 rfl (lv_at hl 1 rfl) ?_
    refine va_iald hx hb hK hP 38 26 rfl rfl (i := p0) (vin (a := p0.toInt) rfl (by omega)) dX9_at_13 ?_
    refine lv_topi (fun z218 e219 => ?_)
    have t220 : -1 ≤ z218.toInt ∧ z218.toInt ≤ 499 := by rw [e219]; exact hI.2 38 _ _ rfl _
    refine lv_istore_n (lv' := [(3, .int z218), (0, .ref (g 4)), (1, .int p0), (2, .int p1)]) hx hb dX9_at_14 rfl hl (by decide) rfl (fun ls hl => ?_)
    refine lv_iconst (v := 0) hx hb dX9_at_15 (by decide) ?_
    refine lv_istore (lv' := [(4, .int 0), (3, .int z218), (0, .ref (g 4)), (1, .int p0), (2, .int p1)]) hx hb dX9_at_16 hl (by decide) rfl (fun ls hl => ?_)
    have lp221 : ∀ (n : Nat) (x4_lp221 : Int32) (x3_lp221 : Int32) (H : Heap) (locs : List Loc) (ls : Array Slot), (0 ≤ x4_lp221.toInt) → (-1 ≤ x3_lp221.toInt) → (x3_lp221.toInt ≤ 499) → (2147483648 - x4_lp221.toInt ≤ (n : Int)) → va_P (dC, dI) classes (wX g c v F rc) H → va_S (AX g s.heap.size) s.heap H locs → lv_has ls 5 [(4, .int x4_lp221), (3, .int x3_lp221), (0, .ref (g 4)), (1, .int p0), (2, .int p1)] → W p l e (headSpec (Cond.code yX9_at cX9_at 5 (some .int) :: wA) ({ frames := 1, cells := 0, slots := 0, locals := 40 })).room s m ([.ref (g 4), .int p0, .int p1] : List Value).toArray below meth c0 H locs 0 0 (MQ below (va_Qi (fun (r : Int32) (u : Unit) => -1 ≤ r.toInt ∧ r.toInt ≤ 499) (fun (_ : Unit) => BX dC dI g c (v, F, rc)) (AX g s.heap.size)) ([.ref (g 4), .int p0, .int p1] : List Value).toArray s 0 0 (AX g s.heap.size)) (F0 m 18 ls []) := by
      intro n
      induction n with
      | zero =>
        intro x4_lp221 x3_lp221 H locs ls t222 t223 t224 hm hP hS hl
        exfalso
        have := i32_rng x4_lp221
        have := i32_rng x3_lp221
        omega
      | succ n ih_lp221 =>
        intro x4_lp221 x3_lp221 H locs ls t222 t223 t224 hm hP hS hl
        have rx4_lp221 := i32_rng x4_lp221
        have rx3_lp221 := i32_rng x3_lp221
        refine lv_iload hx hb dX9_at_18 (lv_at hl 0 rfl) ?_
        refine lv_iload_n hx hb dX9_at_20 rfl (lv_at hl 4 rfl) ?_
        refine lv_icmp_ge (tgt := 42) hx hb dX9_at_21 (by decide) (fun c225 => ?_) (fun c225 => ?_)
        · skip
          have t226 := cv_le (a := p1.toInt) rfl (b := x4_lp221.toInt) rfl c225
          refine lv_iload_n hx hb dX9_at_42 rfl (lv_at hl 1 rfl) ?_
          have hP9 : va_P (dC, dI) classes (wX g c v F rc) H := hP
          exact W.iret (v := x3_lp221) hx hb hr (fun t ht hW => ⟨⟨x3_lp221, (), rfl, by omega, (by show va_P _ _ _ t.heap; rw [ht]; exact hP9)⟩, hS.F ht⟩) hS.2.2 dX9_at_43
        · skip
          have t227 := cv_nle (a := p1.toInt) rfl (b := x4_lp221.toInt) rfl c225
          refine lv_iload_n hx hb dX9_at_24 rfl (lv_at hl 1 rfl) ?_
          refine lv_iconst (v := (-1)) hx hb dX9_at_25 (by decide) ?_
          refine lv_icmp_eq (tgt := 42) hx hb dX9_at_26 (by decide) (fun c228 => ?_) (fun c228 => ?_)
          · skip
            have t229 := cv_eq (a := x3_lp221.toInt) rfl (b := (-1)) (by decide) c228
            refine lv_iload_n hx hb dX9_at_42 rfl (lv_at hl 1 rfl) ?_
            have hP9 : va_P (dC, dI) classes (wX g c v F rc) H := hP
            exact W.iret (v := x3_lp221) hx hb hr (fun t ht hW => ⟨⟨x3_lp221, (), rfl, by omega, (by show va_P _ _ _ t.heap; rw [ht]; exact hP9)⟩, hS.F ht⟩) hS.2.2 dX9_at_43
          · skip
            have t230 := cv_ne (a := x3_lp221.toInt) rfl (b := (-1)) (by decide) c228
            refine lv_aload_n hx hb dX9_at_29 rfl (lv_at hl 2 rfl) ?_
            refine va_get (D := (dC, dI)) (ci := 9) (v := .ref (g 37)) (C := RX9) (T := TX9) (N := 11) hx hb hwd inA_X9 hown hK hP 4 rfl rfl 9 (by decide) (hwd _ wk_89) (fun _ h9 => h9) rfl dX9_at_30 ?_
            refine lv_iload_n hx hb dX9_at_33 rfl (lv_at hl 1 rfl) ?_
            refine va_iald hx hb hK hP 37 25 rfl rfl (i := x3_lp221) (vin (a := x3_lp221.toInt) rfl (by omega)) dX9_at_34 ?_
            refine lv_topi (fun z231 e232 => ?_)
            have t233 : -1 ≤ z231.toInt ∧ z231.toInt ≤ 499 := by rw [e232]; exact hI.2 37 _ _ rfl _
            refine lv_istore_n (lv' := [(3, .int z231), (4, .int x4_lp221), (0, .ref (g 4)), (1, .int p0), (2, .int p1)]) hx hb dX9_at_35 rfl hl (by decide) rfl (fun ls hl => ?_)
            obtain ⟨z234, e235⟩ : ∃ y : Int32, y = x4_lp221 + 1 := ⟨_, rfl⟩
            try (have t236 := tadd e235 rfl (b := 1) (by decide) (by omega))
            refine lv_iinc (v := z234) (lv' := [(4, .int z234), (3, .int z231), (0, .ref (g 4)), (1, .int p0), (2, .int p1)]) hx hb dX9_at_36 hl (k := 1) rfl (by rw [e235]; rfl) (by decide) rfl (fun ls hl => ?_)
            refine lv_goto (tgt := 18) hx hb dX9_at_39 (by decide) ?_
            exact ih_lp221 z234 z231  _ _ _ (by omega) (by omega) (by omega) (by omega) hP hS (lv_sub hl [0, 1, 2, 3, 4] rfl)
    obtain ⟨n9, hn9⟩ : ∃ n : Nat, 2147483648 - 0 ≤ (n : Int) := ⟨((2147483648 - 0 : Int)).toNat, by omega⟩
    exact lp221 n9 0 z218  H _ ls (by have : (0 : Int32).toInt = 0 := (by decide); omega) (by have : (0 : Int32).toInt = 0 := (by decide); omega) (by have : (0 : Int32).toInt = 0 := (by decide); omega) (by have : (0 : Int32).toInt = 0 := (by decide); omega) hP hS hl
  · skip
    have t237 := cv_nle (a := 0) (by decide) (b := p1.toInt) rfl c216
    refine lv_iconst (v := (-1)) hx hb dX9_at_4 (by decide) ?_
    refine lv_goto (tgt := 14) hx hb dX9_at_5 (by decide) ?_
    refine lv_istore_n (lv' := [(3, .int (-1)), (0, .ref (g 4)), (1, .int p0), (2, .int p1)]) hx hb dX9_at_14 rfl hl (by decide) rfl (fun ls hl => ?_)
    refine lv_iconst (v := 0) hx hb dX9_at_15 (by decide) ?_
    refine lv_istore (lv' := [(4, .int 0), (3, .int (-1)), (0, .ref (g 4)), (1, .int p0), (2, .int p1)]) hx hb dX9_at_16 hl (by decide) rfl (fun ls hl => ?_)
    have lp238 : ∀ (n : Nat) (x4_lp238 : Int32) (x3_lp238 : Int32) (H : Heap) (locs : List Loc) (ls : Array Slot), (0 ≤ x4_lp238.toInt) → (-1 ≤ x3_lp238.toInt) → (x3_lp238.toInt ≤ 499) → (2147483648 - x4_lp238.toInt ≤ (n : Int)) → va_P (dC, dI) classes (wX g c v F rc) H → va_S (AX g s.heap.size) s.heap H locs → lv_has ls 5 [(4, .int x4_lp238), (3, .int x3_lp238), (0, .ref (g 4)), (1, .int p0), (2, .int p1)] → W p l e (headSpec (Cond.code yX9_at cX9_at 5 (some .int) :: wA) ({ frames := 1, cells := 0, slots := 0, locals := 40 })).room s m ([.ref (g 4), .int p0, .int p1] : List Value).toArray below meth c0 H locs 0 0 (MQ below (va_Qi (fun (r : Int32) (u : Unit) => -1 ≤ r.toInt ∧ r.toInt ≤ 499) (fun (_ : Unit) => BX dC dI g c (v, F, rc)) (AX g s.heap.size)) ([.ref (g 4), .int p0, .int p1] : List Value).toArray s 0 0 (AX g s.heap.size)) (F0 m 18 ls []) := by
      intro n
      induction n with
      | zero =>
        intro x4_lp238 x3_lp238 H locs ls t239 t240 t241 hm hP hS hl
        exfalso
        have := i32_rng x4_lp238
        have := i32_rng x3_lp238
        omega
      | succ n ih_lp238 =>
        intro x4_lp238 x3_lp238 H locs ls t239 t240 t241 hm hP hS hl
        have rx4_lp238 := i32_rng x4_lp238
        have rx3_lp238 := i32_rng x3_lp238
        refine lv_iload hx hb dX9_at_18 (lv_at hl 0 rfl) ?_
        refine lv_iload_n hx hb dX9_at_20 rfl (lv_at hl 4 rfl) ?_
        refine lv_icmp_ge (tgt := 42) hx hb dX9_at_21 (by decide) (fun c242 => ?_) (fun c242 => ?_)
        · skip
          have t243 := cv_le (a := p1.toInt) rfl (b := x4_lp238.toInt) rfl c242
          refine lv_iload_n hx hb dX9_at_42 rfl (lv_at hl 1 rfl) ?_
          have hP9 : va_P (dC, dI) classes (wX g c v F rc) H := hP
          exact W.iret (v := x3_lp238) hx hb hr (fun t ht hW => ⟨⟨x3_lp238, (), rfl, by omega, (by show va_P _ _ _ t.heap; rw [ht]; exact hP9)⟩, hS.F ht⟩) hS.2.2 dX9_at_43
        · skip
          have t244 := cv_nle (a := p1.toInt) rfl (b := x4_lp238.toInt) rfl c242
          refine lv_iload_n hx hb dX9_at_24 rfl (lv_at hl 1 rfl) ?_
          refine lv_iconst (v := (-1)) hx hb dX9_at_25 (by decide) ?_
          refine lv_icmp_eq (tgt := 42) hx hb dX9_at_26 (by decide) (fun c245 => ?_) (fun c245 => ?_)
          · skip
            have t246 := cv_eq (a := x3_lp238.toInt) rfl (b := (-1)) (by decide) c245
            refine lv_iload_n hx hb dX9_at_42 rfl (lv_at hl 1 rfl) ?_
            have hP9 : va_P (dC, dI) classes (wX g c v F rc) H := hP
            exact W.iret (v := x3_lp238) hx hb hr (fun t ht hW => ⟨⟨x3_lp238, (), rfl, by omega, (by show va_P _ _ _ t.heap; rw [ht]; exact hP9)⟩, hS.F ht⟩) hS.2.2 dX9_at_43
          · skip
            have t247 := cv_ne (a := x3_lp238.toInt) rfl (b := (-1)) (by decide) c245
            refine lv_aload_n hx hb dX9_at_29 rfl (lv_at hl 2 rfl) ?_
            refine va_get (D := (dC, dI)) (ci := 9) (v := .ref (g 37)) (C := RX9) (T := TX9) (N := 11) hx hb hwd inA_X9 hown hK hP 4 rfl rfl 9 (by decide) (hwd _ wk_89) (fun _ h9 => h9) rfl dX9_at_30 ?_
            refine lv_iload_n hx hb dX9_at_33 rfl (lv_at hl 1 rfl) ?_
            refine va_iald hx hb hK hP 37 25 rfl rfl (i := x3_lp238) (vin (a := x3_lp238.toInt) rfl (by omega)) dX9_at_34 ?_
            refine lv_topi (fun z248 e249 => ?_)
            have t250 : -1 ≤ z248.toInt ∧ z248.toInt ≤ 499 := by rw [e249]; exact hI.2 37 _ _ rfl _
            refine lv_istore_n (lv' := [(3, .int z248), (4, .int x4_lp238), (0, .ref (g 4)), (1, .int p0), (2, .int p1)]) hx hb dX9_at_35 rfl hl (by decide) rfl (fun ls hl => ?_)
            obtain ⟨z251, e252⟩ : ∃ y : Int32, y = x4_lp238 + 1 := ⟨_, rfl⟩
            try (have t253 := tadd e252 rfl (b := 1) (by decide) (by omega))
            refine lv_iinc (v := z251) (lv' := [(4, .int z251), (3, .int z248), (0, .ref (g 4)), (1, .int p0), (2, .int p1)]) hx hb dX9_at_36 hl (k := 1) rfl (by rw [e252]; rfl) (by decide) rfl (fun ls hl => ?_)
            refine lv_goto (tgt := 18) hx hb dX9_at_39 (by decide) ?_
            exact ih_lp238 z251 z248  _ _ _ (by omega) (by omega) (by omega) (by omega) hP hS (lv_sub hl [0, 1, 2, 3, 4] rfl)
    obtain ⟨n9, hn9⟩ : ∃ n : Nat, 2147483648 - 0 ≤ (n : Int) := ⟨((2147483648 - 0 : Int)).toNat, by omega⟩
    exact lp238 n9 0 (-1)  H _ ls (by have : (0 : Int32).toInt = 0 := (by decide); have : ((-1) : Int32).toInt = (-1) := (by decide); omega) (by have : (0 : Int32).toInt = 0 := (by decide); have : ((-1) : Int32).toInt = (-1) := (by decide); omega) (by have : (0 : Int32).toInt = 0 := (by decide); have : ((-1) : Int32).toInt = (-1) := (by decide); omega) (by have : (0 : Int32).toInt = 0 := (by decide); have : ((-1) : Int32).toInt = (-1) := (by decide); omega) hP hS hl
set_option maxHeartbeats 8000000 in
set_option maxRecDepth 100000 in
theorem c_X9_aheadOf (l : Launch) (dC : Nat → ClassId) (dI : Nat → Nat → Nat) (g : Nat → Nat) (c : Nat → ClassId) (adK adV : Nat → Nat) (v : Nat → Int32) (F : Nat → Nat → Int32) (rc sz : Nat) (p0 : Int32) (p1 : Int32) (hg : injX g) (hI : IX v F) (h0 : 0 ≤ p0.toInt ∧ p0.toInt ≤ 99) : Met l yX9_aheadOf (Cond.code yX9_aheadOf cX9_aheadOf 6 (some .int) :: wA) ({ frames := 1, cells := 0, slots := 0, locals := 40 }) (va_Pc [.ref (g 4), .int p0, .int p1] (PX dC dI g c adK adV v F rc sz)) (va_Qi (fun (r : Int32) (u : Unit) => -1 ≤ r.toInt ∧ r.toInt ≤ 499) (fun (_ : Unit) => BX dC dI g c (v, F, rc)) (AX g sz)) 0 0 (AX g sz) := by
  refine Met.ofW (cc := cX9_aheadOf) (maxL := 6) (ret := (some .int)) (by decide) rfl ?_
  intro p e s m args below meth c0 s₁ B hml hv
  obtain ⟨rfl, hsz, hP, hK, hE⟩ := hv
  have hx := B.exec
  have hb := B.bytes
  have hr := B.returns
  have hts := atoms_spec (ws := Cond.code yX9_aheadOf cX9_aheadOf 6 (some .int) :: wA) B.pre
  have hwd : ∀ w ∈ wA, w.before _ s = true := fun w h => hts w (List.mem_cons_of_mem _ h)
  have hown : s.vm.findClass RX9 = some m.cls := findClass_of_methodNamed B.named
  have hlocks := B.notSynchronized
  subst hsz
  have hl := lv_entry ([.ref (g 4), .int p0, .int p1]) (n := 6) (Nat.le_of_ble_eq_true rfl)
  rw [lg_entry_eq]
  generalize (lg_sl ([.ref (g 4), .int p0, .int p1]) ++ List.replicate (6 - (lg_sl ([.ref (g 4), .int p0, .int p1])).length) Slot.unset).toArray = ls at hl ⊢
  have hl : lv_has ls 6 [(0, .ref (g 4)), (1, .int p0), (2, .int p1)] := hl
  obtain ⟨H, eH⟩ : ∃ z, z = s.heap := ⟨_, rfl⟩
  have hP : va_P (dC, dI) classes (wX g c v F rc) H := by rw [eH]; exact hP
  have hS : va_S (AX g s.heap.size) s.heap H [] := by rw [eH]; exact va_S.rf
  refine my_heap eH ?_
  have rp0 := i32_rng p0
  have rp1 := i32_rng p1
  refine lv_iconst (v := (-1)) hx hb dX9_aheadOf_0 (by decide) ?_
  refine lv_istore_n (lv' := [(3, .int (-1)), (0, .ref (g 4)), (1, .int p0), (2, .int p1)]) hx hb dX9_aheadOf_1 rfl hl (by decide) rfl (fun ls hl => ?_)
  refine lv_aload_n hx hb dX9_aheadOf_2 rfl (lv_at hl 1 rfl) ?_
  refine va_get (D := (dC, dI)) (ci := 9) (v := .ref (g 38)) (C := RX9) (T := TX9) (N := 11) hx hb hwd inA_X9 hown hK hP 4 rfl rfl 10 (by decide) (hwd _ wk_90) (fun _ h9 => h9) rfl dX9_aheadOf_3 ?_
  refine lv_iload_n hx hb dX9_aheadOf_6 rfl (lv_at hl 2 rfl) ?_
  refine va_iald hx hb hK hP 38 26 rfl rfl (i := p0) (vin (a := p0.toInt) rfl (by omega)) dX9_aheadOf_7 ?_
  refine lv_topi (fun z254 e255 => ?_)
  have t256 : -1 ≤ z254.toInt ∧ z254.toInt ≤ 499 := by rw [e255]; exact hI.2 38 _ _ rfl _
  refine lv_istore (lv' := [(4, .int z254), (3, .int (-1)), (0, .ref (g 4)), (1, .int p0), (2, .int p1)]) hx hb dX9_aheadOf_8 hl (by decide) rfl (fun ls hl => ?_)
  refine lv_iconst (v := 0) hx hb dX9_aheadOf_10 (by decide) ?_
  refine lv_istore (lv' := [(5, .int 0), (4, .int z254), (3, .int (-1)), (0, .ref (g 4)), (1, .int p0), (2, .int p1)]) hx hb dX9_aheadOf_11 hl (by decide) rfl (fun ls hl => ?_)
  have lp257 : ∀ (n : Nat) (x5_lp257 : Int32) (x4_lp257 : Int32) (x3_lp257 : Int32) (H : Heap) (locs : List Loc) (ls : Array Slot), (0 ≤ x5_lp257.toInt) → (-1 ≤ x4_lp257.toInt) → (x4_lp257.toInt ≤ 499) → (-1 ≤ x3_lp257.toInt) → (x3_lp257.toInt ≤ 499) → (2147483648 - x5_lp257.toInt ≤ (n : Int)) → va_P (dC, dI) classes (wX g c v F rc) H → va_S (AX g s.heap.size) s.heap H locs → lv_has ls 6 [(5, .int x5_lp257), (4, .int x4_lp257), (3, .int x3_lp257), (0, .ref (g 4)), (1, .int p0), (2, .int p1)] → W p l e (headSpec (Cond.code yX9_aheadOf cX9_aheadOf 6 (some .int) :: wA) ({ frames := 1, cells := 0, slots := 0, locals := 40 })).room s m ([.ref (g 4), .int p0, .int p1] : List Value).toArray below meth c0 H locs 0 0 (MQ below (va_Qi (fun (r : Int32) (u : Unit) => -1 ≤ r.toInt ∧ r.toInt ≤ 499) (fun (_ : Unit) => BX dC dI g c (v, F, rc)) (AX g s.heap.size)) ([.ref (g 4), .int p0, .int p1] : List Value).toArray s 0 0 (AX g s.heap.size)) (F0 m 13 ls []) := by
    intro n
    induction n with
    | zero =>
      intro x5_lp257 x4_lp257 x3_lp257 H locs ls t258 t259 t260 t261 t262 hm hP hS hl
      exfalso
      have := i32_rng x5_lp257
      have := i32_rng x4_lp257
      have := i32_rng x3_lp257
      omega
    | succ n ih_lp257 =>
      intro x5_lp257 x4_lp257 x3_lp257 H locs ls t258 t259 t260 t261 t262 hm hP hS hl
      have rx5_lp257 := i32_rng x5_lp257
      have rx4_lp257 := i32_rng x4_lp257
      have rx3_lp257 := i32_rng x3_lp257
      refine lv_iload hx hb dX9_aheadOf_13 (lv_at hl 0 rfl) ?_
      refine lv_sipush (v := 500) hx hb dX9_aheadOf_15 (by decide) ?_
      refine lv_icmp_ge (tgt := 51) hx hb dX9_aheadOf_18 (by decide) (fun c263 => ?_) (fun c263 => ?_)
      · skip
        have t264 := cv_le (a := 500) (by decide) (b := x5_lp257.toInt) rfl c263
        refine lv_iload_n hx hb dX9_aheadOf_51 rfl (lv_at hl 2 rfl) ?_
        have hP9 : va_P (dC, dI) classes (wX g c v F rc) H := hP
        exact W.iret (v := x3_lp257) hx hb hr (fun t ht hW => ⟨⟨x3_lp257, (), rfl, by omega, (by show va_P _ _ _ t.heap; rw [ht]; exact hP9)⟩, hS.F ht⟩) hS.2.2 dX9_aheadOf_52
      · skip
        have t265 := cv_nle (a := 500) (by decide) (b := x5_lp257.toInt) rfl c263
        refine lv_iload hx hb dX9_aheadOf_21 (lv_at hl 1 rfl) ?_
        refine lv_iconst (v := (-1)) hx hb dX9_aheadOf_23 (by decide) ?_
        refine lv_icmp_eq (tgt := 51) hx hb dX9_aheadOf_24 (by decide) (fun c266 => ?_) (fun c266 => ?_)
        · skip
          have t267 := cv_eq (a := x4_lp257.toInt) rfl (b := (-1)) (by decide) c266
          refine lv_iload_n hx hb dX9_aheadOf_51 rfl (lv_at hl 2 rfl) ?_
          have hP9 : va_P (dC, dI) classes (wX g c v F rc) H := hP
          exact W.iret (v := x3_lp257) hx hb hr (fun t ht hW => ⟨⟨x3_lp257, (), rfl, by omega, (by show va_P _ _ _ t.heap; rw [ht]; exact hP9)⟩, hS.F ht⟩) hS.2.2 dX9_aheadOf_52
        · skip
          have t268 := cv_ne (a := x4_lp257.toInt) rfl (b := (-1)) (by decide) c266
          refine lv_iload hx hb dX9_aheadOf_27 (lv_at hl 1 rfl) ?_
          refine lv_iload_n hx hb dX9_aheadOf_29 rfl (lv_at hl 5 rfl) ?_
          refine lv_icmp_eq (tgt := 51) hx hb dX9_aheadOf_30 (by decide) (fun c269 => ?_) (fun c269 => ?_)
          · skip
            have t270 := cv_eq (a := x4_lp257.toInt) rfl (b := p1.toInt) rfl c269
            refine lv_iload_n hx hb dX9_aheadOf_51 rfl (lv_at hl 2 rfl) ?_
            have hP9 : va_P (dC, dI) classes (wX g c v F rc) H := hP
            exact W.iret (v := x3_lp257) hx hb hr (fun t ht hW => ⟨⟨x3_lp257, (), rfl, by omega, (by show va_P _ _ _ t.heap; rw [ht]; exact hP9)⟩, hS.F ht⟩) hS.2.2 dX9_aheadOf_52
          · skip
            have t271 := cv_ne (a := x4_lp257.toInt) rfl (b := p1.toInt) rfl c269
            refine lv_iload hx hb dX9_aheadOf_33 (lv_at hl 1 rfl) ?_
            refine lv_istore_n (lv' := [(3, .int x4_lp257), (5, .int x5_lp257), (4, .int x4_lp257), (0, .ref (g 4)), (1, .int p0), (2, .int p1)]) hx hb dX9_aheadOf_35 rfl hl (by decide) rfl (fun ls hl => ?_)
            refine lv_aload_n hx hb dX9_aheadOf_36 rfl (lv_at hl 3 rfl) ?_
            refine va_get (D := (dC, dI)) (ci := 9) (v := .ref (g 37)) (C := RX9) (T := TX9) (N := 11) hx hb hwd inA_X9 hown hK hP 4 rfl rfl 9 (by decide) (hwd _ wk_89) (fun _ h9 => h9) rfl dX9_aheadOf_37 ?_
            refine lv_iload hx hb dX9_aheadOf_40 (lv_at hl 2 rfl) ?_
            refine va_iald hx hb hK hP 37 25 rfl rfl (i := x4_lp257) (vin (a := x4_lp257.toInt) rfl (by omega)) dX9_aheadOf_42 ?_
            refine lv_topi (fun z272 e273 => ?_)
            have t274 : -1 ≤ z272.toInt ∧ z272.toInt ≤ 499 := by rw [e273]; exact hI.2 37 _ _ rfl _
            refine lv_istore (lv' := [(4, .int z272), (3, .int x4_lp257), (5, .int x5_lp257), (0, .ref (g 4)), (1, .int p0), (2, .int p1)]) hx hb dX9_aheadOf_43 hl (by decide) rfl (fun ls hl => ?_)
            obtain ⟨z275, e276⟩ : ∃ y : Int32, y = x5_lp257 + 1 := ⟨_, rfl⟩
            try (have t277 := tadd e276 rfl (b := 1) (by decide) (by omega))
            refine lv_iinc (v := z275) (lv' := [(5, .int z275), (4, .int z272), (3, .int x4_lp257), (0, .ref (g 4)), (1, .int p0), (2, .int p1)]) hx hb dX9_aheadOf_45 hl (k := 2) rfl (by rw [e276]; rfl) (by decide) rfl (fun ls hl => ?_)
            refine lv_goto (tgt := 13) hx hb dX9_aheadOf_48 (by decide) ?_
            exact ih_lp257 z275 z272 x4_lp257  _ _ _ (by omega) (by omega) (by omega) (by omega) (by omega) (by omega) hP hS (lv_sub hl [0, 1, 2, 3, 4, 5] rfl)
  obtain ⟨n9, hn9⟩ : ∃ n : Nat, 2147483648 - 0 ≤ (n : Int) := ⟨((2147483648 - 0 : Int)).toNat, by omega⟩
  exact lp257 n9 0 z254 (-1)  H _ ls (by have : (0 : Int32).toInt = 0 := (by decide); have : ((-1) : Int32).toInt = (-1) := (by decide); omega) (by have : (0 : Int32).toInt = 0 := (by decide); have : ((-1) : Int32).toInt = (-1) := (by decide); omega) (by have : (0 : Int32).toInt = 0 := (by decide); have : ((-1) : Int32).toInt = (-1) := (by decide); omega) (by have : (0 : Int32).toInt = 0 := (by decide); have : ((-1) : Int32).toInt = (-1) := (by decide); omega) (by have : (0 : Int32).toInt = 0 := (by decide); have : ((-1) : Int32).toInt = (-1) := (by decide); omega) (by have : (0 : Int32).toInt = 0 := (by decide); have : ((-1) : Int32).toInt = (-1) := (by decide); omega) hP hS hl
set_option maxHeartbeats 8000000 in
set_option maxRecDepth 100000 in
theorem c_X9_countOf (l : Launch) (dC : Nat → ClassId) (dI : Nat → Nat → Nat) (g : Nat → Nat) (c : Nat → ClassId) (adK adV : Nat → Nat) (v : Nat → Int32) (F : Nat → Nat → Int32) (rc sz : Nat) (p0 : Int32) (hg : injX g) (hI : IX v F) (h0 : 0 ≤ p0.toInt ∧ p0.toInt ≤ 99) : Met l yX9_countOf (Cond.code yX9_countOf cX9_countOf 5 (some .int) :: wA) ({ frames := 1, cells := 0, slots := 0, locals := 40 }) (va_Pc [.ref (g 4), .int p0] (PX dC dI g c adK adV v F rc sz)) (va_Qi (fun (r : Int32) (u : Unit) => True) (fun (_ : Unit) => BX dC dI g c (v, F, rc)) (AX g sz)) 0 0 (AX g sz) := by
  refine Met.ofW (cc := cX9_countOf) (maxL := 5) (ret := (some .int)) (by decide) rfl ?_
  intro p e s m args below meth c0 s₁ B hml hv
  obtain ⟨rfl, hsz, hP, hK, hE⟩ := hv
  have hx := B.exec
  have hb := B.bytes
  have hr := B.returns
  have hts := atoms_spec (ws := Cond.code yX9_countOf cX9_countOf 5 (some .int) :: wA) B.pre
  have hwd : ∀ w ∈ wA, w.before _ s = true := fun w h => hts w (List.mem_cons_of_mem _ h)
  have hown : s.vm.findClass RX9 = some m.cls := findClass_of_methodNamed B.named
  have hlocks := B.notSynchronized
  subst hsz
  have hl := lv_entry ([.ref (g 4), .int p0]) (n := 5) (Nat.le_of_ble_eq_true rfl)
  rw [lg_entry_eq]
  generalize (lg_sl ([.ref (g 4), .int p0]) ++ List.replicate (5 - (lg_sl ([.ref (g 4), .int p0])).length) Slot.unset).toArray = ls at hl ⊢
  have hl : lv_has ls 5 [(0, .ref (g 4)), (1, .int p0)] := hl
  obtain ⟨H, eH⟩ : ∃ z, z = s.heap := ⟨_, rfl⟩
  have hP : va_P (dC, dI) classes (wX g c v F rc) H := by rw [eH]; exact hP
  have hS : va_S (AX g s.heap.size) s.heap H [] := by rw [eH]; exact va_S.rf
  refine my_heap eH ?_
  have rp0 := i32_rng p0
  refine lv_iconst (v := 0) hx hb dX9_countOf_0 (by decide) ?_
  refine lv_istore_n (lv' := [(2, .int 0), (0, .ref (g 4)), (1, .int p0)]) hx hb dX9_countOf_1 rfl hl (by decide) rfl (fun ls hl => ?_)
  refine lv_aload_n hx hb dX9_countOf_2 rfl (lv_at hl 1 rfl) ?_
  refine va_get (D := (dC, dI)) (ci := 9) (v := .ref (g 38)) (C := RX9) (T := TX9) (N := 11) hx hb hwd inA_X9 hown hK hP 4 rfl rfl 10 (by decide) (hwd _ wk_90) (fun _ h9 => h9) rfl dX9_countOf_3 ?_
  refine lv_iload_n hx hb dX9_countOf_6 rfl (lv_at hl 2 rfl) ?_
  refine va_iald hx hb hK hP 38 26 rfl rfl (i := p0) (vin (a := p0.toInt) rfl (by omega)) dX9_countOf_7 ?_
  refine lv_topi (fun z278 e279 => ?_)
  have t280 : -1 ≤ z278.toInt ∧ z278.toInt ≤ 499 := by rw [e279]; exact hI.2 38 _ _ rfl _
  refine lv_istore_n (lv' := [(3, .int z278), (2, .int 0), (0, .ref (g 4)), (1, .int p0)]) hx hb dX9_countOf_8 rfl hl (by decide) rfl (fun ls hl => ?_)
  refine lv_iconst (v := 0) hx hb dX9_countOf_9 (by decide) ?_
  refine lv_istore (lv' := [(4, .int 0), (3, .int z278), (2, .int 0), (0, .ref (g 4)), (1, .int p0)]) hx hb dX9_countOf_10 hl (by decide) rfl (fun ls hl => ?_)
  have lp281 : ∀ (n : Nat) (x4_lp281 : Int32) (x3_lp281 : Int32) (x2_lp281 : Int32) (H : Heap) (locs : List Loc) (ls : Array Slot), (0 ≤ x4_lp281.toInt) → (-1 ≤ x3_lp281.toInt) → (x3_lp281.toInt ≤ 499) → (2147483648 - x4_lp281.toInt ≤ (n : Int)) → va_P (dC, dI) classes (wX g c v F rc) H → va_S (AX g s.heap.size) s.heap H locs → lv_has ls 5 [(4, .int x4_lp281), (3, .int x3_lp281), (2, .int x2_lp281), (0, .ref (g 4)), (1, .int p0)] → W p l e (headSpec (Cond.code yX9_countOf cX9_countOf 5 (some .int) :: wA) ({ frames := 1, cells := 0, slots := 0, locals := 40 })).room s m ([.ref (g 4), .int p0] : List Value).toArray below meth c0 H locs 0 0 (MQ below (va_Qi (fun (r : Int32) (u : Unit) => True) (fun (_ : Unit) => BX dC dI g c (v, F, rc)) (AX g s.heap.size)) ([.ref (g 4), .int p0] : List Value).toArray s 0 0 (AX g s.heap.size)) (F0 m 12 ls []) := by
    intro n
    induction n with
    | zero =>
      intro x4_lp281 x3_lp281 x2_lp281 H locs ls t282 t283 t284 hm hP hS hl
      exfalso
      have := i32_rng x4_lp281
      have := i32_rng x3_lp281
      have := i32_rng x2_lp281
      omega
    | succ n ih_lp281 =>
      intro x4_lp281 x3_lp281 x2_lp281 H locs ls t282 t283 t284 hm hP hS hl
      have rx4_lp281 := i32_rng x4_lp281
      have rx3_lp281 := i32_rng x3_lp281
      have rx2_lp281 := i32_rng x2_lp281
      refine lv_iload hx hb dX9_countOf_12 (lv_at hl 0 rfl) ?_
      refine lv_sipush (v := 500) hx hb dX9_countOf_14 (by decide) ?_
      refine lv_icmp_ge (tgt := 41) hx hb dX9_countOf_17 (by decide) (fun c285 => ?_) (fun c285 => ?_)
      · skip
        have t286 := cv_le (a := 500) (by decide) (b := x4_lp281.toInt) rfl c285
        refine lv_iload_n hx hb dX9_countOf_41 rfl (lv_at hl 2 rfl) ?_
        have hP9 : va_P (dC, dI) classes (wX g c v F rc) H := hP
        exact W.iret (v := x2_lp281) hx hb hr (fun t ht hW => ⟨⟨x2_lp281, (), rfl, trivial, (by show va_P _ _ _ t.heap; rw [ht]; exact hP9)⟩, hS.F ht⟩) hS.2.2 dX9_countOf_42
      · skip
        have t287 := cv_nle (a := 500) (by decide) (b := x4_lp281.toInt) rfl c285
        refine lv_iload_n hx hb dX9_countOf_20 rfl (lv_at hl 1 rfl) ?_
        refine lv_iconst (v := (-1)) hx hb dX9_countOf_21 (by decide) ?_
        refine lv_icmp_eq (tgt := 41) hx hb dX9_countOf_22 (by decide) (fun c288 => ?_) (fun c288 => ?_)
        · skip
          have t289 := cv_eq (a := x3_lp281.toInt) rfl (b := (-1)) (by decide) c288
          refine lv_iload_n hx hb dX9_countOf_41 rfl (lv_at hl 2 rfl) ?_
          have hP9 : va_P (dC, dI) classes (wX g c v F rc) H := hP
          exact W.iret (v := x2_lp281) hx hb hr (fun t ht hW => ⟨⟨x2_lp281, (), rfl, trivial, (by show va_P _ _ _ t.heap; rw [ht]; exact hP9)⟩, hS.F ht⟩) hS.2.2 dX9_countOf_42
        · skip
          have t290 := cv_ne (a := x3_lp281.toInt) rfl (b := (-1)) (by decide) c288
          obtain ⟨z291, e292⟩ : ∃ y : Int32, y = x2_lp281 + 1 := ⟨_, rfl⟩
          try (have t293 := tadd e292 rfl (b := 1) (by decide) (by omega))
          refine lv_iinc (v := z291) (lv' := [(2, .int z291), (4, .int x4_lp281), (3, .int x3_lp281), (0, .ref (g 4)), (1, .int p0)]) hx hb dX9_countOf_25 hl (k := 2) rfl (by rw [e292]; rfl) (by decide) rfl (fun ls hl => ?_)
          refine lv_aload_n hx hb dX9_countOf_28 rfl (lv_at hl 3 rfl) ?_
          refine va_get (D := (dC, dI)) (ci := 9) (v := .ref (g 37)) (C := RX9) (T := TX9) (N := 11) hx hb hwd inA_X9 hown hK hP 4 rfl rfl 9 (by decide) (hwd _ wk_89) (fun _ h9 => h9) rfl dX9_countOf_29 ?_
          refine lv_iload_n hx hb dX9_countOf_32 rfl (lv_at hl 2 rfl) ?_
          refine va_iald hx hb hK hP 37 25 rfl rfl (i := x3_lp281) (vin (a := x3_lp281.toInt) rfl (by omega)) dX9_countOf_33 ?_
          refine lv_topi (fun z294 e295 => ?_)
          have t296 : -1 ≤ z294.toInt ∧ z294.toInt ≤ 499 := by rw [e295]; exact hI.2 37 _ _ rfl _
          refine lv_istore_n (lv' := [(3, .int z294), (2, .int z291), (4, .int x4_lp281), (0, .ref (g 4)), (1, .int p0)]) hx hb dX9_countOf_34 rfl hl (by decide) rfl (fun ls hl => ?_)
          obtain ⟨z297, e298⟩ : ∃ y : Int32, y = x4_lp281 + 1 := ⟨_, rfl⟩
          try (have t299 := tadd e298 rfl (b := 1) (by decide) (by omega))
          refine lv_iinc (v := z297) (lv' := [(4, .int z297), (3, .int z294), (2, .int z291), (0, .ref (g 4)), (1, .int p0)]) hx hb dX9_countOf_35 hl (k := 2) rfl (by rw [e298]; rfl) (by decide) rfl (fun ls hl => ?_)
          refine lv_goto (tgt := 12) hx hb dX9_countOf_38 (by decide) ?_
          exact ih_lp281 z297 z294 z291  _ _ _ (by omega) (by omega) (by omega) (by omega) hP hS (lv_sub hl [0, 1, 2, 3, 4] rfl)
  obtain ⟨n9, hn9⟩ : ∃ n : Nat, 2147483648 - 0 ≤ (n : Int) := ⟨((2147483648 - 0 : Int)).toNat, by omega⟩
  exact lp281 n9 0 z278 0  H _ ls (by have : (0 : Int32).toInt = 0 := (by decide); have : (0 : Int32).toInt = 0 := (by decide); omega) (by have : (0 : Int32).toInt = 0 := (by decide); have : (0 : Int32).toInt = 0 := (by decide); omega) (by have : (0 : Int32).toInt = 0 := (by decide); have : (0 : Int32).toInt = 0 := (by decide); omega) (by have : (0 : Int32).toInt = 0 := (by decide); have : (0 : Int32).toInt = 0 := (by decide); omega) hP hS hl
set_option maxHeartbeats 8000000 in
set_option maxRecDepth 100000 in
theorem c_X9_gapsOf (l : Launch) (dC : Nat → ClassId) (dI : Nat → Nat → Nat) (g : Nat → Nat) (c : Nat → ClassId) (adK adV : Nat → Nat) (v : Nat → Int32) (F : Nat → Nat → Int32) (rc sz : Nat) (p0 : Int32) (hg : injX g) (hI : IX v F) (h0 : 0 ≤ p0.toInt ∧ p0.toInt ≤ 99) : Met l yX9_gapsOf (Cond.code yX9_gapsOf cX9_gapsOf 5 (some .int) :: wA) ({ frames := 3, cells := 0, slots := 0, locals := 120 }) (va_Pc [.ref (g 4), .int p0] (PX dC dI g c adK adV v F rc sz)) (va_Qi (fun (r : Int32) (u : Unit) => True) (fun (_ : Unit) => BX dC dI g c (v, F, rc)) (AX g sz)) 0 0 (AX g sz) := by
  refine Met.ofW (cc := cX9_gapsOf) (maxL := 5) (ret := (some .int)) (by decide) rfl ?_
  intro p e s m args below meth c0 s₁ B hml hv
  obtain ⟨rfl, hsz, hP, hK, hE⟩ := hv
  have hx := B.exec
  have hb := B.bytes
  have hr := B.returns
  have hts := atoms_spec (ws := Cond.code yX9_gapsOf cX9_gapsOf 5 (some .int) :: wA) B.pre
  have hwd : ∀ w ∈ wA, w.before _ s = true := fun w h => hts w (List.mem_cons_of_mem _ h)
  have hown : s.vm.findClass RX9 = some m.cls := findClass_of_methodNamed B.named
  have hlocks := B.notSynchronized
  subst hsz
  have hl := lv_entry ([.ref (g 4), .int p0]) (n := 5) (Nat.le_of_ble_eq_true rfl)
  rw [lg_entry_eq]
  generalize (lg_sl ([.ref (g 4), .int p0]) ++ List.replicate (5 - (lg_sl ([.ref (g 4), .int p0])).length) Slot.unset).toArray = ls at hl ⊢
  have hl : lv_has ls 5 [(0, .ref (g 4)), (1, .int p0)] := hl
  obtain ⟨H, eH⟩ : ∃ z, z = s.heap := ⟨_, rfl⟩
  have hP : va_P (dC, dI) classes (wX g c v F rc) H := by rw [eH]; exact hP
  have hS : va_S (AX g s.heap.size) s.heap H [] := by rw [eH]; exact va_S.rf
  refine my_heap eH ?_
  have rp0 := i32_rng p0
  refine lv_iconst (v := 0) hx hb dX9_gapsOf_0 (by decide) ?_
  refine lv_istore_n (lv' := [(2, .int 0), (0, .ref (g 4)), (1, .int p0)]) hx hb dX9_gapsOf_1 rfl hl (by decide) rfl (fun ls hl => ?_)
  refine lv_aload_n hx hb dX9_gapsOf_2 rfl (lv_at hl 1 rfl) ?_
  refine va_get (D := (dC, dI)) (ci := 9) (v := .ref (g 38)) (C := RX9) (T := TX9) (N := 11) hx hb hwd inA_X9 hown hK hP 4 rfl rfl 10 (by decide) (hwd _ wk_90) (fun _ h9 => h9) rfl dX9_gapsOf_3 ?_
  refine lv_iload_n hx hb dX9_gapsOf_6 rfl (lv_at hl 2 rfl) ?_
  refine va_iald hx hb hK hP 38 26 rfl rfl (i := p0) (vin (a := p0.toInt) rfl (by omega)) dX9_gapsOf_7 ?_
  refine lv_topi (fun z300 e301 => ?_)
  have t302 : -1 ≤ z300.toInt ∧ z300.toInt ≤ 499 := by rw [e301]; exact hI.2 38 _ _ rfl _
  refine lv_istore_n (lv' := [(3, .int z300), (2, .int 0), (0, .ref (g 4)), (1, .int p0)]) hx hb dX9_gapsOf_8 rfl hl (by decide) rfl (fun ls hl => ?_)
  refine lv_iconst (v := 0) hx hb dX9_gapsOf_9 (by decide) ?_
  refine lv_istore (lv' := [(4, .int 0), (3, .int z300), (2, .int 0), (0, .ref (g 4)), (1, .int p0)]) hx hb dX9_gapsOf_10 hl (by decide) rfl (fun ls hl => ?_)
  have lp303 : ∀ (n : Nat) (x4_lp303 : Int32) (x3_lp303 : Int32) (x2_lp303 : Int32) (H : Heap) (locs : List Loc) (ls : Array Slot), (0 ≤ x4_lp303.toInt) → (-1 ≤ x3_lp303.toInt) → (x3_lp303.toInt ≤ 499) → (2147483648 - x4_lp303.toInt ≤ (n : Int)) → va_P (dC, dI) classes (wX g c v F rc) H → va_S (AX g s.heap.size) s.heap H locs → lv_has ls 5 [(4, .int x4_lp303), (3, .int x3_lp303), (2, .int x2_lp303), (0, .ref (g 4)), (1, .int p0)] → W p l e (headSpec (Cond.code yX9_gapsOf cX9_gapsOf 5 (some .int) :: wA) ({ frames := 3, cells := 0, slots := 0, locals := 120 })).room s m ([.ref (g 4), .int p0] : List Value).toArray below meth c0 H locs 0 0 (MQ below (va_Qi (fun (r : Int32) (u : Unit) => True) (fun (_ : Unit) => BX dC dI g c (v, F, rc)) (AX g s.heap.size)) ([.ref (g 4), .int p0] : List Value).toArray s 0 0 (AX g s.heap.size)) (F0 m 12 ls []) := by
    intro n
    induction n with
    | zero =>
      intro x4_lp303 x3_lp303 x2_lp303 H locs ls t304 t305 t306 hm hP hS hl
      exfalso
      have := i32_rng x4_lp303
      have := i32_rng x3_lp303
      have := i32_rng x2_lp303
      omega
    | succ n ih_lp303 =>
      intro x4_lp303 x3_lp303 x2_lp303 H locs ls t304 t305 t306 hm hP hS hl
      have rx4_lp303 := i32_rng x4_lp303
      have rx3_lp303 := i32_rng x3_lp303
      have rx2_lp303 := i32_rng x2_lp303
      refine lv_iload hx hb dX9_gapsOf_12 (lv_at hl 0 rfl) ?_
      refine lv_sipush (v := 500) hx hb dX9_gapsOf_14 (by decide) ?_
      refine lv_icmp_ge (tgt := 54) hx hb dX9_gapsOf_17 (by decide) (fun c307 => ?_) (fun c307 => ?_)
      · skip
        have t308 := cv_le (a := 500) (by decide) (b := x4_lp303.toInt) rfl c307
        refine lv_iload_n hx hb dX9_gapsOf_54 rfl (lv_at hl 2 rfl) ?_
        have hP9 : va_P (dC, dI) classes (wX g c v F rc) H := hP
        exact W.iret (v := x2_lp303) hx hb hr (fun t ht hW => ⟨⟨x2_lp303, (), rfl, trivial, (by show va_P _ _ _ t.heap; rw [ht]; exact hP9)⟩, hS.F ht⟩) hS.2.2 dX9_gapsOf_55
      · skip
        have t309 := cv_nle (a := 500) (by decide) (b := x4_lp303.toInt) rfl c307
        refine lv_iload_n hx hb dX9_gapsOf_20 rfl (lv_at hl 1 rfl) ?_
        refine lv_iconst (v := (-1)) hx hb dX9_gapsOf_21 (by decide) ?_
        refine lv_icmp_eq (tgt := 54) hx hb dX9_gapsOf_22 (by decide) (fun c310 => ?_) (fun c310 => ?_)
        · skip
          have t311 := cv_eq (a := x3_lp303.toInt) rfl (b := (-1)) (by decide) c310
          refine lv_iload_n hx hb dX9_gapsOf_54 rfl (lv_at hl 2 rfl) ?_
          have hP9 : va_P (dC, dI) classes (wX g c v F rc) H := hP
          exact W.iret (v := x2_lp303) hx hb hr (fun t ht hW => ⟨⟨x2_lp303, (), rfl, trivial, (by show va_P _ _ _ t.heap; rw [ht]; exact hP9)⟩, hS.F ht⟩) hS.2.2 dX9_gapsOf_55
        · skip
          have t312 := cv_ne (a := x3_lp303.toInt) rfl (b := (-1)) (by decide) c310
          refine lv_iload_n hx hb dX9_gapsOf_25 rfl (lv_at hl 2 rfl) ?_
          refine lv_aload_n hx hb dX9_gapsOf_26 rfl (lv_at hl 3 rfl) ?_
          refine lv_iload_n hx hb dX9_gapsOf_27 rfl (lv_at hl 1 rfl) ?_
          refine va_calli (va_runV (As := [.int x3_lp303]) (rest := [.int x2_lp303]) ⟨hx, hb, hml, hown, hwd⟩ (c_X9_isGap l dC dI g c adK adV v F rc H.size x3_lp303 hg hI (by omega)) (cwV 1 hwd (gV wk_373 wk_406 wk_371 wk_372 wk_22) rfl rfl rfl (by decide +kernel) ⟨Nat.le_of_ble_eq_true rfl, Nat.le_of_ble_eq_true rfl⟩) ⟨PX.blind, va_recv hK hP (ci := 9) (q0 := 4) rfl rfl, fun U hU hW => ⟨rfl, PX.at hK hE hP hS hU hW⟩⟩ rfl rfl hl.1 rfl (lv_room (Nat.le_of_ble_eq_true rfl)) dX9_gapsOf_28 ⟨Nat.le_of_ble_eq_true rfl, Nat.le_of_ble_eq_true rfl⟩) hS (fun q _ h => (freeX hS) q h) (freeX hS) (fun r313 u t H1 locs ht hvm hw hB hz1 hk1 hS => ?_)
          unfold BX at hB
          rw [ht] at hB
          have hP : va_P (dC, dI) classes (wX g c v F rc) H1 := hB
          have hw : 0 ≤ r313.toInt ∧ r313.toInt ≤ 1 := hw
          generalize H1 = H at hP hS ⊢
          have hw_r313 := hw
          refine lv_if_eq (tgt := 38) hx hb dX9_gapsOf_31 (by decide) (fun c314 => ?_) (fun c314 => ?_)
          · skip
            have t315 := cv_eq (a := r313.toInt) rfl (b := 0) (by decide) c314
            refine lv_iconst (v := 0) hx hb dX9_gapsOf_38 (by decide) ?_
            refine lv_iadd hx hb dX9_gapsOf_39 ?_
            refine lv_topi (fun z316 e317 => ?_)
            try (have t318 := tadd e317 (a := x2_lp303.toInt) rfl (b := 0) (by decide) (by omega))
            refine lv_istore_n (lv' := [(2, .int z316), (4, .int x4_lp303), (3, .int x3_lp303), (0, .ref (g 4)), (1, .int p0)]) hx hb dX9_gapsOf_40 rfl hl (by decide) rfl (fun ls hl => ?_)
            refine lv_aload_n hx hb dX9_gapsOf_41 rfl (lv_at hl 3 rfl) ?_
            refine va_get (D := (dC, dI)) (ci := 9) (v := .ref (g 37)) (C := RX9) (T := TX9) (N := 11) hx hb hwd inA_X9 hown hK hP 4 rfl rfl 9 (by decide) (hwd _ wk_89) (fun _ h9 => h9) rfl dX9_gapsOf_42 ?_
            refine lv_iload_n hx hb dX9_gapsOf_45 rfl (lv_at hl 2 rfl) ?_
            refine va_iald hx hb hK hP 37 25 rfl rfl (i := x3_lp303) (vin (a := x3_lp303.toInt) rfl (by omega)) dX9_gapsOf_46 ?_
            refine lv_topi (fun z319 e320 => ?_)
            have t321 : -1 ≤ z319.toInt ∧ z319.toInt ≤ 499 := by rw [e320]; exact hI.2 37 _ _ rfl _
            refine lv_istore_n (lv' := [(3, .int z319), (2, .int z316), (4, .int x4_lp303), (0, .ref (g 4)), (1, .int p0)]) hx hb dX9_gapsOf_47 rfl hl (by decide) rfl (fun ls hl => ?_)
            obtain ⟨z322, e323⟩ : ∃ y : Int32, y = x4_lp303 + 1 := ⟨_, rfl⟩
            try (have t324 := tadd e323 rfl (b := 1) (by decide) (by omega))
            refine lv_iinc (v := z322) (lv' := [(4, .int z322), (3, .int z319), (2, .int z316), (0, .ref (g 4)), (1, .int p0)]) hx hb dX9_gapsOf_48 hl (k := 2) rfl (by rw [e323]; rfl) (by decide) rfl (fun ls hl => ?_)
            refine lv_goto (tgt := 12) hx hb dX9_gapsOf_51 (by decide) ?_
            exact ih_lp303 z322 z319 z316  _ _ _ (by omega) (by omega) (by omega) (by omega) hP hS (lv_sub hl [0, 1, 2, 3, 4] rfl)
          · skip
            have t325 := cv_ne (a := r313.toInt) rfl (b := 0) (by decide) c314
            refine lv_iconst (v := 1) hx hb dX9_gapsOf_34 (by decide) ?_
            refine lv_goto (tgt := 39) hx hb dX9_gapsOf_35 (by decide) ?_
            refine lv_iadd hx hb dX9_gapsOf_39 ?_
            refine lv_topi (fun z326 e327 => ?_)
            try (have t328 := tadd e327 (a := x2_lp303.toInt) rfl (b := 1) (by decide) (by omega))
            refine lv_istore_n (lv' := [(2, .int z326), (4, .int x4_lp303), (3, .int x3_lp303), (0, .ref (g 4)), (1, .int p0)]) hx hb dX9_gapsOf_40 rfl hl (by decide) rfl (fun ls hl => ?_)
            refine lv_aload_n hx hb dX9_gapsOf_41 rfl (lv_at hl 3 rfl) ?_
            refine va_get (D := (dC, dI)) (ci := 9) (v := .ref (g 37)) (C := RX9) (T := TX9) (N := 11) hx hb hwd inA_X9 hown hK hP 4 rfl rfl 9 (by decide) (hwd _ wk_89) (fun _ h9 => h9) rfl dX9_gapsOf_42 ?_
            refine lv_iload_n hx hb dX9_gapsOf_45 rfl (lv_at hl 2 rfl) ?_
            refine va_iald hx hb hK hP 37 25 rfl rfl (i := x3_lp303) (vin (a := x3_lp303.toInt) rfl (by omega)) dX9_gapsOf_46 ?_
            refine lv_topi (fun z329 e330 => ?_)
            have t331 : -1 ≤ z329.toInt ∧ z329.toInt ≤ 499 := by rw [e330]; exact hI.2 37 _ _ rfl _
            refine lv_istore_n (lv' := [(3, .int z329), (2, .int z326), (4, .int x4_lp303), (0, .ref (g 4)), (1, .int p0)]) hx hb dX9_gapsOf_47 rfl hl (by decide) rfl (fun ls hl => ?_)
            obtain ⟨z332, e333⟩ : ∃ y : Int32, y = x4_lp303 + 1 := ⟨_, rfl⟩
            try (have t334 := tadd e333 rfl (b := 1) (by decide) (by omega))
            refine lv_iinc (v := z332) (lv' := [(4, .int z332), (3, .int z329), (2, .int z326), (0, .ref (g 4)), (1, .int p0)]) hx hb dX9_gapsOf_48 hl (k := 2) rfl (by rw [e333]; rfl) (by decide) rfl (fun ls hl => ?_)
            refine lv_goto (tgt := 12) hx hb dX9_gapsOf_51 (by decide) ?_
            exact ih_lp303 z332 z329 z326  _ _ _ (by omega) (by omega) (by omega) (by omega) hP hS (lv_sub hl [0, 1, 2, 3, 4] rfl)
  obtain ⟨n9, hn9⟩ : ∃ n : Nat, 2147483648 - 0 ≤ (n : Int) := ⟨((2147483648 - 0 : Int)).toNat, by omega⟩
  exact lp303 n9 0 z300 0  H _ ls (by have : (0 : Int32).toInt = 0 := (by decide); have : (0 : Int32).toInt = 0 := (by decide); omega) (by have : (0 : Int32).toInt = 0 := (by decide); have : (0 : Int32).toInt = 0 := (by decide); omega) (by have : (0 : Int32).toInt = 0 := (by decide); have : (0 : Int32).toInt = 0 := (by decide); omega) (by have : (0 : Int32).toInt = 0 := (by decide); have : (0 : Int32).toInt = 0 := (by decide); omega) hP hS hl
set_option maxHeartbeats 8000000 in
set_option maxRecDepth 100000 in
theorem c_X9_gapsAhead (l : Launch) (dC : Nat → ClassId) (dI : Nat → Nat → Nat) (g : Nat → Nat) (c : Nat → ClassId) (adK adV : Nat → Nat) (v : Nat → Int32) (F : Nat → Nat → Int32) (rc sz : Nat) (p0 : Int32) (p1 : Int32) (hg : injX g) (hI : IX v F) (h0 : 0 ≤ p0.toInt ∧ p0.toInt ≤ 99) (h1 : 0 ≤ p1.toInt ∧ p1.toInt ≤ 499) : Met l yX9_gapsAhead (Cond.code yX9_gapsAhead cX9_gapsAhead 7 (some .int) :: wA) ({ frames := 3, cells := 0, slots := 0, locals := 120 }) (va_Pc [.ref (g 4), .int p0, .int p1] (PX dC dI g c adK adV v F rc sz)) (va_Qi (fun (r : Int32) (u : Unit) => True) (fun (_ : Unit) => BX dC dI g c (v, F, rc)) (AX g sz)) 0 0 (AX g sz) := by
  refine Met.ofW (cc := cX9_gapsAhead) (maxL := 7) (ret := (some .int)) (by decide) rfl ?_
  intro p e s m args below meth c0 s₁ B hml hv
  obtain ⟨rfl, hsz, hP, hK, hE⟩ := hv
  have hx := B.exec
  have hb := B.bytes
  have hr := B.returns
  have hts := atoms_spec (ws := Cond.code yX9_gapsAhead cX9_gapsAhead 7 (some .int) :: wA) B.pre
  have hwd : ∀ w ∈ wA, w.before _ s = true := fun w h => hts w (List.mem_cons_of_mem _ h)
  have hown : s.vm.findClass RX9 = some m.cls := findClass_of_methodNamed B.named
  have hlocks := B.notSynchronized
  subst hsz
  have hl := lv_entry ([.ref (g 4), .int p0, .int p1]) (n := 7) (Nat.le_of_ble_eq_true rfl)
  rw [lg_entry_eq]
  generalize (lg_sl ([.ref (g 4), .int p0, .int p1]) ++ List.replicate (7 - (lg_sl ([.ref (g 4), .int p0, .int p1])).length) Slot.unset).toArray = ls at hl ⊢
  have hl : lv_has ls 7 [(0, .ref (g 4)), (1, .int p0), (2, .int p1)] := hl
  obtain ⟨H, eH⟩ : ∃ z, z = s.heap := ⟨_, rfl⟩
  have hP : va_P (dC, dI) classes (wX g c v F rc) H := by rw [eH]; exact hP
  have hS : va_S (AX g s.heap.size) s.heap H [] := by rw [eH]; exact va_S.rf
  refine my_heap eH ?_
  have rp0 := i32_rng p0
  have rp1 := i32_rng p1
  refine lv_iconst (v := 0) hx hb dX9_gapsAhead_0 (by decide) ?_
  refine lv_istore_n (lv' := [(3, .int 0), (0, .ref (g 4)), (1, .int p0), (2, .int p1)]) hx hb dX9_gapsAhead_1 rfl hl (by decide) rfl (fun ls hl => ?_)
  refine lv_aload_n hx hb dX9_gapsAhead_2 rfl (lv_at hl 1 rfl) ?_
  refine va_get (D := (dC, dI)) (ci := 9) (v := .ref (g 38)) (C := RX9) (T := TX9) (N := 11) hx hb hwd inA_X9 hown hK hP 4 rfl rfl 10 (by decide) (hwd _ wk_90) (fun _ h9 => h9) rfl dX9_gapsAhead_3 ?_
  refine lv_iload_n hx hb dX9_gapsAhead_6 rfl (lv_at hl 2 rfl) ?_
  refine va_iald hx hb hK hP 38 26 rfl rfl (i := p0) (vin (a := p0.toInt) rfl (by omega)) dX9_gapsAhead_7 ?_
  refine lv_topi (fun z335 e336 => ?_)
  have t337 : -1 ≤ z335.toInt ∧ z335.toInt ≤ 499 := by rw [e336]; exact hI.2 38 _ _ rfl _
  refine lv_istore (lv' := [(4, .int z335), (3, .int 0), (0, .ref (g 4)), (1, .int p0), (2, .int p1)]) hx hb dX9_gapsAhead_8 hl (by decide) rfl (fun ls hl => ?_)
  refine lv_iconst (v := 1) hx hb dX9_gapsAhead_10 (by decide) ?_
  refine lv_istore (lv' := [(5, .int 1), (4, .int z335), (3, .int 0), (0, .ref (g 4)), (1, .int p0), (2, .int p1)]) hx hb dX9_gapsAhead_11 hl (by decide) rfl (fun ls hl => ?_)
  refine lv_iconst (v := 0) hx hb dX9_gapsAhead_13 (by decide) ?_
  refine lv_istore (lv' := [(6, .int 0), (5, .int 1), (4, .int z335), (3, .int 0), (0, .ref (g 4)), (1, .int p0), (2, .int p1)]) hx hb dX9_gapsAhead_14 hl (by decide) rfl (fun ls hl => ?_)
  have lp338 : ∀ (n : Nat) (x6_lp338 : Int32) (x5_lp338 : Int32) (x4_lp338 : Int32) (x3_lp338 : Int32) (H : Heap) (locs : List Loc) (ls : Array Slot), (0 ≤ x6_lp338.toInt) → (-1 ≤ x4_lp338.toInt) → (x4_lp338.toInt ≤ 499) → (2147483648 - x6_lp338.toInt ≤ (n : Int)) → va_P (dC, dI) classes (wX g c v F rc) H → va_S (AX g s.heap.size) s.heap H locs → lv_has ls 7 [(6, .int x6_lp338), (5, .int x5_lp338), (4, .int x4_lp338), (3, .int x3_lp338), (0, .ref (g 4)), (1, .int p0), (2, .int p1)] → W p l e (headSpec (Cond.code yX9_gapsAhead cX9_gapsAhead 7 (some .int) :: wA) ({ frames := 3, cells := 0, slots := 0, locals := 120 })).room s m ([.ref (g 4), .int p0, .int p1] : List Value).toArray below meth c0 H locs 0 0 (MQ below (va_Qi (fun (r : Int32) (u : Unit) => True) (fun (_ : Unit) => BX dC dI g c (v, F, rc)) (AX g s.heap.size)) ([.ref (g 4), .int p0, .int p1] : List Value).toArray s 0 0 (AX g s.heap.size)) (F0 m 16 ls []) := by
    intro n
    induction n with
    | zero =>
      intro x6_lp338 x5_lp338 x4_lp338 x3_lp338 H locs ls t339 t340 t341 hm hP hS hl
      exfalso
      have := i32_rng x6_lp338
      have := i32_rng x5_lp338
      have := i32_rng x4_lp338
      have := i32_rng x3_lp338
      omega
    | succ n ih_lp338 =>
      intro x6_lp338 x5_lp338 x4_lp338 x3_lp338 H locs ls t339 t340 t341 hm hP hS hl
      have rx6_lp338 := i32_rng x6_lp338
      have rx5_lp338 := i32_rng x5_lp338
      have rx4_lp338 := i32_rng x4_lp338
      have rx3_lp338 := i32_rng x3_lp338
      refine lv_iload hx hb dX9_gapsAhead_16 (lv_at hl 0 rfl) ?_
      refine lv_sipush (v := 500) hx hb dX9_gapsAhead_18 (by decide) ?_
      refine lv_icmp_ge (tgt := 106) hx hb dX9_gapsAhead_21 (by decide) (fun c342 => ?_) (fun c342 => ?_)
      · skip
        have t343 := cv_le (a := 500) (by decide) (b := x6_lp338.toInt) rfl c342
        refine lv_iload_n hx hb dX9_gapsAhead_106 rfl (lv_at hl 3 rfl) ?_
        have hP9 : va_P (dC, dI) classes (wX g c v F rc) H := hP
        exact W.iret (v := x3_lp338) hx hb hr (fun t ht hW => ⟨⟨x3_lp338, (), rfl, trivial, (by show va_P _ _ _ t.heap; rw [ht]; exact hP9)⟩, hS.F ht⟩) hS.2.2 dX9_gapsAhead_107
      · skip
        have t344 := cv_nle (a := 500) (by decide) (b := x6_lp338.toInt) rfl c342
        refine lv_iload hx hb dX9_gapsAhead_24 (lv_at hl 2 rfl) ?_
        refine lv_iconst (v := (-1)) hx hb dX9_gapsAhead_26 (by decide) ?_
        refine lv_icmp_eq (tgt := 106) hx hb dX9_gapsAhead_27 (by decide) (fun c345 => ?_) (fun c345 => ?_)
        · skip
          have t346 := cv_eq (a := x4_lp338.toInt) rfl (b := (-1)) (by decide) c345
          refine lv_iload_n hx hb dX9_gapsAhead_106 rfl (lv_at hl 3 rfl) ?_
          have hP9 : va_P (dC, dI) classes (wX g c v F rc) H := hP
          exact W.iret (v := x3_lp338) hx hb hr (fun t ht hW => ⟨⟨x3_lp338, (), rfl, trivial, (by show va_P _ _ _ t.heap; rw [ht]; exact hP9)⟩, hS.F ht⟩) hS.2.2 dX9_gapsAhead_107
        · skip
          have t347 := cv_ne (a := x4_lp338.toInt) rfl (b := (-1)) (by decide) c345
          refine lv_iload hx hb dX9_gapsAhead_30 (lv_at hl 2 rfl) ?_
          refine lv_iload_n hx hb dX9_gapsAhead_32 rfl (lv_at hl 6 rfl) ?_
          refine lv_icmp_ne (tgt := 42) hx hb dX9_gapsAhead_33 (by decide) (fun c348 => ?_) (fun c348 => ?_)
          · skip
            have t349 := cv_ne (a := x4_lp338.toInt) rfl (b := p1.toInt) rfl c348
            refine lv_aload_n hx hb dX9_gapsAhead_42 rfl (lv_at hl 4 rfl) ?_
            refine lv_iload hx hb dX9_gapsAhead_43 (lv_at hl 2 rfl) ?_
            refine va_calli (va_runV (As := [.int x4_lp338]) (rest := []) ⟨hx, hb, hml, hown, hwd⟩ (c_X9_isGap l dC dI g c adK adV v F rc H.size x4_lp338 hg hI (by omega)) (cwV 1 hwd (gV wk_373 wk_406 wk_371 wk_372 wk_22) rfl rfl rfl (by decide +kernel) ⟨Nat.le_of_ble_eq_true rfl, Nat.le_of_ble_eq_true rfl⟩) ⟨PX.blind, va_recv hK hP (ci := 9) (q0 := 4) rfl rfl, fun U hU hW => ⟨rfl, PX.at hK hE hP hS hU hW⟩⟩ rfl rfl hl.1 rfl (lv_room (Nat.le_of_ble_eq_true rfl)) dX9_gapsAhead_45 ⟨Nat.le_of_ble_eq_true rfl, Nat.le_of_ble_eq_true rfl⟩) hS (fun q _ h => (freeX hS) q h) (freeX hS) (fun r350 u t H1 locs ht hvm hw hB hz1 hk1 hS => ?_)
            unfold BX at hB
            rw [ht] at hB
            have hP : va_P (dC, dI) classes (wX g c v F rc) H1 := hB
            have hw : 0 ≤ r350.toInt ∧ r350.toInt ≤ 1 := hw
            generalize H1 = H at hP hS ⊢
            have hw_r350 := hw
            refine lv_if_eq (tgt := 91) hx hb dX9_gapsAhead_48 (by decide) (fun c351 => ?_) (fun c351 => ?_)
            · skip
              have t352 := cv_eq (a := r350.toInt) rfl (b := 0) (by decide) c351
              refine lv_aload_n hx hb dX9_gapsAhead_91 rfl (lv_at hl 4 rfl) ?_
              refine va_get (D := (dC, dI)) (ci := 9) (v := .ref (g 37)) (C := RX9) (T := TX9) (N := 11) hx hb hwd inA_X9 hown hK hP 4 rfl rfl 9 (by decide) (hwd _ wk_89) (fun _ h9 => h9) rfl dX9_gapsAhead_92 ?_
              refine lv_iload hx hb dX9_gapsAhead_95 (lv_at hl 2 rfl) ?_
              refine va_iald hx hb hK hP 37 25 rfl rfl (i := x4_lp338) (vin (a := x4_lp338.toInt) rfl (by omega)) dX9_gapsAhead_97 ?_
              refine lv_topi (fun z353 e354 => ?_)
              have t355 : -1 ≤ z353.toInt ∧ z353.toInt ≤ 499 := by rw [e354]; exact hI.2 37 _ _ rfl _
              refine lv_istore (lv' := [(4, .int z353), (6, .int x6_lp338), (5, .int x5_lp338), (3, .int x3_lp338), (0, .ref (g 4)), (1, .int p0), (2, .int p1)]) hx hb dX9_gapsAhead_98 hl (by decide) rfl (fun ls hl => ?_)
              obtain ⟨z356, e357⟩ : ∃ y : Int32, y = x6_lp338 + 1 := ⟨_, rfl⟩
              try (have t358 := tadd e357 rfl (b := 1) (by decide) (by omega))
              refine lv_iinc (v := z356) (lv' := [(6, .int z356), (4, .int z353), (5, .int x5_lp338), (3, .int x3_lp338), (0, .ref (g 4)), (1, .int p0), (2, .int p1)]) hx hb dX9_gapsAhead_100 hl (k := 1) rfl (by rw [e357]; rfl) (by decide) rfl (fun ls hl => ?_)
              refine lv_goto (tgt := 16) hx hb dX9_gapsAhead_103 (by decide) ?_
              exact ih_lp338 z356 x5_lp338 z353 x3_lp338  _ _ _ (by omega) (by omega) (by omega) (by omega) hP hS (lv_sub hl [0, 2, 1, 3, 4, 5, 6] rfl)
            · skip
              have t359 := cv_ne (a := r350.toInt) rfl (b := 0) (by decide) c351
              refine lv_aload_n hx hb dX9_gapsAhead_51 rfl (lv_at hl 4 rfl) ?_
              refine va_get (D := (dC, dI)) (ci := 9) (v := .ref (g 31)) (C := RX9) (T := TX9) (N := 11) hx hb hwd inA_X9 hown hK hP 4 rfl rfl 3 (by decide) (hwd _ wk_82) (fun _ h9 => h9) rfl dX9_gapsAhead_52 ?_
              refine lv_iload hx hb dX9_gapsAhead_55 (lv_at hl 2 rfl) ?_
              refine va_iald hx hb hK hP 31 19 rfl rfl (i := x4_lp338) (vin (a := x4_lp338.toInt) rfl (by omega)) dX9_gapsAhead_57 ?_
              refine lv_topi (fun z360 e361 => ?_)
              refine lv_aload_n hx hb dX9_gapsAhead_58 rfl (lv_at hl 4 rfl) ?_
              refine va_get (D := (dC, dI)) (ci := 9) (v := .ref (g 31)) (C := RX9) (T := TX9) (N := 11) hx hb hwd inA_X9 hown hK hP 4 rfl rfl 3 (by decide) (hwd _ wk_82) (fun _ h9 => h9) rfl dX9_gapsAhead_59 ?_
              refine lv_iload_n hx hb dX9_gapsAhead_62 rfl (lv_at hl 6 rfl) ?_
              refine va_iald hx hb hK hP 31 19 rfl rfl (i := p1) (vin (a := p1.toInt) rfl (by omega)) dX9_gapsAhead_63 ?_
              refine lv_topi (fun z362 e363 => ?_)
              refine lv_icmp_lt (tgt := 88) hx hb dX9_gapsAhead_64 (by decide) (fun c364 => ?_) (fun c364 => ?_)
              · skip
                have t365 := cv_lt (a := z360.toInt) rfl (b := z362.toInt) rfl c364
                obtain ⟨z366, e367⟩ : ∃ y : Int32, y = x3_lp338 + 1 := ⟨_, rfl⟩
                try (have t368 := tadd e367 rfl (b := 1) (by decide) (by omega))
                refine lv_iinc (v := z366) (lv' := [(3, .int z366), (6, .int x6_lp338), (5, .int x5_lp338), (4, .int x4_lp338), (0, .ref (g 4)), (1, .int p0), (2, .int p1)]) hx hb dX9_gapsAhead_88 hl (k := 3) rfl (by rw [e367]; rfl) (by decide) rfl (fun ls hl => ?_)
                refine lv_aload_n hx hb dX9_gapsAhead_91 rfl (lv_at hl 4 rfl) ?_
                refine va_get (D := (dC, dI)) (ci := 9) (v := .ref (g 37)) (C := RX9) (T := TX9) (N := 11) hx hb hwd inA_X9 hown hK hP 4 rfl rfl 9 (by decide) (hwd _ wk_89) (fun _ h9 => h9) rfl dX9_gapsAhead_92 ?_
                refine lv_iload hx hb dX9_gapsAhead_95 (lv_at hl 3 rfl) ?_
                refine va_iald hx hb hK hP 37 25 rfl rfl (i := x4_lp338) (vin (a := x4_lp338.toInt) rfl (by omega)) dX9_gapsAhead_97 ?_
                refine lv_topi (fun z369 e370 => ?_)
                have t371 : -1 ≤ z369.toInt ∧ z369.toInt ≤ 499 := by rw [e370]; exact hI.2 37 _ _ rfl _
                refine lv_istore (lv' := [(4, .int z369), (3, .int z366), (6, .int x6_lp338), (5, .int x5_lp338), (0, .ref (g 4)), (1, .int p0), (2, .int p1)]) hx hb dX9_gapsAhead_98 hl (by decide) rfl (fun ls hl => ?_)
                obtain ⟨z372, e373⟩ : ∃ y : Int32, y = x6_lp338 + 1 := ⟨_, rfl⟩
                try (have t374 := tadd e373 rfl (b := 1) (by decide) (by omega))
                refine lv_iinc (v := z372) (lv' := [(6, .int z372), (4, .int z369), (3, .int z366), (5, .int x5_lp338), (0, .ref (g 4)), (1, .int p0), (2, .int p1)]) hx hb dX9_gapsAhead_100 hl (k := 2) rfl (by rw [e373]; rfl) (by decide) rfl (fun ls hl => ?_)
                refine lv_goto (tgt := 16) hx hb dX9_gapsAhead_103 (by decide) ?_
                exact ih_lp338 z372 x5_lp338 z369 z366  _ _ _ (by omega) (by omega) (by omega) (by omega) hP hS (lv_sub hl [0, 3, 1, 2, 4, 5, 6] rfl)
              · skip
                have t375 := cv_nlt (a := z360.toInt) rfl (b := z362.toInt) rfl c364
                refine lv_iload hx hb dX9_gapsAhead_67 (lv_at hl 1 rfl) ?_
                refine lv_if_eq (tgt := 91) hx hb dX9_gapsAhead_69 (by decide) (fun c376 => ?_) (fun c376 => ?_)
                · skip
                  have t377 := cv_eq (a := x5_lp338.toInt) rfl (b := 0) (by decide) c376
                  refine lv_aload_n hx hb dX9_gapsAhead_91 rfl (lv_at hl 4 rfl) ?_
                  refine va_get (D := (dC, dI)) (ci := 9) (v := .ref (g 37)) (C := RX9) (T := TX9) (N := 11) hx hb hwd inA_X9 hown hK hP 4 rfl rfl 9 (by decide) (hwd _ wk_89) (fun _ h9 => h9) rfl dX9_gapsAhead_92 ?_
                  refine lv_iload hx hb dX9_gapsAhead_95 (lv_at hl 2 rfl) ?_
                  refine va_iald hx hb hK hP 37 25 rfl rfl (i := x4_lp338) (vin (a := x4_lp338.toInt) rfl (by omega)) dX9_gapsAhead_97 ?_
                  refine lv_topi (fun z378 e379 => ?_)
                  have t380 : -1 ≤ z378.toInt ∧ z378.toInt ≤ 499 := by rw [e379]; exact hI.2 37 _ _ rfl _
                  refine lv_istore (lv' := [(4, .int z378), (6, .int x6_lp338), (5, .int x5_lp338), (3, .int x3_lp338), (0, .ref (g 4)), (1, .int p0), (2, .int p1)]) hx hb dX9_gapsAhead_98 hl (by decide) rfl (fun ls hl => ?_)
                  obtain ⟨z381, e382⟩ : ∃ y : Int32, y = x6_lp338 + 1 := ⟨_, rfl⟩
                  try (have t383 := tadd e382 rfl (b := 1) (by decide) (by omega))
                  refine lv_iinc (v := z381) (lv' := [(6, .int z381), (4, .int z378), (5, .int x5_lp338), (3, .int x3_lp338), (0, .ref (g 4)), (1, .int p0), (2, .int p1)]) hx hb dX9_gapsAhead_100 hl (k := 1) rfl (by rw [e382]; rfl) (by decide) rfl (fun ls hl => ?_)
                  refine lv_goto (tgt := 16) hx hb dX9_gapsAhead_103 (by decide) ?_
                  exact ih_lp338 z381 x5_lp338 z378 x3_lp338  _ _ _ (by omega) (by omega) (by omega) (by omega) hP hS (lv_sub hl [0, 2, 1, 3, 4, 5, 6] rfl)
                · skip
                  have t384 := cv_ne (a := x5_lp338.toInt) rfl (b := 0) (by decide) c376
                  refine lv_aload_n hx hb dX9_gapsAhead_72 rfl (lv_at hl 4 rfl) ?_
                  refine va_get (D := (dC, dI)) (ci := 9) (v := .ref (g 31)) (C := RX9) (T := TX9) (N := 11) hx hb hwd inA_X9 hown hK hP 4 rfl rfl 3 (by decide) (hwd _ wk_82) (fun _ h9 => h9) rfl dX9_gapsAhead_73 ?_
                  refine lv_iload hx hb dX9_gapsAhead_76 (lv_at hl 2 rfl) ?_
                  refine va_iald hx hb hK hP 31 19 rfl rfl (i := x4_lp338) (vin (a := x4_lp338.toInt) rfl (by omega)) dX9_gapsAhead_78 ?_
                  refine lv_topi (fun z385 e386 => ?_)
                  refine lv_aload_n hx hb dX9_gapsAhead_79 rfl (lv_at hl 4 rfl) ?_
                  refine va_get (D := (dC, dI)) (ci := 9) (v := .ref (g 31)) (C := RX9) (T := TX9) (N := 11) hx hb hwd inA_X9 hown hK hP 4 rfl rfl 3 (by decide) (hwd _ wk_82) (fun _ h9 => h9) rfl dX9_gapsAhead_80 ?_
                  refine lv_iload_n hx hb dX9_gapsAhead_83 rfl (lv_at hl 6 rfl) ?_
                  refine va_iald hx hb hK hP 31 19 rfl rfl (i := p1) (vin (a := p1.toInt) rfl (by omega)) dX9_gapsAhead_84 ?_
                  refine lv_topi (fun z387 e388 => ?_)
                  refine lv_icmp_ne (tgt := 91) hx hb dX9_gapsAhead_85 (by decide) (fun c389 => ?_) (fun c389 => ?_)
                  · skip
                    have t390 := cv_ne (a := z385.toInt) rfl (b := z387.toInt) rfl c389
                    refine lv_aload_n hx hb dX9_gapsAhead_91 rfl (lv_at hl 4 rfl) ?_
                    refine va_get (D := (dC, dI)) (ci := 9) (v := .ref (g 37)) (C := RX9) (T := TX9) (N := 11) hx hb hwd inA_X9 hown hK hP 4 rfl rfl 9 (by decide) (hwd _ wk_89) (fun _ h9 => h9) rfl dX9_gapsAhead_92 ?_
                    refine lv_iload hx hb dX9_gapsAhead_95 (lv_at hl 2 rfl) ?_
                    refine va_iald hx hb hK hP 37 25 rfl rfl (i := x4_lp338) (vin (a := x4_lp338.toInt) rfl (by omega)) dX9_gapsAhead_97 ?_
                    refine lv_topi (fun z391 e392 => ?_)
                    have t393 : -1 ≤ z391.toInt ∧ z391.toInt ≤ 499 := by rw [e392]; exact hI.2 37 _ _ rfl _
                    refine lv_istore (lv' := [(4, .int z391), (6, .int x6_lp338), (5, .int x5_lp338), (3, .int x3_lp338), (0, .ref (g 4)), (1, .int p0), (2, .int p1)]) hx hb dX9_gapsAhead_98 hl (by decide) rfl (fun ls hl => ?_)
                    obtain ⟨z394, e395⟩ : ∃ y : Int32, y = x6_lp338 + 1 := ⟨_, rfl⟩
                    try (have t396 := tadd e395 rfl (b := 1) (by decide) (by omega))
                    refine lv_iinc (v := z394) (lv' := [(6, .int z394), (4, .int z391), (5, .int x5_lp338), (3, .int x3_lp338), (0, .ref (g 4)), (1, .int p0), (2, .int p1)]) hx hb dX9_gapsAhead_100 hl (k := 1) rfl (by rw [e395]; rfl) (by decide) rfl (fun ls hl => ?_)
                    refine lv_goto (tgt := 16) hx hb dX9_gapsAhead_103 (by decide) ?_
                    exact ih_lp338 z394 x5_lp338 z391 x3_lp338  _ _ _ (by omega) (by omega) (by omega) (by omega) hP hS (lv_sub hl [0, 2, 1, 3, 4, 5, 6] rfl)
                  · skip
                    have t397 := cv_eq (a := z385.toInt) rfl (b := z387.toInt) rfl c389
                    obtain ⟨z398, e399⟩ : ∃ y : Int32, y = x3_lp338 + 1 := ⟨_, rfl⟩
                    try (have t400 := tadd e399 rfl (b := 1) (by decide) (by omega))
                    refine lv_iinc (v := z398) (lv' := [(3, .int z398), (6, .int x6_lp338), (5, .int x5_lp338), (4, .int x4_lp338), (0, .ref (g 4)), (1, .int p0), (2, .int p1)]) hx hb dX9_gapsAhead_88 hl (k := 3) rfl (by rw [e399]; rfl) (by decide) rfl (fun ls hl => ?_)
                    refine lv_aload_n hx hb dX9_gapsAhead_91 rfl (lv_at hl 4 rfl) ?_
                    refine va_get (D := (dC, dI)) (ci := 9) (v := .ref (g 37)) (C := RX9) (T := TX9) (N := 11) hx hb hwd inA_X9 hown hK hP 4 rfl rfl 9 (by decide) (hwd _ wk_89) (fun _ h9 => h9) rfl dX9_gapsAhead_92 ?_
                    refine lv_iload hx hb dX9_gapsAhead_95 (lv_at hl 3 rfl) ?_
                    refine va_iald hx hb hK hP 37 25 rfl rfl (i := x4_lp338) (vin (a := x4_lp338.toInt) rfl (by omega)) dX9_gapsAhead_97 ?_
                    refine lv_topi (fun z401 e402 => ?_)
                    have t403 : -1 ≤ z401.toInt ∧ z401.toInt ≤ 499 := by rw [e402]; exact hI.2 37 _ _ rfl _
                    refine lv_istore (lv' := [(4, .int z401), (3, .int z398), (6, .int x6_lp338), (5, .int x5_lp338), (0, .ref (g 4)), (1, .int p0), (2, .int p1)]) hx hb dX9_gapsAhead_98 hl (by decide) rfl (fun ls hl => ?_)
                    obtain ⟨z404, e405⟩ : ∃ y : Int32, y = x6_lp338 + 1 := ⟨_, rfl⟩
                    try (have t406 := tadd e405 rfl (b := 1) (by decide) (by omega))
                    refine lv_iinc (v := z404) (lv' := [(6, .int z404), (4, .int z401), (3, .int z398), (5, .int x5_lp338), (0, .ref (g 4)), (1, .int p0), (2, .int p1)]) hx hb dX9_gapsAhead_100 hl (k := 2) rfl (by rw [e405]; rfl) (by decide) rfl (fun ls hl => ?_)
                    refine lv_goto (tgt := 16) hx hb dX9_gapsAhead_103 (by decide) ?_
                    exact ih_lp338 z404 x5_lp338 z401 z398  _ _ _ (by omega) (by omega) (by omega) (by omega) hP hS (lv_sub hl [0, 3, 1, 2, 4, 5, 6] rfl)
          · skip
            have t407 := cv_eq (a := x4_lp338.toInt) rfl (b := p1.toInt) rfl c348
            refine lv_iconst (v := 0) hx hb dX9_gapsAhead_36 (by decide) ?_
            refine lv_istore (lv' := [(5, .int 0), (6, .int x6_lp338), (4, .int x4_lp338), (3, .int x3_lp338), (0, .ref (g 4)), (1, .int p0), (2, .int p1)]) hx hb dX9_gapsAhead_37 hl (by decide) rfl (fun ls hl => ?_)
            refine lv_goto (tgt := 91) hx hb dX9_gapsAhead_39 (by decide) ?_
            refine lv_aload_n hx hb dX9_gapsAhead_91 rfl (lv_at hl 4 rfl) ?_
            refine va_get (D := (dC, dI)) (ci := 9) (v := .ref (g 37)) (C := RX9) (T := TX9) (N := 11) hx hb hwd inA_X9 hown hK hP 4 rfl rfl 9 (by decide) (hwd _ wk_89) (fun _ h9 => h9) rfl dX9_gapsAhead_92 ?_
            refine lv_iload hx hb dX9_gapsAhead_95 (lv_at hl 2 rfl) ?_
            refine va_iald hx hb hK hP 37 25 rfl rfl (i := x4_lp338) (vin (a := x4_lp338.toInt) rfl (by omega)) dX9_gapsAhead_97 ?_
            refine lv_topi (fun z408 e409 => ?_)
            have t410 : -1 ≤ z408.toInt ∧ z408.toInt ≤ 499 := by rw [e409]; exact hI.2 37 _ _ rfl _
            refine lv_istore (lv' := [(4, .int z408), (5, .int 0), (6, .int x6_lp338), (3, .int x3_lp338), (0, .ref (g 4)), (1, .int p0), (2, .int p1)]) hx hb dX9_gapsAhead_98 hl (by decide) rfl (fun ls hl => ?_)
            obtain ⟨z411, e412⟩ : ∃ y : Int32, y = x6_lp338 + 1 := ⟨_, rfl⟩
            try (have t413 := tadd e412 rfl (b := 1) (by decide) (by omega))
            refine lv_iinc (v := z411) (lv' := [(6, .int z411), (4, .int z408), (5, .int 0), (3, .int x3_lp338), (0, .ref (g 4)), (1, .int p0), (2, .int p1)]) hx hb dX9_gapsAhead_100 hl (k := 2) rfl (by rw [e412]; rfl) (by decide) rfl (fun ls hl => ?_)
            refine lv_goto (tgt := 16) hx hb dX9_gapsAhead_103 (by decide) ?_
            exact ih_lp338 z411 0 z408 x3_lp338  _ _ _ (by have : (0 : Int32).toInt = 0 := (by decide); omega) (by have : (0 : Int32).toInt = 0 := (by decide); omega) (by have : (0 : Int32).toInt = 0 := (by decide); omega) (by have : (0 : Int32).toInt = 0 := (by decide); omega) hP hS (lv_sub hl [0, 2, 1, 3, 4, 5, 6] rfl)
  obtain ⟨n9, hn9⟩ : ∃ n : Nat, 2147483648 - 0 ≤ (n : Int) := ⟨((2147483648 - 0 : Int)).toNat, by omega⟩
  exact lp338 n9 0 1 z335 0  H _ ls (by have : (0 : Int32).toInt = 0 := (by decide); have : (1 : Int32).toInt = 1 := (by decide); have : (0 : Int32).toInt = 0 := (by decide); omega) (by have : (0 : Int32).toInt = 0 := (by decide); have : (1 : Int32).toInt = 1 := (by decide); have : (0 : Int32).toInt = 0 := (by decide); omega) (by have : (0 : Int32).toInt = 0 := (by decide); have : (1 : Int32).toInt = 1 := (by decide); have : (0 : Int32).toInt = 0 := (by decide); omega) (by have : (0 : Int32).toInt = 0 := (by decide); have : (1 : Int32).toInt = 1 := (by decide); have : (0 : Int32).toInt = 0 := (by decide); omega) hP hS hl
set_option maxHeartbeats 8000000 in
set_option maxRecDepth 100000 in
theorem c_X9_lastDay (l : Launch) (dC : Nat → ClassId) (dI : Nat → Nat → Nat) (g : Nat → Nat) (c : Nat → ClassId) (adK adV : Nat → Nat) (v : Nat → Int32) (F : Nat → Nat → Int32) (rc sz : Nat) (p0 : Int32) (p1 : Int32) (hg : injX g) (hI : IX v F) (h0 : 0 ≤ p0.toInt ∧ p0.toInt ≤ 499) : Met l yX9_lastDay (Cond.code yX9_lastDay cX9_lastDay 3 (some .int) :: wA) ({ frames := 2, cells := 0, slots := 0, locals := 80 }) (va_Pc [.ref (g 4), .int p0, .int p1] (PX dC dI g c adK adV v F rc sz)) (va_Qi (fun (r : Int32) (u : Unit) => True) (fun (_ : Unit) => BX dC dI g c (v, F, rc)) (AX g sz)) 0 0 (AX g sz) := by
  refine Met.ofW (cc := cX9_lastDay) (maxL := 3) (ret := (some .int)) (by decide) rfl ?_
  intro p e s m args below meth c0 s₁ B hml hv
  obtain ⟨rfl, hsz, hP, hK, hE⟩ := hv
  have hx := B.exec
  have hb := B.bytes
  have hr := B.returns
  have hts := atoms_spec (ws := Cond.code yX9_lastDay cX9_lastDay 3 (some .int) :: wA) B.pre
  have hwd : ∀ w ∈ wA, w.before _ s = true := fun w h => hts w (List.mem_cons_of_mem _ h)
  have hown : s.vm.findClass RX9 = some m.cls := findClass_of_methodNamed B.named
  have hlocks := B.notSynchronized
  subst hsz
  have hl := lv_entry ([.ref (g 4), .int p0, .int p1]) (n := 3) (Nat.le_of_ble_eq_true rfl)
  rw [lg_entry_eq]
  generalize (lg_sl ([.ref (g 4), .int p0, .int p1]) ++ List.replicate (3 - (lg_sl ([.ref (g 4), .int p0, .int p1])).length) Slot.unset).toArray = ls at hl ⊢
  have hl : lv_has ls 3 [(0, .ref (g 4)), (1, .int p0), (2, .int p1)] := hl
  obtain ⟨H, eH⟩ : ∃ z, z = s.heap := ⟨_, rfl⟩
  have hP : va_P (dC, dI) classes (wX g c v F rc) H := by rw [eH]; exact hP
  have hS : va_S (AX g s.heap.size) s.heap H [] := by rw [eH]; exact va_S.rf
  refine my_heap eH ?_
  have rp0 := i32_rng p0
  have rp1 := i32_rng p1
  refine lv_aload_n hx hb dX9_lastDay_0 rfl (lv_at hl 0 rfl) ?_
  refine lv_iload_n hx hb dX9_lastDay_1 rfl (lv_at hl 1 rfl) ?_
  refine va_calli (va_runV (As := [.int p0]) (rest := []) ⟨hx, hb, hml, hown, hwd⟩ (c_X9_goesOn l dC dI g c adK adV v F rc H.size p0 hg hI (by omega)) (cwV 1 hwd (gV wk_377 wk_374 wk_375 wk_376 wk_22) rfl rfl rfl (by decide +kernel) ⟨Nat.le_of_ble_eq_true rfl, Nat.le_of_ble_eq_true rfl⟩) ⟨PX.blind, va_recv hK hP (ci := 9) (q0 := 4) rfl rfl, fun U hU hW => ⟨rfl, PX.at hK hE hP hS hU hW⟩⟩ rfl rfl hl.1 rfl (lv_room (Nat.le_of_ble_eq_true rfl)) dX9_lastDay_2 ⟨Nat.le_of_ble_eq_true rfl, Nat.le_of_ble_eq_true rfl⟩) hS (fun q _ h => (freeX hS) q h) (freeX hS) (fun r414 u t H1 locs ht hvm hw hB hz1 hk1 hS => ?_)
  unfold BX at hB
  rw [ht] at hB
  have hP : va_P (dC, dI) classes (wX g c v F rc) H1 := hB
  have hw : 0 ≤ r414.toInt ∧ r414.toInt ≤ 1 := hw
  generalize H1 = H at hP hS ⊢
  have hw_r414 := hw
  refine lv_if_eq (tgt := 12) hx hb dX9_lastDay_5 (by decide) (fun c415 => ?_) (fun c415 => ?_)
  · skip
    have t416 := cv_eq (a := r414.toInt) rfl (b := 0) (by decide) c415
    refine lv_aload_n hx hb dX9_lastDay_12 rfl (lv_at hl 0 rfl) ?_
    refine va_get (D := (dC, dI)) (ci := 9) (v := .ref (g 31)) (C := RX9) (T := TX9) (N := 11) hx hb hwd inA_X9 hown hK hP 4 rfl rfl 3 (by decide) (hwd _ wk_82) (fun _ h9 => h9) rfl dX9_lastDay_13 ?_
    refine lv_iload_n hx hb dX9_lastDay_16 rfl (lv_at hl 1 rfl) ?_
    refine va_iald hx hb hK hP 31 19 rfl rfl (i := p0) (vin (a := p0.toInt) rfl (by omega)) dX9_lastDay_17 ?_
    refine lv_topi (fun z417 e418 => ?_)
    have hP9 : va_P (dC, dI) classes (wX g c v F rc) H := hP
    exact W.iret (v := z417) hx hb hr (fun t ht hW => ⟨⟨z417, (), rfl, trivial, (by show va_P _ _ _ t.heap; rw [ht]; exact hP9)⟩, hS.F ht⟩) hS.2.2 dX9_lastDay_18
  · skip
    have t419 := cv_ne (a := r414.toInt) rfl (b := 0) (by decide) c415
    refine lv_iload_n hx hb dX9_lastDay_8 rfl (lv_at hl 2 rfl) ?_
    refine lv_goto (tgt := 18) hx hb dX9_lastDay_9 (by decide) ?_
    have hP9 : va_P (dC, dI) classes (wX g c v F rc) H := hP
    exact W.iret (v := p1) hx hb hr (fun t ht hW => ⟨⟨p1, (), rfl, trivial, (by show va_P _ _ _ t.heap; rw [ht]; exact hP9)⟩, hS.F ht⟩) hS.2.2 dX9_lastDay_18
set_option maxHeartbeats 8000000 in
set_option maxRecDepth 100000 in
theorem c_X9_overlap (l : Launch) (dC : Nat → ClassId) (dI : Nat → Nat → Nat) (g : Nat → Nat) (c : Nat → ClassId) (adK adV : Nat → Nat) (v : Nat → Int32) (F : Nat → Nat → Int32) (rc sz : Nat) (p0 : Int32) (p1 : Int32) (hg : injX g) (hI : IX v F) (h0 : 0 ≤ p0.toInt ∧ p0.toInt ≤ 99) : Met l yX9_overlap (Cond.code yX9_overlap cX9_overlap 7 (some .boolean) :: wA) ({ frames := 3, cells := 0, slots := 0, locals := 120 }) (va_Pc [.ref (g 4), .int p0, .int p1] (PX dC dI g c adK adV v F rc sz)) (va_Qi (fun (r : Int32) (u : Unit) => 0 ≤ r.toInt ∧ r.toInt ≤ 1) (fun (_ : Unit) => BX dC dI g c (v, F, rc)) (AX g sz)) 0 0 (AX g sz) := by
  refine Met.ofW (cc := cX9_overlap) (maxL := 7) (ret := (some .boolean)) (by decide) rfl ?_
  intro p e s m args below meth c0 s₁ B hml hv
  obtain ⟨rfl, hsz, hP, hK, hE⟩ := hv
  have hx := B.exec
  have hb := B.bytes
  have hr := B.returns
  have hts := atoms_spec (ws := Cond.code yX9_overlap cX9_overlap 7 (some .boolean) :: wA) B.pre
  have hwd : ∀ w ∈ wA, w.before _ s = true := fun w h => hts w (List.mem_cons_of_mem _ h)
  have hown : s.vm.findClass RX9 = some m.cls := findClass_of_methodNamed B.named
  have hlocks := B.notSynchronized
  subst hsz
  have hl := lv_entry ([.ref (g 4), .int p0, .int p1]) (n := 7) (Nat.le_of_ble_eq_true rfl)
  rw [lg_entry_eq]
  generalize (lg_sl ([.ref (g 4), .int p0, .int p1]) ++ List.replicate (7 - (lg_sl ([.ref (g 4), .int p0, .int p1])).length) Slot.unset).toArray = ls at hl ⊢
  have hl : lv_has ls 7 [(0, .ref (g 4)), (1, .int p0), (2, .int p1)] := hl
  obtain ⟨H, eH⟩ : ∃ z, z = s.heap := ⟨_, rfl⟩
  have hP : va_P (dC, dI) classes (wX g c v F rc) H := by rw [eH]; exact hP
  have hS : va_S (AX g s.heap.size) s.heap H [] := by rw [eH]; exact va_S.rf
  refine my_heap eH ?_
  have rp0 := i32_rng p0
  have rp1 := i32_rng p1
  refine lv_aload_n hx hb dX9_overlap_0 rfl (lv_at hl 0 rfl) ?_
  refine va_get (D := (dC, dI)) (ci := 9) (v := .ref (g 38)) (C := RX9) (T := TX9) (N := 11) hx hb hwd inA_X9 hown hK hP 4 rfl rfl 10 (by decide) (hwd _ wk_90) (fun _ h9 => h9) rfl dX9_overlap_1 ?_
  refine lv_iload_n hx hb dX9_overlap_4 rfl (lv_at hl 1 rfl) ?_
  refine va_iald hx hb hK hP 38 26 rfl rfl (i := p0) (vin (a := p0.toInt) rfl (by omega)) dX9_overlap_5 ?_
  refine lv_topi (fun z420 e421 => ?_)
  have t422 : -1 ≤ z420.toInt ∧ z420.toInt ≤ 499 := by rw [e421]; exact hI.2 38 _ _ rfl _
  refine lv_istore_n (lv' := [(3, .int z420), (0, .ref (g 4)), (1, .int p0), (2, .int p1)]) hx hb dX9_overlap_6 rfl hl (by decide) rfl (fun ls hl => ?_)
  refine lv_iconst (v := 0) hx hb dX9_overlap_7 (by decide) ?_
  refine lv_istore (lv' := [(4, .int 0), (3, .int z420), (0, .ref (g 4)), (1, .int p0), (2, .int p1)]) hx hb dX9_overlap_8 hl (by decide) rfl (fun ls hl => ?_)
  have lp423 : ∀ (n : Nat) (x4_lp423 : Int32) (x3_lp423 : Int32) (H : Heap) (locs : List Loc) (ls : Array Slot), (0 ≤ x4_lp423.toInt) → (-1 ≤ x3_lp423.toInt) → (x3_lp423.toInt ≤ 499) → (2147483648 - x4_lp423.toInt ≤ (n : Int)) → va_P (dC, dI) classes (wX g c v F rc) H → va_S (AX g s.heap.size) s.heap H locs → lv_has ls 7 [(4, .int x4_lp423), (3, .int x3_lp423), (0, .ref (g 4)), (1, .int p0), (2, .int p1)] → W p l e (headSpec (Cond.code yX9_overlap cX9_overlap 7 (some .boolean) :: wA) ({ frames := 3, cells := 0, slots := 0, locals := 120 })).room s m ([.ref (g 4), .int p0, .int p1] : List Value).toArray below meth c0 H locs 0 0 (MQ below (va_Qi (fun (r : Int32) (u : Unit) => 0 ≤ r.toInt ∧ r.toInt ≤ 1) (fun (_ : Unit) => BX dC dI g c (v, F, rc)) (AX g s.heap.size)) ([.ref (g 4), .int p0, .int p1] : List Value).toArray s 0 0 (AX g s.heap.size)) (F0 m 10 ls []) := by
    intro n
    induction n with
    | zero =>
      intro x4_lp423 x3_lp423 H locs ls t424 t425 t426 hm hP hS hl
      exfalso
      have := i32_rng x4_lp423
      have := i32_rng x3_lp423
      omega
    | succ n ih_lp423 =>
      intro x4_lp423 x3_lp423 H locs ls t424 t425 t426 hm hP hS hl
      have rx4_lp423 := i32_rng x4_lp423
      have rx3_lp423 := i32_rng x3_lp423
      refine lv_iload hx hb dX9_overlap_10 (lv_at hl 0 rfl) ?_
      refine lv_sipush (v := 500) hx hb dX9_overlap_12 (by decide) ?_
      refine lv_icmp_ge (tgt := 126) hx hb dX9_overlap_15 (by decide) (fun c427 => ?_) (fun c427 => ?_)
      · skip
        have t428 := cv_le (a := 500) (by decide) (b := x4_lp423.toInt) rfl c427
        refine lv_iconst (v := 0) hx hb dX9_overlap_126 (by decide) ?_
        have hP9 : va_P (dC, dI) classes (wX g c v F rc) H := hP
        exact W.zret (v := 0) hx hb hr (rfl) (fun t ht hW => ⟨⟨0, (), rfl, by have : (0 : Int32).toInt = 0 := (by decide); omega, (by show va_P _ _ _ t.heap; rw [ht]; exact hP9)⟩, hS.F ht⟩) hS.2.2 dX9_overlap_127
      · skip
        have t429 := cv_nle (a := 500) (by decide) (b := x4_lp423.toInt) rfl c427
        refine lv_iload_n hx hb dX9_overlap_18 rfl (lv_at hl 1 rfl) ?_
        refine lv_iconst (v := (-1)) hx hb dX9_overlap_19 (by decide) ?_
        refine lv_icmp_eq (tgt := 126) hx hb dX9_overlap_20 (by decide) (fun c430 => ?_) (fun c430 => ?_)
        · skip
          have t431 := cv_eq (a := x3_lp423.toInt) rfl (b := (-1)) (by decide) c430
          refine lv_iconst (v := 0) hx hb dX9_overlap_126 (by decide) ?_
          have hP9 : va_P (dC, dI) classes (wX g c v F rc) H := hP
          exact W.zret (v := 0) hx hb hr (rfl) (fun t ht hW => ⟨⟨0, (), rfl, by have : (0 : Int32).toInt = 0 := (by decide); omega, (by show va_P _ _ _ t.heap; rw [ht]; exact hP9)⟩, hS.F ht⟩) hS.2.2 dX9_overlap_127
        · skip
          have t432 := cv_ne (a := x3_lp423.toInt) rfl (b := (-1)) (by decide) c430
          refine lv_aload_n hx hb dX9_overlap_23 rfl (lv_at hl 2 rfl) ?_
          refine va_get (D := (dC, dI)) (ci := 9) (v := .ref (g 37)) (C := RX9) (T := TX9) (N := 11) hx hb hwd inA_X9 hown hK hP 4 rfl rfl 9 (by decide) (hwd _ wk_89) (fun _ h9 => h9) rfl dX9_overlap_24 ?_
          refine lv_iload_n hx hb dX9_overlap_27 rfl (lv_at hl 1 rfl) ?_
          refine va_iald hx hb hK hP 37 25 rfl rfl (i := x3_lp423) (vin (a := x3_lp423.toInt) rfl (by omega)) dX9_overlap_28 ?_
          refine lv_topi (fun z433 e434 => ?_)
          have t435 : -1 ≤ z433.toInt ∧ z433.toInt ≤ 499 := by rw [e434]; exact hI.2 37 _ _ rfl _
          refine lv_istore (lv' := [(5, .int z433), (4, .int x4_lp423), (3, .int x3_lp423), (0, .ref (g 4)), (1, .int p0), (2, .int p1)]) hx hb dX9_overlap_29 hl (by decide) rfl (fun ls hl => ?_)
          refine lv_iconst (v := 0) hx hb dX9_overlap_31 (by decide) ?_
          refine lv_istore (lv' := [(6, .int 0), (5, .int z433), (4, .int x4_lp423), (3, .int x3_lp423), (0, .ref (g 4)), (1, .int p0), (2, .int p1)]) hx hb dX9_overlap_32 hl (by decide) rfl (fun ls hl => ?_)
          have lp436 : ∀ (n : Nat) (x6_lp436 : Int32) (x5_lp436 : Int32) (H : Heap) (locs : List Loc) (ls : Array Slot), (0 ≤ x6_lp436.toInt) → (-1 ≤ x5_lp436.toInt) → (x5_lp436.toInt ≤ 499) → (2147483648 - x6_lp436.toInt ≤ (n : Int)) → va_P (dC, dI) classes (wX g c v F rc) H → va_S (AX g s.heap.size) s.heap H locs → lv_has ls 7 [(6, .int x6_lp436), (5, .int x5_lp436), (4, .int x4_lp423), (3, .int x3_lp423), (0, .ref (g 4)), (1, .int p0), (2, .int p1)] → W p l e (headSpec (Cond.code yX9_overlap cX9_overlap 7 (some .boolean) :: wA) ({ frames := 3, cells := 0, slots := 0, locals := 120 })).room s m ([.ref (g 4), .int p0, .int p1] : List Value).toArray below meth c0 H locs 0 0 (MQ below (va_Qi (fun (r : Int32) (u : Unit) => 0 ≤ r.toInt ∧ r.toInt ≤ 1) (fun (_ : Unit) => BX dC dI g c (v, F, rc)) (AX g s.heap.size)) ([.ref (g 4), .int p0, .int p1] : List Value).toArray s 0 0 (AX g s.heap.size)) (F0 m 34 ls []) := by
            intro n
            induction n with
            | zero =>
              intro x6_lp436 x5_lp436 H locs ls t437 t438 t439 hm hP hS hl
              exfalso
              have := i32_rng x6_lp436
              have := i32_rng x5_lp436
              omega
            | succ n ih_lp436 =>
              intro x6_lp436 x5_lp436 H locs ls t437 t438 t439 hm hP hS hl
              have rx6_lp436 := i32_rng x6_lp436
              have rx5_lp436 := i32_rng x5_lp436
              refine lv_iload hx hb dX9_overlap_34 (lv_at hl 0 rfl) ?_
              refine lv_sipush (v := 500) hx hb dX9_overlap_36 (by decide) ?_
              refine lv_icmp_ge (tgt := 113) hx hb dX9_overlap_39 (by decide) (fun c440 => ?_) (fun c440 => ?_)
              · skip
                have t441 := cv_le (a := 500) (by decide) (b := x6_lp436.toInt) rfl c440
                refine lv_aload_n hx hb dX9_overlap_113 rfl (lv_at hl 4 rfl) ?_
                refine va_get (D := (dC, dI)) (ci := 9) (v := .ref (g 37)) (C := RX9) (T := TX9) (N := 11) hx hb hwd inA_X9 hown hK hP 4 rfl rfl 9 (by decide) (hwd _ wk_89) (fun _ h9 => h9) rfl dX9_overlap_114 ?_
                refine lv_iload_n hx hb dX9_overlap_117 rfl (lv_at hl 3 rfl) ?_
                refine va_iald hx hb hK hP 37 25 rfl rfl (i := x3_lp423) (vin (a := x3_lp423.toInt) rfl (by omega)) dX9_overlap_118 ?_
                refine lv_topi (fun z442 e443 => ?_)
                have t444 : -1 ≤ z442.toInt ∧ z442.toInt ≤ 499 := by rw [e443]; exact hI.2 37 _ _ rfl _
                refine lv_istore_n (lv' := [(3, .int z442), (6, .int x6_lp436), (5, .int x5_lp436), (4, .int x4_lp423), (0, .ref (g 4)), (1, .int p0), (2, .int p1)]) hx hb dX9_overlap_119 rfl hl (by decide) rfl (fun ls hl => ?_)
                obtain ⟨z445, e446⟩ : ∃ y : Int32, y = x4_lp423 + 1 := ⟨_, rfl⟩
                try (have t447 := tadd e446 rfl (b := 1) (by decide) (by omega))
                refine lv_iinc (v := z445) (lv' := [(4, .int z445), (3, .int z442), (6, .int x6_lp436), (5, .int x5_lp436), (0, .ref (g 4)), (1, .int p0), (2, .int p1)]) hx hb dX9_overlap_120 hl (k := 3) rfl (by rw [e446]; rfl) (by decide) rfl (fun ls hl => ?_)
                refine lv_goto (tgt := 10) hx hb dX9_overlap_123 (by decide) ?_
                exact ih_lp423 z445 z442  _ _ _ (by omega) (by omega) (by omega) (by omega) hP hS (lv_sub hl [0, 1, 4, 5, 6] rfl)
              · skip
                have t448 := cv_nle (a := 500) (by decide) (b := x6_lp436.toInt) rfl c440
                refine lv_iload hx hb dX9_overlap_42 (lv_at hl 1 rfl) ?_
                refine lv_iconst (v := (-1)) hx hb dX9_overlap_44 (by decide) ?_
                refine lv_icmp_eq (tgt := 113) hx hb dX9_overlap_45 (by decide) (fun c449 => ?_) (fun c449 => ?_)
                · skip
                  have t450 := cv_eq (a := x5_lp436.toInt) rfl (b := (-1)) (by decide) c449
                  refine lv_aload_n hx hb dX9_overlap_113 rfl (lv_at hl 4 rfl) ?_
                  refine va_get (D := (dC, dI)) (ci := 9) (v := .ref (g 37)) (C := RX9) (T := TX9) (N := 11) hx hb hwd inA_X9 hown hK hP 4 rfl rfl 9 (by decide) (hwd _ wk_89) (fun _ h9 => h9) rfl dX9_overlap_114 ?_
                  refine lv_iload_n hx hb dX9_overlap_117 rfl (lv_at hl 3 rfl) ?_
                  refine va_iald hx hb hK hP 37 25 rfl rfl (i := x3_lp423) (vin (a := x3_lp423.toInt) rfl (by omega)) dX9_overlap_118 ?_
                  refine lv_topi (fun z451 e452 => ?_)
                  have t453 : -1 ≤ z451.toInt ∧ z451.toInt ≤ 499 := by rw [e452]; exact hI.2 37 _ _ rfl _
                  refine lv_istore_n (lv' := [(3, .int z451), (6, .int x6_lp436), (5, .int x5_lp436), (4, .int x4_lp423), (0, .ref (g 4)), (1, .int p0), (2, .int p1)]) hx hb dX9_overlap_119 rfl hl (by decide) rfl (fun ls hl => ?_)
                  obtain ⟨z454, e455⟩ : ∃ y : Int32, y = x4_lp423 + 1 := ⟨_, rfl⟩
                  try (have t456 := tadd e455 rfl (b := 1) (by decide) (by omega))
                  refine lv_iinc (v := z454) (lv' := [(4, .int z454), (3, .int z451), (6, .int x6_lp436), (5, .int x5_lp436), (0, .ref (g 4)), (1, .int p0), (2, .int p1)]) hx hb dX9_overlap_120 hl (k := 3) rfl (by rw [e455]; rfl) (by decide) rfl (fun ls hl => ?_)
                  refine lv_goto (tgt := 10) hx hb dX9_overlap_123 (by decide) ?_
                  exact ih_lp423 z454 z451  _ _ _ (by omega) (by omega) (by omega) (by omega) hP hS (lv_sub hl [0, 1, 4, 5, 6] rfl)
                · skip
                  have t457 := cv_ne (a := x5_lp436.toInt) rfl (b := (-1)) (by decide) c449
                  refine lv_aload_n hx hb dX9_overlap_48 rfl (lv_at hl 4 rfl) ?_
                  refine va_get (D := (dC, dI)) (ci := 9) (v := .ref (g 29)) (C := RX9) (T := TX9) (N := 11) hx hb hwd inA_X9 hown hK hP 4 rfl rfl 1 (by decide) (hwd _ wk_80) (fun _ h9 => h9) rfl dX9_overlap_49 ?_
                  refine lv_iload_n hx hb dX9_overlap_52 rfl (lv_at hl 3 rfl) ?_
                  refine va_iald hx hb hK hP 29 17 rfl rfl (i := x3_lp423) (vin (a := x3_lp423.toInt) rfl (by omega)) dX9_overlap_53 ?_
                  refine lv_topi (fun z458 e459 => ?_)
                  refine lv_aload_n hx hb dX9_overlap_54 rfl (lv_at hl 4 rfl) ?_
                  refine va_get (D := (dC, dI)) (ci := 9) (v := .ref (g 29)) (C := RX9) (T := TX9) (N := 11) hx hb hwd inA_X9 hown hK hP 4 rfl rfl 1 (by decide) (hwd _ wk_80) (fun _ h9 => h9) rfl dX9_overlap_55 ?_
                  refine lv_iload hx hb dX9_overlap_58 (lv_at hl 1 rfl) ?_
                  refine va_iald hx hb hK hP 29 17 rfl rfl (i := x5_lp436) (vin (a := x5_lp436.toInt) rfl (by omega)) dX9_overlap_60 ?_
                  refine lv_topi (fun z460 e461 => ?_)
                  refine lv_icmp_eq (tgt := 98) hx hb dX9_overlap_61 (by decide) (fun c462 => ?_) (fun c462 => ?_)
                  · skip
                    have t463 := cv_eq (a := z458.toInt) rfl (b := z460.toInt) rfl c462
                    refine lv_aload_n hx hb dX9_overlap_98 rfl (lv_at hl 4 rfl) ?_
                    refine va_get (D := (dC, dI)) (ci := 9) (v := .ref (g 37)) (C := RX9) (T := TX9) (N := 11) hx hb hwd inA_X9 hown hK hP 4 rfl rfl 9 (by decide) (hwd _ wk_89) (fun _ h9 => h9) rfl dX9_overlap_99 ?_
                    refine lv_iload hx hb dX9_overlap_102 (lv_at hl 1 rfl) ?_
                    refine va_iald hx hb hK hP 37 25 rfl rfl (i := x5_lp436) (vin (a := x5_lp436.toInt) rfl (by omega)) dX9_overlap_104 ?_
                    refine lv_topi (fun z464 e465 => ?_)
                    have t466 : -1 ≤ z464.toInt ∧ z464.toInt ≤ 499 := by rw [e465]; exact hI.2 37 _ _ rfl _
                    refine lv_istore (lv' := [(5, .int z464), (6, .int x6_lp436), (4, .int x4_lp423), (3, .int x3_lp423), (0, .ref (g 4)), (1, .int p0), (2, .int p1)]) hx hb dX9_overlap_105 hl (by decide) rfl (fun ls hl => ?_)
                    obtain ⟨z467, e468⟩ : ∃ y : Int32, y = x6_lp436 + 1 := ⟨_, rfl⟩
                    try (have t469 := tadd e468 rfl (b := 1) (by decide) (by omega))
                    refine lv_iinc (v := z467) (lv' := [(6, .int z467), (5, .int z464), (4, .int x4_lp423), (3, .int x3_lp423), (0, .ref (g 4)), (1, .int p0), (2, .int p1)]) hx hb dX9_overlap_107 hl (k := 1) rfl (by rw [e468]; rfl) (by decide) rfl (fun ls hl => ?_)
                    refine lv_goto (tgt := 34) hx hb dX9_overlap_110 (by decide) ?_
                    exact ih_lp436 z467 z464  _ _ _ (by omega) (by omega) (by omega) (by omega) hP hS (lv_sub hl [0, 1, 2, 3, 4, 5, 6] rfl)
                  · skip
                    have t470 := cv_ne (a := z458.toInt) rfl (b := z460.toInt) rfl c462
                    refine lv_aload_n hx hb dX9_overlap_64 rfl (lv_at hl 4 rfl) ?_
                    refine va_get (D := (dC, dI)) (ci := 9) (v := .ref (g 30)) (C := RX9) (T := TX9) (N := 11) hx hb hwd inA_X9 hown hK hP 4 rfl rfl 2 (by decide) (hwd _ wk_81) (fun _ h9 => h9) rfl dX9_overlap_65 ?_
                    refine lv_iload_n hx hb dX9_overlap_68 rfl (lv_at hl 3 rfl) ?_
                    refine va_iald hx hb hK hP 30 18 rfl rfl (i := x3_lp423) (vin (a := x3_lp423.toInt) rfl (by omega)) dX9_overlap_69 ?_
                    refine lv_topi (fun z471 e472 => ?_)
                    refine lv_aload_n hx hb dX9_overlap_70 rfl (lv_at hl 4 rfl) ?_
                    refine lv_iload hx hb dX9_overlap_71 (lv_at hl 1 rfl) ?_
                    refine lv_iload_n hx hb dX9_overlap_73 rfl (lv_at hl 6 rfl) ?_
                    refine va_calli (va_runV (As := [.int x5_lp436, .int p1]) (rest := [.int z471]) ⟨hx, hb, hml, hown, hwd⟩ (c_X9_lastDay l dC dI g c adK adV v F rc H.size x5_lp436 p1 hg hI (by omega)) (cwV 2 hwd (gV wk_685 wk_682 wk_683 wk_684 wk_22) rfl rfl rfl (by decide +kernel) ⟨Nat.le_of_ble_eq_true rfl, Nat.le_of_ble_eq_true rfl⟩) ⟨PX.blind, va_recv hK hP (ci := 9) (q0 := 4) rfl rfl, fun U hU hW => ⟨rfl, PX.at hK hE hP hS hU hW⟩⟩ rfl rfl hl.1 rfl (lv_room (Nat.le_of_ble_eq_true rfl)) dX9_overlap_74 ⟨Nat.le_of_ble_eq_true rfl, Nat.le_of_ble_eq_true rfl⟩) hS (fun q _ h => (freeX hS) q h) (freeX hS) (fun r473 u t H1 locs ht hvm hw hB hz1 hk1 hS => ?_)
                    unfold BX at hB
                    rw [ht] at hB
                    have hP : va_P (dC, dI) classes (wX g c v F rc) H1 := hB
                    generalize H1 = H at hP hS ⊢
                    have rr_r473 := i32_rng r473
                    refine lv_icmp_ge (tgt := 98) hx hb dX9_overlap_77 (by decide) (fun c474 => ?_) (fun c474 => ?_)
                    · skip
                      have t475 := cv_le (a := r473.toInt) rfl (b := z471.toInt) rfl c474
                      refine lv_aload_n hx hb dX9_overlap_98 rfl (lv_at hl 4 rfl) ?_
                      refine va_get (D := (dC, dI)) (ci := 9) (v := .ref (g 37)) (C := RX9) (T := TX9) (N := 11) hx hb hwd inA_X9 hown hK hP 4 rfl rfl 9 (by decide) (hwd _ wk_89) (fun _ h9 => h9) rfl dX9_overlap_99 ?_
                      refine lv_iload hx hb dX9_overlap_102 (lv_at hl 1 rfl) ?_
                      refine va_iald hx hb hK hP 37 25 rfl rfl (i := x5_lp436) (vin (a := x5_lp436.toInt) rfl (by omega)) dX9_overlap_104 ?_
                      refine lv_topi (fun z476 e477 => ?_)
                      have t478 : -1 ≤ z476.toInt ∧ z476.toInt ≤ 499 := by rw [e477]; exact hI.2 37 _ _ rfl _
                      refine lv_istore (lv' := [(5, .int z476), (6, .int x6_lp436), (4, .int x4_lp423), (3, .int x3_lp423), (0, .ref (g 4)), (1, .int p0), (2, .int p1)]) hx hb dX9_overlap_105 hl (by decide) rfl (fun ls hl => ?_)
                      obtain ⟨z479, e480⟩ : ∃ y : Int32, y = x6_lp436 + 1 := ⟨_, rfl⟩
                      try (have t481 := tadd e480 rfl (b := 1) (by decide) (by omega))
                      refine lv_iinc (v := z479) (lv' := [(6, .int z479), (5, .int z476), (4, .int x4_lp423), (3, .int x3_lp423), (0, .ref (g 4)), (1, .int p0), (2, .int p1)]) hx hb dX9_overlap_107 hl (k := 1) rfl (by rw [e480]; rfl) (by decide) rfl (fun ls hl => ?_)
                      refine lv_goto (tgt := 34) hx hb dX9_overlap_110 (by decide) ?_
                      exact ih_lp436 z479 z476  _ _ _ (by omega) (by omega) (by omega) (by omega) hP hS (lv_sub hl [0, 1, 2, 3, 4, 5, 6] rfl)
                    · skip
                      have t482 := cv_nle (a := r473.toInt) rfl (b := z471.toInt) rfl c474
                      refine lv_aload_n hx hb dX9_overlap_80 rfl (lv_at hl 4 rfl) ?_
                      refine va_get (D := (dC, dI)) (ci := 9) (v := .ref (g 30)) (C := RX9) (T := TX9) (N := 11) hx hb hwd inA_X9 hown hK hP 4 rfl rfl 2 (by decide) (hwd _ wk_81) (fun _ h9 => h9) rfl dX9_overlap_81 ?_
                      refine lv_iload hx hb dX9_overlap_84 (lv_at hl 1 rfl) ?_
                      refine va_iald hx hb hK hP 30 18 rfl rfl (i := x5_lp436) (vin (a := x5_lp436.toInt) rfl (by omega)) dX9_overlap_86 ?_
                      refine lv_topi (fun z483 e484 => ?_)
                      refine lv_aload_n hx hb dX9_overlap_87 rfl (lv_at hl 4 rfl) ?_
                      refine lv_iload_n hx hb dX9_overlap_88 rfl (lv_at hl 3 rfl) ?_
                      refine lv_iload_n hx hb dX9_overlap_89 rfl (lv_at hl 6 rfl) ?_
                      refine va_calli (va_runV (As := [.int x3_lp423, .int p1]) (rest := [.int z483]) ⟨hx, hb, hml, hown, hwd⟩ (c_X9_lastDay l dC dI g c adK adV v F rc H.size x3_lp423 p1 hg hI (by omega)) (cwV 2 hwd (gV wk_685 wk_682 wk_683 wk_684 wk_22) rfl rfl rfl (by decide +kernel) ⟨Nat.le_of_ble_eq_true rfl, Nat.le_of_ble_eq_true rfl⟩) ⟨PX.blind, va_recv hK hP (ci := 9) (q0 := 4) rfl rfl, fun U hU hW => ⟨rfl, PX.at hK hE hP hS hU hW⟩⟩ rfl rfl hl.1 rfl (lv_room (Nat.le_of_ble_eq_true rfl)) dX9_overlap_90 ⟨Nat.le_of_ble_eq_true rfl, Nat.le_of_ble_eq_true rfl⟩) hS (fun q _ h => (freeX hS) q h) (freeX hS) (fun r485 u t H1 locs ht hvm hw hB hz1 hk1 hS => ?_)
                      unfold BX at hB
                      rw [ht] at hB
                      have hP : va_P (dC, dI) classes (wX g c v F rc) H1 := hB
                      generalize H1 = H at hP hS ⊢
                      have rr_r485 := i32_rng r485
                      refine lv_icmp_ge (tgt := 98) hx hb dX9_overlap_93 (by decide) (fun c486 => ?_) (fun c486 => ?_)
                      · skip
                        have t487 := cv_le (a := r485.toInt) rfl (b := z483.toInt) rfl c486
                        refine lv_aload_n hx hb dX9_overlap_98 rfl (lv_at hl 4 rfl) ?_
                        refine va_get (D := (dC, dI)) (ci := 9) (v := .ref (g 37)) (C := RX9) (T := TX9) (N := 11) hx hb hwd inA_X9 hown hK hP 4 rfl rfl 9 (by decide) (hwd _ wk_89) (fun _ h9 => h9) rfl dX9_overlap_99 ?_
                        refine lv_iload hx hb dX9_overlap_102 (lv_at hl 1 rfl) ?_
                        refine va_iald hx hb hK hP 37 25 rfl rfl (i := x5_lp436) (vin (a := x5_lp436.toInt) rfl (by omega)) dX9_overlap_104 ?_
                        refine lv_topi (fun z488 e489 => ?_)
                        have t490 : -1 ≤ z488.toInt ∧ z488.toInt ≤ 499 := by rw [e489]; exact hI.2 37 _ _ rfl _
                        refine lv_istore (lv' := [(5, .int z488), (6, .int x6_lp436), (4, .int x4_lp423), (3, .int x3_lp423), (0, .ref (g 4)), (1, .int p0), (2, .int p1)]) hx hb dX9_overlap_105 hl (by decide) rfl (fun ls hl => ?_)
                        obtain ⟨z491, e492⟩ : ∃ y : Int32, y = x6_lp436 + 1 := ⟨_, rfl⟩
                        try (have t493 := tadd e492 rfl (b := 1) (by decide) (by omega))
                        refine lv_iinc (v := z491) (lv' := [(6, .int z491), (5, .int z488), (4, .int x4_lp423), (3, .int x3_lp423), (0, .ref (g 4)), (1, .int p0), (2, .int p1)]) hx hb dX9_overlap_107 hl (k := 1) rfl (by rw [e492]; rfl) (by decide) rfl (fun ls hl => ?_)
                        refine lv_goto (tgt := 34) hx hb dX9_overlap_110 (by decide) ?_
                        exact ih_lp436 z491 z488  _ _ _ (by omega) (by omega) (by omega) (by omega) hP hS (lv_sub hl [0, 1, 2, 3, 4, 5, 6] rfl)
                      · skip
                        have t494 := cv_nle (a := r485.toInt) rfl (b := z483.toInt) rfl c486
                        refine lv_iconst (v := 1) hx hb dX9_overlap_96 (by decide) ?_
                        have hP9 : va_P (dC, dI) classes (wX g c v F rc) H := hP
                        exact W.zret (v := 1) hx hb hr (rfl) (fun t ht hW => ⟨⟨1, (), rfl, by have : (1 : Int32).toInt = 1 := (by decide); omega, (by show va_P _ _ _ t.heap; rw [ht]; exact hP9)⟩, hS.F ht⟩) hS.2.2 dX9_overlap_97
          obtain ⟨n9, hn9⟩ : ∃ n : Nat, 2147483648 - 0 ≤ (n : Int) := ⟨((2147483648 - 0 : Int)).toNat, by omega⟩
          exact lp436 n9 0 z433  H _ ls (by have : (0 : Int32).toInt = 0 := (by decide); omega) (by have : (0 : Int32).toInt = 0 := (by decide); omega) (by have : (0 : Int32).toInt = 0 := (by decide); omega) (by have : (0 : Int32).toInt = 0 := (by decide); omega) hP hS hl
  obtain ⟨n9, hn9⟩ : ∃ n : Nat, 2147483648 - 0 ≤ (n : Int) := ⟨((2147483648 - 0 : Int)).toNat, by omega⟩
  exact lp423 n9 0 z420  H _ ls (by have : (0 : Int32).toInt = 0 := (by decide); omega) (by have : (0 : Int32).toInt = 0 := (by decide); omega) (by have : (0 : Int32).toInt = 0 := (by decide); omega) (by have : (0 : Int32).toInt = 0 := (by decide); omega) hP hS hl
