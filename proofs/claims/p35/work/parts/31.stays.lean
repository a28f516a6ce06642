set_option maxHeartbeats 8000000 in
set_option maxRecDepth 100000 in
theorem c_X9_hasRoom (l : Launch) (dC : Nat → ClassId) (dI : Nat → Nat → Nat) (g : Nat → Nat) (c : Nat → ClassId) (adK adV : Nat → Nat) (v : Nat → Int32) (F : Nat → Nat → Int32) (rc sz : Nat) (p0 : Int32) (hg : injX g) (hI : IX v F) : Met l yX9_hasRoom (Cond.code yX9_hasRoom cX9_hasRoom 2 (some .boolean) :: wA) ({ frames := 1, cells := 0, slots := 0, locals := 40 }) (va_Pc [.ref (g 4), .int p0] (PX dC dI g c adK adV v F rc sz)) (va_Qi (fun (r : Int32) (u : Unit) => 0 ≤ r.toInt ∧ r.toInt ≤ 1) (fun (_ : Unit) => BX dC dI g c (v, F, rc)) (AX g sz)) 0 0 (AX g sz) := by
  refine Met.ofW (cc := cX9_hasRoom) (maxL := 2) (ret := (some .boolean)) (by decide) rfl ?_
  intro p e s m args below meth c0 s₁ B hml hv
  obtain ⟨rfl, hsz, hP, hK, hE⟩ := hv
  have hx := B.exec
  have hb := B.bytes
  have hr := B.returns
  have hts := atoms_spec (ws := Cond.code yX9_hasRoom cX9_hasRoom 2 (some .boolean) :: wA) B.pre
  have hwd : ∀ w ∈ wA, w.before _ s = true := fun w h => hts w (List.mem_cons_of_mem _ h)
  have hown : s.vm.findClass RX9 = some m.cls := findClass_of_methodNamed B.named
  have hlocks := B.notSynchronized
  subst hsz
  have hl := lv_entry ([.ref (g 4), .int p0]) (n := 2) (Nat.le_of_ble_eq_true rfl)
  rw [lg_entry_eq]
  generalize (lg_sl ([.ref (g 4), .int p0]) ++ List.replicate (2 - (lg_sl ([.ref (g 4), .int p0])).length) Slot.unset).toArray = ls at hl ⊢
  have hl : lv_has ls 2 [(0, .ref (g 4)), (1, .int p0)] := hl
  obtain ⟨H, eH⟩ : ∃ z, z = s.heap := ⟨_, rfl⟩
  have hP : va_P (dC, dI) classes (wX g c v F rc) H := by rw [eH]; exact hP
  have hS : va_S (AX g s.heap.size) s.heap H [] := by rw [eH]; exact va_S.rf
  refine my_heap eH ?_
  have rp0 := i32_rng p0
  refine lv_aload_n hx hb dX9_hasRoom_0 rfl (lv_at hl 0 rfl) ?_
  refine va_get (D := (dC, dI)) (ci := 9) (v := .int (v 80)) (C := RX9) (T := TX9) (N := 11) hx hb hwd inA_X9 hown hK hP 4 rfl rfl 0 (by decide) (hwd _ wk_566) (fun _ h9 => h9) rfl dX9_hasRoom_1 ?_
  have t179 : 0 ≤ (v 80).toInt ∧ (v 80).toInt ≤ 500 := hI.1 80 _ _ rfl
  refine lv_iload_n hx hb dX9_hasRoom_4 rfl (lv_at hl 1 rfl) ?_
  refine lv_iadd hx hb dX9_hasRoom_5 ?_
  refine lv_topi (fun z180 e181 => ?_)
  try (have t182 := tadd e181 (a := (v 80).toInt) rfl (b := p0.toInt) rfl (by omega))
  refine lv_sipush (v := 500) hx hb dX9_hasRoom_6 (by decide) ?_
  refine lv_icmp_gt (tgt := 16) hx hb dX9_hasRoom_9 (by decide) (fun c183 => ?_) (fun c183 => ?_)
  · skip
    have t184 := cv_lt (a := 500) (by decide) (b := z180.toInt) rfl c183
    refine lv_iconst (v := 0) hx hb dX9_hasRoom_16 (by decide) ?_
    have hP9 : va_P (dC, dI) classes (wX g c v F rc) H := hP
    exact W.zret (v := 0) hx hb hr (rfl) (fun t ht hW => ⟨⟨0, (), rfl, by have : (0 : Int32).toInt = 0 := (by decide); omega, (by show va_P _ _ _ t.heap; rw [ht]; exact hP9)⟩, hS.F ht⟩) hS.2.2 dX9_hasRoom_17
  · skip
    have t185 := cv_nlt (a := 500) (by decide) (b := z180.toInt) rfl c183
    refine lv_iconst (v := 1) hx hb dX9_hasRoom_12 (by decide) ?_
    refine lv_goto (tgt := 17) hx hb dX9_hasRoom_13 (by decide) ?_
    have hP9 : va_P (dC, dI) classes (wX g c v F rc) H := hP
    exact W.zret (v := 1) hx hb hr (rfl) (fun t ht hW => ⟨⟨1, (), rfl, by have : (1 : Int32).toInt = 1 := (by decide); omega, (by show va_P _ _ _ t.heap; rw [ht]; exact hP9)⟩, hS.F ht⟩) hS.2.2 dX9_hasRoom_17
set_option maxHeartbeats 8000000 in
set_option maxRecDepth 100000 in
theorem c_X9_goesOn (l : Launch) (dC : Nat → ClassId) (dI : Nat → Nat → Nat) (g : Nat → Nat) (c : Nat → ClassId) (adK adV : Nat → Nat) (v : Nat → Int32) (F : Nat → Nat → Int32) (rc sz : Nat) (p0 : Int32) (hg : injX g) (hI : IX v F) (h0 : 0 ≤ p0.toInt ∧ p0.toInt ≤ 499) : Met l yX9_goesOn (Cond.code yX9_goesOn cX9_goesOn 2 (some .boolean) :: wA) ({ frames := 1, cells := 0, slots := 0, locals := 40 }) (va_Pc [.ref (g 4), .int p0] (PX dC dI g c adK adV v F rc sz)) (va_Qi (fun (r : Int32) (u : Unit) => 0 ≤ r.toInt ∧ r.toInt ≤ 1) (fun (_ : Unit) => BX dC dI g c (v, F, rc)) (AX g sz)) 0 0 (AX g sz) := by
  refine Met.ofW (cc := cX9_goesOn) (maxL := 2) (ret := (some .boolean)) (by decide) rfl ?_
  intro p e s m args below meth c0 s₁ B hml hv
  obtain ⟨rfl, hsz, hP, hK, hE⟩ := hv
  have hx := B.exec
  have hb := B.bytes
  have hr := B.returns
  have hts := atoms_spec (ws := Cond.code yX9_goesOn cX9_goesOn 2 (some .boolean) :: wA) B.pre
  have hwd : ∀ w ∈ wA, w.before _ s = true := fun w h => hts w (List.mem_cons_of_mem _ h)
  have hown : s.vm.findClass RX9 = some m.cls := findClass_of_methodNamed B.named
  have hlocks := B.notSynchronized
  subst hsz
  have hl := lv_entry ([.ref (g 4), .int p0]) (n := 2) (Nat.le_of_ble_eq_true rfl)
  rw [lg_entry_eq]
  generalize (lg_sl ([.ref (g 4), .int p0]) ++ List.replicate (2 - (lg_sl ([.ref (g 4), .int p0])).length) Slot.unset).toArray = ls at hl ⊢
  have hl : lv_has ls 2 [(0, .ref (g 4)), (1, .int p0)] := hl
  obtain ⟨H, eH⟩ : ∃ z, z = s.heap := ⟨_, rfl⟩
  have hP : va_P (dC, dI) classes (wX g c v F rc) H := by rw [eH]; exact hP
  have hS : va_S (AX g s.heap.size) s.heap H [] := by rw [eH]; exact va_S.rf
  refine my_heap eH ?_
  have rp0 := i32_rng p0
  refine lv_aload_n hx hb dX9_goesOn_0 rfl (lv_at hl 0 rfl) ?_
  refine va_get (D := (dC, dI)) (ci := 9) (v := .ref (g 31)) (C := RX9) (T := TX9) (N := 11) hx hb hwd inA_X9 hown hK hP 4 rfl rfl 3 (by decide) (hwd _ wk_82) (fun _ h9 => h9) rfl dX9_goesOn_1 ?_
  refine lv_iload_n hx hb dX9_goesOn_4 rfl (lv_at hl 1 rfl) ?_
  refine va_iald hx hb hK hP 31 19 rfl rfl (i := p0) (vin (a := p0.toInt) rfl (by omega)) dX9_goesOn_5 ?_
  refine lv_topi (fun z186 e187 => ?_)
  refine lv_ldc (v := (-2000000000)) hx hb hown (hwd _ wk_378) dX9_goesOn_6 ?_
  refine lv_icmp_ne (tgt := 15) hx hb dX9_goesOn_8 (by decide) (fun c188 => ?_) (fun c188 => ?_)
  · skip
    have t189 := cv_ne (a := z186.toInt) rfl (b := (-2000000000)) (by decide) c188
    refine lv_iconst (v := 0) hx hb dX9_goesOn_15 (by decide) ?_
    have hP9 : va_P (dC, dI) classes (wX g c v F rc) H := hP
    exact W.zret (v := 0) hx hb hr (rfl) (fun t ht hW => ⟨⟨0, (), rfl, by have : (0 : Int32).toInt = 0 := (by decide); omega, (by show va_P _ _ _ t.heap; rw [ht]; exact hP9)⟩, hS.F ht⟩) hS.2.2 dX9_goesOn_16
  · skip
    have t190 := cv_eq (a := z186.toInt) rfl (b := (-2000000000)) (by decide) c188
    refine lv_iconst (v := 1) hx hb dX9_goesOn_11 (by decide) ?_
    refine lv_goto (tgt := 16) hx hb dX9_goesOn_12 (by decide) ?_
    have hP9 : va_P (dC, dI) classes (wX g c v F rc) H := hP
    exact W.zret (v := 1) hx hb hr (rfl) (fun t ht hW => ⟨⟨1, (), rfl, by have : (1 : Int32).toInt = 1 := (by decide); omega, (by show va_P _ _ _ t.heap; rw [ht]; exact hP9)⟩, hS.F ht⟩) hS.2.2 dX9_goesOn_16
set_option maxHeartbeats 8000000 in
set_option maxRecDepth 100000 in
theorem c_X9_isGap (l : Launch) (dC : Nat → ClassId) (dI : Nat → Nat → Nat) (g : Nat → Nat) (c : Nat → ClassId) (adK adV : Nat → Nat) (v : Nat → Int32) (F : Nat → Nat → Int32) (rc sz : Nat) (p0 : Int32) (hg : injX g) (hI : IX v F) (h0 : 0 ≤ p0.toInt ∧ p0.toInt ≤ 499) : Met l yX9_isGap (Cond.code yX9_isGap cX9_isGap 2 (some .boolean) :: wA) ({ frames := 2, cells := 0, slots := 0, locals := 80 }) (va_Pc [.ref (g 4), .int p0] (PX dC dI g c adK adV v F rc sz)) (va_Qi (fun (r : Int32) (u : Unit) => 0 ≤ r.toInt ∧ r.toInt ≤ 1) (fun (_ : Unit) => BX dC dI g c (v, F, rc)) (AX g sz)) 0 0 (AX g sz) := by
  refine Met.ofW (cc := cX9_isGap) (maxL := 2) (ret := (some .boolean)) (by decide) rfl ?_
  intro p e s m args below meth c0 s₁ B hml hv
  obtain ⟨rfl, hsz, hP, hK, hE⟩ := hv
  have hx := B.exec
  have hb := B.bytes
  have hr := B.returns
  have hts := atoms_spec (ws := Cond.code yX9_isGap cX9_isGap 2 (some .boolean) :: wA) B.pre
  have hwd : ∀ w ∈ wA, w.before _ s = true := fun w h => hts w (List.mem_cons_of_mem _ h)
  have hown : s.vm.findClass RX9 = some m.cls := findClass_of_methodNamed B.named
  have hlocks := B.notSynchronized
  subst hsz
  have hl := lv_entry ([.ref (g 4), .int p0]) (n := 2) (Nat.le_of_ble_eq_true rfl)
  rw [lg_entry_eq]
  generalize (lg_sl ([.ref (g 4), .int p0]) ++ List.replicate (2 - (lg_sl ([.ref (g 4), .int p0])).length) Slot.unset).toArray = ls at hl ⊢
  have hl : lv_has ls 2 [(0, .ref (g 4)), (1, .int p0)] := hl
  obtain ⟨H, eH⟩ : ∃ z, z = s.heap := ⟨_, rfl⟩
  have hP : va_P (dC, dI) classes (wX g c v F rc) H := by rw [eH]; exact hP
  have hS : va_S (AX g s.heap.size) s.heap H [] := by rw [eH]; exact va_S.rf
  refine my_heap eH ?_
  have rp0 := i32_rng p0
  refine lv_aload_n hx hb dX9_isGap_0 rfl (lv_at hl 0 rfl) ?_
  refine lv_iload_n hx hb dX9_isGap_1 rfl (lv_at hl 1 rfl) ?_
  refine va_calli (va_runV (As := [.int p0]) (rest := []) ⟨hx, hb, hml, hown, hwd⟩ (c_X9_goesOn l dC dI g c adK adV v F rc H.size p0 hg hI (by omega)) (cwV 1 hwd (gV wk_377 wk_374 wk_375 wk_376 wk_22) rfl rfl rfl (by decide +kernel) ⟨Nat.le_of_ble_eq_true rfl, Nat.le_of_ble_eq_true rfl⟩) ⟨PX.blind, va_recv hK hP (ci := 9) (q0 := 4) rfl rfl, fun U hU hW => ⟨rfl, PX.at hK hE hP hS hU hW⟩⟩ rfl rfl hl.1 rfl (lv_room (Nat.le_of_ble_eq_true rfl)) dX9_isGap_2 ⟨Nat.le_of_ble_eq_true rfl, Nat.le_of_ble_eq_true rfl⟩) hS (fun q _ h => (freeX hS) q h) (freeX hS) (fun r191 u t H1 locs ht hvm hw hB hz1 hk1 hS => ?_)
  unfold BX at hB
  rw [ht] at hB
  have hP : va_P (dC, dI) classes (wX g c v F rc) H1 := hB
  have hw : 0 ≤ r191.toInt ∧ r191.toInt ≤ 1 := hw
  generalize H1 = H at hP hS ⊢
  have hw_r191 := hw
  refine lv_if_ne (tgt := 21) hx hb dX9_isGap_5 (by decide) (fun c192 => ?_) (fun c192 => ?_)
  · skip
    have t193 := cv_ne (a := r191.toInt) rfl (b := 0) (by decide) c192
    refine lv_iconst (v := 0) hx hb dX9_isGap_21 (by decide) ?_
    have hP9 : va_P (dC, dI) classes (wX g c v F rc) H := hP
    exact W.zret (v := 0) hx hb hr (rfl) (fun t ht hW => ⟨⟨0, (), rfl, by have : (0 : Int32).toInt = 0 := (by decide); omega, (by show va_P _ _ _ t.heap; rw [ht]; exact hP9)⟩, hS.F ht⟩) hS.2.2 dX9_isGap_22
  · skip
    have t194 := cv_eq (a := r191.toInt) rfl (b := 0) (by decide) c192
    refine lv_aload_n hx hb dX9_isGap_8 rfl (lv_at hl 0 rfl) ?_
    refine va_get (D := (dC, dI)) (ci := 9) (v := .ref (g 36)) (C := RX9) (T := TX9) (N := 11) hx hb hwd inA_X9 hown hK hP 4 rfl rfl 8 (by decide) (hwd _ wk_88) (fun _ h9 => h9) rfl dX9_isGap_9 ?_
    refine lv_iload_n hx hb dX9_isGap_12 rfl (lv_at hl 1 rfl) ?_
    refine va_zald hx hb hK hP 36 24 rfl rfl (i := p0) (vin (a := p0.toInt) rfl (by omega)) dX9_isGap_13 ?_
    refine lv_topi (fun z195 e196 => ?_)
    refine lv_if_ne (tgt := 21) hx hb dX9_isGap_14 (by decide) (fun c197 => ?_) (fun c197 => ?_)
    · skip
      have t198 := cv_ne (a := z195.toInt) rfl (b := 0) (by decide) c197
      refine lv_iconst (v := 0) hx hb dX9_isGap_21 (by decide) ?_
      have hP9 : va_P (dC, dI) classes (wX g c v F rc) H := hP
      exact W.zret (v := 0) hx hb hr (rfl) (fun t ht hW => ⟨⟨0, (), rfl, by have : (0 : Int32).toInt = 0 := (by decide); omega, (by show va_P _ _ _ t.heap; rw [ht]; exact hP9)⟩, hS.F ht⟩) hS.2.2 dX9_isGap_22
    · skip
      have t199 := cv_eq (a := z195.toInt) rfl (b := 0) (by decide) c197
      refine lv_iconst (v := 1) hx hb dX9_isGap_17 (by decide) ?_
      refine lv_goto (tgt := 22) hx hb dX9_isGap_18 (by decide) ?_
      have hP9 : va_P (dC, dI) classes (wX g c v F rc) H := hP
      exact W.zret (v := 1) hx hb hr (rfl) (fun t ht hW => ⟨⟨1, (), rfl, by have : (1 : Int32).toInt = 1 := (by decide); omega, (by show va_P _ _ _ t.heap; rw [ht]; exact hP9)⟩, hS.F ht⟩) hS.2.2 dX9_isGap_22
set_option maxHeartbeats 8000000 in
set_option maxRecDepth 100000 in
theorem c_X9_usedAtStart (l : Launch) (dC : Nat → ClassId) (dI : Nat → Nat → Nat) (g : Nat → Nat) (c : Nat → ClassId) (adK adV : Nat → Nat) (v : Nat → Int32) (F : Nat → Nat → Int32) (rc sz : Nat) (p0 : Int32) (p1 : Int32) (hg : injX g) (hI : IX v F) (h0 : 0 ≤ p0.toInt ∧ p0.toInt ≤ 499) : Met l yX9_usedAtStart (Cond.code yX9_usedAtStart cX9_usedAtStart 3 (some .int) :: wA) ({ frames := 1, cells := 0, slots := 0, locals := 40 }) (va_Pc [.ref (g 4), .int p0, .int p1] (PX dC dI g c adK adV v F rc sz)) (va_Qi (fun (r : Int32) (u : Unit) => True) (fun (_ : Unit) => BX dC dI g c (v, F, rc)) (AX g sz)) 0 0 (AX g sz) := by
  refine Met.ofW (cc := cX9_usedAtStart) (maxL := 3) (ret := (some .int)) (by decide) rfl ?_
  intro p e s m args below meth c0 s₁ B hml hv
  obtain ⟨rfl, hsz, hP, hK, hE⟩ := hv
  have hx := B.exec
  have hb := B.bytes
  have hr := B.returns
  have hts := atoms_spec (ws := Cond.code yX9_usedAtStart cX9_usedAtStart 3 (some .int) :: wA) B.pre
  have hwd : ∀ w ∈ wA, w.before _ s = true := fun w h => hts w (List.mem_cons_of_mem _ h)
  have hown : s.vm.findClass RX9 = some m.cls := findClass_of_methodNamed B.named
  have hlocks := B.notSynchronized
  subst hsz
  have hl := lv_entry ([.ref (g 4), .int p0, .int p1]) (n := 3) (Nat.le_of_ble_eq_true rfl)
  rw [lg_entry_eq]
  generalize (lg_sl ([.ref (g 4), .int p0, .int p1]) ++ List.replicate (3 - (lg_sl ([.ref (g 4), .int p0, .int p1])).length) Slot.unset).toArray = ls at hl ⊢
  have hl : lv_has ls 3 [(0, .ref (g 4)), (1, .int p0), (2, .int p1)] := hl
  obtain ⟨H, eH⟩ : ∃ z, z = s.heap := ⟨_, rfl⟩
  have hP : va_P (dC, dI) classes (wX g c v F rc) H := by rw [eH]; exact hP
  have hS : va_S (AX g s.heap.size) s.heap H [] := by rw [eH]; exact va_S.rf
  refine my_heap eH ?_
  have rp0 := i32_rng p0
  have rp1 := i32_rng p1
  refine lv_iload_n hx hb dX9_usedAtStart_0 rfl (lv_at hl 2 rfl) ?_
  refine lv_if_ne (tgt := 13) hx hb dX9_usedAtStart_1 (by decide) (fun c200 => ?_) (fun c200 => ?_)
  · skip
    have t201 := cv_ne (a := p1.toInt) rfl (b := 0) (by decide) c200
    refine lv_aload_n hx hb dX9_usedAtStart_13 rfl (lv_at hl 0 rfl) ?_
    refine va_get (D := (dC, dI)) (ci := 9) (v := .ref (g 34)) (C := RX9) (T := TX9) (N := 11) hx hb hwd inA_X9 hown hK hP 4 rfl rfl 6 (by decide) (hwd _ wk_85) (fun _ h9 => h9) rfl dX9_usedAtStart_14 ?_
    refine lv_iload_n hx hb dX9_usedAtStart_17 rfl (lv_at hl 1 rfl) ?_
    refine va_iald hx hb hK hP 34 22 rfl rfl (i := p0) (vin (a := p0.toInt) rfl (by omega)) dX9_usedAtStart_18 ?_
    refine lv_topi (fun z202 e203 => ?_)
    have hP9 : va_P (dC, dI) classes (wX g c v F rc) H := hP
    exact W.iret (v := z202) hx hb hr (fun t ht hW => ⟨⟨z202, (), rfl, trivial, (by show va_P _ _ _ t.heap; rw [ht]; exact hP9)⟩, hS.F ht⟩) hS.2.2 dX9_usedAtStart_19
  · skip
    have t204 := cv_eq (a := p1.toInt) rfl (b := 0) (by decide) c200
    refine lv_aload_n hx hb dX9_usedAtStart_4 rfl (lv_at hl 0 rfl) ?_
    refine va_get (D := (dC, dI)) (ci := 9) (v := .ref (g 32)) (C := RX9) (T := TX9) (N := 11) hx hb hwd inA_X9 hown hK hP 4 rfl rfl 4 (by decide) (hwd _ wk_83) (fun _ h9 => h9) rfl dX9_usedAtStart_5 ?_
    refine lv_iload_n hx hb dX9_usedAtStart_8 rfl (lv_at hl 1 rfl) ?_
    refine va_iald hx hb hK hP 32 20 rfl rfl (i := p0) (vin (a := p0.toInt) rfl (by omega)) dX9_usedAtStart_9 ?_
    refine lv_topi (fun z205 e206 => ?_)
    refine lv_goto (tgt := 19) hx hb dX9_usedAtStart_10 (by decide) ?_
    have hP9 : va_P (dC, dI) classes (wX g c v F rc) H := hP
    exact W.iret (v := z205) hx hb hr (fun t ht hW => ⟨⟨z205, (), rfl, trivial, (by show va_P _ _ _ t.heap; rw [ht]; exact hP9)⟩, hS.F ht⟩) hS.2.2 dX9_usedAtStart_19
set_option maxHeartbeats 8000000 in
set_option maxRecDepth 100000 in
theorem c_X9_usedAtEnd (l : Launch) (dC : Nat → ClassId) (dI : Nat → Nat → Nat) (g : Nat → Nat) (c : Nat → ClassId) (adK adV : Nat → Nat) (v : Nat → Int32) (F : Nat → Nat → Int32) (rc sz : Nat) (p0 : Int32) (p1 : Int32) (hg : injX g) (hI : IX v F) (h0 : 0 ≤ p0.toInt ∧ p0.toInt ≤ 499) : Met l yX9_usedAtEnd (Cond.code yX9_usedAtEnd cX9_usedAtEnd 3 (some .int) :: wA) ({ frames := 1, cells := 0, slots := 0, locals := 40 }) (va_Pc [.ref (g 4), .int p0, .int p1] (PX dC dI g c adK adV v F rc sz)) (va_Qi (fun (r : Int32) (u : Unit) => True) (fun (_ : Unit) => BX dC dI g c (v, F, rc)) (AX g sz)) 0 0 (AX g sz) := by
  refine Met.ofW (cc := cX9_usedAtEnd) (maxL := 3) (ret := (some .int)) (by decide) rfl ?_
  intro p e s m args below meth c0 s₁ B hml hv
  obtain ⟨rfl, hsz, hP, hK, hE⟩ := hv
  have hx := B.exec
  have hb := B.bytes
  have hr := B.returns
  have hts := atoms_spec (ws := Cond.code yX9_usedAtEnd cX9_usedAtEnd 3 (some .int) :: wA) B.pre
  have hwd : ∀ w ∈ wA, w.before _ s = true := fun w h => hts w (List.mem_cons_of_mem _ h)
  have hown : s.vm.findClass RX9 = some m.cls := findClass_of_methodNamed B.named
  have hlocks := B.notSynchronized
  subst hsz
  have hl := lv_entry ([.ref (g 4), .int p0, .int p1]) (n := 3) (Nat.le_of_ble_eq_true rfl)
  rw [lg_entry_eq]
  generalize (lg_sl ([.ref (g 4), .int p0, .int p1]) ++ List.replicate (3 - (lg_sl ([.ref (g 4), .int p0, .int p1])).length) Slot.unset).toArray = ls at hl ⊢
  have hl : lv_has ls 3 [(0, .ref (g 4)), (1, .int p0), (2, .int p1)] := hl
  obtain ⟨H, eH⟩ : ∃ z, z = s.heap := ⟨_, rfl⟩
  have hP : va_P (dC, dI) classes (wX g c v F rc) H := by rw [eH]; exact hP
  have hS : va_S (AX g s.heap.size) s.heap H [] := by rw [eH]; exact va_S.rf
  refine my_heap eH ?_
  have rp0 := i32_rng p0
  have rp1 := i32_rng p1
  refine lv_iload_n hx hb dX9_usedAtEnd_0 rfl (lv_at hl 2 rfl) ?_
  refine lv_if_ne (tgt := 13) hx hb dX9_usedAtEnd_1 (by decide) (fun c207 => ?_) (fun c207 => ?_)
  · skip
    have t208 := cv_ne (a := p1.toInt) rfl (b := 0) (by decide) c207
    refine lv_aload_n hx hb dX9_usedAtEnd_13 rfl (lv_at hl 0 rfl) ?_
    refine va_get (D := (dC, dI)) (ci := 9) (v := .ref (g 35)) (C := RX9) (T := TX9) (N := 11) hx hb hwd inA_X9 hown hK hP 4 rfl rfl 7 (by decide) (hwd _ wk_86) (fun _ h9 => h9) rfl dX9_usedAtEnd_14 ?_
    refine lv_iload_n hx hb dX9_usedAtEnd_17 rfl (lv_at hl 1 rfl) ?_
    refine va_iald hx hb hK hP 35 23 rfl rfl (i := p0) (vin (a := p0.toInt) rfl (by omega)) dX9_usedAtEnd_18 ?_
    refine lv_topi (fun z209 e210 => ?_)
    have hP9 : va_P (dC, dI) classes (wX g c v F rc) H := hP
    exact W.iret (v := z209) hx hb hr (fun t ht hW => ⟨⟨z209, (), rfl, trivial, (by show va_P _ _ _ t.heap; rw [ht]; exact hP9)⟩, hS.F ht⟩) hS.2.2 dX9_usedAtEnd_19
  · skip
    have t211 := cv_eq (a := p1.toInt) rfl (b := 0) (by decide) c207
    refine lv_aload_n hx hb dX9_usedAtEnd_4 rfl (lv_at hl 0 rfl) ?_
    refine va_get (D := (dC, dI)) (ci := 9) (v := .ref (g 33)) (C := RX9) (T := TX9) (N := 11) hx hb hwd inA_X9 hown hK hP 4 rfl rfl 5 (by decide) (hwd _ wk_84) (fun _ h9 => h9) rfl dX9_usedAtEnd_5 ?_
    refine lv_iload_n hx hb dX9_usedAtEnd_8 rfl (lv_at hl 1 rfl) ?_
    refine va_iald hx hb hK hP 33 21 rfl rfl (i := p0) (vin (a := p0.toInt) rfl (by omega)) dX9_usedAtEnd_9 ?_
    refine lv_topi (fun z212 e213 => ?_)
    refine lv_goto (tgt := 19) hx hb dX9_usedAtEnd_10 (by decide) ?_
    have hP9 : va_P (dC, dI) classes (wX g c v F rc) H := hP
    exact W.iret (v := z212) hx hb hr (fun t ht hW => ⟨⟨z212, (), rfl, trivial, (by show va_P _ _ _ t.heap; rw [ht]; exact hP9)⟩, hS.F ht⟩) hS.2.2 dX9_usedAtEnd_19
set_option maxHeartbeats 8000000 in
set_option maxRecDepth 100000 in
theorem c_X9_end (l : Launch) (dC : Nat → ClassId) (dI : Nat → Nat → Nat) (g : Nat → Nat) (c : Nat → ClassId) (adK adV : Nat → Nat) (v : Nat → Int32) (F : Nat → Nat → Int32) (rc sz : Nat) (p0 : Int32) (p1 : Int32) (p2 : Int32) (p3 : Int32) (hg : injX g) (hI : IX v F) : Met l yX9_end (Cond.code yX9_end cX9_end 5 none :: wA) ({ frames := 1, cells := 0, slots := 0, locals := 40 }) (va_Pc [.ref (g 4), .int p0, .int p1, .int p2, .int p3] (PX dC dI g c adK adV v F rc sz)) (va_Qv (fun (u : StX) => IX u.1 u.2.1 ∧ alX u.1 u.2.1 = alX v F ∧ u.2.2 = rc ∧ (∀ k, k ∉ ([] : List Nat) → u.1 k = v k) ∧ True) (BX dC dI g c) (AX g sz)) 0 0 (AX g sz) := by
  refine Met.ofW (cc := cX9_end) (maxL := 5) (ret := none) (by decide) rfl ?_
  intro p e s m args below meth c0 s₁ B hml hv
  obtain ⟨rfl, hsz, hP, hK, hE⟩ := hv
  have hx := B.exec
  have hb := B.bytes
  have hr := B.returns
  have hts := atoms_spec (ws := Cond.code yX9_end cX9_end 5 none :: wA) B.pre
  have hwd : ∀ w ∈ wA, w.before _ s = true := fun w h => hts w (List.mem_cons_of_mem _ h)
  have hown : s.vm.findClass RX9 = some m.cls := findClass_of_methodNamed B.named
  have hlocks := B.notSynchronized
  subst hsz
  have hl := lv_entry ([.ref (g 4), .int p0, .int p1, .int p2, .int p3]) (n := 5) (Nat.le_of_ble_eq_true rfl)
  rw [lg_entry_eq]
  generalize (lg_sl ([.ref (g 4), .int p0, .int p1, .int p2, .int p3]) ++ List.replicate (5 - (lg_sl ([.ref (g 4), .int p0, .int p1, .int p2, .int p3])).length) Slot.unset).toArray = ls at hl ⊢
  have hl : lv_has ls 5 [(0, .ref (g 4)), (1, .int p0), (2, .int p1), (3, .int p2), (4, .int p3)] := hl
  obtain ⟨H, eH⟩ : ∃ z, z = s.heap := ⟨_, rfl⟩
  have hP : va_P (dC, dI) classes (wX g c v F rc) H := by rw [eH]; exact hP
  have hS : va_S (AX g s.heap.size) s.heap H [] := by rw [eH]; exact va_S.rf
  refine my_heap eH ?_
  have hal : alX v F = alX v F := rfl
  have rp0 := i32_rng p0
  have rp1 := i32_rng p1
  have rp2 := i32_rng p2
  have rp3 := i32_rng p3
  refine lv_iload_n hx hb dX9_end_0 rfl (lv_at hl 1 rfl) ?_
  refine lv_if_lt (tgt := 12) hx hb dX9_end_1 (by decide) (fun c214 => ?_) (fun c214 => ?_)
  · skip
    have t215 := cv_lt (a := p0.toInt) rfl (b := 0) (by decide) c214
    have hP9 : va_P (dC, dI) classes (wX g c v F rc) H := hP
    exact W.vret hx hb hr (fun t ht hW => ⟨⟨(v, F, rc), rfl, ⟨hI, hal, rfl, (fun _ _ => rfl), trivial⟩, (by show va_P _ _ _ t.heap; rw [ht]; exact hP9)⟩, hS.F ht⟩) hS.2.2 dX9_end_12
  · skip
    have t216 := cv_nlt (a := p0.toInt) rfl (b := 0) (by decide) c214
    refine lv_iload_n hx hb dX9_end_4 rfl (lv_at hl 1 rfl) ?_
    refine lv_aload_n hx hb dX9_end_5 rfl (lv_at hl 0 rfl) ?_
    refine va_get (D := (dC, dI)) (ci := 9) (v := .int (v 80)) (C := RX9) (T := TX9) (N := 11) hx hb hwd inA_X9 hown hK hP 4 rfl rfl 0 (by decide) (hwd _ wk_566) (fun _ h9 => h9) rfl dX9_end_6 ?_
    have t217 : 0 ≤ (v 80).toInt ∧ (v 80).toInt ≤ 500 := hI.1 80 _ _ rfl
    refine lv_icmp_lt (tgt := 13) hx hb dX9_end_9 (by decide) (fun c218 => ?_) (fun c218 => ?_)
    · skip
      have t219 := cv_lt (a := p0.toInt) rfl (b := (v 80).toInt) rfl c218
      refine lv_aload_n hx hb dX9_end_13 rfl (lv_at hl 0 rfl) ?_
      refine va_get (D := (dC, dI)) (ci := 9) (v := .ref (g 31)) (C := RX9) (T := TX9) (N := 11) hx hb hwd inA_X9 hown hK hP 4 rfl rfl 3 (by decide) (hwd _ wk_82) (fun _ h9 => h9) rfl dX9_end_14 ?_
      refine lv_iload_n hx hb dX9_end_17 rfl (lv_at hl 1 rfl) ?_
      refine lv_iload_n hx hb dX9_end_18 rfl (lv_at hl 2 rfl) ?_
      refine va_iast hx hb hK hP (DX hg) hS 31 19 rfl rfl (i := p0) (x := p1) (vin (a := p0.toInt) rfl (by omega)) dX9_end_19 (fun H locs hP _ hS => ?_)
      have hP := va_P_eq (sX_31 g c _ _ _ _) hP
      have hI := IX.store0 hI 31 (p0 : Int32).toNatClampNeg p1 rfl
      have hal := (alX_F _ _ 31 (upd (F 31) (p0 : Int32).toNatClampNeg p1) (by decide) (by decide)).trans hal
      have hP : va_P (dC, dI) classes (wX g c v (va_up F 31 (upd (F 31) (p0 : Int32).toNatClampNeg p1)) rc) H := hP
      generalize (va_up F 31 (upd (F 31) (p0 : Int32).toNatClampNeg p1)) = F220 at hP hI hal
      refine lv_aload_n hx hb dX9_end_20 rfl (lv_at hl 0 rfl) ?_
      refine va_get (D := (dC, dI)) (ci := 9) (v := .ref (g 33)) (C := RX9) (T := TX9) (N := 11) hx hb hwd inA_X9 hown hK hP 4 rfl rfl 5 (by decide) (hwd _ wk_84) (fun _ h9 => h9) rfl dX9_end_21 ?_
      refine lv_iload_n hx hb dX9_end_24 rfl (lv_at hl 1 rfl) ?_
      refine lv_iload_n hx hb dX9_end_25 rfl (lv_at hl 3 rfl) ?_
      refine va_iast hx hb hK hP (DX hg) hS 33 21 rfl rfl (i := p0) (x := p2) (vin (a := p0.toInt) rfl (by omega)) dX9_end_26 (fun H locs hP _ hS => ?_)
      have hP := va_P_eq (sX_33 g c _ _ _ _) hP
      have hI := IX.store0 hI 33 (p0 : Int32).toNatClampNeg p2 rfl
      have hal := (alX_F _ _ 33 (upd (F220 33) (p0 : Int32).toNatClampNeg p2) (by decide) (by decide)).trans hal
      have hP : va_P (dC, dI) classes (wX g c v (va_up F220 33 (upd (F220 33) (p0 : Int32).toNatClampNeg p2)) rc) H := hP
      generalize (va_up F220 33 (upd (F220 33) (p0 : Int32).toNatClampNeg p2)) = F221 at hP hI hal
      refine lv_aload_n hx hb dX9_end_27 rfl (lv_at hl 0 rfl) ?_
      refine va_get (D := (dC, dI)) (ci := 9) (v := .ref (g 35)) (C := RX9) (T := TX9) (N := 11) hx hb hwd inA_X9 hown hK hP 4 rfl rfl 7 (by decide) (hwd _ wk_86) (fun _ h9 => h9) rfl dX9_end_28 ?_
      refine lv_iload_n hx hb dX9_end_31 rfl (lv_at hl 1 rfl) ?_
      refine lv_iload hx hb dX9_end_32 (lv_at hl 4 rfl) ?_
      refine va_iast hx hb hK hP (DX hg) hS 35 23 rfl rfl (i := p0) (x := p3) (vin (a := p0.toInt) rfl (by omega)) dX9_end_34 (fun H locs hP _ hS => ?_)
      have hP := va_P_eq (sX_35 g c _ _ _ _) hP
      have hI := IX.store0 hI 35 (p0 : Int32).toNatClampNeg p3 rfl
      have hal := (alX_F _ _ 35 (upd (F221 35) (p0 : Int32).toNatClampNeg p3) (by decide) (by decide)).trans hal
      have hP : va_P (dC, dI) classes (wX g c v (va_up F221 35 (upd (F221 35) (p0 : Int32).toNatClampNeg p3)) rc) H := hP
      generalize (va_up F221 35 (upd (F221 35) (p0 : Int32).toNatClampNeg p3)) = F222 at hP hI hal
      have hP9 : va_P (dC, dI) classes (wX g c v F222 rc) H := hP
      exact W.vret hx hb hr (fun t ht hW => ⟨⟨(v, F222, rc), rfl, ⟨hI, hal, rfl, (fun _ _ => rfl), trivial⟩, (by show va_P _ _ _ t.heap; rw [ht]; exact hP9)⟩, hS.F ht⟩) hS.2.2 dX9_end_35
    · skip
      have t223 := cv_nlt (a := p0.toInt) rfl (b := (v 80).toInt) rfl c218
      have hP9 : va_P (dC, dI) classes (wX g c v F rc) H := hP
      exact W.vret hx hb hr (fun t ht hW => ⟨⟨(v, F, rc), rfl, ⟨hI, hal, rfl, (fun _ _ => rfl), trivial⟩, (by show va_P _ _ _ t.heap; rw [ht]; exact hP9)⟩, hS.F ht⟩) hS.2.2 dX9_end_12
set_option maxHeartbeats 8000000 in
set_option maxRecDepth 100000 in
theorem c_X9_at (l : Launch) (dC : Nat → ClassId) (dI : Nat → Nat → Nat) (g : Nat → Nat) (c : Nat → ClassId) (adK adV : Nat → Nat) (v : Nat → Int32) (F : Nat → Nat → Int32) (rc sz : Nat) (p0 : Int32) (p1 : Int32) (hg : injX g) (hI : IX v F) (h0 : 0 ≤ p0.toInt ∧ p0.toInt ≤ 99) : Met l yX9_at (Cond.code yX9_at cX9_at 5 (some .int) :: wA) ({ frames := 1, cells := 0, slots := 0, locals := 40 }) (va_Pc [.ref (g 4), .int p0, .int p1] (PX dC dI g c adK adV v F rc sz)) (va_Qi (fun (r : Int32) (u : Unit) => -1 ≤ r.toInt ∧ r.toInt ≤ 499) (fun (_ : Unit) => BX dC dI g c (v, F, rc)) (AX g sz)) 0 0 (AX g sz) := by
  refine Met.ofW (cc := cX9_at) (maxL := 5) (ret := (some .int)) (by decide) rfl ?_
  intro p e s m args below meth c0 s₁ B hml hv
  obtain ⟨rfl, hsz, hP, hK, hE⟩ := hv
  have hx := B.exec
  have hb := B.bytes
  have hr := B.returns
  have hts := atoms_spec (ws := Cond.code yX9_at cX9_at 5 (some .int) :: wA) B.pre
  have hwd : ∀ w ∈ wA, w.before _ s = true := fun w h => hts w (List.mem_cons_of_mem _ h)
  have hown : s.vm.findClass RX9 = some m.cls := findClass_of_methodNamed B.named
  have hlocks := B.notSynchronized
  subst hsz
  have hl := lv_entry ([.ref (g 4), .int p0, .int p1]) (n := 5) (Nat.le_of_ble_eq_true rfl)
  rw [lg_entry_eq]
  generalize (lg_sl ([.ref (g 4), .int p0, .int p1]) ++ List.replicate (5 - (lg_sl ([.ref (g 4), .int p0, .int p1])).length) Slot.unset).toArray = ls at hl ⊢
  have hl : lv_has ls 5 [(0, .ref (g 4)), (1, .int p0), (2, .int p1)] := hl
  obtain ⟨H, eH⟩ : ∃ z, z = s.heap := ⟨_, rfl⟩
  have hP : va_P (dC, dI) classes (wX g c v F rc) H := by rw [eH]; exact hP
  have hS : va_S (AX g s.heap.size) s.heap H [] := by rw [eH]; exact va_S.rf
  refine my_heap eH ?_
  have rp0 := i32_rng p0
  have rp1 := i32_rng p1
  refine lv_iload_n hx hb dX9_at_0 rfl (lv_at hl 2 rfl) ?_
  refine lv_if_ge (tgt := 8) hx hb dX9_at_1 (by decide) (fun c224 => ?_) (fun c224 => ?_)
  · skip
    have t225 := cv_le (a := 0) (by decide) (b := p1.toInt) rfl c224
    refine lv_aload_n hx hb dX9_at_8 rfl (lv_at hl 0 rfl) ?_
    refine va_get (D := (dC, dI)) (ci := 9) (v := .ref (g 38)) (C := RX9) (T := TX9) (N := 11) hx hb hwd inA_X9 hown hK hP 4 rfl rfl 10 (by decide) (hwd _ wk_90) (fun _ h9 => h9) rfl dX9_at_9 ?_
    refine lv_iload_n hx hb dX9_at_12 rfl (lv_at hl 1 rfl) ?_
    refine va_iald hx hb hK hP 38 26 rfl rfl (i := p0) (vin (a := p0.toInt) rfl (by omega)) dX9_at_13 ?_
    refine lv_topi (fun z226 e227 => ?_)
    have t228 : -1 ≤ z226.toInt ∧ z226.toInt ≤ 499 := by rw [e227]; exact hI.2 38 _ _ rfl _
    refine lv_istore_n (lv' := [(3, .int z226), (0, .ref (g 4)), (1, .int p0), (2, .int p1)]) hx hb dX9_at_14 rfl hl (by decide) rfl (fun ls hl => ?_)
    refine lv_iconst (v := 0) hx hb dX9_at_15 (by decide) ?_
    refine lv_istore (lv' := [(4, .int 0), (3, .int z226), (0, .ref (g 4)), (1, .int p0), (2, .int p1)]) hx hb dX9_at_16 hl (by decide) rfl (fun ls hl => ?_)
    have lp229 : ∀ (n : Nat) (x4_lp229 : Int32) (x3_lp229 : Int32) (H : Heap) (locs : List Loc) (ls : Array Slot), (0 ≤ x4_lp229.toInt) → (-1 ≤ x3_lp229.toInt) → (x3_lp229.toInt ≤ 499) → (2147483648 - x4_lp229.toInt ≤ (n : Int)) → va_P (dC, dI) classes (wX g c v F rc) H → va_S (AX g s.heap.size) s.heap H locs → lv_has ls 5 [(4, .int x4_lp229), (3, .int x3_lp229), (0, .ref (g 4)), (1, .int p0), (2, .int p1)] → W p l e (headSpec (Cond.code yX9_at cX9_at 5 (some .int) :: wA) ({ frames := 1, cells := 0, slots := 0, locals := 40 })).room s m ([.ref (g 4), .int p0, .int p1] : List Value).toArray below meth c0 H locs 0 0 (MQ below (va_Qi (fun (r : Int32) (u : Unit) => -1 ≤ r.toInt ∧ r.toInt ≤ 499) (fun (_ : Unit) => BX dC dI g c (v, F, rc)) (AX g s.heap.size)) ([.ref (g 4), .int p0, .int p1] : List Value).toArray s 0 0 (AX g s.heap.size)) (F0 m 18 ls []) := by
      intro n
      induction n with
      | zero =>
        intro x4_lp229 x3_lp229 H locs ls t230 t231 t232 hm hP hS hl
        exfalso
        have := i32_rng x4_lp229
        have := i32_rng x3_lp229
        omega
      | succ n ih_lp229 =>
        intro x4_lp229 x3_lp229 H locs ls t230 t231 t232 hm hP hS hl
        have rx4_lp229 := i32_rng x4_lp229
        have rx3_lp229 := i32_rng x3_lp229
        refine lv_iload hx hb dX9_at_18 (lv_at hl 0 rfl) ?_
        refine lv_iload_n hx hb dX9_at_20 rfl (lv_at hl 4 rfl) ?_
        refine lv_icmp_ge (tgt := 42) hx hb dX9_at_21 (by decide) (fun c233 => ?_) (fun c233 => ?_)
        · skip
          have t234 := cv_le (a := p1.toInt) rfl (b := x4_lp229.toInt) rfl c233
          refine lv_iload_n hx hb dX9_at_42 rfl (lv_at hl 1 rfl) ?_
          have hP9 : va_P (dC, dI) classes (wX g c v F rc) H := hP
          exact W.iret (v := x3_lp229) hx hb hr (fun t ht hW => ⟨⟨x3_lp229, (), rfl, by omega, (by show va_P _ _ _ t.heap; rw [ht]; exact hP9)⟩, hS.F ht⟩) hS.2.2 dX9_at_43
        · skip
          have t235 := cv_nle (a := p1.toInt) rfl (b := x4_lp229.toInt) rfl c233
          refine lv_iload_n hx hb dX9_at_24 rfl (lv_at hl 1 rfl) ?_
          refine lv_iconst (v := (-1)) hx hb dX9_at_25 (by decide) ?_
          refine lv_icmp_eq (tgt := 42) hx hb dX9_at_26 (by decide) (fun c236 => ?_) (fun c236 => ?_)
          · skip
            have t237 := cv_eq (a := x3_lp229.toInt) rfl (b := (-1)) (by decide) c236
            refine lv_iload_n hx hb dX9_at_42 rfl (lv_at hl 1 rfl) ?_
            have hP9 : va_P (dC, dI) classes (wX g c v F rc) H := hP
            exact W.iret (v := x3_lp229) hx hb hr (fun t ht hW => ⟨⟨x3_lp229, (), rfl, by omega, (by show va_P _ _ _ t.heap; rw [ht]; exact hP9)⟩, hS.F ht⟩) hS.2.2 dX9_at_43
          · skip
            have t238 := cv_ne (a := x3_lp229.toInt) rfl (b := (-1)) (by decide) c236
            refine lv_aload_n hx hb dX9_at_29 rfl (lv_at hl 2 rfl) ?_
            refine va_get (D := (dC, dI)) (ci := 9) (v := .ref (g 37)) (C := RX9) (T := TX9) (N := 11) hx hb hwd inA_X9 hown hK hP 4 rfl rfl 9 (by decide) (hwd _ wk_89) (fun _ h9 => h9) rfl dX9_at_30 ?_
            refine lv_iload_n hx hb dX9_at_33 rfl (lv_at hl 1 rfl) ?_
            refine va_iald hx hb hK hP 37 25 rfl rfl (i := x3_lp229) (vin (a := x3_lp229.toInt) rfl (by omega)) dX9_at_34 ?_
            refine lv_topi (fun z239 e240 => ?_)
            have t241 : -1 ≤ z239.toInt ∧ z239.toInt ≤ 499 := by rw [e240]; exact hI.2 37 _ _ rfl _
            refine lv_istore_n (lv' := [(3, .int z239), (4, .int x4_lp229), (0, .ref (g 4)), (1, .int p0), (2, .int p1)]) hx hb dX9_at_35 rfl hl (by decide) rfl (fun ls hl => ?_)
            obtain ⟨z242, e243⟩ : ∃ y : Int32, y = x4_lp229 + 1 := ⟨_, rfl⟩
            try (have t244 := tadd e243 rfl (b := 1) (by decide) (by omega))
            refine lv_iinc (v := z242) (lv' := [(4, .int z242), (3, .int z239), (0, .ref (g 4)), (1, .int p0), (2, .int p1)]) hx hb dX9_at_36 hl (k := 1) rfl (by rw [e243]; rfl) (by decide) rfl (fun ls hl => ?_)
            refine lv_goto (tgt := 18) hx hb dX9_at_39 (by decide) ?_
            exact ih_lp229 z242 z239  _ _ _ (by omega) (by omega) (by omega) (by omega) hP hS (lv_sub hl [0, 1, 2, 3, 4] rfl)
    obtain ⟨n9, hn9⟩ : ∃ n : Nat, 2147483648 - 0 ≤ (n : Int) := ⟨((2147483648 - 0 : Int)).toNat, by omega⟩
    exact lp229 n9 0 z226  H _ ls (by have : (0 : Int32).toInt = 0 := (by decide); omega) (by have : (0 : Int32).toInt = 0 := (by decide); omega) (by have : (0 : Int32).toInt = 0 := (by decide); omega) (by have : (0 : Int32).toInt = 0 := (by decide); omega) hP hS hl
  · skip
    have t245 := cv_nle (a := 0) (by decide) (b := p1.toInt) rfl c224
    refine lv_iconst (v := (-1)) hx hb dX9_at_4 (by decide) ?_
    refine lv_goto (tgt := 14) hx hb dX9_at_5 (by decide) ?_
    refine lv_istore_n (lv' := [(3, .int (-1)), (0, .ref (g 4)), (1, .int p0), (2, .int p1)]) hx hb dX9_at_14 rfl hl (by decide) rfl (fun ls hl => ?_)
    refine lv_iconst (v := 0) hx hb dX9_at_15 (by decide) ?_
    refine lv_istore (lv' := [(4, .int 0), (3, .int (-1)), (0, .ref (g 4)), (1, .int p0), (2, .int p1)]) hx hb dX9_at_16 hl (by decide) rfl (fun ls hl => ?_)
    have lp246 : ∀ (n : Nat) (x4_lp246 : Int32) (x3_lp246 : Int32) (H : Heap) (locs : List Loc) (ls : Array Slot), (0 ≤ x4_lp246.toInt) → (-1 ≤ x3_lp246.toInt) → (x3_lp246.toInt ≤ 499) → (2147483648 - x4_lp246.toInt ≤ (n : Int)) → va_P (dC, dI) classes (wX g c v F rc) H → va_S (AX g s.heap.size) s.heap H locs → lv_has ls 5 [(4, .int x4_lp246), (3, .int x3_lp246), (0, .ref (g 4)), (1, .int p0), (2, .int p1)] → W p l e (headSpec (Cond.code yX9_at cX9_at 5 (some .int) :: wA) ({ frames := 1, cells := 0, slots := 0, locals := 40 })).room s m ([.ref (g 4), .int p0, .int p1] : List Value).toArray below meth c0 H locs 0 0 (MQ below (va_Qi (fun (r : Int32) (u : Unit) => -1 ≤ r.toInt ∧ r.toInt ≤ 499) (fun (_ : Unit) => BX dC dI g c (v, F, rc)) (AX g s.heap.size)) ([.ref (g 4), .int p0, .int p1] : List Value).toArray s 0 0 (AX g s.heap.size)) (F0 m 18 ls []) := by
      intro n
      induction n with
      | zero =>
        intro x4_lp246 x3_lp246 H locs ls t247 t248 t249 hm hP hS hl
        exfalso
        have := i32_rng x4_lp246
        have := i32_rng x3_lp246
        omega
      | succ n ih_lp246 =>
        intro x4_lp246 x3_lp246 H locs ls t247 t248 t249 hm hP hS hl
        have rx4_lp246 := i32_rng x4_lp246
        have rx3_lp246 := i32_rng x3_lp246
        refine lv_iload hx hb dX9_at_18 (lv_at hl 0 rfl) ?_
        refine lv_iload_n hx hb dX9_at_20 rfl (lv_at hl 4 rfl) ?_
        refine lv_icmp_ge (tgt := 42) hx hb dX9_at_21 (by decide) (fun c250 => ?_) (fun c250 => ?_)
        · skip
          have t251 := cv_le (a := p1.toInt) rfl (b := x4_lp246.toInt) rfl c250
          refine lv_iload_n hx hb dX9_at_42 rfl (lv_at hl 1 rfl) ?_
          have hP9 : va_P (dC, dI) classes (wX g c v F rc) H := hP
          exact W.iret (v := x3_lp246) hx hb hr (fun t ht hW => ⟨⟨x3_lp246, (), rfl, by omega, (by show va_P _ _ _ t.heap; rw [ht]; exact hP9)⟩, hS.F ht⟩) hS.2.2 dX9_at_43
        · skip
          have t252 := cv_nle (a := p1.toInt) rfl (b := x4_lp246.toInt) rfl c250
          refine lv_iload_n hx hb dX9_at_24 rfl (lv_at hl 1 rfl) ?_
          refine lv_iconst (v := (-1)) hx hb dX9_at_25 (by decide) ?_
          refine lv_icmp_eq (tgt := 42) hx hb dX9_at_26 (by decide) (fun c253 => ?_) (fun c253 => ?_)
          · skip
            have t254 := cv_eq (a := x3_lp246.toInt) rfl (b := (-1)) (by decide) c253
            refine lv_iload_n hx hb dX9_at_42 rfl (lv_at hl 1 rfl) ?_
            have hP9 : va_P (dC, dI) classes (wX g c v F rc) H := hP
            exact W.iret (v := x3_lp246) hx hb hr (fun t ht hW => ⟨⟨x3_lp246, (), rfl, by omega, (by show va_P _ _ _ t.heap; rw [ht]; exact hP9)⟩, hS.F ht⟩) hS.2.2 dX9_at_43
          · skip
            have t255 := cv_ne (a := x3_lp246.toInt) rfl (b := (-1)) (by decide) c253
            refine lv_aload_n hx hb dX9_at_29 rfl (lv_at hl 2 rfl) ?_
            refine va_get (D := (dC, dI)) (ci := 9) (v := .ref (g 37)) (C := RX9) (T := TX9) (N := 11) hx hb hwd inA_X9 hown hK hP 4 rfl rfl 9 (by decide) (hwd _ wk_89) (fun _ h9 => h9) rfl dX9_at_30 ?_
            refine lv_iload_n hx hb dX9_at_33 rfl (lv_at hl 1 rfl) ?_
            refine va_iald hx hb hK hP 37 25 rfl rfl (i := x3_lp246) (vin (a := x3_lp246.toInt) rfl (by omega)) dX9_at_34 ?_
            refine lv_topi (fun z256 e257 => ?_)
            have t258 : -1 ≤ z256.toInt ∧ z256.toInt ≤ 499 := by rw [e257]; exact hI.2 37 _ _ rfl _
            refine lv_istore_n (lv' := [(3, .int z256), (4, .int x4_lp246), (0, .ref (g 4)), (1, .int p0), (2, .int p1)]) hx hb dX9_at_35 rfl hl (by decide) rfl (fun ls hl => ?_)
            obtain ⟨z259, e260⟩ : ∃ y : Int32, y = x4_lp246 + 1 := ⟨_, rfl⟩
            try (have t261 := tadd e260 rfl (b := 1) (by decide) (by omega))
            refine lv_iinc (v := z259) (lv' := [(4, .int z259), (3, .int z256), (0, .ref (g 4)), (1, .int p0), (2, .int p1)]) hx hb dX9_at_36 hl (k := 1) rfl (by rw [e260]; rfl) (by decide) rfl (fun ls hl => ?_)
            refine lv_goto (tgt := 18) hx hb dX9_at_39 (by decide) ?_
            exact ih_lp246 z259 z256  _ _ _ (by omega) (by omega) (by omega) (by omega) hP hS (lv_sub hl [0, 1, 2, 3, 4] rfl)
    obtain ⟨n9, hn9⟩ : ∃ n : Nat, 2147483648 - 0 ≤ (n : Int) := ⟨((2147483648 - 0 : Int)).toNat, by omega⟩
    exact lp246 n9 0 (-1)  H _ ls (by have : (0 : Int32).toInt = 0 := (by decide); have : ((-1) : Int32).toInt = (-1) := (by decide); omega) (by have : (0 : Int32).toInt = 0 := (by decide); have : ((-1) : Int32).toInt = (-1) := (by decide); omega) (by have : (0 : Int32).toInt = 0 := (by decide); have : ((-1) : Int32).toInt = (-1) := (by decide); omega) (by have : (0 : Int32).toInt = 0 := (by decide); have : ((-1) : Int32).toInt = (-1) := (by decide); omega) hP hS hl
set_option maxHeartbeats 8000000 in
set_option maxRecDepth 100000 in
theorem c_X9_aheadOf (l : Launch) (dC : Nat → ClassId) (dI : Nat → Nat → Nat) (g : Nat → Nat) (c : Nat → ClassId) (adK adV : Nat → Nat) (v : Nat → Int32) (F : Nat → Nat → Int32) (rc sz : Nat) (p0 : Int32) (p1 : Int32) (hg : injX g) (hI : IX v F) (h0 : 0 ≤ p0.toInt ∧ p0.toInt ≤ 99) : Met l yX9_aheadOf (Cond.code yX9_aheadOf cX9_aheadOf 6 (some .int) :: wA) ({ frames := 1, cells := 0, slots := 0, locals := 40 }) (va_Pc [.ref (g 4), .int p0, .int p1] (PX dC dI g c adK adV v F rc sz)) (va_Qi (fun (r : Int32) (u : Unit) => -1 ≤ r.toInt ∧ r.toInt ≤ 499) (fun (_ : Unit) => BX dC dI g c (v, F, rc)) (AX g sz)) 0 0 (AX g sz) := by
  refine Met.ofW (cc := cX9_aheadOf) (maxL := 6) (ret := (some .int)) (by decide) rfl ?_
  intro p e s m args below meth c0 s₁ B hml hv
  obtain ⟨rfl, hsz, hP, hK, hE⟩ := hv
  have hx := B.exec
  have hb := B.bytes
  have hr := B.returns
  have hts := atoms_spec (ws := Cond.code yX9_aheadOf cX9_aheadOf 6 (some .int) :: wA) B.pre
  have hwd : ∀ w ∈ wA, w.before _ s = true := fun w h => hts w (List.mem_cons_of_mem _ h)
  have hown : s.vm.findClass RX9 = some m.cls := findClass_of_methodNamed B.named
  have hlocks := B.notSynchronized
  subst hsz
  have hl := lv_entry ([.ref (g 4), .int p0, .int p1]) (n := 6) (Nat.le_of_ble_eq_true rfl)
  rw [lg_entry_eq]
  generalize (lg_sl ([.ref (g 4), .int p0, .int p1]) ++ List.replicate (6 - (lg_sl ([.ref (g 4), .int p0, .int p1])).length) Slot.unset).toArray = ls at hl ⊢
  have hl : lv_has ls 6 [(0, .ref (g 4)), (1, .int p0), (2, .int p1)] := hl
  obtain ⟨H, eH⟩ : ∃ z, z = s.heap := ⟨_, rfl⟩
  have hP : va_P (dC, dI) classes (wX g c v F rc) H := by rw [eH]; exact hP
  have hS : va_S (AX g s.heap.size) s.heap H [] := by rw [eH]; exact va_S.rf
  refine my_heap eH ?_
  have rp0 := i32_rng p0
  have rp1 := i32_rng p1
  refine lv_iconst (v := (-1)) hx hb dX9_aheadOf_0 (by decide) ?_
  refine lv_istore_n (lv' := [(3, .int (-1)), (0, .ref (g 4)), (1, .int p0), (2, .int p1)]) hx hb dX9_aheadOf_1 rfl hl (by decide) rfl (fun ls hl => ?_)
  refine lv_aload_n hx hb dX9_aheadOf_2 rfl (lv_at hl 1 rfl) ?_
  refine va_get (D := (dC, dI)) (ci := 9) (v := .ref (g 38)) (C := RX9) (T := TX9) (N := 11) hx hb hwd inA_X9 hown hK hP 4 rfl rfl 10 (by decide) (hwd _ wk_90) (fun _ h9 => h9) rfl dX9_aheadOf_3 ?_
  refine lv_iload_n hx hb dX9_aheadOf_6 rfl (lv_at hl 2 rfl) ?_
  refine va_iald hx hb hK hP 38 26 rfl rfl (i := p0) (vin (a := p0.toInt) rfl (by omega)) dX9_aheadOf_7 ?_
  refine lv_topi (fun z262 e263 => ?_)
  have t264 : -1 ≤ z262.toInt ∧ z262.toInt ≤ 499 := by rw [e263]; exact hI.2 38 _ _ rfl _
  refine lv_istore (lv' := [(4, .int z262), (3, .int (-1)), (0, .ref (g 4)), (1, .int p0), (2, .int p1)]) hx hb dX9_aheadOf_8 hl (by decide) rfl (fun ls hl => ?_)
  refine lv_iconst (v := 0) hx hb dX9_aheadOf_10 (by decide) ?_
  refine lv_istore (lv' := [(5, .int 0), (4, .int z262), (3, .int (-1)), (0, .ref (g 4)), (1, .int p0), (2, .int p1)]) hx hb dX9_aheadOf_11 hl (by decide) rfl (fun ls hl => ?_)
  have lp265 : ∀ (n : Nat) (x5_lp265 : Int32) (x4_lp265 : Int32) (x3_lp265 : Int32) (H : Heap) (locs : List Loc) (ls : Array Slot), (0 ≤ x5_lp265.toInt) → (-1 ≤ x4_lp265.toInt) → (x4_lp265.toInt ≤ 499) → (-1 ≤ x3_lp265.toInt) → (x3_lp265.toInt ≤ 499) → (2147483648 - x5_lp265.toInt ≤ (n : Int)) → va_P (dC, dI) classes (wX g c v F rc) H → va_S (AX g s.heap.size) s.heap H locs → lv_has ls 6 [(5, .int x5_lp265), (4, .int x4_lp265), (3, .int x3_lp265), (0, .ref (g 4)), (1, .int p0), (2, .int p1)] → W p l e (headSpec (Cond.code yX9_aheadOf cX9_aheadOf 6 (some .int) :: wA) ({ frames := 1, cells := 0, slots := 0, locals := 40 })).room s m ([.ref (g 4), .int p0, .int p1] : List Value).toArray below meth c0 H locs 0 0 (MQ below (va_Qi (fun (r : Int32) (u : Unit) => -1 ≤ r.toInt ∧ r.toInt ≤ 499) (fun (_ : Unit) => BX dC dI g c (v, F, rc)) (AX g s.heap.size)) ([.ref (g 4), .int p0, .int p1] : List Value).toArray s 0 0 (AX g s.heap.size)) (F0 m 13 ls []) := by
    intro n
    induction n with
    | zero =>
      intro x5_lp265 x4_lp265 x3_lp265 H locs ls t266 t267 t268 t269 t270 hm hP hS hl
      exfalso
      have := i32_rng x5_lp265
      have := i32_rng x4_lp265
      have := i32_rng x3_lp265
      omega
    | succ n ih_lp265 =>
      intro x5_lp265 x4_lp265 x3_lp265 H locs ls t266 t267 t268 t269 t270 hm hP hS hl
      have rx5_lp265 := i32_rng x5_lp265
      have rx4_lp265 := i32_rng x4_lp265
      have rx3_lp265 := i32_rng x3_lp265
      refine lv_iload hx hb dX9_aheadOf_13 (lv_at hl 0 rfl) ?_
      refine lv_sipush (v := 500) hx hb dX9_aheadOf_15 (by decide) ?_
      refine lv_icmp_ge (tgt := 51) hx hb dX9_aheadOf_18 (by decide) (fun c271 => ?_) (fun c271 => ?_)
      · skip
        have t272 := cv_le (a := 500) (by decide) (b := x5_lp265.toInt) rfl c271
        refine lv_iload_n hx hb dX9_aheadOf_51 rfl (lv_at hl 2 rfl) ?_
        have hP9 : va_P (dC, dI) classes (wX g c v F rc) H := hP
        exact W.iret (v := x3_lp265) hx hb hr (fun t ht hW => ⟨⟨x3_lp265, (), rfl, by omega, (by show va_P _ _ _ t.heap; rw [ht]; exact hP9)⟩, hS.F ht⟩) hS.2.2 dX9_aheadOf_52
      · skip
        have t273 := cv_nle (a := 500) (by decide) (b := x5_lp265.toInt) rfl c271
        refine lv_iload hx hb dX9_aheadOf_21 (lv_at hl 1 rfl) ?_
        refine lv_iconst (v := (-1)) hx hb dX9_aheadOf_23 (by decide) ?_
        refine lv_icmp_eq (tgt := 51) hx hb dX9_aheadOf_24 (by decide) (fun c274 => ?_) (fun c274 => ?_)
        · skip
          have t275 := cv_eq (a := x4_lp265.toInt) rfl (b := (-1)) (by decide) c274
          refine lv_iload_n hx hb dX9_aheadOf_51 rfl (lv_at hl 2 rfl) ?_
          have hP9 : va_P (dC, dI) classes (wX g c v F rc) H := hP
          exact W.iret (v := x3_lp265) hx hb hr (fun t ht hW => ⟨⟨x3_lp265, (), rfl, by omega, (by show va_P _ _ _ t.heap; rw [ht]; exact hP9)⟩, hS.F ht⟩) hS.2.2 dX9_aheadOf_52
        · skip
          have t276 := cv_ne (a := x4_lp265.toInt) rfl (b := (-1)) (by decide) c274
          refine lv_iload hx hb dX9_aheadOf_27 (lv_at hl 1 rfl) ?_
          refine lv_iload_n hx hb dX9_aheadOf_29 rfl (lv_at hl 5 rfl) ?_
          refine lv_icmp_eq (tgt := 51) hx hb dX9_aheadOf_30 (by decide) (fun c277 => ?_) (fun c277 => ?_)
          · skip
            have t278 := cv_eq (a := x4_lp265.toInt) rfl (b := p1.toInt) rfl c277
            refine lv_iload_n hx hb dX9_aheadOf_51 rfl (lv_at hl 2 rfl) ?_
            have hP9 : va_P (dC, dI) classes (wX g c v F rc) H := hP
            exact W.iret (v := x3_lp265) hx hb hr (fun t ht hW => ⟨⟨x3_lp265, (), rfl, by omega, (by show va_P _ _ _ t.heap; rw [ht]; exact hP9)⟩, hS.F ht⟩) hS.2.2 dX9_aheadOf_52
          · skip
            have t279 := cv_ne (a := x4_lp265.toInt) rfl (b := p1.toInt) rfl c277
            refine lv_iload hx hb dX9_aheadOf_33 (lv_at hl 1 rfl) ?_
            refine lv_istore_n (lv' := [(3, .int x4_lp265), (5, .int x5_lp265), (4, .int x4_lp265), (0, .ref (g 4)), (1, .int p0), (2, .int p1)]) hx hb dX9_aheadOf_35 rfl hl (by decide) rfl (fun ls hl => ?_)
            refine lv_aload_n hx hb dX9_aheadOf_36 rfl (lv_at hl 3 rfl) ?_
            refine va_get (D := (dC, dI)) (ci := 9) (v := .ref (g 37)) (C := RX9) (T := TX9) (N := 11) hx hb hwd inA_X9 hown hK hP 4 rfl rfl 9 (by decide) (hwd _ wk_89) (fun _ h9 => h9) rfl dX9_aheadOf_37 ?_
            refine lv_iload hx hb dX9_aheadOf_40 (lv_at hl 2 rfl) ?_
            refine va_iald hx hb hK hP 37 25 rfl rfl (i := x4_lp265) (vin (a := x4_lp265.toInt) rfl (by omega)) dX9_aheadOf_42 ?_
            refine lv_topi (fun z280 e281 => ?_)
            have t282 : -1 ≤ z280.toInt ∧ z280.toInt ≤ 499 := by rw [e281]; exact hI.2 37 _ _ rfl _
            refine lv_istore (lv' := [(4, .int z280), (3, .int x4_lp265), (5, .int x5_lp265), (0, .ref (g 4)), (1, .int p0), (2, .int p1)]) hx hb dX9_aheadOf_43 hl (by decide) rfl (fun ls hl => ?_)
            obtain ⟨z283, e284⟩ : ∃ y : Int32, y = x5_lp265 + 1 := ⟨_, rfl⟩
            try (have t285 := tadd e284 rfl (b := 1) (by decide) (by omega))
            refine lv_iinc (v := z283) (lv' := [(5, .int z283), (4, .int z280), (3, .int x4_lp265), (0, .ref (g 4)), (1, .int p0), (2, .int p1)]) hx hb dX9_aheadOf_45 hl (k := 2) rfl (by rw [e284]; rfl) (by decide) rfl (fun ls hl => ?_)
            refine lv_goto (tgt := 13) hx hb dX9_aheadOf_48 (by decide) ?_
            exact ih_lp265 z283 z280 x4_lp265  _ _ _ (by omega) (by omega) (by omega) (by omega) (by omega) (by omega) hP hS (lv_sub hl [0, 1, 2, 3, 4, 5] rfl)
  obtain ⟨n9, hn9⟩ : ∃ n : Nat, 2147483648 - 0 ≤ (n : Int) := ⟨((2147483648 - 0 : Int)).toNat, by omega⟩
  exact lp265 n9 0 z262 (-1)  H _ ls (by have : (0 : Int32).toInt = 0 := (by decide); have : ((-1) : Int32).toInt = (-1) := (by decide); omega) (by have : (0 : Int32).toInt = 0 := (by decide); have : ((-1) : Int32).toInt = (-1) := (by decide); omega) (by have : (0 : Int32).toInt = 0 := (by decide); have : ((-1) : Int32).toInt = (-1) := (by decide); omega) (by have : (0 : Int32).toInt = 0 := (by decide); have : ((-1) : Int32).toInt = (-1) := (by decide); omega) (by have : (0 : Int32).toInt = 0 := (by decide); have : ((-1) : Int32).toInt = (-1) := (by decide); omega) (by have : (0 : Int32).toInt = 0 := (by decide); have : ((-1) : Int32).toInt = (-1) := (by decide); omega) hP hS hl
set_option maxHeartbeats 8000000 in
set_option maxRecDepth 100000 in
theorem c_X9_countOf (l : Launch) (dC : Nat → ClassId) (dI : Nat → Nat → Nat) (g : Nat → Nat) (c : Nat → ClassId) (adK adV : Nat → Nat) (v : Nat → Int32) (F : Nat → Nat → Int32) (rc sz : Nat) (p0 : Int32) (hg : injX g) (hI : IX v F) (h0 : 0 ≤ p0.toInt ∧ p0.toInt ≤ 99) : Met l yX9_countOf (Cond.code yX9_countOf cX9_countOf 5 (some .int) :: wA) ({ frames := 1, cells := 0, slots := 0, locals := 40 }) (va_Pc [.ref (g 4), .int p0] (PX dC dI g c adK adV v F rc sz)) (va_Qi (fun (r : Int32) (u : Unit) => True) (fun (_ : Unit) => BX dC dI g c (v, F, rc)) (AX g sz)) 0 0 (AX g sz) := by
  refine Met.ofW (cc := cX9_countOf) (maxL := 5) (ret := (some .int)) (by decide) rfl ?_
  intro p e s m args below meth c0 s₁ B hml hv
  obtain ⟨rfl, hsz, hP, hK, hE⟩ := hv
  have hx := B.exec
  have hb := B.bytes
  have hr := B.returns
  have hts := atoms_spec (ws := Cond.code yX9_countOf cX9_countOf 5 (some .int) :: wA) B.pre
  have hwd : ∀ w ∈ wA, w.before _ s = true := fun w h => hts w (List.mem_cons_of_mem _ h)
  have hown : s.vm.findClass RX9 = some m.cls := findClass_of_methodNamed B.named
  have hlocks := B.notSynchronized
  subst hsz
  have hl := lv_entry ([.ref (g 4), .int p0]) (n := 5) (Nat.le_of_ble_eq_true rfl)
  rw [lg_entry_eq]
  generalize (lg_sl ([.ref (g 4), .int p0]) ++ List.replicate (5 - (lg_sl ([.ref (g 4), .int p0])).length) Slot.unset).toArray = ls at hl ⊢
  have hl : lv_has ls 5 [(0, .ref (g 4)), (1, .int p0)] := hl
  obtain ⟨H, eH⟩ : ∃ z, z = s.heap := ⟨_, rfl⟩
  have hP : va_P (dC, dI) classes (wX g c v F rc) H := by rw [eH]; exact hP
  have hS : va_S (AX g s.heap.size) s.heap H [] := by rw [eH]; exact va_S.rf
  refine my_heap eH ?_
  have rp0 := i32_rng p0
  refine lv_iconst (v := 0) hx hb dX9_countOf_0 (by decide) ?_
  refine lv_istore_n (lv' := [(2, .int 0), (0, .ref (g 4)), (1, .int p0)]) hx hb dX9_countOf_1 rfl hl (by decide) rfl (fun ls hl => ?_)
  refine lv_aload_n hx hb dX9_countOf_2 rfl (lv_at hl 1 rfl) ?_
  refine va_get (D := (dC, dI)) (ci := 9) (v := .ref (g 38)) (C := RX9) (T := TX9) (N := 11) hx hb hwd inA_X9 hown hK hP 4 rfl rfl 10 (by decide) (hwd _ wk_90) (fun _ h9 => h9) rfl dX9_countOf_3 ?_
  refine lv_iload_n hx hb dX9_countOf_6 rfl (lv_at hl 2 rfl) ?_
  refine va_iald hx hb hK hP 38 26 rfl rfl (i := p0) (vin (a := p0.toInt) rfl (by omega)) dX9_countOf_7 ?_
  refine lv_topi (fun z286 e287 => ?_)
  have t288 : -1 ≤ z286.toInt ∧ z286.toInt ≤ 499 := by rw [e287]; exact hI.2 38 _ _ rfl _
  refine lv_istore_n (lv' := [(3, .int z286), (2, .int 0), (0, .ref (g 4)), (1, .int p0)]) hx hb dX9_countOf_8 rfl hl (by decide) rfl (fun ls hl => ?_)
  refine lv_iconst (v := 0) hx hb dX9_countOf_9 (by decide) ?_
  refine lv_istore (lv' := [(4, .int 0), (3, .int z286), (2, .int 0), (0, .ref (g 4)), (1, .int p0)]) hx hb dX9_countOf_10 hl (by decide) rfl (fun ls hl => ?_)
  have lp289 : ∀ (n : Nat) (x4_lp289 : Int32) (x3_lp289 : Int32) (x2_lp289 : Int32) (H : Heap) (locs : List Loc) (ls : Array Slot), (0 ≤ x4_lp289.toInt) → (-1 ≤ x3_lp289.toInt) → (x3_lp289.toInt ≤ 499) → (2147483648 - x4_lp289.toInt ≤ (n : Int)) → va_P (dC, dI) classes (wX g c v F rc) H → va_S (AX g s.heap.size) s.heap H locs → lv_has ls 5 [(4, .int x4_lp289), (3, .int x3_lp289), (2, .int x2_lp289), (0, .ref (g 4)), (1, .int p0)] → W p l e (headSpec (Cond.code yX9_countOf cX9_countOf 5 (some .int) :: wA) ({ frames := 1, cells := 0, slots := 0, locals := 40 })).room s m ([.ref (g 4), .int p0] : List Value).toArray below meth c0 H locs 0 0 (MQ below (va_Qi (fun (r : Int32) (u : Unit) => True) (fun (_ : Unit) => BX dC dI g c (v, F, rc)) (AX g s.heap.size)) ([.ref (g 4), .int p0] : List Value).toArray s 0 0 (AX g s.heap.size)) (F0 m 12 ls []) := by
    intro n
    induction n with
    | zero =>
      intro x4_lp289 x3_lp289 x2_lp289 H locs ls t290 t291 t292 hm hP hS hl
      exfalso
      have := i32_rng x4_lp289
      have := i32_rng x3_lp289
      have := i32_rng x2_lp289
      omega
    | succ n ih_lp289 =>
      intro x4_lp289 x3_lp289 x2_lp289 H locs ls t290 t291 t292 hm hP hS hl
      have rx4_lp289 := i32_rng x4_lp289
      have rx3_lp289 := i32_rng x3_lp289
      have rx2_lp289 := i32_rng x2_lp289
      refine lv_iload hx hb dX9_countOf_12 (lv_at hl 0 rfl) ?_
      refine lv_sipush (v := 500) hx hb dX9_countOf_14 (by decide) ?_
      refine lv_icmp_ge (tgt := 41) hx hb dX9_countOf_17 (by decide) (fun c293 => ?_) (fun c293 => ?_)
      · skip
        have t294 := cv_le (a := 500) (by decide) (b := x4_lp289.toInt) rfl c293
        refine lv_iload_n hx hb dX9_countOf_41 rfl (lv_at hl 2 rfl) ?_
        have hP9 : va_P (dC, dI) classes (wX g c v F rc) H := hP
        exact W.iret (v := x2_lp289) hx hb hr (fun t ht hW => ⟨⟨x2_lp289, (), rfl, trivial, (by show va_P _ _ _ t.heap; rw [ht]; exact hP9)⟩, hS.F ht⟩) hS.2.2 dX9_countOf_42
      · skip
        have t295 := cv_nle (a := 500) (by decide) (b := x4_lp289.toInt) rfl c293
        refine lv_iload_n hx hb dX9_countOf_20 rfl (lv_at hl 1 rfl) ?_
        refine lv_iconst (v := (-1)) hx hb dX9_countOf_21 (by decide) ?_
        refine lv_icmp_eq (tgt := 41) hx hb dX9_countOf_22 (by decide) (fun c296 => ?_) (fun c296 => ?_)
        · skip
          have t297 := cv_eq (a := x3_lp289.toInt) rfl (b := (-1)) (by decide) c296
          refine lv_iload_n hx hb dX9_countOf_41 rfl (lv_at hl 2 rfl) ?_
          have hP9 : va_P (dC, dI) classes (wX g c v F rc) H := hP
          exact W.iret (v := x2_lp289) hx hb hr (fun t ht hW => ⟨⟨x2_lp289, (), rfl, trivial, (by show va_P _ _ _ t.heap; rw [ht]; exact hP9)⟩, hS.F ht⟩) hS.2.2 dX9_countOf_42
        · skip
          have t298 := cv_ne (a := x3_lp289.toInt) rfl (b := (-1)) (by decide) c296
          obtain ⟨z299, e300⟩ : ∃ y : Int32, y = x2_lp289 + 1 := ⟨_, rfl⟩
          try (have t301 := tadd e300 rfl (b := 1) (by decide) (by omega))
          refine lv_iinc (v := z299) (lv' := [(2, .int z299), (4, .int x4_lp289), (3, .int x3_lp289), (0, .ref (g 4)), (1, .int p0)]) hx hb dX9_countOf_25 hl (k := 2) rfl (by rw [e300]; rfl) (by decide) rfl (fun ls hl => ?_)
          refine lv_aload_n hx hb dX9_countOf_28 rfl (lv_at hl 3 rfl) ?_
          refine va_get (D := (dC, dI)) (ci := 9) (v := .ref (g 37)) (C := RX9) (T := TX9) (N := 11) hx hb hwd inA_X9 hown hK hP 4 rfl rfl 9 (by decide) (hwd _ wk_89) (fun _ h9 => h9) rfl dX9_countOf_29 ?_
          refine lv_iload_n hx hb dX9_countOf_32 rfl (lv_at hl 2 rfl) ?_
          refine va_iald hx hb hK hP 37 25 rfl rfl (i := x3_lp289) (vin (a := x3_lp289.toInt) rfl (by omega)) dX9_countOf_33 ?_
          refine lv_topi (fun z302 e303 => ?_)
          have t304 : -1 ≤ z302.toInt ∧ z302.toInt ≤ 499 := by rw [e303]; exact hI.2 37 _ _ rfl _
          refine lv_istore_n (lv' := [(3, .int z302), (2, .int z299), (4, .int x4_lp289), (0, .ref (g 4)), (1, .int p0)]) hx hb dX9_countOf_34 rfl hl (by decide) rfl (fun ls hl => ?_)
          obtain ⟨z305, e306⟩ : ∃ y : Int32, y = x4_lp289 + 1 := ⟨_, rfl⟩
          try (have t307 := tadd e306 rfl (b := 1) (by decide) (by omega))
          refine lv_iinc (v := z305) (lv' := [(4, .int z305), (3, .int z302), (2, .int z299), (0, .ref (g 4)), (1, .int p0)]) hx hb dX9_countOf_35 hl (k := 2) rfl (by rw [e306]; rfl) (by decide) rfl (fun ls hl => ?_)
          refine lv_goto (tgt := 12) hx hb dX9_countOf_38 (by decide) ?_
          exact ih_lp289 z305 z302 z299  _ _ _ (by omega) (by omega) (by omega) (by omega) hP hS (lv_sub hl [0, 1, 2, 3, 4] rfl)
  obtain ⟨n9, hn9⟩ : ∃ n : Nat, 2147483648 - 0 ≤ (n : Int) := ⟨((2147483648 - 0 : Int)).toNat, by omega⟩
  exact lp289 n9 0 z286 0  H _ ls (by have : (0 : Int32).toInt = 0 := (by decide); have : (0 : Int32).toInt = 0 := (by decide); omega) (by have : (0 : Int32).toInt = 0 := (by decide); have : (0 : Int32).toInt = 0 := (by decide); omega) (by have : (0 : Int32).toInt = 0 := (by decide); have : (0 : Int32).toInt = 0 := (by decide); omega) (by have : (0 : Int32).toInt = 0 := (by decide); have : (0 : Int32).toInt = 0 := (by decide); omega) hP hS hl
set_option maxHeartbeats 8000000 in
set_option maxRecDepth 100000 in
theorem c_X9_gapsOf (l : Launch) (dC : Nat → ClassId) (dI : Nat → Nat → Nat) (g : Nat → Nat) (c : Nat → ClassId) (adK adV : Nat → Nat) (v : Nat → Int32) (F : Nat → Nat → Int32) (rc sz : Nat) (p0 : Int32) (hg : injX g) (hI : IX v F) (h0 : 0 ≤ p0.toInt ∧ p0.toInt ≤ 99) : Met l yX9_gapsOf (Cond.code yX9_gapsOf cX9_gapsOf 5 (some .int) :: wA) ({ frames := 3, cells := 0, slots := 0, locals := 120 }) (va_Pc [.ref (g 4), .int p0] (PX dC dI g c adK adV v F rc sz)) (va_Qi (fun (r : Int32) (u : Unit) => True) (fun (_ : Unit) => BX dC dI g c (v, F, rc)) (AX g sz)) 0 0 (AX g sz) := by
  refine Met.ofW (cc := cX9_gapsOf) (maxL := 5) (ret := (some .int)) (by decide) rfl ?_
  intro p e s m args below meth c0 s₁ B hml hv
  obtain ⟨rfl, hsz, hP, hK, hE⟩ := hv
  have hx := B.exec
  have hb := B.bytes
  have hr := B.returns
  have hts := atoms_spec (ws := Cond.code yX9_gapsOf cX9_gapsOf 5 (some .int) :: wA) B.pre
  have hwd : ∀ w ∈ wA, w.before _ s = true := fun w h => hts w (List.mem_cons_of_mem _ h)
  have hown : s.vm.findClass RX9 = some m.cls := findClass_of_methodNamed B.named
  have hlocks := B.notSynchronized
  subst hsz
  have hl := lv_entry ([.ref (g 4), .int p0]) (n := 5) (Nat.le_of_ble_eq_true rfl)
  rw [lg_entry_eq]
  generalize (lg_sl ([.ref (g 4), .int p0]) ++ List.replicate (5 - (lg_sl ([.ref (g 4), .int p0])).length) Slot.unset).toArray = ls at hl ⊢
  have hl : lv_has ls 5 [(0, .ref (g 4)), (1, .int p0)] := hl
  obtain ⟨H, eH⟩ : ∃ z, z = s.heap := ⟨_, rfl⟩
  have hP : va_P (dC, dI) classes (wX g c v F rc) H := by rw [eH]; exact hP
  have hS : va_S (AX g s.heap.size) s.heap H [] := by rw [eH]; exact va_S.rf
  refine my_heap eH ?_
  have rp0 := i32_rng p0
  refine lv_iconst (v := 0) hx hb dX9_gapsOf_0 (by decide) ?_
  refine lv_istore_n (lv' := [(2, .int 0), (0, .ref (g 4)), (1, .int p0)]) hx hb dX9_gapsOf_1 rfl hl (by decide) rfl (fun ls hl => ?_)
  refine lv_aload_n hx hb dX9_gapsOf_2 rfl (lv_at hl 1 rfl) ?_
  refine va_get (D := (dC, dI)) (ci := 9) (v := .ref (g 38)) (C := RX9) (T := TX9) (N := 11) hx hb hwd inA_X9 hown hK hP 4 rfl rfl 10 (by decide) (hwd _ wk_90) (fun _ h9 => h9) rfl dX9_gapsOf_3 ?_
  refine lv_iload_n hx hb dX9_gapsOf_6 rfl (lv_at hl 2 rfl) ?_
  refine va_iald hx hb hK hP 38 26 rfl rfl (i := p0) (vin (a := p0.toInt) rfl (by omega)) dX9_gapsOf_7 ?_
  refine lv_topi (fun z308 e309 => ?_)
  have t310 : -1 ≤ z308.toInt ∧ z308.toInt ≤ 499 := by rw [e309]; exact hI.2 38 _ _ rfl _
  refine lv_istore_n (lv' := [(3, .int z308), (2, .int 0), (0, .ref (g 4)), (1, .int p0)]) hx hb dX9_gapsOf_8 rfl hl (by decide) rfl (fun ls hl => ?_)
  refine lv_iconst (v := 0) hx hb dX9_gapsOf_9 (by decide) ?_
  refine lv_istore (lv' := [(4, .int 0), (3, .int z308), (2, .int 0), (0, .ref (g 4)), (1, .int p0)]) hx hb dX9_gapsOf_10 hl (by decide) rfl (fun ls hl => ?_)
  have lp311 : ∀ (n : Nat) (x4_lp311 : Int32) (x3_lp311 : Int32) (x2_lp311 : Int32) (H : Heap) (locs : List Loc) (ls : Array Slot), (0 ≤ x4_lp311.toInt) → (-1 ≤ x3_lp311.toInt) → (x3_lp311.toInt ≤ 499) → (2147483648 - x4_lp311.toInt ≤ (n : Int)) → va_P (dC, dI) classes (wX g c v F rc) H → va_S (AX g s.heap.size) s.heap H locs → lv_has ls 5 [(4, .int x4_lp311), (3, .int x3_lp311), (2, .int x2_lp311), (0, .ref (g 4)), (1, .int p0)] → W p l e (headSpec (Cond.code yX9_gapsOf cX9_gapsOf 5 (some .int) :: wA) ({ frames := 3, cells := 0, slots := 0, locals := 120 })).room s m ([.ref (g 4), .int p0] : List Value).toArray below meth c0 H locs 0 0 (MQ below (va_Qi (fun (r : Int32) (u : Unit) => True) (fun (_ : Unit) => BX dC dI g c (v, F, rc)) (AX g s.heap.size)) ([.ref (g 4), .int p0] : List Value).toArray s 0 0 (AX g s.heap.size)) (F0 m 12 ls []) := by
    intro n
    induction n with
    | zero =>
      intro x4_lp311 x3_lp311 x2_lp311 H locs ls t312 t313 t314 hm hP hS hl
      exfalso
      have := i32_rng x4_lp311
      have := i32_rng x3_lp311
      have := i32_rng x2_lp311
      omega
    | succ n ih_lp311 =>
      intro x4_lp311 x3_lp311 x2_lp311 H locs ls t312 t313 t314 hm hP hS hl
      have rx4_lp311 := i32_rng x4_lp311
      have rx3_lp311 := i32_rng x3_lp311
      have rx2_lp311 := i32_rng x2_lp311
      refine lv_iload hx hb dX9_gapsOf_12 (lv_at hl 0 rfl) ?_
      refine lv_sipush (v := 500) hx hb dX9_gapsOf_14 (by decide) ?_
      refine lv_icmp_ge (tgt := 54) hx hb dX9_gapsOf_17 (by decide) (fun c315 => ?_) (fun c315 => ?_)
      · skip
        have t316 := cv_le (a := 500) (by decide) (b := x4_lp311.toInt) rfl c315
        refine lv_iload_n hx hb dX9_gapsOf_54 rfl (lv_at hl 2 rfl) ?_
        have hP9 : va_P (dC, dI) classes (wX g c v F rc) H := hP
        exact W.iret (v := x2_lp311) hx hb hr (fun t ht hW => ⟨⟨x2_lp311, (), rfl, trivial, (by show va_P _ _ _ t.heap; rw [ht]; exact hP9)⟩, hS.F ht⟩) hS.2.2 dX9_gapsOf_55
      · skip
        have t317 := cv_nle (a := 500) (by decide) (b := x4_lp311.toInt) rfl c315
        refine lv_iload_n hx hb dX9_gapsOf_20 rfl (lv_at hl 1 rfl) ?_
        refine lv_iconst (v := (-1)) hx hb dX9_gapsOf_21 (by decide) ?_
        refine lv_icmp_eq (tgt := 54) hx hb dX9_gapsOf_22 (by decide) (fun c318 => ?_) (fun c318 => ?_)
        · skip
          have t319 := cv_eq (a := x3_lp311.toInt) rfl (b := (-1)) (by decide) c318
          refine lv_iload_n hx hb dX9_gapsOf_54 rfl (lv_at hl 2 rfl) ?_
          have hP9 : va_P (dC, dI) classes (wX g c v F rc) H := hP
          exact W.iret (v := x2_lp311) hx hb hr (fun t ht hW => ⟨⟨x2_lp311, (), rfl, trivial, (by show va_P _ _ _ t.heap; rw [ht]; exact hP9)⟩, hS.F ht⟩) hS.2.2 dX9_gapsOf_55
        · skip
          have t320 := cv_ne (a := x3_lp311.toInt) rfl (b := (-1)) (by decide) c318
          refine lv_iload_n hx hb dX9_gapsOf_25 rfl (lv_at hl 2 rfl) ?_
          refine lv_aload_n hx hb dX9_gapsOf_26 rfl (lv_at hl 3 rfl) ?_
          refine lv_iload_n hx hb dX9_gapsOf_27 rfl (lv_at hl 1 rfl) ?_
          refine va_calli (va_runV (As := [.int x3_lp311]) (rest := [.int x2_lp311]) ⟨hx, hb, hml, hown, hwd⟩ (c_X9_isGap l dC dI g c adK adV v F rc H.size x3_lp311 hg hI (by omega)) (cwV 1 hwd (gV wk_373 wk_406 wk_371 wk_372 wk_22) rfl rfl rfl (by decide +kernel) ⟨Nat.le_of_ble_eq_true rfl, Nat.le_of_ble_eq_true rfl⟩) ⟨PX.blind, va_recv hK hP (ci := 9) (q0 := 4) rfl rfl, fun U hU hW => ⟨rfl, PX.at hK hE hP hS hU hW⟩⟩ rfl rfl hl.1 rfl (lv_room (Nat.le_of_ble_eq_true rfl)) dX9_gapsOf_28 ⟨Nat.le_of_ble_eq_true rfl, Nat.le_of_ble_eq_true rfl⟩) hS (fun q _ h => (freeX hS) q h) (freeX hS) (fun r321 u t H1 locs ht hvm hw hB hz1 hk1 hS => ?_)
          unfold BX at hB
          rw [ht] at hB
          have hP : va_P (dC, dI) classes (wX g c v F rc) H1 := hB
          have hw : 0 ≤ r321.toInt ∧ r321.toInt ≤ 1 := hw
          generalize H1 = H at hP hS ⊢
          have hw_r321 := hw
          refine lv_if_eq (tgt := 38) hx hb dX9_gapsOf_31 (by decide) (fun c322 => ?_) (fun c322 => ?_)
          · skip
            have t323 := cv_eq (a := r321.toInt) rfl (b := 0) (by decide) c322
            refine lv_iconst (v := 0) hx hb dX9_gapsOf_38 (by decide) ?_
            refine lv_iadd hx hb dX9_gapsOf_39 ?_
            refine lv_topi (fun z324 e325 => ?_)
            try (have t326 := tadd e325 (a := x2_lp311.toInt) rfl (b := 0) (by decide) (by omega))
            refine lv_istore_n (lv' := [(2, .int z324), (4, .int x4_lp311), (3, .int x3_lp311), (0, .ref (g 4)), (1, .int p0)]) hx hb dX9_gapsOf_40 rfl hl (by decide) rfl (fun ls hl => ?_)
            refine lv_aload_n hx hb dX9_gapsOf_41 rfl (lv_at hl 3 rfl) ?_
            refine va_get (D := (dC, dI)) (ci := 9) (v := .ref (g 37)) (C := RX9) (T := TX9) (N := 11) hx hb hwd inA_X9 hown hK hP 4 rfl rfl 9 (by decide) (hwd _ wk_89) (fun _ h9 => h9) rfl dX9_gapsOf_42 ?_
            refine lv_iload_n hx hb dX9_gapsOf_45 rfl (lv_at hl 2 rfl) ?_
            refine va_iald hx hb hK hP 37 25 rfl rfl (i := x3_lp311) (vin (a := x3_lp311.toInt) rfl (by omega)) dX9_gapsOf_46 ?_
            refine lv_topi (fun z327 e328 => ?_)
            have t329 : -1 ≤ z327.toInt ∧ z327.toInt ≤ 499 := by rw [e328]; exact hI.2 37 _ _ rfl _
            refine lv_istore_n (lv' := [(3, .int z327), (2, .int z324), (4, .int x4_lp311), (0, .ref (g 4)), (1, .int p0)]) hx hb dX9_gapsOf_47 rfl hl (by decide) rfl (fun ls hl => ?_)
            obtain ⟨z330, e331⟩ : ∃ y : Int32, y = x4_lp311 + 1 := ⟨_, rfl⟩
            try (have t332 := tadd e331 rfl (b := 1) (by decide) (by omega))
            refine lv_iinc (v := z330) (lv' := [(4, .int z330), (3, .int z327), (2, .int z324), (0, .ref (g 4)), (1, .int p0)]) hx hb dX9_gapsOf_48 hl (k := 2) rfl (by rw [e331]; rfl) (by decide) rfl (fun ls hl => ?_)
            refine lv_goto (tgt := 12) hx hb dX9_gapsOf_51 (by decide) ?_
            exact ih_lp311 z330 z327 z324  _ _ _ (by omega) (by omega) (by omega) (by omega) hP hS (lv_sub hl [0, 1, 2, 3, 4] rfl)
          · skip
            have t333 := cv_ne (a := r321.toInt) rfl (b := 0) (by decide) c322
            refine lv_iconst (v := 1) hx hb dX9_gapsOf_34 (by decide) ?_
            refine lv_goto (tgt := 39) hx hb dX9_gapsOf_35 (by decide) ?_
            refine lv_iadd hx hb dX9_gapsOf_39 ?_
            refine lv_topi (fun z334 e335 => ?_)
            try (have t336 := tadd e335 (a := x2_lp311.toInt) rfl (b := 1) (by decide) (by omega))
            refine lv_istore_n (lv' := [(2, .int z334), (4, .int x4_lp311), (3, .int x3_lp311), (0, .ref (g 4)), (1, .int p0)]) hx hb dX9_gapsOf_40 rfl hl (by decide) rfl (fun ls hl => ?_)
            refine lv_aload_n hx hb dX9_gapsOf_41 rfl (lv_at hl 3 rfl) ?_
            refine va_get (D := (dC, dI)) (ci := 9) (v := .ref (g 37)) (C := RX9) (T := TX9) (N := 11) hx hb hwd inA_X9 hown hK hP 4 rfl rfl 9 (by decide) (hwd _ wk_89) (fun _ h9 => h9) rfl dX9_gapsOf_42 ?_
            refine lv_iload_n hx hb dX9_gapsOf_45 rfl (lv_at hl 2 rfl) ?_
            refine va_iald hx hb hK hP 37 25 rfl rfl (i := x3_lp311) (vin (a := x3_lp311.toInt) rfl (by omega)) dX9_gapsOf_46 ?_
            refine lv_topi (fun z337 e338 => ?_)
            have t339 : -1 ≤ z337.toInt ∧ z337.toInt ≤ 499 := by rw [e338]; exact hI.2 37 _ _ rfl _
            refine lv_istore_n (lv' := [(3, .int z337), (2, .int z334), (4, .int x4_lp311), (0, .ref (g 4)), (1, .int p0)]) hx hb dX9_gapsOf_47 rfl hl (by decide) rfl (fun ls hl => ?_)
            obtain ⟨z340, e341⟩ : ∃ y : Int32, y = x4_lp311 + 1 := ⟨_, rfl⟩
            try (have t342 := tadd e341 rfl (b := 1) (by decide) (by omega))
            refine lv_iinc (v := z340) (lv' := [(4, .int z340), (3, .int z337), (2, .int z334), (0, .ref (g 4)), (1, .int p0)]) hx hb dX9_gapsOf_48 hl (k := 2) rfl (by rw [e341]; rfl) (by decide) rfl (fun ls hl => ?_)
            refine lv_goto (tgt := 12) hx hb dX9_gapsOf_51 (by decide) ?_
            exact ih_lp311 z340 z337 z334  _ _ _ (by omega) (by omega) (by omega) (by omega) hP hS (lv_sub hl [0, 1, 2, 3, 4] rfl)
  obtain ⟨n9, hn9⟩ : ∃ n : Nat, 2147483648 - 0 ≤ (n : Int) := ⟨((2147483648 - 0 : Int)).toNat, by omega⟩
  exact lp311 n9 0 z308 0  H _ ls (by have : (0 : Int32).toInt = 0 := (by decide); have : (0 : Int32).toInt = 0 := (by decide); omega) (by have : (0 : Int32).toInt = 0 := (by decide); have : (0 : Int32).toInt = 0 := (by decide); omega) (by have : (0 : Int32).toInt = 0 := (by decide); have : (0 : Int32).toInt = 0 := (by decide); omega) (by have : (0 : Int32).toInt = 0 := (by decide); have : (0 : Int32).toInt = 0 := (by decide); omega) hP hS hl
set_option maxHeartbeats 8000000 in
set_option maxRecDepth 100000 in
theorem c_X9_gapsAhead (l : Launch) (dC : Nat → ClassId) (dI : Nat → Nat → Nat) (g : Nat → Nat) (c : Nat → ClassId) (adK adV : Nat → Nat) (v : Nat → Int32) (F : Nat → Nat → Int32) (rc sz : Nat) (p0 : Int32) (p1 : Int32) (hg : injX g) (hI : IX v F) (h0 : 0 ≤ p0.toInt ∧ p0.toInt ≤ 99) (h1 : 0 ≤ p1.toInt ∧ p1.toInt ≤ 499) : Met l yX9_gapsAhead (Cond.code yX9_gapsAhead cX9_gapsAhead 7 (some .int) :: wA) ({ frames := 3, cells := 0, slots := 0, locals := 120 }) (va_Pc [.ref (g 4), .int p0, .int p1] (PX dC dI g c adK adV v F rc sz)) (va_Qi (fun (r : Int32) (u : Unit) => True) (fun (_ : Unit) => BX dC dI g c (v, F, rc)) (AX g sz)) 0 0 (AX g sz) := by
  refine Met.ofW (cc := cX9_gapsAhead) (maxL := 7) (ret := (some .int)) (by decide) rfl ?_
  intro p e s m args below meth c0 s₁ B hml hv
  obtain ⟨rfl, hsz, hP, hK, hE⟩ := hv
  have hx := B.exec
  have hb := B.bytes
  have hr := B.returns
  have hts := atoms_spec (ws := Cond.code yX9_gapsAhead cX9_gapsAhead 7 (some .int) :: wA) B.pre
  have hwd : ∀ w ∈ wA, w.before _ s = true := fun w h => hts w (List.mem_cons_of_mem _ h)
  have hown : s.vm.findClass RX9 = some m.cls := findClass_of_methodNamed B.named
  have hlocks := B.notSynchronized
  subst hsz
  have hl := lv_entry ([.ref (g 4), .int p0, .int p1]) (n := 7) (Nat.le_of_ble_eq_true rfl)
  rw [lg_entry_eq]
  generalize (lg_sl ([.ref (g 4), .int p0, .int p1]) ++ List.replicate (7 - (lg_sl ([.ref (g 4), .int p0, .int p1])).length) Slot.unset).toArray = ls at hl ⊢
  have hl : lv_has ls 7 [(0, .ref (g 4)), (1, .int p0), (2, .int p1)] := hl
  obtain ⟨H, eH⟩ : ∃ z, z = s.heap := ⟨_, rfl⟩
  have hP : va_P (dC, dI) classes (wX g c v F rc) H := by rw [eH]; exact hP
  have hS : va_S (AX g s.heap.size) s.heap H [] := by rw [eH]; exact va_S.rf
  refine my_heap eH ?_
  have rp0 := i32_rng p0
  have rp1 := i32_rng p1
  refine lv_iconst (v := 0) hx hb dX9_gapsAhead_0 (by decide) ?_
  refine lv_istore_n (lv' := [(3, .int 0), (0, .ref (g 4)), (1, .int p0), (2, .int p1)]) hx hb dX9_gapsAhead_1 rfl hl (by decide) rfl (fun ls hl => ?_)
  refine lv_aload_n hx hb dX9_gapsAhead_2 rfl (lv_at hl 1 rfl) ?_
  refine va_get (D := (dC, dI)) (ci := 9) (v := .ref (g 38)) (C := RX9) (T := TX9) (N := 11) hx hb hwd inA_X9 hown hK hP 4 rfl rfl 10 (by decide) (hwd _ wk_90) (fun _ h9 => h9) rfl dX9_gapsAhead_3 ?_
  refine lv_iload_n hx hb dX9_gapsAhead_6 rfl (lv_at hl 2 rfl) ?_
  refine va_iald hx hb hK hP 38 26 rfl rfl (i := p0) (vin (a := p0.toInt) rfl (by omega)) dX9_gapsAhead_7 ?_
  refine lv_topi (fun z343 e344 => ?_)
  have t345 : -1 ≤ z343.toInt ∧ z343.toInt ≤ 499 := by rw [e344]; exact hI.2 38 _ _ rfl _
  refine lv_istore (lv' := [(4, .int z343), (3, .int 0), (0, .ref (g 4)), (1, .int p0), (2, .int p1)]) hx hb dX9_gapsAhead_8 hl (by decide) rfl (fun ls hl => ?_)
  refine lv_iconst (v := 1) hx hb dX9_gapsAhead_10 (by decide) ?_
  refine lv_istore (lv' := [(5, .int 1), (4, .int z343), (3, .int 0), (0, .ref (g 4)), (1, .int p0), (2, .int p1)]) hx hb dX9_gapsAhead_11 hl (by decide) rfl (fun ls hl => ?_)
  refine lv_iconst (v := 0) hx hb dX9_gapsAhead_13 (by decide) ?_
  refine lv_istore (lv' := [(6, .int 0), (5, .int 1), (4, .int z343), (3, .int 0), (0, .ref (g 4)), (1, .int p0), (2, .int p1)]) hx hb dX9_gapsAhead_14 hl (by decide) rfl (fun ls hl => ?_)
  have lp346 : ∀ (n : Nat) (x6_lp346 : Int32) (x5_lp346 : Int32) (x4_lp346 : Int32) (x3_lp346 : Int32) (H : Heap) (locs : List Loc) (ls : Array Slot), (0 ≤ x6_lp346.toInt) → (-1 ≤ x4_lp346.toInt) → (x4_lp346.toInt ≤ 499) → (2147483648 - x6_lp346.toInt ≤ (n : Int)) → va_P (dC, dI) classes (wX g c v F rc) H → va_S (AX g s.heap.size) s.heap H locs → lv_has ls 7 [(6, .int x6_lp346), (5, .int x5_lp346), (4, .int x4_lp346), (3, .int x3_lp346), (0, .ref (g 4)), (1, .int p0), (2, .int p1)] → W p l e (headSpec (Cond.code yX9_gapsAhead cX9_gapsAhead 7 (some .int) :: wA) ({ frames := 3, cells := 0, slots := 0, locals := 120 })).room s m ([.ref (g 4), .int p0, .int p1] : List Value).toArray below meth c0 H locs 0 0 (MQ below (va_Qi (fun (r : Int32) (u : Unit) => True) (fun (_ : Unit) => BX dC dI g c (v, F, rc)) (AX g s.heap.size)) ([.ref (g 4), .int p0, .int p1] : List Value).toArray s 0 0 (AX g s.heap.size)) (F0 m 16 ls []) := by
    intro n
    induction n with
    | zero =>
      intro x6_lp346 x5_lp346 x4_lp346 x3_lp346 H locs ls t347 t348 t349 hm hP hS hl
      exfalso
      have := i32_rng x6_lp346
      have := i32_rng x5_lp346
      have := i32_rng x4_lp346
      have := i32_rng x3_lp346
      omega
    | succ n ih_lp346 =>
      intro x6_lp346 x5_lp346 x4_lp346 x3_lp346 H locs ls t347 t348 t349 hm hP hS hl
      have rx6_lp346 := i32_rng x6_lp346
      have rx5_lp346 := i32_rng x5_lp346
      have rx4_lp346 := i32_rng x4_lp346
      have rx3_lp346 := i32_rng x3_lp346
      refine lv_iload hx hb dX9_gapsAhead_16 (lv_at hl 0 rfl) ?_
      refine lv_sipush (v := 500) hx hb dX9_gapsAhead_18 (by decide) ?_
      refine lv_icmp_ge (tgt := 106) hx hb dX9_gapsAhead_21 (by decide) (fun c350 => ?_) (fun c350 => ?_)
      · skip
        have t351 := cv_le (a := 500) (by decide) (b := x6_lp346.toInt) rfl c350
        refine lv_iload_n hx hb dX9_gapsAhead_106 rfl (lv_at hl 3 rfl) ?_
        have hP9 : va_P (dC, dI) classes (wX g c v F rc) H := hP
        exact W.iret (v := x3_lp346) hx hb hr (fun t ht hW => ⟨⟨x3_lp346, (), rfl, trivial, (by show va_P _ _ _ t.heap; rw [ht]; exact hP9)⟩, hS.F ht⟩) hS.2.2 dX9_gapsAhead_107
      · skip
        have t352 := cv_nle (a := 500) (by decide) (b := x6_lp346.toInt) rfl c350
        refine lv_iload hx hb dX9_gapsAhead_24 (lv_at hl 2 rfl) ?_
        refine lv_iconst (v := (-1)) hx hb dX9_gapsAhead_26 (by decide) ?_
        refine lv_icmp_eq (tgt := 106) hx hb dX9_gapsAhead_27 (by decide) (fun c353 => ?_) (fun c353 => ?_)
        · skip
          have t354 := cv_eq (a := x4_lp346.toInt) rfl (b := (-1)) (by decide) c353
          refine lv_iload_n hx hb dX9_gapsAhead_106 rfl (lv_at hl 3 rfl) ?_
          have hP9 : va_P (dC, dI) classes (wX g c v F rc) H := hP
          exact W.iret (v := x3_lp346) hx hb hr (fun t ht hW => ⟨⟨x3_lp346, (), rfl, trivial, (by show va_P _ _ _ t.heap; rw [ht]; exact hP9)⟩, hS.F ht⟩) hS.2.2 dX9_gapsAhead_107
        · skip
          have t355 := cv_ne (a := x4_lp346.toInt) rfl (b := (-1)) (by decide) c353
          refine lv_iload hx hb dX9_gapsAhead_30 (lv_at hl 2 rfl) ?_
          refine lv_iload_n hx hb dX9_gapsAhead_32 rfl (lv_at hl 6 rfl) ?_
          refine lv_icmp_ne (tgt := 42) hx hb dX9_gapsAhead_33 (by decide) (fun c356 => ?_) (fun c356 => ?_)
          · skip
            have t357 := cv_ne (a := x4_lp346.toInt) rfl (b := p1.toInt) rfl c356
            refine lv_aload_n hx hb dX9_gapsAhead_42 rfl (lv_at hl 4 rfl) ?_
            refine lv_iload hx hb dX9_gapsAhead_43 (lv_at hl 2 rfl) ?_
            refine va_calli (va_runV (As := [.int x4_lp346]) (rest := []) ⟨hx, hb, hml, hown, hwd⟩ (c_X9_isGap l dC dI g c adK adV v F rc H.size x4_lp346 hg hI (by omega)) (cwV 1 hwd (gV wk_373 wk_406 wk_371 wk_372 wk_22) rfl rfl rfl (by decide +kernel) ⟨Nat.le_of_ble_eq_true rfl, Nat.le_of_ble_eq_true rfl⟩) ⟨PX.blind, va_recv hK hP (ci := 9) (q0 := 4) rfl rfl, fun U hU hW => ⟨rfl, PX.at hK hE hP hS hU hW⟩⟩ rfl rfl hl.1 rfl (lv_room (Nat.le_of_ble_eq_true rfl)) dX9_gapsAhead_45 ⟨Nat.le_of_ble_eq_true rfl, Nat.le_of_ble_eq_true rfl⟩) hS (fun q _ h => (freeX hS) q h) (freeX hS) (fun r358 u t H1 locs ht hvm hw hB hz1 hk1 hS => ?_)
            unfold BX at hB
            rw [ht] at hB
            have hP : va_P (dC, dI) classes (wX g c v F rc) H1 := hB
            have hw : 0 ≤ r358.toInt ∧ r358.toInt ≤ 1 := hw
            generalize H1 = H at hP hS ⊢
            have hw_r358 := hw
            refine lv_if_eq (tgt := 91) hx hb dX9_gapsAhead_48 (by decide) (fun c359 => ?_) (fun c359 => ?_)
            · skip
              have t360 := cv_eq (a := r358.toInt) rfl (b := 0) (by decide) c359
              refine lv_aload_n hx hb dX9_gapsAhead_91 rfl (lv_at hl 4 rfl) ?_
              refine va_get (D := (dC, dI)) (ci := 9) (v := .ref (g 37)) (C := RX9) (T := TX9) (N := 11) hx hb hwd inA_X9 hown hK hP 4 rfl rfl 9 (by decide) (hwd _ wk_89) (fun _ h9 => h9) rfl dX9_gapsAhead_92 ?_
              refine lv_iload hx hb dX9_gapsAhead_95 (lv_at hl 2 rfl) ?_
              refine va_iald hx hb hK hP 37 25 rfl rfl (i := x4_lp346) (vin (a := x4_lp346.toInt) rfl (by omega)) dX9_gapsAhead_97 ?_
              refine lv_topi (fun z361 e362 => ?_)
              have t363 : -1 ≤ z361.toInt ∧ z361.toInt ≤ 499 := by rw [e362]; exact hI.2 37 _ _ rfl _
              refine lv_istore (lv' := [(4, .int z361), (6, .int x6_lp346), (5, .int x5_lp346), (3, .int x3_lp346), (0, .ref (g 4)), (1, .int p0), (2, .int p1)]) hx hb dX9_gapsAhead_98 hl (by decide) rfl (fun ls hl => ?_)
              obtain ⟨z364, e365⟩ : ∃ y : Int32, y = x6_lp346 + 1 := ⟨_, rfl⟩
              try (have t366 := tadd e365 rfl (b := 1) (by decide) (by omega))
              refine lv_iinc (v := z364) (lv' := [(6, .int z364), (4, .int z361), (5, .int x5_lp346), (3, .int x3_lp346), (0, .ref (g 4)), (1, .int p0), (2, .int p1)]) hx hb dX9_gapsAhead_100 hl (k := 1) rfl (by rw [e365]; rfl) (by decide) rfl (fun ls hl => ?_)
              refine lv_goto (tgt := 16) hx hb dX9_gapsAhead_103 (by decide) ?_
              exact ih_lp346 z364 x5_lp346 z361 x3_lp346  _ _ _ (by omega) (by omega) (by omega) (by omega) hP hS (lv_sub hl [0, 2, 1, 3, 4, 5, 6] rfl)
            · skip
              have t367 := cv_ne (a := r358.toInt) rfl (b := 0) (by decide) c359
              refine lv_aload_n hx hb dX9_gapsAhead_51 rfl (lv_at hl 4 rfl) ?_
              refine va_get (D := (dC, dI)) (ci := 9) (v := .ref (g 31)) (C := RX9) (T := TX9) (N := 11) hx hb hwd inA_X9 hown hK hP 4 rfl rfl 3 (by decide) (hwd _ wk_82) (fun _ h9 => h9) rfl dX9_gapsAhead_52 ?_
              refine lv_iload hx hb dX9_gapsAhead_55 (lv_at hl 2 rfl) ?_
              refine va_iald hx hb hK hP 31 19 rfl rfl (i := x4_lp346) (vin (a := x4_lp346.toInt) rfl (by omega)) dX9_gapsAhead_57 ?_
              refine lv_topi (fun z368 e369 => ?_)
              refine lv_aload_n hx hb dX9_gapsAhead_58 rfl (lv_at hl 4 rfl) ?_
              refine va_get (D := (dC, dI)) (ci := 9) (v := .ref (g 31)) (C := RX9) (T := TX9) (N := 11) hx hb hwd inA_X9 hown hK hP 4 rfl rfl 3 (by decide) (hwd _ wk_82) (fun _ h9 => h9) rfl dX9_gapsAhead_59 ?_
              refine lv_iload_n hx hb dX9_gapsAhead_62 rfl (lv_at hl 6 rfl) ?_
              refine va_iald hx hb hK hP 31 19 rfl rfl (i := p1) (vin (a := p1.toInt) rfl (by omega)) dX9_gapsAhead_63 ?_
              refine lv_topi (fun z370 e371 => ?_)
              refine lv_icmp_lt (tgt := 88) hx hb dX9_gapsAhead_64 (by decide) (fun c372 => ?_) (fun c372 => ?_)
              · skip
                have t373 := cv_lt (a := z368.toInt) rfl (b := z370.toInt) rfl c372
                obtain ⟨z374, e375⟩ : ∃ y : Int32, y = x3_lp346 + 1 := ⟨_, rfl⟩
                try (have t376 := tadd e375 rfl (b := 1) (by decide) (by omega))
                refine lv_iinc (v := z374) (lv' := [(3, .int z374), (6, .int x6_lp346), (5, .int x5_lp346), (4, .int x4_lp346), (0, .ref (g 4)), (1, .int p0), (2, .int p1)]) hx hb dX9_gapsAhead_88 hl (k := 3) rfl (by rw [e375]; rfl) (by decide) rfl (fun ls hl => ?_)
                refine lv_aload_n hx hb dX9_gapsAhead_91 rfl (lv_at hl 4 rfl) ?_
                refine va_get (D := (dC, dI)) (ci := 9) (v := .ref (g 37)) (C := RX9) (T := TX9) (N := 11) hx hb hwd inA_X9 hown hK hP 4 rfl rfl 9 (by decide) (hwd _ wk_89) (fun _ h9 => h9) rfl dX9_gapsAhead_92 ?_
                refine lv_iload hx hb dX9_gapsAhead_95 (lv_at hl 3 rfl) ?_
                refine va_iald hx hb hK hP 37 25 rfl rfl (i := x4_lp346) (vin (a := x4_lp346.toInt) rfl (by omega)) dX9_gapsAhead_97 ?_
                refine lv_topi (fun z377 e378 => ?_)
                have t379 : -1 ≤ z377.toInt ∧ z377.toInt ≤ 499 := by rw [e378]; exact hI.2 37 _ _ rfl _
                refine lv_istore (lv' := [(4, .int z377), (3, .int z374), (6, .int x6_lp346), (5, .int x5_lp346), (0, .ref (g 4)), (1, .int p0), (2, .int p1)]) hx hb dX9_gapsAhead_98 hl (by decide) rfl (fun ls hl => ?_)
                obtain ⟨z380, e381⟩ : ∃ y : Int32, y = x6_lp346 + 1 := ⟨_, rfl⟩
                try (have t382 := tadd e381 rfl (b := 1) (by decide) (by omega))
                refine lv_iinc (v := z380) (lv' := [(6, .int z380), (4, .int z377), (3, .int z374), (5, .int x5_lp346), (0, .ref (g 4)), (1, .int p0), (2, .int p1)]) hx hb dX9_gapsAhead_100 hl (k := 2) rfl (by rw [e381]; rfl) (by decide) rfl (fun ls hl => ?_)
                refine lv_goto (tgt := 16) hx hb dX9_gapsAhead_103 (by decide) ?_
                exact ih_lp346 z380 x5_lp346 z377 z374  _ _ _ (by omega) (by omega) (by omega) (by omega) hP hS (lv_sub hl [0, 3, 1, 2, 4, 5, 6] rfl)
              · skip
                have t383 := cv_nlt (a := z368.toInt) rfl (b := z370.toInt) rfl c372
                refine lv_iload hx hb dX9_gapsAhead_67 (lv_at hl 1 rfl) ?_
                refine lv_if_eq (tgt := 91) hx hb dX9_gapsAhead_69 (by decide) (fun c384 => ?_) (fun c384 => ?_)
                · skip
                  have t385 := cv_eq (a := x5_lp346.toInt) rfl (b := 0) (by decide) c384
                  refine lv_aload_n hx hb dX9_gapsAhead_91 rfl (lv_at hl 4 rfl) ?_
                  refine va_get (D := (dC, dI)) (ci := 9) (v := .ref (g 37)) (C := RX9) (T := TX9) (N := 11) hx hb hwd inA_X9 hown hK hP 4 rfl rfl 9 (by decide) (hwd _ wk_89) (fun _ h9 => h9) rfl dX9_gapsAhead_92 ?_
                  refine lv_iload hx hb dX9_gapsAhead_95 (lv_at hl 2 rfl) ?_
                  refine va_iald hx hb hK hP 37 25 rfl rfl (i := x4_lp346) (vin (a := x4_lp346.toInt) rfl (by omega)) dX9_gapsAhead_97 ?_
                  refine lv_topi (fun z386 e387 => ?_)
                  have t388 : -1 ≤ z386.toInt ∧ z386.toInt ≤ 499 := by rw [e387]; exact hI.2 37 _ _ rfl _
                  refine lv_istore (lv' := [(4, .int z386), (6, .int x6_lp346), (5, .int x5_lp346), (3, .int x3_lp346), (0, .ref (g 4)), (1, .int p0), (2, .int p1)]) hx hb dX9_gapsAhead_98 hl (by decide) rfl (fun ls hl => ?_)
                  obtain ⟨z389, e390⟩ : ∃ y : Int32, y = x6_lp346 + 1 := ⟨_, rfl⟩
                  try (have t391 := tadd e390 rfl (b := 1) (by decide) (by omega))
                  refine lv_iinc (v := z389) (lv' := [(6, .int z389), (4, .int z386), (5, .int x5_lp346), (3, .int x3_lp346), (0, .ref (g 4)), (1, .int p0), (2, .int p1)]) hx hb dX9_gapsAhead_100 hl (k := 1) rfl (by rw [e390]; rfl) (by decide) rfl (fun ls hl => ?_)
                  refine lv_goto (tgt := 16) hx hb dX9_gapsAhead_103 (by decide) ?_
                  exact ih_lp346 z389 x5_lp346 z386 x3_lp346  _ _ _ (by omega) (by omega) (by omega) (by omega) hP hS (lv_sub hl [0, 2, 1, 3, 4, 5, 6] rfl)
                · skip
                  have t392 := cv_ne (a := x5_lp346.toInt) rfl (b := 0) (by decide) c384
                  refine lv_aload_n hx hb dX9_gapsAhead_72 rfl (lv_at hl 4 rfl) ?_
                  refine va_get (D := (dC, dI)) (ci := 9) (v := .ref (g 31)) (C := RX9) (T := TX9) (N := 11) hx hb hwd inA_X9 hown hK hP 4 rfl rfl 3 (by decide) (hwd _ wk_82) (fun _ h9 => h9) rfl dX9_gapsAhead_73 ?_
                  refine lv_iload hx hb dX9_gapsAhead_76 (lv_at hl 2 rfl) ?_
                  refine va_iald hx hb hK hP 31 19 rfl rfl (i := x4_lp346) (vin (a := x4_lp346.toInt) rfl (by omega)) dX9_gapsAhead_78 ?_
                  refine lv_topi (fun z393 e394 => ?_)
                  refine lv_aload_n hx hb dX9_gapsAhead_79 rfl (lv_at hl 4 rfl) ?_
                  refine va_get (D := (dC, dI)) (ci := 9) (v := .ref (g 31)) (C := RX9) (T := TX9) (N := 11) hx hb hwd inA_X9 hown hK hP 4 rfl rfl 3 (by decide) (hwd _ wk_82) (fun _ h9 => h9) rfl dX9_gapsAhead_80 ?_
                  refine lv_iload_n hx hb dX9_gapsAhead_83 rfl (lv_at hl 6 rfl) ?_
                  refine va_iald hx hb hK hP 31 19 rfl rfl (i := p1) (vin (a := p1.toInt) rfl (by omega)) dX9_gapsAhead_84 ?_
                  refine lv_topi (fun z395 e396 => ?_)
                  refine lv_icmp_ne (tgt := 91) hx hb dX9_gapsAhead_85 (by decide) (fun c397 => ?_) (fun c397 => ?_)
                  · skip
                    have t398 := cv_ne (a := z393.toInt) rfl (b := z395.toInt) rfl c397
                    refine lv_aload_n hx hb dX9_gapsAhead_91 rfl (lv_at hl 4 rfl) ?_
                    refine va_get (D := (dC, dI)) (ci := 9) (v := .ref (g 37)) (C := RX9) (T := TX9) (N := 11) hx hb hwd inA_X9 hown hK hP 4 rfl rfl 9 (by decide) (hwd _ wk_89) (fun _ h9 => h9) rfl dX9_gapsAhead_92 ?_
                    refine lv_iload hx hb dX9_gapsAhead_95 (lv_at hl 2 rfl) ?_
                    refine va_iald hx hb hK hP 37 25 rfl rfl (i := x4_lp346) (vin (a := x4_lp346.toInt) rfl (by omega)) dX9_gapsAhead_97 ?_
                    refine lv_topi (fun z399 e400 => ?_)
                    have t401 : -1 ≤ z399.toInt ∧ z399.toInt ≤ 499 := by rw [e400]; exact hI.2 37 _ _ rfl _
                    refine lv_istore (lv' := [(4, .int z399), (6, .int x6_lp346), (5, .int x5_lp346), (3, .int x3_lp346), (0, .ref (g 4)), (1, .int p0), (2, .int p1)]) hx hb dX9_gapsAhead_98 hl (by decide) rfl (fun ls hl => ?_)
                    obtain ⟨z402, e403⟩ : ∃ y : Int32, y = x6_lp346 + 1 := ⟨_, rfl⟩
                    try (have t404 := tadd e403 rfl (b := 1) (by decide) (by omega))
                    refine lv_iinc (v := z402) (lv' := [(6, .int z402), (4, .int z399), (5, .int x5_lp346), (3, .int x3_lp346), (0, .ref (g 4)), (1, .int p0), (2, .int p1)]) hx hb dX9_gapsAhead_100 hl (k := 1) rfl (by rw [e403]; rfl) (by decide) rfl (fun ls hl => ?_)
                    refine lv_goto (tgt := 16) hx hb dX9_gapsAhead_103 (by decide) ?_
                    exact ih_lp346 z402 x5_lp346 z399 x3_lp346  _ _ _ (by omega) (by omega) (by omega) (by omega) hP hS (lv_sub hl [0, 2, 1, 3, 4, 5, 6] rfl)
                  · skip
                    have t405 := cv_eq (a := z393.toInt) rfl (b := z395.toInt) rfl c397
                    obtain ⟨z406, e407⟩ : ∃ y : Int32, y = x3_lp346 + 1 := ⟨_, rfl⟩
                    try (have t408 := tadd e407 rfl (b := 1) (by decide) (by omega))
                    refine lv_iinc (v := z406) (lv' := [(3, .int z406), (6, .int x6_lp346), (5, .int x5_lp346), (4, .int x4_lp346), (0, .ref (g 4)), (1, .int p0), (2, .int p1)]) hx hb dX9_gapsAhead_88 hl (k := 3) rfl (by rw [e407]; rfl) (by decide) rfl (fun ls hl => ?_)
                    refine lv_aload_n hx hb dX9_gapsAhead_91 rfl (lv_at hl 4 rfl) ?_
                    refine va_get (D := (dC, dI)) (ci := 9) (v := .ref (g 37)) (C := RX9) (T := TX9) (N := 11) hx hb hwd inA_X9 hown hK hP 4 rfl rfl 9 (by decide) (hwd _ wk_89) (fun _ h9 => h9) rfl dX9_gapsAhead_92 ?_
                    refine lv_iload hx hb dX9_gapsAhead_95 (lv_at hl 3 rfl) ?_
                    refine va_iald hx hb hK hP 37 25 rfl rfl (i := x4_lp346) (vin (a := x4_lp346.toInt) rfl (by omega)) dX9_gapsAhead_97 ?_
                    refine lv_topi (fun z409 e410 => ?_)
                    have t411 : -1 ≤ z409.toInt ∧ z409.toInt ≤ 499 := by rw [e410]; exact hI.2 37 _ _ rfl _
                    refine lv_istore (lv' := [(4, .int z409), (3, .int z406), (6, .int x6_lp346), (5, .int x5_lp346), (0, .ref (g 4)), (1, .int p0), (2, .int p1)]) hx hb dX9_gapsAhead_98 hl (by decide) rfl (fun ls hl => ?_)
                    obtain ⟨z412, e413⟩ : ∃ y : Int32, y = x6_lp346 + 1 := ⟨_, rfl⟩
                    try (have t414 := tadd e413 rfl (b := 1) (by decide) (by omega))
                    refine lv_iinc (v := z412) (lv' := [(6, .int z412), (4, .int z409), (3, .int z406), (5, .int x5_lp346), (0, .ref (g 4)), (1, .int p0), (2, .int p1)]) hx hb dX9_gapsAhead_100 hl (k := 2) rfl (by rw [e413]; rfl) (by decide) rfl (fun ls hl => ?_)
                    refine lv_goto (tgt := 16) hx hb dX9_gapsAhead_103 (by decide) ?_
                    exact ih_lp346 z412 x5_lp346 z409 z406  _ _ _ (by omega) (by omega) (by omega) (by omega) hP hS (lv_sub hl [0, 3, 1, 2, 4, 5, 6] rfl)
          · skip
            have t415 := cv_eq (a := x4_lp346.toInt) rfl (b := p1.toInt) rfl c356
            refine lv_iconst (v := 0) hx hb dX9_gapsAhead_36 (by decide) ?_
            refine lv_istore (lv' := [(5, .int 0), (6, .int x6_lp346), (4, .int x4_lp346), (3, .int x3_lp346), (0, .ref (g 4)), (1, .int p0), (2, .int p1)]) hx hb dX9_gapsAhead_37 hl (by decide) rfl (fun ls hl => ?_)
            refine lv_goto (tgt := 91) hx hb dX9_gapsAhead_39 (by decide) ?_
            refine lv_aload_n hx hb dX9_gapsAhead_91 rfl (lv_at hl 4 rfl) ?_
            refine va_get (D := (dC, dI)) (ci := 9) (v := .ref (g 37)) (C := RX9) (T := TX9) (N := 11) hx hb hwd inA_X9 hown hK hP 4 rfl rfl 9 (by decide) (hwd _ wk_89) (fun _ h9 => h9) rfl dX9_gapsAhead_92 ?_
            refine lv_iload hx hb dX9_gapsAhead_95 (lv_at hl 2 rfl) ?_
            refine va_iald hx hb hK hP 37 25 rfl rfl (i := x4_lp346) (vin (a := x4_lp346.toInt) rfl (by omega)) dX9_gapsAhead_97 ?_
            refine lv_topi (fun z416 e417 => ?_)
            have t418 : -1 ≤ z416.toInt ∧ z416.toInt ≤ 499 := by rw [e417]; exact hI.2 37 _ _ rfl _
            refine lv_istore (lv' := [(4, .int z416), (5, .int 0), (6, .int x6_lp346), (3, .int x3_lp346), (0, .ref (g 4)), (1, .int p0), (2, .int p1)]) hx hb dX9_gapsAhead_98 hl (by decide) rfl (fun ls hl => ?_)
            obtain ⟨z419, e420⟩ : ∃ y : Int32, y = x6_lp346 + 1 := ⟨_, rfl⟩
            try (have t421 := tadd e420 rfl (b := 1) (by decide) (by omega))
            refine lv_iinc (v := z419) (lv' := [(6, .int z419), (4, .int z416), (5, .int 0), (3, .int x3_lp346), (0, .ref (g 4)), (1, .int p0), (2, .int p1)]) hx hb dX9_gapsAhead_100 hl (k := 2) rfl (by rw [e420]; rfl) (by decide) rfl (fun ls hl => ?_)
            refine lv_goto (tgt := 16) hx hb dX9_gapsAhead_103 (by decide) ?_
            exact ih_lp346 z419 0 z416 x3_lp346  _ _ _ (by have : (0 : Int32).toInt = 0 := (by decide); omega) (by have : (0 : Int32).toInt = 0 := (by decide); omega) (by have : (0 : Int32).toInt = 0 := (by decide); omega) (by have : (0 : Int32).toInt = 0 := (by decide); omega) hP hS (lv_sub hl [0, 2, 1, 3, 4, 5, 6] rfl)
  obtain ⟨n9, hn9⟩ : ∃ n : Nat, 2147483648 - 0 ≤ (n : Int) := ⟨((2147483648 - 0 : Int)).toNat, by omega⟩
  exact lp346 n9 0 1 z343 0  H _ ls (by have : (0 : Int32).toInt = 0 := (by decide); have : (1 : Int32).toInt = 1 := (by decide); have : (0 : Int32).toInt = 0 := (by decide); omega) (by have : (0 : Int32).toInt = 0 := (by decide); have : (1 : Int32).toInt = 1 := (by decide); have : (0 : Int32).toInt = 0 := (by decide); omega) (by have : (0 : Int32).toInt = 0 := (by decide); have : (1 : Int32).toInt = 1 := (by decide); have : (0 : Int32).toInt = 0 := (by decide); omega) (by have : (0 : Int32).toInt = 0 := (by decide); have : (1 : Int32).toInt = 1 := (by decide); have : (0 : Int32).toInt = 0 := (by decide); omega) hP hS hl
set_option maxHeartbeats 8000000 in
set_option maxRecDepth 100000 in
theorem c_X9_lastDay (l : Launch) (dC : Nat → ClassId) (dI : Nat → Nat → Nat) (g : Nat → Nat) (c : Nat → ClassId) (adK adV : Nat → Nat) (v : Nat → Int32) (F : Nat → Nat → Int32) (rc sz : Nat) (p0 : Int32) (p1 : Int32) (hg : injX g) (hI : IX v F) (h0 : 0 ≤ p0.toInt ∧ p0.toInt ≤ 499) : Met l yX9_lastDay (Cond.code yX9_lastDay cX9_lastDay 3 (some .int) :: wA) ({ frames := 2, cells := 0, slots := 0, locals := 80 }) (va_Pc [.ref (g 4), .int p0, .int p1] (PX dC dI g c adK adV v F rc sz)) (va_Qi (fun (r : Int32) (u : Unit) => True) (fun (_ : Unit) => BX dC dI g c (v, F, rc)) (AX g sz)) 0 0 (AX g sz) := by
  refine Met.ofW (cc := cX9_lastDay) (maxL := 3) (ret := (some .int)) (by decide) rfl ?_
  intro p e s m args below meth c0 s₁ B hml hv
  obtain ⟨rfl, hsz, hP, hK, hE⟩ := hv
  have hx := B.exec
  have hb := B.bytes
  have hr := B.returns
  have hts := atoms_spec (ws := Cond.code yX9_lastDay cX9_lastDay 3 (some .int) :: wA) B.pre
  have hwd : ∀ w ∈ wA, w.before _ s = true := fun w h => hts w (List.mem_cons_of_mem _ h)
  have hown : s.vm.findClass RX9 = some m.cls := findClass_of_methodNamed B.named
  have hlocks := B.notSynchronized
  subst hsz
  have hl := lv_entry ([.ref (g 4), .int p0, .int p1]) (n := 3) (Nat.le_of_ble_eq_true rfl)
  rw [lg_entry_eq]
  generalize (lg_sl ([.ref (g 4), .int p0, .int p1]) ++ List.replicate (3 - (lg_sl ([.ref (g 4), .int p0, .int p1])).length) Slot.unset).toArray = ls at hl ⊢
  have hl : lv_has ls 3 [(0, .ref (g 4)), (1, .int p0), (2, .int p1)] := hl
  obtain ⟨H, eH⟩ : ∃ z, z = s.heap := ⟨_, rfl⟩
  have hP : va_P (dC, dI) classes (wX g c v F rc) H := by rw [eH]; exact hP
  have hS : va_S (AX g s.heap.size) s.heap H [] := by rw [eH]; exact va_S.rf
  refine my_heap eH ?_
  have rp0 := i32_rng p0
  have rp1 := i32_rng p1
  refine lv_aload_n hx hb dX9_lastDay_0 rfl (lv_at hl 0 rfl) ?_
  refine lv_iload_n hx hb dX9_lastDay_1 rfl (lv_at hl 1 rfl) ?_
  refine va_calli (va_runV (As := [.int p0]) (rest := []) ⟨hx, hb, hml, hown, hwd⟩ (c_X9_goesOn l dC dI g c adK adV v F rc H.size p0 hg hI (by omega)) (cwV 1 hwd (gV wk_377 wk_374 wk_375 wk_376 wk_22) rfl rfl rfl (by decide +kernel) ⟨Nat.le_of_ble_eq_true rfl, Nat.le_of_ble_eq_true rfl⟩) ⟨PX.blind, va_recv hK hP (ci := 9) (q0 := 4) rfl rfl, fun U hU hW => ⟨rfl, PX.at hK hE hP hS hU hW⟩⟩ rfl rfl hl.1 rfl (lv_room (Nat.le_of_ble_eq_true rfl)) dX9_lastDay_2 ⟨Nat.le_of_ble_eq_true rfl, Nat.le_of_ble_eq_true rfl⟩) hS (fun q _ h => (freeX hS) q h) (freeX hS) (fun r422 u t H1 locs ht hvm hw hB hz1 hk1 hS => ?_)
  unfold BX at hB
  rw [ht] at hB
  have hP : va_P (dC, dI) classes (wX g c v F rc) H1 := hB
  have hw : 0 ≤ r422.toInt ∧ r422.toInt ≤ 1 := hw
  generalize H1 = H at hP hS ⊢
  have hw_r422 := hw
  refine lv_if_eq (tgt := 12) hx hb dX9_lastDay_5 (by decide) (fun c423 => ?_) (fun c423 => ?_)
  · skip
    have t424 := cv_eq (a := r422.toInt) rfl (b := 0) (by decide) c423
    refine lv_aload_n hx hb dX9_lastDay_12 rfl (lv_at hl 0 rfl) ?_
    refine va_get (D := (dC, dI)) (ci := 9) (v := .ref (g 31)) (C := RX9) (T := TX9) (N := 11) hx hb hwd inA_X9 hown hK hP 4 rfl rfl 3 (by decide) (hwd _ wk_82) (fun _ h9 => h9) rfl dX9_lastDay_13 ?_
    refine lv_iload_n hx hb dX9_lastDay_16 rfl (lv_at hl 1 rfl) ?_
    refine va_iald hx hb hK hP 31 19 rfl rfl (i := p0) (vin (a := p0.toInt) rfl (by omega)) dX9_lastDay_17 ?_
    refine lv_topi (fun z425 e426 => ?_)
    have hP9 : va_P (dC, dI) classes (wX g c v F rc) H := hP
    exact W.iret (v := z425) hx hb hr (fun t ht hW => ⟨⟨z425, (), rfl, trivial, (by show va_P _ _ _ t.heap; rw [ht]; exact hP9)⟩, hS.F ht⟩) hS.2.2 dX9_lastDay_18
  · skip
    have t427 := cv_ne (a := r422.toInt) rfl (b := 0) (by decide) c423
    refine lv_iload_n hx hb dX9_lastDay_8 rfl (lv_at hl 2 rfl) ?_
    refine lv_goto (tgt := 18) hx hb dX9_lastDay_9 (by decide) ?_
    have hP9 : va_P (dC, dI) classes (wX g c v F rc) H := hP
    exact W.iret (v := p1) hx hb hr (fun t ht hW => ⟨⟨p1, (), rfl, trivial, (by show va_P _ _ _ t.heap; rw [ht]; exact hP9)⟩, hS.F ht⟩) hS.2.2 dX9_lastDay_18
set_option maxHeartbeats 8000000 in
set_option maxRecDepth 100000 in
theorem c_X9_overlap (l : Launch) (dC : Nat → ClassId) (dI : Nat → Nat → Nat) (g : Nat → Nat) (c : Nat → ClassId) (adK adV : Nat → Nat) (v : Nat → Int32) (F : Nat → Nat → Int32) (rc sz : Nat) (p0 : Int32) (p1 : Int32) (hg : injX g) (hI : IX v F) (h0 : 0 ≤ p0.toInt ∧ p0.toInt ≤ 99) : Met l yX9_overlap (Cond.code yX9_overlap cX9_overlap 7 (some .boolean) :: wA) ({ frames := 3, cells := 0, slots := 0, locals := 120 }) (va_Pc [.ref (g 4), .int p0, .int p1] (PX dC dI g c adK adV v F rc sz)) (va_Qi (fun (r : Int32) (u : Unit) => 0 ≤ r.toInt ∧ r.toInt ≤ 1) (fun (_ : Unit) => BX dC dI g c (v, F, rc)) (AX g sz)) 0 0 (AX g sz) := by
  refine Met.ofW (cc := cX9_overlap) (maxL := 7) (ret := (some .boolean)) (by decide) rfl ?_
  intro p e s m args below meth c0 s₁ B hml hv
  obtain ⟨rfl, hsz, hP, hK, hE⟩ := hv
  have hx := B.exec
  have hb := B.bytes
  have hr := B.returns
  have hts := atoms_spec (ws := Cond.code yX9_overlap cX9_overlap 7 (some .boolean) :: wA) B.pre
  have hwd : ∀ w ∈ wA, w.before _ s = true := fun w h => hts w (List.mem_cons_of_mem _ h)
  have hown : s.vm.findClass RX9 = some m.cls := findClass_of_methodNamed B.named
  have hlocks := B.notSynchronized
  subst hsz
  have hl := lv_entry ([.ref (g 4), .int p0, .int p1]) (n := 7) (Nat.le_of_ble_eq_true rfl)
  rw [lg_entry_eq]
  generalize (lg_sl ([.ref (g 4), .int p0, .int p1]) ++ List.replicate (7 - (lg_sl ([.ref (g 4), .int p0, .int p1])).length) Slot.unset).toArray = ls at hl ⊢
  have hl : lv_has ls 7 [(0, .ref (g 4)), (1, .int p0), (2, .int p1)] := hl
  obtain ⟨H, eH⟩ : ∃ z, z = s.heap := ⟨_, rfl⟩
  have hP : va_P (dC, dI) classes (wX g c v F rc) H := by rw [eH]; exact hP
  have hS : va_S (AX g s.heap.size) s.heap H [] := by rw [eH]; exact va_S.rf
  refine my_heap eH ?_
  have rp0 := i32_rng p0
  have rp1 := i32_rng p1
  refine lv_aload_n hx hb dX9_overlap_0 rfl (lv_at hl 0 rfl) ?_
  refine va_get (D := (dC, dI)) (ci := 9) (v := .ref (g 38)) (C := RX9) (T := TX9) (N := 11) hx hb hwd inA_X9 hown hK hP 4 rfl rfl 10 (by decide) (hwd _ wk_90) (fun _ h9 => h9) rfl dX9_overlap_1 ?_
  refine lv_iload_n hx hb dX9_overlap_4 rfl (lv_at hl 1 rfl) ?_
  refine va_iald hx hb hK hP 38 26 rfl rfl (i := p0) (vin (a := p0.toInt) rfl (by omega)) dX9_overlap_5 ?_
  refine lv_topi (fun z428 e429 => ?_)
  have t430 : -1 ≤ z428.toInt ∧ z428.toInt ≤ 499 := by rw [e429]; exact hI.2 38 _ _ rfl _
  refine lv_istore_n (lv' := [(3, .int z428), (0, .ref (g 4)), (1, .int p0), (2, .int p1)]) hx hb dX9_overlap_6 rfl hl (by decide) rfl (fun ls hl => ?_)
  refine lv_iconst (v := 0) hx hb dX9_overlap_7 (by decide) ?_
  refine lv_istore (lv' := [(4, .int 0), (3, .int z428), (0, .ref (g 4)), (1, .int p0), (2, .int p1)]) hx hb dX9_overlap_8 hl (by decide) rfl (fun ls hl => ?_)
  have lp431 : ∀ (n : Nat) (x4_lp431 : Int32) (x3_lp431 : Int32) (H : Heap) (locs : List Loc) (ls : Array Slot), (0 ≤ x4_lp431.toInt) → (-1 ≤ x3_lp431.toInt) → (x3_lp431.toInt ≤ 499) → (2147483648 - x4_lp431.toInt ≤ (n : Int)) → va_P (dC, dI) classes (wX g c v F rc) H → va_S (AX g s.heap.size) s.heap H locs → lv_has ls 7 [(4, .int x4_lp431), (3, .int x3_lp431), (0, .ref (g 4)), (1, .int p0), (2, .int p1)] → W p l e (headSpec (Cond.code yX9_overlap cX9_overlap 7 (some .boolean) :: wA) ({ frames := 3, cells := 0, slots := 0, locals := 120 })).room s m ([.ref (g 4), .int p0, .int p1] : List Value).toArray below meth c0 H locs 0 0 (MQ below (va_Qi (fun (r : Int32) (u : Unit) => 0 ≤ r.toInt ∧ r.toInt ≤ 1) (fun (_ : Unit) => BX dC dI g c (v, F, rc)) (AX g s.heap.size)) ([.ref (g 4), .int p0, .int p1] : List Value).toArray s 0 0 (AX g s.heap.size)) (F0 m 10 ls []) := by
    intro n
    induction n with
    | zero =>
      intro x4_lp431 x3_lp431 H locs ls t432 t433 t434 hm hP hS hl
      exfalso
      have := i32_rng x4_lp431
      have := i32_rng x3_lp431
      omega
    | succ n ih_lp431 =>
      intro x4_lp431 x3_lp431 H locs ls t432 t433 t434 hm hP hS hl
      have rx4_lp431 := i32_rng x4_lp431
      have rx3_lp431 := i32_rng x3_lp431
      refine lv_iload hx hb dX9_overlap_10 (lv_at hl 0 rfl) ?_
      refine lv_sipush (v := 500) hx hb dX9_overlap_12 (by decide) ?_
      refine lv_icmp_ge (tgt := 126) hx hb dX9_overlap_15 (by decide) (fun c435 => ?_) (fun c435 => ?_)
      · skip
        have t436 := cv_le (a := 500) (by decide) (b := x4_lp431.toInt) rfl c435
        refine lv_iconst (v := 0) hx hb dX9_overlap_126 (by decide) ?_
        have hP9 : va_P (dC, dI) classes (wX g c v F rc) H := hP
        exact W.zret (v := 0) hx hb hr (rfl) (fun t ht hW => ⟨⟨0, (), rfl, by have : (0 : Int32).toInt = 0 := (by decide); omega, (by show va_P _ _ _ t.heap; rw [ht]; exact hP9)⟩, hS.F ht⟩) hS.2.2 dX9_overlap_127
      · skip
        have t437 := cv_nle (a := 500) (by decide) (b := x4_lp431.toInt) rfl c435
        refine lv_iload_n hx hb dX9_overlap_18 rfl (lv_at hl 1 rfl) ?_
        refine lv_iconst (v := (-1)) hx hb dX9_overlap_19 (by decide) ?_
        refine lv_icmp_eq (tgt := 126) hx hb dX9_overlap_20 (by decide) (fun c438 => ?_) (fun c438 => ?_)
        · skip
          have t439 := cv_eq (a := x3_lp431.toInt) rfl (b := (-1)) (by decide) c438
          refine lv_iconst (v := 0) hx hb dX9_overlap_126 (by decide) ?_
          have hP9 : va_P (dC, dI) classes (wX g c v F rc) H := hP
          exact W.zret (v := 0) hx hb hr (rfl) (fun t ht hW => ⟨⟨0, (), rfl, by have : (0 : Int32).toInt = 0 := (by decide); omega, (by show va_P _ _ _ t.heap; rw [ht]; exact hP9)⟩, hS.F ht⟩) hS.2.2 dX9_overlap_127
        · skip
          have t440 := cv_ne (a := x3_lp431.toInt) rfl (b := (-1)) (by decide) c438
          refine lv_aload_n hx hb dX9_overlap_23 rfl (lv_at hl 2 rfl) ?_
          refine va_get (D := (dC, dI)) (ci := 9) (v := .ref (g 37)) (C := RX9) (T := TX9) (N := 11) hx hb hwd inA_X9 hown hK hP 4 rfl rfl 9 (by decide) (hwd _ wk_89) (fun _ h9 => h9) rfl dX9_overlap_24 ?_
          refine lv_iload_n hx hb dX9_overlap_27 rfl (lv_at hl 1 rfl) ?_
          refine va_iald hx hb hK hP 37 25 rfl rfl (i := x3_lp431) (vin (a := x3_lp431.toInt) rfl (by omega)) dX9_overlap_28 ?_
          refine lv_topi (fun z441 e442 => ?_)
          have t443 : -1 ≤ z441.toInt ∧ z441.toInt ≤ 499 := by rw [e442]; exact hI.2 37 _ _ rfl _
          refine lv_istore (lv' := [(5, .int z441), (4, .int x4_lp431), (3, .int x3_lp431), (0, .ref (g 4)), (1, .int p0), (2, .int p1)]) hx hb dX9_overlap_29 hl (by decide) rfl (fun ls hl => ?_)
          refine lv_iconst (v := 0) hx hb dX9_overlap_31 (by decide) ?_
          refine lv_istore (lv' := [(6, .int 0), (5, .int z441), (4, .int x4_lp431), (3, .int x3_lp431), (0, .ref (g 4)), (1, .int p0), (2, .int p1)]) hx hb dX9_overlap_32 hl (by decide) rfl (fun ls hl => ?_)
          have lp444 : ∀ (n : Nat) (x6_lp444 : Int32) (x5_lp444 : Int32) (H : Heap) (locs : List Loc) (ls : Array Slot), (0 ≤ x6_lp444.toInt) → (-1 ≤ x5_lp444.toInt) → (x5_lp444.toInt ≤ 499) → (2147483648 - x6_lp444.toInt ≤ (n : Int)) → va_P (dC, dI) classes (wX g c v F rc) H → va_S (AX g s.heap.size) s.heap H locs → lv_has ls 7 [(6, .int x6_lp444), (5, .int x5_lp444), (4, .int x4_lp431), (3, .int x3_lp431), (0, .ref (g 4)), (1, .int p0), (2, .int p1)] → W p l e (headSpec (Cond.code yX9_overlap cX9_overlap 7 (some .boolean) :: wA) ({ frames := 3, cells := 0, slots := 0, locals := 120 })).room s m ([.ref (g 4), .int p0, .int p1] : List Value).toArray below meth c0 H locs 0 0 (MQ below (va_Qi (fun (r : Int32) (u : Unit) => 0 ≤ r.toInt ∧ r.toInt ≤ 1) (fun (_ : Unit) => BX dC dI g c (v, F, rc)) (AX g s.heap.size)) ([.ref (g 4), .int p0, .int p1] : List Value).toArray s 0 0 (AX g s.heap.size)) (F0 m 34 ls []) := by
            intro n
            induction n with
            | zero =>
              intro x6_lp444 x5_lp444 H locs ls t445 t446 t447 hm hP hS hl
              exfalso
              have := i32_rng x6_lp444
              have := i32_rng x5_lp444
              omega
            | succ n ih_lp444 =>
              intro x6_lp444 x5_lp444 H locs ls t445 t446 t447 hm hP hS hl
              have rx6_lp444 := i32_rng x6_lp444
              have rx5_lp444 := i32_rng x5_lp444
              refine lv_iload hx hb dX9_overlap_34 (lv_at hl 0 rfl) ?_
              refine lv_sipush (v := 500) hx hb dX9_overlap_36 (by decide) ?_
              refine lv_icmp_ge (tgt := 113) hx hb dX9_overlap_39 (by decide) (fun c448 => ?_) (fun c448 => ?_)
              · skip
                have t449 := cv_le (a := 500) (by decide) (b := x6_lp444.toInt) rfl c448
                refine lv_aload_n hx hb dX9_overlap_113 rfl (lv_at hl 4 rfl) ?_
                refine va_get (D := (dC, dI)) (ci := 9) (v := .ref (g 37)) (C := RX9) (T := TX9) (N := 11) hx hb hwd inA_X9 hown hK hP 4 rfl rfl 9 (by decide) (hwd _ wk_89) (fun _ h9 => h9) rfl dX9_overlap_114 ?_
                refine lv_iload_n hx hb dX9_overlap_117 rfl (lv_at hl 3 rfl) ?_
                refine va_iald hx hb hK hP 37 25 rfl rfl (i := x3_lp431) (vin (a := x3_lp431.toInt) rfl (by omega)) dX9_overlap_118 ?_
                refine lv_topi (fun z450 e451 => ?_)
                have t452 : -1 ≤ z450.toInt ∧ z450.toInt ≤ 499 := by rw [e451]; exact hI.2 37 _ _ rfl _
                refine lv_istore_n (lv' := [(3, .int z450), (6, .int x6_lp444), (5, .int x5_lp444), (4, .int x4_lp431), (0, .ref (g 4)), (1, .int p0), (2, .int p1)]) hx hb dX9_overlap_119 rfl hl (by decide) rfl (fun ls hl => ?_)
                obtain ⟨z453, e454⟩ : ∃ y : Int32, y = x4_lp431 + 1 := ⟨_, rfl⟩
                try (have t455 := tadd e454 rfl (b := 1) (by decide) (by omega))
                refine lv_iinc (v := z453) (lv' := [(4, .int z453), (3, .int z450), (6, .int x6_lp444), (5, .int x5_lp444), (0, .ref (g 4)), (1, .int p0), (2, .int p1)]) hx hb dX9_overlap_120 hl (k := 3) rfl (by rw [e454]; rfl) (by decide) rfl (fun ls hl => ?_)
                refine lv_goto (tgt := 10) hx hb dX9_overlap_123 (by decide) ?_
                exact ih_lp431 z453 z450  _ _ _ (by omega) (by omega) (by omega) (by omega) hP hS (lv_sub hl [0, 1, 4, 5, 6] rfl)
              · skip
                have t456 := cv_nle (a := 500) (by decide) (b := x6_lp444.toInt) rfl c448
                refine lv_iload hx hb dX9_overlap_42 (lv_at hl 1 rfl) ?_
                refine lv_iconst (v := (-1)) hx hb dX9_overlap_44 (by decide) ?_
                refine lv_icmp_eq (tgt := 113) hx hb dX9_overlap_45 (by decide) (fun c457 => ?_) (fun c457 => ?_)
                · skip
                  have t458 := cv_eq (a := x5_lp444.toInt) rfl (b := (-1)) (by decide) c457
                  refine lv_aload_n hx hb dX9_overlap_113 rfl (lv_at hl 4 rfl) ?_
                  refine va_get (D := (dC, dI)) (ci := 9) (v := .ref (g 37)) (C := RX9) (T := TX9) (N := 11) hx hb hwd inA_X9 hown hK hP 4 rfl rfl 9 (by decide) (hwd _ wk_89) (fun _ h9 => h9) rfl dX9_overlap_114 ?_
                  refine lv_iload_n hx hb dX9_overlap_117 rfl (lv_at hl 3 rfl) ?_
                  refine va_iald hx hb hK hP 37 25 rfl rfl (i := x3_lp431) (vin (a := x3_lp431.toInt) rfl (by omega)) dX9_overlap_118 ?_
                  refine lv_topi (fun z459 e460 => ?_)
                  have t461 : -1 ≤ z459.toInt ∧ z459.toInt ≤ 499 := by rw [e460]; exact hI.2 37 _ _ rfl _
                  refine lv_istore_n (lv' := [(3, .int z459), (6, .int x6_lp444), (5, .int x5_lp444), (4, .int x4_lp431), (0, .ref (g 4)), (1, .int p0), (2, .int p1)]) hx hb dX9_overlap_119 rfl hl (by decide) rfl (fun ls hl => ?_)
                  obtain ⟨z462, e463⟩ : ∃ y : Int32, y = x4_lp431 + 1 := ⟨_, rfl⟩
                  try (have t464 := tadd e463 rfl (b := 1) (by decide) (by omega))
                  refine lv_iinc (v := z462) (lv' := [(4, .int z462), (3, .int z459), (6, .int x6_lp444), (5, .int x5_lp444), (0, .ref (g 4)), (1, .int p0), (2, .int p1)]) hx hb dX9_overlap_120 hl (k := 3) rfl (by rw [e463]; rfl) (by decide) rfl (fun ls hl => ?_)
                  refine lv_goto (tgt := 10) hx hb dX9_overlap_123 (by decide) ?_
                  exact ih_lp431 z462 z459  _ _ _ (by omega) (by omega) (by omega) (by omega) hP hS (lv_sub hl [0, 1, 4, 5, 6] rfl)
                · skip
                  have t465 := cv_ne (a := x5_lp444.toInt) rfl (b := (-1)) (by decide) c457
                  refine lv_aload_n hx hb dX9_overlap_48 rfl (lv_at hl 4 rfl) ?_
                  refine va_get (D := (dC, dI)) (ci := 9) (v := .ref (g 29)) (C := RX9) (T := TX9) (N := 11) hx hb hwd inA_X9 hown hK hP 4 rfl rfl 1 (by decide) (hwd _ wk_80) (fun _ h9 => h9) rfl dX9_overlap_49 ?_
                  refine lv_iload_n hx hb dX9_overlap_52 rfl (lv_at hl 3 rfl) ?_
                  refine va_iald hx hb hK hP 29 17 rfl rfl (i := x3_lp431) (vin (a := x3_lp431.toInt) rfl (by omega)) dX9_overlap_53 ?_
                  refine lv_topi (fun z466 e467 => ?_)
                  refine lv_aload_n hx hb dX9_overlap_54 rfl (lv_at hl 4 rfl) ?_
                  refine va_get (D := (dC, dI)) (ci := 9) (v := .ref (g 29)) (C := RX9) (T := TX9) (N := 11) hx hb hwd inA_X9 hown hK hP 4 rfl rfl 1 (by decide) (hwd _ wk_80) (fun _ h9 => h9) rfl dX9_overlap_55 ?_
                  refine lv_iload hx hb dX9_overlap_58 (lv_at hl 1 rfl) ?_
                  refine va_iald hx hb hK hP 29 17 rfl rfl (i := x5_lp444) (vin (a := x5_lp444.toInt) rfl (by omega)) dX9_overlap_60 ?_
                  refine lv_topi (fun z468 e469 => ?_)
                  refine lv_icmp_eq (tgt := 98) hx hb dX9_overlap_61 (by decide) (fun c470 => ?_) (fun c470 => ?_)
                  · skip
                    have t471 := cv_eq (a := z466.toInt) rfl (b := z468.toInt) rfl c470
                    refine lv_aload_n hx hb dX9_overlap_98 rfl (lv_at hl 4 rfl) ?_
                    refine va_get (D := (dC, dI)) (ci := 9) (v := .ref (g 37)) (C := RX9) (T := TX9) (N := 11) hx hb hwd inA_X9 hown hK hP 4 rfl rfl 9 (by decide) (hwd _ wk_89) (fun _ h9 => h9) rfl dX9_overlap_99 ?_
                    refine lv_iload hx hb dX9_overlap_102 (lv_at hl 1 rfl) ?_
                    refine va_iald hx hb hK hP 37 25 rfl rfl (i := x5_lp444) (vin (a := x5_lp444.toInt) rfl (by omega)) dX9_overlap_104 ?_
                    refine lv_topi (fun z472 e473 => ?_)
                    have t474 : -1 ≤ z472.toInt ∧ z472.toInt ≤ 499 := by rw [e473]; exact hI.2 37 _ _ rfl _
                    refine lv_istore (lv' := [(5, .int z472), (6, .int x6_lp444), (4, .int x4_lp431), (3, .int x3_lp431), (0, .ref (g 4)), (1, .int p0), (2, .int p1)]) hx hb dX9_overlap_105 hl (by decide) rfl (fun ls hl => ?_)
                    obtain ⟨z475, e476⟩ : ∃ y : Int32, y = x6_lp444 + 1 := ⟨_, rfl⟩
                    try (have t477 := tadd e476 rfl (b := 1) (by decide) (by omega))
                    refine lv_iinc (v := z475) (lv' := [(6, .int z475), (5, .int z472), (4, .int x4_lp431), (3, .int x3_lp431), (0, .ref (g 4)), (1, .int p0), (2, .int p1)]) hx hb dX9_overlap_107 hl (k := 1) rfl (by rw [e476]; rfl) (by decide) rfl (fun ls hl => ?_)
                    refine lv_goto (tgt := 34) hx hb dX9_overlap_110 (by decide) ?_
                    exact ih_lp444 z475 z472  _ _ _ (by omega) (by omega) (by omega) (by omega) hP hS (lv_sub hl [0, 1, 2, 3, 4, 5, 6] rfl)
                  · skip
                    have t478 := cv_ne (a := z466.toInt) rfl (b := z468.toInt) rfl c470
                    refine lv_aload_n hx hb dX9_overlap_64 rfl (lv_at hl 4 rfl) ?_
                    refine va_get (D := (dC, dI)) (ci := 9) (v := .ref (g 30)) (C := RX9) (T := TX9) (N := 11) hx hb hwd inA_X9 hown hK hP 4 rfl rfl 2 (by decide) (hwd _ wk_81) (fun _ h9 => h9) rfl dX9_overlap_65 ?_
                    refine lv_iload_n hx hb dX9_overlap_68 rfl (lv_at hl 3 rfl) ?_
                    refine va_iald hx hb hK hP 30 18 rfl rfl (i := x3_lp431) (vin (a := x3_lp431.toInt) rfl (by omega)) dX9_overlap_69 ?_
                    refine lv_topi (fun z479 e480 => ?_)
                    refine lv_aload_n hx hb dX9_overlap_70 rfl (lv_at hl 4 rfl) ?_
                    refine lv_iload hx hb dX9_overlap_71 (lv_at hl 1 rfl) ?_
                    refine lv_iload_n hx hb dX9_overlap_73 rfl (lv_at hl 6 rfl) ?_
                    refine va_calli (va_runV (As := [.int x5_lp444, .int p1]) (rest := [.int z479]) ⟨hx, hb, hml, hown, hwd⟩ (c_X9_lastDay l dC dI g c adK adV v F rc H.size x5_lp444 p1 hg hI (by omega)) (cwV 2 hwd (gV wk_685 wk_682 wk_683 wk_684 wk_22) rfl rfl rfl (by decide +kernel) ⟨Nat.le_of_ble_eq_true rfl, Nat.le_of_ble_eq_true rfl⟩) ⟨PX.blind, va_recv hK hP (ci := 9) (q0 := 4) rfl rfl, fun U hU hW => ⟨rfl, PX.at hK hE hP hS hU hW⟩⟩ rfl rfl hl.1 rfl (lv_room (Nat.le_of_ble_eq_true rfl)) dX9_overlap_74 ⟨Nat.le_of_ble_eq_true rfl, Nat.le_of_ble_eq_true rfl⟩) hS (fun q _ h => (freeX hS) q h) (freeX hS) (fun r481 u t H1 locs ht hvm hw hB hz1 hk1 hS => ?_)
                    unfold BX at hB
                    rw [ht] at hB
                    have hP : va_P (dC, dI) classes (wX g c v F rc) H1 := hB
                    generalize H1 = H at hP hS ⊢
                    have rr_r481 := i32_rng r481
                    refine lv_icmp_ge (tgt := 98) hx hb dX9_overlap_77 (by decide) (fun c482 => ?_) (fun c482 => ?_)
                    · skip
                      have t483 := cv_le (a := r481.toInt) rfl (b := z479.toInt) rfl c482
                      refine lv_aload_n hx hb dX9_overlap_98 rfl (lv_at hl 4 rfl) ?_
                      refine va_get (D := (dC, dI)) (ci := 9) (v := .ref (g 37)) (C := RX9) (T := TX9) (N := 11) hx hb hwd inA_X9 hown hK hP 4 rfl rfl 9 (by decide) (hwd _ wk_89) (fun _ h9 => h9) rfl dX9_overlap_99 ?_
                      refine lv_iload hx hb dX9_overlap_102 (lv_at hl 1 rfl) ?_
                      refine va_iald hx hb hK hP 37 25 rfl rfl (i := x5_lp444) (vin (a := x5_lp444.toInt) rfl (by omega)) dX9_overlap_104 ?_
                      refine lv_topi (fun z484 e485 => ?_)
                      have t486 : -1 ≤ z484.toInt ∧ z484.toInt ≤ 499 := by rw [e485]; exact hI.2 37 _ _ rfl _
                      refine lv_istore (lv' := [(5, .int z484), (6, .int x6_lp444), (4, .int x4_lp431), (3, .int x3_lp431), (0, .ref (g 4)), (1, .int p0), (2, .int p1)]) hx hb dX9_overlap_105 hl (by decide) rfl (fun ls hl => ?_)
                      obtain ⟨z487, e488⟩ : ∃ y : Int32, y = x6_lp444 + 1 := ⟨_, rfl⟩
                      try (have t489 := tadd e488 rfl (b := 1) (by decide) (by omega))
                      refine lv_iinc (v := z487) (lv' := [(6, .int z487), (5, .int z484), (4, .int x4_lp431), (3, .int x3_lp431), (0, .ref (g 4)), (1, .int p0), (2, .int p1)]) hx hb dX9_overlap_107 hl (k := 1) rfl (by rw [e488]; rfl) (by decide) rfl (fun ls hl => ?_)
                      refine lv_goto (tgt := 34) hx hb dX9_overlap_110 (by decide) ?_
                      exact ih_lp444 z487 z484  _ _ _ (by omega) (by omega) (by omega) (by omega) hP hS (lv_sub hl [0, 1, 2, 3, 4, 5, 6] rfl)
                    · skip
                      have t490 := cv_nle (a := r481.toInt) rfl (b := z479.toInt) rfl c482
                      refine lv_aload_n hx hb dX9_overlap_80 rfl (lv_at hl 4 rfl) ?_
                      refine va_get (D := (dC, dI)) (ci := 9) (v := .ref (g 30)) (C := RX9) (T := TX9) (N := 11) hx hb hwd inA_X9 hown hK hP 4 rfl rfl 2 (by decide) (hwd _ wk_81) (fun _ h9 => h9) rfl dX9_overlap_81 ?_
                      refine lv_iload hx hb dX9_overlap_84 (lv_at hl 1 rfl) ?_
                      refine va_iald hx hb hK hP 30 18 rfl rfl (i := x5_lp444) (vin (a := x5_lp444.toInt) rfl (by omega)) dX9_overlap_86 ?_
                      refine lv_topi (fun z491 e492 => ?_)
                      refine lv_aload_n hx hb dX9_overlap_87 rfl (lv_at hl 4 rfl) ?_
                      refine lv_iload_n hx hb dX9_overlap_88 rfl (lv_at hl 3 rfl) ?_
                      refine lv_iload_n hx hb dX9_overlap_89 rfl (lv_at hl 6 rfl) ?_
                      refine va_calli (va_runV (As := [.int x3_lp431, .int p1]) (rest := [.int z491]) ⟨hx, hb, hml, hown, hwd⟩ (c_X9_lastDay l dC dI g c adK adV v F rc H.size x3_lp431 p1 hg hI (by omega)) (cwV 2 hwd (gV wk_685 wk_682 wk_683 wk_684 wk_22) rfl rfl rfl (by decide +kernel) ⟨Nat.le_of_ble_eq_true rfl, Nat.le_of_ble_eq_true rfl⟩) ⟨PX.blind, va_recv hK hP (ci := 9) (q0 := 4) rfl rfl, fun U hU hW => ⟨rfl, PX.at hK hE hP hS hU hW⟩⟩ rfl rfl hl.1 rfl (lv_room (Nat.le_of_ble_eq_true rfl)) dX9_overlap_90 ⟨Nat.le_of_ble_eq_true rfl, Nat.le_of_ble_eq_true rfl⟩) hS (fun q _ h => (freeX hS) q h) (freeX hS) (fun r493 u t H1 locs ht hvm hw hB hz1 hk1 hS => ?_)
                      unfold BX at hB
                      rw [ht] at hB
                      have hP : va_P (dC, dI) classes (wX g c v F rc) H1 := hB
                      generalize H1 = H at hP hS ⊢
                      have rr_r493 := i32_rng r493
                      refine lv_icmp_ge (tgt := 98) hx hb dX9_overlap_93 (by decide) (fun c494 => ?_) (fun c494 => ?_)
                      · skip
                        have t495 := cv_le (a := r493.toInt) rfl (b := z491.toInt) rfl c494
                        refine lv_aload_n hx hb dX9_overlap_98 rfl (lv_at hl 4 rfl) ?_
                        refine va_get (D := (dC, dI)) (ci := 9) (v := .ref (g 37)) (C := RX9) (T := TX9) (N := 11) hx hb hwd inA_X9 hown hK hP 4 rfl rfl 9 (by decide) (hwd _ wk_89) (fun _ h9 => h9) rfl dX9_overlap_99 ?_
                        refine lv_iload hx hb dX9_overlap_102 (lv_at hl 1 rfl) ?_
                        refine va_iald hx hb hK hP 37 25 rfl rfl (i := x5_lp444) (vin (a := x5_lp444.toInt) rfl (by omega)) dX9_overlap_104 ?_
                        refine lv_topi (fun z496 e497 => ?_)
                        have t498 : -1 ≤ z496.toInt ∧ z496.toInt ≤ 499 := by rw [e497]; exact hI.2 37 _ _ rfl _
                        refine lv_istore (lv' := [(5, .int z496), (6, .int x6_lp444), (4, .int x4_lp431), (3, .int x3_lp431), (0, .ref (g 4)), (1, .int p0), (2, .int p1)]) hx hb dX9_overlap_105 hl (by decide) rfl (fun ls hl => ?_)
                        obtain ⟨z499, e500⟩ : ∃ y : Int32, y = x6_lp444 + 1 := ⟨_, rfl⟩
                        try (have t501 := tadd e500 rfl (b := 1) (by decide) (by omega))
                        refine lv_iinc (v := z499) (lv' := [(6, .int z499), (5, .int z496), (4, .int x4_lp431), (3, .int x3_lp431), (0, .ref (g 4)), (1, .int p0), (2, .int p1)]) hx hb dX9_overlap_107 hl (k := 1) rfl (by rw [e500]; rfl) (by decide) rfl (fun ls hl => ?_)
                        refine lv_goto (tgt := 34) hx hb dX9_overlap_110 (by decide) ?_
                        exact ih_lp444 z499 z496  _ _ _ (by omega) (by omega) (by omega) (by omega) hP hS (lv_sub hl [0, 1, 2, 3, 4, 5, 6] rfl)
                      · skip
                        have t502 := cv_nle (a := r493.toInt) rfl (b := z491.toInt) rfl c494
                        refine lv_iconst (v := 1) hx hb dX9_overlap_96 (by decide) ?_
                        have hP9 : va_P (dC, dI) classes (wX g c v F rc) H := hP
                        exact W.zret (v := 1) hx hb hr (rfl) (fun t ht hW => ⟨⟨1, (), rfl, by have : (1 : Int32).toInt = 1 := (by decide); omega, (by show va_P _ _ _ t.heap; rw [ht]; exact hP9)⟩, hS.F ht⟩) hS.2.2 dX9_overlap_97
          obtain ⟨n9, hn9⟩ : ∃ n : Nat, 2147483648 - 0 ≤ (n : Int) := ⟨((2147483648 - 0 : Int)).toNat, by omega⟩
          exact lp444 n9 0 z441  H _ ls (by have : (0 : Int32).toInt = 0 := (by decide); omega) (by have : (0 : Int32).toInt = 0 := (by decide); omega) (by have : (0 : Int32).toInt = 0 := (by decide); omega) (by have : (0 : Int32).toInt = 0 := (by decide); omega) hP hS hl
  obtain ⟨n9, hn9⟩ : ∃ n : Nat, 2147483648 - 0 ≤ (n : Int) := ⟨((2147483648 - 0 : Int)).toNat, by omega⟩
  exact lp431 n9 0 z428  H _ ls (by have : (0 : Int32).toInt = 0 := (by decide); omega) (by have : (0 : Int32).toInt = 0 := (by decide); omega) (by have : (0 : Int32).toInt = 0 := (by decide); omega) (by have : (0 : Int32).toInt = 0 := (by decide); omega) hP hS hl
