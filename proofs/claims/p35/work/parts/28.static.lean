set_option maxHeartbeats 8000000 in
set_option maxRecDepth 100000 in
theorem c_X11_within (l : Launch) (dC : Nat → ClassId) (dI : Nat → Nat → Nat) (g : Nat → Nat) (c : Nat → ClassId) (adK adV : Nat → Nat) (v : Nat → Int32) (F : Nat → Nat → Int32) (rc sz : Nat) (p0 : Int32) (p1 : Int32) (p2 : Int32) (hg : injX g) (hI : IX v F) : Met l yX11_within (Cond.code yX11_within cX11_within 3 (some .boolean) :: wA) ({ frames := 1, cells := 0, slots := 0, locals := 40 }) (va_Pc [.int p0, .int p1, .int p2] (PX dC dI g c adK adV v F rc sz)) (va_Qi (fun (r : Int32) (u : Unit) => (r.toInt = 1 ∧ p1.toInt ≤ p0.toInt ∧ p0.toInt ≤ p2.toInt) ∨ (r.toInt = 0 ∧ (p0.toInt < p1.toInt ∨ p2.toInt < p0.toInt))) (fun (_ : Unit) => BX dC dI g c (v, F, rc)) (AX g sz)) 0 0 (AX g sz) := by
  refine Met.ofW (cc := cX11_within) (maxL := 3) (ret := (some .boolean)) (by decide) rfl ?_
  intro p e s m args below meth c0 s₁ B hml hv
  obtain ⟨rfl, hsz, hP, hK, hE⟩ := hv
  have hx := B.exec
  have hb := B.bytes
  have hr := B.returns
  have hts := atoms_spec (ws := Cond.code yX11_within cX11_within 3 (some .boolean) :: wA) B.pre
  have hwd : ∀ w ∈ wA, w.before _ s = true := fun w h => hts w (List.mem_cons_of_mem _ h)
  have hown : s.vm.findClass RX11 = some m.cls := findClass_of_methodNamed B.named
  have hlocks := B.notSynchronized
  subst hsz
  have hl := lv_entry ([.int p0, .int p1, .int p2]) (n := 3) (Nat.le_of_ble_eq_true rfl)
  rw [lg_entry_eq]
  generalize (lg_sl ([.int p0, .int p1, .int p2]) ++ List.replicate (3 - (lg_sl ([.int p0, .int p1, .int p2])).length) Slot.unset).toArray = ls at hl ⊢
  have hl : lv_has ls 3 [(0, .int p0), (1, .int p1), (2, .int p2)] := hl
  obtain ⟨H, eH⟩ : ∃ z, z = s.heap := ⟨_, rfl⟩
  have hP : va_P (dC, dI) classes (wX g c v F rc) H := by rw [eH]; exact hP
  have hS : va_S (AX g s.heap.size) s.heap H [] := by rw [eH]; exact va_S.rf
  refine my_heap eH ?_
  have rp0 := i32_rng p0
  have rp1 := i32_rng p1
  have rp2 := i32_rng p2
  refine lv_iload_n hx hb dX11_within_0 rfl (lv_at hl 0 rfl) ?_
  refine lv_iload_n hx hb dX11_within_1 rfl (lv_at hl 1 rfl) ?_
  refine lv_icmp_lt (tgt := 14) hx hb dX11_within_2 (by decide) (fun c1 => ?_) (fun c1 => ?_)
  · skip
    have t2 := cv_lt (a := p0.toInt) rfl (b := p1.toInt) rfl c1
    refine lv_iconst (v := 0) hx hb dX11_within_14 (by decide) ?_
    have hP9 : va_P (dC, dI) classes (wX g c v F rc) H := hP
    exact W.zret (v := 0) hx hb hr (rfl) (fun t ht hW => ⟨⟨0, (), rfl, by have : (0 : Int32).toInt = 0 := (by decide); omega, (by show va_P _ _ _ t.heap; rw [ht]; exact hP9)⟩, hS.F ht⟩) hS.2.2 dX11_within_15
  · skip
    have t3 := cv_nlt (a := p0.toInt) rfl (b := p1.toInt) rfl c1
    refine lv_iload_n hx hb dX11_within_5 rfl (lv_at hl 0 rfl) ?_
    refine lv_iload_n hx hb dX11_within_6 rfl (lv_at hl 2 rfl) ?_
    refine lv_icmp_gt (tgt := 14) hx hb dX11_within_7 (by decide) (fun c4 => ?_) (fun c4 => ?_)
    · skip
      have t5 := cv_lt (a := p2.toInt) rfl (b := p0.toInt) rfl c4
      refine lv_iconst (v := 0) hx hb dX11_within_14 (by decide) ?_
      have hP9 : va_P (dC, dI) classes (wX g c v F rc) H := hP
      exact W.zret (v := 0) hx hb hr (rfl) (fun t ht hW => ⟨⟨0, (), rfl, by have : (0 : Int32).toInt = 0 := (by decide); omega, (by show va_P _ _ _ t.heap; rw [ht]; exact hP9)⟩, hS.F ht⟩) hS.2.2 dX11_within_15
    · skip
      have t6 := cv_nlt (a := p2.toInt) rfl (b := p0.toInt) rfl c4
      refine lv_iconst (v := 1) hx hb dX11_within_10 (by decide) ?_
      refine lv_goto (tgt := 15) hx hb dX11_within_11 (by decide) ?_
      have hP9 : va_P (dC, dI) classes (wX g c v F rc) H := hP
      exact W.zret (v := 1) hx hb hr (rfl) (fun t ht hW => ⟨⟨1, (), rfl, by have : (1 : Int32).toInt = 1 := (by decide); omega, (by show va_P _ _ _ t.heap; rw [ht]; exact hP9)⟩, hS.F ht⟩) hS.2.2 dX11_within_15
set_option maxHeartbeats 8000000 in
set_option maxRecDepth 100000 in
theorem c_X11_isDay (l : Launch) (dC : Nat → ClassId) (dI : Nat → Nat → Nat) (g : Nat → Nat) (c : Nat → ClassId) (adK adV : Nat → Nat) (v : Nat → Int32) (F : Nat → Nat → Int32) (rc sz : Nat) (p0 : Int32) (hg : injX g) (hI : IX v F) : Met l yX11_isDay (Cond.code yX11_isDay cX11_isDay 1 (some .boolean) :: wA) ({ frames := 2, cells := 0, slots := 0, locals := 80 }) (va_Pc [.int p0] (PX dC dI g c adK adV v F rc sz)) (va_Qi (fun (r : Int32) (u : Unit) => (r.toInt = 1 ∧ 0 ≤ p0.toInt ∧ p0.toInt ≤ 9999) ∨ (r.toInt = 0 ∧ (p0.toInt < 0 ∨ 9999 < p0.toInt))) (fun (_ : Unit) => BX dC dI g c (v, F, rc)) (AX g sz)) 0 0 (AX g sz) := by
  refine Met.ofW (cc := cX11_isDay) (maxL := 1) (ret := (some .boolean)) (by decide) rfl ?_
  intro p e s m args below meth c0 s₁ B hml hv
  obtain ⟨rfl, hsz, hP, hK, hE⟩ := hv
  have hx := B.exec
  have hb := B.bytes
  have hr := B.returns
  have hts := atoms_spec (ws := Cond.code yX11_isDay cX11_isDay 1 (some .boolean) :: wA) B.pre
  have hwd : ∀ w ∈ wA, w.before _ s = true := fun w h => hts w (List.mem_cons_of_mem _ h)
  have hown : s.vm.findClass RX11 = some m.cls := findClass_of_methodNamed B.named
  have hlocks := B.notSynchronized
  subst hsz
  have hl := lv_entry ([.int p0]) (n := 1) (Nat.le_of_ble_eq_true rfl)
  rw [lg_entry_eq]
  generalize (lg_sl ([.int p0]) ++ List.replicate (1 - (lg_sl ([.int p0])).length) Slot.unset).toArray = ls at hl ⊢
  have hl : lv_has ls 1 [(0, .int p0)] := hl
  obtain ⟨H, eH⟩ : ∃ z, z = s.heap := ⟨_, rfl⟩
  have hP : va_P (dC, dI) classes (wX g c v F rc) H := by rw [eH]; exact hP
  have hS : va_S (AX g s.heap.size) s.heap H [] := by rw [eH]; exact va_S.rf
  refine my_heap eH ?_
  have rp0 := i32_rng p0
  refine lv_iload_n hx hb dX11_isDay_0 rfl (lv_at hl 0 rfl) ?_
  refine lv_iconst (v := 0) hx hb dX11_isDay_1 (by decide) ?_
  refine lv_sipush (v := 9999) hx hb dX11_isDay_2 (by decide) ?_
  refine va_calli (va_runS (As := [.int p0, .int 0, .int 9999]) (rest := []) ⟨hx, hb, hml, hown, hwd⟩ (c_X11_within l dC dI g c adK adV v F rc H.size p0 0 9999 hg hI ) (va_cwS 3 hwd (gT wk_239 wk_237 wk_238 wk_2) rfl rfl rfl (by decide +kernel) ⟨Nat.le_of_ble_eq_true rfl, Nat.le_of_ble_eq_true rfl⟩) ⟨PX.blind, fun U hU hW => ⟨rfl, PX.at hK hE hP hS hU hW⟩⟩ rfl rfl hl.1 rfl (lv_room (Nat.le_of_ble_eq_true rfl)) dX11_isDay_5 ⟨Nat.le_of_ble_eq_true rfl, Nat.le_of_ble_eq_true rfl⟩) hS (fun q _ h => (freeX hS) q h) (freeX hS) (fun r7 u t H1 locs ht hvm hw hB hz1 hk1 hS => ?_)
  unfold BX at hB
  rw [ht] at hB
  have hP : va_P (dC, dI) classes (wX g c v F rc) H1 := hB
  have hw : (r7.toInt = 1 ∧ (0 : Int32).toInt ≤ p0.toInt ∧ p0.toInt ≤ (9999 : Int32).toInt) ∨ (r7.toInt = 0 ∧ (p0.toInt < (0 : Int32).toInt ∨ (9999 : Int32).toInt < p0.toInt)) := hw
  have k8 : (0 : Int32).toInt = 0 := by decide
  have k9 : (9999 : Int32).toInt = 9999 := by decide
  generalize H1 = H at hP hS ⊢
  have hw_r7 := hw
  have hP9 : va_P (dC, dI) classes (wX g c v F rc) H := hP
  exact W.zret (v := r7) hx hb hr (narB (by omega)) (fun t ht hW => ⟨⟨r7, (), rfl, by omega, (by show va_P _ _ _ t.heap; rw [ht]; exact hP9)⟩, hS.F ht⟩) hS.2.2 dX11_isDay_8
set_option maxHeartbeats 8000000 in
set_option maxRecDepth 100000 in
theorem c_X11_isTold (l : Launch) (dC : Nat → ClassId) (dI : Nat → Nat → Nat) (g : Nat → Nat) (c : Nat → ClassId) (adK adV : Nat → Nat) (v : Nat → Int32) (F : Nat → Nat → Int32) (rc sz : Nat) (p0 : Int32) (hg : injX g) (hI : IX v F) : Met l yX11_isTold (Cond.code yX11_isTold cX11_isTold 1 (some .boolean) :: wA) ({ frames := 2, cells := 0, slots := 0, locals := 80 }) (va_Pc [.int p0] (PX dC dI g c adK adV v F rc sz)) (va_Qi (fun (r : Int32) (u : Unit) => (r.toInt = 1 ∧ 0 ≤ p0.toInt ∧ p0.toInt ≤ 99999) ∨ (r.toInt = 0 ∧ (p0.toInt < 0 ∨ 99999 < p0.toInt))) (fun (_ : Unit) => BX dC dI g c (v, F, rc)) (AX g sz)) 0 0 (AX g sz) := by
  refine Met.ofW (cc := cX11_isTold) (maxL := 1) (ret := (some .boolean)) (by decide) rfl ?_
  intro p e s m args below meth c0 s₁ B hml hv
  obtain ⟨rfl, hsz, hP, hK, hE⟩ := hv
  have hx := B.exec
  have hb := B.bytes
  have hr := B.returns
  have hts := atoms_spec (ws := Cond.code yX11_isTold cX11_isTold 1 (some .boolean) :: wA) B.pre
  have hwd : ∀ w ∈ wA, w.before _ s = true := fun w h => hts w (List.mem_cons_of_mem _ h)
  have hown : s.vm.findClass RX11 = some m.cls := findClass_of_methodNamed B.named
  have hlocks := B.notSynchronized
  subst hsz
  have hl := lv_entry ([.int p0]) (n := 1) (Nat.le_of_ble_eq_true rfl)
  rw [lg_entry_eq]
  generalize (lg_sl ([.int p0]) ++ List.replicate (1 - (lg_sl ([.int p0])).length) Slot.unset).toArray = ls at hl ⊢
  have hl : lv_has ls 1 [(0, .int p0)] := hl
  obtain ⟨H, eH⟩ : ∃ z, z = s.heap := ⟨_, rfl⟩
  have hP : va_P (dC, dI) classes (wX g c v F rc) H := by rw [eH]; exact hP
  have hS : va_S (AX g s.heap.size) s.heap H [] := by rw [eH]; exact va_S.rf
  refine my_heap eH ?_
  have rp0 := i32_rng p0
  refine lv_iload_n hx hb dX11_isTold_0 rfl (lv_at hl 0 rfl) ?_
  refine lv_iconst (v := 0) hx hb dX11_isTold_1 (by decide) ?_
  refine lv_ldc (v := 99999) hx hb hown (hwd _ wk_236) dX11_isTold_2 ?_
  refine va_calli (va_runS (As := [.int p0, .int 0, .int 99999]) (rest := []) ⟨hx, hb, hml, hown, hwd⟩ (c_X11_within l dC dI g c adK adV v F rc H.size p0 0 99999 hg hI ) (va_cwS 3 hwd (gT wk_239 wk_237 wk_238 wk_2) rfl rfl rfl (by decide +kernel) ⟨Nat.le_of_ble_eq_true rfl, Nat.le_of_ble_eq_true rfl⟩) ⟨PX.blind, fun U hU hW => ⟨rfl, PX.at hK hE hP hS hU hW⟩⟩ rfl rfl hl.1 rfl (lv_room (Nat.le_of_ble_eq_true rfl)) dX11_isTold_4 ⟨Nat.le_of_ble_eq_true rfl, Nat.le_of_ble_eq_true rfl⟩) hS (fun q _ h => (freeX hS) q h) (freeX hS) (fun r10 u t H1 locs ht hvm hw hB hz1 hk1 hS => ?_)
  unfold BX at hB
  rw [ht] at hB
  have hP : va_P (dC, dI) classes (wX g c v F rc) H1 := hB
  have hw : (r10.toInt = 1 ∧ (0 : Int32).toInt ≤ p0.toInt ∧ p0.toInt ≤ (99999 : Int32).toInt) ∨ (r10.toInt = 0 ∧ (p0.toInt < (0 : Int32).toInt ∨ (99999 : Int32).toInt < p0.toInt)) := hw
  have k11 : (0 : Int32).toInt = 0 := by decide
  have k12 : (99999 : Int32).toInt = 99999 := by decide
  generalize H1 = H at hP hS ⊢
  have hw_r10 := hw
  have hP9 : va_P (dC, dI) classes (wX g c v F rc) H := hP
  exact W.zret (v := r10) hx hb hr (narB (by omega)) (fun t ht hW => ⟨⟨r10, (), rfl, by omega, (by show va_P _ _ _ t.heap; rw [ht]; exact hP9)⟩, hS.F ht⟩) hS.2.2 dX11_isTold_7
set_option maxHeartbeats 8000000 in
set_option maxRecDepth 100000 in
theorem c_X11_held (l : Launch) (dC : Nat → ClassId) (dI : Nat → Nat → Nat) (g : Nat → Nat) (c : Nat → ClassId) (adK adV : Nat → Nat) (v : Nat → Int32) (F : Nat → Nat → Int32) (rc sz : Nat) (p0 : Int64) (hg : injX g) (hI : IX v F) : Met l yX11_held (Cond.code yX11_held cX11_held 2 (some .int) :: wA) ({ frames := 2, cells := 0, slots := 0, locals := 80 }) (va_Pc [.long p0] (PX dC dI g c adK adV v F rc sz)) (va_Qi (fun (r : Int32) (u : Unit) => True) (fun (_ : Unit) => BX dC dI g c (v, F, rc)) (AX g sz)) 0 0 (AX g sz) := by
  refine Met.ofW (cc := cX11_held) (maxL := 2) (ret := (some .int)) (by decide) rfl ?_
  intro p e s m args below meth c0 s₁ B hml hv
  obtain ⟨rfl, hsz, hP, hK, hE⟩ := hv
  have hx := B.exec
  have hb := B.bytes
  have hr := B.returns
  have hts := atoms_spec (ws := Cond.code yX11_held cX11_held 2 (some .int) :: wA) B.pre
  have hwd : ∀ w ∈ wA, w.before _ s = true := fun w h => hts w (List.mem_cons_of_mem _ h)
  have hown : s.vm.findClass RX11 = some m.cls := findClass_of_methodNamed B.named
  have hlocks := B.notSynchronized
  subst hsz
  have hl := lv_entry ([.long p0]) (n := 2) (Nat.le_of_ble_eq_true rfl)
  rw [lg_entry_eq]
  generalize (lg_sl ([.long p0]) ++ List.replicate (2 - (lg_sl ([.long p0])).length) Slot.unset).toArray = ls at hl ⊢
  have hl : lv_has ls 2 [(0, .long p0)] := hl
  obtain ⟨H, eH⟩ : ∃ z, z = s.heap := ⟨_, rfl⟩
  have hP : va_P (dC, dI) classes (wX g c v F rc) H := by rw [eH]; exact hP
  have hS : va_S (AX g s.heap.size) s.heap H [] := by rw [eH]; exact va_S.rf
  refine my_heap eH ?_
  refine lv_ldc2 (v := 2000000000) hx hb hown (hwd _ wk_469) dX11_held_0 ?_
  refine lv_lload_n hx hb dX11_held_3 rfl (lv_at hl 0 rfl) ?_
  refine va_mmin_long hx hb (by rw [hml]; exact hl.1.symm) hown (hwd _ wk_470) (hwd _ wk_471) (hwd _ wk_392) (hwd _ wk_472) (Nat.le_of_ble_eq_true rfl) (Nat.le_of_ble_eq_true rfl) (Nat.le_of_ble_eq_true rfl) (Nat.le_of_ble_eq_true rfl) dX11_held_4 ?_
  refine lv_topl (fun z13 e14 => ?_)
  refine lv_l2i hx hb dX11_held_7 rfl ?_
  refine lv_topi (fun z15 e16 => ?_)
  have hP9 : va_P (dC, dI) classes (wX g c v F rc) H := hP
  exact W.iret (v := z15) hx hb hr (fun t ht hW => ⟨⟨z15, (), rfl, trivial, (by show va_P _ _ _ t.heap; rw [ht]; exact hP9)⟩, hS.F ht⟩) hS.2.2 dX11_held_8
set_option maxHeartbeats 8000000 in
set_option maxRecDepth 100000 in
theorem c_X4_join (l : Launch) (dC : Nat → ClassId) (dI : Nat → Nat → Nat) (g : Nat → Nat) (c : Nat → ClassId) (adK adV : Nat → Nat) (v : Nat → Int32) (F : Nat → Nat → Int32) (rc sz : Nat) (p0 : Int32) (p1 : Int32) (p2 : Int32) (hg : injX g) (hI : IX v F) : Met l yX4_join (Cond.code yX4_join cX4_join 3 (some .int) :: wA) ({ frames := 1, cells := 0, slots := 0, locals := 40 }) (va_Pc [.int p0, .int p1, .int p2] (PX dC dI g c adK adV v F rc sz)) (va_Qi (fun (r : Int32) (u : Unit) => True) (fun (_ : Unit) => BX dC dI g c (v, F, rc)) (AX g sz)) 0 0 (AX g sz) := by
  refine Met.ofW (cc := cX4_join) (maxL := 3) (ret := (some .int)) (by decide) rfl ?_
  intro p e s m args below meth c0 s₁ B hml hv
  obtain ⟨rfl, hsz, hP, hK, hE⟩ := hv
  have hx := B.exec
  have hb := B.bytes
  have hr := B.returns
  have hts := atoms_spec (ws := Cond.code yX4_join cX4_join 3 (some .int) :: wA) B.pre
  have hwd : ∀ w ∈ wA, w.before _ s = true := fun w h => hts w (List.mem_cons_of_mem _ h)
  have hown : s.vm.findClass RX4 = some m.cls := findClass_of_methodNamed B.named
  have hlocks := B.notSynchronized
  subst hsz
  have hl := lv_entry ([.int p0, .int p1, .int p2]) (n := 3) (Nat.le_of_ble_eq_true rfl)
  rw [lg_entry_eq]
  generalize (lg_sl ([.int p0, .int p1, .int p2]) ++ List.replicate (3 - (lg_sl ([.int p0, .int p1, .int p2])).length) Slot.unset).toArray = ls at hl ⊢
  have hl : lv_has ls 3 [(0, .int p0), (1, .int p1), (2, .int p2)] := hl
  obtain ⟨H, eH⟩ : ∃ z, z = s.heap := ⟨_, rfl⟩
  have hP : va_P (dC, dI) classes (wX g c v F rc) H := by rw [eH]; exact hP
  have hS : va_S (AX g s.heap.size) s.heap H [] := by rw [eH]; exact va_S.rf
  refine my_heap eH ?_
  have rp0 := i32_rng p0
  have rp1 := i32_rng p1
  have rp2 := i32_rng p2
  refine lv_iload_n hx hb dX4_join_0 rfl (lv_at hl 0 rfl) ?_
  by_cases hlo17 : p0.toInt < 5
  · refine lv_tableOut (tgt := 86) hx hb dX4_join_1 (Or.inl hlo17) (by decide) ?_
    refine lv_iload_n hx hb dX4_join_86 rfl (lv_at hl 1 rfl) ?_
    refine lv_iload_n hx hb dX4_join_87 rfl (lv_at hl 2 rfl) ?_
    refine lv_icmp_le (tgt := 95) hx hb dX4_join_88 (by decide) (fun c19 => ?_) (fun c19 => ?_)
    · skip
      have t20 := cv_le (a := p1.toInt) rfl (b := p2.toInt) rfl c19
      refine lv_iconst (v := 0) hx hb dX4_join_95 (by decide) ?_
      have hP9 : va_P (dC, dI) classes (wX g c v F rc) H := hP
      exact W.iret (v := 0) hx hb hr (fun t ht hW => ⟨⟨0, (), rfl, trivial, (by show va_P _ _ _ t.heap; rw [ht]; exact hP9)⟩, hS.F ht⟩) hS.2.2 dX4_join_96
    · skip
      have t21 := cv_nle (a := p1.toInt) rfl (b := p2.toInt) rfl c19
      refine lv_iconst (v := 1) hx hb dX4_join_91 (by decide) ?_
      refine lv_goto (tgt := 96) hx hb dX4_join_92 (by decide) ?_
      have hP9 : va_P (dC, dI) classes (wX g c v F rc) H := hP
      exact W.iret (v := 1) hx hb hr (fun t ht hW => ⟨⟨1, (), rfl, trivial, (by show va_P _ _ _ t.heap; rw [ht]; exact hP9)⟩, hS.F ht⟩) hS.2.2 dX4_join_96
  by_cases hhi18 : 10 < p0.toInt
  · refine lv_tableOut (tgt := 86) hx hb dX4_join_1 (Or.inr hhi18) (by decide) ?_
    refine lv_iload_n hx hb dX4_join_86 rfl (lv_at hl 1 rfl) ?_
    refine lv_iload_n hx hb dX4_join_87 rfl (lv_at hl 2 rfl) ?_
    refine lv_icmp_le (tgt := 95) hx hb dX4_join_88 (by decide) (fun c22 => ?_) (fun c22 => ?_)
    · skip
      have t23 := cv_le (a := p1.toInt) rfl (b := p2.toInt) rfl c22
      refine lv_iconst (v := 0) hx hb dX4_join_95 (by decide) ?_
      have hP9 : va_P (dC, dI) classes (wX g c v F rc) H := hP
      exact W.iret (v := 0) hx hb hr (fun t ht hW => ⟨⟨0, (), rfl, trivial, (by show va_P _ _ _ t.heap; rw [ht]; exact hP9)⟩, hS.F ht⟩) hS.2.2 dX4_join_96
    · skip
      have t24 := cv_nle (a := p1.toInt) rfl (b := p2.toInt) rfl c22
      refine lv_iconst (v := 1) hx hb dX4_join_91 (by decide) ?_
      refine lv_goto (tgt := 96) hx hb dX4_join_92 (by decide) ?_
      have hP9 : va_P (dC, dI) classes (wX g c v F rc) H := hP
      exact W.iret (v := 1) hx hb hr (fun t ht hW => ⟨⟨1, (), rfl, trivial, (by show va_P _ _ _ t.heap; rw [ht]; exact hP9)⟩, hS.F ht⟩) hS.2.2 dX4_join_96
  rcases (show p0.toInt = 5 ∨ p0.toInt = 6 ∨ p0.toInt = 7 ∨ p0.toInt = 8 ∨ p0.toInt = 9 ∨ p0.toInt = 10 by omega) with hk | hk | hk | hk | hk | hk
  · refine lv_tableIn (off := 39) (tgt := 40) hx hb dX4_join_1 hlo17 hhi18 (by rw [hk]; decide) (by decide) ?_
    refine lv_iload_n hx hb dX4_join_40 rfl (lv_at hl 1 rfl) ?_
    refine lv_iload_n hx hb dX4_join_41 rfl (lv_at hl 2 rfl) ?_
    refine lv_iadd hx hb dX4_join_42 ?_
    refine lv_topi (fun z25 e26 => ?_)
    try (have t27 := tadd e26 (a := p1.toInt) rfl (b := p2.toInt) rfl (by omega))
    have hP9 : va_P (dC, dI) classes (wX g c v F rc) H := hP
    exact W.iret (v := z25) hx hb hr (fun t ht hW => ⟨⟨z25, (), rfl, trivial, (by show va_P _ _ _ t.heap; rw [ht]; exact hP9)⟩, hS.F ht⟩) hS.2.2 dX4_join_43
  · refine lv_tableIn (off := 43) (tgt := 44) hx hb dX4_join_1 hlo17 hhi18 (by rw [hk]; decide) (by decide) ?_
    refine lv_iload_n hx hb dX4_join_44 rfl (lv_at hl 1 rfl) ?_
    refine lv_iload_n hx hb dX4_join_45 rfl (lv_at hl 2 rfl) ?_
    refine lv_isub hx hb dX4_join_46 ?_
    refine lv_topi (fun z28 e29 => ?_)
    try (have t30 := tsub e29 (a := p1.toInt) rfl (b := p2.toInt) rfl (by omega))
    have hP9 : va_P (dC, dI) classes (wX g c v F rc) H := hP
    exact W.iret (v := z28) hx hb hr (fun t ht hW => ⟨⟨z28, (), rfl, trivial, (by show va_P _ _ _ t.heap; rw [ht]; exact hP9)⟩, hS.F ht⟩) hS.2.2 dX4_join_47
  · refine lv_tableIn (off := 47) (tgt := 48) hx hb dX4_join_1 hlo17 hhi18 (by rw [hk]; decide) (by decide) ?_
    refine lv_iload_n hx hb dX4_join_48 rfl (lv_at hl 1 rfl) ?_
    refine lv_iload_n hx hb dX4_join_49 rfl (lv_at hl 2 rfl) ?_
    refine lv_imul hx hb dX4_join_50 ?_
    refine lv_topi (fun z31 e32 => ?_)
    try (have t33 := tmul e32 (a := p1.toInt) rfl (b := p2.toInt) rfl (by omega))
    have hP9 : va_P (dC, dI) classes (wX g c v F rc) H := hP
    exact W.iret (v := z31) hx hb hr (fun t ht hW => ⟨⟨z31, (), rfl, trivial, (by show va_P _ _ _ t.heap; rw [ht]; exact hP9)⟩, hS.F ht⟩) hS.2.2 dX4_join_51
  · refine lv_tableIn (off := 51) (tgt := 52) hx hb dX4_join_1 hlo17 hhi18 (by rw [hk]; decide) (by decide) ?_
    refine lv_iload_n hx hb dX4_join_52 rfl (lv_at hl 2 rfl) ?_
    refine lv_if_ne (tgt := 60) hx hb dX4_join_53 (by decide) (fun c34 => ?_) (fun c34 => ?_)
    · skip
      have t35 := cv_ne (a := p2.toInt) rfl (b := 0) (by decide) c34
      refine lv_iload_n hx hb dX4_join_60 rfl (lv_at hl 1 rfl) ?_
      refine lv_iload_n hx hb dX4_join_61 rfl (lv_at hl 2 rfl) ?_
      refine lv_idiv hx hb dX4_join_62 (fun q => by have := cv_eq rfl (b := 0) (by decide) q; omega) ?_
      refine lv_topi (fun z36 e37 => ?_)
      have hP9 : va_P (dC, dI) classes (wX g c v F rc) H := hP
      exact W.iret (v := z36) hx hb hr (fun t ht hW => ⟨⟨z36, (), rfl, trivial, (by show va_P _ _ _ t.heap; rw [ht]; exact hP9)⟩, hS.F ht⟩) hS.2.2 dX4_join_63
    · skip
      have t39 := cv_eq (a := p2.toInt) rfl (b := 0) (by decide) c34
      refine lv_iconst (v := 0) hx hb dX4_join_56 (by decide) ?_
      refine lv_goto (tgt := 63) hx hb dX4_join_57 (by decide) ?_
      have hP9 : va_P (dC, dI) classes (wX g c v F rc) H := hP
      exact W.iret (v := 0) hx hb hr (fun t ht hW => ⟨⟨0, (), rfl, trivial, (by show va_P _ _ _ t.heap; rw [ht]; exact hP9)⟩, hS.F ht⟩) hS.2.2 dX4_join_63
  · refine lv_tableIn (off := 63) (tgt := 64) hx hb dX4_join_1 hlo17 hhi18 (by rw [hk]; decide) (by decide) ?_
    refine lv_iload_n hx hb dX4_join_64 rfl (lv_at hl 1 rfl) ?_
    refine lv_iload_n hx hb dX4_join_65 rfl (lv_at hl 2 rfl) ?_
    refine lv_icmp_ge (tgt := 73) hx hb dX4_join_66 (by decide) (fun c40 => ?_) (fun c40 => ?_)
    · skip
      have t41 := cv_le (a := p2.toInt) rfl (b := p1.toInt) rfl c40
      refine lv_iconst (v := 0) hx hb dX4_join_73 (by decide) ?_
      have hP9 : va_P (dC, dI) classes (wX g c v F rc) H := hP
      exact W.iret (v := 0) hx hb hr (fun t ht hW => ⟨⟨0, (), rfl, trivial, (by show va_P _ _ _ t.heap; rw [ht]; exact hP9)⟩, hS.F ht⟩) hS.2.2 dX4_join_74
    · skip
      have t42 := cv_nle (a := p2.toInt) rfl (b := p1.toInt) rfl c40
      refine lv_iconst (v := 1) hx hb dX4_join_69 (by decide) ?_
      refine lv_goto (tgt := 74) hx hb dX4_join_70 (by decide) ?_
      have hP9 : va_P (dC, dI) classes (wX g c v F rc) H := hP
      exact W.iret (v := 1) hx hb hr (fun t ht hW => ⟨⟨1, (), rfl, trivial, (by show va_P _ _ _ t.heap; rw [ht]; exact hP9)⟩, hS.F ht⟩) hS.2.2 dX4_join_74
  · refine lv_tableIn (off := 74) (tgt := 75) hx hb dX4_join_1 hlo17 hhi18 (by rw [hk]; decide) (by decide) ?_
    refine lv_iload_n hx hb dX4_join_75 rfl (lv_at hl 1 rfl) ?_
    refine lv_iload_n hx hb dX4_join_76 rfl (lv_at hl 2 rfl) ?_
    refine lv_icmp_ne (tgt := 84) hx hb dX4_join_77 (by decide) (fun c43 => ?_) (fun c43 => ?_)
    · skip
      have t44 := cv_ne (a := p1.toInt) rfl (b := p2.toInt) rfl c43
      refine lv_iconst (v := 0) hx hb dX4_join_84 (by decide) ?_
      have hP9 : va_P (dC, dI) classes (wX g c v F rc) H := hP
      exact W.iret (v := 0) hx hb hr (fun t ht hW => ⟨⟨0, (), rfl, trivial, (by show va_P _ _ _ t.heap; rw [ht]; exact hP9)⟩, hS.F ht⟩) hS.2.2 dX4_join_85
    · skip
      have t45 := cv_eq (a := p1.toInt) rfl (b := p2.toInt) rfl c43
      refine lv_iconst (v := 1) hx hb dX4_join_80 (by decide) ?_
      refine lv_goto (tgt := 85) hx hb dX4_join_81 (by decide) ?_
      have hP9 : va_P (dC, dI) classes (wX g c v F rc) H := hP
      exact W.iret (v := 1) hx hb hr (fun t ht hW => ⟨⟨1, (), rfl, trivial, (by show va_P _ _ _ t.heap; rw [ht]; exact hP9)⟩, hS.F ht⟩) hS.2.2 dX4_join_85
set_option maxHeartbeats 8000000 in
set_option maxRecDepth 100000 in
theorem c_X0_numbersBehind (l : Launch) (dC : Nat → ClassId) (dI : Nat → Nat → Nat) (g : Nat → Nat) (c : Nat → ClassId) (adK adV : Nat → Nat) (v : Nat → Int32) (F : Nat → Nat → Int32) (rc sz : Nat) (p0 : Int32) (hg : injX g) (hI : IX v F) : Met l yX0_numbersBehind (Cond.code yX0_numbersBehind cX0_numbersBehind 1 (some .int) :: wA) ({ frames := 1, cells := 0, slots := 0, locals := 40 }) (va_Pc [.int p0] (PX dC dI g c adK adV v F rc sz)) (va_Qi (fun (r : Int32) (u : Unit) => 0 ≤ r.toInt ∧ r.toInt ≤ 3) (fun (_ : Unit) => BX dC dI g c (v, F, rc)) (AX g sz)) 0 0 (AX g sz) := by
  refine Met.ofW (cc := cX0_numbersBehind) (maxL := 1) (ret := (some .int)) (by decide) rfl ?_
  intro p e s m args below meth c0 s₁ B hml hv
  obtain ⟨rfl, hsz, hP, hK, hE⟩ := hv
  have hx := B.exec
  have hb := B.bytes
  have hr := B.returns
  have hts := atoms_spec (ws := Cond.code yX0_numbersBehind cX0_numbersBehind 1 (some .int) :: wA) B.pre
  have hwd : ∀ w ∈ wA, w.before _ s = true := fun w h => hts w (List.mem_cons_of_mem _ h)
  have hown : s.vm.findClass RX0 = some m.cls := findClass_of_methodNamed B.named
  have hlocks := B.notSynchronized
  subst hsz
  have hl := lv_entry ([.int p0]) (n := 1) (Nat.le_of_ble_eq_true rfl)
  rw [lg_entry_eq]
  generalize (lg_sl ([.int p0]) ++ List.replicate (1 - (lg_sl ([.int p0])).length) Slot.unset).toArray = ls at hl ⊢
  have hl : lv_has ls 1 [(0, .int p0)] := hl
  obtain ⟨H, eH⟩ : ∃ z, z = s.heap := ⟨_, rfl⟩
  have hP : va_P (dC, dI) classes (wX g c v F rc) H := by rw [eH]; exact hP
  have hS : va_S (AX g s.heap.size) s.heap H [] := by rw [eH]; exact va_S.rf
  refine my_heap eH ?_
  have rp0 := i32_rng p0
  refine lv_iload_n hx hb dX0_numbersBehind_0 rfl (lv_at hl 0 rfl) ?_
  by_cases hlo46 : p0.toInt < 100
  · refine lv_tableOut (tgt := 90) hx hb dX0_numbersBehind_1 (Or.inl hlo46) (by decide) ?_
    refine lv_iconst (v := 0) hx hb dX0_numbersBehind_90 (by decide) ?_
    have hP9 : va_P (dC, dI) classes (wX g c v F rc) H := hP
    exact W.iret (v := 0) hx hb hr (fun t ht hW => ⟨⟨0, (), rfl, by have : (0 : Int32).toInt = 0 := (by decide); omega, (by show va_P _ _ _ t.heap; rw [ht]; exact hP9)⟩, hS.F ht⟩) hS.2.2 dX0_numbersBehind_91
  by_cases hhi47 : 116 < p0.toInt
  · refine lv_tableOut (tgt := 90) hx hb dX0_numbersBehind_1 (Or.inr hhi47) (by decide) ?_
    refine lv_iconst (v := 0) hx hb dX0_numbersBehind_90 (by decide) ?_
    have hP9 : va_P (dC, dI) classes (wX g c v F rc) H := hP
    exact W.iret (v := 0) hx hb hr (fun t ht hW => ⟨⟨0, (), rfl, by have : (0 : Int32).toInt = 0 := (by decide); omega, (by show va_P _ _ _ t.heap; rw [ht]; exact hP9)⟩, hS.F ht⟩) hS.2.2 dX0_numbersBehind_91
  rcases (show p0.toInt = 100 ∨ p0.toInt = 101 ∨ p0.toInt = 102 ∨ p0.toInt = 103 ∨ p0.toInt = 104 ∨ p0.toInt = 105 ∨ p0.toInt = 106 ∨ p0.toInt = 107 ∨ p0.toInt = 108 ∨ p0.toInt = 109 ∨ p0.toInt = 110 ∨ p0.toInt = 111 ∨ p0.toInt = 112 ∨ p0.toInt = 113 ∨ p0.toInt = 114 ∨ p0.toInt = 115 ∨ p0.toInt = 116 by omega) with hk | hk | hk | hk | hk | hk | hk | hk | hk | hk | hk | hk | hk | hk | hk | hk | hk
  · refine lv_tableIn (off := 83) (tgt := 84) hx hb dX0_numbersBehind_1 hlo46 hhi47 (by rw [hk]; decide) (by decide) ?_
    refine lv_iconst (v := 3) hx hb dX0_numbersBehind_84 (by decide) ?_
    have hP9 : va_P (dC, dI) classes (wX g c v F rc) H := hP
    exact W.iret (v := 3) hx hb hr (fun t ht hW => ⟨⟨3, (), rfl, by have : (3 : Int32).toInt = 3 := (by decide); omega, (by show va_P _ _ _ t.heap; rw [ht]; exact hP9)⟩, hS.F ht⟩) hS.2.2 dX0_numbersBehind_85
  · refine lv_tableIn (off := 89) (tgt := 90) hx hb dX0_numbersBehind_1 hlo46 hhi47 (by rw [hk]; decide) (by decide) ?_
    refine lv_iconst (v := 0) hx hb dX0_numbersBehind_90 (by decide) ?_
    have hP9 : va_P (dC, dI) classes (wX g c v F rc) H := hP
    exact W.iret (v := 0) hx hb hr (fun t ht hW => ⟨⟨0, (), rfl, by have : (0 : Int32).toInt = 0 := (by decide); omega, (by show va_P _ _ _ t.heap; rw [ht]; exact hP9)⟩, hS.F ht⟩) hS.2.2 dX0_numbersBehind_91
  · refine lv_tableIn (off := 89) (tgt := 90) hx hb dX0_numbersBehind_1 hlo46 hhi47 (by rw [hk]; decide) (by decide) ?_
    refine lv_iconst (v := 0) hx hb dX0_numbersBehind_90 (by decide) ?_
    have hP9 : va_P (dC, dI) classes (wX g c v F rc) H := hP
    exact W.iret (v := 0) hx hb hr (fun t ht hW => ⟨⟨0, (), rfl, by have : (0 : Int32).toInt = 0 := (by decide); omega, (by show va_P _ _ _ t.heap; rw [ht]; exact hP9)⟩, hS.F ht⟩) hS.2.2 dX0_numbersBehind_91
  · refine lv_tableIn (off := 87) (tgt := 88) hx hb dX0_numbersBehind_1 hlo46 hhi47 (by rw [hk]; decide) (by decide) ?_
    refine lv_iconst (v := 1) hx hb dX0_numbersBehind_88 (by decide) ?_
    have hP9 : va_P (dC, dI) classes (wX g c v F rc) H := hP
    exact W.iret (v := 1) hx hb hr (fun t ht hW => ⟨⟨1, (), rfl, by have : (1 : Int32).toInt = 1 := (by decide); omega, (by show va_P _ _ _ t.heap; rw [ht]; exact hP9)⟩, hS.F ht⟩) hS.2.2 dX0_numbersBehind_89
  · refine lv_tableIn (off := 83) (tgt := 84) hx hb dX0_numbersBehind_1 hlo46 hhi47 (by rw [hk]; decide) (by decide) ?_
    refine lv_iconst (v := 3) hx hb dX0_numbersBehind_84 (by decide) ?_
    have hP9 : va_P (dC, dI) classes (wX g c v F rc) H := hP
    exact W.iret (v := 3) hx hb hr (fun t ht hW => ⟨⟨3, (), rfl, by have : (3 : Int32).toInt = 3 := (by decide); omega, (by show va_P _ _ _ t.heap; rw [ht]; exact hP9)⟩, hS.F ht⟩) hS.2.2 dX0_numbersBehind_85
  · refine lv_tableIn (off := 89) (tgt := 90) hx hb dX0_numbersBehind_1 hlo46 hhi47 (by rw [hk]; decide) (by decide) ?_
    refine lv_iconst (v := 0) hx hb dX0_numbersBehind_90 (by decide) ?_
    have hP9 : va_P (dC, dI) classes (wX g c v F rc) H := hP
    exact W.iret (v := 0) hx hb hr (fun t ht hW => ⟨⟨0, (), rfl, by have : (0 : Int32).toInt = 0 := (by decide); omega, (by show va_P _ _ _ t.heap; rw [ht]; exact hP9)⟩, hS.F ht⟩) hS.2.2 dX0_numbersBehind_91
  · refine lv_tableIn (off := 89) (tgt := 90) hx hb dX0_numbersBehind_1 hlo46 hhi47 (by rw [hk]; decide) (by decide) ?_
    refine lv_iconst (v := 0) hx hb dX0_numbersBehind_90 (by decide) ?_
    have hP9 : va_P (dC, dI) classes (wX g c v F rc) H := hP
    exact W.iret (v := 0) hx hb hr (fun t ht hW => ⟨⟨0, (), rfl, by have : (0 : Int32).toInt = 0 := (by decide); omega, (by show va_P _ _ _ t.heap; rw [ht]; exact hP9)⟩, hS.F ht⟩) hS.2.2 dX0_numbersBehind_91
  · refine lv_tableIn (off := 89) (tgt := 90) hx hb dX0_numbersBehind_1 hlo46 hhi47 (by rw [hk]; decide) (by decide) ?_
    refine lv_iconst (v := 0) hx hb dX0_numbersBehind_90 (by decide) ?_
    have hP9 : va_P (dC, dI) classes (wX g c v F rc) H := hP
    exact W.iret (v := 0) hx hb hr (fun t ht hW => ⟨⟨0, (), rfl, by have : (0 : Int32).toInt = 0 := (by decide); omega, (by show va_P _ _ _ t.heap; rw [ht]; exact hP9)⟩, hS.F ht⟩) hS.2.2 dX0_numbersBehind_91
  · refine lv_tableIn (off := 83) (tgt := 84) hx hb dX0_numbersBehind_1 hlo46 hhi47 (by rw [hk]; decide) (by decide) ?_
    refine lv_iconst (v := 3) hx hb dX0_numbersBehind_84 (by decide) ?_
    have hP9 : va_P (dC, dI) classes (wX g c v F rc) H := hP
    exact W.iret (v := 3) hx hb hr (fun t ht hW => ⟨⟨3, (), rfl, by have : (3 : Int32).toInt = 3 := (by decide); omega, (by show va_P _ _ _ t.heap; rw [ht]; exact hP9)⟩, hS.F ht⟩) hS.2.2 dX0_numbersBehind_85
  · refine lv_tableIn (off := 87) (tgt := 88) hx hb dX0_numbersBehind_1 hlo46 hhi47 (by rw [hk]; decide) (by decide) ?_
    refine lv_iconst (v := 1) hx hb dX0_numbersBehind_88 (by decide) ?_
    have hP9 : va_P (dC, dI) classes (wX g c v F rc) H := hP
    exact W.iret (v := 1) hx hb hr (fun t ht hW => ⟨⟨1, (), rfl, by have : (1 : Int32).toInt = 1 := (by decide); omega, (by show va_P _ _ _ t.heap; rw [ht]; exact hP9)⟩, hS.F ht⟩) hS.2.2 dX0_numbersBehind_89
  · refine lv_tableIn (off := 89) (tgt := 90) hx hb dX0_numbersBehind_1 hlo46 hhi47 (by rw [hk]; decide) (by decide) ?_
    refine lv_iconst (v := 0) hx hb dX0_numbersBehind_90 (by decide) ?_
    have hP9 : va_P (dC, dI) classes (wX g c v F rc) H := hP
    exact W.iret (v := 0) hx hb hr (fun t ht hW => ⟨⟨0, (), rfl, by have : (0 : Int32).toInt = 0 := (by decide); omega, (by show va_P _ _ _ t.heap; rw [ht]; exact hP9)⟩, hS.F ht⟩) hS.2.2 dX0_numbersBehind_91
  · refine lv_tableIn (off := 87) (tgt := 88) hx hb dX0_numbersBehind_1 hlo46 hhi47 (by rw [hk]; decide) (by decide) ?_
    refine lv_iconst (v := 1) hx hb dX0_numbersBehind_88 (by decide) ?_
    have hP9 : va_P (dC, dI) classes (wX g c v F rc) H := hP
    exact W.iret (v := 1) hx hb hr (fun t ht hW => ⟨⟨1, (), rfl, by have : (1 : Int32).toInt = 1 := (by decide); omega, (by show va_P _ _ _ t.heap; rw [ht]; exact hP9)⟩, hS.F ht⟩) hS.2.2 dX0_numbersBehind_89
  · refine lv_tableIn (off := 89) (tgt := 90) hx hb dX0_numbersBehind_1 hlo46 hhi47 (by rw [hk]; decide) (by decide) ?_
    refine lv_iconst (v := 0) hx hb dX0_numbersBehind_90 (by decide) ?_
    have hP9 : va_P (dC, dI) classes (wX g c v F rc) H := hP
    exact W.iret (v := 0) hx hb hr (fun t ht hW => ⟨⟨0, (), rfl, by have : (0 : Int32).toInt = 0 := (by decide); omega, (by show va_P _ _ _ t.heap; rw [ht]; exact hP9)⟩, hS.F ht⟩) hS.2.2 dX0_numbersBehind_91
  · refine lv_tableIn (off := 89) (tgt := 90) hx hb dX0_numbersBehind_1 hlo46 hhi47 (by rw [hk]; decide) (by decide) ?_
    refine lv_iconst (v := 0) hx hb dX0_numbersBehind_90 (by decide) ?_
    have hP9 : va_P (dC, dI) classes (wX g c v F rc) H := hP
    exact W.iret (v := 0) hx hb hr (fun t ht hW => ⟨⟨0, (), rfl, by have : (0 : Int32).toInt = 0 := (by decide); omega, (by show va_P _ _ _ t.heap; rw [ht]; exact hP9)⟩, hS.F ht⟩) hS.2.2 dX0_numbersBehind_91
  · refine lv_tableIn (off := 89) (tgt := 90) hx hb dX0_numbersBehind_1 hlo46 hhi47 (by rw [hk]; decide) (by decide) ?_
    refine lv_iconst (v := 0) hx hb dX0_numbersBehind_90 (by decide) ?_
    have hP9 : va_P (dC, dI) classes (wX g c v F rc) H := hP
    exact W.iret (v := 0) hx hb hr (fun t ht hW => ⟨⟨0, (), rfl, by have : (0 : Int32).toInt = 0 := (by decide); omega, (by show va_P _ _ _ t.heap; rw [ht]; exact hP9)⟩, hS.F ht⟩) hS.2.2 dX0_numbersBehind_91
  · refine lv_tableIn (off := 89) (tgt := 90) hx hb dX0_numbersBehind_1 hlo46 hhi47 (by rw [hk]; decide) (by decide) ?_
    refine lv_iconst (v := 0) hx hb dX0_numbersBehind_90 (by decide) ?_
    have hP9 : va_P (dC, dI) classes (wX g c v F rc) H := hP
    exact W.iret (v := 0) hx hb hr (fun t ht hW => ⟨⟨0, (), rfl, by have : (0 : Int32).toInt = 0 := (by decide); omega, (by show va_P _ _ _ t.heap; rw [ht]; exact hP9)⟩, hS.F ht⟩) hS.2.2 dX0_numbersBehind_91
  · refine lv_tableIn (off := 85) (tgt := 86) hx hb dX0_numbersBehind_1 hlo46 hhi47 (by rw [hk]; decide) (by decide) ?_
    refine lv_iconst (v := 2) hx hb dX0_numbersBehind_86 (by decide) ?_
    have hP9 : va_P (dC, dI) classes (wX g c v F rc) H := hP
    exact W.iret (v := 2) hx hb hr (fun t ht hW => ⟨⟨2, (), rfl, by have : (2 : Int32).toInt = 2 := (by decide); omega, (by show va_P _ _ _ t.heap; rw [ht]; exact hP9)⟩, hS.F ht⟩) hS.2.2 dX0_numbersBehind_87
