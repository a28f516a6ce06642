set_option maxHeartbeats 8000000 in
set_option maxRecDepth 100000 in
theorem c_X12_in (l : Launch) (dC : Nat → ClassId) (dI : Nat → Nat → Nat) (g : Nat → Nat) (c : Nat → ClassId) (adK adV : Nat → Nat) (v : Nat → Int32) (F : Nat → Nat → Int32) (rc sz : Nat) (p0 : Int32) (p1 : Int32) (p2 : Int32) (hg : injM g) (hI : IM v F) : Met l yX12_in (Cond.code yX12_in cX12_in 3 (some .boolean) :: wA) ({ frames := 1, cells := 0, slots := 0, locals := 40 }) (va_Pc [.int p0, .int p1, .int p2] (PM dC dI g c adK adV v F rc sz)) (va_Qi (fun (r : Int32) (u : Unit) => (r.toInt = 1 ∧ p1.toInt ≤ p0.toInt ∧ p0.toInt ≤ p2.toInt) ∨ (r.toInt = 0 ∧ (p0.toInt < p1.toInt ∨ p2.toInt < p0.toInt))) (fun (_ : Unit) => BM dC dI g c (v, F, rc)) (AM g sz)) 0 0 (AM g sz) := by
  refine Met.ofW (cc := cX12_in) (maxL := 3) (ret := (some .boolean)) (by decide) rfl ?_
  intro p e s m args below meth c0 s₁ B hml hv
  obtain ⟨rfl, hsz, hP, hK, hE⟩ := hv
  have hx := B.exec
  have hb := B.bytes
  have hr := B.returns
  have hts := atoms_spec (ws := Cond.code yX12_in cX12_in 3 (some .boolean) :: wA) B.pre
  have hwd : ∀ w ∈ wA, w.before _ s = true := fun w h => hts w (List.mem_cons_of_mem _ h)
  have hown : s.vm.findClass RX12 = some m.cls := findClass_of_methodNamed B.named
  have hlocks := B.notSynchronized
  subst hsz
  have hl := lv_entry ([.int p0, .int p1, .int p2]) (n := 3) (Nat.le_of_ble_eq_true rfl)
  rw [lg_entry_eq]
  generalize (lg_sl ([.int p0, .int p1, .int p2]) ++ List.replicate (3 - (lg_sl ([.int p0, .int p1, .int p2])).length) Slot.unset).toArray = ls at hl ⊢
  have hl : lv_has ls 3 [(0, .int p0), (1, .int p1), (2, .int p2)] := hl
  obtain ⟨H, eH⟩ : ∃ z, z = s.heap := ⟨_, rfl⟩
  have hP : va_P (dC, dI) classes (wM g c v F rc) H := by rw [eH]; exact hP
  have hS : va_S (AM g s.heap.size) s.heap H [] := by rw [eH]; exact va_S.rf
  refine my_heap eH ?_
  have rp0 := i32_rng p0
  have rp1 := i32_rng p1
  have rp2 := i32_rng p2
  refine lv_iload_n hx hb dX12_in_0 rfl (lv_at hl 0 rfl) ?_
  refine lv_iload_n hx hb dX12_in_1 rfl (lv_at hl 1 rfl) ?_
  refine lv_icmp_lt (tgt := 14) hx hb dX12_in_2 (by decide) (fun c4527 => ?_) (fun c4527 => ?_)
  · skip
    have t4528 := cv_lt (a := p0.toInt) rfl (b := p1.toInt) rfl c4527
    refine lv_iconst (v := 0) hx hb dX12_in_14 (by decide) ?_
    have hP9 : va_P (dC, dI) classes (wM g c v F rc) H := hP
    exact W.zret (v := 0) hx hb hr (rfl) (fun t ht hW => ⟨⟨0, (), rfl, by have : (0 : Int32).toInt = 0 := (by decide); omega, (by show va_P _ _ _ t.heap; rw [ht]; exact hP9)⟩, hS.F ht⟩) hS.2.2 dX12_in_15
  · skip
    have t4529 := cv_nlt (a := p0.toInt) rfl (b := p1.toInt) rfl c4527
    refine lv_iload_n hx hb dX12_in_5 rfl (lv_at hl 0 rfl) ?_
    refine lv_iload_n hx hb dX12_in_6 rfl (lv_at hl 2 rfl) ?_
    refine lv_icmp_gt (tgt := 14) hx hb dX12_in_7 (by decide) (fun c4530 => ?_) (fun c4530 => ?_)
    · skip
      have t4531 := cv_lt (a := p2.toInt) rfl (b := p0.toInt) rfl c4530
      refine lv_iconst (v := 0) hx hb dX12_in_14 (by decide) ?_
      have hP9 : va_P (dC, dI) classes (wM g c v F rc) H := hP
      exact W.zret (v := 0) hx hb hr (rfl) (fun t ht hW => ⟨⟨0, (), rfl, by have : (0 : Int32).toInt = 0 := (by decide); omega, (by show va_P _ _ _ t.heap; rw [ht]; exact hP9)⟩, hS.F ht⟩) hS.2.2 dX12_in_15
    · skip
      have t4532 := cv_nlt (a := p2.toInt) rfl (b := p0.toInt) rfl c4530
      refine lv_iconst (v := 1) hx hb dX12_in_10 (by decide) ?_
      refine lv_goto (tgt := 15) hx hb dX12_in_11 (by decide) ?_
      have hP9 : va_P (dC, dI) classes (wM g c v F rc) H := hP
      exact W.zret (v := 1) hx hb hr (rfl) (fun t ht hW => ⟨⟨1, (), rfl, by have : (1 : Int32).toInt = 1 := (by decide); omega, (by show va_P _ _ _ t.heap; rw [ht]; exact hP9)⟩, hS.F ht⟩) hS.2.2 dX12_in_15
set_option maxHeartbeats 8000000 in
set_option maxRecDepth 100000 in
theorem c_X12_isDay (l : Launch) (dC : Nat → ClassId) (dI : Nat → Nat → Nat) (g : Nat → Nat) (c : Nat → ClassId) (adK adV : Nat → Nat) (v : Nat → Int32) (F : Nat → Nat → Int32) (rc sz : Nat) (p0 : Int32) (hg : injM g) (hI : IM v F) : Met l yX12_isDay (Cond.code yX12_isDay cX12_isDay 1 (some .boolean) :: wA) ({ frames := 2, cells := 0, slots := 0, locals := 80 }) (va_Pc [.int p0] (PM dC dI g c adK adV v F rc sz)) (va_Qi (fun (r : Int32) (u : Unit) => (r.toInt = 1 ∧ 0 ≤ p0.toInt ∧ p0.toInt ≤ 9999) ∨ (r.toInt = 0 ∧ (p0.toInt < 0 ∨ 9999 < p0.toInt))) (fun (_ : Unit) => BM dC dI g c (v, F, rc)) (AM g sz)) 0 0 (AM g sz) := by
  refine Met.ofW (cc := cX12_isDay) (maxL := 1) (ret := (some .boolean)) (by decide) rfl ?_
  intro p e s m args below meth c0 s₁ B hml hv
  obtain ⟨rfl, hsz, hP, hK, hE⟩ := hv
  have hx := B.exec
  have hb := B.bytes
  have hr := B.returns
  have hts := atoms_spec (ws := Cond.code yX12_isDay cX12_isDay 1 (some .boolean) :: wA) B.pre
  have hwd : ∀ w ∈ wA, w.before _ s = true := fun w h => hts w (List.mem_cons_of_mem _ h)
  have hown : s.vm.findClass RX12 = some m.cls := findClass_of_methodNamed B.named
  have hlocks := B.notSynchronized
  subst hsz
  have hl := lv_entry ([.int p0]) (n := 1) (Nat.le_of_ble_eq_true rfl)
  rw [lg_entry_eq]
  generalize (lg_sl ([.int p0]) ++ List.replicate (1 - (lg_sl ([.int p0])).length) Slot.unset).toArray = ls at hl ⊢
  have hl : lv_has ls 1 [(0, .int p0)] := hl
  obtain ⟨H, eH⟩ : ∃ z, z = s.heap := ⟨_, rfl⟩
  have hP : va_P (dC, dI) classes (wM g c v F rc) H := by rw [eH]; exact hP
  have hS : va_S (AM g s.heap.size) s.heap H [] := by rw [eH]; exact va_S.rf
  refine my_heap eH ?_
  have rp0 := i32_rng p0
  refine lv_iload_n hx hb dX12_isDay_0 rfl (lv_at hl 0 rfl) ?_
  refine lv_iconst (v := 0) hx hb dX12_isDay_1 (by decide) ?_
  refine lv_sipush (v := 9999) hx hb dX12_isDay_2 (by decide) ?_
  refine va_calli (va_runS (As := [.int p0, .int 0, .int 9999]) (rest := []) ⟨hx, hb, hml, hown, hwd⟩ (c_X12_in l dC dI g c adK adV v F rc H.size p0 0 9999 hg hI ) (va_cwS 3 hwd (gT wk_254 wk_252 wk_253 wk_5) rfl rfl rfl (by decide +kernel) ⟨Nat.le_of_ble_eq_true rfl, Nat.le_of_ble_eq_true rfl⟩) ⟨PM.blind, fun U hU hW => ⟨rfl, PM.at hK hE hP hS hU hW⟩⟩ rfl rfl hl.1 rfl (lv_room (Nat.le_of_ble_eq_true rfl)) dX12_isDay_5 ⟨Nat.le_of_ble_eq_true rfl, Nat.le_of_ble_eq_true rfl⟩) hS (fun q _ h => (freeM hS) q h) (freeM hS) (fun r4533 u t H1 locs ht hvm hw hB hz1 hk1 hS => ?_)
  unfold BM at hB
  rw [ht] at hB
  have hP : va_P (dC, dI) classes (wM g c v F rc) H1 := hB
  have hw_r4533 : (r4533.toInt = 1 ∧ (0 : Int32).toInt ≤ p0.toInt ∧ p0.toInt ≤ (9999 : Int32).toInt) ∨ (r4533.toInt = 0 ∧ (p0.toInt < (0 : Int32).toInt ∨ (9999 : Int32).toInt < p0.toInt)) := hw
  clear hw
  have k4534 : (0 : Int32).toInt = 0 := by decide
  have k4535 : (9999 : Int32).toInt = 9999 := by decide
  clear hz1
  generalize H1 = H at hP hS ⊢
  have hP9 : va_P (dC, dI) classes (wM g c v F rc) H := hP
  exact W.zret (v := r4533) hx hb hr (narB (by omega)) (fun t ht hW => ⟨⟨r4533, (), rfl, by omega, (by show va_P _ _ _ t.heap; rw [ht]; exact hP9)⟩, hS.F ht⟩) hS.2.2 dX12_isDay_8
set_option maxHeartbeats 8000000 in
set_option maxRecDepth 100000 in
theorem c_X12_held (l : Launch) (dC : Nat → ClassId) (dI : Nat → Nat → Nat) (g : Nat → Nat) (c : Nat → ClassId) (adK adV : Nat → Nat) (v : Nat → Int32) (F : Nat → Nat → Int32) (rc sz : Nat) (p0 : Int64) (hg : injM g) (hI : IM v F) : Met l yX12_held (Cond.code yX12_held cX12_held 2 (some .int) :: wA) ({ frames := 1, cells := 0, slots := 0, locals := 40 }) (va_Pc [.long p0] (PM dC dI g c adK adV v F rc sz)) (va_Qi (fun (r : Int32) (u : Unit) => True) (fun (_ : Unit) => BM dC dI g c (v, F, rc)) (AM g sz)) 0 0 (AM g sz) := by
  refine Met.ofW (cc := cX12_held) (maxL := 2) (ret := (some .int)) (by decide) rfl ?_
  intro p e s m args below meth c0 s₁ B hml hv
  obtain ⟨rfl, hsz, hP, hK, hE⟩ := hv
  have hx := B.exec
  have hb := B.bytes
  have hr := B.returns
  have hts := atoms_spec (ws := Cond.code yX12_held cX12_held 2 (some .int) :: wA) B.pre
  have hwd : ∀ w ∈ wA, w.before _ s = true := fun w h => hts w (List.mem_cons_of_mem _ h)
  have hown : s.vm.findClass RX12 = some m.cls := findClass_of_methodNamed B.named
  have hlocks := B.notSynchronized
  subst hsz
  have hl := lv_entry ([.long p0]) (n := 2) (Nat.le_of_ble_eq_true rfl)
  rw [lg_entry_eq]
  generalize (lg_sl ([.long p0]) ++ List.replicate (2 - (lg_sl ([.long p0])).length) Slot.unset).toArray = ls at hl ⊢
  have hl : lv_has ls 2 [(0, .long p0)] := hl
  obtain ⟨H, eH⟩ : ∃ z, z = s.heap := ⟨_, rfl⟩
  have hP : va_P (dC, dI) classes (wM g c v F rc) H := by rw [eH]; exact hP
  have hS : va_S (AM g s.heap.size) s.heap H [] := by rw [eH]; exact va_S.rf
  refine my_heap eH ?_
  refine lv_lload_n hx hb dX12_held_0 rfl (lv_at hl 0 rfl) ?_
  refine lv_ldc2 (v := 2000000000) hx hb hown (hwd _ wk_524) dX12_held_1 ?_
  refine W.lcmp hx hb dX12_held_4 ?_
  refine lv_topi (fun z4536 e4537 => ?_)
  refine lv_if_le (tgt := 13) hx hb dX12_held_5 (by decide) (fun c4538 => ?_) (fun c4538 => ?_)
  · skip
    have t4539 := cv_le (a := z4536.toInt) rfl (b := 0) (by decide) c4538
    refine lv_lload_n hx hb dX12_held_13 rfl (lv_at hl 0 rfl) ?_
    refine lv_l2i hx hb dX12_held_14 rfl ?_
    refine lv_topi (fun z4540 e4541 => ?_)
    have hP9 : va_P (dC, dI) classes (wM g c v F rc) H := hP
    exact W.iret (v := z4540) hx hb hr (fun t ht hW => ⟨⟨z4540, (), rfl, trivial, (by show va_P _ _ _ t.heap; rw [ht]; exact hP9)⟩, hS.F ht⟩) hS.2.2 dX12_held_15
  · skip
    have t4542 := cv_nle (a := z4536.toInt) rfl (b := 0) (by decide) c4538
    refine lv_ldc (v := 2000000000) hx hb hown (hwd _ wk_525) dX12_held_8 ?_
    refine lv_goto (tgt := 15) hx hb dX12_held_10 (by decide) ?_
    have hP9 : va_P (dC, dI) classes (wM g c v F rc) H := hP
    exact W.iret (v := 2000000000) hx hb hr (fun t ht hW => ⟨⟨2000000000, (), rfl, trivial, (by show va_P _ _ _ t.heap; rw [ht]; exact hP9)⟩, hS.F ht⟩) hS.2.2 dX12_held_15
set_option maxHeartbeats 8000000 in
set_option maxRecDepth 100000 in
theorem c_X12_nameOf (l : Launch) (dC : Nat → ClassId) (dI : Nat → Nat → Nat) (g : Nat → Nat) (c : Nat → ClassId) (adK adV : Nat → Nat) (v : Nat → Int32) (F : Nat → Nat → Int32) (rc sz : Nat) (p0 : Int32) (hg : injM g) (hI : IM v F) : Met l yX12_nameOf (Cond.code yX12_nameOf cX12_nameOf 1 (some .int) :: wA) ({ frames := 1, cells := 0, slots := 0, locals := 40 }) (va_Pc [.int p0] (PM dC dI g c adK adV v F rc sz)) (va_Qi (fun (r : Int32) (u : Unit) => r.toInt = nmM p0 ∧ (-1 ≤ r.toInt ∧ r.toInt ≤ 5)) (fun (_ : Unit) => BM dC dI g c (v, F, rc)) (AM g sz)) 0 0 (AM g sz) := by
  refine Met.ofW (cc := cX12_nameOf) (maxL := 1) (ret := (some .int)) (by decide) rfl ?_
  intro p e s m args below meth c0 s₁ B hml hv
  obtain ⟨rfl, hsz, hP, hK, hE⟩ := hv
  have hx := B.exec
  have hb := B.bytes
  have hr := B.returns
  have hts := atoms_spec (ws := Cond.code yX12_nameOf cX12_nameOf 1 (some .int) :: wA) B.pre
  have hwd : ∀ w ∈ wA, w.before _ s = true := fun w h => hts w (List.mem_cons_of_mem _ h)
  have hown : s.vm.findClass RX12 = some m.cls := findClass_of_methodNamed B.named
  have hlocks := B.notSynchronized
  subst hsz
  have hl := lv_entry ([.int p0]) (n := 1) (Nat.le_of_ble_eq_true rfl)
  rw [lg_entry_eq]
  generalize (lg_sl ([.int p0]) ++ List.replicate (1 - (lg_sl ([.int p0])).length) Slot.unset).toArray = ls at hl ⊢
  have hl : lv_has ls 1 [(0, .int p0)] := hl
  obtain ⟨H, eH⟩ : ∃ z, z = s.heap := ⟨_, rfl⟩
  have hP : va_P (dC, dI) classes (wM g c v F rc) H := by rw [eH]; exact hP
  have hS : va_S (AM g s.heap.size) s.heap H [] := by rw [eH]; exact va_S.rf
  refine my_heap eH ?_
  have rp0 := i32_rng p0
  refine lv_iload_n hx hb dX12_nameOf_0 rfl (lv_at hl 0 rfl) ?_
  by_cases hlo4543 : p0.toInt < 100
  · refine lv_tableOut (tgt := 108) hx hb dX12_nameOf_1 (Or.inl hlo4543) (by decide) ?_
    refine lv_iconst (v := (-1)) hx hb dX12_nameOf_108 (by decide) ?_
    have hP9 : va_P (dC, dI) classes (wM g c v F rc) H := hP
    exact W.iret (v := (-1)) hx hb hr (fun t ht hW => ⟨⟨(-1), (), rfl, (by have : ((-1) : Int32).toInt = (-1) := (by decide); refine ⟨?_, by omega⟩; unfold nmM; (repeat' split) <;> omega), (by show va_P _ _ _ t.heap; rw [ht]; exact hP9)⟩, hS.F ht⟩) hS.2.2 dX12_nameOf_109
  by_cases hhi4544 : 119 < p0.toInt
  · refine lv_tableOut (tgt := 108) hx hb dX12_nameOf_1 (Or.inr hhi4544) (by decide) ?_
    refine lv_iconst (v := (-1)) hx hb dX12_nameOf_108 (by decide) ?_
    have hP9 : va_P (dC, dI) classes (wM g c v F rc) H := hP
    exact W.iret (v := (-1)) hx hb hr (fun t ht hW => ⟨⟨(-1), (), rfl, (by have : ((-1) : Int32).toInt = (-1) := (by decide); refine ⟨?_, by omega⟩; unfold nmM; (repeat' split) <;> omega), (by show va_P _ _ _ t.heap; rw [ht]; exact hP9)⟩, hS.F ht⟩) hS.2.2 dX12_nameOf_109
  rcases (show p0.toInt = 100 ∨ p0.toInt = 101 ∨ p0.toInt = 102 ∨ p0.toInt = 103 ∨ p0.toInt = 104 ∨ p0.toInt = 105 ∨ p0.toInt = 106 ∨ p0.toInt = 107 ∨ p0.toInt = 108 ∨ p0.toInt = 109 ∨ p0.toInt = 110 ∨ p0.toInt = 111 ∨ p0.toInt = 112 ∨ p0.toInt = 113 ∨ p0.toInt = 114 ∨ p0.toInt = 115 ∨ p0.toInt = 116 ∨ p0.toInt = 117 ∨ p0.toInt = 118 ∨ p0.toInt = 119 by omega) with hk | hk | hk | hk | hk | hk | hk | hk | hk | hk | hk | hk | hk | hk | hk | hk | hk | hk | hk | hk
  · refine lv_tableIn (off := 95) (tgt := 96) hx hb dX12_nameOf_1 hlo4543 hhi4544 (by rw [hk]; decide) (by decide) ?_
    refine lv_iconst (v := 0) hx hb dX12_nameOf_96 (by decide) ?_
    have hP9 : va_P (dC, dI) classes (wM g c v F rc) H := hP
    exact W.iret (v := 0) hx hb hr (fun t ht hW => ⟨⟨0, (), rfl, (by have : (0 : Int32).toInt = 0 := (by decide); refine ⟨?_, by omega⟩; unfold nmM; (repeat' split) <;> omega), (by show va_P _ _ _ t.heap; rw [ht]; exact hP9)⟩, hS.F ht⟩) hS.2.2 dX12_nameOf_97
  · refine lv_tableIn (off := 107) (tgt := 108) hx hb dX12_nameOf_1 hlo4543 hhi4544 (by rw [hk]; decide) (by decide) ?_
    refine lv_iconst (v := (-1)) hx hb dX12_nameOf_108 (by decide) ?_
    have hP9 : va_P (dC, dI) classes (wM g c v F rc) H := hP
    exact W.iret (v := (-1)) hx hb hr (fun t ht hW => ⟨⟨(-1), (), rfl, (by have : ((-1) : Int32).toInt = (-1) := (by decide); refine ⟨?_, by omega⟩; unfold nmM; (repeat' split) <;> omega), (by show va_P _ _ _ t.heap; rw [ht]; exact hP9)⟩, hS.F ht⟩) hS.2.2 dX12_nameOf_109
  · refine lv_tableIn (off := 107) (tgt := 108) hx hb dX12_nameOf_1 hlo4543 hhi4544 (by rw [hk]; decide) (by decide) ?_
    refine lv_iconst (v := (-1)) hx hb dX12_nameOf_108 (by decide) ?_
    have hP9 : va_P (dC, dI) classes (wM g c v F rc) H := hP
    exact W.iret (v := (-1)) hx hb hr (fun t ht hW => ⟨⟨(-1), (), rfl, (by have : ((-1) : Int32).toInt = (-1) := (by decide); refine ⟨?_, by omega⟩; unfold nmM; (repeat' split) <;> omega), (by show va_P _ _ _ t.heap; rw [ht]; exact hP9)⟩, hS.F ht⟩) hS.2.2 dX12_nameOf_109
  · refine lv_tableIn (off := 107) (tgt := 108) hx hb dX12_nameOf_1 hlo4543 hhi4544 (by rw [hk]; decide) (by decide) ?_
    refine lv_iconst (v := (-1)) hx hb dX12_nameOf_108 (by decide) ?_
    have hP9 : va_P (dC, dI) classes (wM g c v F rc) H := hP
    exact W.iret (v := (-1)) hx hb hr (fun t ht hW => ⟨⟨(-1), (), rfl, (by have : ((-1) : Int32).toInt = (-1) := (by decide); refine ⟨?_, by omega⟩; unfold nmM; (repeat' split) <;> omega), (by show va_P _ _ _ t.heap; rw [ht]; exact hP9)⟩, hS.F ht⟩) hS.2.2 dX12_nameOf_109
  · refine lv_tableIn (off := 97) (tgt := 98) hx hb dX12_nameOf_1 hlo4543 hhi4544 (by rw [hk]; decide) (by decide) ?_
    refine lv_iconst (v := 1) hx hb dX12_nameOf_98 (by decide) ?_
    have hP9 : va_P (dC, dI) classes (wM g c v F rc) H := hP
    exact W.iret (v := 1) hx hb hr (fun t ht hW => ⟨⟨1, (), rfl, (by have : (1 : Int32).toInt = 1 := (by decide); refine ⟨?_, by omega⟩; unfold nmM; (repeat' split) <;> omega), (by show va_P _ _ _ t.heap; rw [ht]; exact hP9)⟩, hS.F ht⟩) hS.2.2 dX12_nameOf_99
  · refine lv_tableIn (off := 107) (tgt := 108) hx hb dX12_nameOf_1 hlo4543 hhi4544 (by rw [hk]; decide) (by decide) ?_
    refine lv_iconst (v := (-1)) hx hb dX12_nameOf_108 (by decide) ?_
    have hP9 : va_P (dC, dI) classes (wM g c v F rc) H := hP
    exact W.iret (v := (-1)) hx hb hr (fun t ht hW => ⟨⟨(-1), (), rfl, (by have : ((-1) : Int32).toInt = (-1) := (by decide); refine ⟨?_, by omega⟩; unfold nmM; (repeat' split) <;> omega), (by show va_P _ _ _ t.heap; rw [ht]; exact hP9)⟩, hS.F ht⟩) hS.2.2 dX12_nameOf_109
  · refine lv_tableIn (off := 107) (tgt := 108) hx hb dX12_nameOf_1 hlo4543 hhi4544 (by rw [hk]; decide) (by decide) ?_
    refine lv_iconst (v := (-1)) hx hb dX12_nameOf_108 (by decide) ?_
    have hP9 : va_P (dC, dI) classes (wM g c v F rc) H := hP
    exact W.iret (v := (-1)) hx hb hr (fun t ht hW => ⟨⟨(-1), (), rfl, (by have : ((-1) : Int32).toInt = (-1) := (by decide); refine ⟨?_, by omega⟩; unfold nmM; (repeat' split) <;> omega), (by show va_P _ _ _ t.heap; rw [ht]; exact hP9)⟩, hS.F ht⟩) hS.2.2 dX12_nameOf_109
  · refine lv_tableIn (off := 103) (tgt := 104) hx hb dX12_nameOf_1 hlo4543 hhi4544 (by rw [hk]; decide) (by decide) ?_
    refine lv_iconst (v := 4) hx hb dX12_nameOf_104 (by decide) ?_
    have hP9 : va_P (dC, dI) classes (wM g c v F rc) H := hP
    exact W.iret (v := 4) hx hb hr (fun t ht hW => ⟨⟨4, (), rfl, (by have : (4 : Int32).toInt = 4 := (by decide); refine ⟨?_, by omega⟩; unfold nmM; (repeat' split) <;> omega), (by show va_P _ _ _ t.heap; rw [ht]; exact hP9)⟩, hS.F ht⟩) hS.2.2 dX12_nameOf_105
  · refine lv_tableIn (off := 99) (tgt := 100) hx hb dX12_nameOf_1 hlo4543 hhi4544 (by rw [hk]; decide) (by decide) ?_
    refine lv_iconst (v := 2) hx hb dX12_nameOf_100 (by decide) ?_
    have hP9 : va_P (dC, dI) classes (wM g c v F rc) H := hP
    exact W.iret (v := 2) hx hb hr (fun t ht hW => ⟨⟨2, (), rfl, (by have : (2 : Int32).toInt = 2 := (by decide); refine ⟨?_, by omega⟩; unfold nmM; (repeat' split) <;> omega), (by show va_P _ _ _ t.heap; rw [ht]; exact hP9)⟩, hS.F ht⟩) hS.2.2 dX12_nameOf_101
  · refine lv_tableIn (off := 107) (tgt := 108) hx hb dX12_nameOf_1 hlo4543 hhi4544 (by rw [hk]; decide) (by decide) ?_
    refine lv_iconst (v := (-1)) hx hb dX12_nameOf_108 (by decide) ?_
    have hP9 : va_P (dC, dI) classes (wM g c v F rc) H := hP
    exact W.iret (v := (-1)) hx hb hr (fun t ht hW => ⟨⟨(-1), (), rfl, (by have : ((-1) : Int32).toInt = (-1) := (by decide); refine ⟨?_, by omega⟩; unfold nmM; (repeat' split) <;> omega), (by show va_P _ _ _ t.heap; rw [ht]; exact hP9)⟩, hS.F ht⟩) hS.2.2 dX12_nameOf_109
  · refine lv_tableIn (off := 105) (tgt := 106) hx hb dX12_nameOf_1 hlo4543 hhi4544 (by rw [hk]; decide) (by decide) ?_
    refine lv_iconst (v := 5) hx hb dX12_nameOf_106 (by decide) ?_
    have hP9 : va_P (dC, dI) classes (wM g c v F rc) H := hP
    exact W.iret (v := 5) hx hb hr (fun t ht hW => ⟨⟨5, (), rfl, (by have : (5 : Int32).toInt = 5 := (by decide); refine ⟨?_, by omega⟩; unfold nmM; (repeat' split) <;> omega), (by show va_P _ _ _ t.heap; rw [ht]; exact hP9)⟩, hS.F ht⟩) hS.2.2 dX12_nameOf_107
  · refine lv_tableIn (off := 107) (tgt := 108) hx hb dX12_nameOf_1 hlo4543 hhi4544 (by rw [hk]; decide) (by decide) ?_
    refine lv_iconst (v := (-1)) hx hb dX12_nameOf_108 (by decide) ?_
    have hP9 : va_P (dC, dI) classes (wM g c v F rc) H := hP
    exact W.iret (v := (-1)) hx hb hr (fun t ht hW => ⟨⟨(-1), (), rfl, (by have : ((-1) : Int32).toInt = (-1) := (by decide); refine ⟨?_, by omega⟩; unfold nmM; (repeat' split) <;> omega), (by show va_P _ _ _ t.heap; rw [ht]; exact hP9)⟩, hS.F ht⟩) hS.2.2 dX12_nameOf_109
  · refine lv_tableIn (off := 107) (tgt := 108) hx hb dX12_nameOf_1 hlo4543 hhi4544 (by rw [hk]; decide) (by decide) ?_
    refine lv_iconst (v := (-1)) hx hb dX12_nameOf_108 (by decide) ?_
    have hP9 : va_P (dC, dI) classes (wM g c v F rc) H := hP
    exact W.iret (v := (-1)) hx hb hr (fun t ht hW => ⟨⟨(-1), (), rfl, (by have : ((-1) : Int32).toInt = (-1) := (by decide); refine ⟨?_, by omega⟩; unfold nmM; (repeat' split) <;> omega), (by show va_P _ _ _ t.heap; rw [ht]; exact hP9)⟩, hS.F ht⟩) hS.2.2 dX12_nameOf_109
  · refine lv_tableIn (off := 107) (tgt := 108) hx hb dX12_nameOf_1 hlo4543 hhi4544 (by rw [hk]; decide) (by decide) ?_
    refine lv_iconst (v := (-1)) hx hb dX12_nameOf_108 (by decide) ?_
    have hP9 : va_P (dC, dI) classes (wM g c v F rc) H := hP
    exact W.iret (v := (-1)) hx hb hr (fun t ht hW => ⟨⟨(-1), (), rfl, (by have : ((-1) : Int32).toInt = (-1) := (by decide); refine ⟨?_, by omega⟩; unfold nmM; (repeat' split) <;> omega), (by show va_P _ _ _ t.heap; rw [ht]; exact hP9)⟩, hS.F ht⟩) hS.2.2 dX12_nameOf_109
  · refine lv_tableIn (off := 107) (tgt := 108) hx hb dX12_nameOf_1 hlo4543 hhi4544 (by rw [hk]; decide) (by decide) ?_
    refine lv_iconst (v := (-1)) hx hb dX12_nameOf_108 (by decide) ?_
    have hP9 : va_P (dC, dI) classes (wM g c v F rc) H := hP
    exact W.iret (v := (-1)) hx hb hr (fun t ht hW => ⟨⟨(-1), (), rfl, (by have : ((-1) : Int32).toInt = (-1) := (by decide); refine ⟨?_, by omega⟩; unfold nmM; (repeat' split) <;> omega), (by show va_P _ _ _ t.heap; rw [ht]; exact hP9)⟩, hS.F ht⟩) hS.2.2 dX12_nameOf_109
  · refine lv_tableIn (off := 107) (tgt := 108) hx hb dX12_nameOf_1 hlo4543 hhi4544 (by rw [hk]; decide) (by decide) ?_
    refine lv_iconst (v := (-1)) hx hb dX12_nameOf_108 (by decide) ?_
    have hP9 : va_P (dC, dI) classes (wM g c v F rc) H := hP
    exact W.iret (v := (-1)) hx hb hr (fun t ht hW => ⟨⟨(-1), (), rfl, (by have : ((-1) : Int32).toInt = (-1) := (by decide); refine ⟨?_, by omega⟩; unfold nmM; (repeat' split) <;> omega), (by show va_P _ _ _ t.heap; rw [ht]; exact hP9)⟩, hS.F ht⟩) hS.2.2 dX12_nameOf_109
  · refine lv_tableIn (off := 107) (tgt := 108) hx hb dX12_nameOf_1 hlo4543 hhi4544 (by rw [hk]; decide) (by decide) ?_
    refine lv_iconst (v := (-1)) hx hb dX12_nameOf_108 (by decide) ?_
    have hP9 : va_P (dC, dI) classes (wM g c v F rc) H := hP
    exact W.iret (v := (-1)) hx hb hr (fun t ht hW => ⟨⟨(-1), (), rfl, (by have : ((-1) : Int32).toInt = (-1) := (by decide); refine ⟨?_, by omega⟩; unfold nmM; (repeat' split) <;> omega), (by show va_P _ _ _ t.heap; rw [ht]; exact hP9)⟩, hS.F ht⟩) hS.2.2 dX12_nameOf_109
  · refine lv_tableIn (off := 107) (tgt := 108) hx hb dX12_nameOf_1 hlo4543 hhi4544 (by rw [hk]; decide) (by decide) ?_
    refine lv_iconst (v := (-1)) hx hb dX12_nameOf_108 (by decide) ?_
    have hP9 : va_P (dC, dI) classes (wM g c v F rc) H := hP
    exact W.iret (v := (-1)) hx hb hr (fun t ht hW => ⟨⟨(-1), (), rfl, (by have : ((-1) : Int32).toInt = (-1) := (by decide); refine ⟨?_, by omega⟩; unfold nmM; (repeat' split) <;> omega), (by show va_P _ _ _ t.heap; rw [ht]; exact hP9)⟩, hS.F ht⟩) hS.2.2 dX12_nameOf_109
  · refine lv_tableIn (off := 107) (tgt := 108) hx hb dX12_nameOf_1 hlo4543 hhi4544 (by rw [hk]; decide) (by decide) ?_
    refine lv_iconst (v := (-1)) hx hb dX12_nameOf_108 (by decide) ?_
    have hP9 : va_P (dC, dI) classes (wM g c v F rc) H := hP
    exact W.iret (v := (-1)) hx hb hr (fun t ht hW => ⟨⟨(-1), (), rfl, (by have : ((-1) : Int32).toInt = (-1) := (by decide); refine ⟨?_, by omega⟩; unfold nmM; (repeat' split) <;> omega), (by show va_P _ _ _ t.heap; rw [ht]; exact hP9)⟩, hS.F ht⟩) hS.2.2 dX12_nameOf_109
  · refine lv_tableIn (off := 101) (tgt := 102) hx hb dX12_nameOf_1 hlo4543 hhi4544 (by rw [hk]; decide) (by decide) ?_
    refine lv_iconst (v := 3) hx hb dX12_nameOf_102 (by decide) ?_
    have hP9 : va_P (dC, dI) classes (wM g c v F rc) H := hP
    exact W.iret (v := 3) hx hb hr (fun t ht hW => ⟨⟨3, (), rfl, (by have : (3 : Int32).toInt = 3 := (by decide); refine ⟨?_, by omega⟩; unfold nmM; (repeat' split) <;> omega), (by show va_P _ _ _ t.heap; rw [ht]; exact hP9)⟩, hS.F ht⟩) hS.2.2 dX12_nameOf_103
set_option maxHeartbeats 8000000 in
set_option maxRecDepth 100000 in
theorem c_X12_numbersOf (l : Launch) (dC : Nat → ClassId) (dI : Nat → Nat → Nat) (g : Nat → Nat) (c : Nat → ClassId) (adK adV : Nat → Nat) (v : Nat → Int32) (F : Nat → Nat → Int32) (rc sz : Nat) (p0 : Int32) (hg : injM g) (hI : IM v F) : Met l yX12_numbersOf (Cond.code yX12_numbersOf cX12_numbersOf 1 (some .int) :: wA) ({ frames := 1, cells := 0, slots := 0, locals := 40 }) (va_Pc [.int p0] (PM dC dI g c adK adV v F rc sz)) (va_Qi (fun (r : Int32) (u : Unit) => (0 ≤ r.toInt ∧ r.toInt ≤ 3) ∧ (r.toInt = 0 ∨ 100 ≤ p0.toInt)) (fun (_ : Unit) => BM dC dI g c (v, F, rc)) (AM g sz)) 0 0 (AM g sz) := by
  refine Met.ofW (cc := cX12_numbersOf) (maxL := 1) (ret := (some .int)) (by decide) rfl ?_
  intro p e s m args below meth c0 s₁ B hml hv
  obtain ⟨rfl, hsz, hP, hK, hE⟩ := hv
  have hx := B.exec
  have hb := B.bytes
  have hr := B.returns
  have hts := atoms_spec (ws := Cond.code yX12_numbersOf cX12_numbersOf 1 (some .int) :: wA) B.pre
  have hwd : ∀ w ∈ wA, w.before _ s = true := fun w h => hts w (List.mem_cons_of_mem _ h)
  have hown : s.vm.findClass RX12 = some m.cls := findClass_of_methodNamed B.named
  have hlocks := B.notSynchronized
  subst hsz
  have hl := lv_entry ([.int p0]) (n := 1) (Nat.le_of_ble_eq_true rfl)
  rw [lg_entry_eq]
  generalize (lg_sl ([.int p0]) ++ List.replicate (1 - (lg_sl ([.int p0])).length) Slot.unset).toArray = ls at hl ⊢
  have hl : lv_has ls 1 [(0, .int p0)] := hl
  obtain ⟨H, eH⟩ : ∃ z, z = s.heap := ⟨_, rfl⟩
  have hP : va_P (dC, dI) classes (wM g c v F rc) H := by rw [eH]; exact hP
  have hS : va_S (AM g s.heap.size) s.heap H [] := by rw [eH]; exact va_S.rf
  refine my_heap eH ?_
  have rp0 := i32_rng p0
  refine lv_iload_n hx hb dX12_numbersOf_0 rfl (lv_at hl 0 rfl) ?_
  by_cases hlo4545 : p0.toInt < 100
  · refine lv_tableOut (tgt := 90) hx hb dX12_numbersOf_1 (Or.inl hlo4545) (by decide) ?_
    refine lv_iconst (v := 0) hx hb dX12_numbersOf_90 (by decide) ?_
    have hP9 : va_P (dC, dI) classes (wM g c v F rc) H := hP
    exact W.iret (v := 0) hx hb hr (fun t ht hW => ⟨⟨0, (), rfl, by have : (0 : Int32).toInt = 0 := (by decide); omega, (by show va_P _ _ _ t.heap; rw [ht]; exact hP9)⟩, hS.F ht⟩) hS.2.2 dX12_numbersOf_91
  by_cases hhi4546 : 116 < p0.toInt
  · refine lv_tableOut (tgt := 90) hx hb dX12_numbersOf_1 (Or.inr hhi4546) (by decide) ?_
    refine lv_iconst (v := 0) hx hb dX12_numbersOf_90 (by decide) ?_
    have hP9 : va_P (dC, dI) classes (wM g c v F rc) H := hP
    exact W.iret (v := 0) hx hb hr (fun t ht hW => ⟨⟨0, (), rfl, by have : (0 : Int32).toInt = 0 := (by decide); omega, (by show va_P _ _ _ t.heap; rw [ht]; exact hP9)⟩, hS.F ht⟩) hS.2.2 dX12_numbersOf_91
  rcases (show p0.toInt = 100 ∨ p0.toInt = 101 ∨ p0.toInt = 102 ∨ p0.toInt = 103 ∨ p0.toInt = 104 ∨ p0.toInt = 105 ∨ p0.toInt = 106 ∨ p0.toInt = 107 ∨ p0.toInt = 108 ∨ p0.toInt = 109 ∨ p0.toInt = 110 ∨ p0.toInt = 111 ∨ p0.toInt = 112 ∨ p0.toInt = 113 ∨ p0.toInt = 114 ∨ p0.toInt = 115 ∨ p0.toInt = 116 by omega) with hk | hk | hk | hk | hk | hk | hk | hk | hk | hk | hk | hk | hk | hk | hk | hk | hk
  · refine lv_tableIn (off := 83) (tgt := 84) hx hb dX12_numbersOf_1 hlo4545 hhi4546 (by rw [hk]; decide) (by decide) ?_
    refine lv_iconst (v := 3) hx hb dX12_numbersOf_84 (by decide) ?_
    have hP9 : va_P (dC, dI) classes (wM g c v F rc) H := hP
    exact W.iret (v := 3) hx hb hr (fun t ht hW => ⟨⟨3, (), rfl, by have : (3 : Int32).toInt = 3 := (by decide); omega, (by show va_P _ _ _ t.heap; rw [ht]; exact hP9)⟩, hS.F ht⟩) hS.2.2 dX12_numbersOf_85
  · refine lv_tableIn (off := 89) (tgt := 90) hx hb dX12_numbersOf_1 hlo4545 hhi4546 (by rw [hk]; decide) (by decide) ?_
    refine lv_iconst (v := 0) hx hb dX12_numbersOf_90 (by decide) ?_
    have hP9 : va_P (dC, dI) classes (wM g c v F rc) H := hP
    exact W.iret (v := 0) hx hb hr (fun t ht hW => ⟨⟨0, (), rfl, by have : (0 : Int32).toInt = 0 := (by decide); omega, (by show va_P _ _ _ t.heap; rw [ht]; exact hP9)⟩, hS.F ht⟩) hS.2.2 dX12_numbersOf_91
  · refine lv_tableIn (off := 89) (tgt := 90) hx hb dX12_numbersOf_1 hlo4545 hhi4546 (by rw [hk]; decide) (by decide) ?_
    refine lv_iconst (v := 0) hx hb dX12_numbersOf_90 (by decide) ?_
    have hP9 : va_P (dC, dI) classes (wM g c v F rc) H := hP
    exact W.iret (v := 0) hx hb hr (fun t ht hW => ⟨⟨0, (), rfl, by have : (0 : Int32).toInt = 0 := (by decide); omega, (by show va_P _ _ _ t.heap; rw [ht]; exact hP9)⟩, hS.F ht⟩) hS.2.2 dX12_numbersOf_91
  · refine lv_tableIn (off := 85) (tgt := 86) hx hb dX12_numbersOf_1 hlo4545 hhi4546 (by rw [hk]; decide) (by decide) ?_
    refine lv_iconst (v := 1) hx hb dX12_numbersOf_86 (by decide) ?_
    have hP9 : va_P (dC, dI) classes (wM g c v F rc) H := hP
    exact W.iret (v := 1) hx hb hr (fun t ht hW => ⟨⟨1, (), rfl, by have : (1 : Int32).toInt = 1 := (by decide); omega, (by show va_P _ _ _ t.heap; rw [ht]; exact hP9)⟩, hS.F ht⟩) hS.2.2 dX12_numbersOf_87
  · refine lv_tableIn (off := 83) (tgt := 84) hx hb dX12_numbersOf_1 hlo4545 hhi4546 (by rw [hk]; decide) (by decide) ?_
    refine lv_iconst (v := 3) hx hb dX12_numbersOf_84 (by decide) ?_
    have hP9 : va_P (dC, dI) classes (wM g c v F rc) H := hP
    exact W.iret (v := 3) hx hb hr (fun t ht hW => ⟨⟨3, (), rfl, by have : (3 : Int32).toInt = 3 := (by decide); omega, (by show va_P _ _ _ t.heap; rw [ht]; exact hP9)⟩, hS.F ht⟩) hS.2.2 dX12_numbersOf_85
  · refine lv_tableIn (off := 89) (tgt := 90) hx hb dX12_numbersOf_1 hlo4545 hhi4546 (by rw [hk]; decide) (by decide) ?_
    refine lv_iconst (v := 0) hx hb dX12_numbersOf_90 (by decide) ?_
    have hP9 : va_P (dC, dI) classes (wM g c v F rc) H := hP
    exact W.iret (v := 0) hx hb hr (fun t ht hW => ⟨⟨0, (), rfl, by have : (0 : Int32).toInt = 0 := (by decide); omega, (by show va_P _ _ _ t.heap; rw [ht]; exact hP9)⟩, hS.F ht⟩) hS.2.2 dX12_numbersOf_91
  · refine lv_tableIn (off := 89) (tgt := 90) hx hb dX12_numbersOf_1 hlo4545 hhi4546 (by rw [hk]; decide) (by decide) ?_
    refine lv_iconst (v := 0) hx hb dX12_numbersOf_90 (by decide) ?_
    have hP9 : va_P (dC, dI) classes (wM g c v F rc) H := hP
    exact W.iret (v := 0) hx hb hr (fun t ht hW => ⟨⟨0, (), rfl, by have : (0 : Int32).toInt = 0 := (by decide); omega, (by show va_P _ _ _ t.heap; rw [ht]; exact hP9)⟩, hS.F ht⟩) hS.2.2 dX12_numbersOf_91
  · refine lv_tableIn (off := 89) (tgt := 90) hx hb dX12_numbersOf_1 hlo4545 hhi4546 (by rw [hk]; decide) (by decide) ?_
    refine lv_iconst (v := 0) hx hb dX12_numbersOf_90 (by decide) ?_
    have hP9 : va_P (dC, dI) classes (wM g c v F rc) H := hP
    exact W.iret (v := 0) hx hb hr (fun t ht hW => ⟨⟨0, (), rfl, by have : (0 : Int32).toInt = 0 := (by decide); omega, (by show va_P _ _ _ t.heap; rw [ht]; exact hP9)⟩, hS.F ht⟩) hS.2.2 dX12_numbersOf_91
  · refine lv_tableIn (off := 83) (tgt := 84) hx hb dX12_numbersOf_1 hlo4545 hhi4546 (by rw [hk]; decide) (by decide) ?_
    refine lv_iconst (v := 3) hx hb dX12_numbersOf_84 (by decide) ?_
    have hP9 : va_P (dC, dI) classes (wM g c v F rc) H := hP
    exact W.iret (v := 3) hx hb hr (fun t ht hW => ⟨⟨3, (), rfl, by have : (3 : Int32).toInt = 3 := (by decide); omega, (by show va_P _ _ _ t.heap; rw [ht]; exact hP9)⟩, hS.F ht⟩) hS.2.2 dX12_numbersOf_85
  · refine lv_tableIn (off := 85) (tgt := 86) hx hb dX12_numbersOf_1 hlo4545 hhi4546 (by rw [hk]; decide) (by decide) ?_
    refine lv_iconst (v := 1) hx hb dX12_numbersOf_86 (by decide) ?_
    have hP9 : va_P (dC, dI) classes (wM g c v F rc) H := hP
    exact W.iret (v := 1) hx hb hr (fun t ht hW => ⟨⟨1, (), rfl, by have : (1 : Int32).toInt = 1 := (by decide); omega, (by show va_P _ _ _ t.heap; rw [ht]; exact hP9)⟩, hS.F ht⟩) hS.2.2 dX12_numbersOf_87
  · refine lv_tableIn (off := 89) (tgt := 90) hx hb dX12_numbersOf_1 hlo4545 hhi4546 (by rw [hk]; decide) (by decide) ?_
    refine lv_iconst (v := 0) hx hb dX12_numbersOf_90 (by decide) ?_
    have hP9 : va_P (dC, dI) classes (wM g c v F rc) H := hP
    exact W.iret (v := 0) hx hb hr (fun t ht hW => ⟨⟨0, (), rfl, by have : (0 : Int32).toInt = 0 := (by decide); omega, (by show va_P _ _ _ t.heap; rw [ht]; exact hP9)⟩, hS.F ht⟩) hS.2.2 dX12_numbersOf_91
  · refine lv_tableIn (off := 85) (tgt := 86) hx hb dX12_numbersOf_1 hlo4545 hhi4546 (by rw [hk]; decide) (by decide) ?_
    refine lv_iconst (v := 1) hx hb dX12_numbersOf_86 (by decide) ?_
    have hP9 : va_P (dC, dI) classes (wM g c v F rc) H := hP
    exact W.iret (v := 1) hx hb hr (fun t ht hW => ⟨⟨1, (), rfl, by have : (1 : Int32).toInt = 1 := (by decide); omega, (by show va_P _ _ _ t.heap; rw [ht]; exact hP9)⟩, hS.F ht⟩) hS.2.2 dX12_numbersOf_87
  · refine lv_tableIn (off := 89) (tgt := 90) hx hb dX12_numbersOf_1 hlo4545 hhi4546 (by rw [hk]; decide) (by decide) ?_
    refine lv_iconst (v := 0) hx hb dX12_numbersOf_90 (by decide) ?_
    have hP9 : va_P (dC, dI) classes (wM g c v F rc) H := hP
    exact W.iret (v := 0) hx hb hr (fun t ht hW => ⟨⟨0, (), rfl, by have : (0 : Int32).toInt = 0 := (by decide); omega, (by show va_P _ _ _ t.heap; rw [ht]; exact hP9)⟩, hS.F ht⟩) hS.2.2 dX12_numbersOf_91
  · refine lv_tableIn (off := 89) (tgt := 90) hx hb dX12_numbersOf_1 hlo4545 hhi4546 (by rw [hk]; decide) (by decide) ?_
    refine lv_iconst (v := 0) hx hb dX12_numbersOf_90 (by decide) ?_
    have hP9 : va_P (dC, dI) classes (wM g c v F rc) H := hP
    exact W.iret (v := 0) hx hb hr (fun t ht hW => ⟨⟨0, (), rfl, by have : (0 : Int32).toInt = 0 := (by decide); omega, (by show va_P _ _ _ t.heap; rw [ht]; exact hP9)⟩, hS.F ht⟩) hS.2.2 dX12_numbersOf_91
  · refine lv_tableIn (off := 89) (tgt := 90) hx hb dX12_numbersOf_1 hlo4545 hhi4546 (by rw [hk]; decide) (by decide) ?_
    refine lv_iconst (v := 0) hx hb dX12_numbersOf_90 (by decide) ?_
    have hP9 : va_P (dC, dI) classes (wM g c v F rc) H := hP
    exact W.iret (v := 0) hx hb hr (fun t ht hW => ⟨⟨0, (), rfl, by have : (0 : Int32).toInt = 0 := (by decide); omega, (by show va_P _ _ _ t.heap; rw [ht]; exact hP9)⟩, hS.F ht⟩) hS.2.2 dX12_numbersOf_91
  · refine lv_tableIn (off := 89) (tgt := 90) hx hb dX12_numbersOf_1 hlo4545 hhi4546 (by rw [hk]; decide) (by decide) ?_
    refine lv_iconst (v := 0) hx hb dX12_numbersOf_90 (by decide) ?_
    have hP9 : va_P (dC, dI) classes (wM g c v F rc) H := hP
    exact W.iret (v := 0) hx hb hr (fun t ht hW => ⟨⟨0, (), rfl, by have : (0 : Int32).toInt = 0 := (by decide); omega, (by show va_P _ _ _ t.heap; rw [ht]; exact hP9)⟩, hS.F ht⟩) hS.2.2 dX12_numbersOf_91
  · refine lv_tableIn (off := 87) (tgt := 88) hx hb dX12_numbersOf_1 hlo4545 hhi4546 (by rw [hk]; decide) (by decide) ?_
    refine lv_iconst (v := 2) hx hb dX12_numbersOf_88 (by decide) ?_
    have hP9 : va_P (dC, dI) classes (wM g c v F rc) H := hP
    exact W.iret (v := 2) hx hb hr (fun t ht hW => ⟨⟨2, (), rfl, by have : (2 : Int32).toInt = 2 := (by decide); omega, (by show va_P _ _ _ t.heap; rw [ht]; exact hP9)⟩, hS.F ht⟩) hS.2.2 dX12_numbersOf_89
set_option maxHeartbeats 8000000 in
set_option maxRecDepth 100000 in
theorem c_X12_both (l : Launch) (dC : Nat → ClassId) (dI : Nat → Nat → Nat) (g : Nat → Nat) (c : Nat → ClassId) (adK adV : Nat → Nat) (v : Nat → Int32) (F : Nat → Nat → Int32) (rc sz : Nat) (p0 : Int32) (p1 : Int32) (p2 : Int32) (hg : injM g) (hI : IM v F) : Met l yX12_both (Cond.code yX12_both cX12_both 3 (some .int) :: wA) ({ frames := 1, cells := 0, slots := 0, locals := 40 }) (va_Pc [.int p0, .int p1, .int p2] (PM dC dI g c adK adV v F rc sz)) (va_Qi (fun (r : Int32) (u : Unit) => True) (fun (_ : Unit) => BM dC dI g c (v, F, rc)) (AM g sz)) 0 0 (AM g sz) := by
  refine Met.ofW (cc := cX12_both) (maxL := 3) (ret := (some .int)) (by decide) rfl ?_
  intro p e s m args below meth c0 s₁ B hml hv
  obtain ⟨rfl, hsz, hP, hK, hE⟩ := hv
  have hx := B.exec
  have hb := B.bytes
  have hr := B.returns
  have hts := atoms_spec (ws := Cond.code yX12_both cX12_both 3 (some .int) :: wA) B.pre
  have hwd : ∀ w ∈ wA, w.before _ s = true := fun w h => hts w (List.mem_cons_of_mem _ h)
  have hown : s.vm.findClass RX12 = some m.cls := findClass_of_methodNamed B.named
  have hlocks := B.notSynchronized
  subst hsz
  have hl := lv_entry ([.int p0, .int p1, .int p2]) (n := 3) (Nat.le_of_ble_eq_true rfl)
  rw [lg_entry_eq]
  generalize (lg_sl ([.int p0, .int p1, .int p2]) ++ List.replicate (3 - (lg_sl ([.int p0, .int p1, .int p2])).length) Slot.unset).toArray = ls at hl ⊢
  have hl : lv_has ls 3 [(0, .int p0), (1, .int p1), (2, .int p2)] := hl
  obtain ⟨H, eH⟩ : ∃ z, z = s.heap := ⟨_, rfl⟩
  have hP : va_P (dC, dI) classes (wM g c v F rc) H := by rw [eH]; exact hP
  have hS : va_S (AM g s.heap.size) s.heap H [] := by rw [eH]; exact va_S.rf
  refine my_heap eH ?_
  have rp0 := i32_rng p0
  have rp1 := i32_rng p1
  have rp2 := i32_rng p2
  refine lv_iload_n hx hb dX12_both_0 rfl (lv_at hl 0 rfl) ?_
  by_cases hlo4547 : p0.toInt < 42
  · refine lv_tableOut (tgt := 152) hx hb dX12_both_1 (Or.inl hlo4547) (by decide) ?_
    refine lv_iload_n hx hb dX12_both_152 rfl (lv_at hl 1 rfl) ?_
    refine lv_iload_n hx hb dX12_both_153 rfl (lv_at hl 2 rfl) ?_
    refine lv_icmp_le (tgt := 161) hx hb dX12_both_154 (by decide) (fun c4549 => ?_) (fun c4549 => ?_)
    · skip
      have t4550 := cv_le (a := p1.toInt) rfl (b := p2.toInt) rfl c4549
      refine lv_iconst (v := 0) hx hb dX12_both_161 (by decide) ?_
      have hP9 : va_P (dC, dI) classes (wM g c v F rc) H := hP
      exact W.iret (v := 0) hx hb hr (fun t ht hW => ⟨⟨0, (), rfl, trivial, (by show va_P _ _ _ t.heap; rw [ht]; exact hP9)⟩, hS.F ht⟩) hS.2.2 dX12_both_162
    · skip
      have t4551 := cv_nle (a := p1.toInt) rfl (b := p2.toInt) rfl c4549
      refine lv_iconst (v := 1) hx hb dX12_both_157 (by decide) ?_
      refine lv_goto (tgt := 162) hx hb dX12_both_158 (by decide) ?_
      have hP9 : va_P (dC, dI) classes (wM g c v F rc) H := hP
      exact W.iret (v := 1) hx hb hr (fun t ht hW => ⟨⟨1, (), rfl, trivial, (by show va_P _ _ _ t.heap; rw [ht]; exact hP9)⟩, hS.F ht⟩) hS.2.2 dX12_both_162
  by_cases hhi4548 : 61 < p0.toInt
  · refine lv_tableOut (tgt := 152) hx hb dX12_both_1 (Or.inr hhi4548) (by decide) ?_
    refine lv_iload_n hx hb dX12_both_152 rfl (lv_at hl 1 rfl) ?_
    refine lv_iload_n hx hb dX12_both_153 rfl (lv_at hl 2 rfl) ?_
    refine lv_icmp_le (tgt := 161) hx hb dX12_both_154 (by decide) (fun c4552 => ?_) (fun c4552 => ?_)
    · skip
      have t4553 := cv_le (a := p1.toInt) rfl (b := p2.toInt) rfl c4552
      refine lv_iconst (v := 0) hx hb dX12_both_161 (by decide) ?_
      have hP9 : va_P (dC, dI) classes (wM g c v F rc) H := hP
      exact W.iret (v := 0) hx hb hr (fun t ht hW => ⟨⟨0, (), rfl, trivial, (by show va_P _ _ _ t.heap; rw [ht]; exact hP9)⟩, hS.F ht⟩) hS.2.2 dX12_both_162
    · skip
      have t4554 := cv_nle (a := p1.toInt) rfl (b := p2.toInt) rfl c4552
      refine lv_iconst (v := 1) hx hb dX12_both_157 (by decide) ?_
      refine lv_goto (tgt := 162) hx hb dX12_both_158 (by decide) ?_
      have hP9 : va_P (dC, dI) classes (wM g c v F rc) H := hP
      exact W.iret (v := 1) hx hb hr (fun t ht hW => ⟨⟨1, (), rfl, trivial, (by show va_P _ _ _ t.heap; rw [ht]; exact hP9)⟩, hS.F ht⟩) hS.2.2 dX12_both_162
  rcases (show p0.toInt = 42 ∨ p0.toInt = 43 ∨ p0.toInt = 44 ∨ p0.toInt = 45 ∨ p0.toInt = 46 ∨ p0.toInt = 47 ∨ p0.toInt = 48 ∨ p0.toInt = 49 ∨ p0.toInt = 50 ∨ p0.toInt = 51 ∨ p0.toInt = 52 ∨ p0.toInt = 53 ∨ p0.toInt = 54 ∨ p0.toInt = 55 ∨ p0.toInt = 56 ∨ p0.toInt = 57 ∨ p0.toInt = 58 ∨ p0.toInt = 59 ∨ p0.toInt = 60 ∨ p0.toInt = 61 by omega) with hk | hk | hk | hk | hk | hk | hk | hk | hk | hk | hk | hk | hk | hk | hk | hk | hk | hk | hk | hk
  · refine lv_tableIn (off := 103) (tgt := 104) hx hb dX12_both_1 hlo4547 hhi4548 (by rw [hk]; decide) (by decide) ?_
    refine lv_iload_n hx hb dX12_both_104 rfl (lv_at hl 1 rfl) ?_
    refine lv_iload_n hx hb dX12_both_105 rfl (lv_at hl 2 rfl) ?_
    refine lv_imul hx hb dX12_both_106 ?_
    refine lv_topi (fun z4555 e4556 => ?_)
    try (have t4557 := tmul e4556 (a := p1.toInt) rfl (b := p2.toInt) rfl (by omega))
    have hP9 : va_P (dC, dI) classes (wM g c v F rc) H := hP
    exact W.iret (v := z4555) hx hb hr (fun t ht hW => ⟨⟨z4555, (), rfl, trivial, (by show va_P _ _ _ t.heap; rw [ht]; exact hP9)⟩, hS.F ht⟩) hS.2.2 dX12_both_107
  · refine lv_tableIn (off := 95) (tgt := 96) hx hb dX12_both_1 hlo4547 hhi4548 (by rw [hk]; decide) (by decide) ?_
    refine lv_iload_n hx hb dX12_both_96 rfl (lv_at hl 1 rfl) ?_
    refine lv_iload_n hx hb dX12_both_97 rfl (lv_at hl 2 rfl) ?_
    refine lv_iadd hx hb dX12_both_98 ?_
    refine lv_topi (fun z4558 e4559 => ?_)
    try (have t4560 := tadd e4559 (a := p1.toInt) rfl (b := p2.toInt) rfl (by omega))
    have hP9 : va_P (dC, dI) classes (wM g c v F rc) H := hP
    exact W.iret (v := z4558) hx hb hr (fun t ht hW => ⟨⟨z4558, (), rfl, trivial, (by show va_P _ _ _ t.heap; rw [ht]; exact hP9)⟩, hS.F ht⟩) hS.2.2 dX12_both_99
  · refine lv_tableIn (off := 151) (tgt := 152) hx hb dX12_both_1 hlo4547 hhi4548 (by rw [hk]; decide) (by decide) ?_
    refine lv_iload_n hx hb dX12_both_152 rfl (lv_at hl 1 rfl) ?_
    refine lv_iload_n hx hb dX12_both_153 rfl (lv_at hl 2 rfl) ?_
    refine lv_icmp_le (tgt := 161) hx hb dX12_both_154 (by decide) (fun c4561 => ?_) (fun c4561 => ?_)
    · skip
      have t4562 := cv_le (a := p1.toInt) rfl (b := p2.toInt) rfl c4561
      refine lv_iconst (v := 0) hx hb dX12_both_161 (by decide) ?_
      have hP9 : va_P (dC, dI) classes (wM g c v F rc) H := hP
      exact W.iret (v := 0) hx hb hr (fun t ht hW => ⟨⟨0, (), rfl, trivial, (by show va_P _ _ _ t.heap; rw [ht]; exact hP9)⟩, hS.F ht⟩) hS.2.2 dX12_both_162
    · skip
      have t4563 := cv_nle (a := p1.toInt) rfl (b := p2.toInt) rfl c4561
      refine lv_iconst (v := 1) hx hb dX12_both_157 (by decide) ?_
      refine lv_goto (tgt := 162) hx hb dX12_both_158 (by decide) ?_
      have hP9 : va_P (dC, dI) classes (wM g c v F rc) H := hP
      exact W.iret (v := 1) hx hb hr (fun t ht hW => ⟨⟨1, (), rfl, trivial, (by show va_P _ _ _ t.heap; rw [ht]; exact hP9)⟩, hS.F ht⟩) hS.2.2 dX12_both_162
  · refine lv_tableIn (off := 99) (tgt := 100) hx hb dX12_both_1 hlo4547 hhi4548 (by rw [hk]; decide) (by decide) ?_
    refine lv_iload_n hx hb dX12_both_100 rfl (lv_at hl 1 rfl) ?_
    refine lv_iload_n hx hb dX12_both_101 rfl (lv_at hl 2 rfl) ?_
    refine lv_isub hx hb dX12_both_102 ?_
    refine lv_topi (fun z4564 e4565 => ?_)
    try (have t4566 := tsub e4565 (a := p1.toInt) rfl (b := p2.toInt) rfl (by omega))
    have hP9 : va_P (dC, dI) classes (wM g c v F rc) H := hP
    exact W.iret (v := z4564) hx hb hr (fun t ht hW => ⟨⟨z4564, (), rfl, trivial, (by show va_P _ _ _ t.heap; rw [ht]; exact hP9)⟩, hS.F ht⟩) hS.2.2 dX12_both_103
  · refine lv_tableIn (off := 151) (tgt := 152) hx hb dX12_both_1 hlo4547 hhi4548 (by rw [hk]; decide) (by decide) ?_
    refine lv_iload_n hx hb dX12_both_152 rfl (lv_at hl 1 rfl) ?_
    refine lv_iload_n hx hb dX12_both_153 rfl (lv_at hl 2 rfl) ?_
    refine lv_icmp_le (tgt := 161) hx hb dX12_both_154 (by decide) (fun c4567 => ?_) (fun c4567 => ?_)
    · skip
      have t4568 := cv_le (a := p1.toInt) rfl (b := p2.toInt) rfl c4567
      refine lv_iconst (v := 0) hx hb dX12_both_161 (by decide) ?_
      have hP9 : va_P (dC, dI) classes (wM g c v F rc) H := hP
      exact W.iret (v := 0) hx hb hr (fun t ht hW => ⟨⟨0, (), rfl, trivial, (by show va_P _ _ _ t.heap; rw [ht]; exact hP9)⟩, hS.F ht⟩) hS.2.2 dX12_both_162
    · skip
      have t4569 := cv_nle (a := p1.toInt) rfl (b := p2.toInt) rfl c4567
      refine lv_iconst (v := 1) hx hb dX12_both_157 (by decide) ?_
      refine lv_goto (tgt := 162) hx hb dX12_both_158 (by decide) ?_
      have hP9 : va_P (dC, dI) classes (wM g c v F rc) H := hP
      exact W.iret (v := 1) hx hb hr (fun t ht hW => ⟨⟨1, (), rfl, trivial, (by show va_P _ _ _ t.heap; rw [ht]; exact hP9)⟩, hS.F ht⟩) hS.2.2 dX12_both_162
  · refine lv_tableIn (off := 107) (tgt := 108) hx hb dX12_both_1 hlo4547 hhi4548 (by rw [hk]; decide) (by decide) ?_
    refine lv_iload_n hx hb dX12_both_108 rfl (lv_at hl 2 rfl) ?_
    refine lv_if_ne (tgt := 116) hx hb dX12_both_109 (by decide) (fun c4570 => ?_) (fun c4570 => ?_)
    · skip
      have t4571 := cv_ne (a := p2.toInt) rfl (b := 0) (by decide) c4570
      refine lv_iload_n hx hb dX12_both_116 rfl (lv_at hl 2 rfl) ?_
      refine lv_iconst (v := (-1)) hx hb dX12_both_117 (by decide) ?_
      refine lv_icmp_ne (tgt := 126) hx hb dX12_both_118 (by decide) (fun c4572 => ?_) (fun c4572 => ?_)
      · skip
        have t4573 := cv_ne (a := p2.toInt) rfl (b := (-1)) (by decide) c4572
        refine lv_iload_n hx hb dX12_both_126 rfl (lv_at hl 1 rfl) ?_
        refine lv_iload_n hx hb dX12_both_127 rfl (lv_at hl 2 rfl) ?_
        refine lv_idiv hx hb dX12_both_128 (fun q => by have := cv_eq rfl (b := 0) (by decide) q; omega) ?_
        refine lv_topi (fun z4574 e4575 => ?_)
        have hP9 : va_P (dC, dI) classes (wM g c v F rc) H := hP
        exact W.iret (v := z4574) hx hb hr (fun t ht hW => ⟨⟨z4574, (), rfl, trivial, (by show va_P _ _ _ t.heap; rw [ht]; exact hP9)⟩, hS.F ht⟩) hS.2.2 dX12_both_129
      · skip
        have t4577 := cv_eq (a := p2.toInt) rfl (b := (-1)) (by decide) c4572
        refine lv_iload_n hx hb dX12_both_121 rfl (lv_at hl 1 rfl) ?_
        refine lv_ineg hx hb dX12_both_122 ?_
        refine lv_topi (fun z4578 e4579 => ?_)
        refine lv_goto (tgt := 129) hx hb dX12_both_123 (by decide) ?_
        have hP9 : va_P (dC, dI) classes (wM g c v F rc) H := hP
        exact W.iret (v := z4578) hx hb hr (fun t ht hW => ⟨⟨z4578, (), rfl, trivial, (by show va_P _ _ _ t.heap; rw [ht]; exact hP9)⟩, hS.F ht⟩) hS.2.2 dX12_both_129
    · skip
      have t4580 := cv_eq (a := p2.toInt) rfl (b := 0) (by decide) c4570
      refine lv_iconst (v := 0) hx hb dX12_both_112 (by decide) ?_
      refine lv_goto (tgt := 129) hx hb dX12_both_113 (by decide) ?_
      have hP9 : va_P (dC, dI) classes (wM g c v F rc) H := hP
      exact W.iret (v := 0) hx hb hr (fun t ht hW => ⟨⟨0, (), rfl, trivial, (by show va_P _ _ _ t.heap; rw [ht]; exact hP9)⟩, hS.F ht⟩) hS.2.2 dX12_both_129
  · refine lv_tableIn (off := 151) (tgt := 152) hx hb dX12_both_1 hlo4547 hhi4548 (by rw [hk]; decide) (by decide) ?_
    refine lv_iload_n hx hb dX12_both_152 rfl (lv_at hl 1 rfl) ?_
    refine lv_iload_n hx hb dX12_both_153 rfl (lv_at hl 2 rfl) ?_
    refine lv_icmp_le (tgt := 161) hx hb dX12_both_154 (by decide) (fun c4581 => ?_) (fun c4581 => ?_)
    · skip
      have t4582 := cv_le (a := p1.toInt) rfl (b := p2.toInt) rfl c4581
      refine lv_iconst (v := 0) hx hb dX12_both_161 (by decide) ?_
      have hP9 : va_P (dC, dI) classes (wM g c v F rc) H := hP
      exact W.iret (v := 0) hx hb hr (fun t ht hW => ⟨⟨0, (), rfl, trivial, (by show va_P _ _ _ t.heap; rw [ht]; exact hP9)⟩, hS.F ht⟩) hS.2.2 dX12_both_162
    · skip
      have t4583 := cv_nle (a := p1.toInt) rfl (b := p2.toInt) rfl c4581
      refine lv_iconst (v := 1) hx hb dX12_both_157 (by decide) ?_
      refine lv_goto (tgt := 162) hx hb dX12_both_158 (by decide) ?_
      have hP9 : va_P (dC, dI) classes (wM g c v F rc) H := hP
      exact W.iret (v := 1) hx hb hr (fun t ht hW => ⟨⟨1, (), rfl, trivial, (by show va_P _ _ _ t.heap; rw [ht]; exact hP9)⟩, hS.F ht⟩) hS.2.2 dX12_both_162
  · refine lv_tableIn (off := 151) (tgt := 152) hx hb dX12_both_1 hlo4547 hhi4548 (by rw [hk]; decide) (by decide) ?_
    refine lv_iload_n hx hb dX12_both_152 rfl (lv_at hl 1 rfl) ?_
    refine lv_iload_n hx hb dX12_both_153 rfl (lv_at hl 2 rfl) ?_
    refine lv_icmp_le (tgt := 161) hx hb dX12_both_154 (by decide) (fun c4584 => ?_) (fun c4584 => ?_)
    · skip
      have t4585 := cv_le (a := p1.toInt) rfl (b := p2.toInt) rfl c4584
      refine lv_iconst (v := 0) hx hb dX12_both_161 (by decide) ?_
      have hP9 : va_P (dC, dI) classes (wM g c v F rc) H := hP
      exact W.iret (v := 0) hx hb hr (fun t ht hW => ⟨⟨0, (), rfl, trivial, (by show va_P _ _ _ t.heap; rw [ht]; exact hP9)⟩, hS.F ht⟩) hS.2.2 dX12_both_162
    · skip
      have t4586 := cv_nle (a := p1.toInt) rfl (b := p2.toInt) rfl c4584
      refine lv_iconst (v := 1) hx hb dX12_both_157 (by decide) ?_
      refine lv_goto (tgt := 162) hx hb dX12_both_158 (by decide) ?_
      have hP9 : va_P (dC, dI) classes (wM g c v F rc) H := hP
      exact W.iret (v := 1) hx hb hr (fun t ht hW => ⟨⟨1, (), rfl, trivial, (by show va_P _ _ _ t.heap; rw [ht]; exact hP9)⟩, hS.F ht⟩) hS.2.2 dX12_both_162
  · refine lv_tableIn (off := 151) (tgt := 152) hx hb dX12_both_1 hlo4547 hhi4548 (by rw [hk]; decide) (by decide) ?_
    refine lv_iload_n hx hb dX12_both_152 rfl (lv_at hl 1 rfl) ?_
    refine lv_iload_n hx hb dX12_both_153 rfl (lv_at hl 2 rfl) ?_
    refine lv_icmp_le (tgt := 161) hx hb dX12_both_154 (by decide) (fun c4587 => ?_) (fun c4587 => ?_)
    · skip
      have t4588 := cv_le (a := p1.toInt) rfl (b := p2.toInt) rfl c4587
      refine lv_iconst (v := 0) hx hb dX12_both_161 (by decide) ?_
      have hP9 : va_P (dC, dI) classes (wM g c v F rc) H := hP
      exact W.iret (v := 0) hx hb hr (fun t ht hW => ⟨⟨0, (), rfl, trivial, (by show va_P _ _ _ t.heap; rw [ht]; exact hP9)⟩, hS.F ht⟩) hS.2.2 dX12_both_162
    · skip
      have t4589 := cv_nle (a := p1.toInt) rfl (b := p2.toInt) rfl c4587
      refine lv_iconst (v := 1) hx hb dX12_both_157 (by decide) ?_
      refine lv_goto (tgt := 162) hx hb dX12_both_158 (by decide) ?_
      have hP9 : va_P (dC, dI) classes (wM g c v F rc) H := hP
      exact W.iret (v := 1) hx hb hr (fun t ht hW => ⟨⟨1, (), rfl, trivial, (by show va_P _ _ _ t.heap; rw [ht]; exact hP9)⟩, hS.F ht⟩) hS.2.2 dX12_both_162
  · refine lv_tableIn (off := 151) (tgt := 152) hx hb dX12_both_1 hlo4547 hhi4548 (by rw [hk]; decide) (by decide) ?_
    refine lv_iload_n hx hb dX12_both_152 rfl (lv_at hl 1 rfl) ?_
    refine lv_iload_n hx hb dX12_both_153 rfl (lv_at hl 2 rfl) ?_
    refine lv_icmp_le (tgt := 161) hx hb dX12_both_154 (by decide) (fun c4590 => ?_) (fun c4590 => ?_)
    · skip
      have t4591 := cv_le (a := p1.toInt) rfl (b := p2.toInt) rfl c4590
      refine lv_iconst (v := 0) hx hb dX12_both_161 (by decide) ?_
      have hP9 : va_P (dC, dI) classes (wM g c v F rc) H := hP
      exact W.iret (v := 0) hx hb hr (fun t ht hW => ⟨⟨0, (), rfl, trivial, (by show va_P _ _ _ t.heap; rw [ht]; exact hP9)⟩, hS.F ht⟩) hS.2.2 dX12_both_162
    · skip
      have t4592 := cv_nle (a := p1.toInt) rfl (b := p2.toInt) rfl c4590
      refine lv_iconst (v := 1) hx hb dX12_both_157 (by decide) ?_
      refine lv_goto (tgt := 162) hx hb dX12_both_158 (by decide) ?_
      have hP9 : va_P (dC, dI) classes (wM g c v F rc) H := hP
      exact W.iret (v := 1) hx hb hr (fun t ht hW => ⟨⟨1, (), rfl, trivial, (by show va_P _ _ _ t.heap; rw [ht]; exact hP9)⟩, hS.F ht⟩) hS.2.2 dX12_both_162
  · refine lv_tableIn (off := 151) (tgt := 152) hx hb dX12_both_1 hlo4547 hhi4548 (by rw [hk]; decide) (by decide) ?_
    refine lv_iload_n hx hb dX12_both_152 rfl (lv_at hl 1 rfl) ?_
    refine lv_iload_n hx hb dX12_both_153 rfl (lv_at hl 2 rfl) ?_
    refine lv_icmp_le (tgt := 161) hx hb dX12_both_154 (by decide) (fun c4593 => ?_) (fun c4593 => ?_)
    · skip
      have t4594 := cv_le (a := p1.toInt) rfl (b := p2.toInt) rfl c4593
      refine lv_iconst (v := 0) hx hb dX12_both_161 (by decide) ?_
      have hP9 : va_P (dC, dI) classes (wM g c v F rc) H := hP
      exact W.iret (v := 0) hx hb hr (fun t ht hW => ⟨⟨0, (), rfl, trivial, (by show va_P _ _ _ t.heap; rw [ht]; exact hP9)⟩, hS.F ht⟩) hS.2.2 dX12_both_162
    · skip
      have t4595 := cv_nle (a := p1.toInt) rfl (b := p2.toInt) rfl c4593
      refine lv_iconst (v := 1) hx hb dX12_both_157 (by decide) ?_
      refine lv_goto (tgt := 162) hx hb dX12_both_158 (by decide) ?_
      have hP9 : va_P (dC, dI) classes (wM g c v F rc) H := hP
      exact W.iret (v := 1) hx hb hr (fun t ht hW => ⟨⟨1, (), rfl, trivial, (by show va_P _ _ _ t.heap; rw [ht]; exact hP9)⟩, hS.F ht⟩) hS.2.2 dX12_both_162
  · refine lv_tableIn (off := 151) (tgt := 152) hx hb dX12_both_1 hlo4547 hhi4548 (by rw [hk]; decide) (by decide) ?_
    refine lv_iload_n hx hb dX12_both_152 rfl (lv_at hl 1 rfl) ?_
    refine lv_iload_n hx hb dX12_both_153 rfl (lv_at hl 2 rfl) ?_
    refine lv_icmp_le (tgt := 161) hx hb dX12_both_154 (by decide) (fun c4596 => ?_) (fun c4596 => ?_)
    · skip
      have t4597 := cv_le (a := p1.toInt) rfl (b := p2.toInt) rfl c4596
      refine lv_iconst (v := 0) hx hb dX12_both_161 (by decide) ?_
      have hP9 : va_P (dC, dI) classes (wM g c v F rc) H := hP
      exact W.iret (v := 0) hx hb hr (fun t ht hW => ⟨⟨0, (), rfl, trivial, (by show va_P _ _ _ t.heap; rw [ht]; exact hP9)⟩, hS.F ht⟩) hS.2.2 dX12_both_162
    · skip
      have t4598 := cv_nle (a := p1.toInt) rfl (b := p2.toInt) rfl c4596
      refine lv_iconst (v := 1) hx hb dX12_both_157 (by decide) ?_
      refine lv_goto (tgt := 162) hx hb dX12_both_158 (by decide) ?_
      have hP9 : va_P (dC, dI) classes (wM g c v F rc) H := hP
      exact W.iret (v := 1) hx hb hr (fun t ht hW => ⟨⟨1, (), rfl, trivial, (by show va_P _ _ _ t.heap; rw [ht]; exact hP9)⟩, hS.F ht⟩) hS.2.2 dX12_both_162
  · refine lv_tableIn (off := 151) (tgt := 152) hx hb dX12_both_1 hlo4547 hhi4548 (by rw [hk]; decide) (by decide) ?_
    refine lv_iload_n hx hb dX12_both_152 rfl (lv_at hl 1 rfl) ?_
    refine lv_iload_n hx hb dX12_both_153 rfl (lv_at hl 2 rfl) ?_
    refine lv_icmp_le (tgt := 161) hx hb dX12_both_154 (by decide) (fun c4599 => ?_) (fun c4599 => ?_)
    · skip
      have t4600 := cv_le (a := p1.toInt) rfl (b := p2.toInt) rfl c4599
      refine lv_iconst (v := 0) hx hb dX12_both_161 (by decide) ?_
      have hP9 : va_P (dC, dI) classes (wM g c v F rc) H := hP
      exact W.iret (v := 0) hx hb hr (fun t ht hW => ⟨⟨0, (), rfl, trivial, (by show va_P _ _ _ t.heap; rw [ht]; exact hP9)⟩, hS.F ht⟩) hS.2.2 dX12_both_162
    · skip
      have t4601 := cv_nle (a := p1.toInt) rfl (b := p2.toInt) rfl c4599
      refine lv_iconst (v := 1) hx hb dX12_both_157 (by decide) ?_
      refine lv_goto (tgt := 162) hx hb dX12_both_158 (by decide) ?_
      have hP9 : va_P (dC, dI) classes (wM g c v F rc) H := hP
      exact W.iret (v := 1) hx hb hr (fun t ht hW => ⟨⟨1, (), rfl, trivial, (by show va_P _ _ _ t.heap; rw [ht]; exact hP9)⟩, hS.F ht⟩) hS.2.2 dX12_both_162
  · refine lv_tableIn (off := 151) (tgt := 152) hx hb dX12_both_1 hlo4547 hhi4548 (by rw [hk]; decide) (by decide) ?_
    refine lv_iload_n hx hb dX12_both_152 rfl (lv_at hl 1 rfl) ?_
    refine lv_iload_n hx hb dX12_both_153 rfl (lv_at hl 2 rfl) ?_
    refine lv_icmp_le (tgt := 161) hx hb dX12_both_154 (by decide) (fun c4602 => ?_) (fun c4602 => ?_)
    · skip
      have t4603 := cv_le (a := p1.toInt) rfl (b := p2.toInt) rfl c4602
      refine lv_iconst (v := 0) hx hb dX12_both_161 (by decide) ?_
      have hP9 : va_P (dC, dI) classes (wM g c v F rc) H := hP
      exact W.iret (v := 0) hx hb hr (fun t ht hW => ⟨⟨0, (), rfl, trivial, (by show va_P _ _ _ t.heap; rw [ht]; exact hP9)⟩, hS.F ht⟩) hS.2.2 dX12_both_162
    · skip
      have t4604 := cv_nle (a := p1.toInt) rfl (b := p2.toInt) rfl c4602
      refine lv_iconst (v := 1) hx hb dX12_both_157 (by decide) ?_
      refine lv_goto (tgt := 162) hx hb dX12_both_158 (by decide) ?_
      have hP9 : va_P (dC, dI) classes (wM g c v F rc) H := hP
      exact W.iret (v := 1) hx hb hr (fun t ht hW => ⟨⟨1, (), rfl, trivial, (by show va_P _ _ _ t.heap; rw [ht]; exact hP9)⟩, hS.F ht⟩) hS.2.2 dX12_both_162
  · refine lv_tableIn (off := 151) (tgt := 152) hx hb dX12_both_1 hlo4547 hhi4548 (by rw [hk]; decide) (by decide) ?_
    refine lv_iload_n hx hb dX12_both_152 rfl (lv_at hl 1 rfl) ?_
    refine lv_iload_n hx hb dX12_both_153 rfl (lv_at hl 2 rfl) ?_
    refine lv_icmp_le (tgt := 161) hx hb dX12_both_154 (by decide) (fun c4605 => ?_) (fun c4605 => ?_)
    · skip
      have t4606 := cv_le (a := p1.toInt) rfl (b := p2.toInt) rfl c4605
      refine lv_iconst (v := 0) hx hb dX12_both_161 (by decide) ?_
      have hP9 : va_P (dC, dI) classes (wM g c v F rc) H := hP
      exact W.iret (v := 0) hx hb hr (fun t ht hW => ⟨⟨0, (), rfl, trivial, (by show va_P _ _ _ t.heap; rw [ht]; exact hP9)⟩, hS.F ht⟩) hS.2.2 dX12_both_162
    · skip
      have t4607 := cv_nle (a := p1.toInt) rfl (b := p2.toInt) rfl c4605
      refine lv_iconst (v := 1) hx hb dX12_both_157 (by decide) ?_
      refine lv_goto (tgt := 162) hx hb dX12_both_158 (by decide) ?_
      have hP9 : va_P (dC, dI) classes (wM g c v F rc) H := hP
      exact W.iret (v := 1) hx hb hr (fun t ht hW => ⟨⟨1, (), rfl, trivial, (by show va_P _ _ _ t.heap; rw [ht]; exact hP9)⟩, hS.F ht⟩) hS.2.2 dX12_both_162
  · refine lv_tableIn (off := 151) (tgt := 152) hx hb dX12_both_1 hlo4547 hhi4548 (by rw [hk]; decide) (by decide) ?_
    refine lv_iload_n hx hb dX12_both_152 rfl (lv_at hl 1 rfl) ?_
    refine lv_iload_n hx hb dX12_both_153 rfl (lv_at hl 2 rfl) ?_
    refine lv_icmp_le (tgt := 161) hx hb dX12_both_154 (by decide) (fun c4608 => ?_) (fun c4608 => ?_)
    · skip
      have t4609 := cv_le (a := p1.toInt) rfl (b := p2.toInt) rfl c4608
      refine lv_iconst (v := 0) hx hb dX12_both_161 (by decide) ?_
      have hP9 : va_P (dC, dI) classes (wM g c v F rc) H := hP
      exact W.iret (v := 0) hx hb hr (fun t ht hW => ⟨⟨0, (), rfl, trivial, (by show va_P _ _ _ t.heap; rw [ht]; exact hP9)⟩, hS.F ht⟩) hS.2.2 dX12_both_162
    · skip
      have t4610 := cv_nle (a := p1.toInt) rfl (b := p2.toInt) rfl c4608
      refine lv_iconst (v := 1) hx hb dX12_both_157 (by decide) ?_
      refine lv_goto (tgt := 162) hx hb dX12_both_158 (by decide) ?_
      have hP9 : va_P (dC, dI) classes (wM g c v F rc) H := hP
      exact W.iret (v := 1) hx hb hr (fun t ht hW => ⟨⟨1, (), rfl, trivial, (by show va_P _ _ _ t.heap; rw [ht]; exact hP9)⟩, hS.F ht⟩) hS.2.2 dX12_both_162
  · refine lv_tableIn (off := 151) (tgt := 152) hx hb dX12_both_1 hlo4547 hhi4548 (by rw [hk]; decide) (by decide) ?_
    refine lv_iload_n hx hb dX12_both_152 rfl (lv_at hl 1 rfl) ?_
    refine lv_iload_n hx hb dX12_both_153 rfl (lv_at hl 2 rfl) ?_
    refine lv_icmp_le (tgt := 161) hx hb dX12_both_154 (by decide) (fun c4611 => ?_) (fun c4611 => ?_)
    · skip
      have t4612 := cv_le (a := p1.toInt) rfl (b := p2.toInt) rfl c4611
      refine lv_iconst (v := 0) hx hb dX12_both_161 (by decide) ?_
      have hP9 : va_P (dC, dI) classes (wM g c v F rc) H := hP
      exact W.iret (v := 0) hx hb hr (fun t ht hW => ⟨⟨0, (), rfl, trivial, (by show va_P _ _ _ t.heap; rw [ht]; exact hP9)⟩, hS.F ht⟩) hS.2.2 dX12_both_162
    · skip
      have t4613 := cv_nle (a := p1.toInt) rfl (b := p2.toInt) rfl c4611
      refine lv_iconst (v := 1) hx hb dX12_both_157 (by decide) ?_
      refine lv_goto (tgt := 162) hx hb dX12_both_158 (by decide) ?_
      have hP9 : va_P (dC, dI) classes (wM g c v F rc) H := hP
      exact W.iret (v := 1) hx hb hr (fun t ht hW => ⟨⟨1, (), rfl, trivial, (by show va_P _ _ _ t.heap; rw [ht]; exact hP9)⟩, hS.F ht⟩) hS.2.2 dX12_both_162
  · refine lv_tableIn (off := 151) (tgt := 152) hx hb dX12_both_1 hlo4547 hhi4548 (by rw [hk]; decide) (by decide) ?_
    refine lv_iload_n hx hb dX12_both_152 rfl (lv_at hl 1 rfl) ?_
    refine lv_iload_n hx hb dX12_both_153 rfl (lv_at hl 2 rfl) ?_
    refine lv_icmp_le (tgt := 161) hx hb dX12_both_154 (by decide) (fun c4614 => ?_) (fun c4614 => ?_)
    · skip
      have t4615 := cv_le (a := p1.toInt) rfl (b := p2.toInt) rfl c4614
      refine lv_iconst (v := 0) hx hb dX12_both_161 (by decide) ?_
      have hP9 : va_P (dC, dI) classes (wM g c v F rc) H := hP
      exact W.iret (v := 0) hx hb hr (fun t ht hW => ⟨⟨0, (), rfl, trivial, (by show va_P _ _ _ t.heap; rw [ht]; exact hP9)⟩, hS.F ht⟩) hS.2.2 dX12_both_162
    · skip
      have t4616 := cv_nle (a := p1.toInt) rfl (b := p2.toInt) rfl c4614
      refine lv_iconst (v := 1) hx hb dX12_both_157 (by decide) ?_
      refine lv_goto (tgt := 162) hx hb dX12_both_158 (by decide) ?_
      have hP9 : va_P (dC, dI) classes (wM g c v F rc) H := hP
      exact W.iret (v := 1) hx hb hr (fun t ht hW => ⟨⟨1, (), rfl, trivial, (by show va_P _ _ _ t.heap; rw [ht]; exact hP9)⟩, hS.F ht⟩) hS.2.2 dX12_both_162
  · refine lv_tableIn (off := 129) (tgt := 130) hx hb dX12_both_1 hlo4547 hhi4548 (by rw [hk]; decide) (by decide) ?_
    refine lv_iload_n hx hb dX12_both_130 rfl (lv_at hl 1 rfl) ?_
    refine lv_iload_n hx hb dX12_both_131 rfl (lv_at hl 2 rfl) ?_
    refine lv_icmp_ge (tgt := 139) hx hb dX12_both_132 (by decide) (fun c4617 => ?_) (fun c4617 => ?_)
    · skip
      have t4618 := cv_le (a := p2.toInt) rfl (b := p1.toInt) rfl c4617
      refine lv_iconst (v := 0) hx hb dX12_both_139 (by decide) ?_
      have hP9 : va_P (dC, dI) classes (wM g c v F rc) H := hP
      exact W.iret (v := 0) hx hb hr (fun t ht hW => ⟨⟨0, (), rfl, trivial, (by show va_P _ _ _ t.heap; rw [ht]; exact hP9)⟩, hS.F ht⟩) hS.2.2 dX12_both_140
    · skip
      have t4619 := cv_nle (a := p2.toInt) rfl (b := p1.toInt) rfl c4617
      refine lv_iconst (v := 1) hx hb dX12_both_135 (by decide) ?_
      refine lv_goto (tgt := 140) hx hb dX12_both_136 (by decide) ?_
      have hP9 : va_P (dC, dI) classes (wM g c v F rc) H := hP
      exact W.iret (v := 1) hx hb hr (fun t ht hW => ⟨⟨1, (), rfl, trivial, (by show va_P _ _ _ t.heap; rw [ht]; exact hP9)⟩, hS.F ht⟩) hS.2.2 dX12_both_140
  · refine lv_tableIn (off := 140) (tgt := 141) hx hb dX12_both_1 hlo4547 hhi4548 (by rw [hk]; decide) (by decide) ?_
    refine lv_iload_n hx hb dX12_both_141 rfl (lv_at hl 1 rfl) ?_
    refine lv_iload_n hx hb dX12_both_142 rfl (lv_at hl 2 rfl) ?_
    refine lv_icmp_ne (tgt := 150) hx hb dX12_both_143 (by decide) (fun c4620 => ?_) (fun c4620 => ?_)
    · skip
      have t4621 := cv_ne (a := p1.toInt) rfl (b := p2.toInt) rfl c4620
      refine lv_iconst (v := 0) hx hb dX12_both_150 (by decide) ?_
      have hP9 : va_P (dC, dI) classes (wM g c v F rc) H := hP
      exact W.iret (v := 0) hx hb hr (fun t ht hW => ⟨⟨0, (), rfl, trivial, (by show va_P _ _ _ t.heap; rw [ht]; exact hP9)⟩, hS.F ht⟩) hS.2.2 dX12_both_151
    · skip
      have t4622 := cv_eq (a := p1.toInt) rfl (b := p2.toInt) rfl c4620
      refine lv_iconst (v := 1) hx hb dX12_both_146 (by decide) ?_
      refine lv_goto (tgt := 151) hx hb dX12_both_147 (by decide) ?_
      have hP9 : va_P (dC, dI) classes (wM g c v F rc) H := hP
      exact W.iret (v := 1) hx hb hr (fun t ht hW => ⟨⟨1, (), rfl, trivial, (by show va_P _ _ _ t.heap; rw [ht]; exact hP9)⟩, hS.F ht⟩) hS.2.2 dX12_both_151
set_option maxHeartbeats 8000000 in
set_option maxRecDepth 100000 in
theorem c_X12_bitsOf (l : Launch) (dC : Nat → ClassId) (dI : Nat → Nat → Nat) (g : Nat → Nat) (c : Nat → ClassId) (adK adV : Nat → Nat) (v : Nat → Int32) (F : Nat → Nat → Int32) (rc sz : Nat) (p0 : Int32) (hg : injM g) (hI : IM v F) : Met l yX12_bitsOf (Cond.code yX12_bitsOf cX12_bitsOf 3 (some .int) :: wA) ({ frames := 1, cells := 0, slots := 0, locals := 40 }) (va_Pc [.int p0] (PM dC dI g c adK adV v F rc sz)) (va_Qi (fun (r : Int32) (u : Unit) => True) (fun (_ : Unit) => BM dC dI g c (v, F, rc)) (AM g sz)) 0 0 (AM g sz) := by
  refine Met.ofW (cc := cX12_bitsOf) (maxL := 3) (ret := (some .int)) (by decide) rfl ?_
  intro p e s m args below meth c0 s₁ B hml hv
  obtain ⟨rfl, hsz, hP, hK, hE⟩ := hv
  have hx := B.exec
  have hb := B.bytes
  have hr := B.returns
  have hts := atoms_spec (ws := Cond.code yX12_bitsOf cX12_bitsOf 3 (some .int) :: wA) B.pre
  have hwd : ∀ w ∈ wA, w.before _ s = true := fun w h => hts w (List.mem_cons_of_mem _ h)
  have hown : s.vm.findClass RX12 = some m.cls := findClass_of_methodNamed B.named
  have hlocks := B.notSynchronized
  subst hsz
  have hl := lv_entry ([.int p0]) (n := 3) (Nat.le_of_ble_eq_true rfl)
  rw [lg_entry_eq]
  generalize (lg_sl ([.int p0]) ++ List.replicate (3 - (lg_sl ([.int p0])).length) Slot.unset).toArray = ls at hl ⊢
  have hl : lv_has ls 3 [(0, .int p0)] := hl
  obtain ⟨H, eH⟩ : ∃ z, z = s.heap := ⟨_, rfl⟩
  have hP : va_P (dC, dI) classes (wM g c v F rc) H := by rw [eH]; exact hP
  have hS : va_S (AM g s.heap.size) s.heap H [] := by rw [eH]; exact va_S.rf
  refine my_heap eH ?_
  have rp0 := i32_rng p0
  refine lv_iconst (v := 0) hx hb dX12_bitsOf_0 (by decide) ?_
  refine lv_istore_n (lv' := [(1, .int 0), (0, .int p0)]) hx hb dX12_bitsOf_1 rfl hl (by decide) rfl (fun ls hl => ?_)
  refine lv_iload_n hx hb dX12_bitsOf_2 rfl (lv_at hl 1 rfl) ?_
  refine lv_istore_n (lv' := [(2, .int p0), (1, .int 0), (0, .int p0)]) hx hb dX12_bitsOf_3 rfl hl (by decide) rfl (fun ls hl => ?_)
  have lp4623 : ∀ (n : Nat) (x2_lp4623 : Int32) (x1_lp4623 : Int32) (H : Heap) (locs : List Loc) (ls : Array Slot), ((x2_lp4623.toBitVec.toNat : Int) + 1 ≤ (n : Int)) → va_P (dC, dI) classes (wM g c v F rc) H → va_S (AM g s.heap.size) s.heap H locs → lv_has ls 3 [(2, .int x2_lp4623), (1, .int x1_lp4623), (0, .int p0)] → W p l e (headSpec (Cond.code yX12_bitsOf cX12_bitsOf 3 (some .int) :: wA) ({ frames := 1, cells := 0, slots := 0, locals := 40 })).room s m ([.int p0] : List Value).toArray below meth c0 H locs 0 0 (MQ below (va_Qi (fun (r : Int32) (u : Unit) => True) (fun (_ : Unit) => BM dC dI g c (v, F, rc)) (AM g s.heap.size)) ([.int p0] : List Value).toArray s 0 0 (AM g s.heap.size)) (F0 m 4 ls []) := by
    intro n
    induction n with
    | zero =>
      intro x2_lp4623 x1_lp4623 H locs ls hm hP hS hl
      exfalso
      have := i32_rng x2_lp4623
      have := i32_rng x1_lp4623
      omega
    | succ n ih_lp4623 =>
      intro x2_lp4623 x1_lp4623 H locs ls hm hP hS hl
      have rx2_lp4623 := i32_rng x2_lp4623
      have rx1_lp4623 := i32_rng x1_lp4623
      refine lv_iload_n hx hb dX12_bitsOf_4 rfl (lv_at hl 0 rfl) ?_
      refine lv_if_eq (tgt := 20) hx hb dX12_bitsOf_5 (by decide) (fun c4624 => ?_) (fun c4624 => ?_)
      · skip
        have t4625 := cv_eq (a := x2_lp4623.toInt) rfl (b := 0) (by decide) c4624
        refine lv_iload_n hx hb dX12_bitsOf_20 rfl (lv_at hl 1 rfl) ?_
        have hP9 : va_P (dC, dI) classes (wM g c v F rc) H := hP
        exact W.iret (v := x1_lp4623) hx hb hr (fun t ht hW => ⟨⟨x1_lp4623, (), rfl, trivial, (by show va_P _ _ _ t.heap; rw [ht]; exact hP9)⟩, hS.F ht⟩) hS.2.2 dX12_bitsOf_21
      · skip
        have t4626 := cv_ne (a := x2_lp4623.toInt) rfl (b := 0) (by decide) c4624
        obtain ⟨z4627, e4628⟩ : ∃ y : Int32, y = x1_lp4623 + 1 := ⟨_, rfl⟩
        try (have t4629 := tadd e4628 rfl (b := 1) (by decide) (by omega))
        refine lv_iinc (v := z4627) (lv' := [(1, .int z4627), (2, .int x2_lp4623), (0, .int p0)]) hx hb dX12_bitsOf_8 hl (k := 1) rfl (by rw [e4628]; rfl) (by decide) rfl (fun ls hl => ?_)
        refine lv_iload_n hx hb dX12_bitsOf_11 rfl (lv_at hl 1 rfl) ?_
        refine lv_iload_n hx hb dX12_bitsOf_12 rfl (lv_at hl 1 rfl) ?_
        refine lv_iconst (v := 1) hx hb dX12_bitsOf_13 (by decide) ?_
        refine lv_isub hx hb dX12_bitsOf_14 ?_
        refine lv_topi (fun z4630 e4631 => ?_)
        try (have t4632 := tsub e4631 (a := x2_lp4623.toInt) rfl (b := 1) (by decide) (by omega))
        refine lv_iand hx hb dX12_bitsOf_15 ?_
        refine lv_topi (fun z4633 e4634 => ?_)
        have tbz4633 := band e4634 e4631 (by omega)
        refine lv_istore_n (lv' := [(2, .int z4633), (1, .int z4627), (0, .int p0)]) hx hb dX12_bitsOf_16 rfl hl (by decide) rfl (fun ls hl => ?_)
        refine lv_goto (tgt := 4) hx hb dX12_bitsOf_17 (by decide) ?_
        exact ih_lp4623 z4633 z4627  _ _ _  (by omega) hP hS (lv_sub hl [0, 1, 2] rfl)
  obtain ⟨n9, hn9⟩ : ∃ n : Nat, (p0.toBitVec.toNat : Int) + 1 ≤ (n : Int) := ⟨(((p0.toBitVec.toNat : Int) + 1 : Int)).toNat, by omega⟩
  exact lp4623 n9 p0 0  H _ ls  (by have : (0 : Int32).toInt = 0 := (by decide); omega) hP hS hl
