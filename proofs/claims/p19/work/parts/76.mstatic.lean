set_option maxHeartbeats 8000000 in
set_option maxRecDepth 100000 in
theorem c_X12_in (l : Launch) (dC : Nat → ClassId) (dI : Nat → Nat → Nat) (g : Nat → Nat) (c : Nat → ClassId) (adK adV : Nat → Nat) (v : Nat → Int32) (F : Nat → Nat → Int32) (rc sz : Nat) (p0 : Int32) (p1 : Int32) (p2 : Int32) (hg : injM g) (hI : IM v F) : Met l yX12_in (Cond.code yX12_in cX12_in 3 (some .boolean) :: wA) ({ frames := 1, cells := 0, slots := 0, locals := 40 }) (va_Pc [.int p0, .int p1, .int p2] (PM dC dI g c adK adV v F rc sz)) (va_Qi (fun (r : Int32) (u : Unit) => (r.toInt = 1 ∧ p1.toInt ≤ p0.toInt ∧ p0.toInt ≤ p2.toInt) ∨ (r.toInt = 0 ∧ (p0.toInt < p1.toInt ∨ p2.toInt < p0.toInt))) (fun (_ : Unit) => BM dC dI g c (v, F, rc)) (AM g sz)) 0 0 (AM g sz) := by
  refine Met.ofW (cc := cX12_in) (maxL := 3) (ret := (some .boolean)) (by decide) rfl ?_
  intro p e s m args below meth c0 s₁ B hml hv
  obtain ⟨rfl, hsz, hP, hK, hE⟩ := hv
  have hx := B.exec
  have hb := B.bytes
  have hr := B.returns
  have hts := atoms_spec (ws := Cond.code yX12_in cX12_in 3 (some .boolean) :: wA) B.pre
  have hwd : ∀ w ∈ wA, w.before _ s = true := fun w h => hts w (List.mem_cons_of_mem _ h)
  have hown : s.vm.findClass RX12 = some m.cls := findClass_of_methodNamed B.named
  have hlocks := B.notSynchronized
  subst hsz
  have hl := lv_entry ([.int p0, .int p1, .int p2]) (n := 3) (Nat.le_of_ble_eq_true rfl)
  rw [lg_entry_eq]
  generalize (lg_sl ([.int p0, .int p1, .int p2]) ++ List.replicate (3 - (lg_sl ([.int p0, .int p1, .int p2])).length) Slot.unset).toArray = ls at hl ⊢
  have hl : lv_has ls 3 [(0, .int p0), (1, .int p1), (2, .int p2)] := hl
  obtain ⟨H, eH⟩ : ∃ z, z = s.heap := ⟨_, rfl⟩
  have hP : va_P (dC, dI) classes (wM g c v F rc) H := by rw [eH]; exact hP
  have hS : va_S (AM g s.heap.size) s.heap H [] := by rw [eH]; exact va_S.rf
  refine my_heap eH ?_
  have rp0 := i32_rng p0
  have rp1 := i32_rng p1
  have rp2 := i32_rng p2
  refine lv_iload_n hx hb dX12_in_0 rfl (lv_at hl 0 rfl) ?_
  refine lv_iload_n hx hb dX12_in_1 rfl (lv_at hl 1 rfl) ?_
  refine lv_icmp_lt (tgt := 14) hx hb dX12_in_2 (by decide) (fun c4614 => ?_) (fun c4614 => ?_)
  · skip
    have t4615 := cv_lt (a := p0.toInt) rfl (b := p1.toInt) rfl c4614
    refine lv_iconst (v := 0) hx hb dX12_in_14 (by decide) ?_
    have hP9 : va_P (dC, dI) classes (wM g c v F rc) H := hP
    exact W.zret (v := 0) hx hb hr (rfl) (fun t ht hW => ⟨⟨0, (), rfl, by have : (0 : Int32).toInt = 0 := (by decide); omega, (by show va_P _ _ _ t.heap; rw [ht]; exact hP9)⟩, hS.F ht⟩) hS.2.2 dX12_in_15
  · skip
    have t4616 := cv_nlt (a := p0.toInt) rfl (b := p1.toInt) rfl c4614
    refine lv_iload_n hx hb dX12_in_5 rfl (lv_at hl 0 rfl) ?_
    refine lv_iload_n hx hb dX12_in_6 rfl (lv_at hl 2 rfl) ?_
    refine lv_icmp_gt (tgt := 14) hx hb dX12_in_7 (by decide) (fun c4617 => ?_) (fun c4617 => ?_)
    · skip
      have t4618 := cv_lt (a := p2.toInt) rfl (b := p0.toInt) rfl c4617
      refine lv_iconst (v := 0) hx hb dX12_in_14 (by decide) ?_
      have hP9 : va_P (dC, dI) classes (wM g c v F rc) H := hP
      exact W.zret (v := 0) hx hb hr (rfl) (fun t ht hW => ⟨⟨0, (), rfl, by have : (0 : Int32).toInt = 0 := (by decide); omega, (by show va_P _ _ _ t.heap; rw [ht]; exact hP9)⟩, hS.F ht⟩) hS.2.2 dX12_in_15
    · skip
      have t4619 := cv_nlt (a := p2.toInt) rfl (b := p0.toInt) rfl c4617
      refine lv_iconst (v := 1) hx hb dX12_in_10 (by decide) ?_
      refine lv_goto (tgt := 15) hx hb dX12_in_11 (by decide) ?_
      have hP9 : va_P (dC, dI) classes (wM g c v F rc) H := hP
      exact W.zret (v := 1) hx hb hr (rfl) (fun t ht hW => ⟨⟨1, (), rfl, by have : (1 : Int32).toInt = 1 := (by decide); omega, (by show va_P _ _ _ t.heap; rw [ht]; exact hP9)⟩, hS.F ht⟩) hS.2.2 dX12_in_15
set_option maxHeartbeats 8000000 in
set_option maxRecDepth 100000 in
theorem c_X12_isDay (l : Launch) (dC : Nat → ClassId) (dI : Nat → Nat → Nat) (g : Nat → Nat) (c : Nat → ClassId) (adK adV : Nat → Nat) (v : Nat → Int32) (F : Nat → Nat → Int32) (rc sz : Nat) (p0 : Int32) (hg : injM g) (hI : IM v F) : Met l yX12_isDay (Cond.code yX12_isDay cX12_isDay 1 (some .boolean) :: wA) ({ frames := 2, cells := 0, slots := 0, locals := 80 }) (va_Pc [.int p0] (PM dC dI g c adK adV v F rc sz)) (va_Qi (fun (r : Int32) (u : Unit) => (r.toInt = 1 ∧ 0 ≤ p0.toInt ∧ p0.toInt ≤ 9999) ∨ (r.toInt = 0 ∧ (p0.toInt < 0 ∨ 9999 < p0.toInt))) (fun (_ : Unit) => BM dC dI g c (v, F, rc)) (AM g sz)) 0 0 (AM g sz) := by
  refine Met.ofW (cc := cX12_isDay) (maxL := 1) (ret := (some .boolean)) (by decide) rfl ?_
  intro p e s m args below meth c0 s₁ B hml hv
  obtain ⟨rfl, hsz, hP, hK, hE⟩ := hv
  have hx := B.exec
  have hb := B.bytes
  have hr := B.returns
  have hts := atoms_spec (ws := Cond.code yX12_isDay cX12_isDay 1 (some .boolean) :: wA) B.pre
  have hwd : ∀ w ∈ wA, w.before _ s = true := fun w h => hts w (List.mem_cons_of_mem _ h)
  have hown : s.vm.findClass RX12 = some m.cls := findClass_of_methodNamed B.named
  have hlocks := B.notSynchronized
  subst hsz
  have hl := lv_entry ([.int p0]) (n := 1) (Nat.le_of_ble_eq_true rfl)
  rw [lg_entry_eq]
  generalize (lg_sl ([.int p0]) ++ List.replicate (1 - (lg_sl ([.int p0])).length) Slot.unset).toArray = ls at hl ⊢
  have hl : lv_has ls 1 [(0, .int p0)] := hl
  obtain ⟨H, eH⟩ : ∃ z, z = s.heap := ⟨_, rfl⟩
  have hP : va_P (dC, dI) classes (wM g c v F rc) H := by rw [eH]; exact hP
  have hS : va_S (AM g s.heap.size) s.heap H [] := by rw [eH]; exact va_S.rf
  refine my_heap eH ?_
  have rp0 := i32_rng p0
  refine lv_iload_n hx hb dX12_isDay_0 rfl (lv_at hl 0 rfl) ?_
  refine lv_iconst (v := 0) hx hb dX12_isDay_1 (by decide) ?_
  refine lv_sipush (v := 9999) hx hb dX12_isDay_2 (by decide) ?_
  refine va_calli (va_runS (As := [.int p0, .int 0, .int 9999]) (rest := []) ⟨hx, hb, hml, hown, hwd⟩ (c_X12_in l dC dI g c adK adV v F rc H.size p0 0 9999 hg hI ) (va_cwS 3 hwd (gT wk_254 wk_252 wk_253 wk_5) rfl rfl rfl (by decide +kernel) ⟨Nat.le_of_ble_eq_true rfl, Nat.le_of_ble_eq_true rfl⟩) ⟨PM.blind, fun U hU hW => ⟨rfl, PM.at hK hE hP hS hU hW⟩⟩ rfl rfl hl.1 rfl (lv_room (Nat.le_of_ble_eq_true rfl)) dX12_isDay_5 ⟨Nat.le_of_ble_eq_true rfl, Nat.le_of_ble_eq_true rfl⟩) hS (fun q _ h => (freeM hS) q h) (freeM hS) (fun r4620 u t H1 locs ht hvm hw hB hz1 hk1 hS => ?_)
  unfold BM at hB
  rw [ht] at hB
  have hP : va_P (dC, dI) classes (wM g c v F rc) H1 := hB
  have hw_r4620 : (r4620.toInt = 1 ∧ (0 : Int32).toInt ≤ p0.toInt ∧ p0.toInt ≤ (9999 : Int32).toInt) ∨ (r4620.toInt = 0 ∧ (p0.toInt < (0 : Int32).toInt ∨ (9999 : Int32).toInt < p0.toInt)) := hw
  clear hw
  have k4621 : (0 : Int32).toInt = 0 := by decide
  have k4622 : (9999 : Int32).toInt = 9999 := by decide
  clear hz1
  generalize H1 = H at hP hS ⊢
  have hP9 : va_P (dC, dI) classes (wM g c v F rc) H := hP
  exact W.zret (v := r4620) hx hb hr (narB (by omega)) (fun t ht hW => ⟨⟨r4620, (), rfl, by omega, (by show va_P _ _ _ t.heap; rw [ht]; exact hP9)⟩, hS.F ht⟩) hS.2.2 dX12_isDay_8
set_option maxHeartbeats 8000000 in
set_option maxRecDepth 100000 in
theorem c_X12_held (l : Launch) (dC : Nat → ClassId) (dI : Nat → Nat → Nat) (g : Nat → Nat) (c : Nat → ClassId) (adK adV : Nat → Nat) (v : Nat → Int32) (F : Nat → Nat → Int32) (rc sz : Nat) (p0 : Int64) (hg : injM g) (hI : IM v F) : Met l yX12_held (Cond.code yX12_held cX12_held 2 (some .int) :: wA) ({ frames := 1, cells := 0, slots := 0, locals := 40 }) (va_Pc [.long p0] (PM dC dI g c adK adV v F rc sz)) (va_Qi (fun (r : Int32) (u : Unit) => True) (fun (_ : Unit) => BM dC dI g c (v, F, rc)) (AM g sz)) 0 0 (AM g sz) := by
  refine Met.ofW (cc := cX12_held) (maxL := 2) (ret := (some .int)) (by decide) rfl ?_
  intro p e s m args below meth c0 s₁ B hml hv
  obtain ⟨rfl, hsz, hP, hK, hE⟩ := hv
  have hx := B.exec
  have hb := B.bytes
  have hr := B.returns
  have hts := atoms_spec (ws := Cond.code yX12_held cX12_held 2 (some .int) :: wA) B.pre
  have hwd : ∀ w ∈ wA, w.before _ s = true := fun w h => hts w (List.mem_cons_of_mem _ h)
  have hown : s.vm.findClass RX12 = some m.cls := findClass_of_methodNamed B.named
  have hlocks := B.notSynchronized
  subst hsz
  have hl := lv_entry ([.long p0]) (n := 2) (Nat.le_of_ble_eq_true rfl)
  rw [lg_entry_eq]
  generalize (lg_sl ([.long p0]) ++ List.replicate (2 - (lg_sl ([.long p0])).length) Slot.unset).toArray = ls at hl ⊢
  have hl : lv_has ls 2 [(0, .long p0)] := hl
  obtain ⟨H, eH⟩ : ∃ z, z = s.heap := ⟨_, rfl⟩
  have hP : va_P (dC, dI) classes (wM g c v F rc) H := by rw [eH]; exact hP
  have hS : va_S (AM g s.heap.size) s.heap H [] := by rw [eH]; exact va_S.rf
  refine my_heap eH ?_
  refine lv_lload_n hx hb dX12_held_0 rfl (lv_at hl 0 rfl) ?_
  refine lv_ldc2 (v := 2000000000) hx hb hown (hwd _ wk_524) dX12_held_1 ?_
  refine W.lcmp hx hb dX12_held_4 ?_
  refine lv_topi (fun z4623 e4624 => ?_)
  refine lv_if_le (tgt := 13) hx hb dX12_held_5 (by decide) (fun c4625 => ?_) (fun c4625 => ?_)
  · skip
    have t4626 := cv_le (a := z4623.toInt) rfl (b := 0) (by decide) c4625
    refine lv_lload_n hx hb dX12_held_13 rfl (lv_at hl 0 rfl) ?_
    refine lv_l2i hx hb dX12_held_14 rfl ?_
    refine lv_topi (fun z4627 e4628 => ?_)
    have hP9 : va_P (dC, dI) classes (wM g c v F rc) H := hP
    exact W.iret (v := z4627) hx hb hr (fun t ht hW => ⟨⟨z4627, (), rfl, trivial, (by show va_P _ _ _ t.heap; rw [ht]; exact hP9)⟩, hS.F ht⟩) hS.2.2 dX12_held_15
  · skip
    have t4629 := cv_nle (a := z4623.toInt) rfl (b := 0) (by decide) c4625
    refine lv_ldc (v := 2000000000) hx hb hown (hwd _ wk_525) dX12_held_8 ?_
    refine lv_goto (tgt := 15) hx hb dX12_held_10 (by decide) ?_
    have hP9 : va_P (dC, dI) classes (wM g c v F rc) H := hP
    exact W.iret (v := 2000000000) hx hb hr (fun t ht hW => ⟨⟨2000000000, (), rfl, trivial, (by show va_P _ _ _ t.heap; rw [ht]; exact hP9)⟩, hS.F ht⟩) hS.2.2 dX12_held_15
set_option maxHeartbeats 8000000 in
set_option maxRecDepth 100000 in
theorem c_X12_nameOf (l : Launch) (dC : Nat → ClassId) (dI : Nat → Nat → Nat) (g : Nat → Nat) (c : Nat → ClassId) (adK adV : Nat → Nat) (v : Nat → Int32) (F : Nat → Nat → Int32) (rc sz : Nat) (p0 : Int32) (hg : injM g) (hI : IM v F) : Met l yX12_nameOf (Cond.code yX12_nameOf cX12_nameOf 1 (some .int) :: wA) ({ frames := 1, cells := 0, slots := 0, locals := 40 }) (va_Pc [.int p0] (PM dC dI g c adK adV v F rc sz)) (va_Qi (fun (r : Int32) (u : Unit) => r.toInt = nmM p0 ∧ (-1 ≤ r.toInt ∧ r.toInt ≤ 5)) (fun (_ : Unit) => BM dC dI g c (v, F, rc)) (AM g sz)) 0 0 (AM g sz) := by
  refine Met.ofW (cc := cX12_nameOf) (maxL := 1) (ret := (some .int)) (by decide) rfl ?_
  intro p e s m args below meth c0 s₁ B hml hv
  obtain ⟨rfl, hsz, hP, hK, hE⟩ := hv
  have hx := B.exec
  have hb := B.bytes
  have hr := B.returns
  have hts := atoms_spec (ws := Cond.code yX12_nameOf cX12_nameOf 1 (some .int) :: wA) B.pre
  have hwd : ∀ w ∈ wA, w.before _ s = true := fun w h => hts w (List.mem_cons_of_mem _ h)
  have hown : s.vm.findClass RX12 = some m.cls := findClass_of_methodNamed B.named
  have hlocks := B.notSynchronized
  subst hsz
  have hl := lv_entry ([.int p0]) (n := 1) (Nat.le_of_ble_eq_true rfl)
  rw [lg_entry_eq]
  generalize (lg_sl ([.int p0]) ++ List.replicate (1 - (lg_sl ([.int p0])).length) Slot.unset).toArray = ls at hl ⊢
  have hl : lv_has ls 1 [(0, .int p0)] := hl
  obtain ⟨H, eH⟩ : ∃ z, z = s.heap := ⟨_, rfl⟩
  have hP : va_P (dC, dI) classes (wM g c v F rc) H := by rw [eH]; exact hP
  have hS : va_S (AM g s.heap.size) s.heap H [] := by rw [eH]; exact va_S.rf
  refine my_heap eH ?_
  have rp0 := i32_rng p0
  refine lv_iload_n hx hb dX12_nameOf_0 rfl (lv_at hl 0 rfl) ?_
  by_cases hlo4630 : p0.toInt < 100
  · refine lv_tableOut (tgt := 108) hx hb dX12_nameOf_1 (Or.inl hlo4630) (by decide) ?_
    refine lv_iconst (v := (-1)) hx hb dX12_nameOf_108 (by decide) ?_
    have hP9 : va_P (dC, dI) classes (wM g c v F rc) H := hP
    exact W.iret (v := (-1)) hx hb hr (fun t ht hW => ⟨⟨(-1), (), rfl, (by have : ((-1) : Int32).toInt = (-1) := (by decide); refine ⟨?_, by omega⟩; unfold nmM; (repeat' split) <;> omega), (by show va_P _ _ _ t.heap; rw [ht]; exact hP9)⟩, hS.F ht⟩) hS.2.2 dX12_nameOf_109
  by_cases hhi4631 : 119 < p0.toInt
  · refine lv_tableOut (tgt := 108) hx hb dX12_nameOf_1 (Or.inr hhi4631) (by decide) ?_
    refine lv_iconst (v := (-1)) hx hb dX12_nameOf_108 (by decide) ?_
    have hP9 : va_P (dC, dI) classes (wM g c v F rc) H := hP
    exact W.iret (v := (-1)) hx hb hr (fun t ht hW => ⟨⟨(-1), (), rfl, (by have : ((-1) : Int32).toInt = (-1) := (by decide); refine ⟨?_, by omega⟩; unfold nmM; (repeat' split) <;> omega), (by show va_P _ _ _ t.heap; rw [ht]; exact hP9)⟩, hS.F ht⟩) hS.2.2 dX12_nameOf_109
  rcases (show p0.toInt = 100 ∨ p0.toInt = 101 ∨ p0.toInt = 102 ∨ p0.toInt = 103 ∨ p0.toInt = 104 ∨ p0.toInt = 105 ∨ p0.toInt = 106 ∨ p0.toInt = 107 ∨ p0.toInt = 108 ∨ p0.toInt = 109 ∨ p0.toInt = 110 ∨ p0.toInt = 111 ∨ p0.toInt = 112 ∨ p0.toInt = 113 ∨ p0.toInt = 114 ∨ p0.toInt = 115 ∨ p0.toInt = 116 ∨ p0.toInt = 117 ∨ p0.toInt = 118 ∨ p0.toInt = 119 by omega) with hk | hk | hk | hk | hk | hk | hk | hk | hk | hk | hk | hk | hk | hk | hk | hk | hk | hk | hk | hk
  · refine lv_tableIn (off := 95) (tgt := 96) hx hb dX12_nameOf_1 hlo4630 hhi4631 (by rw [hk]; decide) (by decide) ?_
    refine lv_iconst (v := 0) hx hb dX12_nameOf_96 (by decide) ?_
    have hP9 : va_P (dC, dI) classes (wM g c v F rc) H := hP
    exact W.iret (v := 0) hx hb hr (fun t ht hW => ⟨⟨0, (), rfl, (by have : (0 : Int32).toInt = 0 := (by decide); refine ⟨?_, by omega⟩; unfold nmM; (repeat' split) <;> omega), (by show va_P _ _ _ t.heap; rw [ht]; exact hP9)⟩, hS.F ht⟩) hS.2.2 dX12_nameOf_97
  · refine lv_tableIn (off := 107) (tgt := 108) hx hb dX12_nameOf_1 hlo4630 hhi4631 (by rw [hk]; decide) (by decide) ?_
    refine lv_iconst (v := (-1)) hx hb dX12_nameOf_108 (by decide) ?_
    have hP9 : va_P (dC, dI) classes (wM g c v F rc) H := hP
    exact W.iret (v := (-1)) hx hb hr (fun t ht hW => ⟨⟨(-1), (), rfl, (by have : ((-1) : Int32).toInt = (-1) := (by decide); refine ⟨?_, by omega⟩; unfold nmM; (repeat' split) <;> omega), (by show va_P _ _ _ t.heap; rw [ht]; exact hP9)⟩, hS.F ht⟩) hS.2.2 dX12_nameOf_109
  · refine lv_tableIn (off := 107) (tgt := 108) hx hb dX12_nameOf_1 hlo4630 hhi4631 (by rw [hk]; decide) (by decide) ?_
    refine lv_iconst (v := (-1)) hx hb dX12_nameOf_108 (by decide) ?_
    have hP9 : va_P (dC, dI) classes (wM g c v F rc) H := hP
    exact W.iret (v := (-1)) hx hb hr (fun t ht hW => ⟨⟨(-1), (), rfl, (by have : ((-1) : Int32).toInt = (-1) := (by decide); refine ⟨?_, by omega⟩; unfold nmM; (repeat' split) <;> omega), (by show va_P _ _ _ t.heap; rw [ht]; exact hP9)⟩, hS.F ht⟩) hS.2.2 dX12_nameOf_109
  · refine lv_tableIn (off := 107) (tgt := 108) hx hb dX12_nameOf_1 hlo4630 hhi4631 (by rw [hk]; decide) (by decide) ?_
    refine lv_iconst (v := (-1)) hx hb dX12_nameOf_108 (by decide) ?_
    have hP9 : va_P (dC, dI) classes (wM g c v F rc) H := hP
    exact W.iret (v := (-1)) hx hb hr (fun t ht hW => ⟨⟨(-1), (), rfl, (by have : ((-1) : Int32).toInt = (-1) := (by decide); refine ⟨?_, by omega⟩; unfold nmM; (repeat' split) <;> omega), (by show va_P _ _ _ t.heap; rw [ht]; exact hP9)⟩, hS.F ht⟩) hS.2.2 dX12_nameOf_109
  · refine lv_tableIn (off := 97) (tgt := 98) hx hb dX12_nameOf_1 hlo4630 hhi4631 (by rw [hk]; decide) (by decide) ?_
    refine lv_iconst (v := 1) hx hb dX12_nameOf_98 (by decide) ?_
    have hP9 : va_P (dC, dI) classes (wM g c v F rc) H := hP
    exact W.iret (v := 1) hx hb hr (fun t ht hW => ⟨⟨1, (), rfl, (by have : (1 : Int32).toInt = 1 := (by decide); refine ⟨?_, by omega⟩; unfold nmM; (repeat' split) <;> omega), (by show va_P _ _ _ t.heap; rw [ht]; exact hP9)⟩, hS.F ht⟩) hS.2.2 dX12_nameOf_99
  · refine lv_tableIn (off := 107) (tgt := 108) hx hb dX12_nameOf_1 hlo4630 hhi4631 (by rw [hk]; decide) (by decide) ?_
    refine lv_iconst (v := (-1)) hx hb dX12_nameOf_108 (by decide) ?_
    have hP9 : va_P (dC, dI) classes (wM g c v F rc) H := hP
    exact W.iret (v := (-1)) hx hb hr (fun t ht hW => ⟨⟨(-1), (), rfl, (by have : ((-1) : Int32).toInt = (-1) := (by decide); refine ⟨?_, by omega⟩; unfold nmM; (repeat' split) <;> omega), (by show va_P _ _ _ t.heap; rw [ht]; exact hP9)⟩, hS.F ht⟩) hS.2.2 dX12_nameOf_109
  · refine lv_tableIn (off := 107) (tgt := 108) hx hb dX12_nameOf_1 hlo4630 hhi4631 (by rw [hk]; decide) (by decide) ?_
    refine lv_iconst (v := (-1)) hx hb dX12_nameOf_108 (by decide) ?_
    have hP9 : va_P (dC, dI) classes (wM g c v F rc) H := hP
    exact W.iret (v := (-1)) hx hb hr (fun t ht hW => ⟨⟨(-1), (), rfl, (by have : ((-1) : Int32).toInt = (-1) := (by decide); refine ⟨?_, by omega⟩; unfold nmM; (repeat' split) <;> omega), (by show va_P _ _ _ t.heap; rw [ht]; exact hP9)⟩, hS.F ht⟩) hS.2.2 dX12_nameOf_109
  · refine lv_tableIn (off := 103) (tgt := 104) hx hb dX12_nameOf_1 hlo4630 hhi4631 (by rw [hk]; decide) (by decide) ?_
    refine lv_iconst (v := 4) hx hb dX12_nameOf_104 (by decide) ?_
    have hP9 : va_P (dC, dI) classes (wM g c v F rc) H := hP
    exact W.iret (v := 4) hx hb hr (fun t ht hW => ⟨⟨4, (), rfl, (by have : (4 : Int32).toInt = 4 := (by decide); refine ⟨?_, by omega⟩; unfold nmM; (repeat' split) <;> omega), (by show va_P _ _ _ t.heap; rw [ht]; exact hP9)⟩, hS.F ht⟩) hS.2.2 dX12_nameOf_105
  · refine lv_tableIn (off := 99) (tgt := 100) hx hb dX12_nameOf_1 hlo4630 hhi4631 (by rw [hk]; decide) (by decide) ?_
    refine lv_iconst (v := 2) hx hb dX12_nameOf_100 (by decide) ?_
    have hP9 : va_P (dC, dI) classes (wM g c v F rc) H := hP
    exact W.iret (v := 2) hx hb hr (fun t ht hW => ⟨⟨2, (), rfl, (by have : (2 : Int32).toInt = 2 := (by decide); refine ⟨?_, by omega⟩; unfold nmM; (repeat' split) <;> omega), (by show va_P _ _ _ t.heap; rw [ht]; exact hP9)⟩, hS.F ht⟩) hS.2.2 dX12_nameOf_101
  · refine lv_tableIn (off := 107) (tgt := 108) hx hb dX12_nameOf_1 hlo4630 hhi4631 (by rw [hk]; decide) (by decide) ?_
    refine lv_iconst (v := (-1)) hx hb dX12_nameOf_108 (by decide) ?_
    have hP9 : va_P (dC, dI) classes (wM g c v F rc) H := hP
    exact W.iret (v := (-1)) hx hb hr (fun t ht hW => ⟨⟨(-1), (), rfl, (by have : ((-1) : Int32).toInt = (-1) := (by decide); refine ⟨?_, by omega⟩; unfold nmM; (repeat' split) <;> omega), (by show va_P _ _ _ t.heap; rw [ht]; exact hP9)⟩, hS.F ht⟩) hS.2.2 dX12_nameOf_109
  · refine lv_tableIn (off := 105) (tgt := 106) hx hb dX12_nameOf_1 hlo4630 hhi4631 (by rw [hk]; decide) (by decide) ?_
    refine lv_iconst (v := 5) hx hb dX12_nameOf_106 (by decide) ?_
    have hP9 : va_P (dC, dI) classes (wM g c v F rc) H := hP
    exact W.iret (v := 5) hx hb hr (fun t ht hW => ⟨⟨5, (), rfl, (by have : (5 : Int32).toInt = 5 := (by decide); refine ⟨?_, by omega⟩; unfold nmM; (repeat' split) <;> omega), (by show va_P _ _ _ t.heap; rw [ht]; exact hP9)⟩, hS.F ht⟩) hS.2.2 dX12_nameOf_107
  · refine lv_tableIn (off := 107) (tgt := 108) hx hb dX12_nameOf_1 hlo4630 hhi4631 (by rw [hk]; decide) (by decide) ?_
    refine lv_iconst (v := (-1)) hx hb dX12_nameOf_108 (by decide) ?_
    have hP9 : va_P (dC, dI) classes (wM g c v F rc) H := hP
    exact W.iret (v := (-1)) hx hb hr (fun t ht hW => ⟨⟨(-1), (), rfl, (by have : ((-1) : Int32).toInt = (-1) := (by decide); refine ⟨?_, by omega⟩; unfold nmM; (repeat' split) <;> omega), (by show va_P _ _ _ t.heap; rw [ht]; exact hP9)⟩, hS.F ht⟩) hS.2.2 dX12_nameOf_109
  · refine lv_tableIn (off := 107) (tgt := 108) hx hb dX12_nameOf_1 hlo4630 hhi4631 (by rw [hk]; decide) (by decide) ?_
    refine lv_iconst (v := (-1)) hx hb dX12_nameOf_108 (by decide) ?_
    have hP9 : va_P (dC, dI) classes (wM g c v F rc) H := hP
    exact W.iret (v := (-1)) hx hb hr (fun t ht hW => ⟨⟨(-1), (), rfl, (by have : ((-1) : Int32).toInt = (-1) := (by decide); refine ⟨?_, by omega⟩; unfold nmM; (repeat' split) <;> omega), (by show va_P _ _ _ t.heap; rw [ht]; exact hP9)⟩, hS.F ht⟩) hS.2.2 dX12_nameOf_109
  · refine lv_tableIn (off := 107) (tgt := 108) hx hb dX12_nameOf_1 hlo4630 hhi4631 (by rw [hk]; decide) (by decide) ?_
    refine lv_iconst (v := (-1)) hx hb dX12_nameOf_108 (by decide) ?_
    have hP9 : va_P (dC, dI) classes (wM g c v F rc) H := hP
    exact W.iret (v := (-1)) hx hb hr (fun t ht hW => ⟨⟨(-1), (), rfl, (by have : ((-1) : Int32).toInt = (-1) := (by decide); refine ⟨?_, by omega⟩; unfold nmM; (repeat' split) <;> omega), (by show va_P _ _ _ t.heap; rw [ht]; exact hP9)⟩, hS.F ht⟩) hS.2.2 dX12_nameOf_109
  · refine lv_tableIn (off := 107) (tgt := 108) hx hb dX12_nameOf_1 hlo4630 hhi4631 (by rw [hk]; decide) (by decide) ?_
    refine lv_iconst (v := (-1)) hx hb dX12_nameOf_108 (by decide) ?_
    have hP9 : va_P (dC, dI) classes (wM g c v F rc) H := hP
    exact W.iret (v := (-1)) hx hb hr (fun t ht hW => ⟨⟨(-1), (), rfl, (by have : ((-1) : Int32).toInt = (-1) := (by decide); refine ⟨?_, by omega⟩; unfold nmM; (repeat' split) <;> omega), (by show va_P _ _ _ t.heap; rw [ht]; exact hP9)⟩, hS.F ht⟩) hS.2.2 dX12_nameOf_109
  · refine lv_tableIn (off := 107) (tgt := 108) hx hb dX12_nameOf_1 hlo4630 hhi4631 (by rw [hk]; decide) (by decide) ?_
    refine lv_iconst (v := (-1)) hx hb dX12_nameOf_108 (by decide) ?_
    have hP9 : va_P (dC, dI) classes (wM g c v F rc) H := hP
    exact W.iret (v := (-1)) hx hb hr (fun t ht hW => ⟨⟨(-1), (), rfl, (by have : ((-1) : Int32).toInt = (-1) := (by decide); refine ⟨?_, by omega⟩; unfold nmM; (repeat' split) <;> omega), (by show va_P _ _ _ t.heap; rw [ht]; exact hP9)⟩, hS.F ht⟩) hS.2.2 dX12_nameOf_109
  · refine lv_tableIn (off := 107) (tgt := 108) hx hb dX12_nameOf_1 hlo4630 hhi4631 (by rw [hk]; decide) (by decide) ?_
    refine lv_iconst (v := (-1)) hx hb dX12_nameOf_108 (by decide) ?_
    have hP9 : va_P (dC, dI) classes (wM g c v F rc) H := hP
    exact W.iret (v := (-1)) hx hb hr (fun t ht hW => ⟨⟨(-1), (), rfl, (by have : ((-1) : Int32).toInt = (-1) := (by decide); refine ⟨?_, by omega⟩; unfold nmM; (repeat' split) <;> omega), (by show va_P _ _ _ t.heap; rw [ht]; exact hP9)⟩, hS.F ht⟩) hS.2.2 dX12_nameOf_109
  · refine lv_tableIn (off := 107) (tgt := 108) hx hb dX12_nameOf_1 hlo4630 hhi4631 (by rw [hk]; decide) (by decide) ?_
    refine lv_iconst (v := (-1)) hx hb dX12_nameOf_108 (by decide) ?_
    have hP9 : va_P (dC, dI) classes (wM g c v F rc) H := hP
    exact W.iret (v := (-1)) hx hb hr (fun t ht hW => ⟨⟨(-1), (), rfl, (by have : ((-1) : Int32).toInt = (-1) := (by decide); refine ⟨?_, by omega⟩; unfold nmM; (repeat' split) <;> omega), (by show va_P _ _ _ t.heap; rw [ht]; exact hP9)⟩, hS.F ht⟩) hS.2.2 dX12_nameOf_109
  · refine lv_tableIn (off := 107) (tgt := 108) hx hb dX12_nameOf_1 hlo4630 hhi4631 (by rw [hk]; decide) (by decide) ?_
    refine lv_iconst (v := (-1)) hx hb dX12_nameOf_108 (by decide) ?_
    have hP9 : va_P (dC, dI) classes (wM g c v F rc) H := hP
    exact W.iret (v := (-1)) hx hb hr (fun t ht hW => ⟨⟨(-1), (), rfl, (by have : ((-1) : Int32).toInt = (-1) := (by decide); refine ⟨?_, by omega⟩; unfold nmM; (repeat' split) <;> omega), (by show va_P _ _ _ t.heap; rw [ht]; exact hP9)⟩, hS.F ht⟩) hS.2.2 dX12_nameOf_109
  · refine lv_tableIn (off := 101) (tgt := 102) hx hb dX12_nameOf_1 hlo4630 hhi4631 (by rw [hk]; decide) (by decide) ?_
    refine lv_iconst (v := 3) hx hb dX12_nameOf_102 (by decide) ?_
    have hP9 : va_P (dC, dI) classes (wM g c v F rc) H := hP
    exact W.iret (v := 3) hx hb hr (fun t ht hW => ⟨⟨3, (), rfl, (by have : (3 : Int32).toInt = 3 := (by decide); refine ⟨?_, by omega⟩; unfold nmM; (repeat' split) <;> omega), (by show va_P _ _ _ t.heap; rw [ht]; exact hP9)⟩, hS.F ht⟩) hS.2.2 dX12_nameOf_103
set_option maxHeartbeats 8000000 in
set_option maxRecDepth 100000 in
theorem c_X12_numbersOf (l : Launch) (dC : Nat → ClassId) (dI : Nat → Nat → Nat) (g : Nat → Nat) (c : Nat → ClassId) (adK adV : Nat → Nat) (v : Nat → Int32) (F : Nat → Nat → Int32) (rc sz : Nat) (p0 : Int32) (hg : injM g) (hI : IM v F) : Met l yX12_numbersOf (Cond.code yX12_numbersOf cX12_numbersOf 1 (some .int) :: wA) ({ frames := 1, cells := 0, slots := 0, locals := 40 }) (va_Pc [.int p0] (PM dC dI g c adK adV v F rc sz)) (va_Qi (fun (r : Int32) (u : Unit) => (nnL p0.toInt : Int) = r.toInt ∧ (0 ≤ r.toInt ∧ r.toInt ≤ 3) ∧ (r.toInt = 0 ∨ 100 ≤ p0.toInt)) (fun (_ : Unit) => BM dC dI g c (v, F, rc)) (AM g sz)) 0 0 (AM g sz) := by
  refine Met.ofW (cc := cX12_numbersOf) (maxL := 1) (ret := (some .int)) (by decide) rfl ?_
  intro p e s m args below meth c0 s₁ B hml hv
  obtain ⟨rfl, hsz, hP, hK, hE⟩ := hv
  have hx := B.exec
  have hb := B.bytes
  have hr := B.returns
  have hts := atoms_spec (ws := Cond.code yX12_numbersOf cX12_numbersOf 1 (some .int) :: wA) B.pre
  have hwd : ∀ w ∈ wA, w.before _ s = true := fun w h => hts w (List.mem_cons_of_mem _ h)
  have hown : s.vm.findClass RX12 = some m.cls := findClass_of_methodNamed B.named
  have hlocks := B.notSynchronized
  subst hsz
  have hl := lv_entry ([.int p0]) (n := 1) (Nat.le_of_ble_eq_true rfl)
  rw [lg_entry_eq]
  generalize (lg_sl ([.int p0]) ++ List.replicate (1 - (lg_sl ([.int p0])).length) Slot.unset).toArray = ls at hl ⊢
  have hl : lv_has ls 1 [(0, .int p0)] := hl
  obtain ⟨H, eH⟩ : ∃ z, z = s.heap := ⟨_, rfl⟩
  have hP : va_P (dC, dI) classes (wM g c v F rc) H := by rw [eH]; exact hP
  have hS : va_S (AM g s.heap.size) s.heap H [] := by rw [eH]; exact va_S.rf
  refine my_heap eH ?_
  have rp0 := i32_rng p0
  refine lv_iload_n hx hb dX12_numbersOf_0 rfl (lv_at hl 0 rfl) ?_
  by_cases hlo4632 : p0.toInt < 100
  · refine lv_tableOut (tgt := 90) hx hb dX12_numbersOf_1 (Or.inl hlo4632) (by decide) ?_
    refine lv_iconst (v := 0) hx hb dX12_numbersOf_90 (by decide) ?_
    have hP9 : va_P (dC, dI) classes (wM g c v F rc) H := hP
    exact W.iret (v := 0) hx hb hr (fun t ht hW => ⟨⟨0, (), rfl, (by have : (0 : Int32).toInt = 0 := (by decide); exact ⟨nnL_of (by omega), by omega, by omega⟩), (by show va_P _ _ _ t.heap; rw [ht]; exact hP9)⟩, hS.F ht⟩) hS.2.2 dX12_numbersOf_91
  by_cases hhi4633 : 116 < p0.toInt
  · refine lv_tableOut (tgt := 90) hx hb dX12_numbersOf_1 (Or.inr hhi4633) (by decide) ?_
    refine lv_iconst (v := 0) hx hb dX12_numbersOf_90 (by decide) ?_
    have hP9 : va_P (dC, dI) classes (wM g c v F rc) H := hP
    exact W.iret (v := 0) hx hb hr (fun t ht hW => ⟨⟨0, (), rfl, (by have : (0 : Int32).toInt = 0 := (by decide); exact ⟨nnL_of (by omega), by omega, by omega⟩), (by show va_P _ _ _ t.heap; rw [ht]; exact hP9)⟩, hS.F ht⟩) hS.2.2 dX12_numbersOf_91
  rcases (show p0.toInt = 100 ∨ p0.toInt = 101 ∨ p0.toInt = 102 ∨ p0.toInt = 103 ∨ p0.toInt = 104 ∨ p0.toInt = 105 ∨ p0.toInt = 106 ∨ p0.toInt = 107 ∨ p0.toInt = 108 ∨ p0.toInt = 109 ∨ p0.toInt = 110 ∨ p0.toInt = 111 ∨ p0.toInt = 112 ∨ p0.toInt = 113 ∨ p0.toInt = 114 ∨ p0.toInt = 115 ∨ p0.toInt = 116 by omega) with hk | hk | hk | hk | hk | hk | hk | hk | hk | hk | hk | hk | hk | hk | hk | hk | hk
  · refine lv_tableIn (off := 83) (tgt := 84) hx hb dX12_numbersOf_1 hlo4632 hhi4633 (by rw [hk]; decide) (by decide) ?_
    refine lv_iconst (v := 3) hx hb dX12_numbersOf_84 (by decide) ?_
    have hP9 : va_P (dC, dI) classes (wM g c v F rc) H := hP
    exact W.iret (v := 3) hx hb hr (fun t ht hW => ⟨⟨3, (), rfl, (by have : (3 : Int32).toInt = 3 := (by decide); exact ⟨nnL_of (by omega), by omega, by omega⟩), (by show va_P _ _ _ t.heap; rw [ht]; exact hP9)⟩, hS.F ht⟩) hS.2.2 dX12_numbersOf_85
  · refine lv_tableIn (off := 89) (tgt := 90) hx hb dX12_numbersOf_1 hlo4632 hhi4633 (by rw [hk]; decide) (by decide) ?_
    refine lv_iconst (v := 0) hx hb dX12_numbersOf_90 (by decide) ?_
    have hP9 : va_P (dC, dI) classes (wM g c v F rc) H := hP
    exact W.iret (v := 0) hx hb hr (fun t ht hW => ⟨⟨0, (), rfl, (by have : (0 : Int32).toInt = 0 := (by decide); exact ⟨nnL_of (by omega), by omega, by omega⟩), (by show va_P _ _ _ t.heap; rw [ht]; exact hP9)⟩, hS.F ht⟩) hS.2.2 dX12_numbersOf_91
  · refine lv_tableIn (off := 89) (tgt := 90) hx hb dX12_numbersOf_1 hlo4632 hhi4633 (by rw [hk]; decide) (by decide) ?_
    refine lv_iconst (v := 0) hx hb dX12_numbersOf_90 (by decide) ?_
    have hP9 : va_P (dC, dI) classes (wM g c v F rc) H := hP
    exact W.iret (v := 0) hx hb hr (fun t ht hW => ⟨⟨0, (), rfl, (by have : (0 : Int32).toInt = 0 := (by decide); exact ⟨nnL_of (by omega), by omega, by omega⟩), (by show va_P _ _ _ t.heap; rw [ht]; exact hP9)⟩, hS.F ht⟩) hS.2.2 dX12_numbersOf_91
  · refine lv_tableIn (off := 85) (tgt := 86) hx hb dX12_numbersOf_1 hlo4632 hhi4633 (by rw [hk]; decide) (by decide) ?_
    refine lv_iconst (v := 1) hx hb dX12_numbersOf_86 (by decide) ?_
    have hP9 : va_P (dC, dI) classes (wM g c v F rc) H := hP
    exact W.iret (v := 1) hx hb hr (fun t ht hW => ⟨⟨1, (), rfl, (by have : (1 : Int32).toInt = 1 := (by decide); exact ⟨nnL_of (by omega), by omega, by omega⟩), (by show va_P _ _ _ t.heap; rw [ht]; exact hP9)⟩, hS.F ht⟩) hS.2.2 dX12_numbersOf_87
  · refine lv_tableIn (off := 83) (tgt := 84) hx hb dX12_numbersOf_1 hlo4632 hhi4633 (by rw [hk]; decide) (by decide) ?_
    refine lv_iconst (v := 3) hx hb dX12_numbersOf_84 (by decide) ?_
    have hP9 : va_P (dC, dI) classes (wM g c v F rc) H := hP
    exact W.iret (v := 3) hx hb hr (fun t ht hW => ⟨⟨3, (), rfl, (by have : (3 : Int32).toInt = 3 := (by decide); exact ⟨nnL_of (by omega), by omega, by omega⟩), (by show va_P _ _ _ t.heap; rw [ht]; exact hP9)⟩, hS.F ht⟩) hS.2.2 dX12_numbersOf_85
  · refine lv_tableIn (off := 89) (tgt := 90) hx hb dX12_numbersOf_1 hlo4632 hhi4633 (by rw [hk]; decide) (by decide) ?_
    refine lv_iconst (v := 0) hx hb dX12_numbersOf_90 (by decide) ?_
    have hP9 : va_P (dC, dI) classes (wM g c v F rc) H := hP
    exact W.iret (v := 0) hx hb hr (fun t ht hW => ⟨⟨0, (), rfl, (by have : (0 : Int32).toInt = 0 := (by decide); exact ⟨nnL_of (by omega), by omega, by omega⟩), (by show va_P _ _ _ t.heap; rw [ht]; exact hP9)⟩, hS.F ht⟩) hS.2.2 dX12_numbersOf_91
  · refine lv_tableIn (off := 89) (tgt := 90) hx hb dX12_numbersOf_1 hlo4632 hhi4633 (by rw [hk]; decide) (by decide) ?_
    refine lv_iconst (v := 0) hx hb dX12_numbersOf_90 (by decide) ?_
    have hP9 : va_P (dC, dI) classes (wM g c v F rc) H := hP
    exact W.iret (v := 0) hx hb hr (fun t ht hW => ⟨⟨0, (), rfl, (by have : (0 : Int32).toInt = 0 := (by decide); exact ⟨nnL_of (by omega), by omega, by omega⟩), (by show va_P _ _ _ t.heap; rw [ht]; exact hP9)⟩, hS.F ht⟩) hS.2.2 dX12_numbersOf_91
  · refine lv_tableIn (off := 89) (tgt := 90) hx hb dX12_numbersOf_1 hlo4632 hhi4633 (by rw [hk]; decide) (by decide) ?_
    refine lv_iconst (v := 0) hx hb dX12_numbersOf_90 (by decide) ?_
    have hP9 : va_P (dC, dI) classes (wM g c v F rc) H := hP
    exact W.iret (v := 0) hx hb hr (fun t ht hW => ⟨⟨0, (), rfl, (by have : (0 : Int32).toInt = 0 := (by decide); exact ⟨nnL_of (by omega), by omega, by omega⟩), (by show va_P _ _ _ t.heap; rw [ht]; exact hP9)⟩, hS.F ht⟩) hS.2.2 dX12_numbersOf_91
  · refine lv_tableIn (off := 83) (tgt := 84) hx hb dX12_numbersOf_1 hlo4632 hhi4633 (by rw [hk]; decide) (by decide) ?_
    refine lv_iconst (v := 3) hx hb dX12_numbersOf_84 (by decide) ?_
    have hP9 : va_P (dC, dI) classes (wM g c v F rc) H := hP
    exact W.iret (v := 3) hx hb hr (fun t ht hW => ⟨⟨3, (), rfl, (by have : (3 : Int32).toInt = 3 := (by decide); exact ⟨nnL_of (by omega), by omega, by omega⟩), (by show va_P _ _ _ t.heap; rw [ht]; exact hP9)⟩, hS.F ht⟩) hS.2.2 dX12_numbersOf_85
  · refine lv_tableIn (off := 85) (tgt := 86) hx hb dX12_numbersOf_1 hlo4632 hhi4633 (by rw [hk]; decide) (by decide) ?_
    refine lv_iconst (v := 1) hx hb dX12_numbersOf_86 (by decide) ?_
    have hP9 : va_P (dC, dI) classes (wM g c v F rc) H := hP
    exact W.iret (v := 1) hx hb hr (fun t ht hW => ⟨⟨1, (), rfl, (by have : (1 : Int32).toInt = 1 := (by decide); exact ⟨nnL_of (by omega), by omega, by omega⟩), (by show va_P _ _ _ t.heap; rw [ht]; exact hP9)⟩, hS.F ht⟩) hS.2.2 dX12_numbersOf_87
  · refine lv_tableIn (off := 89) (tgt := 90) hx hb dX12_numbersOf_1 hlo4632 hhi4633 (by rw [hk]; decide) (by decide) ?_
    refine lv_iconst (v := 0) hx hb dX12_numbersOf_90 (by decide) ?_
    have hP9 : va_P (dC, dI) classes (wM g c v F rc) H := hP
    exact W.iret (v := 0) hx hb hr (fun t ht hW => ⟨⟨0, (), rfl, (by have : (0 : Int32).toInt = 0 := (by decide); exact ⟨nnL_of (by omega), by omega, by omega⟩), (by show va_P _ _ _ t.heap; rw [ht]; exact hP9)⟩, hS.F ht⟩) hS.2.2 dX12_numbersOf_91
  · refine lv_tableIn (off := 85) (tgt := 86) hx hb dX12_numbersOf_1 hlo4632 hhi4633 (by rw [hk]; decide) (by decide) ?_
    refine lv_iconst (v := 1) hx hb dX12_numbersOf_86 (by decide) ?_
    have hP9 : va_P (dC, dI) classes (wM g c v F rc) H := hP
    exact W.iret (v := 1) hx hb hr (fun t ht hW => ⟨⟨1, (), rfl, (by have : (1 : Int32).toInt = 1 := (by decide); exact ⟨nnL_of (by omega), by omega, by omega⟩), (by show va_P _ _ _ t.heap; rw [ht]; exact hP9)⟩, hS.F ht⟩) hS.2.2 dX12_numbersOf_87
  · refine lv_tableIn (off := 89) (tgt := 90) hx hb dX12_numbersOf_1 hlo4632 hhi4633 (by rw [hk]; decide) (by decide) ?_
    refine lv_iconst (v := 0) hx hb dX12_numbersOf_90 (by decide) ?_
    have hP9 : va_P (dC, dI) classes (wM g c v F rc) H := hP
    exact W.iret (v := 0) hx hb hr (fun t ht hW => ⟨⟨0, (), rfl, (by have : (0 : Int32).toInt = 0 := (by decide); exact ⟨nnL_of (by omega), by omega, by omega⟩), (by show va_P _ _ _ t.heap; rw [ht]; exact hP9)⟩, hS.F ht⟩) hS.2.2 dX12_numbersOf_91
  · refine lv_tableIn (off := 89) (tgt := 90) hx hb dX12_numbersOf_1 hlo4632 hhi4633 (by rw [hk]; decide) (by decide) ?_
    refine lv_iconst (v := 0) hx hb dX12_numbersOf_90 (by decide) ?_
    have hP9 : va_P (dC, dI) classes (wM g c v F rc) H := hP
    exact W.iret (v := 0) hx hb hr (fun t ht hW => ⟨⟨0, (), rfl, (by have : (0 : Int32).toInt = 0 := (by decide); exact ⟨nnL_of (by omega), by omega, by omega⟩), (by show va_P _ _ _ t.heap; rw [ht]; exact hP9)⟩, hS.F ht⟩) hS.2.2 dX12_numbersOf_91
  · refine lv_tableIn (off := 89) (tgt := 90) hx hb dX12_numbersOf_1 hlo4632 hhi4633 (by rw [hk]; decide) (by decide) ?_
    refine lv_iconst (v := 0) hx hb dX12_numbersOf_90 (by decide) ?_
    have hP9 : va_P (dC, dI) classes (wM g c v F rc) H := hP
    exact W.iret (v := 0) hx hb hr (fun t ht hW => ⟨⟨0, (), rfl, (by have : (0 : Int32).toInt = 0 := (by decide); exact ⟨nnL_of (by omega), by omega, by omega⟩), (by show va_P _ _ _ t.heap; rw [ht]; exact hP9)⟩, hS.F ht⟩) hS.2.2 dX12_numbersOf_91
  · refine lv_tableIn (off := 89) (tgt := 90) hx hb dX12_numbersOf_1 hlo4632 hhi4633 (by rw [hk]; decide) (by decide) ?_
    refine lv_iconst (v := 0) hx hb dX12_numbersOf_90 (by decide) ?_
    have hP9 : va_P (dC, dI) classes (wM g c v F rc) H := hP
    exact W.iret (v := 0) hx hb hr (fun t ht hW => ⟨⟨0, (), rfl, (by have : (0 : Int32).toInt = 0 := (by decide); exact ⟨nnL_of (by omega), by omega, by omega⟩), (by show va_P _ _ _ t.heap; rw [ht]; exact hP9)⟩, hS.F ht⟩) hS.2.2 dX12_numbersOf_91
  · refine lv_tableIn (off := 87) (tgt := 88) hx hb dX12_numbersOf_1 hlo4632 hhi4633 (by rw [hk]; decide) (by decide) ?_
    refine lv_iconst (v := 2) hx hb dX12_numbersOf_88 (by decide) ?_
    have hP9 : va_P (dC, dI) classes (wM g c v F rc) H := hP
    exact W.iret (v := 2) hx hb hr (fun t ht hW => ⟨⟨2, (), rfl, (by have : (2 : Int32).toInt = 2 := (by decide); exact ⟨nnL_of (by omega), by omega, by omega⟩), (by show va_P _ _ _ t.heap; rw [ht]; exact hP9)⟩, hS.F ht⟩) hS.2.2 dX12_numbersOf_89
set_option maxHeartbeats 8000000 in
set_option maxRecDepth 100000 in
theorem c_X12_both (l : Launch) (dC : Nat → ClassId) (dI : Nat → Nat → Nat) (g : Nat → Nat) (c : Nat → ClassId) (adK adV : Nat → Nat) (v : Nat → Int32) (F : Nat → Nat → Int32) (rc sz : Nat) (p0 : Int32) (p1 : Int32) (p2 : Int32) (hg : injM g) (hI : IM v F) : Met l yX12_both (Cond.code yX12_both cX12_both 3 (some .int) :: wA) ({ frames := 1, cells := 0, slots := 0, locals := 40 }) (va_Pc [.int p0, .int p1, .int p2] (PM dC dI g c adK adV v F rc sz)) (va_Qi (fun (r : Int32) (u : Unit) => True) (fun (_ : Unit) => BM dC dI g c (v, F, rc)) (AM g sz)) 0 0 (AM g sz) := by
  refine Met.ofW (cc := cX12_both) (maxL := 3) (ret := (some .int)) (by decide) rfl ?_
  intro p e s m args below meth c0 s₁ B hml hv
  obtain ⟨rfl, hsz, hP, hK, hE⟩ := hv
  have hx := B.exec
  have hb := B.bytes
  have hr := B.returns
  have hts := atoms_spec (ws := Cond.code yX12_both cX12_both 3 (some .int) :: wA) B.pre
  have hwd : ∀ w ∈ wA, w.before _ s = true := fun w h => hts w (List.mem_cons_of_mem _ h)
  have hown : s.vm.findClass RX12 = some m.cls := findClass_of_methodNamed B.named
  have hlocks := B.notSynchronized
  subst hsz
  have hl := lv_entry ([.int p0, .int p1, .int p2]) (n := 3) (Nat.le_of_ble_eq_true rfl)
  rw [lg_entry_eq]
  generalize (lg_sl ([.int p0, .int p1, .int p2]) ++ List.replicate (3 - (lg_sl ([.int p0, .int p1, .int p2])).length) Slot.unset).toArray = ls at hl ⊢
  have hl : lv_has ls 3 [(0, .int p0), (1, .int p1), (2, .int p2)] := hl
  obtain ⟨H, eH⟩ : ∃ z, z = s.heap := ⟨_, rfl⟩
  have hP : va_P (dC, dI) classes (wM g c v F rc) H := by rw [eH]; exact hP
  have hS : va_S (AM g s.heap.size) s.heap H [] := by rw [eH]; exact va_S.rf
  refine my_heap eH ?_
  have rp0 := i32_rng p0
  have rp1 := i32_rng p1
  have rp2 := i32_rng p2
  refine lv_iload_n hx hb dX12_both_0 rfl (lv_at hl 0 rfl) ?_
  by_cases hlo4634 : p0.toInt < 42
  · refine lv_tableOut (tgt := 152) hx hb dX12_both_1 (Or.inl hlo4634) (by decide) ?_
    refine lv_iload_n hx hb dX12_both_152 rfl (lv_at hl 1 rfl) ?_
    refine lv_iload_n hx hb dX12_both_153 rfl (lv_at hl 2 rfl) ?_
    refine lv_icmp_le (tgt := 161) hx hb dX12_both_154 (by decide) (fun c4636 => ?_) (fun c4636 => ?_)
    · skip
      have t4637 := cv_le (a := p1.toInt) rfl (b := p2.toInt) rfl c4636
      refine lv_iconst (v := 0) hx hb dX12_both_161 (by decide) ?_
      have hP9 : va_P (dC, dI) classes (wM g c v F rc) H := hP
      exact W.iret (v := 0) hx hb hr (fun t ht hW => ⟨⟨0, (), rfl, trivial, (by show va_P _ _ _ t.heap; rw [ht]; exact hP9)⟩, hS.F ht⟩) hS.2.2 dX12_both_162
    · skip
      have t4638 := cv_nle (a := p1.toInt) rfl (b := p2.toInt) rfl c4636
      refine lv_iconst (v := 1) hx hb dX12_both_157 (by decide) ?_
      refine lv_goto (tgt := 162) hx hb dX12_both_158 (by decide) ?_
      have hP9 : va_P (dC, dI) classes (wM g c v F rc) H := hP
      exact W.iret (v := 1) hx hb hr (fun t ht hW => ⟨⟨1, (), rfl, trivial, (by show va_P _ _ _ t.heap; rw [ht]; exact hP9)⟩, hS.F ht⟩) hS.2.2 dX12_both_162
  by_cases hhi4635 : 61 < p0.toInt
  · refine lv_tableOut (tgt := 152) hx hb dX12_both_1 (Or.inr hhi4635) (by decide) ?_
    refine lv_iload_n hx hb dX12_both_152 rfl (lv_at hl 1 rfl) ?_
    refine lv_iload_n hx hb dX12_both_153 rfl (lv_at hl 2 rfl) ?_
    refine lv_icmp_le (tgt := 161) hx hb dX12_both_154 (by decide) (fun c4639 => ?_) (fun c4639 => ?_)
    · skip
      have t4640 := cv_le (a := p1.toInt) rfl (b := p2.toInt) rfl c4639
      refine lv_iconst (v := 0) hx hb dX12_both_161 (by decide) ?_
      have hP9 : va_P (dC, dI) classes (wM g c v F rc) H := hP
      exact W.iret (v := 0) hx hb hr (fun t ht hW => ⟨⟨0, (), rfl, trivial, (by show va_P _ _ _ t.heap; rw [ht]; exact hP9)⟩, hS.F ht⟩) hS.2.2 dX12_both_162
    · skip
      have t4641 := cv_nle (a := p1.toInt) rfl (b := p2.toInt) rfl c4639
      refine lv_iconst (v := 1) hx hb dX12_both_157 (by decide) ?_
      refine lv_goto (tgt := 162) hx hb dX12_both_158 (by decide) ?_
      have hP9 : va_P (dC, dI) classes (wM g c v F rc) H := hP
      exact W.iret (v := 1) hx hb hr (fun t ht hW => ⟨⟨1, (), rfl, trivial, (by show va_P _ _ _ t.heap; rw [ht]; exact hP9)⟩, hS.F ht⟩) hS.2.2 dX12_both_162
  rcases (show p0.toInt = 42 ∨ p0.toInt = 43 ∨ p0.toInt = 44 ∨ p0.toInt = 45 ∨ p0.toInt = 46 ∨ p0.toInt = 47 ∨ p0.toInt = 48 ∨ p0.toInt = 49 ∨ p0.toInt = 50 ∨ p0.toInt = 51 ∨ p0.toInt = 52 ∨ p0.toInt = 53 ∨ p0.toInt = 54 ∨ p0.toInt = 55 ∨ p0.toInt = 56 ∨ p0.toInt = 57 ∨ p0.toInt = 58 ∨ p0.toInt = 59 ∨ p0.toInt = 60 ∨ p0.toInt = 61 by omega) with hk | hk | hk | hk | hk | hk | hk | hk | hk | hk | hk | hk | hk | hk | hk | hk | hk | hk | hk | hk
  · refine lv_tableIn (off := 103) (tgt := 104) hx hb dX12_both_1 hlo4634 hhi4635 (by rw [hk]; decide) (by decide) ?_
    refine lv_iload_n hx hb dX12_both_104 rfl (lv_at hl 1 rfl) ?_
    refine lv_iload_n hx hb dX12_both_105 rfl (lv_at hl 2 rfl) ?_
    refine lv_imul hx hb dX12_both_106 ?_
    refine lv_topi (fun z4642 e4643 => ?_)
    try (have t4644 := tmul e4643 (a := p1.toInt) rfl (b := p2.toInt) rfl (by omega))
    have hP9 : va_P (dC, dI) classes (wM g c v F rc) H := hP
    exact W.iret (v := z4642) hx hb hr (fun t ht hW => ⟨⟨z4642, (), rfl, trivial, (by show va_P _ _ _ t.heap; rw [ht]; exact hP9)⟩, hS.F ht⟩) hS.2.2 dX12_both_107
  · refine lv_tableIn (off := 95) (tgt := 96) hx hb dX12_both_1 hlo4634 hhi4635 (by rw [hk]; decide) (by decide) ?_
    refine lv_iload_n hx hb dX12_both_96 rfl (lv_at hl 1 rfl) ?_
    refine lv_iload_n hx hb dX12_both_97 rfl (lv_at hl 2 rfl) ?_
    refine lv_iadd hx hb dX12_both_98 ?_
    refine lv_topi (fun z4645 e4646 => ?_)
    try (have t4647 := tadd e4646 (a := p1.toInt) rfl (b := p2.toInt) rfl (by omega))
    have hP9 : va_P (dC, dI) classes (wM g c v F rc) H := hP
    exact W.iret (v := z4645) hx hb hr (fun t ht hW => ⟨⟨z4645, (), rfl, trivial, (by show va_P _ _ _ t.heap; rw [ht]; exact hP9)⟩, hS.F ht⟩) hS.2.2 dX12_both_99
  · refine lv_tableIn (off := 151) (tgt := 152) hx hb dX12_both_1 hlo4634 hhi4635 (by rw [hk]; decide) (by decide) ?_
    refine lv_iload_n hx hb dX12_both_152 rfl (lv_at hl 1 rfl) ?_
    refine lv_iload_n hx hb dX12_both_153 rfl (lv_at hl 2 rfl) ?_
    refine lv_icmp_le (tgt := 161) hx hb dX12_both_154 (by decide) (fun c4648 => ?_) (fun c4648 => ?_)
    · skip
      have t4649 := cv_le (a := p1.toInt) rfl (b := p2.toInt) rfl c4648
      refine lv_iconst (v := 0) hx hb dX12_both_161 (by decide) ?_
      have hP9 : va_P (dC, dI) classes (wM g c v F rc) H := hP
      exact W.iret (v := 0) hx hb hr (fun t ht hW => ⟨⟨0, (), rfl, trivial, (by show va_P _ _ _ t.heap; rw [ht]; exact hP9)⟩, hS.F ht⟩) hS.2.2 dX12_both_162
    · skip
      have t4650 := cv_nle (a := p1.toInt) rfl (b := p2.toInt) rfl c4648
      refine lv_iconst (v := 1) hx hb dX12_both_157 (by decide) ?_
      refine lv_goto (tgt := 162) hx hb dX12_both_158 (by decide) ?_
      have hP9 : va_P (dC, dI) classes (wM g c v F rc) H := hP
      exact W.iret (v := 1) hx hb hr (fun t ht hW => ⟨⟨1, (), rfl, trivial, (by show va_P _ _ _ t.heap; rw [ht]; exact hP9)⟩, hS.F ht⟩) hS.2.2 dX12_both_162
  · refine lv_tableIn (off := 99) (tgt := 100) hx hb dX12_both_1 hlo4634 hhi4635 (by rw [hk]; decide) (by decide) ?_
    refine lv_iload_n hx hb dX12_both_100 rfl (lv_at hl 1 rfl) ?_
    refine lv_iload_n hx hb dX12_both_101 rfl (lv_at hl 2 rfl) ?_
    refine lv_isub hx hb dX12_both_102 ?_
    refine lv_topi (fun z4651 e4652 => ?_)
    try (have t4653 := tsub e4652 (a := p1.toInt) rfl (b := p2.toInt) rfl (by omega))
    have hP9 : va_P (dC, dI) classes (wM g c v F rc) H := hP
    exact W.iret (v := z4651) hx hb hr (fun t ht hW => ⟨⟨z4651, (), rfl, trivial, (by show va_P _ _ _ t.heap; rw [ht]; exact hP9)⟩, hS.F ht⟩) hS.2.2 dX12_both_103
  · refine lv_tableIn (off := 151) (tgt := 152) hx hb dX12_both_1 hlo4634 hhi4635 (by rw [hk]; decide) (by decide) ?_
    refine lv_iload_n hx hb dX12_both_152 rfl (lv_at hl 1 rfl) ?_
    refine lv_iload_n hx hb dX12_both_153 rfl (lv_at hl 2 rfl) ?_
    refine lv_icmp_le (tgt := 161) hx hb dX12_both_154 (by decide) (fun c4654 => ?_) (fun c4654 => ?_)
    · skip
      have t4655 := cv_le (a := p1.toInt) rfl (b := p2.toInt) rfl c4654
      refine lv_iconst (v := 0) hx hb dX12_both_161 (by decide) ?_
      have hP9 : va_P (dC, dI) classes (wM g c v F rc) H := hP
      exact W.iret (v := 0) hx hb hr (fun t ht hW => ⟨⟨0, (), rfl, trivial, (by show va_P _ _ _ t.heap; rw [ht]; exact hP9)⟩, hS.F ht⟩) hS.2.2 dX12_both_162
    · skip
      have t4656 := cv_nle (a := p1.toInt) rfl (b := p2.toInt) rfl c4654
      refine lv_iconst (v := 1) hx hb dX12_both_157 (by decide) ?_
      refine lv_goto (tgt := 162) hx hb dX12_both_158 (by decide) ?_
      have hP9 : va_P (dC, dI) classes (wM g c v F rc) H := hP
      exact W.iret (v := 1) hx hb hr (fun t ht hW => ⟨⟨1, (), rfl, trivial, (by show va_P _ _ _ t.heap; rw [ht]; exact hP9)⟩, hS.F ht⟩) hS.2.2 dX12_both_162
  · refine lv_tableIn (off := 107) (tgt := 108) hx hb dX12_both_1 hlo4634 hhi4635 (by rw [hk]; decide) (by decide) ?_
    refine lv_iload_n hx hb dX12_both_108 rfl (lv_at hl 2 rfl) ?_
    refine lv_if_ne (tgt := 116) hx hb dX12_both_109 (by decide) (fun c4657 => ?_) (fun c4657 => ?_)
    · skip
      have t4658 := cv_ne (a := p2.toInt) rfl (b := 0) (by decide) c4657
      refine lv_iload_n hx hb dX12_both_116 rfl (lv_at hl 2 rfl) ?_
      refine lv_iconst (v := (-1)) hx hb dX12_both_117 (by decide) ?_
      refine lv_icmp_ne (tgt := 126) hx hb dX12_both_118 (by decide) (fun c4659 => ?_) (fun c4659 => ?_)
      · skip
        have t4660 := cv_ne (a := p2.toInt) rfl (b := (-1)) (by decide) c4659
        refine lv_iload_n hx hb dX12_both_126 rfl (lv_at hl 1 rfl) ?_
        refine lv_iload_n hx hb dX12_both_127 rfl (lv_at hl 2 rfl) ?_
        refine lv_idiv hx hb dX12_both_128 (fun q => by have := cv_eq rfl (b := 0) (by decide) q; omega) ?_
        refine lv_topi (fun z4661 e4662 => ?_)
        have hP9 : va_P (dC, dI) classes (wM g c v F rc) H := hP
        exact W.iret (v := z4661) hx hb hr (fun t ht hW => ⟨⟨z4661, (), rfl, trivial, (by show va_P _ _ _ t.heap; rw [ht]; exact hP9)⟩, hS.F ht⟩) hS.2.2 dX12_both_129
      · skip
        have t4664 := cv_eq (a := p2.toInt) rfl (b := (-1)) (by decide) c4659
        refine lv_iload_n hx hb dX12_both_121 rfl (lv_at hl 1 rfl) ?_
        refine lv_ineg hx hb dX12_both_122 ?_
        refine lv_topi (fun z4665 e4666 => ?_)
        refine lv_goto (tgt := 129) hx hb dX12_both_123 (by decide) ?_
        have hP9 : va_P (dC, dI) classes (wM g c v F rc) H := hP
        exact W.iret (v := z4665) hx hb hr (fun t ht hW => ⟨⟨z4665, (), rfl, trivial, (by show va_P _ _ _ t.heap; rw [ht]; exact hP9)⟩, hS.F ht⟩) hS.2.2 dX12_both_129
    · skip
      have t4667 := cv_eq (a := p2.toInt) rfl (b := 0) (by decide) c4657
      refine lv_iconst (v := 0) hx hb dX12_both_112 (by decide) ?_
      refine lv_goto (tgt := 129) hx hb dX12_both_113 (by decide) ?_
      have hP9 : va_P (dC, dI) classes (wM g c v F rc) H := hP
      exact W.iret (v := 0) hx hb hr (fun t ht hW => ⟨⟨0, (), rfl, trivial, (by show va_P _ _ _ t.heap; rw [ht]; exact hP9)⟩, hS.F ht⟩) hS.2.2 dX12_both_129
  · refine lv_tableIn (off := 151) (tgt := 152) hx hb dX12_both_1 hlo4634 hhi4635 (by rw [hk]; decide) (by decide) ?_
    refine lv_iload_n hx hb dX12_both_152 rfl (lv_at hl 1 rfl) ?_
    refine lv_iload_n hx hb dX12_both_153 rfl (lv_at hl 2 rfl) ?_
    refine lv_icmp_le (tgt := 161) hx hb dX12_both_154 (by decide) (fun c4668 => ?_) (fun c4668 => ?_)
    · skip
      have t4669 := cv_le (a := p1.toInt) rfl (b := p2.toInt) rfl c4668
      refine lv_iconst (v := 0) hx hb dX12_both_161 (by decide) ?_
      have hP9 : va_P (dC, dI) classes (wM g c v F rc) H := hP
      exact W.iret (v := 0) hx hb hr (fun t ht hW => ⟨⟨0, (), rfl, trivial, (by show va_P _ _ _ t.heap; rw [ht]; exact hP9)⟩, hS.F ht⟩) hS.2.2 dX12_both_162
    · skip
      have t4670 := cv_nle (a := p1.toInt) rfl (b := p2.toInt) rfl c4668
      refine lv_iconst (v := 1) hx hb dX12_both_157 (by decide) ?_
      refine lv_goto (tgt := 162) hx hb dX12_both_158 (by decide) ?_
      have hP9 : va_P (dC, dI) classes (wM g c v F rc) H := hP
      exact W.iret (v := 1) hx hb hr (fun t ht hW => ⟨⟨1, (), rfl, trivial, (by show va_P _ _ _ t.heap; rw [ht]; exact hP9)⟩, hS.F ht⟩) hS.2.2 dX12_both_162
  · refine lv_tableIn (off := 151) (tgt := 152) hx hb dX12_both_1 hlo4634 hhi4635 (by rw [hk]; decide) (by decide) ?_
    refine lv_iload_n hx hb dX12_both_152 rfl (lv_at hl 1 rfl) ?_
    refine lv_iload_n hx hb dX12_both_153 rfl (lv_at hl 2 rfl) ?_
    refine lv_icmp_le (tgt := 161) hx hb dX12_both_154 (by decide) (fun c4671 => ?_) (fun c4671 => ?_)
    · skip
      have t4672 := cv_le (a := p1.toInt) rfl (b := p2.toInt) rfl c4671
      refine lv_iconst (v := 0) hx hb dX12_both_161 (by decide) ?_
      have hP9 : va_P (dC, dI) classes (wM g c v F rc) H := hP
      exact W.iret (v := 0) hx hb hr (fun t ht hW => ⟨⟨0, (), rfl, trivial, (by show va_P _ _ _ t.heap; rw [ht]; exact hP9)⟩, hS.F ht⟩) hS.2.2 dX12_both_162
    · skip
      have t4673 := cv_nle (a := p1.toInt) rfl (b := p2.toInt) rfl c4671
      refine lv_iconst (v := 1) hx hb dX12_both_157 (by decide) ?_
      refine lv_goto (tgt := 162) hx hb dX12_both_158 (by decide) ?_
      have hP9 : va_P (dC, dI) classes (wM g c v F rc) H := hP
      exact W.iret (v := 1) hx hb hr (fun t ht hW => ⟨⟨1, (), rfl, trivial, (by show va_P _ _ _ t.heap; rw [ht]; exact hP9)⟩, hS.F ht⟩) hS.2.2 dX12_both_162
  · refine lv_tableIn (off := 151) (tgt := 152) hx hb dX12_both_1 hlo4634 hhi4635 (by rw [hk]; decide) (by decide) ?_
    refine lv_iload_n hx hb dX12_both_152 rfl (lv_at hl 1 rfl) ?_
    refine lv_iload_n hx hb dX12_both_153 rfl (lv_at hl 2 rfl) ?_
    refine lv_icmp_le (tgt := 161) hx hb dX12_both_154 (by decide) (fun c4674 => ?_) (fun c4674 => ?_)
    · skip
      have t4675 := cv_le (a := p1.toInt) rfl (b := p2.toInt) rfl c4674
      refine lv_iconst (v := 0) hx hb dX12_both_161 (by decide) ?_
      have hP9 : va_P (dC, dI) classes (wM g c v F rc) H := hP
      exact W.iret (v := 0) hx hb hr (fun t ht hW => ⟨⟨0, (), rfl, trivial, (by show va_P _ _ _ t.heap; rw [ht]; exact hP9)⟩, hS.F ht⟩) hS.2.2 dX12_both_162
    · skip
      have t4676 := cv_nle (a := p1.toInt) rfl (b := p2.toInt) rfl c4674
      refine lv_iconst (v := 1) hx hb dX12_both_157 (by decide) ?_
      refine lv_goto (tgt := 162) hx hb dX12_both_158 (by decide) ?_
      have hP9 : va_P (dC, dI) classes (wM g c v F rc) H := hP
      exact W.iret (v := 1) hx hb hr (fun t ht hW => ⟨⟨1, (), rfl, trivial, (by show va_P _ _ _ t.heap; rw [ht]; exact hP9)⟩, hS.F ht⟩) hS.2.2 dX12_both_162
  · refine lv_tableIn (off := 151) (tgt := 152) hx hb dX12_both_1 hlo4634 hhi4635 (by rw [hk]; decide) (by decide) ?_
    refine lv_iload_n hx hb dX12_both_152 rfl (lv_at hl 1 rfl) ?_
    refine lv_iload_n hx hb dX12_both_153 rfl (lv_at hl 2 rfl) ?_
    refine lv_icmp_le (tgt := 161) hx hb dX12_both_154 (by decide) (fun c4677 => ?_) (fun c4677 => ?_)
    · skip
      have t4678 := cv_le (a := p1.toInt) rfl (b := p2.toInt) rfl c4677
      refine lv_iconst (v := 0) hx hb dX12_both_161 (by decide) ?_
      have hP9 : va_P (dC, dI) classes (wM g c v F rc) H := hP
      exact W.iret (v := 0) hx hb hr (fun t ht hW => ⟨⟨0, (), rfl, trivial, (by show va_P _ _ _ t.heap; rw [ht]; exact hP9)⟩, hS.F ht⟩) hS.2.2 dX12_both_162
    · skip
      have t4679 := cv_nle (a := p1.toInt) rfl (b := p2.toInt) rfl c4677
      refine lv_iconst (v := 1) hx hb dX12_both_157 (by decide) ?_
      refine lv_goto (tgt := 162) hx hb dX12_both_158 (by decide) ?_
      have hP9 : va_P (dC, dI) classes (wM g c v F rc) H := hP
      exact W.iret (v := 1) hx hb hr (fun t ht hW => ⟨⟨1, (), rfl, trivial, (by show va_P _ _ _ t.heap; rw [ht]; exact hP9)⟩, hS.F ht⟩) hS.2.2 dX12_both_162
  · refine lv_tableIn (off := 151) (tgt := 152) hx hb dX12_both_1 hlo4634 hhi4635 (by rw [hk]; decide) (by decide) ?_
    refine lv_iload_n hx hb dX12_both_152 rfl (lv_at hl 1 rfl) ?_
    refine lv_iload_n hx hb dX12_both_153 rfl (lv_at hl 2 rfl) ?_
    refine lv_icmp_le (tgt := 161) hx hb dX12_both_154 (by decide) (fun c4680 => ?_) (fun c4680 => ?_)
    · skip
      have t4681 := cv_le (a := p1.toInt) rfl (b := p2.toInt) rfl c4680
      refine lv_iconst (v := 0) hx hb dX12_both_161 (by decide) ?_
      have hP9 : va_P (dC, dI) classes (wM g c v F rc) H := hP
      exact W.iret (v := 0) hx hb hr (fun t ht hW => ⟨⟨0, (), rfl, trivial, (by show va_P _ _ _ t.heap; rw [ht]; exact hP9)⟩, hS.F ht⟩) hS.2.2 dX12_both_162
    · skip
      have t4682 := cv_nle (a := p1.toInt) rfl (b := p2.toInt) rfl c4680
      refine lv_iconst (v := 1) hx hb dX12_both_157 (by decide) ?_
      refine lv_goto (tgt := 162) hx hb dX12_both_158 (by decide) ?_
      have hP9 : va_P (dC, dI) classes (wM g c v F rc) H := hP
      exact W.iret (v := 1) hx hb hr (fun t ht hW => ⟨⟨1, (), rfl, trivial, (by show va_P _ _ _ t.heap; rw [ht]; exact hP9)⟩, hS.F ht⟩) hS.2.2 dX12_both_162
  · refine lv_tableIn (off := 151) (tgt := 152) hx hb dX12_both_1 hlo4634 hhi4635 (by rw [hk]; decide) (by decide) ?_
    refine lv_iload_n hx hb dX12_both_152 rfl (lv_at hl 1 rfl) ?_
    refine lv_iload_n hx hb dX12_both_153 rfl (lv_at hl 2 rfl) ?_
    refine lv_icmp_le (tgt := 161) hx hb dX12_both_154 (by decide) (fun c4683 => ?_) (fun c4683 => ?_)
    · skip
      have t4684 := cv_le (a := p1.toInt) rfl (b := p2.toInt) rfl c4683
      refine lv_iconst (v := 0) hx hb dX12_both_161 (by decide) ?_
      have hP9 : va_P (dC, dI) classes (wM g c v F rc) H := hP
      exact W.iret (v := 0) hx hb hr (fun t ht hW => ⟨⟨0, (), rfl, trivial, (by show va_P _ _ _ t.heap; rw [ht]; exact hP9)⟩, hS.F ht⟩) hS.2.2 dX12_both_162
    · skip
      have t4685 := cv_nle (a := p1.toInt) rfl (b := p2.toInt) rfl c4683
      refine lv_iconst (v := 1) hx hb dX12_both_157 (by decide) ?_
      refine lv_goto (tgt := 162) hx hb dX12_both_158 (by decide) ?_
      have hP9 : va_P (dC, dI) classes (wM g c v F rc) H := hP
      exact W.iret (v := 1) hx hb hr (fun t ht hW => ⟨⟨1, (), rfl, trivial, (by show va_P _ _ _ t.heap; rw [ht]; exact hP9)⟩, hS.F ht⟩) hS.2.2 dX12_both_162
  · refine lv_tableIn (off := 151) (tgt := 152) hx hb dX12_both_1 hlo4634 hhi4635 (by rw [hk]; decide) (by decide) ?_
    refine lv_iload_n hx hb dX12_both_152 rfl (lv_at hl 1 rfl) ?_
    refine lv_iload_n hx hb dX12_both_153 rfl (lv_at hl 2 rfl) ?_
    refine lv_icmp_le (tgt := 161) hx hb dX12_both_154 (by decide) (fun c4686 => ?_) (fun c4686 => ?_)
    · skip
      have t4687 := cv_le (a := p1.toInt) rfl (b := p2.toInt) rfl c4686
      refine lv_iconst (v := 0) hx hb dX12_both_161 (by decide) ?_
      have hP9 : va_P (dC, dI) classes (wM g c v F rc) H := hP
      exact W.iret (v := 0) hx hb hr (fun t ht hW => ⟨⟨0, (), rfl, trivial, (by show va_P _ _ _ t.heap; rw [ht]; exact hP9)⟩, hS.F ht⟩) hS.2.2 dX12_both_162
    · skip
      have t4688 := cv_nle (a := p1.toInt) rfl (b := p2.toInt) rfl c4686
      refine lv_iconst (v := 1) hx hb dX12_both_157 (by decide) ?_
      refine lv_goto (tgt := 162) hx hb dX12_both_158 (by decide) ?_
      have hP9 : va_P (dC, dI) classes (wM g c v F rc) H := hP
      exact W.iret (v := 1) hx hb hr (fun t ht hW => ⟨⟨1, (), rfl, trivial, (by show va_P _ _ _ t.heap; rw [ht]; exact hP9)⟩, hS.F ht⟩) hS.2.2 dX12_both_162
  · refine lv_tableIn (off := 151) (tgt := 152) hx hb dX12_both_1 hlo4634 hhi4635 (by rw [hk]; decide) (by decide) ?_
    refine lv_iload_n hx hb dX12_both_152 rfl (lv_at hl 1 rfl) ?_
    refine lv_iload_n hx hb dX12_both_153 rfl (lv_at hl 2 rfl) ?_
    refine lv_icmp_le (tgt := 161) hx hb dX12_both_154 (by decide) (fun c4689 => ?_) (fun c4689 => ?_)
    · skip
      have t4690 := cv_le (a := p1.toInt) rfl (b := p2.toInt) rfl c4689
      refine lv_iconst (v := 0) hx hb dX12_both_161 (by decide) ?_
      have hP9 : va_P (dC, dI) classes (wM g c v F rc) H := hP
      exact W.iret (v := 0) hx hb hr (fun t ht hW => ⟨⟨0, (), rfl, trivial, (by show va_P _ _ _ t.heap; rw [ht]; exact hP9)⟩, hS.F ht⟩) hS.2.2 dX12_both_162
    · skip
      have t4691 := cv_nle (a := p1.toInt) rfl (b := p2.toInt) rfl c4689
      refine lv_iconst (v := 1) hx hb dX12_both_157 (by decide) ?_
      refine lv_goto (tgt := 162) hx hb dX12_both_158 (by decide) ?_
      have hP9 : va_P (dC, dI) classes (wM g c v F rc) H := hP
      exact W.iret (v := 1) hx hb hr (fun t ht hW => ⟨⟨1, (), rfl, trivial, (by show va_P _ _ _ t.heap; rw [ht]; exact hP9)⟩, hS.F ht⟩) hS.2.2 dX12_both_162
  · refine lv_tableIn (off := 151) (tgt := 152) hx hb dX12_both_1 hlo4634 hhi4635 (by rw [hk]; decide) (by decide) ?_
    refine lv_iload_n hx hb dX12_both_152 rfl (lv_at hl 1 rfl) ?_
    refine lv_iload_n hx hb dX12_both_153 rfl (lv_at hl 2 rfl) ?_
    refine lv_icmp_le (tgt := 161) hx hb dX12_both_154 (by decide) (fun c4692 => ?_) (fun c4692 => ?_)
    · skip
      have t4693 := cv_le (a := p1.toInt) rfl (b := p2.toInt) rfl c4692
      refine lv_iconst (v := 0) hx hb dX12_both_161 (by decide) ?_
      have hP9 : va_P (dC, dI) classes (wM g c v F rc) H := hP
      exact W.iret (v := 0) hx hb hr (fun t ht hW => ⟨⟨0, (), rfl, trivial, (by show va_P _ _ _ t.heap; rw [ht]; exact hP9)⟩, hS.F ht⟩) hS.2.2 dX12_both_162
    · skip
      have t4694 := cv_nle (a := p1.toInt) rfl (b := p2.toInt) rfl c4692
      refine lv_iconst (v := 1) hx hb dX12_both_157 (by decide) ?_
      refine lv_goto (tgt := 162) hx hb dX12_both_158 (by decide) ?_
      have hP9 : va_P (dC, dI) classes (wM g c v F rc) H := hP
      exact W.iret (v := 1) hx hb hr (fun t ht hW => ⟨⟨1, (), rfl, trivial, (by show va_P _ _ _ t.heap; rw [ht]; exact hP9)⟩, hS.F ht⟩) hS.2.2 dX12_both_162
  · refine lv_tableIn (off := 151) (tgt := 152) hx hb dX12_both_1 hlo4634 hhi4635 (by rw [hk]; decide) (by decide) ?_
    refine lv_iload_n hx hb dX12_both_152 rfl (lv_at hl 1 rfl) ?_
    refine lv_iload_n hx hb dX12_both_153 rfl (lv_at hl 2 rfl) ?_
    refine lv_icmp_le (tgt := 161) hx hb dX12_both_154 (by decide) (fun c4695 => ?_) (fun c4695 => ?_)
    · skip
      have t4696 := cv_le (a := p1.toInt) rfl (b := p2.toInt) rfl c4695
      refine lv_iconst (v := 0) hx hb dX12_both_161 (by decide) ?_
      have hP9 : va_P (dC, dI) classes (wM g c v F rc) H := hP
      exact W.iret (v := 0) hx hb hr (fun t ht hW => ⟨⟨0, (), rfl, trivial, (by show va_P _ _ _ t.heap; rw [ht]; exact hP9)⟩, hS.F ht⟩) hS.2.2 dX12_both_162
    · skip
      have t4697 := cv_nle (a := p1.toInt) rfl (b := p2.toInt) rfl c4695
      refine lv_iconst (v := 1) hx hb dX12_both_157 (by decide) ?_
      refine lv_goto (tgt := 162) hx hb dX12_both_158 (by decide) ?_
      have hP9 : va_P (dC, dI) classes (wM g c v F rc) H := hP
      exact W.iret (v := 1) hx hb hr (fun t ht hW => ⟨⟨1, (), rfl, trivial, (by show va_P _ _ _ t.heap; rw [ht]; exact hP9)⟩, hS.F ht⟩) hS.2.2 dX12_both_162
  · refine lv_tableIn (off := 151) (tgt := 152) hx hb dX12_both_1 hlo4634 hhi4635 (by rw [hk]; decide) (by decide) ?_
    refine lv_iload_n hx hb dX12_both_152 rfl (lv_at hl 1 rfl) ?_
    refine lv_iload_n hx hb dX12_both_153 rfl (lv_at hl 2 rfl) ?_
    refine lv_icmp_le (tgt := 161) hx hb dX12_both_154 (by decide) (fun c4698 => ?_) (fun c4698 => ?_)
    · skip
      have t4699 := cv_le (a := p1.toInt) rfl (b := p2.toInt) rfl c4698
      refine lv_iconst (v := 0) hx hb dX12_both_161 (by decide) ?_
      have hP9 : va_P (dC, dI) classes (wM g c v F rc) H := hP
      exact W.iret (v := 0) hx hb hr (fun t ht hW => ⟨⟨0, (), rfl, trivial, (by show va_P _ _ _ t.heap; rw [ht]; exact hP9)⟩, hS.F ht⟩) hS.2.2 dX12_both_162
    · skip
      have t4700 := cv_nle (a := p1.toInt) rfl (b := p2.toInt) rfl c4698
      refine lv_iconst (v := 1) hx hb dX12_both_157 (by decide) ?_
      refine lv_goto (tgt := 162) hx hb dX12_both_158 (by decide) ?_
      have hP9 : va_P (dC, dI) classes (wM g c v F rc) H := hP
      exact W.iret (v := 1) hx hb hr (fun t ht hW => ⟨⟨1, (), rfl, trivial, (by show va_P _ _ _ t.heap; rw [ht]; exact hP9)⟩, hS.F ht⟩) hS.2.2 dX12_both_162
  · refine lv_tableIn (off := 151) (tgt := 152) hx hb dX12_both_1 hlo4634 hhi4635 (by rw [hk]; decide) (by decide) ?_
    refine lv_iload_n hx hb dX12_both_152 rfl (lv_at hl 1 rfl) ?_
    refine lv_iload_n hx hb dX12_both_153 rfl (lv_at hl 2 rfl) ?_
    refine lv_icmp_le (tgt := 161) hx hb dX12_both_154 (by decide) (fun c4701 => ?_) (fun c4701 => ?_)
    · skip
      have t4702 := cv_le (a := p1.toInt) rfl (b := p2.toInt) rfl c4701
      refine lv_iconst (v := 0) hx hb dX12_both_161 (by decide) ?_
      have hP9 : va_P (dC, dI) classes (wM g c v F rc) H := hP
      exact W.iret (v := 0) hx hb hr (fun t ht hW => ⟨⟨0, (), rfl, trivial, (by show va_P _ _ _ t.heap; rw [ht]; exact hP9)⟩, hS.F ht⟩) hS.2.2 dX12_both_162
    · skip
      have t4703 := cv_nle (a := p1.toInt) rfl (b := p2.toInt) rfl c4701
      refine lv_iconst (v := 1) hx hb dX12_both_157 (by decide) ?_
      refine lv_goto (tgt := 162) hx hb dX12_both_158 (by decide) ?_
      have hP9 : va_P (dC, dI) classes (wM g c v F rc) H := hP
      exact W.iret (v := 1) hx hb hr (fun t ht hW => ⟨⟨1, (), rfl, trivial, (by show va_P _ _ _ t.heap; rw [ht]; exact hP9)⟩, hS.F ht⟩) hS.2.2 dX12_both_162
  · refine lv_tableIn (off := 129) (tgt := 130) hx hb dX12_both_1 hlo4634 hhi4635 (by rw [hk]; decide) (by decide) ?_
    refine lv_iload_n hx hb dX12_both_130 rfl (lv_at hl 1 rfl) ?_
    refine lv_iload_n hx hb dX12_both_131 rfl (lv_at hl 2 rfl) ?_
    refine lv_icmp_ge (tgt := 139) hx hb dX12_both_132 (by decide) (fun c4704 => ?_) (fun c4704 => ?_)
    · skip
      have t4705 := cv_le (a := p2.toInt) rfl (b := p1.toInt) rfl c4704
      refine lv_iconst (v := 0) hx hb dX12_both_139 (by decide) ?_
      have hP9 : va_P (dC, dI) classes (wM g c v F rc) H := hP
      exact W.iret (v := 0) hx hb hr (fun t ht hW => ⟨⟨0, (), rfl, trivial, (by show va_P _ _ _ t.heap; rw [ht]; exact hP9)⟩, hS.F ht⟩) hS.2.2 dX12_both_140
    · skip
      have t4706 := cv_nle (a := p2.toInt) rfl (b := p1.toInt) rfl c4704
      refine lv_iconst (v := 1) hx hb dX12_both_135 (by decide) ?_
      refine lv_goto (tgt := 140) hx hb dX12_both_136 (by decide) ?_
      have hP9 : va_P (dC, dI) classes (wM g c v F rc) H := hP
      exact W.iret (v := 1) hx hb hr (fun t ht hW => ⟨⟨1, (), rfl, trivial, (by show va_P _ _ _ t.heap; rw [ht]; exact hP9)⟩, hS.F ht⟩) hS.2.2 dX12_both_140
  · refine lv_tableIn (off := 140) (tgt := 141) hx hb dX12_both_1 hlo4634 hhi4635 (by rw [hk]; decide) (by decide) ?_
    refine lv_iload_n hx hb dX12_both_141 rfl (lv_at hl 1 rfl) ?_
    refine lv_iload_n hx hb dX12_both_142 rfl (lv_at hl 2 rfl) ?_
    refine lv_icmp_ne (tgt := 150) hx hb dX12_both_143 (by decide) (fun c4707 => ?_) (fun c4707 => ?_)
    · skip
      have t4708 := cv_ne (a := p1.toInt) rfl (b := p2.toInt) rfl c4707
      refine lv_iconst (v := 0) hx hb dX12_both_150 (by decide) ?_
      have hP9 : va_P (dC, dI) classes (wM g c v F rc) H := hP
      exact W.iret (v := 0) hx hb hr (fun t ht hW => ⟨⟨0, (), rfl, trivial, (by show va_P _ _ _ t.heap; rw [ht]; exact hP9)⟩, hS.F ht⟩) hS.2.2 dX12_both_151
    · skip
      have t4709 := cv_eq (a := p1.toInt) rfl (b := p2.toInt) rfl c4707
      refine lv_iconst (v := 1) hx hb dX12_both_146 (by decide) ?_
      refine lv_goto (tgt := 151) hx hb dX12_both_147 (by decide) ?_
      have hP9 : va_P (dC, dI) classes (wM g c v F rc) H := hP
      exact W.iret (v := 1) hx hb hr (fun t ht hW => ⟨⟨1, (), rfl, trivial, (by show va_P _ _ _ t.heap; rw [ht]; exact hP9)⟩, hS.F ht⟩) hS.2.2 dX12_both_151
set_option maxHeartbeats 8000000 in
set_option maxRecDepth 100000 in
theorem c_X12_bitsOf (l : Launch) (dC : Nat → ClassId) (dI : Nat → Nat → Nat) (g : Nat → Nat) (c : Nat → ClassId) (adK adV : Nat → Nat) (v : Nat → Int32) (F : Nat → Nat → Int32) (rc sz : Nat) (p0 : Int32) (hg : injM g) (hI : IM v F) : Met l yX12_bitsOf (Cond.code yX12_bitsOf cX12_bitsOf 3 (some .int) :: wA) ({ frames := 1, cells := 0, slots := 0, locals := 40 }) (va_Pc [.int p0] (PM dC dI g c adK adV v F rc sz)) (va_Qi (fun (r : Int32) (u : Unit) => True) (fun (_ : Unit) => BM dC dI g c (v, F, rc)) (AM g sz)) 0 0 (AM g sz) := by
  refine Met.ofW (cc := cX12_bitsOf) (maxL := 3) (ret := (some .int)) (by decide) rfl ?_
  intro p e s m args below meth c0 s₁ B hml hv
  obtain ⟨rfl, hsz, hP, hK, hE⟩ := hv
  have hx := B.exec
  have hb := B.bytes
  have hr := B.returns
  have hts := atoms_spec (ws := Cond.code yX12_bitsOf cX12_bitsOf 3 (some .int) :: wA) B.pre
  have hwd : ∀ w ∈ wA, w.before _ s = true := fun w h => hts w (List.mem_cons_of_mem _ h)
  have hown : s.vm.findClass RX12 = some m.cls := findClass_of_methodNamed B.named
  have hlocks := B.notSynchronized
  subst hsz
  have hl := lv_entry ([.int p0]) (n := 3) (Nat.le_of_ble_eq_true rfl)
  rw [lg_entry_eq]
  generalize (lg_sl ([.int p0]) ++ List.replicate (3 - (lg_sl ([.int p0])).length) Slot.unset).toArray = ls at hl ⊢
  have hl : lv_has ls 3 [(0, .int p0)] := hl
  obtain ⟨H, eH⟩ : ∃ z, z = s.heap := ⟨_, rfl⟩
  have hP : va_P (dC, dI) classes (wM g c v F rc) H := by rw [eH]; exact hP
  have hS : va_S (AM g s.heap.size) s.heap H [] := by rw [eH]; exact va_S.rf
  refine my_heap eH ?_
  have rp0 := i32_rng p0
  refine lv_iconst (v := 0) hx hb dX12_bitsOf_0 (by decide) ?_
  refine lv_istore_n (lv' := [(1, .int 0), (0, .int p0)]) hx hb dX12_bitsOf_1 rfl hl (by decide) rfl (fun ls hl => ?_)
  refine lv_iload_n hx hb dX12_bitsOf_2 rfl (lv_at hl 1 rfl) ?_
  refine lv_istore_n (lv' := [(2, .int p0), (1, .int 0), (0, .int p0)]) hx hb dX12_bitsOf_3 rfl hl (by decide) rfl (fun ls hl => ?_)
  have lp4710 : ∀ (n : Nat) (x2_lp4710 : Int32) (x1_lp4710 : Int32) (H : Heap) (locs : List Loc) (ls : Array Slot), ((x2_lp4710.toBitVec.toNat : Int) + 1 ≤ (n : Int)) → va_P (dC, dI) classes (wM g c v F rc) H → va_S (AM g s.heap.size) s.heap H locs → lv_has ls 3 [(2, .int x2_lp4710), (1, .int x1_lp4710), (0, .int p0)] → W p l e (headSpec (Cond.code yX12_bitsOf cX12_bitsOf 3 (some .int) :: wA) ({ frames := 1, cells := 0, slots := 0, locals := 40 })).room s m ([.int p0] : List Value).toArray below meth c0 H locs 0 0 (MQ below (va_Qi (fun (r : Int32) (u : Unit) => True) (fun (_ : Unit) => BM dC dI g c (v, F, rc)) (AM g s.heap.size)) ([.int p0] : List Value).toArray s 0 0 (AM g s.heap.size)) (F0 m 4 ls []) := by
    intro n
    induction n with
    | zero =>
      intro x2_lp4710 x1_lp4710 H locs ls hm hP hS hl
      exfalso
      have := i32_rng x2_lp4710
      have := i32_rng x1_lp4710
      omega
    | succ n ih_lp4710 =>
      intro x2_lp4710 x1_lp4710 H locs ls hm hP hS hl
      have rx2_lp4710 := i32_rng x2_lp4710
      have rx1_lp4710 := i32_rng x1_lp4710
      refine lv_iload_n hx hb dX12_bitsOf_4 rfl (lv_at hl 0 rfl) ?_
      refine lv_if_eq (tgt := 20) hx hb dX12_bitsOf_5 (by decide) (fun c4711 => ?_) (fun c4711 => ?_)
      · skip
        have t4712 := cv_eq (a := x2_lp4710.toInt) rfl (b := 0) (by decide) c4711
        refine lv_iload_n hx hb dX12_bitsOf_20 rfl (lv_at hl 1 rfl) ?_
        have hP9 : va_P (dC, dI) classes (wM g c v F rc) H := hP
        exact W.iret (v := x1_lp4710) hx hb hr (fun t ht hW => ⟨⟨x1_lp4710, (), rfl, trivial, (by show va_P _ _ _ t.heap; rw [ht]; exact hP9)⟩, hS.F ht⟩) hS.2.2 dX12_bitsOf_21
      · skip
        have t4713 := cv_ne (a := x2_lp4710.toInt) rfl (b := 0) (by decide) c4711
        obtain ⟨z4714, e4715⟩ : ∃ y : Int32, y = x1_lp4710 + 1 := ⟨_, rfl⟩
        try (have t4716 := tadd e4715 rfl (b := 1) (by decide) (by omega))
        refine lv_iinc (v := z4714) (lv' := [(1, .int z4714), (2, .int x2_lp4710), (0, .int p0)]) hx hb dX12_bitsOf_8 hl (k := 1) rfl (by rw [e4715]; rfl) (by decide) rfl (fun ls hl => ?_)
        refine lv_iload_n hx hb dX12_bitsOf_11 rfl (lv_at hl 1 rfl) ?_
        refine lv_iload_n hx hb dX12_bitsOf_12 rfl (lv_at hl 1 rfl) ?_
        refine lv_iconst (v := 1) hx hb dX12_bitsOf_13 (by decide) ?_
        refine lv_isub hx hb dX12_bitsOf_14 ?_
        refine lv_topi (fun z4717 e4718 => ?_)
        try (have t4719 := tsub e4718 (a := x2_lp4710.toInt) rfl (b := 1) (by decide) (by omega))
        refine lv_iand hx hb dX12_bitsOf_15 ?_
        refine lv_topi (fun z4720 e4721 => ?_)
        have tbz4720 := band e4721 e4718 (by omega)
        refine lv_istore_n (lv' := [(2, .int z4720), (1, .int z4714), (0, .int p0)]) hx hb dX12_bitsOf_16 rfl hl (by decide) rfl (fun ls hl => ?_)
        refine lv_goto (tgt := 4) hx hb dX12_bitsOf_17 (by decide) ?_
        exact ih_lp4710 z4720 z4714  _ _ _  (by omega) hP hS (lv_sub hl [0, 1, 2] rfl)
  obtain ⟨n9, hn9⟩ : ∃ n : Nat, (p0.toBitVec.toNat : Int) + 1 ≤ (n : Int) := ⟨(((p0.toBitVec.toNat : Int) + 1 : Int)).toNat, by omega⟩
  exact lp4710 n9 p0 0  H _ ls  (by have : (0 : Int32).toInt = 0 := (by decide); omega) hP hS hl
