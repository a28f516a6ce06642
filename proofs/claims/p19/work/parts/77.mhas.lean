set_option maxHeartbeats 8000000 in
set_option maxRecDepth 100000 in
theorem c_X12_isKind (l : Launch) (dC : Nat → ClassId) (dI : Nat → Nat → Nat) (g : Nat → Nat) (c : Nat → ClassId) (adK adV : Nat → Nat) (v : Nat → Int32) (F : Nat → Nat → Int32) (rc sz : Nat) (p0 : Int32) (hg : injM g) (hI : IM v F) : Met l yX12_isKind (Cond.code yX12_isKind cX12_isKind 2 (some .boolean) :: wA) ({ frames := 2, cells := 0, slots := 0, locals := 80 }) (va_Pc [.ref (g 0), .int p0] (PM dC dI g c adK adV v F rc sz)) (va_Qi (fun (r : Int32) (u : Unit) => (r.toInt = 1 ∧ 0 ≤ p0.toInt ∧ p0.toInt < (v 2).toInt) ∨ (r.toInt = 0 ∧ (p0.toInt < 0 ∨ (v 2).toInt ≤ p0.toInt))) (fun (_ : Unit) => BM dC dI g c (v, F, rc)) (AM g sz)) 0 0 (AM g sz) := by
  refine Met.ofW (cc := cX12_isKind) (maxL := 2) (ret := (some .boolean)) (by decide) rfl ?_
  intro p e s m args below meth c0 s₁ B hml hv
  obtain ⟨rfl, hsz, hP, hK, hE⟩ := hv
  have hx := B.exec
  have hb := B.bytes
  have hr := B.returns
  have hts := atoms_spec (ws := Cond.code yX12_isKind cX12_isKind 2 (some .boolean) :: wA) B.pre
  have hwd : ∀ w ∈ wA, w.before _ s = true := fun w h => hts w (List.mem_cons_of_mem _ h)
  have hown : s.vm.findClass RX12 = some m.cls := findClass_of_methodNamed B.named
  have hlocks := B.notSynchronized
  subst hsz
  have hl := lv_entry ([.ref (g 0), .int p0]) (n := 2) (Nat.le_of_ble_eq_true rfl)
  rw [lg_entry_eq]
  generalize (lg_sl ([.ref (g 0), .int p0]) ++ List.replicate (2 - (lg_sl ([.ref (g 0), .int p0])).length) Slot.unset).toArray = ls at hl ⊢
  have hl : lv_has ls 2 [(0, .ref (g 0)), (1, .int p0)] := hl
  obtain ⟨H, eH⟩ : ∃ z, z = s.heap := ⟨_, rfl⟩
  have hP : va_P (dC, dI) classes (wM g c v F rc) H := by rw [eH]; exact hP
  have hS : va_S (AM g s.heap.size) s.heap H [] := by rw [eH]; exact va_S.rf
  refine my_heap eH ?_
  have rp0 := i32_rng p0
  refine lv_iload_n hx hb dX12_isKind_0 rfl (lv_at hl 1 rfl) ?_
  refine lv_iconst (v := 0) hx hb dX12_isKind_1 (by decide) ?_
  refine lv_aload_n hx hb dX12_isKind_2 rfl (lv_at hl 0 rfl) ?_
  refine va_get (D := (dC, dI)) (ci := 12) (v := .int (v 2)) (C := RX12) (T := TX12) (N := 63) hx hb hwd inA_X12 hown hK hP 0 rfl rfl 2 (by decide) (hwd _ wk_251) (fun _ h9 => h9) rfl dX12_isKind_3 ?_
  have t4723 : 0 ≤ (v 2).toInt ∧ (v 2).toInt ≤ 10 := hI.1 2 _ _ rfl
  refine lv_iconst (v := 1) hx hb dX12_isKind_6 (by decide) ?_
  refine lv_isub hx hb dX12_isKind_7 ?_
  refine lv_topi (fun z4724 e4725 => ?_)
  try (have t4726 := tsub e4725 (a := (v 2).toInt) rfl (b := 1) (by decide) (by omega))
  refine va_calli (va_runS (As := [.int p0, .int 0, .int z4724]) (rest := []) ⟨hx, hb, hml, hown, hwd⟩ (c_X12_in l dC dI g c adK adV v F rc H.size p0 0 z4724 hg hI ) (va_cwS 3 hwd (gT wk_254 wk_252 wk_253 wk_5) rfl rfl rfl (by decide +kernel) ⟨Nat.le_of_ble_eq_true rfl, Nat.le_of_ble_eq_true rfl⟩) ⟨PM.blind, fun U hU hW => ⟨rfl, PM.at hK hE hP hS hU hW⟩⟩ rfl rfl hl.1 rfl (lv_room (Nat.le_of_ble_eq_true rfl)) dX12_isKind_8 ⟨Nat.le_of_ble_eq_true rfl, Nat.le_of_ble_eq_true rfl⟩) hS (fun q _ h => (freeM hS) q h) (freeM hS) (fun r4727 u t H1 locs ht hvm hw hB hz1 hk1 hS => ?_)
  unfold BM at hB
  rw [ht] at hB
  have hP : va_P (dC, dI) classes (wM g c v F rc) H1 := hB
  have hw_r4727 : (r4727.toInt = 1 ∧ (0 : Int32).toInt ≤ p0.toInt ∧ p0.toInt ≤ z4724.toInt) ∨ (r4727.toInt = 0 ∧ (p0.toInt < (0 : Int32).toInt ∨ z4724.toInt < p0.toInt)) := hw
  clear hw
  have k4728 : (0 : Int32).toInt = 0 := by decide
  clear hz1
  generalize H1 = H at hP hS ⊢
  have hP9 : va_P (dC, dI) classes (wM g c v F rc) H := hP
  exact W.zret (v := r4727) hx hb hr (narB (by omega)) (fun t ht hW => ⟨⟨r4727, (), rfl, (by show (r4727.toInt = 1 ∧ 0 ≤ p0.toInt ∧ p0.toInt < (v 2).toInt) ∨ (r4727.toInt = 0 ∧ (p0.toInt < 0 ∨ (v 2).toInt ≤ p0.toInt)); omega), (by show va_P _ _ _ t.heap; rw [ht]; exact hP9)⟩, hS.F ht⟩) hS.2.2 dX12_isKind_11
set_option maxHeartbeats 8000000 in
set_option maxRecDepth 100000 in
theorem c_X12_isPlane (l : Launch) (dC : Nat → ClassId) (dI : Nat → Nat → Nat) (g : Nat → Nat) (c : Nat → ClassId) (adK adV : Nat → Nat) (v : Nat → Int32) (F : Nat → Nat → Int32) (rc sz : Nat) (p0 : Int32) (hg : injM g) (hI : IM v F) : Met l yX12_isPlane (Cond.code yX12_isPlane cX12_isPlane 2 (some .boolean) :: wA) ({ frames := 2, cells := 0, slots := 0, locals := 80 }) (va_Pc [.ref (g 0), .int p0] (PM dC dI g c adK adV v F rc sz)) (va_Qi (fun (r : Int32) (u : Unit) => (r.toInt = 1 ∧ 0 ≤ p0.toInt ∧ p0.toInt < (v 6).toInt) ∨ (r.toInt = 0 ∧ (p0.toInt < 0 ∨ (v 6).toInt ≤ p0.toInt))) (fun (_ : Unit) => BM dC dI g c (v, F, rc)) (AM g sz)) 0 0 (AM g sz) := by
  refine Met.ofW (cc := cX12_isPlane) (maxL := 2) (ret := (some .boolean)) (by decide) rfl ?_
  intro p e s m args below meth c0 s₁ B hml hv
  obtain ⟨rfl, hsz, hP, hK, hE⟩ := hv
  have hx := B.exec
  have hb := B.bytes
  have hr := B.returns
  have hts := atoms_spec (ws := Cond.code yX12_isPlane cX12_isPlane 2 (some .boolean) :: wA) B.pre
  have hwd : ∀ w ∈ wA, w.before _ s = true := fun w h => hts w (List.mem_cons_of_mem _ h)
  have hown : s.vm.findClass RX12 = some m.cls := findClass_of_methodNamed B.named
  have hlocks := B.notSynchronized
  subst hsz
  have hl := lv_entry ([.ref (g 0), .int p0]) (n := 2) (Nat.le_of_ble_eq_true rfl)
  rw [lg_entry_eq]
  generalize (lg_sl ([.ref (g 0), .int p0]) ++ List.replicate (2 - (lg_sl ([.ref (g 0), .int p0])).length) Slot.unset).toArray = ls at hl ⊢
  have hl : lv_has ls 2 [(0, .ref (g 0)), (1, .int p0)] := hl
  obtain ⟨H, eH⟩ : ∃ z, z = s.heap := ⟨_, rfl⟩
  have hP : va_P (dC, dI) classes (wM g c v F rc) H := by rw [eH]; exact hP
  have hS : va_S (AM g s.heap.size) s.heap H [] := by rw [eH]; exact va_S.rf
  refine my_heap eH ?_
  have rp0 := i32_rng p0
  refine lv_iload_n hx hb dX12_isPlane_0 rfl (lv_at hl 1 rfl) ?_
  refine lv_iconst (v := 0) hx hb dX12_isPlane_1 (by decide) ?_
  refine lv_aload_n hx hb dX12_isPlane_2 rfl (lv_at hl 0 rfl) ?_
  refine va_get (D := (dC, dI)) (ci := 12) (v := .int (v 6)) (C := RX12) (T := TX12) (N := 63) hx hb hwd inA_X12 hown hK hP 0 rfl rfl 6 (by decide) (hwd _ wk_268) (fun _ h9 => h9) rfl dX12_isPlane_3 ?_
  have t4729 : 0 ≤ (v 6).toInt ∧ (v 6).toInt ≤ 10 := hI.1 6 _ _ rfl
  refine lv_iconst (v := 1) hx hb dX12_isPlane_6 (by decide) ?_
  refine lv_isub hx hb dX12_isPlane_7 ?_
  refine lv_topi (fun z4730 e4731 => ?_)
  try (have t4732 := tsub e4731 (a := (v 6).toInt) rfl (b := 1) (by decide) (by omega))
  refine va_calli (va_runS (As := [.int p0, .int 0, .int z4730]) (rest := []) ⟨hx, hb, hml, hown, hwd⟩ (c_X12_in l dC dI g c adK adV v F rc H.size p0 0 z4730 hg hI ) (va_cwS 3 hwd (gT wk_254 wk_252 wk_253 wk_5) rfl rfl rfl (by decide +kernel) ⟨Nat.le_of_ble_eq_true rfl, Nat.le_of_ble_eq_true rfl⟩) ⟨PM.blind, fun U hU hW => ⟨rfl, PM.at hK hE hP hS hU hW⟩⟩ rfl rfl hl.1 rfl (lv_room (Nat.le_of_ble_eq_true rfl)) dX12_isPlane_8 ⟨Nat.le_of_ble_eq_true rfl, Nat.le_of_ble_eq_true rfl⟩) hS (fun q _ h => (freeM hS) q h) (freeM hS) (fun r4733 u t H1 locs ht hvm hw hB hz1 hk1 hS => ?_)
  unfold BM at hB
  rw [ht] at hB
  have hP : va_P (dC, dI) classes (wM g c v F rc) H1 := hB
  have hw_r4733 : (r4733.toInt = 1 ∧ (0 : Int32).toInt ≤ p0.toInt ∧ p0.toInt ≤ z4730.toInt) ∨ (r4733.toInt = 0 ∧ (p0.toInt < (0 : Int32).toInt ∨ z4730.toInt < p0.toInt)) := hw
  clear hw
  have k4734 : (0 : Int32).toInt = 0 := by decide
  clear hz1
  generalize H1 = H at hP hS ⊢
  have hP9 : va_P (dC, dI) classes (wM g c v F rc) H := hP
  exact W.zret (v := r4733) hx hb hr (narB (by omega)) (fun t ht hW => ⟨⟨r4733, (), rfl, (by show (r4733.toInt = 1 ∧ 0 ≤ p0.toInt ∧ p0.toInt < (v 6).toInt) ∨ (r4733.toInt = 0 ∧ (p0.toInt < 0 ∨ (v 6).toInt ≤ p0.toInt)); omega), (by show va_P _ _ _ t.heap; rw [ht]; exact hP9)⟩, hS.F ht⟩) hS.2.2 dX12_isPlane_11
set_option maxHeartbeats 8000000 in
set_option maxRecDepth 100000 in
theorem c_X12_isPart (l : Launch) (dC : Nat → ClassId) (dI : Nat → Nat → Nat) (g : Nat → Nat) (c : Nat → ClassId) (adK adV : Nat → Nat) (v : Nat → Int32) (F : Nat → Nat → Int32) (rc sz : Nat) (p0 : Int32) (hg : injM g) (hI : IM v F) : Met l yX12_isPart (Cond.code yX12_isPart cX12_isPart 2 (some .boolean) :: wA) ({ frames := 2, cells := 0, slots := 0, locals := 80 }) (va_Pc [.ref (g 0), .int p0] (PM dC dI g c adK adV v F rc sz)) (va_Qi (fun (r : Int32) (u : Unit) => (r.toInt = 1 ∧ 0 ≤ p0.toInt ∧ p0.toInt < (v 14).toInt) ∨ (r.toInt = 0 ∧ (p0.toInt < 0 ∨ (v 14).toInt ≤ p0.toInt))) (fun (_ : Unit) => BM dC dI g c (v, F, rc)) (AM g sz)) 0 0 (AM g sz) := by
  refine Met.ofW (cc := cX12_isPart) (maxL := 2) (ret := (some .boolean)) (by decide) rfl ?_
  intro p e s m args below meth c0 s₁ B hml hv
  obtain ⟨rfl, hsz, hP, hK, hE⟩ := hv
  have hx := B.exec
  have hb := B.bytes
  have hr := B.returns
  have hts := atoms_spec (ws := Cond.code yX12_isPart cX12_isPart 2 (some .boolean) :: wA) B.pre
  have hwd : ∀ w ∈ wA, w.before _ s = true := fun w h => hts w (List.mem_cons_of_mem _ h)
  have hown : s.vm.findClass RX12 = some m.cls := findClass_of_methodNamed B.named
  have hlocks := B.notSynchronized
  subst hsz
  have hl := lv_entry ([.ref (g 0), .int p0]) (n := 2) (Nat.le_of_ble_eq_true rfl)
  rw [lg_entry_eq]
  generalize (lg_sl ([.ref (g 0), .int p0]) ++ List.replicate (2 - (lg_sl ([.ref (g 0), .int p0])).length) Slot.unset).toArray = ls at hl ⊢
  have hl : lv_has ls 2 [(0, .ref (g 0)), (1, .int p0)] := hl
  obtain ⟨H, eH⟩ : ∃ z, z = s.heap := ⟨_, rfl⟩
  have hP : va_P (dC, dI) classes (wM g c v F rc) H := by rw [eH]; exact hP
  have hS : va_S (AM g s.heap.size) s.heap H [] := by rw [eH]; exact va_S.rf
  refine my_heap eH ?_
  have rp0 := i32_rng p0
  refine lv_iload_n hx hb dX12_isPart_0 rfl (lv_at hl 1 rfl) ?_
  refine lv_iconst (v := 0) hx hb dX12_isPart_1 (by decide) ?_
  refine lv_aload_n hx hb dX12_isPart_2 rfl (lv_at hl 0 rfl) ?_
  refine va_get (D := (dC, dI)) (ci := 12) (v := .int (v 14)) (C := RX12) (T := TX12) (N := 63) hx hb hwd inA_X12 hown hK hP 0 rfl rfl 14 (by decide) (hwd _ wk_318) (fun _ h9 => h9) rfl dX12_isPart_3 ?_
  have t4735 : 0 ≤ (v 14).toInt ∧ (v 14).toInt ≤ 100 := hI.1 14 _ _ rfl
  refine lv_iconst (v := 1) hx hb dX12_isPart_6 (by decide) ?_
  refine lv_isub hx hb dX12_isPart_7 ?_
  refine lv_topi (fun z4736 e4737 => ?_)
  try (have t4738 := tsub e4737 (a := (v 14).toInt) rfl (b := 1) (by decide) (by omega))
  refine va_calli (va_runS (As := [.int p0, .int 0, .int z4736]) (rest := []) ⟨hx, hb, hml, hown, hwd⟩ (c_X12_in l dC dI g c adK adV v F rc H.size p0 0 z4736 hg hI ) (va_cwS 3 hwd (gT wk_254 wk_252 wk_253 wk_5) rfl rfl rfl (by decide +kernel) ⟨Nat.le_of_ble_eq_true rfl, Nat.le_of_ble_eq_true rfl⟩) ⟨PM.blind, fun U hU hW => ⟨rfl, PM.at hK hE hP hS hU hW⟩⟩ rfl rfl hl.1 rfl (lv_room (Nat.le_of_ble_eq_true rfl)) dX12_isPart_8 ⟨Nat.le_of_ble_eq_true rfl, Nat.le_of_ble_eq_true rfl⟩) hS (fun q _ h => (freeM hS) q h) (freeM hS) (fun r4739 u t H1 locs ht hvm hw hB hz1 hk1 hS => ?_)
  unfold BM at hB
  rw [ht] at hB
  have hP : va_P (dC, dI) classes (wM g c v F rc) H1 := hB
  have hw_r4739 : (r4739.toInt = 1 ∧ (0 : Int32).toInt ≤ p0.toInt ∧ p0.toInt ≤ z4736.toInt) ∨ (r4739.toInt = 0 ∧ (p0.toInt < (0 : Int32).toInt ∨ z4736.toInt < p0.toInt)) := hw
  clear hw
  have k4740 : (0 : Int32).toInt = 0 := by decide
  clear hz1
  generalize H1 = H at hP hS ⊢
  have hP9 : va_P (dC, dI) classes (wM g c v F rc) H := hP
  exact W.zret (v := r4739) hx hb hr (narB (by omega)) (fun t ht hW => ⟨⟨r4739, (), rfl, (by show (r4739.toInt = 1 ∧ 0 ≤ p0.toInt ∧ p0.toInt < (v 14).toInt) ∨ (r4739.toInt = 0 ∧ (p0.toInt < 0 ∨ (v 14).toInt ≤ p0.toInt)); omega), (by show va_P _ _ _ t.heap; rw [ht]; exact hP9)⟩, hS.F ht⟩) hS.2.2 dX12_isPart_11
set_option maxHeartbeats 8000000 in
set_option maxRecDepth 100000 in
theorem c_X12_isReturned (l : Launch) (dC : Nat → ClassId) (dI : Nat → Nat → Nat) (g : Nat → Nat) (c : Nat → ClassId) (adK adV : Nat → Nat) (v : Nat → Int32) (F : Nat → Nat → Int32) (rc sz : Nat) (p0 : Int32) (hg : injM g) (hI : IM v F) (h0 : 0 ≤ p0.toInt ∧ p0.toInt ≤ 9) : Met l yX12_isReturned (Cond.code yX12_isReturned cX12_isReturned 2 (some .boolean) :: wA) ({ frames := 1, cells := 0, slots := 0, locals := 40 }) (va_Pc [.ref (g 0), .int p0] (PM dC dI g c adK adV v F rc sz)) (va_Qi (fun (r : Int32) (u : Unit) => (r.toInt = 1 ∧ 0 ≤ (F 8 p0.toNatClampNeg).toInt) ∨ (r.toInt = 0 ∧ (F 8 p0.toNatClampNeg).toInt < 0)) (fun (_ : Unit) => BM dC dI g c (v, F, rc)) (AM g sz)) 0 0 (AM g sz) := by
  refine Met.ofW (cc := cX12_isReturned) (maxL := 2) (ret := (some .boolean)) (by decide) rfl ?_
  intro p e s m args below meth c0 s₁ B hml hv
  obtain ⟨rfl, hsz, hP, hK, hE⟩ := hv
  have hx := B.exec
  have hb := B.bytes
  have hr := B.returns
  have hts := atoms_spec (ws := Cond.code yX12_isReturned cX12_isReturned 2 (some .boolean) :: wA) B.pre
  have hwd : ∀ w ∈ wA, w.before _ s = true := fun w h => hts w (List.mem_cons_of_mem _ h)
  have hown : s.vm.findClass RX12 = some m.cls := findClass_of_methodNamed B.named
  have hlocks := B.notSynchronized
  subst hsz
  have hl := lv_entry ([.ref (g 0), .int p0]) (n := 2) (Nat.le_of_ble_eq_true rfl)
  rw [lg_entry_eq]
  generalize (lg_sl ([.ref (g 0), .int p0]) ++ List.replicate (2 - (lg_sl ([.ref (g 0), .int p0])).length) Slot.unset).toArray = ls at hl ⊢
  have hl : lv_has ls 2 [(0, .ref (g 0)), (1, .int p0)] := hl
  obtain ⟨H, eH⟩ : ∃ z, z = s.heap := ⟨_, rfl⟩
  have hP : va_P (dC, dI) classes (wM g c v F rc) H := by rw [eH]; exact hP
  have hS : va_S (AM g s.heap.size) s.heap H [] := by rw [eH]; exact va_S.rf
  refine my_heap eH ?_
  have rp0 := i32_rng p0
  refine lv_aload_n hx hb dX12_isReturned_0 rfl (lv_at hl 0 rfl) ?_
  refine va_get (D := (dC, dI)) (ci := 12) (v := .ref (g 8)) (C := RX12) (T := TX12) (N := 63) hx hb hwd inA_X12 hown hK hP 0 rfl rfl 11 (by decide) (hwd _ wk_189) (fun _ h9 => h9) rfl dX12_isReturned_1 ?_
  refine lv_iload_n hx hb dX12_isReturned_4 rfl (lv_at hl 1 rfl) ?_
  refine va_iald hx hb hK hP 8 7 rfl rfl (i := p0) (vin (a := p0.toInt) rfl (by omega)) dX12_isReturned_5 ?_
  refine lv_topi (fun z4741 e4742 => ?_)
  refine lv_if_lt (tgt := 13) hx hb dX12_isReturned_6 (by decide) (fun c4743 => ?_) (fun c4743 => ?_)
  · skip
    have t4744 := cv_lt (a := z4741.toInt) rfl (b := 0) (by decide) c4743
    refine lv_iconst (v := 0) hx hb dX12_isReturned_13 (by decide) ?_
    have hP9 : va_P (dC, dI) classes (wM g c v F rc) H := hP
    exact W.zret (v := 0) hx hb hr (rfl) (fun t ht hW => ⟨⟨0, (), rfl, (by show ((0 : Int32).toInt = 1 ∧ 0 ≤ (F 8 p0.toNatClampNeg).toInt) ∨ ((0 : Int32).toInt = 0 ∧ (F 8 p0.toNatClampNeg).toInt < 0); have : (0 : Int32).toInt = 0 := (by decide); have a_z4741 := congrArg Int32.toInt e4742; omega), (by show va_P _ _ _ t.heap; rw [ht]; exact hP9)⟩, hS.F ht⟩) hS.2.2 dX12_isReturned_14
  · skip
    have t4745 := cv_nlt (a := z4741.toInt) rfl (b := 0) (by decide) c4743
    refine lv_iconst (v := 1) hx hb dX12_isReturned_9 (by decide) ?_
    refine lv_goto (tgt := 14) hx hb dX12_isReturned_10 (by decide) ?_
    have hP9 : va_P (dC, dI) classes (wM g c v F rc) H := hP
    exact W.zret (v := 1) hx hb hr (rfl) (fun t ht hW => ⟨⟨1, (), rfl, (by show ((1 : Int32).toInt = 1 ∧ 0 ≤ (F 8 p0.toNatClampNeg).toInt) ∨ ((1 : Int32).toInt = 0 ∧ (F 8 p0.toNatClampNeg).toInt < 0); have : (1 : Int32).toInt = 1 := (by decide); have a_z4741 := congrArg Int32.toInt e4742; omega), (by show va_P _ _ _ t.heap; rw [ht]; exact hP9)⟩, hS.F ht⟩) hS.2.2 dX12_isReturned_14
set_option maxHeartbeats 8000000 in
set_option maxRecDepth 100000 in
theorem c_X12_hasContract (l : Launch) (dC : Nat → ClassId) (dI : Nat → Nat → Nat) (g : Nat → Nat) (c : Nat → ClassId) (adK adV : Nat → Nat) (v : Nat → Int32) (F : Nat → Nat → Int32) (rc sz : Nat) (p0 : Int32) (hg : injM g) (hI : IM v F) (h0 : 0 ≤ p0.toInt ∧ p0.toInt ≤ 9) : Met l yX12_hasContract (Cond.code yX12_hasContract cX12_hasContract 2 (some .boolean) :: wA) ({ frames := 1, cells := 0, slots := 0, locals := 40 }) (va_Pc [.ref (g 0), .int p0] (PM dC dI g c adK adV v F rc sz)) (va_Qi (fun (r : Int32) (u : Unit) => (r.toInt = 1 ∧ 0 ≤ (F 35 p0.toNatClampNeg).toInt) ∨ (r.toInt = 0 ∧ (F 35 p0.toNatClampNeg).toInt < 0)) (fun (_ : Unit) => BM dC dI g c (v, F, rc)) (AM g sz)) 0 0 (AM g sz) := by
  refine Met.ofW (cc := cX12_hasContract) (maxL := 2) (ret := (some .boolean)) (by decide) rfl ?_
  intro p e s m args below meth c0 s₁ B hml hv
  obtain ⟨rfl, hsz, hP, hK, hE⟩ := hv
  have hx := B.exec
  have hb := B.bytes
  have hr := B.returns
  have hts := atoms_spec (ws := Cond.code yX12_hasContract cX12_hasContract 2 (some .boolean) :: wA) B.pre
  have hwd : ∀ w ∈ wA, w.before _ s = true := fun w h => hts w (List.mem_cons_of_mem _ h)
  have hown : s.vm.findClass RX12 = some m.cls := findClass_of_methodNamed B.named
  have hlocks := B.notSynchronized
  subst hsz
  have hl := lv_entry ([.ref (g 0), .int p0]) (n := 2) (Nat.le_of_ble_eq_true rfl)
  rw [lg_entry_eq]
  generalize (lg_sl ([.ref (g 0), .int p0]) ++ List.replicate (2 - (lg_sl ([.ref (g 0), .int p0])).length) Slot.unset).toArray = ls at hl ⊢
  have hl : lv_has ls 2 [(0, .ref (g 0)), (1, .int p0)] := hl
  obtain ⟨H, eH⟩ : ∃ z, z = s.heap := ⟨_, rfl⟩
  have hP : va_P (dC, dI) classes (wM g c v F rc) H := by rw [eH]; exact hP
  have hS : va_S (AM g s.heap.size) s.heap H [] := by rw [eH]; exact va_S.rf
  refine my_heap eH ?_
  have rp0 := i32_rng p0
  refine lv_aload_n hx hb dX12_hasContract_0 rfl (lv_at hl 0 rfl) ?_
  refine va_get (D := (dC, dI)) (ci := 12) (v := .ref (g 35)) (C := RX12) (T := TX12) (N := 63) hx hb hwd inA_X12 hown hK hP 0 rfl rfl 49 (by decide) (hwd _ wk_217) (fun _ h9 => h9) rfl dX12_hasContract_1 ?_
  refine lv_iload_n hx hb dX12_hasContract_4 rfl (lv_at hl 1 rfl) ?_
  refine va_iald hx hb hK hP 35 34 rfl rfl (i := p0) (vin (a := p0.toInt) rfl (by omega)) dX12_hasContract_5 ?_
  refine lv_topi (fun z4746 e4747 => ?_)
  refine lv_if_lt (tgt := 13) hx hb dX12_hasContract_6 (by decide) (fun c4748 => ?_) (fun c4748 => ?_)
  · skip
    have t4749 := cv_lt (a := z4746.toInt) rfl (b := 0) (by decide) c4748
    refine lv_iconst (v := 0) hx hb dX12_hasContract_13 (by decide) ?_
    have hP9 : va_P (dC, dI) classes (wM g c v F rc) H := hP
    exact W.zret (v := 0) hx hb hr (rfl) (fun t ht hW => ⟨⟨0, (), rfl, (by show ((0 : Int32).toInt = 1 ∧ 0 ≤ (F 35 p0.toNatClampNeg).toInt) ∨ ((0 : Int32).toInt = 0 ∧ (F 35 p0.toNatClampNeg).toInt < 0); have : (0 : Int32).toInt = 0 := (by decide); have a_z4746 := congrArg Int32.toInt e4747; omega), (by show va_P _ _ _ t.heap; rw [ht]; exact hP9)⟩, hS.F ht⟩) hS.2.2 dX12_hasContract_14
  · skip
    have t4750 := cv_nlt (a := z4746.toInt) rfl (b := 0) (by decide) c4748
    refine lv_iconst (v := 1) hx hb dX12_hasContract_9 (by decide) ?_
    refine lv_goto (tgt := 14) hx hb dX12_hasContract_10 (by decide) ?_
    have hP9 : va_P (dC, dI) classes (wM g c v F rc) H := hP
    exact W.zret (v := 1) hx hb hr (rfl) (fun t ht hW => ⟨⟨1, (), rfl, (by show ((1 : Int32).toInt = 1 ∧ 0 ≤ (F 35 p0.toNatClampNeg).toInt) ∨ ((1 : Int32).toInt = 0 ∧ (F 35 p0.toNatClampNeg).toInt < 0); have : (1 : Int32).toInt = 1 := (by decide); have a_z4746 := congrArg Int32.toInt e4747; omega), (by show va_P _ _ _ t.heap; rw [ht]; exact hP9)⟩, hS.F ht⟩) hS.2.2 dX12_hasContract_14
set_option maxHeartbeats 8000000 in
set_option maxRecDepth 100000 in
theorem c_X12_onIt (l : Launch) (dC : Nat → ClassId) (dI : Nat → Nat → Nat) (g : Nat → Nat) (c : Nat → ClassId) (adK adV : Nat → Nat) (v : Nat → Int32) (F : Nat → Nat → Int32) (rc sz : Nat) (p0 : Int32) (p1 : Int32) (hg : injM g) (hI : IM v F) : Met l yX12_onIt (Cond.code yX12_onIt cX12_onIt 5 (some .int) :: wA) ({ frames := 1, cells := 0, slots := 0, locals := 40 }) (va_Pc [.ref (g 0), .int p0, .int p1] (PM dC dI g c adK adV v F rc sz)) (va_Qi (fun (r : Int32) (u : Unit) => True) (fun (_ : Unit) => BM dC dI g c (v, F, rc)) (AM g sz)) 0 0 (AM g sz) := by
  refine Met.ofW (cc := cX12_onIt) (maxL := 5) (ret := (some .int)) (by decide) rfl ?_
  intro p e s m args below meth c0 s₁ B hml hv
  obtain ⟨rfl, hsz, hP, hK, hE⟩ := hv
  have hx := B.exec
  have hb := B.bytes
  have hr := B.returns
  have hts := atoms_spec (ws := Cond.code yX12_onIt cX12_onIt 5 (some .int) :: wA) B.pre
  have hwd : ∀ w ∈ wA, w.before _ s = true := fun w h => hts w (List.mem_cons_of_mem _ h)
  have hown : s.vm.findClass RX12 = some m.cls := findClass_of_methodNamed B.named
  have hlocks := B.notSynchronized
  subst hsz
  have hl := lv_entry ([.ref (g 0), .int p0, .int p1]) (n := 5) (Nat.le_of_ble_eq_true rfl)
  rw [lg_entry_eq]
  generalize (lg_sl ([.ref (g 0), .int p0, .int p1]) ++ List.replicate (5 - (lg_sl ([.ref (g 0), .int p0, .int p1])).length) Slot.unset).toArray = ls at hl ⊢
  have hl : lv_has ls 5 [(0, .ref (g 0)), (1, .int p0), (2, .int p1)] := hl
  obtain ⟨H, eH⟩ : ∃ z, z = s.heap := ⟨_, rfl⟩
  have hP : va_P (dC, dI) classes (wM g c v F rc) H := by rw [eH]; exact hP
  have hS : va_S (AM g s.heap.size) s.heap H [] := by rw [eH]; exact va_S.rf
  refine my_heap eH ?_
  have rp0 := i32_rng p0
  have rp1 := i32_rng p1
  refine lv_iconst (v := 0) hx hb dX12_onIt_0 (by decide) ?_
  refine lv_istore_n (lv' := [(3, .int 0), (0, .ref (g 0)), (1, .int p0), (2, .int p1)]) hx hb dX12_onIt_1 rfl hl (by decide) rfl (fun ls hl => ?_)
  refine lv_iconst (v := 0) hx hb dX12_onIt_2 (by decide) ?_
  refine lv_istore (lv' := [(4, .int 0), (3, .int 0), (0, .ref (g 0)), (1, .int p0), (2, .int p1)]) hx hb dX12_onIt_3 hl (by decide) rfl (fun ls hl => ?_)
  have lp4751 : ∀ (n : Nat) (x4_lp4751 : Int32) (x3_lp4751 : Int32) (H : Heap) (locs : List Loc) (ls : Array Slot), (0 ≤ x4_lp4751.toInt) → (2147483648 - x4_lp4751.toInt ≤ (n : Int)) → va_P (dC, dI) classes (wM g c v F rc) H → va_S (AM g s.heap.size) s.heap H locs → lv_has ls 5 [(4, .int x4_lp4751), (3, .int x3_lp4751), (0, .ref (g 0)), (1, .int p0), (2, .int p1)] → W p l e (headSpec (Cond.code yX12_onIt cX12_onIt 5 (some .int) :: wA) ({ frames := 1, cells := 0, slots := 0, locals := 40 })).room s m ([.ref (g 0), .int p0, .int p1] : List Value).toArray below meth c0 H locs 0 0 (MQ below (va_Qi (fun (r : Int32) (u : Unit) => True) (fun (_ : Unit) => BM dC dI g c (v, F, rc)) (AM g s.heap.size)) ([.ref (g 0), .int p0, .int p1] : List Value).toArray s 0 0 (AM g s.heap.size)) (F0 m 5 ls []) := by
    intro n
    induction n with
    | zero =>
      intro x4_lp4751 x3_lp4751 H locs ls t4752 hm hP hS hl
      exfalso
      have := i32_rng x4_lp4751
      have := i32_rng x3_lp4751
      omega
    | succ n ih_lp4751 =>
      intro x4_lp4751 x3_lp4751 H locs ls t4752 hm hP hS hl
      have rx4_lp4751 := i32_rng x4_lp4751
      have rx3_lp4751 := i32_rng x3_lp4751
      refine lv_iload hx hb dX12_onIt_5 (lv_at hl 0 rfl) ?_
      refine lv_aload_n hx hb dX12_onIt_7 rfl (lv_at hl 2 rfl) ?_
      refine va_get (D := (dC, dI)) (ci := 12) (v := .int (v 14)) (C := RX12) (T := TX12) (N := 63) hx hb hwd inA_X12 hown hK hP 0 rfl rfl 14 (by decide) (hwd _ wk_318) (fun _ h9 => h9) rfl dX12_onIt_8 ?_
      have t4753 : 0 ≤ (v 14).toInt ∧ (v 14).toInt ≤ 100 := hI.1 14 _ _ rfl
      refine lv_icmp_ge (tgt := 50) hx hb dX12_onIt_11 (by decide) (fun c4754 => ?_) (fun c4754 => ?_)
      · skip
        have t4755 := cv_le (a := (v 14).toInt) rfl (b := x4_lp4751.toInt) rfl c4754
        refine lv_iload_n hx hb dX12_onIt_50 rfl (lv_at hl 1 rfl) ?_
        have hP9 : va_P (dC, dI) classes (wM g c v F rc) H := hP
        exact W.iret (v := x3_lp4751) hx hb hr (fun t ht hW => ⟨⟨x3_lp4751, (), rfl, trivial, (by show va_P _ _ _ t.heap; rw [ht]; exact hP9)⟩, hS.F ht⟩) hS.2.2 dX12_onIt_51
      · skip
        have t4756 := cv_nle (a := (v 14).toInt) rfl (b := x4_lp4751.toInt) rfl c4754
        refine lv_iload_n hx hb dX12_onIt_14 rfl (lv_at hl 1 rfl) ?_
        refine lv_aload_n hx hb dX12_onIt_15 rfl (lv_at hl 2 rfl) ?_
        refine va_get (D := (dC, dI)) (ci := 12) (v := .ref (g 13)) (C := RX12) (T := TX12) (N := 63) hx hb hwd inA_X12 hown hK hP 0 rfl rfl 17 (by decide) (hwd _ wk_194) (fun _ h9 => h9) rfl dX12_onIt_16 ?_
        refine lv_iload hx hb dX12_onIt_19 (lv_at hl 0 rfl) ?_
        refine va_iald hx hb hK hP 13 12 rfl rfl (i := x4_lp4751) (vin (a := x4_lp4751.toInt) rfl (by omega)) dX12_onIt_21 ?_
        refine lv_topi (fun z4757 e4758 => ?_)
        have t4759 : 0 ≤ z4757.toInt ∧ z4757.toInt ≤ 12 := by rw [e4758]; exact hI.2 13 _ _ rfl _
        refine lv_iload_n hx hb dX12_onIt_22 rfl (lv_at hl 3 rfl) ?_
        refine lv_icmp_ne (tgt := 41) hx hb dX12_onIt_23 (by decide) (fun c4760 => ?_) (fun c4760 => ?_)
        · skip
          have t4761 := cv_ne (a := z4757.toInt) rfl (b := p0.toInt) rfl c4760
          refine lv_iconst (v := 0) hx hb dX12_onIt_41 (by decide) ?_
          refine lv_iadd hx hb dX12_onIt_42 ?_
          refine lv_topi (fun z4762 e4763 => ?_)
          try (have t4764 := tadd e4763 (a := x3_lp4751.toInt) rfl (b := 0) (by decide) (by omega))
          refine lv_istore_n (lv' := [(3, .int z4762), (4, .int x4_lp4751), (0, .ref (g 0)), (1, .int p0), (2, .int p1)]) hx hb dX12_onIt_43 rfl hl (by decide) rfl (fun ls hl => ?_)
          obtain ⟨z4765, e4766⟩ : ∃ y : Int32, y = x4_lp4751 + 1 := ⟨_, rfl⟩
          try (have t4767 := tadd e4766 rfl (b := 1) (by decide) (by omega))
          refine lv_iinc (v := z4765) (lv' := [(4, .int z4765), (3, .int z4762), (0, .ref (g 0)), (1, .int p0), (2, .int p1)]) hx hb dX12_onIt_44 hl (k := 1) rfl (by rw [e4766]; rfl) (by decide) rfl (fun ls hl => ?_)
          refine lv_goto (tgt := 5) hx hb dX12_onIt_47 (by decide) ?_
          exact ih_lp4751 z4765 z4762  _ _ _ (by omega) (by omega) hP hS (lv_sub hl [0, 1, 2, 3, 4] rfl)
        · skip
          have t4768 := cv_eq (a := z4757.toInt) rfl (b := p0.toInt) rfl c4760
          refine lv_aload_n hx hb dX12_onIt_26 rfl (lv_at hl 2 rfl) ?_
          refine va_get (D := (dC, dI)) (ci := 12) (v := .ref (g 11)) (C := RX12) (T := TX12) (N := 63) hx hb hwd inA_X12 hown hK hP 0 rfl rfl 15 (by decide) (hwd _ wk_192) (fun _ h9 => h9) rfl dX12_onIt_27 ?_
          refine lv_iload hx hb dX12_onIt_30 (lv_at hl 0 rfl) ?_
          refine va_iald hx hb hK hP 11 10 rfl rfl (i := x4_lp4751) (vin (a := x4_lp4751.toInt) rfl (by omega)) dX12_onIt_32 ?_
          refine lv_topi (fun z4769 e4770 => ?_)
          have t4771 : 0 ≤ z4769.toInt ∧ z4769.toInt ≤ 9 := by rw [e4770]; exact hI.2 11 _ _ rfl _
          refine lv_iload_n hx hb dX12_onIt_33 rfl (lv_at hl 4 rfl) ?_
          refine lv_icmp_ne (tgt := 41) hx hb dX12_onIt_34 (by decide) (fun c4772 => ?_) (fun c4772 => ?_)
          · skip
            have t4773 := cv_ne (a := z4769.toInt) rfl (b := p1.toInt) rfl c4772
            refine lv_iconst (v := 0) hx hb dX12_onIt_41 (by decide) ?_
            refine lv_iadd hx hb dX12_onIt_42 ?_
            refine lv_topi (fun z4774 e4775 => ?_)
            try (have t4776 := tadd e4775 (a := x3_lp4751.toInt) rfl (b := 0) (by decide) (by omega))
            refine lv_istore_n (lv' := [(3, .int z4774), (4, .int x4_lp4751), (0, .ref (g 0)), (1, .int p0), (2, .int p1)]) hx hb dX12_onIt_43 rfl hl (by decide) rfl (fun ls hl => ?_)
            obtain ⟨z4777, e4778⟩ : ∃ y : Int32, y = x4_lp4751 + 1 := ⟨_, rfl⟩
            try (have t4779 := tadd e4778 rfl (b := 1) (by decide) (by omega))
            refine lv_iinc (v := z4777) (lv' := [(4, .int z4777), (3, .int z4774), (0, .ref (g 0)), (1, .int p0), (2, .int p1)]) hx hb dX12_onIt_44 hl (k := 1) rfl (by rw [e4778]; rfl) (by decide) rfl (fun ls hl => ?_)
            refine lv_goto (tgt := 5) hx hb dX12_onIt_47 (by decide) ?_
            exact ih_lp4751 z4777 z4774  _ _ _ (by omega) (by omega) hP hS (lv_sub hl [0, 1, 2, 3, 4] rfl)
          · skip
            have t4780 := cv_eq (a := z4769.toInt) rfl (b := p1.toInt) rfl c4772
            refine lv_iconst (v := 1) hx hb dX12_onIt_37 (by decide) ?_
            refine lv_goto (tgt := 42) hx hb dX12_onIt_38 (by decide) ?_
            refine lv_iadd hx hb dX12_onIt_42 ?_
            refine lv_topi (fun z4781 e4782 => ?_)
            try (have t4783 := tadd e4782 (a := x3_lp4751.toInt) rfl (b := 1) (by decide) (by omega))
            refine lv_istore_n (lv' := [(3, .int z4781), (4, .int x4_lp4751), (0, .ref (g 0)), (1, .int p0), (2, .int p1)]) hx hb dX12_onIt_43 rfl hl (by decide) rfl (fun ls hl => ?_)
            obtain ⟨z4784, e4785⟩ : ∃ y : Int32, y = x4_lp4751 + 1 := ⟨_, rfl⟩
            try (have t4786 := tadd e4785 rfl (b := 1) (by decide) (by omega))
            refine lv_iinc (v := z4784) (lv' := [(4, .int z4784), (3, .int z4781), (0, .ref (g 0)), (1, .int p0), (2, .int p1)]) hx hb dX12_onIt_44 hl (k := 1) rfl (by rw [e4785]; rfl) (by decide) rfl (fun ls hl => ?_)
            refine lv_goto (tgt := 5) hx hb dX12_onIt_47 (by decide) ?_
            exact ih_lp4751 z4784 z4781  _ _ _ (by omega) (by omega) hP hS (lv_sub hl [0, 1, 2, 3, 4] rfl)
  obtain ⟨n9, hn9⟩ : ∃ n : Nat, 2147483648 - 0 ≤ (n : Int) := ⟨((2147483648 - 0 : Int)).toNat, by omega⟩
  exact lp4751 n9 0 0  H _ ls (by have : (0 : Int32).toInt = 0 := (by decide); have : (0 : Int32).toInt = 0 := (by decide); omega) (by have : (0 : Int32).toInt = 0 := (by decide); have : (0 : Int32).toInt = 0 := (by decide); omega) hP hS hl
set_option maxHeartbeats 8000000 in
set_option maxRecDepth 100000 in
theorem c_X12_partsAt (l : Launch) (dC : Nat → ClassId) (dI : Nat → Nat → Nat) (g : Nat → Nat) (c : Nat → ClassId) (adK adV : Nat → Nat) (v : Nat → Int32) (F : Nat → Nat → Int32) (rc sz : Nat) (p0 : Int32) (hg : injM g) (hI : IM v F) : Met l yX12_partsAt (Cond.code yX12_partsAt cX12_partsAt 4 (some .int) :: wA) ({ frames := 1, cells := 0, slots := 0, locals := 40 }) (va_Pc [.ref (g 0), .int p0] (PM dC dI g c adK adV v F rc sz)) (va_Qi (fun (r : Int32) (u : Unit) => True) (fun (_ : Unit) => BM dC dI g c (v, F, rc)) (AM g sz)) 0 0 (AM g sz) := by
  refine Met.ofW (cc := cX12_partsAt) (maxL := 4) (ret := (some .int)) (by decide) rfl ?_
  intro p e s m args below meth c0 s₁ B hml hv
  obtain ⟨rfl, hsz, hP, hK, hE⟩ := hv
  have hx := B.exec
  have hb := B.bytes
  have hr := B.returns
  have hts := atoms_spec (ws := Cond.code yX12_partsAt cX12_partsAt 4 (some .int) :: wA) B.pre
  have hwd : ∀ w ∈ wA, w.before _ s = true := fun w h => hts w (List.mem_cons_of_mem _ h)
  have hown : s.vm.findClass RX12 = some m.cls := findClass_of_methodNamed B.named
  have hlocks := B.notSynchronized
  subst hsz
  have hl := lv_entry ([.ref (g 0), .int p0]) (n := 4) (Nat.le_of_ble_eq_true rfl)
  rw [lg_entry_eq]
  generalize (lg_sl ([.ref (g 0), .int p0]) ++ List.replicate (4 - (lg_sl ([.ref (g 0), .int p0])).length) Slot.unset).toArray = ls at hl ⊢
  have hl : lv_has ls 4 [(0, .ref (g 0)), (1, .int p0)] := hl
  obtain ⟨H, eH⟩ : ∃ z, z = s.heap := ⟨_, rfl⟩
  have hP : va_P (dC, dI) classes (wM g c v F rc) H := by rw [eH]; exact hP
  have hS : va_S (AM g s.heap.size) s.heap H [] := by rw [eH]; exact va_S.rf
  refine my_heap eH ?_
  have rp0 := i32_rng p0
  refine lv_iconst (v := 0) hx hb dX12_partsAt_0 (by decide) ?_
  refine lv_istore_n (lv' := [(2, .int 0), (0, .ref (g 0)), (1, .int p0)]) hx hb dX12_partsAt_1 rfl hl (by decide) rfl (fun ls hl => ?_)
  refine lv_iconst (v := 0) hx hb dX12_partsAt_2 (by decide) ?_
  refine lv_istore_n (lv' := [(3, .int 0), (2, .int 0), (0, .ref (g 0)), (1, .int p0)]) hx hb dX12_partsAt_3 rfl hl (by decide) rfl (fun ls hl => ?_)
  have lp4787 : ∀ (n : Nat) (x3_lp4787 : Int32) (x2_lp4787 : Int32) (H : Heap) (locs : List Loc) (ls : Array Slot), (0 ≤ x3_lp4787.toInt) → (2147483648 - x3_lp4787.toInt ≤ (n : Int)) → va_P (dC, dI) classes (wM g c v F rc) H → va_S (AM g s.heap.size) s.heap H locs → lv_has ls 4 [(3, .int x3_lp4787), (2, .int x2_lp4787), (0, .ref (g 0)), (1, .int p0)] → W p l e (headSpec (Cond.code yX12_partsAt cX12_partsAt 4 (some .int) :: wA) ({ frames := 1, cells := 0, slots := 0, locals := 40 })).room s m ([.ref (g 0), .int p0] : List Value).toArray below meth c0 H locs 0 0 (MQ below (va_Qi (fun (r : Int32) (u : Unit) => True) (fun (_ : Unit) => BM dC dI g c (v, F, rc)) (AM g s.heap.size)) ([.ref (g 0), .int p0] : List Value).toArray s 0 0 (AM g s.heap.size)) (F0 m 4 ls []) := by
    intro n
    induction n with
    | zero =>
      intro x3_lp4787 x2_lp4787 H locs ls t4788 hm hP hS hl
      exfalso
      have := i32_rng x3_lp4787
      have := i32_rng x2_lp4787
      omega
    | succ n ih_lp4787 =>
      intro x3_lp4787 x2_lp4787 H locs ls t4788 hm hP hS hl
      have rx3_lp4787 := i32_rng x3_lp4787
      have rx2_lp4787 := i32_rng x2_lp4787
      refine lv_iload_n hx hb dX12_partsAt_4 rfl (lv_at hl 0 rfl) ?_
      refine lv_aload_n hx hb dX12_partsAt_5 rfl (lv_at hl 2 rfl) ?_
      refine va_get (D := (dC, dI)) (ci := 12) (v := .int (v 14)) (C := RX12) (T := TX12) (N := 63) hx hb hwd inA_X12 hown hK hP 0 rfl rfl 14 (by decide) (hwd _ wk_318) (fun _ h9 => h9) rfl dX12_partsAt_6 ?_
      have t4789 : 0 ≤ (v 14).toInt ∧ (v 14).toInt ≤ 100 := hI.1 14 _ _ rfl
      refine lv_icmp_ge (tgt := 36) hx hb dX12_partsAt_9 (by decide) (fun c4790 => ?_) (fun c4790 => ?_)
      · skip
        have t4791 := cv_le (a := (v 14).toInt) rfl (b := x3_lp4787.toInt) rfl c4790
        refine lv_iload_n hx hb dX12_partsAt_36 rfl (lv_at hl 1 rfl) ?_
        have hP9 : va_P (dC, dI) classes (wM g c v F rc) H := hP
        exact W.iret (v := x2_lp4787) hx hb hr (fun t ht hW => ⟨⟨x2_lp4787, (), rfl, trivial, (by show va_P _ _ _ t.heap; rw [ht]; exact hP9)⟩, hS.F ht⟩) hS.2.2 dX12_partsAt_37
      · skip
        have t4792 := cv_nle (a := (v 14).toInt) rfl (b := x3_lp4787.toInt) rfl c4790
        refine lv_iload_n hx hb dX12_partsAt_12 rfl (lv_at hl 1 rfl) ?_
        refine lv_aload_n hx hb dX12_partsAt_13 rfl (lv_at hl 2 rfl) ?_
        refine va_get (D := (dC, dI)) (ci := 12) (v := .ref (g 13)) (C := RX12) (T := TX12) (N := 63) hx hb hwd inA_X12 hown hK hP 0 rfl rfl 17 (by decide) (hwd _ wk_194) (fun _ h9 => h9) rfl dX12_partsAt_14 ?_
        refine lv_iload_n hx hb dX12_partsAt_17 rfl (lv_at hl 0 rfl) ?_
        refine va_iald hx hb hK hP 13 12 rfl rfl (i := x3_lp4787) (vin (a := x3_lp4787.toInt) rfl (by omega)) dX12_partsAt_18 ?_
        refine lv_topi (fun z4793 e4794 => ?_)
        have t4795 : 0 ≤ z4793.toInt ∧ z4793.toInt ≤ 12 := by rw [e4794]; exact hI.2 13 _ _ rfl _
        refine lv_iload_n hx hb dX12_partsAt_19 rfl (lv_at hl 3 rfl) ?_
        refine lv_icmp_ne (tgt := 27) hx hb dX12_partsAt_20 (by decide) (fun c4796 => ?_) (fun c4796 => ?_)
        · skip
          have t4797 := cv_ne (a := z4793.toInt) rfl (b := p0.toInt) rfl c4796
          refine lv_iconst (v := 0) hx hb dX12_partsAt_27 (by decide) ?_
          refine lv_iadd hx hb dX12_partsAt_28 ?_
          refine lv_topi (fun z4798 e4799 => ?_)
          try (have t4800 := tadd e4799 (a := x2_lp4787.toInt) rfl (b := 0) (by decide) (by omega))
          refine lv_istore_n (lv' := [(2, .int z4798), (3, .int x3_lp4787), (0, .ref (g 0)), (1, .int p0)]) hx hb dX12_partsAt_29 rfl hl (by decide) rfl (fun ls hl => ?_)
          obtain ⟨z4801, e4802⟩ : ∃ y : Int32, y = x3_lp4787 + 1 := ⟨_, rfl⟩
          try (have t4803 := tadd e4802 rfl (b := 1) (by decide) (by omega))
          refine lv_iinc (v := z4801) (lv' := [(3, .int z4801), (2, .int z4798), (0, .ref (g 0)), (1, .int p0)]) hx hb dX12_partsAt_30 hl (k := 1) rfl (by rw [e4802]; rfl) (by decide) rfl (fun ls hl => ?_)
          refine lv_goto (tgt := 4) hx hb dX12_partsAt_33 (by decide) ?_
          exact ih_lp4787 z4801 z4798  _ _ _ (by omega) (by omega) hP hS (lv_sub hl [0, 1, 2, 3] rfl)
        · skip
          have t4804 := cv_eq (a := z4793.toInt) rfl (b := p0.toInt) rfl c4796
          refine lv_iconst (v := 1) hx hb dX12_partsAt_23 (by decide) ?_
          refine lv_goto (tgt := 28) hx hb dX12_partsAt_24 (by decide) ?_
          refine lv_iadd hx hb dX12_partsAt_28 ?_
          refine lv_topi (fun z4805 e4806 => ?_)
          try (have t4807 := tadd e4806 (a := x2_lp4787.toInt) rfl (b := 1) (by decide) (by omega))
          refine lv_istore_n (lv' := [(2, .int z4805), (3, .int x3_lp4787), (0, .ref (g 0)), (1, .int p0)]) hx hb dX12_partsAt_29 rfl hl (by decide) rfl (fun ls hl => ?_)
          obtain ⟨z4808, e4809⟩ : ∃ y : Int32, y = x3_lp4787 + 1 := ⟨_, rfl⟩
          try (have t4810 := tadd e4809 rfl (b := 1) (by decide) (by omega))
          refine lv_iinc (v := z4808) (lv' := [(3, .int z4808), (2, .int z4805), (0, .ref (g 0)), (1, .int p0)]) hx hb dX12_partsAt_30 hl (k := 1) rfl (by rw [e4809]; rfl) (by decide) rfl (fun ls hl => ?_)
          refine lv_goto (tgt := 4) hx hb dX12_partsAt_33 (by decide) ?_
          exact ih_lp4787 z4808 z4805  _ _ _ (by omega) (by omega) hP hS (lv_sub hl [0, 1, 2, 3] rfl)
  obtain ⟨n9, hn9⟩ : ∃ n : Nat, 2147483648 - 0 ≤ (n : Int) := ⟨((2147483648 - 0 : Int)).toNat, by omega⟩
  exact lp4787 n9 0 0  H _ ls (by have : (0 : Int32).toInt = 0 := (by decide); have : (0 : Int32).toInt = 0 := (by decide); omega) (by have : (0 : Int32).toInt = 0 := (by decide); have : (0 : Int32).toInt = 0 := (by decide); omega) hP hS hl
