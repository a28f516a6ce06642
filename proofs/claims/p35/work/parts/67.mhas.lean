set_option maxHeartbeats 8000000 in
set_option maxRecDepth 100000 in
theorem c_X12_isKind (l : Launch) (dC : Nat → ClassId) (dI : Nat → Nat → Nat) (g : Nat → Nat) (c : Nat → ClassId) (adK adV : Nat → Nat) (v : Nat → Int32) (F : Nat → Nat → Int32) (rc sz : Nat) (p0 : Int32) (hg : injM g) (hI : IM v F) : Met l yX12_isKind (Cond.code yX12_isKind cX12_isKind 2 (some .boolean) :: wA) ({ frames := 2, cells := 0, slots := 0, locals := 80 }) (va_Pc [.ref (g 0), .int p0] (PM dC dI g c adK adV v F rc sz)) (va_Qi (fun (r : Int32) (u : Unit) => (r.toInt = 1 ∧ 0 ≤ p0.toInt ∧ p0.toInt < (v 2).toInt) ∨ (r.toInt = 0 ∧ (p0.toInt < 0 ∨ (v 2).toInt ≤ p0.toInt))) (fun (_ : Unit) => BM dC dI g c (v, F, rc)) (AM g sz)) 0 0 (AM g sz) := by
  refine Met.ofW (cc := cX12_isKind) (maxL := 2) (ret := (some .boolean)) (by decide) rfl ?_
  intro p e s m args below meth c0 s₁ B hml hv
  obtain ⟨rfl, hsz, hP, hK, hE⟩ := hv
  have hx := B.exec
  have hb := B.bytes
  have hr := B.returns
  have hts := atoms_spec (ws := Cond.code yX12_isKind cX12_isKind 2 (some .boolean) :: wA) B.pre
  have hwd : ∀ w ∈ wA, w.before _ s = true := fun w h => hts w (List.mem_cons_of_mem _ h)
  have hown : s.vm.findClass RX12 = some m.cls := findClass_of_methodNamed B.named
  have hlocks := B.notSynchronized
  subst hsz
  have hl := lv_entry ([.ref (g 0), .int p0]) (n := 2) (Nat.le_of_ble_eq_true rfl)
  rw [lg_entry_eq]
  generalize (lg_sl ([.ref (g 0), .int p0]) ++ List.replicate (2 - (lg_sl ([.ref (g 0), .int p0])).length) Slot.unset).toArray = ls at hl ⊢
  have hl : lv_has ls 2 [(0, .ref (g 0)), (1, .int p0)] := hl
  obtain ⟨H, eH⟩ : ∃ z, z = s.heap := ⟨_, rfl⟩
  have hP : va_P (dC, dI) classes (wM g c v F rc) H := by rw [eH]; exact hP
  have hS : va_S (AM g s.heap.size) s.heap H [] := by rw [eH]; exact va_S.rf
  refine my_heap eH ?_
  have rp0 := i32_rng p0
  refine lv_iload_n hx hb dX12_isKind_0 rfl (lv_at hl 1 rfl) ?_
  refine lv_iconst (v := 0) hx hb dX12_isKind_1 (by decide) ?_
  refine lv_aload_n hx hb dX12_isKind_2 rfl (lv_at hl 0 rfl) ?_
  refine va_get (D := (dC, dI)) (ci := 12) (v := .int (v 2)) (C := RX12) (T := TX12) (N := 63) hx hb hwd inA_X12 hown hK hP 0 rfl rfl 2 (by decide) (hwd _ wk_251) (fun _ h9 => h9) rfl dX12_isKind_3 ?_
  have t4636 : 0 ≤ (v 2).toInt ∧ (v 2).toInt ≤ 10 := hI.1 2 _ _ rfl
  refine lv_iconst (v := 1) hx hb dX12_isKind_6 (by decide) ?_
  refine lv_isub hx hb dX12_isKind_7 ?_
  refine lv_topi (fun z4637 e4638 => ?_)
  try (have t4639 := tsub e4638 (a := (v 2).toInt) rfl (b := 1) (by decide) (by omega))
  refine va_calli (va_runS (As := [.int p0, .int 0, .int z4637]) (rest := []) ⟨hx, hb, hml, hown, hwd⟩ (c_X12_in l dC dI g c adK adV v F rc H.size p0 0 z4637 hg hI ) (va_cwS 3 hwd (gT wk_254 wk_252 wk_253 wk_5) rfl rfl rfl (by decide +kernel) ⟨Nat.le_of_ble_eq_true rfl, Nat.le_of_ble_eq_true rfl⟩) ⟨PM.blind, fun U hU hW => ⟨rfl, PM.at hK hE hP hS hU hW⟩⟩ rfl rfl hl.1 rfl (lv_room (Nat.le_of_ble_eq_true rfl)) dX12_isKind_8 ⟨Nat.le_of_ble_eq_true rfl, Nat.le_of_ble_eq_true rfl⟩) hS (fun q _ h => (freeM hS) q h) (freeM hS) (fun r4640 u t H1 locs ht hvm hw hB hz1 hk1 hS => ?_)
  unfold BM at hB
  rw [ht] at hB
  have hP : va_P (dC, dI) classes (wM g c v F rc) H1 := hB
  have hw_r4640 : (r4640.toInt = 1 ∧ (0 : Int32).toInt ≤ p0.toInt ∧ p0.toInt ≤ z4637.toInt) ∨ (r4640.toInt = 0 ∧ (p0.toInt < (0 : Int32).toInt ∨ z4637.toInt < p0.toInt)) := hw
  clear hw
  have k4641 : (0 : Int32).toInt = 0 := by decide
  clear hz1
  generalize H1 = H at hP hS ⊢
  have hP9 : va_P (dC, dI) classes (wM g c v F rc) H := hP
  exact W.zret (v := r4640) hx hb hr (narB (by omega)) (fun t ht hW => ⟨⟨r4640, (), rfl, (by show (r4640.toInt = 1 ∧ 0 ≤ p0.toInt ∧ p0.toInt < (v 2).toInt) ∨ (r4640.toInt = 0 ∧ (p0.toInt < 0 ∨ (v 2).toInt ≤ p0.toInt)); omega), (by show va_P _ _ _ t.heap; rw [ht]; exact hP9)⟩, hS.F ht⟩) hS.2.2 dX12_isKind_11
set_option maxHeartbeats 8000000 in
set_option maxRecDepth 100000 in
theorem c_X12_isPlane (l : Launch) (dC : Nat → ClassId) (dI : Nat → Nat → Nat) (g : Nat → Nat) (c : Nat → ClassId) (adK adV : Nat → Nat) (v : Nat → Int32) (F : Nat → Nat → Int32) (rc sz : Nat) (p0 : Int32) (hg : injM g) (hI : IM v F) : Met l yX12_isPlane (Cond.code yX12_isPlane cX12_isPlane 2 (some .boolean) :: wA) ({ frames := 2, cells := 0, slots := 0, locals := 80 }) (va_Pc [.ref (g 0), .int p0] (PM dC dI g c adK adV v F rc sz)) (va_Qi (fun (r : Int32) (u : Unit) => (r.toInt = 1 ∧ 0 ≤ p0.toInt ∧ p0.toInt < (v 6).toInt) ∨ (r.toInt = 0 ∧ (p0.toInt < 0 ∨ (v 6).toInt ≤ p0.toInt))) (fun (_ : Unit) => BM dC dI g c (v, F, rc)) (AM g sz)) 0 0 (AM g sz) := by
  refine Met.ofW (cc := cX12_isPlane) (maxL := 2) (ret := (some .boolean)) (by decide) rfl ?_
  intro p e s m args below meth c0 s₁ B hml hv
  obtain ⟨rfl, hsz, hP, hK, hE⟩ := hv
  have hx := B.exec
  have hb := B.bytes
  have hr := B.returns
  have hts := atoms_spec (ws := Cond.code yX12_isPlane cX12_isPlane 2 (some .boolean) :: wA) B.pre
  have hwd : ∀ w ∈ wA, w.before _ s = true := fun w h => hts w (List.mem_cons_of_mem _ h)
  have hown : s.vm.findClass RX12 = some m.cls := findClass_of_methodNamed B.named
  have hlocks := B.notSynchronized
  subst hsz
  have hl := lv_entry ([.ref (g 0), .int p0]) (n := 2) (Nat.le_of_ble_eq_true rfl)
  rw [lg_entry_eq]
  generalize (lg_sl ([.ref (g 0), .int p0]) ++ List.replicate (2 - (lg_sl ([.ref (g 0), .int p0])).length) Slot.unset).toArray = ls at hl ⊢
  have hl : lv_has ls 2 [(0, .ref (g 0)), (1, .int p0)] := hl
  obtain ⟨H, eH⟩ : ∃ z, z = s.heap := ⟨_, rfl⟩
  have hP : va_P (dC, dI) classes (wM g c v F rc) H := by rw [eH]; exact hP
  have hS : va_S (AM g s.heap.size) s.heap H [] := by rw [eH]; exact va_S.rf
  refine my_heap eH ?_
  have rp0 := i32_rng p0
  refine lv_iload_n hx hb dX12_isPlane_0 rfl (lv_at hl 1 rfl) ?_
  refine lv_iconst (v := 0) hx hb dX12_isPlane_1 (by decide) ?_
  refine lv_aload_n hx hb dX12_isPlane_2 rfl (lv_at hl 0 rfl) ?_
  refine va_get (D := (dC, dI)) (ci := 12) (v := .int (v 6)) (C := RX12) (T := TX12) (N := 63) hx hb hwd inA_X12 hown hK hP 0 rfl rfl 6 (by decide) (hwd _ wk_268) (fun _ h9 => h9) rfl dX12_isPlane_3 ?_
  have t4642 : 0 ≤ (v 6).toInt ∧ (v 6).toInt ≤ 10 := hI.1 6 _ _ rfl
  refine lv_iconst (v := 1) hx hb dX12_isPlane_6 (by decide) ?_
  refine lv_isub hx hb dX12_isPlane_7 ?_
  refine lv_topi (fun z4643 e4644 => ?_)
  try (have t4645 := tsub e4644 (a := (v 6).toInt) rfl (b := 1) (by decide) (by omega))
  refine va_calli (va_runS (As := [.int p0, .int 0, .int z4643]) (rest := []) ⟨hx, hb, hml, hown, hwd⟩ (c_X12_in l dC dI g c adK adV v F rc H.size p0 0 z4643 hg hI ) (va_cwS 3 hwd (gT wk_254 wk_252 wk_253 wk_5) rfl rfl rfl (by decide +kernel) ⟨Nat.le_of_ble_eq_true rfl, Nat.le_of_ble_eq_true rfl⟩) ⟨PM.blind, fun U hU hW => ⟨rfl, PM.at hK hE hP hS hU hW⟩⟩ rfl rfl hl.1 rfl (lv_room (Nat.le_of_ble_eq_true rfl)) dX12_isPlane_8 ⟨Nat.le_of_ble_eq_true rfl, Nat.le_of_ble_eq_true rfl⟩) hS (fun q _ h => (freeM hS) q h) (freeM hS) (fun r4646 u t H1 locs ht hvm hw hB hz1 hk1 hS => ?_)
  unfold BM at hB
  rw [ht] at hB
  have hP : va_P (dC, dI) classes (wM g c v F rc) H1 := hB
  have hw_r4646 : (r4646.toInt = 1 ∧ (0 : Int32).toInt ≤ p0.toInt ∧ p0.toInt ≤ z4643.toInt) ∨ (r4646.toInt = 0 ∧ (p0.toInt < (0 : Int32).toInt ∨ z4643.toInt < p0.toInt)) := hw
  clear hw
  have k4647 : (0 : Int32).toInt = 0 := by decide
  clear hz1
  generalize H1 = H at hP hS ⊢
  have hP9 : va_P (dC, dI) classes (wM g c v F rc) H := hP
  exact W.zret (v := r4646) hx hb hr (narB (by omega)) (fun t ht hW => ⟨⟨r4646, (), rfl, (by show (r4646.toInt = 1 ∧ 0 ≤ p0.toInt ∧ p0.toInt < (v 6).toInt) ∨ (r4646.toInt = 0 ∧ (p0.toInt < 0 ∨ (v 6).toInt ≤ p0.toInt)); omega), (by show va_P _ _ _ t.heap; rw [ht]; exact hP9)⟩, hS.F ht⟩) hS.2.2 dX12_isPlane_11
set_option maxHeartbeats 8000000 in
set_option maxRecDepth 100000 in
theorem c_X12_isPart (l : Launch) (dC : Nat → ClassId) (dI : Nat → Nat → Nat) (g : Nat → Nat) (c : Nat → ClassId) (adK adV : Nat → Nat) (v : Nat → Int32) (F : Nat → Nat → Int32) (rc sz : Nat) (p0 : Int32) (hg : injM g) (hI : IM v F) : Met l yX12_isPart (Cond.code yX12_isPart cX12_isPart 2 (some .boolean) :: wA) ({ frames := 2, cells := 0, slots := 0, locals := 80 }) (va_Pc [.ref (g 0), .int p0] (PM dC dI g c adK adV v F rc sz)) (va_Qi (fun (r : Int32) (u : Unit) => (r.toInt = 1 ∧ 0 ≤ p0.toInt ∧ p0.toInt < (v 14).toInt) ∨ (r.toInt = 0 ∧ (p0.toInt < 0 ∨ (v 14).toInt ≤ p0.toInt))) (fun (_ : Unit) => BM dC dI g c (v, F, rc)) (AM g sz)) 0 0 (AM g sz) := by
  refine Met.ofW (cc := cX12_isPart) (maxL := 2) (ret := (some .boolean)) (by decide) rfl ?_
  intro p e s m args below meth c0 s₁ B hml hv
  obtain ⟨rfl, hsz, hP, hK, hE⟩ := hv
  have hx := B.exec
  have hb := B.bytes
  have hr := B.returns
  have hts := atoms_spec (ws := Cond.code yX12_isPart cX12_isPart 2 (some .boolean) :: wA) B.pre
  have hwd : ∀ w ∈ wA, w.before _ s = true := fun w h => hts w (List.mem_cons_of_mem _ h)
  have hown : s.vm.findClass RX12 = some m.cls := findClass_of_methodNamed B.named
  have hlocks := B.notSynchronized
  subst hsz
  have hl := lv_entry ([.ref (g 0), .int p0]) (n := 2) (Nat.le_of_ble_eq_true rfl)
  rw [lg_entry_eq]
  generalize (lg_sl ([.ref (g 0), .int p0]) ++ List.replicate (2 - (lg_sl ([.ref (g 0), .int p0])).length) Slot.unset).toArray = ls at hl ⊢
  have hl : lv_has ls 2 [(0, .ref (g 0)), (1, .int p0)] := hl
  obtain ⟨H, eH⟩ : ∃ z, z = s.heap := ⟨_, rfl⟩
  have hP : va_P (dC, dI) classes (wM g c v F rc) H := by rw [eH]; exact hP
  have hS : va_S (AM g s.heap.size) s.heap H [] := by rw [eH]; exact va_S.rf
  refine my_heap eH ?_
  have rp0 := i32_rng p0
  refine lv_iload_n hx hb dX12_isPart_0 rfl (lv_at hl 1 rfl) ?_
  refine lv_iconst (v := 0) hx hb dX12_isPart_1 (by decide) ?_
  refine lv_aload_n hx hb dX12_isPart_2 rfl (lv_at hl 0 rfl) ?_
  refine va_get (D := (dC, dI)) (ci := 12) (v := .int (v 14)) (C := RX12) (T := TX12) (N := 63) hx hb hwd inA_X12 hown hK hP 0 rfl rfl 14 (by decide) (hwd _ wk_318) (fun _ h9 => h9) rfl dX12_isPart_3 ?_
  have t4648 : 0 ≤ (v 14).toInt ∧ (v 14).toInt ≤ 100 := hI.1 14 _ _ rfl
  refine lv_iconst (v := 1) hx hb dX12_isPart_6 (by decide) ?_
  refine lv_isub hx hb dX12_isPart_7 ?_
  refine lv_topi (fun z4649 e4650 => ?_)
  try (have t4651 := tsub e4650 (a := (v 14).toInt) rfl (b := 1) (by decide) (by omega))
  refine va_calli (va_runS (As := [.int p0, .int 0, .int z4649]) (rest := []) ⟨hx, hb, hml, hown, hwd⟩ (c_X12_in l dC dI g c adK adV v F rc H.size p0 0 z4649 hg hI ) (va_cwS 3 hwd (gT wk_254 wk_252 wk_253 wk_5) rfl rfl rfl (by decide +kernel) ⟨Nat.le_of_ble_eq_true rfl, Nat.le_of_ble_eq_true rfl⟩) ⟨PM.blind, fun U hU hW => ⟨rfl, PM.at hK hE hP hS hU hW⟩⟩ rfl rfl hl.1 rfl (lv_room (Nat.le_of_ble_eq_true rfl)) dX12_isPart_8 ⟨Nat.le_of_ble_eq_true rfl, Nat.le_of_ble_eq_true rfl⟩) hS (fun q _ h => (freeM hS) q h) (freeM hS) (fun r4652 u t H1 locs ht hvm hw hB hz1 hk1 hS => ?_)
  unfold BM at hB
  rw [ht] at hB
  have hP : va_P (dC, dI) classes (wM g c v F rc) H1 := hB
  have hw_r4652 : (r4652.toInt = 1 ∧ (0 : Int32).toInt ≤ p0.toInt ∧ p0.toInt ≤ z4649.toInt) ∨ (r4652.toInt = 0 ∧ (p0.toInt < (0 : Int32).toInt ∨ z4649.toInt < p0.toInt)) := hw
  clear hw
  have k4653 : (0 : Int32).toInt = 0 := by decide
  clear hz1
  generalize H1 = H at hP hS ⊢
  have hP9 : va_P (dC, dI) classes (wM g c v F rc) H := hP
  exact W.zret (v := r4652) hx hb hr (narB (by omega)) (fun t ht hW => ⟨⟨r4652, (), rfl, (by show (r4652.toInt = 1 ∧ 0 ≤ p0.toInt ∧ p0.toInt < (v 14).toInt) ∨ (r4652.toInt = 0 ∧ (p0.toInt < 0 ∨ (v 14).toInt ≤ p0.toInt)); omega), (by show va_P _ _ _ t.heap; rw [ht]; exact hP9)⟩, hS.F ht⟩) hS.2.2 dX12_isPart_11
set_option maxHeartbeats 8000000 in
set_option maxRecDepth 100000 in
theorem c_X12_isReturned (l : Launch) (dC : Nat → ClassId) (dI : Nat → Nat → Nat) (g : Nat → Nat) (c : Nat → ClassId) (adK adV : Nat → Nat) (v : Nat → Int32) (F : Nat → Nat → Int32) (rc sz : Nat) (p0 : Int32) (hg : injM g) (hI : IM v F) (h0 : 0 ≤ p0.toInt ∧ p0.toInt ≤ 9) : Met l yX12_isReturned (Cond.code yX12_isReturned cX12_isReturned 2 (some .boolean) :: wA) ({ frames := 1, cells := 0, slots := 0, locals := 40 }) (va_Pc [.ref (g 0), .int p0] (PM dC dI g c adK adV v F rc sz)) (va_Qi (fun (r : Int32) (u : Unit) => 0 ≤ r.toInt ∧ r.toInt ≤ 1) (fun (_ : Unit) => BM dC dI g c (v, F, rc)) (AM g sz)) 0 0 (AM g sz) := by
  refine Met.ofW (cc := cX12_isReturned) (maxL := 2) (ret := (some .boolean)) (by decide) rfl ?_
  intro p e s m args below meth c0 s₁ B hml hv
  obtain ⟨rfl, hsz, hP, hK, hE⟩ := hv
  have hx := B.exec
  have hb := B.bytes
  have hr := B.returns
  have hts := atoms_spec (ws := Cond.code yX12_isReturned cX12_isReturned 2 (some .boolean) :: wA) B.pre
  have hwd : ∀ w ∈ wA, w.before _ s = true := fun w h => hts w (List.mem_cons_of_mem _ h)
  have hown : s.vm.findClass RX12 = some m.cls := findClass_of_methodNamed B.named
  have hlocks := B.notSynchronized
  subst hsz
  have hl := lv_entry ([.ref (g 0), .int p0]) (n := 2) (Nat.le_of_ble_eq_true rfl)
  rw [lg_entry_eq]
  generalize (lg_sl ([.ref (g 0), .int p0]) ++ List.replicate (2 - (lg_sl ([.ref (g 0), .int p0])).length) Slot.unset).toArray = ls at hl ⊢
  have hl : lv_has ls 2 [(0, .ref (g 0)), (1, .int p0)] := hl
  obtain ⟨H, eH⟩ : ∃ z, z = s.heap := ⟨_, rfl⟩
  have hP : va_P (dC, dI) classes (wM g c v F rc) H := by rw [eH]; exact hP
  have hS : va_S (AM g s.heap.size) s.heap H [] := by rw [eH]; exact va_S.rf
  refine my_heap eH ?_
  have rp0 := i32_rng p0
  refine lv_aload_n hx hb dX12_isReturned_0 rfl (lv_at hl 0 rfl) ?_
  refine va_get (D := (dC, dI)) (ci := 12) (v := .ref (g 8)) (C := RX12) (T := TX12) (N := 63) hx hb hwd inA_X12 hown hK hP 0 rfl rfl 11 (by decide) (hwd _ wk_189) (fun _ h9 => h9) rfl dX12_isReturned_1 ?_
  refine lv_iload_n hx hb dX12_isReturned_4 rfl (lv_at hl 1 rfl) ?_
  refine va_iald hx hb hK hP 8 7 rfl rfl (i := p0) (vin (a := p0.toInt) rfl (by omega)) dX12_isReturned_5 ?_
  refine lv_topi (fun z4654 e4655 => ?_)
  refine lv_if_lt (tgt := 13) hx hb dX12_isReturned_6 (by decide) (fun c4656 => ?_) (fun c4656 => ?_)
  · skip
    have t4657 := cv_lt (a := z4654.toInt) rfl (b := 0) (by decide) c4656
    refine lv_iconst (v := 0) hx hb dX12_isReturned_13 (by decide) ?_
    have hP9 : va_P (dC, dI) classes (wM g c v F rc) H := hP
    exact W.zret (v := 0) hx hb hr (rfl) (fun t ht hW => ⟨⟨0, (), rfl, by have : (0 : Int32).toInt = 0 := (by decide); omega, (by show va_P _ _ _ t.heap; rw [ht]; exact hP9)⟩, hS.F ht⟩) hS.2.2 dX12_isReturned_14
  · skip
    have t4658 := cv_nlt (a := z4654.toInt) rfl (b := 0) (by decide) c4656
    refine lv_iconst (v := 1) hx hb dX12_isReturned_9 (by decide) ?_
    refine lv_goto (tgt := 14) hx hb dX12_isReturned_10 (by decide) ?_
    have hP9 : va_P (dC, dI) classes (wM g c v F rc) H := hP
    exact W.zret (v := 1) hx hb hr (rfl) (fun t ht hW => ⟨⟨1, (), rfl, by have : (1 : Int32).toInt = 1 := (by decide); omega, (by show va_P _ _ _ t.heap; rw [ht]; exact hP9)⟩, hS.F ht⟩) hS.2.2 dX12_isReturned_14
set_option maxHeartbeats 8000000 in
set_option maxRecDepth 100000 in
theorem c_X12_hasContract (l : Launch) (dC : Nat → ClassId) (dI : Nat → Nat → Nat) (g : Nat → Nat) (c : Nat → ClassId) (adK adV : Nat → Nat) (v : Nat → Int32) (F : Nat → Nat → Int32) (rc sz : Nat) (p0 : Int32) (hg : injM g) (hI : IM v F) (h0 : 0 ≤ p0.toInt ∧ p0.toInt ≤ 9) : Met l yX12_hasContract (Cond.code yX12_hasContract cX12_hasContract 2 (some .boolean) :: wA) ({ frames := 1, cells := 0, slots := 0, locals := 40 }) (va_Pc [.ref (g 0), .int p0] (PM dC dI g c adK adV v F rc sz)) (va_Qi (fun (r : Int32) (u : Unit) => 0 ≤ r.toInt ∧ r.toInt ≤ 1) (fun (_ : Unit) => BM dC dI g c (v, F, rc)) (AM g sz)) 0 0 (AM g sz) := by
  refine Met.ofW (cc := cX12_hasContract) (maxL := 2) (ret := (some .boolean)) (by decide) rfl ?_
  intro p e s m args below meth c0 s₁ B hml hv
  obtain ⟨rfl, hsz, hP, hK, hE⟩ := hv
  have hx := B.exec
  have hb := B.bytes
  have hr := B.returns
  have hts := atoms_spec (ws := Cond.code yX12_hasContract cX12_hasContract 2 (some .boolean) :: wA) B.pre
  have hwd : ∀ w ∈ wA, w.before _ s = true := fun w h => hts w (List.mem_cons_of_mem _ h)
  have hown : s.vm.findClass RX12 = some m.cls := findClass_of_methodNamed B.named
  have hlocks := B.notSynchronized
  subst hsz
  have hl := lv_entry ([.ref (g 0), .int p0]) (n := 2) (Nat.le_of_ble_eq_true rfl)
  rw [lg_entry_eq]
  generalize (lg_sl ([.ref (g 0), .int p0]) ++ List.replicate (2 - (lg_sl ([.ref (g 0), .int p0])).length) Slot.unset).toArray = ls at hl ⊢
  have hl : lv_has ls 2 [(0, .ref (g 0)), (1, .int p0)] := hl
  obtain ⟨H, eH⟩ : ∃ z, z = s.heap := ⟨_, rfl⟩
  have hP : va_P (dC, dI) classes (wM g c v F rc) H := by rw [eH]; exact hP
  have hS : va_S (AM g s.heap.size) s.heap H [] := by rw [eH]; exact va_S.rf
  refine my_heap eH ?_
  have rp0 := i32_rng p0
  refine lv_aload_n hx hb dX12_hasContract_0 rfl (lv_at hl 0 rfl) ?_
  refine va_get (D := (dC, dI)) (ci := 12) (v := .ref (g 35)) (C := RX12) (T := TX12) (N := 63) hx hb hwd inA_X12 hown hK hP 0 rfl rfl 49 (by decide) (hwd _ wk_217) (fun _ h9 => h9) rfl dX12_hasContract_1 ?_
  refine lv_iload_n hx hb dX12_hasContract_4 rfl (lv_at hl 1 rfl) ?_
  refine va_iald hx hb hK hP 35 34 rfl rfl (i := p0) (vin (a := p0.toInt) rfl (by omega)) dX12_hasContract_5 ?_
  refine lv_topi (fun z4659 e4660 => ?_)
  refine lv_if_lt (tgt := 13) hx hb dX12_hasContract_6 (by decide) (fun c4661 => ?_) (fun c4661 => ?_)
  · skip
    have t4662 := cv_lt (a := z4659.toInt) rfl (b := 0) (by decide) c4661
    refine lv_iconst (v := 0) hx hb dX12_hasContract_13 (by decide) ?_
    have hP9 : va_P (dC, dI) classes (wM g c v F rc) H := hP
    exact W.zret (v := 0) hx hb hr (rfl) (fun t ht hW => ⟨⟨0, (), rfl, by have : (0 : Int32).toInt = 0 := (by decide); omega, (by show va_P _ _ _ t.heap; rw [ht]; exact hP9)⟩, hS.F ht⟩) hS.2.2 dX12_hasContract_14
  · skip
    have t4663 := cv_nlt (a := z4659.toInt) rfl (b := 0) (by decide) c4661
    refine lv_iconst (v := 1) hx hb dX12_hasContract_9 (by decide) ?_
    refine lv_goto (tgt := 14) hx hb dX12_hasContract_10 (by decide) ?_
    have hP9 : va_P (dC, dI) classes (wM g c v F rc) H := hP
    exact W.zret (v := 1) hx hb hr (rfl) (fun t ht hW => ⟨⟨1, (), rfl, by have : (1 : Int32).toInt = 1 := (by decide); omega, (by show va_P _ _ _ t.heap; rw [ht]; exact hP9)⟩, hS.F ht⟩) hS.2.2 dX12_hasContract_14
set_option maxHeartbeats 8000000 in
set_option maxRecDepth 100000 in
theorem c_X12_onIt (l : Launch) (dC : Nat → ClassId) (dI : Nat → Nat → Nat) (g : Nat → Nat) (c : Nat → ClassId) (adK adV : Nat → Nat) (v : Nat → Int32) (F : Nat → Nat → Int32) (rc sz : Nat) (p0 : Int32) (p1 : Int32) (hg : injM g) (hI : IM v F) : Met l yX12_onIt (Cond.code yX12_onIt cX12_onIt 5 (some .int) :: wA) ({ frames := 1, cells := 0, slots := 0, locals := 40 }) (va_Pc [.ref (g 0), .int p0, .int p1] (PM dC dI g c adK adV v F rc sz)) (va_Qi (fun (r : Int32) (u : Unit) => True) (fun (_ : Unit) => BM dC dI g c (v, F, rc)) (AM g sz)) 0 0 (AM g sz) := by
  refine Met.ofW (cc := cX12_onIt) (maxL := 5) (ret := (some .int)) (by decide) rfl ?_
  intro p e s m args below meth c0 s₁ B hml hv
  obtain ⟨rfl, hsz, hP, hK, hE⟩ := hv
  have hx := B.exec
  have hb := B.bytes
  have hr := B.returns
  have hts := atoms_spec (ws := Cond.code yX12_onIt cX12_onIt 5 (some .int) :: wA) B.pre
  have hwd : ∀ w ∈ wA, w.before _ s = true := fun w h => hts w (List.mem_cons_of_mem _ h)
  have hown : s.vm.findClass RX12 = some m.cls := findClass_of_methodNamed B.named
  have hlocks := B.notSynchronized
  subst hsz
  have hl := lv_entry ([.ref (g 0), .int p0, .int p1]) (n := 5) (Nat.le_of_ble_eq_true rfl)
  rw [lg_entry_eq]
  generalize (lg_sl ([.ref (g 0), .int p0, .int p1]) ++ List.replicate (5 - (lg_sl ([.ref (g 0), .int p0, .int p1])).length) Slot.unset).toArray = ls at hl ⊢
  have hl : lv_has ls 5 [(0, .ref (g 0)), (1, .int p0), (2, .int p1)] := hl
  obtain ⟨H, eH⟩ : ∃ z, z = s.heap := ⟨_, rfl⟩
  have hP : va_P (dC, dI) classes (wM g c v F rc) H := by rw [eH]; exact hP
  have hS : va_S (AM g s.heap.size) s.heap H [] := by rw [eH]; exact va_S.rf
  refine my_heap eH ?_
  have rp0 := i32_rng p0
  have rp1 := i32_rng p1
  refine lv_iconst (v := 0) hx hb dX12_onIt_0 (by decide) ?_
  refine lv_istore_n (lv' := [(3, .int 0), (0, .ref (g 0)), (1, .int p0), (2, .int p1)]) hx hb dX12_onIt_1 rfl hl (by decide) rfl (fun ls hl => ?_)
  refine lv_iconst (v := 0) hx hb dX12_onIt_2 (by decide) ?_
  refine lv_istore (lv' := [(4, .int 0), (3, .int 0), (0, .ref (g 0)), (1, .int p0), (2, .int p1)]) hx hb dX12_onIt_3 hl (by decide) rfl (fun ls hl => ?_)
  have lp4664 : ∀ (n : Nat) (x4_lp4664 : Int32) (x3_lp4664 : Int32) (H : Heap) (locs : List Loc) (ls : Array Slot), (0 ≤ x4_lp4664.toInt) → (2147483648 - x4_lp4664.toInt ≤ (n : Int)) → va_P (dC, dI) classes (wM g c v F rc) H → va_S (AM g s.heap.size) s.heap H locs → lv_has ls 5 [(4, .int x4_lp4664), (3, .int x3_lp4664), (0, .ref (g 0)), (1, .int p0), (2, .int p1)] → W p l e (headSpec (Cond.code yX12_onIt cX12_onIt 5 (some .int) :: wA) ({ frames := 1, cells := 0, slots := 0, locals := 40 })).room s m ([.ref (g 0), .int p0, .int p1] : List Value).toArray below meth c0 H locs 0 0 (MQ below (va_Qi (fun (r : Int32) (u : Unit) => True) (fun (_ : Unit) => BM dC dI g c (v, F, rc)) (AM g s.heap.size)) ([.ref (g 0), .int p0, .int p1] : List Value).toArray s 0 0 (AM g s.heap.size)) (F0 m 5 ls []) := by
    intro n
    induction n with
    | zero =>
      intro x4_lp4664 x3_lp4664 H locs ls t4665 hm hP hS hl
      exfalso
      have := i32_rng x4_lp4664
      have := i32_rng x3_lp4664
      omega
    | succ n ih_lp4664 =>
      intro x4_lp4664 x3_lp4664 H locs ls t4665 hm hP hS hl
      have rx4_lp4664 := i32_rng x4_lp4664
      have rx3_lp4664 := i32_rng x3_lp4664
      refine lv_iload hx hb dX12_onIt_5 (lv_at hl 0 rfl) ?_
      refine lv_aload_n hx hb dX12_onIt_7 rfl (lv_at hl 2 rfl) ?_
      refine va_get (D := (dC, dI)) (ci := 12) (v := .int (v 14)) (C := RX12) (T := TX12) (N := 63) hx hb hwd inA_X12 hown hK hP 0 rfl rfl 14 (by decide) (hwd _ wk_318) (fun _ h9 => h9) rfl dX12_onIt_8 ?_
      have t4666 : 0 ≤ (v 14).toInt ∧ (v 14).toInt ≤ 100 := hI.1 14 _ _ rfl
      refine lv_icmp_ge (tgt := 50) hx hb dX12_onIt_11 (by decide) (fun c4667 => ?_) (fun c4667 => ?_)
      · skip
        have t4668 := cv_le (a := (v 14).toInt) rfl (b := x4_lp4664.toInt) rfl c4667
        refine lv_iload_n hx hb dX12_onIt_50 rfl (lv_at hl 1 rfl) ?_
        have hP9 : va_P (dC, dI) classes (wM g c v F rc) H := hP
        exact W.iret (v := x3_lp4664) hx hb hr (fun t ht hW => ⟨⟨x3_lp4664, (), rfl, trivial, (by show va_P _ _ _ t.heap; rw [ht]; exact hP9)⟩, hS.F ht⟩) hS.2.2 dX12_onIt_51
      · skip
        have t4669 := cv_nle (a := (v 14).toInt) rfl (b := x4_lp4664.toInt) rfl c4667
        refine lv_iload_n hx hb dX12_onIt_14 rfl (lv_at hl 1 rfl) ?_
        refine lv_aload_n hx hb dX12_onIt_15 rfl (lv_at hl 2 rfl) ?_
        refine va_get (D := (dC, dI)) (ci := 12) (v := .ref (g 13)) (C := RX12) (T := TX12) (N := 63) hx hb hwd inA_X12 hown hK hP 0 rfl rfl 17 (by decide) (hwd _ wk_194) (fun _ h9 => h9) rfl dX12_onIt_16 ?_
        refine lv_iload hx hb dX12_onIt_19 (lv_at hl 0 rfl) ?_
        refine va_iald hx hb hK hP 13 12 rfl rfl (i := x4_lp4664) (vin (a := x4_lp4664.toInt) rfl (by omega)) dX12_onIt_21 ?_
        refine lv_topi (fun z4670 e4671 => ?_)
        have t4672 : 0 ≤ z4670.toInt ∧ z4670.toInt ≤ 12 := by rw [e4671]; exact hI.2 13 _ _ rfl _
        refine lv_iload_n hx hb dX12_onIt_22 rfl (lv_at hl 3 rfl) ?_
        refine lv_icmp_ne (tgt := 41) hx hb dX12_onIt_23 (by decide) (fun c4673 => ?_) (fun c4673 => ?_)
        · skip
          have t4674 := cv_ne (a := z4670.toInt) rfl (b := p0.toInt) rfl c4673
          refine lv_iconst (v := 0) hx hb dX12_onIt_41 (by decide) ?_
          refine lv_iadd hx hb dX12_onIt_42 ?_
          refine lv_topi (fun z4675 e4676 => ?_)
          try (have t4677 := tadd e4676 (a := x3_lp4664.toInt) rfl (b := 0) (by decide) (by omega))
          refine lv_istore_n (lv' := [(3, .int z4675), (4, .int x4_lp4664), (0, .ref (g 0)), (1, .int p0), (2, .int p1)]) hx hb dX12_onIt_43 rfl hl (by decide) rfl (fun ls hl => ?_)
          obtain ⟨z4678, e4679⟩ : ∃ y : Int32, y = x4_lp4664 + 1 := ⟨_, rfl⟩
          try (have t4680 := tadd e4679 rfl (b := 1) (by decide) (by omega))
          refine lv_iinc (v := z4678) (lv' := [(4, .int z4678), (3, .int z4675), (0, .ref (g 0)), (1, .int p0), (2, .int p1)]) hx hb dX12_onIt_44 hl (k := 1) rfl (by rw [e4679]; rfl) (by decide) rfl (fun ls hl => ?_)
          refine lv_goto (tgt := 5) hx hb dX12_onIt_47 (by decide) ?_
          exact ih_lp4664 z4678 z4675  _ _ _ (by omega) (by omega) hP hS (lv_sub hl [0, 1, 2, 3, 4] rfl)
        · skip
          have t4681 := cv_eq (a := z4670.toInt) rfl (b := p0.toInt) rfl c4673
          refine lv_aload_n hx hb dX12_onIt_26 rfl (lv_at hl 2 rfl) ?_
          refine va_get (D := (dC, dI)) (ci := 12) (v := .ref (g 11)) (C := RX12) (T := TX12) (N := 63) hx hb hwd inA_X12 hown hK hP 0 rfl rfl 15 (by decide) (hwd _ wk_192) (fun _ h9 => h9) rfl dX12_onIt_27 ?_
          refine lv_iload hx hb dX12_onIt_30 (lv_at hl 0 rfl) ?_
          refine va_iald hx hb hK hP 11 10 rfl rfl (i := x4_lp4664) (vin (a := x4_lp4664.toInt) rfl (by omega)) dX12_onIt_32 ?_
          refine lv_topi (fun z4682 e4683 => ?_)
          have t4684 : 0 ≤ z4682.toInt ∧ z4682.toInt ≤ 9 := by rw [e4683]; exact hI.2 11 _ _ rfl _
          refine lv_iload_n hx hb dX12_onIt_33 rfl (lv_at hl 4 rfl) ?_
          refine lv_icmp_ne (tgt := 41) hx hb dX12_onIt_34 (by decide) (fun c4685 => ?_) (fun c4685 => ?_)
          · skip
            have t4686 := cv_ne (a := z4682.toInt) rfl (b := p1.toInt) rfl c4685
            refine lv_iconst (v := 0) hx hb dX12_onIt_41 (by decide) ?_
            refine lv_iadd hx hb dX12_onIt_42 ?_
            refine lv_topi (fun z4687 e4688 => ?_)
            try (have t4689 := tadd e4688 (a := x3_lp4664.toInt) rfl (b := 0) (by decide) (by omega))
            refine lv_istore_n (lv' := [(3, .int z4687), (4, .int x4_lp4664), (0, .ref (g 0)), (1, .int p0), (2, .int p1)]) hx hb dX12_onIt_43 rfl hl (by decide) rfl (fun ls hl => ?_)
            obtain ⟨z4690, e4691⟩ : ∃ y : Int32, y = x4_lp4664 + 1 := ⟨_, rfl⟩
            try (have t4692 := tadd e4691 rfl (b := 1) (by decide) (by omega))
            refine lv_iinc (v := z4690) (lv' := [(4, .int z4690), (3, .int z4687), (0, .ref (g 0)), (1, .int p0), (2, .int p1)]) hx hb dX12_onIt_44 hl (k := 1) rfl (by rw [e4691]; rfl) (by decide) rfl (fun ls hl => ?_)
            refine lv_goto (tgt := 5) hx hb dX12_onIt_47 (by decide) ?_
            exact ih_lp4664 z4690 z4687  _ _ _ (by omega) (by omega) hP hS (lv_sub hl [0, 1, 2, 3, 4] rfl)
          · skip
            have t4693 := cv_eq (a := z4682.toInt) rfl (b := p1.toInt) rfl c4685
            refine lv_iconst (v := 1) hx hb dX12_onIt_37 (by decide) ?_
            refine lv_goto (tgt := 42) hx hb dX12_onIt_38 (by decide) ?_
            refine lv_iadd hx hb dX12_onIt_42 ?_
            refine lv_topi (fun z4694 e4695 => ?_)
            try (have t4696 := tadd e4695 (a := x3_lp4664.toInt) rfl (b := 1) (by decide) (by omega))
            refine lv_istore_n (lv' := [(3, .int z4694), (4, .int x4_lp4664), (0, .ref (g 0)), (1, .int p0), (2, .int p1)]) hx hb dX12_onIt_43 rfl hl (by decide) rfl (fun ls hl => ?_)
            obtain ⟨z4697, e4698⟩ : ∃ y : Int32, y = x4_lp4664 + 1 := ⟨_, rfl⟩
            try (have t4699 := tadd e4698 rfl (b := 1) (by decide) (by omega))
            refine lv_iinc (v := z4697) (lv' := [(4, .int z4697), (3, .int z4694), (0, .ref (g 0)), (1, .int p0), (2, .int p1)]) hx hb dX12_onIt_44 hl (k := 1) rfl (by rw [e4698]; rfl) (by decide) rfl (fun ls hl => ?_)
            refine lv_goto (tgt := 5) hx hb dX12_onIt_47 (by decide) ?_
            exact ih_lp4664 z4697 z4694  _ _ _ (by omega) (by omega) hP hS (lv_sub hl [0, 1, 2, 3, 4] rfl)
  obtain ⟨n9, hn9⟩ : ∃ n : Nat, 2147483648 - 0 ≤ (n : Int) := ⟨((2147483648 - 0 : Int)).toNat, by omega⟩
  exact lp4664 n9 0 0  H _ ls (by have : (0 : Int32).toInt = 0 := (by decide); have : (0 : Int32).toInt = 0 := (by decide); omega) (by have : (0 : Int32).toInt = 0 := (by decide); have : (0 : Int32).toInt = 0 := (by decide); omega) hP hS hl
set_option maxHeartbeats 8000000 in
set_option maxRecDepth 100000 in
theorem c_X12_partsAt (l : Launch) (dC : Nat → ClassId) (dI : Nat → Nat → Nat) (g : Nat → Nat) (c : Nat → ClassId) (adK adV : Nat → Nat) (v : Nat → Int32) (F : Nat → Nat → Int32) (rc sz : Nat) (p0 : Int32) (hg : injM g) (hI : IM v F) : Met l yX12_partsAt (Cond.code yX12_partsAt cX12_partsAt 4 (some .int) :: wA) ({ frames := 1, cells := 0, slots := 0, locals := 40 }) (va_Pc [.ref (g 0), .int p0] (PM dC dI g c adK adV v F rc sz)) (va_Qi (fun (r : Int32) (u : Unit) => True) (fun (_ : Unit) => BM dC dI g c (v, F, rc)) (AM g sz)) 0 0 (AM g sz) := by
  refine Met.ofW (cc := cX12_partsAt) (maxL := 4) (ret := (some .int)) (by decide) rfl ?_
  intro p e s m args below meth c0 s₁ B hml hv
  obtain ⟨rfl, hsz, hP, hK, hE⟩ := hv
  have hx := B.exec
  have hb := B.bytes
  have hr := B.returns
  have hts := atoms_spec (ws := Cond.code yX12_partsAt cX12_partsAt 4 (some .int) :: wA) B.pre
  have hwd : ∀ w ∈ wA, w.before _ s = true := fun w h => hts w (List.mem_cons_of_mem _ h)
  have hown : s.vm.findClass RX12 = some m.cls := findClass_of_methodNamed B.named
  have hlocks := B.notSynchronized
  subst hsz
  have hl := lv_entry ([.ref (g 0), .int p0]) (n := 4) (Nat.le_of_ble_eq_true rfl)
  rw [lg_entry_eq]
  generalize (lg_sl ([.ref (g 0), .int p0]) ++ List.replicate (4 - (lg_sl ([.ref (g 0), .int p0])).length) Slot.unset).toArray = ls at hl ⊢
  have hl : lv_has ls 4 [(0, .ref (g 0)), (1, .int p0)] := hl
  obtain ⟨H, eH⟩ : ∃ z, z = s.heap := ⟨_, rfl⟩
  have hP : va_P (dC, dI) classes (wM g c v F rc) H := by rw [eH]; exact hP
  have hS : va_S (AM g s.heap.size) s.heap H [] := by rw [eH]; exact va_S.rf
  refine my_heap eH ?_
  have rp0 := i32_rng p0
  refine lv_iconst (v := 0) hx hb dX12_partsAt_0 (by decide) ?_
  refine lv_istore_n (lv' := [(2, .int 0), (0, .ref (g 0)), (1, .int p0)]) hx hb dX12_partsAt_1 rfl hl (by decide) rfl (fun ls hl => ?_)
  refine lv_iconst (v := 0) hx hb dX12_partsAt_2 (by decide) ?_
  refine lv_istore_n (lv' := [(3, .int 0), (2, .int 0), (0, .ref (g 0)), (1, .int p0)]) hx hb dX12_partsAt_3 rfl hl (by decide) rfl (fun ls hl => ?_)
  have lp4700 : ∀ (n : Nat) (x3_lp4700 : Int32) (x2_lp4700 : Int32) (H : Heap) (locs : List Loc) (ls : Array Slot), (0 ≤ x3_lp4700.toInt) → (2147483648 - x3_lp4700.toInt ≤ (n : Int)) → va_P (dC, dI) classes (wM g c v F rc) H → va_S (AM g s.heap.size) s.heap H locs → lv_has ls 4 [(3, .int x3_lp4700), (2, .int x2_lp4700), (0, .ref (g 0)), (1, .int p0)] → W p l e (headSpec (Cond.code yX12_partsAt cX12_partsAt 4 (some .int) :: wA) ({ frames := 1, cells := 0, slots := 0, locals := 40 })).room s m ([.ref (g 0), .int p0] : List Value).toArray below meth c0 H locs 0 0 (MQ below (va_Qi (fun (r : Int32) (u : Unit) => True) (fun (_ : Unit) => BM dC dI g c (v, F, rc)) (AM g s.heap.size)) ([.ref (g 0), .int p0] : List Value).toArray s 0 0 (AM g s.heap.size)) (F0 m 4 ls []) := by
    intro n
    induction n with
    | zero =>
      intro x3_lp4700 x2_lp4700 H locs ls t4701 hm hP hS hl
      exfalso
      have := i32_rng x3_lp4700
      have := i32_rng x2_lp4700
      omega
    | succ n ih_lp4700 =>
      intro x3_lp4700 x2_lp4700 H locs ls t4701 hm hP hS hl
      have rx3_lp4700 := i32_rng x3_lp4700
      have rx2_lp4700 := i32_rng x2_lp4700
      refine lv_iload_n hx hb dX12_partsAt_4 rfl (lv_at hl 0 rfl) ?_
      refine lv_aload_n hx hb dX12_partsAt_5 rfl (lv_at hl 2 rfl) ?_
      refine va_get (D := (dC, dI)) (ci := 12) (v := .int (v 14)) (C := RX12) (T := TX12) (N := 63) hx hb hwd inA_X12 hown hK hP 0 rfl rfl 14 (by decide) (hwd _ wk_318) (fun _ h9 => h9) rfl dX12_partsAt_6 ?_
      have t4702 : 0 ≤ (v 14).toInt ∧ (v 14).toInt ≤ 100 := hI.1 14 _ _ rfl
      refine lv_icmp_ge (tgt := 36) hx hb dX12_partsAt_9 (by decide) (fun c4703 => ?_) (fun c4703 => ?_)
      · skip
        have t4704 := cv_le (a := (v 14).toInt) rfl (b := x3_lp4700.toInt) rfl c4703
        refine lv_iload_n hx hb dX12_partsAt_36 rfl (lv_at hl 1 rfl) ?_
        have hP9 : va_P (dC, dI) classes (wM g c v F rc) H := hP
        exact W.iret (v := x2_lp4700) hx hb hr (fun t ht hW => ⟨⟨x2_lp4700, (), rfl, trivial, (by show va_P _ _ _ t.heap; rw [ht]; exact hP9)⟩, hS.F ht⟩) hS.2.2 dX12_partsAt_37
      · skip
        have t4705 := cv_nle (a := (v 14).toInt) rfl (b := x3_lp4700.toInt) rfl c4703
        refine lv_iload_n hx hb dX12_partsAt_12 rfl (lv_at hl 1 rfl) ?_
        refine lv_aload_n hx hb dX12_partsAt_13 rfl (lv_at hl 2 rfl) ?_
        refine va_get (D := (dC, dI)) (ci := 12) (v := .ref (g 13)) (C := RX12) (T := TX12) (N := 63) hx hb hwd inA_X12 hown hK hP 0 rfl rfl 17 (by decide) (hwd _ wk_194) (fun _ h9 => h9) rfl dX12_partsAt_14 ?_
        refine lv_iload_n hx hb dX12_partsAt_17 rfl (lv_at hl 0 rfl) ?_
        refine va_iald hx hb hK hP 13 12 rfl rfl (i := x3_lp4700) (vin (a := x3_lp4700.toInt) rfl (by omega)) dX12_partsAt_18 ?_
        refine lv_topi (fun z4706 e4707 => ?_)
        have t4708 : 0 ≤ z4706.toInt ∧ z4706.toInt ≤ 12 := by rw [e4707]; exact hI.2 13 _ _ rfl _
        refine lv_iload_n hx hb dX12_partsAt_19 rfl (lv_at hl 3 rfl) ?_
        refine lv_icmp_ne (tgt := 27) hx hb dX12_partsAt_20 (by decide) (fun c4709 => ?_) (fun c4709 => ?_)
        · skip
          have t4710 := cv_ne (a := z4706.toInt) rfl (b := p0.toInt) rfl c4709
          refine lv_iconst (v := 0) hx hb dX12_partsAt_27 (by decide) ?_
          refine lv_iadd hx hb dX12_partsAt_28 ?_
          refine lv_topi (fun z4711 e4712 => ?_)
          try (have t4713 := tadd e4712 (a := x2_lp4700.toInt) rfl (b := 0) (by decide) (by omega))
          refine lv_istore_n (lv' := [(2, .int z4711), (3, .int x3_lp4700), (0, .ref (g 0)), (1, .int p0)]) hx hb dX12_partsAt_29 rfl hl (by decide) rfl (fun ls hl => ?_)
          obtain ⟨z4714, e4715⟩ : ∃ y : Int32, y = x3_lp4700 + 1 := ⟨_, rfl⟩
          try (have t4716 := tadd e4715 rfl (b := 1) (by decide) (by omega))
          refine lv_iinc (v := z4714) (lv' := [(3, .int z4714), (2, .int z4711), (0, .ref (g 0)), (1, .int p0)]) hx hb dX12_partsAt_30 hl (k := 1) rfl (by rw [e4715]; rfl) (by decide) rfl (fun ls hl => ?_)
          refine lv_goto (tgt := 4) hx hb dX12_partsAt_33 (by decide) ?_
          exact ih_lp4700 z4714 z4711  _ _ _ (by omega) (by omega) hP hS (lv_sub hl [0, 1, 2, 3] rfl)
        · skip
          have t4717 := cv_eq (a := z4706.toInt) rfl (b := p0.toInt) rfl c4709
          refine lv_iconst (v := 1) hx hb dX12_partsAt_23 (by decide) ?_
          refine lv_goto (tgt := 28) hx hb dX12_partsAt_24 (by decide) ?_
          refine lv_iadd hx hb dX12_partsAt_28 ?_
          refine lv_topi (fun z4718 e4719 => ?_)
          try (have t4720 := tadd e4719 (a := x2_lp4700.toInt) rfl (b := 1) (by decide) (by omega))
          refine lv_istore_n (lv' := [(2, .int z4718), (3, .int x3_lp4700), (0, .ref (g 0)), (1, .int p0)]) hx hb dX12_partsAt_29 rfl hl (by decide) rfl (fun ls hl => ?_)
          obtain ⟨z4721, e4722⟩ : ∃ y : Int32, y = x3_lp4700 + 1 := ⟨_, rfl⟩
          try (have t4723 := tadd e4722 rfl (b := 1) (by decide) (by omega))
          refine lv_iinc (v := z4721) (lv' := [(3, .int z4721), (2, .int z4718), (0, .ref (g 0)), (1, .int p0)]) hx hb dX12_partsAt_30 hl (k := 1) rfl (by rw [e4722]; rfl) (by decide) rfl (fun ls hl => ?_)
          refine lv_goto (tgt := 4) hx hb dX12_partsAt_33 (by decide) ?_
          exact ih_lp4700 z4721 z4718  _ _ _ (by omega) (by omega) hP hS (lv_sub hl [0, 1, 2, 3] rfl)
  obtain ⟨n9, hn9⟩ : ∃ n : Nat, 2147483648 - 0 ≤ (n : Int) := ⟨((2147483648 - 0 : Int)).toNat, by omega⟩
  exact lp4700 n9 0 0  H _ ls (by have : (0 : Int32).toInt = 0 := (by decide); have : (0 : Int32).toInt = 0 := (by decide); omega) (by have : (0 : Int32).toInt = 0 := (by decide); have : (0 : Int32).toInt = 0 := (by decide); omega) hP hS hl
