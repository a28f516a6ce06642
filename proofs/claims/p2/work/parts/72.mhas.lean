set_option maxHeartbeats 8000000 in
set_option maxRecDepth 100000 in
theorem c_X12_isKind (l : Launch) (dC : Nat → ClassId) (dI : Nat → Nat → Nat) (g : Nat → Nat) (c : Nat → ClassId) (adK adV : Nat → Nat) (v : Nat → Int32) (F : Nat → Nat → Int32) (rc sz : Nat) (p0 : Int32) (hg : injM g) (hI : IM v F) : Met l yX12_isKind (Cond.code yX12_isKind cX12_isKind 2 (some .boolean) :: wA) ({ frames := 2, cells := 0, slots := 0, locals := 80 }) (va_Pc [.ref (g 0), .int p0] (PM dC dI g c adK adV v F rc sz)) (va_Qi (fun (r : Int32) (u : Unit) => (r.toInt = 1 ∧ 0 ≤ p0.toInt ∧ p0.toInt < (v 2).toInt) ∨ (r.toInt = 0 ∧ (p0.toInt < 0 ∨ (v 2).toInt ≤ p0.toInt))) (fun (_ : Unit) => BM dC dI g c (v, F, rc)) (AM g sz)) 0 0 (AM g sz) := by
  refine Met.ofW (cc := cX12_isKind) (maxL := 2) (ret := (some .boolean)) (by decide) rfl ?_
  intro p e s m args below meth c0 s₁ B hml hv
  obtain ⟨rfl, hsz, hP, hK, hE⟩ := hv
  have hx := B.exec
  have hb := B.bytes
  have hr := B.returns
  have hts := atoms_spec (ws := Cond.code yX12_isKind cX12_isKind 2 (some .boolean) :: wA) B.pre
  have hwd : ∀ w ∈ wA, w.before _ s = true := fun w h => hts w (List.mem_cons_of_mem _ h)
  have hown : s.vm.findClass RX12 = some m.cls := findClass_of_methodNamed B.named
  have hlocks := B.notSynchronized
  subst hsz
  have hl := lv_entry ([.ref (g 0), .int p0]) (n := 2) (Nat.le_of_ble_eq_true rfl)
  rw [lg_entry_eq]
  generalize (lg_sl ([.ref (g 0), .int p0]) ++ List.replicate (2 - (lg_sl ([.ref (g 0), .int p0])).length) Slot.unset).toArray = ls at hl ⊢
  have hl : lv_has ls 2 [(0, .ref (g 0)), (1, .int p0)] := hl
  obtain ⟨H, eH⟩ : ∃ z, z = s.heap := ⟨_, rfl⟩
  have hP : va_P (dC, dI) classes (wM g c v F rc) H := by rw [eH]; exact hP
  have hS : va_S (AM g s.heap.size) s.heap H [] := by rw [eH]; exact va_S.rf
  refine my_heap eH ?_
  have rp0 := i32_rng p0
  refine lv_iload_n hx hb dX12_isKind_0 rfl (lv_at hl 1 rfl) ?_
  refine lv_iconst (v := 0) hx hb dX12_isKind_1 (by decide) ?_
  refine lv_aload_n hx hb dX12_isKind_2 rfl (lv_at hl 0 rfl) ?_
  refine va_get (D := (dC, dI)) (ci := 12) (v := .int (v 2)) (C := RX12) (T := TX12) (N := 63) hx hb hwd inA_X12 hown hK hP 0 rfl rfl 2 (by decide) (hwd _ wk_251) (fun _ h9 => h9) rfl dX12_isKind_3 ?_
  have t7093 : 0 ≤ (v 2).toInt ∧ (v 2).toInt ≤ 10 := hI.1 2 _ _ rfl
  refine lv_iconst (v := 1) hx hb dX12_isKind_6 (by decide) ?_
  refine lv_isub hx hb dX12_isKind_7 ?_
  refine lv_topi (fun z7094 e7095 => ?_)
  try (have t7096 := tsub e7095 (a := (v 2).toInt) rfl (b := 1) (by decide) (by omega))
  refine va_calli (va_runS (As := [.int p0, .int 0, .int z7094]) (rest := []) ⟨hx, hb, hml, hown, hwd⟩ (c_X12_in l dC dI g c adK adV v F rc H.size p0 0 z7094 hg hI ) (va_cwS 3 hwd (gT wk_254 wk_252 wk_253 wk_5) rfl rfl rfl (by decide +kernel) ⟨Nat.le_of_ble_eq_true rfl, Nat.le_of_ble_eq_true rfl⟩) ⟨PM.blind, fun U hU hW => ⟨rfl, PM.at hK hE hP hS hU hW⟩⟩ rfl rfl hl.1 rfl (lv_room (Nat.le_of_ble_eq_true rfl)) dX12_isKind_8 ⟨Nat.le_of_ble_eq_true rfl, Nat.le_of_ble_eq_true rfl⟩) hS (fun q _ h => (freeM hS) q h) (freeM hS) (fun r7097 u t H1 locs ht hvm hw hB hz1 hk1 hS => ?_)
  unfold BM at hB
  rw [ht] at hB
  have hP : va_P (dC, dI) classes (wM g c v F rc) H1 := hB
  have hw_r7097 : (r7097.toInt = 1 ∧ (0 : Int32).toInt ≤ p0.toInt ∧ p0.toInt ≤ z7094.toInt) ∨ (r7097.toInt = 0 ∧ (p0.toInt < (0 : Int32).toInt ∨ z7094.toInt < p0.toInt)) := hw
  clear hw
  have k7098 : (0 : Int32).toInt = 0 := by decide
  clear hz1
  generalize H1 = H at hP hS ⊢
  have hP9 : va_P (dC, dI) classes (wM g c v F rc) H := hP
  exact W.zret (v := r7097) hx hb hr (narB (by omega)) (fun t ht hW => ⟨⟨r7097, (), rfl, (by show (r7097.toInt = 1 ∧ 0 ≤ p0.toInt ∧ p0.toInt < (v 2).toInt) ∨ (r7097.toInt = 0 ∧ (p0.toInt < 0 ∨ (v 2).toInt ≤ p0.toInt)); omega), (by show va_P _ _ _ t.heap; rw [ht]; exact hP9)⟩, hS.F ht⟩) hS.2.2 dX12_isKind_11
set_option maxHeartbeats 8000000 in
set_option maxRecDepth 100000 in
theorem c_X12_isPlane (l : Launch) (dC : Nat → ClassId) (dI : Nat → Nat → Nat) (g : Nat → Nat) (c : Nat → ClassId) (adK adV : Nat → Nat) (v : Nat → Int32) (F : Nat → Nat → Int32) (rc sz : Nat) (p0 : Int32) (hg : injM g) (hI : IM v F) : Met l yX12_isPlane (Cond.code yX12_isPlane cX12_isPlane 2 (some .boolean) :: wA) ({ frames := 2, cells := 0, slots := 0, locals := 80 }) (va_Pc [.ref (g 0), .int p0] (PM dC dI g c adK adV v F rc sz)) (va_Qi (fun (r : Int32) (u : Unit) => (r.toInt = 1 ∧ 0 ≤ p0.toInt ∧ p0.toInt < (v 6).toInt) ∨ (r.toInt = 0 ∧ (p0.toInt < 0 ∨ (v 6).toInt ≤ p0.toInt))) (fun (_ : Unit) => BM dC dI g c (v, F, rc)) (AM g sz)) 0 0 (AM g sz) := by
  refine Met.ofW (cc := cX12_isPlane) (maxL := 2) (ret := (some .boolean)) (by decide) rfl ?_
  intro p e s m args below meth c0 s₁ B hml hv
  obtain ⟨rfl, hsz, hP, hK, hE⟩ := hv
  have hx := B.exec
  have hb := B.bytes
  have hr := B.returns
  have hts := atoms_spec (ws := Cond.code yX12_isPlane cX12_isPlane 2 (some .boolean) :: wA) B.pre
  have hwd : ∀ w ∈ wA, w.before _ s = true := fun w h => hts w (List.mem_cons_of_mem _ h)
  have hown : s.vm.findClass RX12 = some m.cls := findClass_of_methodNamed B.named
  have hlocks := B.notSynchronized
  subst hsz
  have hl := lv_entry ([.ref (g 0), .int p0]) (n := 2) (Nat.le_of_ble_eq_true rfl)
  rw [lg_entry_eq]
  generalize (lg_sl ([.ref (g 0), .int p0]) ++ List.replicate (2 - (lg_sl ([.ref (g 0), .int p0])).length) Slot.unset).toArray = ls at hl ⊢
  have hl : lv_has ls 2 [(0, .ref (g 0)), (1, .int p0)] := hl
  obtain ⟨H, eH⟩ : ∃ z, z = s.heap := ⟨_, rfl⟩
  have hP : va_P (dC, dI) classes (wM g c v F rc) H := by rw [eH]; exact hP
  have hS : va_S (AM g s.heap.size) s.heap H [] := by rw [eH]; exact va_S.rf
  refine my_heap eH ?_
  have rp0 := i32_rng p0
  refine lv_iload_n hx hb dX12_isPlane_0 rfl (lv_at hl 1 rfl) ?_
  refine lv_iconst (v := 0) hx hb dX12_isPlane_1 (by decide) ?_
  refine lv_aload_n hx hb dX12_isPlane_2 rfl (lv_at hl 0 rfl) ?_
  refine va_get (D := (dC, dI)) (ci := 12) (v := .int (v 6)) (C := RX12) (T := TX12) (N := 63) hx hb hwd inA_X12 hown hK hP 0 rfl rfl 6 (by decide) (hwd _ wk_268) (fun _ h9 => h9) rfl dX12_isPlane_3 ?_
  have t7099 : 0 ≤ (v 6).toInt ∧ (v 6).toInt ≤ 10 := hI.1 6 _ _ rfl
  refine lv_iconst (v := 1) hx hb dX12_isPlane_6 (by decide) ?_
  refine lv_isub hx hb dX12_isPlane_7 ?_
  refine lv_topi (fun z7100 e7101 => ?_)
  try (have t7102 := tsub e7101 (a := (v 6).toInt) rfl (b := 1) (by decide) (by omega))
  refine va_calli (va_runS (As := [.int p0, .int 0, .int z7100]) (rest := []) ⟨hx, hb, hml, hown, hwd⟩ (c_X12_in l dC dI g c adK adV v F rc H.size p0 0 z7100 hg hI ) (va_cwS 3 hwd (gT wk_254 wk_252 wk_253 wk_5) rfl rfl rfl (by decide +kernel) ⟨Nat.le_of_ble_eq_true rfl, Nat.le_of_ble_eq_true rfl⟩) ⟨PM.blind, fun U hU hW => ⟨rfl, PM.at hK hE hP hS hU hW⟩⟩ rfl rfl hl.1 rfl (lv_room (Nat.le_of_ble_eq_true rfl)) dX12_isPlane_8 ⟨Nat.le_of_ble_eq_true rfl, Nat.le_of_ble_eq_true rfl⟩) hS (fun q _ h => (freeM hS) q h) (freeM hS) (fun r7103 u t H1 locs ht hvm hw hB hz1 hk1 hS => ?_)
  unfold BM at hB
  rw [ht] at hB
  have hP : va_P (dC, dI) classes (wM g c v F rc) H1 := hB
  have hw_r7103 : (r7103.toInt = 1 ∧ (0 : Int32).toInt ≤ p0.toInt ∧ p0.toInt ≤ z7100.toInt) ∨ (r7103.toInt = 0 ∧ (p0.toInt < (0 : Int32).toInt ∨ z7100.toInt < p0.toInt)) := hw
  clear hw
  have k7104 : (0 : Int32).toInt = 0 := by decide
  clear hz1
  generalize H1 = H at hP hS ⊢
  have hP9 : va_P (dC, dI) classes (wM g c v F rc) H := hP
  exact W.zret (v := r7103) hx hb hr (narB (by omega)) (fun t ht hW => ⟨⟨r7103, (), rfl, (by show (r7103.toInt = 1 ∧ 0 ≤ p0.toInt ∧ p0.toInt < (v 6).toInt) ∨ (r7103.toInt = 0 ∧ (p0.toInt < 0 ∨ (v 6).toInt ≤ p0.toInt)); omega), (by show va_P _ _ _ t.heap; rw [ht]; exact hP9)⟩, hS.F ht⟩) hS.2.2 dX12_isPlane_11
set_option maxHeartbeats 8000000 in
set_option maxRecDepth 100000 in
theorem c_X12_isPart (l : Launch) (dC : Nat → ClassId) (dI : Nat → Nat → Nat) (g : Nat → Nat) (c : Nat → ClassId) (adK adV : Nat → Nat) (v : Nat → Int32) (F : Nat → Nat → Int32) (rc sz : Nat) (p0 : Int32) (hg : injM g) (hI : IM v F) : Met l yX12_isPart (Cond.code yX12_isPart cX12_isPart 2 (some .boolean) :: wA) ({ frames := 2, cells := 0, slots := 0, locals := 80 }) (va_Pc [.ref (g 0), .int p0] (PM dC dI g c adK adV v F rc sz)) (va_Qi (fun (r : Int32) (u : Unit) => (r.toInt = 1 ∧ 0 ≤ p0.toInt ∧ p0.toInt < (v 14).toInt) ∨ (r.toInt = 0 ∧ (p0.toInt < 0 ∨ (v 14).toInt ≤ p0.toInt))) (fun (_ : Unit) => BM dC dI g c (v, F, rc)) (AM g sz)) 0 0 (AM g sz) := by
  refine Met.ofW (cc := cX12_isPart) (maxL := 2) (ret := (some .boolean)) (by decide) rfl ?_
  intro p e s m args below meth c0 s₁ B hml hv
  obtain ⟨rfl, hsz, hP, hK, hE⟩ := hv
  have hx := B.exec
  have hb := B.bytes
  have hr := B.returns
  have hts := atoms_spec (ws := Cond.code yX12_isPart cX12_isPart 2 (some .boolean) :: wA) B.pre
  have hwd : ∀ w ∈ wA, w.before _ s = true := fun w h => hts w (List.mem_cons_of_mem _ h)
  have hown : s.vm.findClass RX12 = some m.cls := findClass_of_methodNamed B.named
  have hlocks := B.notSynchronized
  subst hsz
  have hl := lv_entry ([.ref (g 0), .int p0]) (n := 2) (Nat.le_of_ble_eq_true rfl)
  rw [lg_entry_eq]
  generalize (lg_sl ([.ref (g 0), .int p0]) ++ List.replicate (2 - (lg_sl ([.ref (g 0), .int p0])).length) Slot.unset).toArray = ls at hl ⊢
  have hl : lv_has ls 2 [(0, .ref (g 0)), (1, .int p0)] := hl
  obtain ⟨H, eH⟩ : ∃ z, z = s.heap := ⟨_, rfl⟩
  have hP : va_P (dC, dI) classes (wM g c v F rc) H := by rw [eH]; exact hP
  have hS : va_S (AM g s.heap.size) s.heap H [] := by rw [eH]; exact va_S.rf
  refine my_heap eH ?_
  have rp0 := i32_rng p0
  refine lv_iload_n hx hb dX12_isPart_0 rfl (lv_at hl 1 rfl) ?_
  refine lv_iconst (v := 0) hx hb dX12_isPart_1 (by decide) ?_
  refine lv_aload_n hx hb dX12_isPart_2 rfl (lv_at hl 0 rfl) ?_
  refine va_get (D := (dC, dI)) (ci := 12) (v := .int (v 14)) (C := RX12) (T := TX12) (N := 63) hx hb hwd inA_X12 hown hK hP 0 rfl rfl 14 (by decide) (hwd _ wk_318) (fun _ h9 => h9) rfl dX12_isPart_3 ?_
  have t7105 : 0 ≤ (v 14).toInt ∧ (v 14).toInt ≤ 100 := hI.1 14 _ _ rfl
  refine lv_iconst (v := 1) hx hb dX12_isPart_6 (by decide) ?_
  refine lv_isub hx hb dX12_isPart_7 ?_
  refine lv_topi (fun z7106 e7107 => ?_)
  try (have t7108 := tsub e7107 (a := (v 14).toInt) rfl (b := 1) (by decide) (by omega))
  refine va_calli (va_runS (As := [.int p0, .int 0, .int z7106]) (rest := []) ⟨hx, hb, hml, hown, hwd⟩ (c_X12_in l dC dI g c adK adV v F rc H.size p0 0 z7106 hg hI ) (va_cwS 3 hwd (gT wk_254 wk_252 wk_253 wk_5) rfl rfl rfl (by decide +kernel) ⟨Nat.le_of_ble_eq_true rfl, Nat.le_of_ble_eq_true rfl⟩) ⟨PM.blind, fun U hU hW => ⟨rfl, PM.at hK hE hP hS hU hW⟩⟩ rfl rfl hl.1 rfl (lv_room (Nat.le_of_ble_eq_true rfl)) dX12_isPart_8 ⟨Nat.le_of_ble_eq_true rfl, Nat.le_of_ble_eq_true rfl⟩) hS (fun q _ h => (freeM hS) q h) (freeM hS) (fun r7109 u t H1 locs ht hvm hw hB hz1 hk1 hS => ?_)
  unfold BM at hB
  rw [ht] at hB
  have hP : va_P (dC, dI) classes (wM g c v F rc) H1 := hB
  have hw_r7109 : (r7109.toInt = 1 ∧ (0 : Int32).toInt ≤ p0.toInt ∧ p0.toInt ≤ z7106.toInt) ∨ (r7109.toInt = 0 ∧ (p0.toInt < (0 : Int32).toInt ∨ z7106.toInt < p0.toInt)) := hw
  clear hw
  have k7110 : (0 : Int32).toInt = 0 := by decide
  clear hz1
  generalize H1 = H at hP hS ⊢
  have hP9 : va_P (dC, dI) classes (wM g c v F rc) H := hP
  exact W.zret (v := r7109) hx hb hr (narB (by omega)) (fun t ht hW => ⟨⟨r7109, (), rfl, (by show (r7109.toInt = 1 ∧ 0 ≤ p0.toInt ∧ p0.toInt < (v 14).toInt) ∨ (r7109.toInt = 0 ∧ (p0.toInt < 0 ∨ (v 14).toInt ≤ p0.toInt)); omega), (by show va_P _ _ _ t.heap; rw [ht]; exact hP9)⟩, hS.F ht⟩) hS.2.2 dX12_isPart_11
set_option maxHeartbeats 8000000 in
set_option maxRecDepth 100000 in
theorem c_X12_isReturned (l : Launch) (dC : Nat → ClassId) (dI : Nat → Nat → Nat) (g : Nat → Nat) (c : Nat → ClassId) (adK adV : Nat → Nat) (v : Nat → Int32) (F : Nat → Nat → Int32) (rc sz : Nat) (p0 : Int32) (hg : injM g) (hI : IM v F) (h0 : 0 ≤ p0.toInt ∧ p0.toInt ≤ 9) : Met l yX12_isReturned (Cond.code yX12_isReturned cX12_isReturned 2 (some .boolean) :: wA) ({ frames := 1, cells := 0, slots := 0, locals := 40 }) (va_Pc [.ref (g 0), .int p0] (PM dC dI g c adK adV v F rc sz)) (va_Qi (fun (r : Int32) (u : Unit) => 0 ≤ r.toInt ∧ r.toInt ≤ 1) (fun (_ : Unit) => BM dC dI g c (v, F, rc)) (AM g sz)) 0 0 (AM g sz) := by
  refine Met.ofW (cc := cX12_isReturned) (maxL := 2) (ret := (some .boolean)) (by decide) rfl ?_
  intro p e s m args below meth c0 s₁ B hml hv
  obtain ⟨rfl, hsz, hP, hK, hE⟩ := hv
  have hx := B.exec
  have hb := B.bytes
  have hr := B.returns
  have hts := atoms_spec (ws := Cond.code yX12_isReturned cX12_isReturned 2 (some .boolean) :: wA) B.pre
  have hwd : ∀ w ∈ wA, w.before _ s = true := fun w h => hts w (List.mem_cons_of_mem _ h)
  have hown : s.vm.findClass RX12 = some m.cls := findClass_of_methodNamed B.named
  have hlocks := B.notSynchronized
  subst hsz
  have hl := lv_entry ([.ref (g 0), .int p0]) (n := 2) (Nat.le_of_ble_eq_true rfl)
  rw [lg_entry_eq]
  generalize (lg_sl ([.ref (g 0), .int p0]) ++ List.replicate (2 - (lg_sl ([.ref (g 0), .int p0])).length) Slot.unset).toArray = ls at hl ⊢
  have hl : lv_has ls 2 [(0, .ref (g 0)), (1, .int p0)] := hl
  obtain ⟨H, eH⟩ : ∃ z, z = s.heap := ⟨_, rfl⟩
  have hP : va_P (dC, dI) classes (wM g c v F rc) H := by rw [eH]; exact hP
  have hS : va_S (AM g s.heap.size) s.heap H [] := by rw [eH]; exact va_S.rf
  refine my_heap eH ?_
  have rp0 := i32_rng p0
  refine lv_aload_n hx hb dX12_isReturned_0 rfl (lv_at hl 0 rfl) ?_
  refine va_get (D := (dC, dI)) (ci := 12) (v := .ref (g 8)) (C := RX12) (T := TX12) (N := 63) hx hb hwd inA_X12 hown hK hP 0 rfl rfl 11 (by decide) (hwd _ wk_189) (fun _ h9 => h9) rfl dX12_isReturned_1 ?_
  refine lv_iload_n hx hb dX12_isReturned_4 rfl (lv_at hl 1 rfl) ?_
  refine va_iald hx hb hK hP 8 7 rfl rfl (i := p0) (vin (a := p0.toInt) rfl (by omega)) dX12_isReturned_5 ?_
  refine lv_topi (fun z7111 e7112 => ?_)
  refine lv_if_lt (tgt := 13) hx hb dX12_isReturned_6 (by decide) (fun c7113 => ?_) (fun c7113 => ?_)
  · skip
    have t7114 := cv_lt (a := z7111.toInt) rfl (b := 0) (by decide) c7113
    refine lv_iconst (v := 0) hx hb dX12_isReturned_13 (by decide) ?_
    have hP9 : va_P (dC, dI) classes (wM g c v F rc) H := hP
    exact W.zret (v := 0) hx hb hr (rfl) (fun t ht hW => ⟨⟨0, (), rfl, by have : (0 : Int32).toInt = 0 := (by decide); omega, (by show va_P _ _ _ t.heap; rw [ht]; exact hP9)⟩, hS.F ht⟩) hS.2.2 dX12_isReturned_14
  · skip
    have t7115 := cv_nlt (a := z7111.toInt) rfl (b := 0) (by decide) c7113
    refine lv_iconst (v := 1) hx hb dX12_isReturned_9 (by decide) ?_
    refine lv_goto (tgt := 14) hx hb dX12_isReturned_10 (by decide) ?_
    have hP9 : va_P (dC, dI) classes (wM g c v F rc) H := hP
    exact W.zret (v := 1) hx hb hr (rfl) (fun t ht hW => ⟨⟨1, (), rfl, by have : (1 : Int32).toInt = 1 := (by decide); omega, (by show va_P _ _ _ t.heap; rw [ht]; exact hP9)⟩, hS.F ht⟩) hS.2.2 dX12_isReturned_14
set_option maxHeartbeats 8000000 in
set_option maxRecDepth 100000 in
theorem c_X12_hasContract (l : Launch) (dC : Nat → ClassId) (dI : Nat → Nat → Nat) (g : Nat → Nat) (c : Nat → ClassId) (adK adV : Nat → Nat) (v : Nat → Int32) (F : Nat → Nat → Int32) (rc sz : Nat) (p0 : Int32) (hg : injM g) (hI : IM v F) (h0 : 0 ≤ p0.toInt ∧ p0.toInt ≤ 9) : Met l yX12_hasContract (Cond.code yX12_hasContract cX12_hasContract 2 (some .boolean) :: wA) ({ frames := 1, cells := 0, slots := 0, locals := 40 }) (va_Pc [.ref (g 0), .int p0] (PM dC dI g c adK adV v F rc sz)) (va_Qi (fun (r : Int32) (u : Unit) => 0 ≤ r.toInt ∧ r.toInt ≤ 1) (fun (_ : Unit) => BM dC dI g c (v, F, rc)) (AM g sz)) 0 0 (AM g sz) := by
  refine Met.ofW (cc := cX12_hasContract) (maxL := 2) (ret := (some .boolean)) (by decide) rfl ?_
  intro p e s m args below meth c0 s₁ B hml hv
  obtain ⟨rfl, hsz, hP, hK, hE⟩ := hv
  have hx := B.exec
  have hb := B.bytes
  have hr := B.returns
  have hts := atoms_spec (ws := Cond.code yX12_hasContract cX12_hasContract 2 (some .boolean) :: wA) B.pre
  have hwd : ∀ w ∈ wA, w.before _ s = true := fun w h => hts w (List.mem_cons_of_mem _ h)
  have hown : s.vm.findClass RX12 = some m.cls := findClass_of_methodNamed B.named
  have hlocks := B.notSynchronized
  subst hsz
  have hl := lv_entry ([.ref (g 0), .int p0]) (n := 2) (Nat.le_of_ble_eq_true rfl)
  rw [lg_entry_eq]
  generalize (lg_sl ([.ref (g 0), .int p0]) ++ List.replicate (2 - (lg_sl ([.ref (g 0), .int p0])).length) Slot.unset).toArray = ls at hl ⊢
  have hl : lv_has ls 2 [(0, .ref (g 0)), (1, .int p0)] := hl
  obtain ⟨H, eH⟩ : ∃ z, z = s.heap := ⟨_, rfl⟩
  have hP : va_P (dC, dI) classes (wM g c v F rc) H := by rw [eH]; exact hP
  have hS : va_S (AM g s.heap.size) s.heap H [] := by rw [eH]; exact va_S.rf
  refine my_heap eH ?_
  have rp0 := i32_rng p0
  refine lv_aload_n hx hb dX12_hasContract_0 rfl (lv_at hl 0 rfl) ?_
  refine va_get (D := (dC, dI)) (ci := 12) (v := .ref (g 35)) (C := RX12) (T := TX12) (N := 63) hx hb hwd inA_X12 hown hK hP 0 rfl rfl 49 (by decide) (hwd _ wk_217) (fun _ h9 => h9) rfl dX12_hasContract_1 ?_
  refine lv_iload_n hx hb dX12_hasContract_4 rfl (lv_at hl 1 rfl) ?_
  refine va_iald hx hb hK hP 35 34 rfl rfl (i := p0) (vin (a := p0.toInt) rfl (by omega)) dX12_hasContract_5 ?_
  refine lv_topi (fun z7116 e7117 => ?_)
  refine lv_if_lt (tgt := 13) hx hb dX12_hasContract_6 (by decide) (fun c7118 => ?_) (fun c7118 => ?_)
  · skip
    have t7119 := cv_lt (a := z7116.toInt) rfl (b := 0) (by decide) c7118
    refine lv_iconst (v := 0) hx hb dX12_hasContract_13 (by decide) ?_
    have hP9 : va_P (dC, dI) classes (wM g c v F rc) H := hP
    exact W.zret (v := 0) hx hb hr (rfl) (fun t ht hW => ⟨⟨0, (), rfl, by have : (0 : Int32).toInt = 0 := (by decide); omega, (by show va_P _ _ _ t.heap; rw [ht]; exact hP9)⟩, hS.F ht⟩) hS.2.2 dX12_hasContract_14
  · skip
    have t7120 := cv_nlt (a := z7116.toInt) rfl (b := 0) (by decide) c7118
    refine lv_iconst (v := 1) hx hb dX12_hasContract_9 (by decide) ?_
    refine lv_goto (tgt := 14) hx hb dX12_hasContract_10 (by decide) ?_
    have hP9 : va_P (dC, dI) classes (wM g c v F rc) H := hP
    exact W.zret (v := 1) hx hb hr (rfl) (fun t ht hW => ⟨⟨1, (), rfl, by have : (1 : Int32).toInt = 1 := (by decide); omega, (by show va_P _ _ _ t.heap; rw [ht]; exact hP9)⟩, hS.F ht⟩) hS.2.2 dX12_hasContract_14
set_option maxHeartbeats 8000000 in
set_option maxRecDepth 100000 in
theorem c_X12_onIt (l : Launch) (dC : Nat → ClassId) (dI : Nat → Nat → Nat) (g : Nat → Nat) (c : Nat → ClassId) (adK adV : Nat → Nat) (v : Nat → Int32) (F : Nat → Nat → Int32) (rc sz : Nat) (p0 : Int32) (p1 : Int32) (hg : injM g) (hI : IM v F) : Met l yX12_onIt (Cond.code yX12_onIt cX12_onIt 5 (some .int) :: wA) ({ frames := 1, cells := 0, slots := 0, locals := 40 }) (va_Pc [.ref (g 0), .int p0, .int p1] (PM dC dI g c adK adV v F rc sz)) (va_Qi (fun (r : Int32) (u : Unit) => True) (fun (_ : Unit) => BM dC dI g c (v, F, rc)) (AM g sz)) 0 0 (AM g sz) := by
  refine Met.ofW (cc := cX12_onIt) (maxL := 5) (ret := (some .int)) (by decide) rfl ?_
  intro p e s m args below meth c0 s₁ B hml hv
  obtain ⟨rfl, hsz, hP, hK, hE⟩ := hv
  have hx := B.exec
  have hb := B.bytes
  have hr := B.returns
  have hts := atoms_spec (ws := Cond.code yX12_onIt cX12_onIt 5 (some .int) :: wA) B.pre
  have hwd : ∀ w ∈ wA, w.before _ s = true := fun w h => hts w (List.mem_cons_of_mem _ h)
  have hown : s.vm.findClass RX12 = some m.cls := findClass_of_methodNamed B.named
  have hlocks := B.notSynchronized
  subst hsz
  have hl := lv_entry ([.ref (g 0), .int p0, .int p1]) (n := 5) (Nat.le_of_ble_eq_true rfl)
  rw [lg_entry_eq]
  generalize (lg_sl ([.ref (g 0), .int p0, .int p1]) ++ List.replicate (5 - (lg_sl ([.ref (g 0), .int p0, .int p1])).length) Slot.unset).toArray = ls at hl ⊢
  have hl : lv_has ls 5 [(0, .ref (g 0)), (1, .int p0), (2, .int p1)] := hl
  obtain ⟨H, eH⟩ : ∃ z, z = s.heap := ⟨_, rfl⟩
  have hP : va_P (dC, dI) classes (wM g c v F rc) H := by rw [eH]; exact hP
  have hS : va_S (AM g s.heap.size) s.heap H [] := by rw [eH]; exact va_S.rf
  refine my_heap eH ?_
  have rp0 := i32_rng p0
  have rp1 := i32_rng p1
  refine lv_iconst (v := 0) hx hb dX12_onIt_0 (by decide) ?_
  refine lv_istore_n (lv' := [(3, .int 0), (0, .ref (g 0)), (1, .int p0), (2, .int p1)]) hx hb dX12_onIt_1 rfl hl (by decide) rfl (fun ls hl => ?_)
  refine lv_iconst (v := 0) hx hb dX12_onIt_2 (by decide) ?_
  refine lv_istore (lv' := [(4, .int 0), (3, .int 0), (0, .ref (g 0)), (1, .int p0), (2, .int p1)]) hx hb dX12_onIt_3 hl (by decide) rfl (fun ls hl => ?_)
  have lp7121 : ∀ (n : Nat) (x4_lp7121 : Int32) (x3_lp7121 : Int32) (H : Heap) (locs : List Loc) (ls : Array Slot), (0 ≤ x4_lp7121.toInt) → (2147483648 - x4_lp7121.toInt ≤ (n : Int)) → va_P (dC, dI) classes (wM g c v F rc) H → va_S (AM g s.heap.size) s.heap H locs → lv_has ls 5 [(4, .int x4_lp7121), (3, .int x3_lp7121), (0, .ref (g 0)), (1, .int p0), (2, .int p1)] → W p l e (headSpec (Cond.code yX12_onIt cX12_onIt 5 (some .int) :: wA) ({ frames := 1, cells := 0, slots := 0, locals := 40 })).room s m ([.ref (g 0), .int p0, .int p1] : List Value).toArray below meth c0 H locs 0 0 (MQ below (va_Qi (fun (r : Int32) (u : Unit) => True) (fun (_ : Unit) => BM dC dI g c (v, F, rc)) (AM g s.heap.size)) ([.ref (g 0), .int p0, .int p1] : List Value).toArray s 0 0 (AM g s.heap.size)) (F0 m 5 ls []) := by
    intro n
    induction n with
    | zero =>
      intro x4_lp7121 x3_lp7121 H locs ls t7122 hm hP hS hl
      exfalso
      have := i32_rng x4_lp7121
      have := i32_rng x3_lp7121
      omega
    | succ n ih_lp7121 =>
      intro x4_lp7121 x3_lp7121 H locs ls t7122 hm hP hS hl
      have rx4_lp7121 := i32_rng x4_lp7121
      have rx3_lp7121 := i32_rng x3_lp7121
      refine lv_iload hx hb dX12_onIt_5 (lv_at hl 0 rfl) ?_
      refine lv_aload_n hx hb dX12_onIt_7 rfl (lv_at hl 2 rfl) ?_
      refine va_get (D := (dC, dI)) (ci := 12) (v := .int (v 14)) (C := RX12) (T := TX12) (N := 63) hx hb hwd inA_X12 hown hK hP 0 rfl rfl 14 (by decide) (hwd _ wk_318) (fun _ h9 => h9) rfl dX12_onIt_8 ?_
      have t7123 : 0 ≤ (v 14).toInt ∧ (v 14).toInt ≤ 100 := hI.1 14 _ _ rfl
      refine lv_icmp_ge (tgt := 50) hx hb dX12_onIt_11 (by decide) (fun c7124 => ?_) (fun c7124 => ?_)
      · skip
        have t7125 := cv_le (a := (v 14).toInt) rfl (b := x4_lp7121.toInt) rfl c7124
        refine lv_iload_n hx hb dX12_onIt_50 rfl (lv_at hl 1 rfl) ?_
        have hP9 : va_P (dC, dI) classes (wM g c v F rc) H := hP
        exact W.iret (v := x3_lp7121) hx hb hr (fun t ht hW => ⟨⟨x3_lp7121, (), rfl, trivial, (by show va_P _ _ _ t.heap; rw [ht]; exact hP9)⟩, hS.F ht⟩) hS.2.2 dX12_onIt_51
      · skip
        have t7126 := cv_nle (a := (v 14).toInt) rfl (b := x4_lp7121.toInt) rfl c7124
        refine lv_iload_n hx hb dX12_onIt_14 rfl (lv_at hl 1 rfl) ?_
        refine lv_aload_n hx hb dX12_onIt_15 rfl (lv_at hl 2 rfl) ?_
        refine va_get (D := (dC, dI)) (ci := 12) (v := .ref (g 13)) (C := RX12) (T := TX12) (N := 63) hx hb hwd inA_X12 hown hK hP 0 rfl rfl 17 (by decide) (hwd _ wk_194) (fun _ h9 => h9) rfl dX12_onIt_16 ?_
        refine lv_iload hx hb dX12_onIt_19 (lv_at hl 0 rfl) ?_
        refine va_iald hx hb hK hP 13 12 rfl rfl (i := x4_lp7121) (vin (a := x4_lp7121.toInt) rfl (by omega)) dX12_onIt_21 ?_
        refine lv_topi (fun z7127 e7128 => ?_)
        have t7129 : 0 ≤ z7127.toInt ∧ z7127.toInt ≤ 12 := by rw [e7128]; exact hI.2 13 _ _ rfl _
        refine lv_iload_n hx hb dX12_onIt_22 rfl (lv_at hl 3 rfl) ?_
        refine lv_icmp_ne (tgt := 41) hx hb dX12_onIt_23 (by decide) (fun c7130 => ?_) (fun c7130 => ?_)
        · skip
          have t7131 := cv_ne (a := z7127.toInt) rfl (b := p0.toInt) rfl c7130
          refine lv_iconst (v := 0) hx hb dX12_onIt_41 (by decide) ?_
          refine lv_iadd hx hb dX12_onIt_42 ?_
          refine lv_topi (fun z7132 e7133 => ?_)
          try (have t7134 := tadd e7133 (a := x3_lp7121.toInt) rfl (b := 0) (by decide) (by omega))
          refine lv_istore_n (lv' := [(3, .int z7132), (4, .int x4_lp7121), (0, .ref (g 0)), (1, .int p0), (2, .int p1)]) hx hb dX12_onIt_43 rfl hl (by decide) rfl (fun ls hl => ?_)
          obtain ⟨z7135, e7136⟩ : ∃ y : Int32, y = x4_lp7121 + 1 := ⟨_, rfl⟩
          try (have t7137 := tadd e7136 rfl (b := 1) (by decide) (by omega))
          refine lv_iinc (v := z7135) (lv' := [(4, .int z7135), (3, .int z7132), (0, .ref (g 0)), (1, .int p0), (2, .int p1)]) hx hb dX12_onIt_44 hl (k := 1) rfl (by rw [e7136]; rfl) (by decide) rfl (fun ls hl => ?_)
          refine lv_goto (tgt := 5) hx hb dX12_onIt_47 (by decide) ?_
          exact ih_lp7121 z7135 z7132  _ _ _ (by omega) (by omega) hP hS (lv_sub hl [0, 1, 2, 3, 4] rfl)
        · skip
          have t7138 := cv_eq (a := z7127.toInt) rfl (b := p0.toInt) rfl c7130
          refine lv_aload_n hx hb dX12_onIt_26 rfl (lv_at hl 2 rfl) ?_
          refine va_get (D := (dC, dI)) (ci := 12) (v := .ref (g 11)) (C := RX12) (T := TX12) (N := 63) hx hb hwd inA_X12 hown hK hP 0 rfl rfl 15 (by decide) (hwd _ wk_192) (fun _ h9 => h9) rfl dX12_onIt_27 ?_
          refine lv_iload hx hb dX12_onIt_30 (lv_at hl 0 rfl) ?_
          refine va_iald hx hb hK hP 11 10 rfl rfl (i := x4_lp7121) (vin (a := x4_lp7121.toInt) rfl (by omega)) dX12_onIt_32 ?_
          refine lv_topi (fun z7139 e7140 => ?_)
          have t7141 : 0 ≤ z7139.toInt ∧ z7139.toInt ≤ 9 := by rw [e7140]; exact hI.2 11 _ _ rfl _
          refine lv_iload_n hx hb dX12_onIt_33 rfl (lv_at hl 4 rfl) ?_
          refine lv_icmp_ne (tgt := 41) hx hb dX12_onIt_34 (by decide) (fun c7142 => ?_) (fun c7142 => ?_)
          · skip
            have t7143 := cv_ne (a := z7139.toInt) rfl (b := p1.toInt) rfl c7142
            refine lv_iconst (v := 0) hx hb dX12_onIt_41 (by decide) ?_
            refine lv_iadd hx hb dX12_onIt_42 ?_
            refine lv_topi (fun z7144 e7145 => ?_)
            try (have t7146 := tadd e7145 (a := x3_lp7121.toInt) rfl (b := 0) (by decide) (by omega))
            refine lv_istore_n (lv' := [(3, .int z7144), (4, .int x4_lp7121), (0, .ref (g 0)), (1, .int p0), (2, .int p1)]) hx hb dX12_onIt_43 rfl hl (by decide) rfl (fun ls hl => ?_)
            obtain ⟨z7147, e7148⟩ : ∃ y : Int32, y = x4_lp7121 + 1 := ⟨_, rfl⟩
            try (have t7149 := tadd e7148 rfl (b := 1) (by decide) (by omega))
            refine lv_iinc (v := z7147) (lv' := [(4, .int z7147), (3, .int z7144), (0, .ref (g 0)), (1, .int p0), (2, .int p1)]) hx hb dX12_onIt_44 hl (k := 1) rfl (by rw [e7148]; rfl) (by decide) rfl (fun ls hl => ?_)
            refine lv_goto (tgt := 5) hx hb dX12_onIt_47 (by decide) ?_
            exact ih_lp7121 z7147 z7144  _ _ _ (by omega) (by omega) hP hS (lv_sub hl [0, 1, 2, 3, 4] rfl)
          · skip
            have t7150 := cv_eq (a := z7139.toInt) rfl (b := p1.toInt) rfl c7142
            refine lv_iconst (v := 1) hx hb dX12_onIt_37 (by decide) ?_
            refine lv_goto (tgt := 42) hx hb dX12_onIt_38 (by decide) ?_
            refine lv_iadd hx hb dX12_onIt_42 ?_
            refine lv_topi (fun z7151 e7152 => ?_)
            try (have t7153 := tadd e7152 (a := x3_lp7121.toInt) rfl (b := 1) (by decide) (by omega))
            refine lv_istore_n (lv' := [(3, .int z7151), (4, .int x4_lp7121), (0, .ref (g 0)), (1, .int p0), (2, .int p1)]) hx hb dX12_onIt_43 rfl hl (by decide) rfl (fun ls hl => ?_)
            obtain ⟨z7154, e7155⟩ : ∃ y : Int32, y = x4_lp7121 + 1 := ⟨_, rfl⟩
            try (have t7156 := tadd e7155 rfl (b := 1) (by decide) (by omega))
            refine lv_iinc (v := z7154) (lv' := [(4, .int z7154), (3, .int z7151), (0, .ref (g 0)), (1, .int p0), (2, .int p1)]) hx hb dX12_onIt_44 hl (k := 1) rfl (by rw [e7155]; rfl) (by decide) rfl (fun ls hl => ?_)
            refine lv_goto (tgt := 5) hx hb dX12_onIt_47 (by decide) ?_
            exact ih_lp7121 z7154 z7151  _ _ _ (by omega) (by omega) hP hS (lv_sub hl [0, 1, 2, 3, 4] rfl)
  obtain ⟨n9, hn9⟩ : ∃ n : Nat, 2147483648 - 0 ≤ (n : Int) := ⟨((2147483648 - 0 : Int)).toNat, by omega⟩
  exact lp7121 n9 0 0  H _ ls (by have : (0 : Int32).toInt = 0 := (by decide); have : (0 : Int32).toInt = 0 := (by decide); omega) (by have : (0 : Int32).toInt = 0 := (by decide); have : (0 : Int32).toInt = 0 := (by decide); omega) hP hS hl
set_option maxHeartbeats 8000000 in
set_option maxRecDepth 100000 in
theorem c_X12_partsAt (l : Launch) (dC : Nat → ClassId) (dI : Nat → Nat → Nat) (g : Nat → Nat) (c : Nat → ClassId) (adK adV : Nat → Nat) (v : Nat → Int32) (F : Nat → Nat → Int32) (rc sz : Nat) (p0 : Int32) (hg : injM g) (hI : IM v F) : Met l yX12_partsAt (Cond.code yX12_partsAt cX12_partsAt 4 (some .int) :: wA) ({ frames := 1, cells := 0, slots := 0, locals := 40 }) (va_Pc [.ref (g 0), .int p0] (PM dC dI g c adK adV v F rc sz)) (va_Qi (fun (r : Int32) (u : Unit) => True) (fun (_ : Unit) => BM dC dI g c (v, F, rc)) (AM g sz)) 0 0 (AM g sz) := by
  refine Met.ofW (cc := cX12_partsAt) (maxL := 4) (ret := (some .int)) (by decide) rfl ?_
  intro p e s m args below meth c0 s₁ B hml hv
  obtain ⟨rfl, hsz, hP, hK, hE⟩ := hv
  have hx := B.exec
  have hb := B.bytes
  have hr := B.returns
  have hts := atoms_spec (ws := Cond.code yX12_partsAt cX12_partsAt 4 (some .int) :: wA) B.pre
  have hwd : ∀ w ∈ wA, w.before _ s = true := fun w h => hts w (List.mem_cons_of_mem _ h)
  have hown : s.vm.findClass RX12 = some m.cls := findClass_of_methodNamed B.named
  have hlocks := B.notSynchronized
  subst hsz
  have hl := lv_entry ([.ref (g 0), .int p0]) (n := 4) (Nat.le_of_ble_eq_true rfl)
  rw [lg_entry_eq]
  generalize (lg_sl ([.ref (g 0), .int p0]) ++ List.replicate (4 - (lg_sl ([.ref (g 0), .int p0])).length) Slot.unset).toArray = ls at hl ⊢
  have hl : lv_has ls 4 [(0, .ref (g 0)), (1, .int p0)] := hl
  obtain ⟨H, eH⟩ : ∃ z, z = s.heap := ⟨_, rfl⟩
  have hP : va_P (dC, dI) classes (wM g c v F rc) H := by rw [eH]; exact hP
  have hS : va_S (AM g s.heap.size) s.heap H [] := by rw [eH]; exact va_S.rf
  refine my_heap eH ?_
  have rp0 := i32_rng p0
  refine lv_iconst (v := 0) hx hb dX12_partsAt_0 (by decide) ?_
  refine lv_istore_n (lv' := [(2, .int 0), (0, .ref (g 0)), (1, .int p0)]) hx hb dX12_partsAt_1 rfl hl (by decide) rfl (fun ls hl => ?_)
  refine lv_iconst (v := 0) hx hb dX12_partsAt_2 (by decide) ?_
  refine lv_istore_n (lv' := [(3, .int 0), (2, .int 0), (0, .ref (g 0)), (1, .int p0)]) hx hb dX12_partsAt_3 rfl hl (by decide) rfl (fun ls hl => ?_)
  have lp7157 : ∀ (n : Nat) (x3_lp7157 : Int32) (x2_lp7157 : Int32) (H : Heap) (locs : List Loc) (ls : Array Slot), (0 ≤ x3_lp7157.toInt) → (2147483648 - x3_lp7157.toInt ≤ (n : Int)) → va_P (dC, dI) classes (wM g c v F rc) H → va_S (AM g s.heap.size) s.heap H locs → lv_has ls 4 [(3, .int x3_lp7157), (2, .int x2_lp7157), (0, .ref (g 0)), (1, .int p0)] → W p l e (headSpec (Cond.code yX12_partsAt cX12_partsAt 4 (some .int) :: wA) ({ frames := 1, cells := 0, slots := 0, locals := 40 })).room s m ([.ref (g 0), .int p0] : List Value).toArray below meth c0 H locs 0 0 (MQ below (va_Qi (fun (r : Int32) (u : Unit) => True) (fun (_ : Unit) => BM dC dI g c (v, F, rc)) (AM g s.heap.size)) ([.ref (g 0), .int p0] : List Value).toArray s 0 0 (AM g s.heap.size)) (F0 m 4 ls []) := by
    intro n
    induction n with
    | zero =>
      intro x3_lp7157 x2_lp7157 H locs ls t7158 hm hP hS hl
      exfalso
      have := i32_rng x3_lp7157
      have := i32_rng x2_lp7157
      omega
    | succ n ih_lp7157 =>
      intro x3_lp7157 x2_lp7157 H locs ls t7158 hm hP hS hl
      have rx3_lp7157 := i32_rng x3_lp7157
      have rx2_lp7157 := i32_rng x2_lp7157
      refine lv_iload_n hx hb dX12_partsAt_4 rfl (lv_at hl 0 rfl) ?_
      refine lv_aload_n hx hb dX12_partsAt_5 rfl (lv_at hl 2 rfl) ?_
      refine va_get (D := (dC, dI)) (ci := 12) (v := .int (v 14)) (C := RX12) (T := TX12) (N := 63) hx hb hwd inA_X12 hown hK hP 0 rfl rfl 14 (by decide) (hwd _ wk_318) (fun _ h9 => h9) rfl dX12_partsAt_6 ?_
      have t7159 : 0 ≤ (v 14).toInt ∧ (v 14).toInt ≤ 100 := hI.1 14 _ _ rfl
      refine lv_icmp_ge (tgt := 36) hx hb dX12_partsAt_9 (by decide) (fun c7160 => ?_) (fun c7160 => ?_)
      · skip
        have t7161 := cv_le (a := (v 14).toInt) rfl (b := x3_lp7157.toInt) rfl c7160
        refine lv_iload_n hx hb dX12_partsAt_36 rfl (lv_at hl 1 rfl) ?_
        have hP9 : va_P (dC, dI) classes (wM g c v F rc) H := hP
        exact W.iret (v := x2_lp7157) hx hb hr (fun t ht hW => ⟨⟨x2_lp7157, (), rfl, trivial, (by show va_P _ _ _ t.heap; rw [ht]; exact hP9)⟩, hS.F ht⟩) hS.2.2 dX12_partsAt_37
      · skip
        have t7162 := cv_nle (a := (v 14).toInt) rfl (b := x3_lp7157.toInt) rfl c7160
        refine lv_iload_n hx hb dX12_partsAt_12 rfl (lv_at hl 1 rfl) ?_
        refine lv_aload_n hx hb dX12_partsAt_13 rfl (lv_at hl 2 rfl) ?_
        refine va_get (D := (dC, dI)) (ci := 12) (v := .ref (g 13)) (C := RX12) (T := TX12) (N := 63) hx hb hwd inA_X12 hown hK hP 0 rfl rfl 17 (by decide) (hwd _ wk_194) (fun _ h9 => h9) rfl dX12_partsAt_14 ?_
        refine lv_iload_n hx hb dX12_partsAt_17 rfl (lv_at hl 0 rfl) ?_
        refine va_iald hx hb hK hP 13 12 rfl rfl (i := x3_lp7157) (vin (a := x3_lp7157.toInt) rfl (by omega)) dX12_partsAt_18 ?_
        refine lv_topi (fun z7163 e7164 => ?_)
        have t7165 : 0 ≤ z7163.toInt ∧ z7163.toInt ≤ 12 := by rw [e7164]; exact hI.2 13 _ _ rfl _
        refine lv_iload_n hx hb dX12_partsAt_19 rfl (lv_at hl 3 rfl) ?_
        refine lv_icmp_ne (tgt := 27) hx hb dX12_partsAt_20 (by decide) (fun c7166 => ?_) (fun c7166 => ?_)
        · skip
          have t7167 := cv_ne (a := z7163.toInt) rfl (b := p0.toInt) rfl c7166
          refine lv_iconst (v := 0) hx hb dX12_partsAt_27 (by decide) ?_
          refine lv_iadd hx hb dX12_partsAt_28 ?_
          refine lv_topi (fun z7168 e7169 => ?_)
          try (have t7170 := tadd e7169 (a := x2_lp7157.toInt) rfl (b := 0) (by decide) (by omega))
          refine lv_istore_n (lv' := [(2, .int z7168), (3, .int x3_lp7157), (0, .ref (g 0)), (1, .int p0)]) hx hb dX12_partsAt_29 rfl hl (by decide) rfl (fun ls hl => ?_)
          obtain ⟨z7171, e7172⟩ : ∃ y : Int32, y = x3_lp7157 + 1 := ⟨_, rfl⟩
          try (have t7173 := tadd e7172 rfl (b := 1) (by decide) (by omega))
          refine lv_iinc (v := z7171) (lv' := [(3, .int z7171), (2, .int z7168), (0, .ref (g 0)), (1, .int p0)]) hx hb dX12_partsAt_30 hl (k := 1) rfl (by rw [e7172]; rfl) (by decide) rfl (fun ls hl => ?_)
          refine lv_goto (tgt := 4) hx hb dX12_partsAt_33 (by decide) ?_
          exact ih_lp7157 z7171 z7168  _ _ _ (by omega) (by omega) hP hS (lv_sub hl [0, 1, 2, 3] rfl)
        · skip
          have t7174 := cv_eq (a := z7163.toInt) rfl (b := p0.toInt) rfl c7166
          refine lv_iconst (v := 1) hx hb dX12_partsAt_23 (by decide) ?_
          refine lv_goto (tgt := 28) hx hb dX12_partsAt_24 (by decide) ?_
          refine lv_iadd hx hb dX12_partsAt_28 ?_
          refine lv_topi (fun z7175 e7176 => ?_)
          try (have t7177 := tadd e7176 (a := x2_lp7157.toInt) rfl (b := 1) (by decide) (by omega))
          refine lv_istore_n (lv' := [(2, .int z7175), (3, .int x3_lp7157), (0, .ref (g 0)), (1, .int p0)]) hx hb dX12_partsAt_29 rfl hl (by decide) rfl (fun ls hl => ?_)
          obtain ⟨z7178, e7179⟩ : ∃ y : Int32, y = x3_lp7157 + 1 := ⟨_, rfl⟩
          try (have t7180 := tadd e7179 rfl (b := 1) (by decide) (by omega))
          refine lv_iinc (v := z7178) (lv' := [(3, .int z7178), (2, .int z7175), (0, .ref (g 0)), (1, .int p0)]) hx hb dX12_partsAt_30 hl (k := 1) rfl (by rw [e7179]; rfl) (by decide) rfl (fun ls hl => ?_)
          refine lv_goto (tgt := 4) hx hb dX12_partsAt_33 (by decide) ?_
          exact ih_lp7157 z7178 z7175  _ _ _ (by omega) (by omega) hP hS (lv_sub hl [0, 1, 2, 3] rfl)
  obtain ⟨n9, hn9⟩ : ∃ n : Nat, 2147483648 - 0 ≤ (n : Int) := ⟨((2147483648 - 0 : Int)).toNat, by omega⟩
  exact lp7157 n9 0 0  H _ ls (by have : (0 : Int32).toInt = 0 := (by decide); have : (0 : Int32).toInt = 0 := (by decide); omega) (by have : (0 : Int32).toInt = 0 := (by decide); have : (0 : Int32).toInt = 0 := (by decide); omega) hP hS hl
