set_option maxHeartbeats 8000000 in
set_option maxRecDepth 100000 in
theorem c_X8_save (l : Launch) (dC : Nat → ClassId) (dI : Nat → Nat → Nat) (g : Nat → Nat) (c : Nat → ClassId) (adK adV : Nat → Nat) (v : Nat → Int32) (F : Nat → Nat → Int32) (rc sz : Nat) (p0 : Int32) (p1 : Int32) (p2 : Int64) (hg : injX g) (hI : IX v F) (h0 : 0 ≤ p0.toInt ∧ p0.toInt ≤ 9) (h1 : 0 ≤ p1.toInt ∧ p1.toInt ≤ 9) : Met l yX8_save (Cond.code yX8_save cX8_save 5 none :: wA) ({ frames := 3, cells := 0, slots := 0, locals := 120 }) (va_Pc [.ref (g 2), .int p0, .int p1, .long p2] (PX dC dI g c adK adV v F rc sz)) (va_Qv (fun (u : StX) => IX u.1 u.2.1 ∧ alX u.1 u.2.1 = alX v F ∧ u.2.2 = rc ∧ (∀ k, k ∉ ([] : List Nat) → u.1 k = v k) ∧ True) (BX dC dI g c) (AX g sz)) 0 0 (AX g sz) := by
  refine Met.ofW (cc := cX8_save) (maxL := 5) (ret := none) (by decide) rfl ?_
  intro p e s m args below meth c0 s₁ B hml hv
  obtain ⟨rfl, hsz, hP, hK, hE⟩ := hv
  have hx := B.exec
  have hb := B.bytes
  have hr := B.returns
  have hts := atoms_spec (ws := Cond.code yX8_save cX8_save 5 none :: wA) B.pre
  have hwd : ∀ w ∈ wA, w.before _ s = true := fun w h => hts w (List.mem_cons_of_mem _ h)
  have hown : s.vm.findClass RX8 = some m.cls := findClass_of_methodNamed B.named
  have hlocks := B.notSynchronized
  subst hsz
  have hl := lv_entry ([.ref (g 2), .int p0, .int p1, .long p2]) (n := 5) (Nat.le_of_ble_eq_true rfl)
  rw [lg_entry_eq]
  generalize (lg_sl ([.ref (g 2), .int p0, .int p1, .long p2]) ++ List.replicate (5 - (lg_sl ([.ref (g 2), .int p0, .int p1, .long p2])).length) Slot.unset).toArray = ls at hl ⊢
  have hl : lv_has ls 5 [(0, .ref (g 2)), (1, .int p0), (2, .int p1), (3, .long p2)] := hl
  obtain ⟨H, eH⟩ : ∃ z, z = s.heap := ⟨_, rfl⟩
  have hP : va_P (dC, dI) classes (wX g c v F rc) H := by rw [eH]; exact hP
  have hS : va_S (AX g s.heap.size) s.heap H [] := by rw [eH]; exact va_S.rf
  refine my_heap eH ?_
  have hal : alX v F = alX v F := rfl
  have rp0 := i32_rng p0
  have rp1 := i32_rng p1
  refine lv_aload_n hx hb dX8_save_0 rfl (lv_at hl 0 rfl) ?_
  refine va_get (D := (dC, dI)) (ci := 8) (v := .ref (g 23)) (C := RX8) (T := TX8) (N := 10) hx hb hwd inA_X8 hown hK hP 2 rfl rfl 9 (by decide) (hwd _ wk_76) (fun _ h9 => h9) rfl dX8_save_1 ?_
  refine lv_iload_n hx hb dX8_save_4 rfl (lv_at hl 1 rfl) ?_
  refine lv_bipush (v := 10) hx hb dX8_save_5 (by decide) ?_
  refine lv_imul hx hb dX8_save_7 ?_
  refine lv_topi (fun z2162 e2163 => ?_)
  try (have t2164 := tmul e2163 (a := p0.toInt) rfl (b := 10) (by decide) (by omega))
  refine lv_iload_n hx hb dX8_save_8 rfl (lv_at hl 2 rfl) ?_
  refine lv_iadd hx hb dX8_save_9 ?_
  refine lv_topi (fun z2165 e2166 => ?_)
  try (have t2167 := tadd e2166 (a := z2162.toInt) rfl (b := p1.toInt) rfl (by omega))
  refine lv_aload_n hx hb dX8_save_10 rfl (lv_at hl 0 rfl) ?_
  refine lv_iload_n hx hb dX8_save_11 rfl (lv_at hl 1 rfl) ?_
  refine lv_iload_n hx hb dX8_save_12 rfl (lv_at hl 2 rfl) ?_
  refine va_calli (va_runV (As := [.int p0, .int p1]) (rest := [.int z2165, .ref (g 23)]) ⟨hx, hb, hml, hown, hwd⟩ (c_X8_savedFor l dC dI g c adK adV v F rc H.size p0 p1 hg hI (by omega) (by omega)) (cwV 2 hwd (gV wk_466 wk_463 wk_464 wk_465 wk_18) rfl rfl rfl (by decide +kernel) ⟨Nat.le_of_ble_eq_true rfl, Nat.le_of_ble_eq_true rfl⟩) ⟨PX.blind, va_recv hK hP (ci := 8) (q0 := 2) rfl rfl, fun U hU hW => ⟨rfl, PX.at hK hE hP hS hU hW⟩⟩ rfl rfl hl.1 rfl (lv_room (Nat.le_of_ble_eq_true rfl)) dX8_save_13 ⟨Nat.le_of_ble_eq_true rfl, Nat.le_of_ble_eq_true rfl⟩) hS (fun q _ h => (freeX hS) q h) (freeX hS) (fun r2168 u t H1 locs ht hvm hw hB hz1 hk1 hS => ?_)
  unfold BX at hB
  rw [ht] at hB
  have hP : va_P (dC, dI) classes (wX g c v F rc) H1 := hB
  generalize H1 = H at hP hS ⊢
  have rr_r2168 := i32_rng r2168
  refine lv_i2l hx hb dX8_save_16 rfl ?_
  refine lv_topl (fun z2169 e2170 => ?_)
  refine lv_lload_n hx hb dX8_save_17 rfl (lv_at hl 3 rfl) ?_
  refine lv_ladd hx hb dX8_save_18 ?_
  refine lv_topl (fun z2171 e2172 => ?_)
  refine va_calli (va_runSN (As := [.long z2171]) (rest := [.int z2165, .ref (g 23)]) ⟨hx, hb, hml, hown, hwd⟩ (c_X11_held l dC dI g c adK adV v F rc H.size z2171 hg hI ) ⟨va_cnB 1 hwd (gS wk_468) rfl rfl rfl hE.1 (hwd _ wk_2) (by decide +kernel) ⟨Nat.le_of_ble_eq_true rfl, Nat.le_of_ble_eq_true rfl⟩, hwd _ wk_467, trivial⟩ ⟨PX.blind, fun U hU hW => ⟨rfl, PX.at hK hE hP hS hU hW⟩⟩ rfl rfl hl.1 rfl (lv_room (Nat.le_of_ble_eq_true rfl)) dX8_save_19 ⟨Nat.le_of_ble_eq_true rfl, Nat.le_of_ble_eq_true rfl⟩) hS (fun q _ h => (freeX hS) q h) (freeX hS) (fun r2173 u t H1 locs ht hvm hw hB hz1 hk1 hS => ?_)
  unfold BX at hB
  rw [ht] at hB
  have hP : va_P (dC, dI) classes (wX g c v F rc) H1 := hB
  generalize H1 = H at hP hS ⊢
  have rr_r2173 := i32_rng r2173
  refine va_iast hx hb hK hP (DX hg) hS 23 11 rfl rfl (i := z2165) (x := r2173) (vin (a := z2165.toInt) rfl (by omega)) dX8_save_22 (fun H locs hP _ hS => ?_)
  have hP := va_P_eq (sX_23 g c _ _ _ _) hP
  have hI := IX.store0 hI 23 (z2165 : Int32).toNatClampNeg r2173 rfl
  have hal := (alX_F _ _ 23 (upd (F 23) (z2165 : Int32).toNatClampNeg r2173) (by decide) (by decide)).trans hal
  have hP : va_P (dC, dI) classes (wX g c v (va_up F 23 (upd (F 23) (z2165 : Int32).toNatClampNeg r2173)) rc) H := hP
  generalize (va_up F 23 (upd (F 23) (z2165 : Int32).toNatClampNeg r2173)) = F2174 at hP hI hal
  have hP9 : va_P (dC, dI) classes (wX g c v F2174 rc) H := hP
  exact W.vret hx hb hr (fun t ht hW => ⟨⟨(v, F2174, rc), rfl, ⟨hI, hal, rfl, (fun _ _ => rfl), trivial⟩, (by show va_P _ _ _ t.heap; rw [ht]; exact hP9)⟩, hS.F ht⟩) hS.2.2 dX8_save_23
set_option maxHeartbeats 8000000 in
set_option maxRecDepth 100000 in
theorem c_X8_payOut (l : Launch) (dC : Nat → ClassId) (dI : Nat → Nat → Nat) (g : Nat → Nat) (c : Nat → ClassId) (adK adV : Nat → Nat) (v : Nat → Int32) (F : Nat → Nat → Int32) (rc sz : Nat) (p0 : Int32) (p1 : Int32) (p2 : Int32) (hg : injX g) (hI : IX v F) (h0 : 0 ≤ p0.toInt ∧ p0.toInt ≤ 9) (h1 : 0 ≤ p1.toInt ∧ p1.toInt ≤ 9) : Met l yX8_payOut (Cond.code yX8_payOut cX8_payOut 5 (some .int) :: wA) ({ frames := 2, cells := 0, slots := 0, locals := 80 }) (va_Pc [.ref (g 2), .int p0, .int p1, .int p2] (PX dC dI g c adK adV v F rc sz)) (va_Qi (fun (r : Int32) (u : StX) => IX u.1 u.2.1 ∧ alX u.1 u.2.1 = alX v F ∧ u.2.2 = rc ∧ (∀ k, k ∉ ([] : List Nat) → u.1 k = v k) ∧ True) (BX dC dI g c) (AX g sz)) 0 0 (AX g sz) := by
  refine Met.ofW (cc := cX8_payOut) (maxL := 5) (ret := (some .int)) (by decide) rfl ?_
  intro p e s m args below meth c0 s₁ B hml hv
  obtain ⟨rfl, hsz, hP, hK, hE⟩ := hv
  have hx := B.exec
  have hb := B.bytes
  have hr := B.returns
  have hts := atoms_spec (ws := Cond.code yX8_payOut cX8_payOut 5 (some .int) :: wA) B.pre
  have hwd : ∀ w ∈ wA, w.before _ s = true := fun w h => hts w (List.mem_cons_of_mem _ h)
  have hown : s.vm.findClass RX8 = some m.cls := findClass_of_methodNamed B.named
  have hlocks := B.notSynchronized
  subst hsz
  have hl := lv_entry ([.ref (g 2), .int p0, .int p1, .int p2]) (n := 5) (Nat.le_of_ble_eq_true rfl)
  rw [lg_entry_eq]
  generalize (lg_sl ([.ref (g 2), .int p0, .int p1, .int p2]) ++ List.replicate (5 - (lg_sl ([.ref (g 2), .int p0, .int p1, .int p2])).length) Slot.unset).toArray = ls at hl ⊢
  have hl : lv_has ls 5 [(0, .ref (g 2)), (1, .int p0), (2, .int p1), (3, .int p2)] := hl
  obtain ⟨H, eH⟩ : ∃ z, z = s.heap := ⟨_, rfl⟩
  have hP : va_P (dC, dI) classes (wX g c v F rc) H := by rw [eH]; exact hP
  have hS : va_S (AX g s.heap.size) s.heap H [] := by rw [eH]; exact va_S.rf
  refine my_heap eH ?_
  have hal : alX v F = alX v F := rfl
  have rp0 := i32_rng p0
  have rp1 := i32_rng p1
  have rp2 := i32_rng p2
  refine lv_iload_n hx hb dX8_payOut_0 rfl (lv_at hl 3 rfl) ?_
  refine lv_aload_n hx hb dX8_payOut_1 rfl (lv_at hl 0 rfl) ?_
  refine lv_iload_n hx hb dX8_payOut_2 rfl (lv_at hl 1 rfl) ?_
  refine lv_iload_n hx hb dX8_payOut_3 rfl (lv_at hl 2 rfl) ?_
  refine va_calli (va_runV (As := [.int p0, .int p1]) (rest := [.int p2]) ⟨hx, hb, hml, hown, hwd⟩ (c_X8_savedFor l dC dI g c adK adV v F rc H.size p0 p1 hg hI (by omega) (by omega)) (cwV 2 hwd (gV wk_466 wk_463 wk_464 wk_465 wk_18) rfl rfl rfl (by decide +kernel) ⟨Nat.le_of_ble_eq_true rfl, Nat.le_of_ble_eq_true rfl⟩) ⟨PX.blind, va_recv hK hP (ci := 8) (q0 := 2) rfl rfl, fun U hU hW => ⟨rfl, PX.at hK hE hP hS hU hW⟩⟩ rfl rfl hl.1 rfl (lv_room (Nat.le_of_ble_eq_true rfl)) dX8_payOut_4 ⟨Nat.le_of_ble_eq_true rfl, Nat.le_of_ble_eq_true rfl⟩) hS (fun q _ h => (freeX hS) q h) (freeX hS) (fun r2175 u t H1 locs ht hvm hw hB hz1 hk1 hS => ?_)
  unfold BX at hB
  rw [ht] at hB
  have hP : va_P (dC, dI) classes (wX g c v F rc) H1 := hB
  generalize H1 = H at hP hS ⊢
  have rr_r2175 := i32_rng r2175
  refine va_mmin hx hb (by rw [hml]; exact hl.1.symm) hown (hwd _ wk_1343) (hwd _ wk_391) (hwd _ wk_392) (hwd _ wk_393) (Nat.le_of_ble_eq_true rfl) (Nat.le_of_ble_eq_true rfl) (Nat.le_of_ble_eq_true rfl) (Nat.le_of_ble_eq_true rfl) dX8_payOut_7 ?_
  refine lv_topi (fun z2176 e2177 => ?_)
  have t2178 := tmin e2177 (a := p2.toInt) rfl (b := r2175.toInt) rfl
  refine lv_istore (lv' := [(4, .int z2176), (0, .ref (g 2)), (1, .int p0), (2, .int p1), (3, .int p2)]) hx hb dX8_payOut_10 hl (by decide) rfl (fun ls hl => ?_)
  refine lv_aload_n hx hb dX8_payOut_12 rfl (lv_at hl 1 rfl) ?_
  refine va_get (D := (dC, dI)) (ci := 8) (v := .ref (g 23)) (C := RX8) (T := TX8) (N := 10) hx hb hwd inA_X8 hown hK hP 2 rfl rfl 9 (by decide) (hwd _ wk_76) (fun _ h9 => h9) rfl dX8_payOut_13 ?_
  refine lv_iload_n hx hb dX8_payOut_16 rfl (lv_at hl 2 rfl) ?_
  refine lv_bipush (v := 10) hx hb dX8_payOut_17 (by decide) ?_
  refine lv_imul hx hb dX8_payOut_19 ?_
  refine lv_topi (fun z2179 e2180 => ?_)
  try (have t2181 := tmul e2180 (a := p0.toInt) rfl (b := 10) (by decide) (by omega))
  refine lv_iload_n hx hb dX8_payOut_20 rfl (lv_at hl 3 rfl) ?_
  refine lv_iadd hx hb dX8_payOut_21 ?_
  refine lv_topi (fun z2182 e2183 => ?_)
  try (have t2184 := tadd e2183 (a := z2179.toInt) rfl (b := p1.toInt) rfl (by omega))
  refine lv_dup2_11 hx hb dX8_payOut_22 rfl rfl ?_
  refine va_iald hx hb hK hP 23 11 rfl rfl (i := z2182) (vin (a := z2182.toInt) rfl (by omega)) dX8_payOut_23 ?_
  refine lv_topi (fun z2185 e2186 => ?_)
  refine lv_iload hx hb dX8_payOut_24 (lv_at hl 0 rfl) ?_
  refine lv_isub hx hb dX8_payOut_26 ?_
  refine lv_topi (fun z2187 e2188 => ?_)
  try (have t2189 := tsub e2188 (a := z2185.toInt) rfl (b := z2176.toInt) rfl (by omega))
  refine va_iast hx hb hK hP (DX hg) hS 23 11 rfl rfl (i := z2182) (x := z2187) (vin (a := z2182.toInt) rfl (by omega)) dX8_payOut_27 (fun H locs hP _ hS => ?_)
  have hP := va_P_eq (sX_23 g c _ _ _ _) hP
  have hI := IX.store0 hI 23 (z2182 : Int32).toNatClampNeg z2187 rfl
  have hal := (alX_F _ _ 23 (upd (F 23) (z2182 : Int32).toNatClampNeg z2187) (by decide) (by decide)).trans hal
  have hP : va_P (dC, dI) classes (wX g c v (va_up F 23 (upd (F 23) (z2182 : Int32).toNatClampNeg z2187)) rc) H := hP
  generalize (va_up F 23 (upd (F 23) (z2182 : Int32).toNatClampNeg z2187)) = F2190 at hP hI hal
  refine lv_iload hx hb dX8_payOut_28 (lv_at hl 0 rfl) ?_
  have hP9 : va_P (dC, dI) classes (wX g c v F2190 rc) H := hP
  exact W.iret (v := z2176) hx hb hr (fun t ht hW => ⟨⟨z2176, (v, F2190, rc), rfl, ⟨hI, hal, rfl, (fun _ _ => rfl), trivial⟩, (by show va_P _ _ _ t.heap; rw [ht]; exact hP9)⟩, hS.F ht⟩) hS.2.2 dX8_payOut_30
set_option maxHeartbeats 8000000 in
set_option maxRecDepth 100000 in
theorem c_X8_linkRent (l : Launch) (dC : Nat → ClassId) (dI : Nat → Nat → Nat) (g : Nat → Nat) (c : Nat → ClassId) (adK adV : Nat → Nat) (v : Nat → Int32) (F : Nat → Nat → Int32) (rc sz : Nat) (p0 : Int32) (p1 : Int32) (hg : injX g) (hI : IX v F) (h0 : 0 ≤ p0.toInt ∧ p0.toInt ≤ 9) : Met l yX8_linkRent (Cond.code yX8_linkRent cX8_linkRent 3 (some .int) :: wA) ({ frames := 1, cells := 0, slots := 0, locals := 40 }) (va_Pc [.ref (g 2), .int p0, .int p1] (PX dC dI g c adK adV v F rc sz)) (va_Qi (fun (r : Int32) (u : Unit) => True) (fun (_ : Unit) => BX dC dI g c (v, F, rc)) (AX g sz)) 0 0 (AX g sz) := by
  refine Met.ofW (cc := cX8_linkRent) (maxL := 3) (ret := (some .int)) (by decide) rfl ?_
  intro p e s m args below meth c0 s₁ B hml hv
  obtain ⟨rfl, hsz, hP, hK, hE⟩ := hv
  have hx := B.exec
  have hb := B.bytes
  have hr := B.returns
  have hts := atoms_spec (ws := Cond.code yX8_linkRent cX8_linkRent 3 (some .int) :: wA) B.pre
  have hwd : ∀ w ∈ wA, w.before _ s = true := fun w h => hts w (List.mem_cons_of_mem _ h)
  have hown : s.vm.findClass RX8 = some m.cls := findClass_of_methodNamed B.named
  have hlocks := B.notSynchronized
  subst hsz
  have hl := lv_entry ([.ref (g 2), .int p0, .int p1]) (n := 3) (Nat.le_of_ble_eq_true rfl)
  rw [lg_entry_eq]
  generalize (lg_sl ([.ref (g 2), .int p0, .int p1]) ++ List.replicate (3 - (lg_sl ([.ref (g 2), .int p0, .int p1])).length) Slot.unset).toArray = ls at hl ⊢
  have hl : lv_has ls 3 [(0, .ref (g 2)), (1, .int p0), (2, .int p1)] := hl
  obtain ⟨H, eH⟩ : ∃ z, z = s.heap := ⟨_, rfl⟩
  have hP : va_P (dC, dI) classes (wX g c v F rc) H := by rw [eH]; exact hP
  have hS : va_S (AX g s.heap.size) s.heap H [] := by rw [eH]; exact va_S.rf
  refine my_heap eH ?_
  have rp0 := i32_rng p0
  have rp1 := i32_rng p1
  refine lv_iload_n hx hb dX8_linkRent_0 rfl (lv_at hl 2 rfl) ?_
  refine lv_if_lt (tgt := 27) hx hb dX8_linkRent_1 (by decide) (fun c2191 => ?_) (fun c2191 => ?_)
  · skip
    have t2192 := cv_lt (a := p1.toInt) rfl (b := 0) (by decide) c2191
    refine lv_iconst (v := 0) hx hb dX8_linkRent_27 (by decide) ?_
    have hP9 : va_P (dC, dI) classes (wX g c v F rc) H := hP
    exact W.iret (v := 0) hx hb hr (fun t ht hW => ⟨⟨0, (), rfl, trivial, (by show va_P _ _ _ t.heap; rw [ht]; exact hP9)⟩, hS.F ht⟩) hS.2.2 dX8_linkRent_28
  · skip
    have t2193 := cv_nlt (a := p1.toInt) rfl (b := 0) (by decide) c2191
    refine lv_iload_n hx hb dX8_linkRent_4 rfl (lv_at hl 2 rfl) ?_
    refine lv_aload_n hx hb dX8_linkRent_5 rfl (lv_at hl 0 rfl) ?_
    refine va_get (D := (dC, dI)) (ci := 8) (v := .ref (g 20)) (C := RX8) (T := TX8) (N := 10) hx hb hwd inA_X8 hown hK hP 2 rfl rfl 6 (by decide) (hwd _ wk_73) (fun _ h9 => h9) rfl dX8_linkRent_6 ?_
    refine lv_iload_n hx hb dX8_linkRent_9 rfl (lv_at hl 1 rfl) ?_
    refine va_iald hx hb hK hP 20 8 rfl rfl (i := p0) (vin (a := p0.toInt) rfl (by omega)) dX8_linkRent_10 ?_
    refine lv_topi (fun z2194 e2195 => ?_)
    have t2196 : 0 ≤ z2194.toInt ∧ z2194.toInt ≤ 4 := by rw [e2195]; exact hI.2 20 _ _ rfl _
    refine lv_icmp_ge (tgt := 27) hx hb dX8_linkRent_11 (by decide) (fun c2197 => ?_) (fun c2197 => ?_)
    · skip
      have t2198 := cv_le (a := z2194.toInt) rfl (b := p1.toInt) rfl c2197
      refine lv_iconst (v := 0) hx hb dX8_linkRent_27 (by decide) ?_
      have hP9 : va_P (dC, dI) classes (wX g c v F rc) H := hP
      exact W.iret (v := 0) hx hb hr (fun t ht hW => ⟨⟨0, (), rfl, trivial, (by show va_P _ _ _ t.heap; rw [ht]; exact hP9)⟩, hS.F ht⟩) hS.2.2 dX8_linkRent_28
    · skip
      have t2199 := cv_nle (a := z2194.toInt) rfl (b := p1.toInt) rfl c2197
      refine lv_aload_n hx hb dX8_linkRent_14 rfl (lv_at hl 0 rfl) ?_
      refine va_get (D := (dC, dI)) (ci := 8) (v := .ref (g 21)) (C := RX8) (T := TX8) (N := 10) hx hb hwd inA_X8 hown hK hP 2 rfl rfl 7 (by decide) (hwd _ wk_74) (fun _ h9 => h9) rfl dX8_linkRent_15 ?_
      refine lv_iload_n hx hb dX8_linkRent_18 rfl (lv_at hl 1 rfl) ?_
      refine lv_iconst (v := 4) hx hb dX8_linkRent_19 (by decide) ?_
      refine lv_imul hx hb dX8_linkRent_20 ?_
      refine lv_topi (fun z2200 e2201 => ?_)
      try (have t2202 := tmul e2201 (a := p0.toInt) rfl (b := 4) (by decide) (by omega))
      refine lv_iload_n hx hb dX8_linkRent_21 rfl (lv_at hl 2 rfl) ?_
      refine lv_iadd hx hb dX8_linkRent_22 ?_
      refine lv_topi (fun z2203 e2204 => ?_)
      try (have t2205 := tadd e2204 (a := z2200.toInt) rfl (b := p1.toInt) rfl (by omega))
      refine va_iald hx hb hK hP 21 9 rfl rfl (i := z2203) (vin (a := z2203.toInt) rfl (by omega)) dX8_linkRent_23 ?_
      refine lv_topi (fun z2206 e2207 => ?_)
      refine lv_goto (tgt := 28) hx hb dX8_linkRent_24 (by decide) ?_
      have hP9 : va_P (dC, dI) classes (wX g c v F rc) H := hP
      exact W.iret (v := z2206) hx hb hr (fun t ht hW => ⟨⟨z2206, (), rfl, trivial, (by show va_P _ _ _ t.heap; rw [ht]; exact hP9)⟩, hS.F ht⟩) hS.2.2 dX8_linkRent_28
set_option maxHeartbeats 8000000 in
set_option maxRecDepth 100000 in
theorem c_X11_isPlace (l : Launch) (dC : Nat → ClassId) (dI : Nat → Nat → Nat) (g : Nat → Nat) (c : Nat → ClassId) (adK adV : Nat → Nat) (v : Nat → Int32) (F : Nat → Nat → Int32) (rc sz : Nat) (p0 : Int32) (hg : injX g) (hI : IX v F) : Met l yX11_isPlace (Cond.code yX11_isPlace cX11_isPlace 2 (some .boolean) :: wA) ({ frames := 2, cells := 0, slots := 0, locals := 80 }) (va_Pc [.ref (g 0), .int p0] (PX dC dI g c adK adV v F rc sz)) (va_Qi (fun (r : Int32) (u : Unit) => 0 ≤ r.toInt ∧ r.toInt ≤ 1) (fun (_ : Unit) => BX dC dI g c (v, F, rc)) (AX g sz)) 0 0 (AX g sz) := by
  refine Met.ofW (cc := cX11_isPlace) (maxL := 2) (ret := (some .boolean)) (by decide) rfl ?_
  intro p e s m args below meth c0 s₁ B hml hv
  obtain ⟨rfl, hsz, hP, hK, hE⟩ := hv
  have hx := B.exec
  have hb := B.bytes
  have hr := B.returns
  have hts := atoms_spec (ws := Cond.code yX11_isPlace cX11_isPlace 2 (some .boolean) :: wA) B.pre
  have hwd : ∀ w ∈ wA, w.before _ s = true := fun w h => hts w (List.mem_cons_of_mem _ h)
  have hown : s.vm.findClass RX11 = some m.cls := findClass_of_methodNamed B.named
  have hlocks := B.notSynchronized
  subst hsz
  have hl := lv_entry ([.ref (g 0), .int p0]) (n := 2) (Nat.le_of_ble_eq_true rfl)
  rw [lg_entry_eq]
  generalize (lg_sl ([.ref (g 0), .int p0]) ++ List.replicate (2 - (lg_sl ([.ref (g 0), .int p0])).length) Slot.unset).toArray = ls at hl ⊢
  have hl : lv_has ls 2 [(0, .ref (g 0)), (1, .int p0)] := hl
  obtain ⟨H, eH⟩ : ∃ z, z = s.heap := ⟨_, rfl⟩
  have hP : va_P (dC, dI) classes (wX g c v F rc) H := by rw [eH]; exact hP
  have hS : va_S (AX g s.heap.size) s.heap H [] := by rw [eH]; exact va_S.rf
  refine my_heap eH ?_
  have rp0 := i32_rng p0
  refine lv_aload_n hx hb dX11_isPlace_0 rfl (lv_at hl 0 rfl) ?_
  refine va_get (D := (dC, dI)) (ci := 11) (v := .ref (g 2)) (C := RX11) (T := TX11) (N := 14) hx hb hwd inA_X11 hown hK hP 0 rfl rfl 1 (by decide) (hwd _ wk_19) (fun _ h9 => h9) rfl dX11_isPlace_1 ?_
  refine lv_iload_n hx hb dX11_isPlace_4 rfl (lv_at hl 1 rfl) ?_
  refine va_calli (va_runV (As := [.int p0]) (rest := []) ⟨hx, hb, hml, hown, hwd⟩ (c_X8_has l dC dI g c adK adV v F rc H.size p0 hg hI ) (cwV 1 hwd (gV wk_276 wk_273 wk_274 wk_275 wk_18) rfl rfl rfl (by decide +kernel) ⟨Nat.le_of_ble_eq_true rfl, Nat.le_of_ble_eq_true rfl⟩) ⟨PX.blind, va_recv hK hP (ci := 8) (q0 := 2) rfl rfl, fun U hU hW => ⟨rfl, PX.at hK hE hP hS hU hW⟩⟩ rfl rfl hl.1 rfl (lv_room (Nat.le_of_ble_eq_true rfl)) dX11_isPlace_5 ⟨Nat.le_of_ble_eq_true rfl, Nat.le_of_ble_eq_true rfl⟩) hS (fun q _ h => (freeX hS) q h) (freeX hS) (fun r2208 u t H1 locs ht hvm hw hB hz1 hk1 hS => ?_)
  unfold BX at hB
  rw [ht] at hB
  have hP : va_P (dC, dI) classes (wX g c v F rc) H1 := hB
  have hw : (0 ≤ r2208.toInt ∧ r2208.toInt ≤ 1) ∧ (r2208.toInt = 1 → 0 ≤ p0.toInt ∧ p0.toInt < 10) := hw
  generalize H1 = H at hP hS ⊢
  have hw_r2208 := hw
  refine lv_if_ne (tgt := 23) hx hb dX11_isPlace_8 (by decide) (fun c2209 => ?_) (fun c2209 => ?_)
  · skip
    have t2210 := cv_ne (a := r2208.toInt) rfl (b := 0) (by decide) c2209
    refine lv_iconst (v := 1) hx hb dX11_isPlace_23 (by decide) ?_
    refine lv_goto (tgt := 28) hx hb dX11_isPlace_24 (by decide) ?_
    have hP9 : va_P (dC, dI) classes (wX g c v F rc) H := hP
    exact W.zret (v := 1) hx hb hr (rfl) (fun t ht hW => ⟨⟨1, (), rfl, by have : (1 : Int32).toInt = 1 := (by decide); omega, (by show va_P _ _ _ t.heap; rw [ht]; exact hP9)⟩, hS.F ht⟩) hS.2.2 dX11_isPlace_28
  · skip
    have t2211 := cv_eq (a := r2208.toInt) rfl (b := 0) (by decide) c2209
    refine lv_iload_n hx hb dX11_isPlace_11 rfl (lv_at hl 1 rfl) ?_
    refine lv_bipush (v := 10) hx hb dX11_isPlace_12 (by decide) ?_
    refine lv_icmp_eq (tgt := 23) hx hb dX11_isPlace_14 (by decide) (fun c2212 => ?_) (fun c2212 => ?_)
    · skip
      have t2213 := cv_eq (a := p0.toInt) rfl (b := 10) (by decide) c2212
      refine lv_iconst (v := 1) hx hb dX11_isPlace_23 (by decide) ?_
      refine lv_goto (tgt := 28) hx hb dX11_isPlace_24 (by decide) ?_
      have hP9 : va_P (dC, dI) classes (wX g c v F rc) H := hP
      exact W.zret (v := 1) hx hb hr (rfl) (fun t ht hW => ⟨⟨1, (), rfl, by have : (1 : Int32).toInt = 1 := (by decide); omega, (by show va_P _ _ _ t.heap; rw [ht]; exact hP9)⟩, hS.F ht⟩) hS.2.2 dX11_isPlace_28
    · skip
      have t2214 := cv_ne (a := p0.toInt) rfl (b := 10) (by decide) c2212
      refine lv_iload_n hx hb dX11_isPlace_17 rfl (lv_at hl 1 rfl) ?_
      refine lv_bipush (v := 11) hx hb dX11_isPlace_18 (by decide) ?_
      refine lv_icmp_ne (tgt := 27) hx hb dX11_isPlace_20 (by decide) (fun c2215 => ?_) (fun c2215 => ?_)
      · skip
        have t2216 := cv_ne (a := p0.toInt) rfl (b := 11) (by decide) c2215
        refine lv_iconst (v := 0) hx hb dX11_isPlace_27 (by decide) ?_
        have hP9 : va_P (dC, dI) classes (wX g c v F rc) H := hP
        exact W.zret (v := 0) hx hb hr (rfl) (fun t ht hW => ⟨⟨0, (), rfl, by have : (0 : Int32).toInt = 0 := (by decide); omega, (by show va_P _ _ _ t.heap; rw [ht]; exact hP9)⟩, hS.F ht⟩) hS.2.2 dX11_isPlace_28
      · skip
        have t2217 := cv_eq (a := p0.toInt) rfl (b := 11) (by decide) c2215
        refine lv_iconst (v := 1) hx hb dX11_isPlace_23 (by decide) ?_
        refine lv_goto (tgt := 28) hx hb dX11_isPlace_24 (by decide) ?_
        have hP9 : va_P (dC, dI) classes (wX g c v F rc) H := hP
        exact W.zret (v := 1) hx hb hr (rfl) (fun t ht hW => ⟨⟨1, (), rfl, by have : (1 : Int32).toInt = 1 := (by decide); omega, (by show va_P _ _ _ t.heap; rw [ht]; exact hP9)⟩, hS.F ht⟩) hS.2.2 dX11_isPlace_28
set_option maxHeartbeats 8000000 in
set_option maxRecDepth 100000 in
theorem c_X11_takes (l : Launch) (dC : Nat → ClassId) (dI : Nat → Nat → Nat) (g : Nat → Nat) (c : Nat → ClassId) (adK adV : Nat → Nat) (v : Nat → Int32) (F : Nat → Nat → Int32) (rc sz : Nat) (p0 : Int32) (p1 : Int32) (hg : injX g) (hI : IX v F) (h1 : 0 ≤ p1.toInt ∧ p1.toInt ≤ 9) : Met l yX11_takes (Cond.code yX11_takes cX11_takes 3 (some .boolean) :: wA) ({ frames := 2, cells := 0, slots := 0, locals := 80 }) (va_Pc [.ref (g 0), .int p0, .int p1] (PX dC dI g c adK adV v F rc sz)) (va_Qi (fun (r : Int32) (u : Unit) => 0 ≤ r.toInt ∧ r.toInt ≤ 1) (fun (_ : Unit) => BX dC dI g c (v, F, rc)) (AX g sz)) 0 0 (AX g sz) := by
  refine Met.ofW (cc := cX11_takes) (maxL := 3) (ret := (some .boolean)) (by decide) rfl ?_
  intro p e s m args below meth c0 s₁ B hml hv
  obtain ⟨rfl, hsz, hP, hK, hE⟩ := hv
  have hx := B.exec
  have hb := B.bytes
  have hr := B.returns
  have hts := atoms_spec (ws := Cond.code yX11_takes cX11_takes 3 (some .boolean) :: wA) B.pre
  have hwd : ∀ w ∈ wA, w.before _ s = true := fun w h => hts w (List.mem_cons_of_mem _ h)
  have hown : s.vm.findClass RX11 = some m.cls := findClass_of_methodNamed B.named
  have hlocks := B.notSynchronized
  subst hsz
  have hl := lv_entry ([.ref (g 0), .int p0, .int p1]) (n := 3) (Nat.le_of_ble_eq_true rfl)
  rw [lg_entry_eq]
  generalize (lg_sl ([.ref (g 0), .int p0, .int p1]) ++ List.replicate (3 - (lg_sl ([.ref (g 0), .int p0, .int p1])).length) Slot.unset).toArray = ls at hl ⊢
  have hl : lv_has ls 3 [(0, .ref (g 0)), (1, .int p0), (2, .int p1)] := hl
  obtain ⟨H, eH⟩ : ∃ z, z = s.heap := ⟨_, rfl⟩
  have hP : va_P (dC, dI) classes (wX g c v F rc) H := by rw [eH]; exact hP
  have hS : va_S (AX g s.heap.size) s.heap H [] := by rw [eH]; exact va_S.rf
  refine my_heap eH ?_
  have rp0 := i32_rng p0
  have rp1 := i32_rng p1
  refine lv_aload_n hx hb dX11_takes_0 rfl (lv_at hl 0 rfl) ?_
  refine va_get (D := (dC, dI)) (ci := 11) (v := .ref (g 2)) (C := RX11) (T := TX11) (N := 14) hx hb hwd inA_X11 hown hK hP 0 rfl rfl 1 (by decide) (hwd _ wk_19) (fun _ h9 => h9) rfl dX11_takes_1 ?_
  refine lv_iload_n hx hb dX11_takes_4 rfl (lv_at hl 1 rfl) ?_
  refine va_calli (va_runV (As := [.int p0]) (rest := []) ⟨hx, hb, hml, hown, hwd⟩ (c_X8_has l dC dI g c adK adV v F rc H.size p0 hg hI ) (cwV 1 hwd (gV wk_276 wk_273 wk_274 wk_275 wk_18) rfl rfl rfl (by decide +kernel) ⟨Nat.le_of_ble_eq_true rfl, Nat.le_of_ble_eq_true rfl⟩) ⟨PX.blind, va_recv hK hP (ci := 8) (q0 := 2) rfl rfl, fun U hU hW => ⟨rfl, PX.at hK hE hP hS hU hW⟩⟩ rfl rfl hl.1 rfl (lv_room (Nat.le_of_ble_eq_true rfl)) dX11_takes_5 ⟨Nat.le_of_ble_eq_true rfl, Nat.le_of_ble_eq_true rfl⟩) hS (fun q _ h => (freeX hS) q h) (freeX hS) (fun r2218 u t H1 locs ht hvm hw hB hz1 hk1 hS => ?_)
  unfold BX at hB
  rw [ht] at hB
  have hP : va_P (dC, dI) classes (wX g c v F rc) H1 := hB
  have hw : (0 ≤ r2218.toInt ∧ r2218.toInt ≤ 1) ∧ (r2218.toInt = 1 → 0 ≤ p0.toInt ∧ p0.toInt < 10) := hw
  generalize H1 = H at hP hS ⊢
  have hw_r2218 := hw
  refine lv_if_ne (tgt := 13) hx hb dX11_takes_8 (by decide) (fun c2219 => ?_) (fun c2219 => ?_)
  · skip
    have t2220 := cv_ne (a := r2218.toInt) rfl (b := 0) (by decide) c2219
    refine lv_aload_n hx hb dX11_takes_13 rfl (lv_at hl 0 rfl) ?_
    refine va_get (D := (dC, dI)) (ci := 11) (v := .ref (g 2)) (C := RX11) (T := TX11) (N := 14) hx hb hwd inA_X11 hown hK hP 0 rfl rfl 1 (by decide) (hwd _ wk_19) (fun _ h9 => h9) rfl dX11_takes_14 ?_
    refine lv_iload_n hx hb dX11_takes_17 rfl (lv_at hl 1 rfl) ?_
    refine va_calli (va_runV (As := [.int p0]) (rest := []) ⟨hx, hb, hml, hown, hwd⟩ (c_X8_isBack l dC dI g c adK adV v F rc H.size p0 hg hI (by omega)) (cwV 1 hwd (gV wk_284 wk_281 wk_282 wk_283 wk_18) rfl rfl rfl (by decide +kernel) ⟨Nat.le_of_ble_eq_true rfl, Nat.le_of_ble_eq_true rfl⟩) ⟨PX.blind, va_recv hK hP (ci := 8) (q0 := 2) rfl rfl, fun U hU hW => ⟨rfl, PX.at hK hE hP hS hU hW⟩⟩ rfl rfl hl.1 rfl (lv_room (Nat.le_of_ble_eq_true rfl)) dX11_takes_18 ⟨Nat.le_of_ble_eq_true rfl, Nat.le_of_ble_eq_true rfl⟩) hS (fun q _ h => (freeX hS) q h) (freeX hS) (fun r2221 u t H1 locs ht hvm hw hB hz1 hk1 hS => ?_)
    unfold BX at hB
    rw [ht] at hB
    have hP : va_P (dC, dI) classes (wX g c v F rc) H1 := hB
    have hw : 0 ≤ r2221.toInt ∧ r2221.toInt ≤ 1 := hw
    generalize H1 = H at hP hS ⊢
    have hw_r2221 := hw
    refine lv_if_ne (tgt := 49) hx hb dX11_takes_21 (by decide) (fun c2222 => ?_) (fun c2222 => ?_)
    · skip
      have t2223 := cv_ne (a := r2221.toInt) rfl (b := 0) (by decide) c2222
      refine lv_iconst (v := 0) hx hb dX11_takes_49 (by decide) ?_
      have hP9 : va_P (dC, dI) classes (wX g c v F rc) H := hP
      exact W.zret (v := 0) hx hb hr (rfl) (fun t ht hW => ⟨⟨0, (), rfl, by have : (0 : Int32).toInt = 0 := (by decide); omega, (by show va_P _ _ _ t.heap; rw [ht]; exact hP9)⟩, hS.F ht⟩) hS.2.2 dX11_takes_50
    · skip
      have t2224 := cv_eq (a := r2221.toInt) rfl (b := 0) (by decide) c2222
      refine lv_aload_n hx hb dX11_takes_24 rfl (lv_at hl 0 rfl) ?_
      refine va_get (D := (dC, dI)) (ci := 11) (v := .ref (g 3)) (C := RX11) (T := TX11) (N := 14) hx hb hwd inA_X11 hown hK hP 0 rfl rfl 2 (by decide) (hwd _ wk_27) (fun _ h9 => h9) rfl dX11_takes_25 ?_
      refine lv_iload_n hx hb dX11_takes_28 rfl (lv_at hl 2 rfl) ?_
      refine lv_iload_n hx hb dX11_takes_29 rfl (lv_at hl 1 rfl) ?_
      refine va_calli (va_runV (As := [.int p1, .int p0]) (rest := []) ⟨hx, hb, hml, hown, hwd⟩ (c_X7_ofKindAt l dC dI g c adK adV v F rc H.size p1 p0 hg hI ) (cwV 2 hwd (gV wk_288 wk_285 wk_286 wk_287 wk_26) rfl rfl rfl (by decide +kernel) ⟨Nat.le_of_ble_eq_true rfl, Nat.le_of_ble_eq_true rfl⟩) ⟨PX.blind, va_recv hK hP (ci := 7) (q0 := 3) rfl rfl, fun U hU hW => ⟨rfl, PX.at hK hE hP hS hU hW⟩⟩ rfl rfl hl.1 rfl (lv_room (Nat.le_of_ble_eq_true rfl)) dX11_takes_30 ⟨Nat.le_of_ble_eq_true rfl, Nat.le_of_ble_eq_true rfl⟩) hS (fun q _ h => (freeX hS) q h) (freeX hS) (fun r2225 u t H1 locs ht hvm hw hB hz1 hk1 hS => ?_)
      unfold BX at hB
      rw [ht] at hB
      have hP : va_P (dC, dI) classes (wX g c v F rc) H1 := hB
      generalize H1 = H at hP hS ⊢
      have rr_r2225 := i32_rng r2225
      refine lv_aload_n hx hb dX11_takes_33 rfl (lv_at hl 0 rfl) ?_
      refine va_get (D := (dC, dI)) (ci := 11) (v := .ref (g 2)) (C := RX11) (T := TX11) (N := 14) hx hb hwd inA_X11 hown hK hP 0 rfl rfl 1 (by decide) (hwd _ wk_19) (fun _ h9 => h9) rfl dX11_takes_34 ?_
      refine lv_iload_n hx hb dX11_takes_37 rfl (lv_at hl 1 rfl) ?_
      refine lv_iload_n hx hb dX11_takes_38 rfl (lv_at hl 2 rfl) ?_
      refine va_calli (va_runV (As := [.int p0, .int p1]) (rest := [.int r2225]) ⟨hx, hb, hml, hown, hwd⟩ (c_X8_needOf l dC dI g c adK adV v F rc H.size p0 p1 hg hI (by omega) (by omega)) (cwV 2 hwd (gV wk_297 wk_614 wk_295 wk_296 wk_18) rfl rfl rfl (by decide +kernel) ⟨Nat.le_of_ble_eq_true rfl, Nat.le_of_ble_eq_true rfl⟩) ⟨PX.blind, va_recv hK hP (ci := 8) (q0 := 2) rfl rfl, fun U hU hW => ⟨rfl, PX.at hK hE hP hS hU hW⟩⟩ rfl rfl hl.1 rfl (lv_room (Nat.le_of_ble_eq_true rfl)) dX11_takes_39 ⟨Nat.le_of_ble_eq_true rfl, Nat.le_of_ble_eq_true rfl⟩) hS (fun q _ h => (freeX hS) q h) (freeX hS) (fun r2226 u t H1 locs ht hvm hw hB hz1 hk1 hS => ?_)
      unfold BX at hB
      rw [ht] at hB
      have hP : va_P (dC, dI) classes (wX g c v F rc) H1 := hB
      generalize H1 = H at hP hS ⊢
      have rr_r2226 := i32_rng r2226
      refine lv_icmp_ge (tgt := 49) hx hb dX11_takes_42 (by decide) (fun c2227 => ?_) (fun c2227 => ?_)
      · skip
        have t2228 := cv_le (a := r2226.toInt) rfl (b := r2225.toInt) rfl c2227
        refine lv_iconst (v := 0) hx hb dX11_takes_49 (by decide) ?_
        have hP9 : va_P (dC, dI) classes (wX g c v F rc) H := hP
        exact W.zret (v := 0) hx hb hr (rfl) (fun t ht hW => ⟨⟨0, (), rfl, by have : (0 : Int32).toInt = 0 := (by decide); omega, (by show va_P _ _ _ t.heap; rw [ht]; exact hP9)⟩, hS.F ht⟩) hS.2.2 dX11_takes_50
      · skip
        have t2229 := cv_nle (a := r2226.toInt) rfl (b := r2225.toInt) rfl c2227
        refine lv_iconst (v := 1) hx hb dX11_takes_45 (by decide) ?_
        refine lv_goto (tgt := 50) hx hb dX11_takes_46 (by decide) ?_
        have hP9 : va_P (dC, dI) classes (wX g c v F rc) H := hP
        exact W.zret (v := 1) hx hb hr (rfl) (fun t ht hW => ⟨⟨1, (), rfl, by have : (1 : Int32).toInt = 1 := (by decide); omega, (by show va_P _ _ _ t.heap; rw [ht]; exact hP9)⟩, hS.F ht⟩) hS.2.2 dX11_takes_50
  · skip
    have t2230 := cv_eq (a := r2218.toInt) rfl (b := 0) (by decide) c2219
    refine lv_iconst (v := 1) hx hb dX11_takes_11 (by decide) ?_
    have hP9 : va_P (dC, dI) classes (wX g c v F rc) H := hP
    exact W.zret (v := 1) hx hb hr (rfl) (fun t ht hW => ⟨⟨1, (), rfl, by have : (1 : Int32).toInt = 1 := (by decide); omega, (by show va_P _ _ _ t.heap; rw [ht]; exact hP9)⟩, hS.F ht⟩) hS.2.2 dX11_takes_12
set_option maxHeartbeats 8000000 in
set_option maxRecDepth 100000 in
theorem c_X11_stayAt (l : Launch) (dC : Nat → ClassId) (dI : Nat → Nat → Nat) (g : Nat → Nat) (c : Nat → ClassId) (adK adV : Nat → Nat) (v : Nat → Int32) (F : Nat → Nat → Int32) (rc sz : Nat) (p0 : Int32) (p1 : Int32) (hg : injX g) (hI : IX v F) : Met l yX11_stayAt (Cond.code yX11_stayAt cX11_stayAt 3 (some .int) :: wA) ({ frames := 2, cells := 0, slots := 0, locals := 80 }) (va_Pc [.ref (g 0), .int p0, .int p1] (PX dC dI g c adK adV v F rc sz)) (va_Qi (fun (r : Int32) (u : Unit) => (-1 ≤ r.toInt ∧ r.toInt ≤ 499) ∧ (r.toInt = -1 ∨ (0 ≤ p0.toInt ∧ p0.toInt ≤ 99))) (fun (_ : Unit) => BX dC dI g c (v, F, rc)) (AX g sz)) 0 0 (AX g sz) := by
  refine Met.ofW (cc := cX11_stayAt) (maxL := 3) (ret := (some .int)) (by decide) rfl ?_
  intro p e s m args below meth c0 s₁ B hml hv
  obtain ⟨rfl, hsz, hP, hK, hE⟩ := hv
  have hx := B.exec
  have hb := B.bytes
  have hr := B.returns
  have hts := atoms_spec (ws := Cond.code yX11_stayAt cX11_stayAt 3 (some .int) :: wA) B.pre
  have hwd : ∀ w ∈ wA, w.before _ s = true := fun w h => hts w (List.mem_cons_of_mem _ h)
  have hown : s.vm.findClass RX11 = some m.cls := findClass_of_methodNamed B.named
  have hlocks := B.notSynchronized
  subst hsz
  have hl := lv_entry ([.ref (g 0), .int p0, .int p1]) (n := 3) (Nat.le_of_ble_eq_true rfl)
  rw [lg_entry_eq]
  generalize (lg_sl ([.ref (g 0), .int p0, .int p1]) ++ List.replicate (3 - (lg_sl ([.ref (g 0), .int p0, .int p1])).length) Slot.unset).toArray = ls at hl ⊢
  have hl : lv_has ls 3 [(0, .ref (g 0)), (1, .int p0), (2, .int p1)] := hl
  obtain ⟨H, eH⟩ : ∃ z, z = s.heap := ⟨_, rfl⟩
  have hP : va_P (dC, dI) classes (wX g c v F rc) H := by rw [eH]; exact hP
  have hS : va_S (AX g s.heap.size) s.heap H [] := by rw [eH]; exact va_S.rf
  refine my_heap eH ?_
  have rp0 := i32_rng p0
  have rp1 := i32_rng p1
  refine lv_aload_n hx hb dX11_stayAt_0 rfl (lv_at hl 0 rfl) ?_
  refine va_get (D := (dC, dI)) (ci := 11) (v := .ref (g 3)) (C := RX11) (T := TX11) (N := 14) hx hb hwd inA_X11 hown hK hP 0 rfl rfl 2 (by decide) (hwd _ wk_27) (fun _ h9 => h9) rfl dX11_stayAt_1 ?_
  refine lv_iload_n hx hb dX11_stayAt_4 rfl (lv_at hl 1 rfl) ?_
  refine va_calli (va_runV (As := [.int p0]) (rest := []) ⟨hx, hb, hml, hown, hwd⟩ (c_X7_has l dC dI g c adK adV v F rc H.size p0 hg hI ) (cwV 1 hwd (gV wk_605 wk_602 wk_603 wk_604 wk_26) rfl rfl rfl (by decide +kernel) ⟨Nat.le_of_ble_eq_true rfl, Nat.le_of_ble_eq_true rfl⟩) ⟨PX.blind, va_recv hK hP (ci := 7) (q0 := 3) rfl rfl, fun U hU hW => ⟨rfl, PX.at hK hE hP hS hU hW⟩⟩ rfl rfl hl.1 rfl (lv_room (Nat.le_of_ble_eq_true rfl)) dX11_stayAt_5 ⟨Nat.le_of_ble_eq_true rfl, Nat.le_of_ble_eq_true rfl⟩) hS (fun q _ h => (freeX hS) q h) (freeX hS) (fun r2231 u t H1 locs ht hvm hw hB hz1 hk1 hS => ?_)
  unfold BX at hB
  rw [ht] at hB
  have hP : va_P (dC, dI) classes (wX g c v F rc) H1 := hB
  have hw : (0 ≤ r2231.toInt ∧ r2231.toInt ≤ 1) ∧ (r2231.toInt = 1 → 0 ≤ p0.toInt ∧ p0.toInt < 100) := hw
  generalize H1 = H at hP hS ⊢
  have hw_r2231 := hw
  refine lv_if_eq (tgt := 23) hx hb dX11_stayAt_8 (by decide) (fun c2232 => ?_) (fun c2232 => ?_)
  · skip
    have t2233 := cv_eq (a := r2231.toInt) rfl (b := 0) (by decide) c2232
    refine lv_iconst (v := (-1)) hx hb dX11_stayAt_23 (by decide) ?_
    have hP9 : va_P (dC, dI) classes (wX g c v F rc) H := hP
    exact W.iret (v := (-1)) hx hb hr (fun t ht hW => ⟨⟨(-1), (), rfl, by have : ((-1) : Int32).toInt = (-1) := (by decide); omega, (by show va_P _ _ _ t.heap; rw [ht]; exact hP9)⟩, hS.F ht⟩) hS.2.2 dX11_stayAt_24
  · skip
    have t2234 := cv_ne (a := r2231.toInt) rfl (b := 0) (by decide) c2232
    refine lv_aload_n hx hb dX11_stayAt_11 rfl (lv_at hl 0 rfl) ?_
    refine va_get (D := (dC, dI)) (ci := 11) (v := .ref (g 4)) (C := RX11) (T := TX11) (N := 14) hx hb hwd inA_X11 hown hK hP 0 rfl rfl 3 (by decide) (hwd _ wk_23) (fun _ h9 => h9) rfl dX11_stayAt_12 ?_
    refine lv_iload_n hx hb dX11_stayAt_15 rfl (lv_at hl 1 rfl) ?_
    refine lv_iload_n hx hb dX11_stayAt_16 rfl (lv_at hl 2 rfl) ?_
    refine va_calli (va_runV (As := [.int p0, .int p1]) (rest := []) ⟨hx, hb, hml, hown, hwd⟩ (c_X9_at l dC dI g c adK adV v F rc H.size p0 p1 hg hI (by omega)) (cwV 2 hwd (gV wk_797 wk_794 wk_795 wk_796 wk_22) rfl rfl rfl (by decide +kernel) ⟨Nat.le_of_ble_eq_true rfl, Nat.le_of_ble_eq_true rfl⟩) ⟨PX.blind, va_recv hK hP (ci := 9) (q0 := 4) rfl rfl, fun U hU hW => ⟨rfl, PX.at hK hE hP hS hU hW⟩⟩ rfl rfl hl.1 rfl (lv_room (Nat.le_of_ble_eq_true rfl)) dX11_stayAt_17 ⟨Nat.le_of_ble_eq_true rfl, Nat.le_of_ble_eq_true rfl⟩) hS (fun q _ h => (freeX hS) q h) (freeX hS) (fun r2235 u t H1 locs ht hvm hw hB hz1 hk1 hS => ?_)
    unfold BX at hB
    rw [ht] at hB
    have hP : va_P (dC, dI) classes (wX g c v F rc) H1 := hB
    have hw : -1 ≤ r2235.toInt ∧ r2235.toInt ≤ 499 := hw
    generalize H1 = H at hP hS ⊢
    have hw_r2235 := hw
    refine lv_goto (tgt := 24) hx hb dX11_stayAt_20 (by decide) ?_
    have hP9 : va_P (dC, dI) classes (wX g c v F rc) H := hP
    exact W.iret (v := r2235) hx hb hr (fun t ht hW => ⟨⟨r2235, (), rfl, by omega, (by show va_P _ _ _ t.heap; rw [ht]; exact hP9)⟩, hS.F ht⟩) hS.2.2 dX11_stayAt_24
set_option maxHeartbeats 8000000 in
set_option maxRecDepth 100000 in
theorem c_X11_setReservesAside (l : Launch) (dC : Nat → ClassId) (dI : Nat → Nat → Nat) (g : Nat → Nat) (c : Nat → ClassId) (adK adV : Nat → Nat) (v : Nat → Int32) (F : Nat → Nat → Int32) (rc sz : Nat) (p0 : Int32) (p1 : Int32) (hg : injX g) (hI : IX v F) (h0 : 0 ≤ p0.toInt ∧ p0.toInt ≤ 9) : Met l yX11_setReservesAside (Cond.code yX11_setReservesAside cX11_setReservesAside 4 none :: wA) ({ frames := 4, cells := 0, slots := 0, locals := 160 }) (va_Pc [.ref (g 0), .int p0, .int p1] (PX dC dI g c adK adV v F rc sz)) (va_Qv (fun (u : StX) => IX u.1 u.2.1 ∧ alX u.1 u.2.1 = alX v F ∧ u.2.2 = rc ∧ (∀ k, k ∉ ([] : List Nat) → u.1 k = v k) ∧ True) (BX dC dI g c) (AX g sz)) 0 0 (AX g sz) := by
  refine Met.ofW (cc := cX11_setReservesAside) (maxL := 4) (ret := none) (by decide) rfl ?_
  intro p e s m args below meth c0 s₁ B hml hv
  obtain ⟨rfl, hsz, hP, hK, hE⟩ := hv
  have hx := B.exec
  have hb := B.bytes
  have hr := B.returns
  have hts := atoms_spec (ws := Cond.code yX11_setReservesAside cX11_setReservesAside 4 none :: wA) B.pre
  have hwd : ∀ w ∈ wA, w.before _ s = true := fun w h => hts w (List.mem_cons_of_mem _ h)
  have hown : s.vm.findClass RX11 = some m.cls := findClass_of_methodNamed B.named
  have hlocks := B.notSynchronized
  subst hsz
  have hl := lv_entry ([.ref (g 0), .int p0, .int p1]) (n := 4) (Nat.le_of_ble_eq_true rfl)
  rw [lg_entry_eq]
  generalize (lg_sl ([.ref (g 0), .int p0, .int p1]) ++ List.replicate (4 - (lg_sl ([.ref (g 0), .int p0, .int p1])).length) Slot.unset).toArray = ls at hl ⊢
  have hl : lv_has ls 4 [(0, .ref (g 0)), (1, .int p0), (2, .int p1)] := hl
  obtain ⟨H, eH⟩ : ∃ z, z = s.heap := ⟨_, rfl⟩
  have hP : va_P (dC, dI) classes (wX g c v F rc) H := by rw [eH]; exact hP
  have hS : va_S (AX g s.heap.size) s.heap H [] := by rw [eH]; exact va_S.rf
  refine my_heap eH ?_
  have hal : alX v F = alX v F := rfl
  have rp0 := i32_rng p0
  have rp1 := i32_rng p1
  refine lv_iconst (v := 0) hx hb dX11_setReservesAside_0 (by decide) ?_
  refine lv_istore_n (lv' := [(3, .int 0), (0, .ref (g 0)), (1, .int p0), (2, .int p1)]) hx hb dX11_setReservesAside_1 rfl hl (by decide) rfl (fun ls hl => ?_)
  have lp2236 : ∀ (n : Nat) (x3_lp2236 : Int32) (v_lp2236 : Nat → Int32) (F_lp2236 : Nat → Nat → Int32) (H : Heap) (locs : List Loc) (ls : Array Slot), (0 ≤ x3_lp2236.toInt) → (2147483648 - x3_lp2236.toInt ≤ (n : Int)) → (∀ k, k ∉ ([] : List Nat) → v_lp2236 k = v k) → IX v_lp2236 F_lp2236 → alX v_lp2236 F_lp2236 = alX v F → va_P (dC, dI) classes (wX g c v_lp2236 F_lp2236 rc) H → va_S (AX g s.heap.size) s.heap H locs → lv_has ls 4 [(3, .int x3_lp2236), (0, .ref (g 0)), (1, .int p0), (2, .int p1)] → W p l e (headSpec (Cond.code yX11_setReservesAside cX11_setReservesAside 4 none :: wA) ({ frames := 4, cells := 0, slots := 0, locals := 160 })).room s m ([.ref (g 0), .int p0, .int p1] : List Value).toArray below meth c0 H locs 0 0 (MQ below (va_Qv (fun (u : StX) => IX u.1 u.2.1 ∧ alX u.1 u.2.1 = alX v F ∧ u.2.2 = rc ∧ (∀ k, k ∉ ([] : List Nat) → u.1 k = v k) ∧ True) (BX dC dI g c) (AX g s.heap.size)) ([.ref (g 0), .int p0, .int p1] : List Value).toArray s 0 0 (AX g s.heap.size)) (F0 m 2 ls []) := by
    intro n
    induction n with
    | zero =>
      intro x3_lp2236 v_lp2236 F_lp2236 H locs ls t2237 hm hf_lp2236 hI hal hP hS hl
      exfalso
      have := i32_rng x3_lp2236
      have hI1 := hI.1
      omega
    | succ n ih_lp2236 =>
      intro x3_lp2236 v_lp2236 F_lp2236 H locs ls t2237 hm hf_lp2236 hI hal hP hS hl
      have rx3_lp2236 := i32_rng x3_lp2236
      refine lv_iload_n hx hb dX11_setReservesAside_2 rfl (lv_at hl 0 rfl) ?_
      refine lv_aload_n hx hb dX11_setReservesAside_3 rfl (lv_at hl 1 rfl) ?_
      refine va_get (D := (dC, dI)) (ci := 11) (v := .ref (g 1)) (C := RX11) (T := TX11) (N := 14) hx hb hwd inA_X11 hown hK hP 0 rfl rfl 0 (by decide) (hwd _ wk_15) (fun _ h9 => h9) rfl dX11_setReservesAside_4 ?_
      refine va_get (D := (dC, dI)) (ci := 2) (v := .int (v_lp2236 20)) (C := RX2) (T := TX2) (N := 4) hx hb hwd inA_X2 hown hK hP 1 rfl rfl 0 (by decide) (hwd _ wk_457) (fun _ h9 => h9) rfl dX11_setReservesAside_7 ?_
      refine my_top (v := v 20) (hf_lp2236 20 (by decide)) ?_
      have t2238 : 0 ≤ (v 20).toInt ∧ (v 20).toInt ≤ 10 := by have h9 := hI.1 20 _ _ rfl; rw [show v_lp2236 20 = v 20 from hf_lp2236 20 (by decide)] at h9; exact h9
      refine lv_icmp_ge (tgt := 52) hx hb dX11_setReservesAside_10 (by decide) (fun c2239 => ?_) (fun c2239 => ?_)
      · skip
        have t2240 := cv_le (a := (v 20).toInt) rfl (b := x3_lp2236.toInt) rfl c2239
        have hP9 : va_P (dC, dI) classes (wX g c v_lp2236 F_lp2236 rc) H := hP
        exact W.vret hx hb hr (fun t ht hW => ⟨⟨(v_lp2236, F_lp2236, rc), rfl, ⟨hI, hal, rfl, (frC (by decide) hf_lp2236 (fun _ _ => rfl)), trivial⟩, (by show va_P _ _ _ t.heap; rw [ht]; exact hP9)⟩, hS.F ht⟩) hS.2.2 dX11_setReservesAside_52
      · skip
        have t2241 := cv_nle (a := (v 20).toInt) rfl (b := x3_lp2236.toInt) rfl c2239
        refine lv_aload_n hx hb dX11_setReservesAside_13 rfl (lv_at hl 1 rfl) ?_
        refine va_get (D := (dC, dI)) (ci := 11) (v := .ref (g 2)) (C := RX11) (T := TX11) (N := 14) hx hb hwd inA_X11 hown hK hP 0 rfl rfl 1 (by decide) (hwd _ wk_19) (fun _ h9 => h9) rfl dX11_setReservesAside_14 ?_
        refine lv_iload_n hx hb dX11_setReservesAside_17 rfl (lv_at hl 2 rfl) ?_
        refine lv_iload_n hx hb dX11_setReservesAside_18 rfl (lv_at hl 0 rfl) ?_
        refine lv_iload_n hx hb dX11_setReservesAside_19 rfl (lv_at hl 3 rfl) ?_
        refine lv_i2l hx hb dX11_setReservesAside_20 rfl ?_
        refine lv_topl (fun z2242 e2243 => ?_)
        refine lv_aload_n hx hb dX11_setReservesAside_21 rfl (lv_at hl 1 rfl) ?_
        refine va_get (D := (dC, dI)) (ci := 11) (v := .ref (g 1)) (C := RX11) (T := TX11) (N := 14) hx hb hwd inA_X11 hown hK hP 0 rfl rfl 0 (by decide) (hwd _ wk_15) (fun _ h9 => h9) rfl dX11_setReservesAside_22 ?_
        refine va_get (D := (dC, dI)) (ci := 2) (v := .ref (g 14)) (C := RX2) (T := TX2) (N := 4) hx hb hwd inA_X2 hown hK hP 1 rfl rfl 3 (by decide) (hwd _ wk_458) (fun _ h9 => h9) rfl dX11_setReservesAside_25 ?_
        refine lv_iload_n hx hb dX11_setReservesAside_28 rfl (lv_at hl 0 rfl) ?_
        refine va_iald hx hb hK hP 14 2 rfl rfl (i := x3_lp2236) (vin (a := x3_lp2236.toInt) rfl (by omega)) dX11_setReservesAside_29 ?_
        refine lv_topi (fun z2244 e2245 => ?_)
        refine lv_i2l hx hb dX11_setReservesAside_30 rfl ?_
        refine lv_topl (fun z2246 e2247 => ?_)
        refine lv_lmul hx hb dX11_setReservesAside_31 ?_
        refine lv_topl (fun z2248 e2249 => ?_)
        refine lv_aload_n hx hb dX11_setReservesAside_32 rfl (lv_at hl 1 rfl) ?_
        refine va_get (D := (dC, dI)) (ci := 11) (v := .ref (g 3)) (C := RX11) (T := TX11) (N := 14) hx hb hwd inA_X11 hown hK hP 0 rfl rfl 2 (by decide) (hwd _ wk_27) (fun _ h9 => h9) rfl dX11_setReservesAside_33 ?_
        refine lv_iload_n hx hb dX11_setReservesAside_36 rfl (lv_at hl 0 rfl) ?_
        refine lv_iload_n hx hb dX11_setReservesAside_37 rfl (lv_at hl 2 rfl) ?_
        refine va_calli (va_runV (As := [.int x3_lp2236, .int p0]) (rest := [.long z2248, .int x3_lp2236, .int p0, .ref (g 2)]) ⟨hx, hb, hml, hown, hwd⟩ (c_X7_ofKindAt l dC dI g c adK adV v_lp2236 F_lp2236 rc H.size x3_lp2236 p0 hg hI ) (cwV 2 hwd (gV wk_288 wk_285 wk_286 wk_287 wk_26) rfl rfl rfl (by decide +kernel) ⟨Nat.le_of_ble_eq_true rfl, Nat.le_of_ble_eq_true rfl⟩) ⟨PX.blind, va_recv hK hP (ci := 7) (q0 := 3) rfl rfl, fun U hU hW => ⟨rfl, PX.at hK hE hP hS hU hW⟩⟩ rfl rfl hl.1 rfl (lv_room (Nat.le_of_ble_eq_true rfl)) dX11_setReservesAside_38 ⟨Nat.le_of_ble_eq_true rfl, Nat.le_of_ble_eq_true rfl⟩) hS (fun q _ h => (freeX hS) q h) (freeX hS) (fun r2250 u t H1 locs ht hvm hw hB hz1 hk1 hS => ?_)
        unfold BX at hB
        rw [ht] at hB
        have hP : va_P (dC, dI) classes (wX g c v_lp2236 F_lp2236 rc) H1 := hB
        generalize H1 = H at hP hS ⊢
        have rr_r2250 := i32_rng r2250
        refine lv_i2l hx hb dX11_setReservesAside_41 rfl ?_
        refine lv_topl (fun z2251 e2252 => ?_)
        refine lv_lmul hx hb dX11_setReservesAside_42 ?_
        refine lv_topl (fun z2253 e2254 => ?_)
        refine va_callv (va_runV (As := [.int p0, .int x3_lp2236, .long z2253]) (rest := []) ⟨hx, hb, hml, hown, hwd⟩ (c_X8_save l dC dI g c adK adV v_lp2236 F_lp2236 rc H.size p0 x3_lp2236 z2253 hg hI (by omega) (by omega)) (cwV 3 hwd (gV wk_462 wk_459 wk_460 wk_461 wk_18) rfl rfl rfl (by decide +kernel) ⟨Nat.le_of_ble_eq_true rfl, Nat.le_of_ble_eq_true rfl⟩) ⟨PX.blind, va_recv hK hP (ci := 8) (q0 := 2) rfl rfl, fun U hU hW => ⟨rfl, PX.at hK hE hP hS hU hW⟩⟩ rfl rfl hl.1 rfl (lv_room (Nat.le_of_ble_eq_true rfl)) dX11_setReservesAside_43 ⟨Nat.le_of_ble_eq_true rfl, Nat.le_of_ble_eq_true rfl⟩) hS (fun q _ h => (freeX hS) q h) (freeX hS) (fun u t H1 locs ht hvm hw hB hz1 hk1 hS => ?_)
        unfold BX at hB
        rw [ht] at hB
        obtain ⟨v2256, F2257, rc9⟩ := u
        obtain ⟨hI, hal9, hrc, hf2258, hw⟩ := hw
        dsimp only at hI hal9 hrc hB hf2258 hw
        rw [hrc] at hB
        have hal := hal9.trans hal
        have hP : va_P (dC, dI) classes (wX g c v2256 F2257 rc) H1 := hB
        generalize H1 = H at hP hS ⊢
        obtain ⟨z2259, e2260⟩ : ∃ y : Int32, y = x3_lp2236 + 1 := ⟨_, rfl⟩
        try (have t2261 := tadd e2260 rfl (b := 1) (by decide) (by omega))
        refine lv_iinc (v := z2259) (lv' := [(3, .int z2259), (0, .ref (g 0)), (1, .int p0), (2, .int p1)]) hx hb dX11_setReservesAside_46 hl (k := 0) rfl (by rw [e2260]; rfl) (by decide) rfl (fun ls hl => ?_)
        refine lv_goto (tgt := 2) hx hb dX11_setReservesAside_49 (by decide) ?_
        exact ih_lp2236 z2259 v2256 F2257 _ _ _ (by omega) (by omega) (frC (by decide) hf2258 hf_lp2236) hI hal hP hS (lv_sub hl [0, 1, 2, 3] rfl)
  obtain ⟨n9, hn9⟩ : ∃ n : Nat, 2147483648 - 0 ≤ (n : Int) := ⟨((2147483648 - 0 : Int)).toNat, by omega⟩
  exact lp2236 n9 0 v F H _ ls (by have : (0 : Int32).toInt = 0 := (by decide); omega) (by have : (0 : Int32).toInt = 0 := (by decide); omega) (fun _ _ => rfl) hI hal hP hS hl
