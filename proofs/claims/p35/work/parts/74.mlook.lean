set_option maxHeartbeats 8000000 in
set_option maxRecDepth 100000 in
theorem c_X12_look (l : Launch) (dC : Nat → ClassId) (dI : Nat → Nat → Nat) (g : Nat → Nat) (c : Nat → ClassId) (adK adV : Nat → Nat) (v : Nat → Int32) (F : Nat → Nat → Int32) (rc sz : Nat) (hg : injM g) (hI : IM v F) : Met l yX12_look (Cond.code yX12_look cX12_look 1 (some .int) :: wA) ({ frames := 1, cells := 0, slots := 0, locals := 40 }) (va_Pc [.ref (g 0)] (PM dC dI g c adK adV v F rc sz)) (va_Qi (fun (r : Int32) (u : Unit) => r.toInt = lkM (v 39) (v 30) (F 24) ∧ ((v 39).toInt < (v 30).toInt ∨ r.toInt = -1)) (fun (_ : Unit) => BM dC dI g c (v, F, rc)) (AM g sz)) 0 0 (AM g sz) := by
  refine Met.ofW (cc := cX12_look) (maxL := 1) (ret := (some .int)) (by decide) rfl ?_
  intro p e s m args below meth c0 s₁ B hml hv
  obtain ⟨rfl, hsz, hP, hK, hE⟩ := hv
  have hx := B.exec
  have hb := B.bytes
  have hr := B.returns
  have hts := atoms_spec (ws := Cond.code yX12_look cX12_look 1 (some .int) :: wA) B.pre
  have hwd : ∀ w ∈ wA, w.before _ s = true := fun w h => hts w (List.mem_cons_of_mem _ h)
  have hown : s.vm.findClass RX12 = some m.cls := findClass_of_methodNamed B.named
  have hlocks := B.notSynchronized
  subst hsz
  have hl := lv_entry ([.ref (g 0)]) (n := 1) (Nat.le_of_ble_eq_true rfl)
  rw [lg_entry_eq]
  generalize (lg_sl ([.ref (g 0)]) ++ List.replicate (1 - (lg_sl ([.ref (g 0)])).length) Slot.unset).toArray = ls at hl ⊢
  have hl : lv_has ls 1 [(0, .ref (g 0))] := hl
  obtain ⟨H, eH⟩ : ∃ z, z = s.heap := ⟨_, rfl⟩
  have hP : va_P (dC, dI) classes (wM g c v F rc) H := by rw [eH]; exact hP
  have hS : va_S (AM g s.heap.size) s.heap H [] := by rw [eH]; exact va_S.rf
  refine my_heap eH ?_
  refine lv_aload_n hx hb dX12_look_0 rfl (lv_at hl 0 rfl) ?_
  refine va_get (D := (dC, dI)) (ci := 12) (v := .int (v 39)) (C := RX12) (T := TX12) (N := 63) hx hb hwd inA_X12 hown hK hP 0 rfl rfl 39 (by decide) (hwd _ wk_1004) (fun _ h9 => h9) rfl dX12_look_1 ?_
  have t7458 : 0 ≤ (v 39).toInt ∧ (v 39).toInt ≤ 120 := hI.1 39 _ _ rfl
  refine lv_aload_n hx hb dX12_look_4 rfl (lv_at hl 0 rfl) ?_
  refine va_get (D := (dC, dI)) (ci := 12) (v := .int (v 30)) (C := RX12) (T := TX12) (N := 63) hx hb hwd inA_X12 hown hK hP 0 rfl rfl 30 (by decide) (hwd _ wk_839) (fun _ h9 => h9) rfl dX12_look_5 ?_
  have t7459 : 0 ≤ (v 30).toInt ∧ (v 30).toInt ≤ 120 := hI.1 30 _ _ rfl
  refine lv_icmp_ge (tgt := 23) hx hb dX12_look_8 (by decide) (fun c7460 => ?_) (fun c7460 => ?_)
  · skip
    have t7461 := cv_le (a := (v 30).toInt) rfl (b := (v 39).toInt) rfl c7460
    refine lv_iconst (v := (-1)) hx hb dX12_look_23 (by decide) ?_
    have hP9 : va_P (dC, dI) classes (wM g c v F rc) H := hP
    exact W.iret (v := (-1)) hx hb hr (fun t ht hW => ⟨⟨(-1), (), rfl, (by refine ⟨?_, Or.inr (by decide)⟩; unfold lkM; rw [if_neg (by omega)]; decide), (by show va_P _ _ _ t.heap; rw [ht]; exact hP9)⟩, hS.F ht⟩) hS.2.2 dX12_look_24
  · skip
    have t7462 := cv_nle (a := (v 30).toInt) rfl (b := (v 39).toInt) rfl c7460
    refine lv_aload_n hx hb dX12_look_11 rfl (lv_at hl 0 rfl) ?_
    refine va_get (D := (dC, dI)) (ci := 12) (v := .ref (g 24)) (C := RX12) (T := TX12) (N := 63) hx hb hwd inA_X12 hown hK hP 0 rfl rfl 29 (by decide) (hwd _ wk_206) (fun _ h9 => h9) rfl dX12_look_12 ?_
    refine lv_aload_n hx hb dX12_look_15 rfl (lv_at hl 0 rfl) ?_
    refine va_get (D := (dC, dI)) (ci := 12) (v := .int (v 39)) (C := RX12) (T := TX12) (N := 63) hx hb hwd inA_X12 hown hK hP 0 rfl rfl 39 (by decide) (hwd _ wk_1004) (fun _ h9 => h9) rfl dX12_look_16 ?_
    have t7463 : 0 ≤ (v 39).toInt ∧ (v 39).toInt ≤ 120 := hI.1 39 _ _ rfl
    refine va_bald hx hb hK hP 24 23 rfl rfl (i := (v 39)) (vin (a := (v 39).toInt) rfl (by omega)) dX12_look_19 ?_
    refine lv_topi (fun z7464 e7465 => ?_)
    refine lv_goto (tgt := 24) hx hb dX12_look_20 (by decide) ?_
    have hP9 : va_P (dC, dI) classes (wM g c v F rc) H := hP
    exact W.iret (v := z7464) hx hb hr (fun t ht hW => ⟨⟨z7464, (), rfl, (by refine ⟨?_, by omega⟩; unfold lkM; rw [if_pos (by omega)]; exact congrArg Int32.toInt e7465), (by show va_P _ _ _ t.heap; rw [ht]; exact hP9)⟩, hS.F ht⟩) hS.2.2 dX12_look_24
set_option maxHeartbeats 8000000 in
set_option maxRecDepth 100000 in
theorem c_X12_wrong (l : Launch) (dC : Nat → ClassId) (dI : Nat → Nat → Nat) (g : Nat → Nat) (c : Nat → ClassId) (adK adV : Nat → Nat) (v : Nat → Int32) (F : Nat → Nat → Int32) (rc sz : Nat) (hg : injM g) (hI : IM v F) : Met l yX12_wrong (Cond.code yX12_wrong cX12_wrong 1 none :: wA) ({ frames := 1, cells := 0, slots := 0, locals := 40 }) (va_Pc [.ref (g 0)] (PM dC dI g c adK adV v F rc sz)) (va_Qv (fun (u : StM) => IM u.1 u.2.1 ∧ u.2.2 = rc ∧ (∀ k, k ∉ ([40] : List Nat) → u.1 k = v k) ∧ (∀ k, k ∉ ([] : List Nat) → u.2.1 k = F k) ∧ 0 ≤ (u.1 40).toInt) (BM dC dI g c) (AM g sz)) 0 0 (AM g sz) := by
  refine Met.ofW (cc := cX12_wrong) (maxL := 1) (ret := none) (by decide) rfl ?_
  intro p e s m args below meth c0 s₁ B hml hv
  obtain ⟨rfl, hsz, hP, hK, hE⟩ := hv
  have hx := B.exec
  have hb := B.bytes
  have hr := B.returns
  have hts := atoms_spec (ws := Cond.code yX12_wrong cX12_wrong 1 none :: wA) B.pre
  have hwd : ∀ w ∈ wA, w.before _ s = true := fun w h => hts w (List.mem_cons_of_mem _ h)
  have hown : s.vm.findClass RX12 = some m.cls := findClass_of_methodNamed B.named
  have hlocks := B.notSynchronized
  subst hsz
  have hl := lv_entry ([.ref (g 0)]) (n := 1) (Nat.le_of_ble_eq_true rfl)
  rw [lg_entry_eq]
  generalize (lg_sl ([.ref (g 0)]) ++ List.replicate (1 - (lg_sl ([.ref (g 0)])).length) Slot.unset).toArray = ls at hl ⊢
  have hl : lv_has ls 1 [(0, .ref (g 0))] := hl
  obtain ⟨H, eH⟩ : ∃ z, z = s.heap := ⟨_, rfl⟩
  have hP : va_P (dC, dI) classes (wM g c v F rc) H := by rw [eH]; exact hP
  have hS : va_S (AM g s.heap.size) s.heap H [] := by rw [eH]; exact va_S.rf
  refine my_heap eH ?_
  have hF : ∀ k, k ∉ ([] : List Nat) → F k = F k := fun _ _ => rfl
  refine lv_aload_n hx hb dX12_wrong_0 rfl (lv_at hl 0 rfl) ?_
  refine va_get (D := (dC, dI)) (ci := 12) (v := .int (v 40)) (C := RX12) (T := TX12) (N := 63) hx hb hwd inA_X12 hown hK hP 0 rfl rfl 40 (by decide) (hwd _ wk_1005) (fun _ h9 => h9) rfl dX12_wrong_1 ?_
  refine lv_if_ge (tgt := 15) hx hb dX12_wrong_4 (by decide) (fun c7466 => ?_) (fun c7466 => ?_)
  · skip
    have t7467 := cv_le (a := 0) (by decide) (b := (v 40).toInt) rfl c7466
    have hP9 : va_P (dC, dI) classes (wM g c v F rc) H := hP
    exact W.vret hx hb hr (fun t ht hW => ⟨⟨(v, F, rc), rfl, ⟨hI, rfl, (fun _ _ => rfl), hF, (by show 0 ≤ (v 40).toInt; omega)⟩, (by show va_P _ _ _ t.heap; rw [ht]; exact hP9)⟩, hS.F ht⟩) hS.2.2 dX12_wrong_15
  · skip
    have t7468 := cv_nle (a := 0) (by decide) (b := (v 40).toInt) rfl c7466
    refine lv_aload_n hx hb dX12_wrong_7 rfl (lv_at hl 0 rfl) ?_
    refine lv_aload_n hx hb dX12_wrong_8 rfl (lv_at hl 0 rfl) ?_
    refine va_get (D := (dC, dI)) (ci := 12) (v := .int (v 39)) (C := RX12) (T := TX12) (N := 63) hx hb hwd inA_X12 hown hK hP 0 rfl rfl 39 (by decide) (hwd _ wk_1004) (fun _ h9 => h9) rfl dX12_wrong_9 ?_
    have t7469 : 0 ≤ (v 39).toInt ∧ (v 39).toInt ≤ 120 := hI.1 39 _ _ rfl
    refine va_put (D := (dC, dI)) (ci := 12) (v := .int (v 39)) (ty := .int) (C := RX12) (T := TX12) (N := 63) (fs := fsM_0 g v rc) hx hb hwd inA_X12 tyX12 tyX12_ok nmX12 hown hK hP (DM hg) hS 0 rfl rfl 40 (by decide) (hwd _ wk_1005) (fun _ h9 => h9) rfl (by decide +kernel) rfl rfl (Nat.le_of_ble_eq_true rfl) dX12_wrong_12 (fun H locs hP _ hS => ?_)
    have hP := va_P_eq (pM_40 g c _ _ _ _) hP
    have hI := IM.put0 hI 40 (v 39) rfl
    have hP9 : va_P (dC, dI) classes (wM g c (va_up v 40 (v 39)) F rc) H := hP
    exact W.vret hx hb hr (fun t ht hW => ⟨⟨((va_up v 40 (v 39)), F, rc), rfl, ⟨hI, rfl, (frU (by decide) (fun _ _ => rfl)), hF, (by show 0 ≤ (v 39).toInt; omega)⟩, (by show va_P _ _ _ t.heap; rw [ht]; exact hP9)⟩, hS.F ht⟩) hS.2.2 dX12_wrong_15
set_option maxHeartbeats 8000000 in
set_option maxRecDepth 100000 in
theorem c_X12_lay (l : Launch) (dC : Nat → ClassId) (dI : Nat → Nat → Nat) (g : Nat → Nat) (c : Nat → ClassId) (adK adV : Nat → Nat) (v : Nat → Int32) (F : Nat → Nat → Int32) (rc sz : Nat) (p0 : Int32) (p1 : Int32) (hg : injM g) (hI : IM v F) (hq0 : (v 38).toInt ≤ 119) : Met l yX12_lay (Cond.code yX12_lay cX12_lay 3 none :: wA) ({ frames := 1, cells := 0, slots := 0, locals := 40 }) (va_Pc [.ref (g 0), .int p0, .int p1] (PM dC dI g c adK adV v F rc sz)) (va_Qv (fun (u : StM) => IM u.1 u.2.1 ∧ u.2.2 = rc ∧ (∀ k, k ∉ ([38] : List Nat) → u.1 k = v k) ∧ (∀ k, k ∉ ([28, 29] : List Nat) → u.2.1 k = F k) ∧ (u.1 38).toInt = (v 38).toInt + 1 ∧ keepL (v 37) (F 28) (F 29) (u.2.1 28) (u.2.1 29) ∧ dp (u.2.1 28) (u.2.1 29) (bI (v 37)) ((v 38).toInt.toNat + 1) = dpS (dp (F 28) (F 29) (bI (v 37)) (v 38).toInt.toNat) p0 p1) (BM dC dI g c) (AM g sz)) 0 0 (AM g sz) := by
  refine Met.ofW (cc := cX12_lay) (maxL := 3) (ret := none) (by decide) rfl ?_
  intro p e s m args below meth c0 s₁ B hml hv
  obtain ⟨rfl, hsz, hP, hK, hE⟩ := hv
  have hx := B.exec
  have hb := B.bytes
  have hr := B.returns
  have hts := atoms_spec (ws := Cond.code yX12_lay cX12_lay 3 none :: wA) B.pre
  have hwd : ∀ w ∈ wA, w.before _ s = true := fun w h => hts w (List.mem_cons_of_mem _ h)
  have hown : s.vm.findClass RX12 = some m.cls := findClass_of_methodNamed B.named
  have hlocks := B.notSynchronized
  subst hsz
  have hl := lv_entry ([.ref (g 0), .int p0, .int p1]) (n := 3) (Nat.le_of_ble_eq_true rfl)
  rw [lg_entry_eq]
  generalize (lg_sl ([.ref (g 0), .int p0, .int p1]) ++ List.replicate (3 - (lg_sl ([.ref (g 0), .int p0, .int p1])).length) Slot.unset).toArray = ls at hl ⊢
  have hl : lv_has ls 3 [(0, .ref (g 0)), (1, .int p0), (2, .int p1)] := hl
  obtain ⟨H, eH⟩ : ∃ z, z = s.heap := ⟨_, rfl⟩
  have hP : va_P (dC, dI) classes (wM g c v F rc) H := by rw [eH]; exact hP
  have hS : va_S (AM g s.heap.size) s.heap H [] := by rw [eH]; exact va_S.rf
  refine my_heap eH ?_
  have hF : ∀ k, k ∉ ([28, 29] : List Nat) → F k = F k := fun _ _ => rfl
  have rp0 := i32_rng p0
  have rp1 := i32_rng p1
  refine lv_aload_n hx hb dX12_lay_0 rfl (lv_at hl 0 rfl) ?_
  refine va_get (D := (dC, dI)) (ci := 12) (v := .ref (g 28)) (C := RX12) (T := TX12) (N := 63) hx hb hwd inA_X12 hown hK hP 0 rfl rfl 35 (by decide) (hwd _ wk_210) (fun _ h9 => h9) rfl dX12_lay_1 ?_
  refine lv_sipush (v := 130) hx hb dX12_lay_4 (by decide) ?_
  refine lv_aload_n hx hb dX12_lay_7 rfl (lv_at hl 0 rfl) ?_
  refine va_get (D := (dC, dI)) (ci := 12) (v := .int (v 37)) (C := RX12) (T := TX12) (N := 63) hx hb hwd inA_X12 hown hK hP 0 rfl rfl 37 (by decide) (hwd _ wk_1002) (fun _ h9 => h9) rfl dX12_lay_8 ?_
  have t7496 : 0 ≤ (v 37).toInt ∧ (v 37).toInt ≤ 9 := hI.1 37 _ _ rfl
  refine lv_imul hx hb dX12_lay_11 ?_
  refine lv_topi (fun z7497 e7498 => ?_)
  try (have t7499 := tmul e7498 (a := 130) (by decide) (b := (v 37).toInt) rfl (by omega))
  refine lv_aload_n hx hb dX12_lay_12 rfl (lv_at hl 0 rfl) ?_
  refine va_get (D := (dC, dI)) (ci := 12) (v := .int (v 38)) (C := RX12) (T := TX12) (N := 63) hx hb hwd inA_X12 hown hK hP 0 rfl rfl 38 (by decide) (hwd _ wk_1003) (fun _ h9 => h9) rfl dX12_lay_13 ?_
  have t7500 : 0 ≤ (v 38).toInt ∧ (v 38).toInt ≤ 120 := hI.1 38 _ _ rfl
  refine lv_iadd hx hb dX12_lay_16 ?_
  refine lv_topi (fun z7501 e7502 => ?_)
  try (have t7503 := tadd e7502 (a := z7497.toInt) rfl (b := (v 38).toInt) rfl (by omega))
  refine lv_iload_n hx hb dX12_lay_17 rfl (lv_at hl 1 rfl) ?_
  refine va_iast hx hb hK hP (DM hg) hS 28 27 rfl rfl (i := z7501) (x := p0) (vin (a := z7501.toInt) rfl (by omega)) dX12_lay_18 (fun H locs hP _ hS => ?_)
  have hP := va_P_eq (sM_28 g c _ _ _ _) hP
  have hI := IM.store0 hI 28 (z7501 : Int32).toNatClampNeg p0 rfl
  have hF := frUF (k := 28) (f := upd (F 28) (z7501 : Int32).toNatClampNeg p0) (by decide) hF
  have st7505 : (va_up F 28 (upd (F 28) (z7501 : Int32).toNatClampNeg p0)) 28 = upd (F 28) (z7501 : Int32).toNatClampNeg p0 := va_up_self _ _ _
  have sn7506 : ∀ k9, k9 ≠ 28 → (va_up F 28 (upd (F 28) (z7501 : Int32).toNatClampNeg p0)) k9 = F k9 := fun k9 h9 => va_up_ne _ _ h9
  have hP : va_P (dC, dI) classes (wM g c v (va_up F 28 (upd (F 28) (z7501 : Int32).toNatClampNeg p0)) rc) H := hP
  generalize (va_up F 28 (upd (F 28) (z7501 : Int32).toNatClampNeg p0)) = F7504 at hP hI hF st7505 sn7506
  refine lv_aload_n hx hb dX12_lay_19 rfl (lv_at hl 0 rfl) ?_
  refine va_get (D := (dC, dI)) (ci := 12) (v := .ref (g 29)) (C := RX12) (T := TX12) (N := 63) hx hb hwd inA_X12 hown hK hP 0 rfl rfl 36 (by decide) (hwd _ wk_211) (fun _ h9 => h9) rfl dX12_lay_20 ?_
  refine lv_sipush (v := 130) hx hb dX12_lay_23 (by decide) ?_
  refine lv_aload_n hx hb dX12_lay_26 rfl (lv_at hl 0 rfl) ?_
  refine va_get (D := (dC, dI)) (ci := 12) (v := .int (v 37)) (C := RX12) (T := TX12) (N := 63) hx hb hwd inA_X12 hown hK hP 0 rfl rfl 37 (by decide) (hwd _ wk_1002) (fun _ h9 => h9) rfl dX12_lay_27 ?_
  have t7507 : 0 ≤ (v 37).toInt ∧ (v 37).toInt ≤ 9 := hI.1 37 _ _ rfl
  refine lv_imul hx hb dX12_lay_30 ?_
  refine lv_topi (fun z7508 e7509 => ?_)
  try (have t7510 := tmul e7509 (a := 130) (by decide) (b := (v 37).toInt) rfl (by omega))
  refine lv_aload_n hx hb dX12_lay_31 rfl (lv_at hl 0 rfl) ?_
  refine va_get (D := (dC, dI)) (ci := 12) (v := .int (v 38)) (C := RX12) (T := TX12) (N := 63) hx hb hwd inA_X12 hown hK hP 0 rfl rfl 38 (by decide) (hwd _ wk_1003) (fun _ h9 => h9) rfl dX12_lay_32 ?_
  have t7511 : 0 ≤ (v 38).toInt ∧ (v 38).toInt ≤ 120 := hI.1 38 _ _ rfl
  refine lv_iadd hx hb dX12_lay_35 ?_
  refine lv_topi (fun z7512 e7513 => ?_)
  try (have t7514 := tadd e7513 (a := z7508.toInt) rfl (b := (v 38).toInt) rfl (by omega))
  refine lv_iload_n hx hb dX12_lay_36 rfl (lv_at hl 2 rfl) ?_
  refine va_iast hx hb hK hP (DM hg) hS 29 28 rfl rfl (i := z7512) (x := p1) (vin (a := z7512.toInt) rfl (by omega)) dX12_lay_37 (fun H locs hP _ hS => ?_)
  have hP := va_P_eq (sM_29 g c _ _ _ _) hP
  have hI := IM.store0 hI 29 (z7512 : Int32).toNatClampNeg p1 rfl
  have hF := frUF (k := 29) (f := upd (F7504 29) (z7512 : Int32).toNatClampNeg p1) (by decide) hF
  have st7516 : (va_up F7504 29 (upd (F7504 29) (z7512 : Int32).toNatClampNeg p1)) 29 = upd (F7504 29) (z7512 : Int32).toNatClampNeg p1 := va_up_self _ _ _
  have sn7517 : ∀ k9, k9 ≠ 29 → (va_up F7504 29 (upd (F7504 29) (z7512 : Int32).toNatClampNeg p1)) k9 = F7504 k9 := fun k9 h9 => va_up_ne _ _ h9
  have hP : va_P (dC, dI) classes (wM g c v (va_up F7504 29 (upd (F7504 29) (z7512 : Int32).toNatClampNeg p1)) rc) H := hP
  generalize (va_up F7504 29 (upd (F7504 29) (z7512 : Int32).toNatClampNeg p1)) = F7515 at hP hI hF st7516 sn7517
  refine lv_aload_n hx hb dX12_lay_38 rfl (lv_at hl 0 rfl) ?_
  refine lv_dup hx hb dX12_lay_39 rfl ?_
  refine va_get (D := (dC, dI)) (ci := 12) (v := .int (v 38)) (C := RX12) (T := TX12) (N := 63) hx hb hwd inA_X12 hown hK hP 0 rfl rfl 38 (by decide) (hwd _ wk_1003) (fun _ h9 => h9) rfl dX12_lay_40 ?_
  have t7518 : 0 ≤ (v 38).toInt ∧ (v 38).toInt ≤ 120 := hI.1 38 _ _ rfl
  refine lv_iconst (v := 1) hx hb dX12_lay_43 (by decide) ?_
  refine lv_iadd hx hb dX12_lay_44 ?_
  refine lv_topi (fun z7519 e7520 => ?_)
  try (have t7521 := tadd e7520 (a := (v 38).toInt) rfl (b := 1) (by decide) (by omega))
  refine va_put (D := (dC, dI)) (ci := 12) (v := .int z7519) (ty := .int) (C := RX12) (T := TX12) (N := 63) (fs := fsM_0 g v rc) hx hb hwd inA_X12 tyX12 tyX12_ok nmX12 hown hK hP (DM hg) hS 0 rfl rfl 38 (by decide) (hwd _ wk_1003) (fun _ h9 => h9) rfl (by decide +kernel) rfl rfl (Nat.le_of_ble_eq_true rfl) dX12_lay_45 (fun H locs hP _ hS => ?_)
  have hP := va_P_eq (pM_38 g c _ _ _ _) hP
  have hI := IM.put hI 38 z7519 rfl (by omega)
  have hP9 : va_P (dC, dI) classes (wM g c (va_up v 38 z7519) F7515 rc) H := hP
  exact W.vret hx hb hr (fun t ht hW => ⟨⟨((va_up v 38 z7519), F7515, rc), rfl, ⟨hI, rfl, (frU (by decide) (fun _ _ => rfl)), hF, (by show z7519.toInt = (v 38).toInt + 1 ∧ keepL (v 37) (F 28) (F 29) (F7515 28) (F7515 29) ∧ dp (F7515 28) (F7515 29) (bI (v 37)) ((v 38).toInt.toNat + 1) = dpS (dp (F 28) (F 29) (bI (v 37)) (v 38).toInt.toNat) p0 p1; have ja : (z7501 : Int32).toNatClampNeg = bI (v 37) + (v 38).toInt.toNat := (by show (z7501 : Int32).toInt.toNat = (130 * (v 37).toInt).toNat + _; omega); have jb : (z7512 : Int32).toNatClampNeg = bI (v 37) + (v 38).toInt.toNat := (by show (z7512 : Int32).toInt.toNat = (130 * (v 37).toInt).toNat + _; omega); exact ⟨(by omega), keepL.lay ((sn7517 28 (by decide)).trans st7505) (st7516.trans (congrArg (fun f => upd f (z7512 : Int32).toNatClampNeg p1) (sn7506 29 (by decide)))) (by rw [ja]; show _ ≤ (((130 * (v 37).toInt).toNat + _ : Nat) : Int); omega) (by rw [jb]; show _ ≤ (((130 * (v 37).toInt).toNat + _ : Nat) : Int); omega), lay_dp ((sn7517 28 (by decide)).trans st7505) (st7516.trans (congrArg (fun f => upd f (z7512 : Int32).toNatClampNeg p1) (sn7506 29 (by decide)))) ja jb⟩)⟩, (by show va_P _ _ _ t.heap; rw [ht]; exact hP9)⟩, hS.F ht⟩) hS.2.2 dX12_lay_48
set_option maxHeartbeats 8000000 in
set_option maxRecDepth 100000 in
theorem c_X12_opens (l : Launch) (dC : Nat → ClassId) (dI : Nat → Nat → Nat) (g : Nat → Nat) (c : Nat → ClassId) (adK adV : Nat → Nat) (v : Nat → Int32) (F : Nat → Nat → Int32) (rc sz : Nat) (hg : injM g) (hI : IM v F) (hq : (v 39).toInt < (v 30).toInt) : Met l yX12_opens (Cond.code yX12_opens cX12_opens 1 (some .boolean) :: wA) ({ frames := 2, cells := 0, slots := 0, locals := 80 }) (va_Pc [.ref (g 0)] (PM dC dI g c adK adV v F rc sz)) (va_Qi (fun (r : Int32) (u : StM) => IM u.1 u.2.1 ∧ u.2.2 = rc ∧ (∀ k, k ∉ ([39, 40, 41] : List Nat) → u.1 k = v k) ∧ (∀ k, k ∉ ([] : List Nat) → u.2.1 k = F k) ∧ ((r.toInt = 1 ∧ (v 41).toInt < 8 ∧ (u.1 41).toInt = (v 41).toInt + 1 ∧ (u.1 39).toInt = (v 39).toInt + 1 ∧ (u.1 40).toInt = (v 40).toInt) ∨ (r.toInt = 0 ∧ (v 41).toInt = 8 ∧ 0 ≤ (u.1 40).toInt ∧ (u.1 41).toInt = (v 41).toInt ∧ (u.1 39).toInt = (v 39).toInt))) (BM dC dI g c) (AM g sz)) 0 0 (AM g sz) := by
  refine Met.ofW (cc := cX12_opens) (maxL := 1) (ret := (some .boolean)) (by decide) rfl ?_
  intro p e s m args below meth c0 s₁ B hml hv
  obtain ⟨rfl, hsz, hP, hK, hE⟩ := hv
  have hx := B.exec
  have hb := B.bytes
  have hr := B.returns
  have hts := atoms_spec (ws := Cond.code yX12_opens cX12_opens 1 (some .boolean) :: wA) B.pre
  have hwd : ∀ w ∈ wA, w.before _ s = true := fun w h => hts w (List.mem_cons_of_mem _ h)
  have hown : s.vm.findClass RX12 = some m.cls := findClass_of_methodNamed B.named
  have hlocks := B.notSynchronized
  subst hsz
  have hl := lv_entry ([.ref (g 0)]) (n := 1) (Nat.le_of_ble_eq_true rfl)
  rw [lg_entry_eq]
  generalize (lg_sl ([.ref (g 0)]) ++ List.replicate (1 - (lg_sl ([.ref (g 0)])).length) Slot.unset).toArray = ls at hl ⊢
  have hl : lv_has ls 1 [(0, .ref (g 0))] := hl
  obtain ⟨H, eH⟩ : ∃ z, z = s.heap := ⟨_, rfl⟩
  have hP : va_P (dC, dI) classes (wM g c v F rc) H := by rw [eH]; exact hP
  have hS : va_S (AM g s.heap.size) s.heap H [] := by rw [eH]; exact va_S.rf
  refine my_heap eH ?_
  have hF : ∀ k, k ∉ ([] : List Nat) → F k = F k := fun _ _ => rfl
  have hb30 : 0 ≤ (v 30).toInt ∧ (v 30).toInt ≤ 120 := hI.1 30 _ _ rfl
  have hb39 : 0 ≤ (v 39).toInt ∧ (v 39).toInt ≤ 120 := hI.1 39 _ _ rfl
  refine lv_aload_n hx hb dX12_opens_0 rfl (lv_at hl 0 rfl) ?_
  refine va_get (D := (dC, dI)) (ci := 12) (v := .int (v 41)) (C := RX12) (T := TX12) (N := 63) hx hb hwd inA_X12 hown hK hP 0 rfl rfl 41 (by decide) (hwd _ wk_1006) (fun _ h9 => h9) rfl dX12_opens_1 ?_
  have t7522 : 0 ≤ (v 41).toInt ∧ (v 41).toInt ≤ 8 := hI.1 41 _ _ rfl
  refine lv_bipush (v := 8) hx hb dX12_opens_4 (by decide) ?_
  refine lv_icmp_ne (tgt := 15) hx hb dX12_opens_6 (by decide) (fun c7523 => ?_) (fun c7523 => ?_)
  · skip
    have t7524 := cv_ne (a := (v 41).toInt) rfl (b := 8) (by decide) c7523
    refine lv_aload_n hx hb dX12_opens_15 rfl (lv_at hl 0 rfl) ?_
    refine lv_dup hx hb dX12_opens_16 rfl ?_
    refine va_get (D := (dC, dI)) (ci := 12) (v := .int (v 41)) (C := RX12) (T := TX12) (N := 63) hx hb hwd inA_X12 hown hK hP 0 rfl rfl 41 (by decide) (hwd _ wk_1006) (fun _ h9 => h9) rfl dX12_opens_17 ?_
    have t7525 : 0 ≤ (v 41).toInt ∧ (v 41).toInt ≤ 8 := hI.1 41 _ _ rfl
    refine lv_iconst (v := 1) hx hb dX12_opens_20 (by decide) ?_
    refine lv_iadd hx hb dX12_opens_21 ?_
    refine lv_topi (fun z7526 e7527 => ?_)
    try (have t7528 := tadd e7527 (a := (v 41).toInt) rfl (b := 1) (by decide) (by omega))
    refine va_put (D := (dC, dI)) (ci := 12) (v := .int z7526) (ty := .int) (C := RX12) (T := TX12) (N := 63) (fs := fsM_0 g v rc) hx hb hwd inA_X12 tyX12 tyX12_ok nmX12 hown hK hP (DM hg) hS 0 rfl rfl 41 (by decide) (hwd _ wk_1006) (fun _ h9 => h9) rfl (by decide +kernel) rfl rfl (Nat.le_of_ble_eq_true rfl) dX12_opens_22 (fun H locs hP _ hS => ?_)
    have hP := va_P_eq (pM_41 g c _ _ _ _) hP
    have hI := IM.put hI 41 z7526 rfl (by omega)
    refine lv_aload_n hx hb dX12_opens_25 rfl (lv_at hl 0 rfl) ?_
    refine lv_dup hx hb dX12_opens_26 rfl ?_
    refine va_get (D := (dC, dI)) (ci := 12) (v := .int (v 39)) (C := RX12) (T := TX12) (N := 63) hx hb hwd inA_X12 hown hK hP 0 rfl rfl 39 (by decide) (hwd _ wk_1004) (fun _ h9 => h9) rfl dX12_opens_27 ?_
    have t7529 : 0 ≤ (v 39).toInt ∧ (v 39).toInt ≤ 120 := hI.1 39 _ _ rfl
    refine lv_iconst (v := 1) hx hb dX12_opens_30 (by decide) ?_
    refine lv_iadd hx hb dX12_opens_31 ?_
    refine lv_topi (fun z7530 e7531 => ?_)
    try (have t7532 := tadd e7531 (a := (v 39).toInt) rfl (b := 1) (by decide) (by omega))
    refine va_put (D := (dC, dI)) (ci := 12) (v := .int z7530) (ty := .int) (C := RX12) (T := TX12) (N := 63) (fs := fsM_0 g (va_up v 41 z7526) rc) hx hb hwd inA_X12 tyX12 tyX12_ok nmX12 hown hK hP (DM hg) hS 0 rfl rfl 39 (by decide) (hwd _ wk_1004) (fun _ h9 => h9) rfl (by decide +kernel) rfl rfl (Nat.le_of_ble_eq_true rfl) dX12_opens_32 (fun H locs hP _ hS => ?_)
    have hP := va_P_eq (pM_39 g c _ _ _ _) hP
    have hI := IM.put hI 39 z7530 rfl (by omega)
    refine lv_iconst (v := 1) hx hb dX12_opens_35 (by decide) ?_
    have hP9 : va_P (dC, dI) classes (wM g c (va_up (va_up v 41 z7526) 39 z7530) F rc) H := hP
    exact W.zret (v := 1) hx hb hr (rfl) (fun t ht hW => ⟨⟨1, ((va_up (va_up v 41 z7526) 39 z7530), F, rc), rfl, ⟨hI, rfl, (frU (by decide) (frU (by decide) (fun _ _ => rfl))), hF, (by show ((1 : Int32).toInt = 1 ∧ (v 41).toInt < 8 ∧ z7526.toInt = (v 41).toInt + 1 ∧ z7530.toInt = (v 39).toInt + 1 ∧ (v 40).toInt = (v 40).toInt) ∨ ((1 : Int32).toInt = 0 ∧ (v 41).toInt = 8 ∧ 0 ≤ (v 40).toInt ∧ z7526.toInt = (v 41).toInt ∧ z7530.toInt = (v 39).toInt); have : (1 : Int32).toInt = 1 := (by decide); omega)⟩, (by show va_P _ _ _ t.heap; rw [ht]; exact hP9)⟩, hS.F ht⟩) hS.2.2 dX12_opens_36
  · skip
    have t7533 := cv_eq (a := (v 41).toInt) rfl (b := 8) (by decide) c7523
    refine lv_aload_n hx hb dX12_opens_9 rfl (lv_at hl 0 rfl) ?_
    refine va_callv (va_runV (As := []) (rest := []) ⟨hx, hb, hml, hown, hwd⟩ (c_X12_wrong l dC dI g c adK adV v F rc H.size  hg hI ) (cwV 0 hwd (gV wk_1029 wk_1026 wk_1027 wk_1028 wk_5) rfl rfl rfl (by decide +kernel) ⟨Nat.le_of_ble_eq_true rfl, Nat.le_of_ble_eq_true rfl⟩) ⟨PM.blind, va_recv hK hP (ci := 12) (q0 := 0) rfl rfl, fun U hU hW => ⟨rfl, PM.at hK hE hP hS hU hW⟩⟩ rfl rfl hl.1 rfl (lv_room (Nat.le_of_ble_eq_true rfl)) dX12_opens_10 ⟨Nat.le_of_ble_eq_true rfl, Nat.le_of_ble_eq_true rfl⟩) hS (fun q _ h => (freeM hS) q h) (freeM hS) (fun u t H1 locs ht hvm hw hB hz1 hk1 hS => ?_)
    unfold BM at hB
    rw [ht] at hB
    obtain ⟨v7535, F7536, rc9⟩ := u
    obtain ⟨hI, hrc, hf7537, hG7538, hw⟩ := hw
    dsimp only at hI hrc hB hf7537 hG7538 hw
    have hF := frCF (by decide) hG7538 hF
    rw [hrc] at hB
    have hP : va_P (dC, dI) classes (wM g c v7535 F7536 rc) H1 := hB
    replace hw : 0 ≤ (v7535 40).toInt := hw
    have hw_r7534 := hw
    clear hw
    clear hz1
    generalize H1 = H at hP hS ⊢
    refine lv_iconst (v := 0) hx hb dX12_opens_13 (by decide) ?_
    have hP9 : va_P (dC, dI) classes (wM g c v7535 F7536 rc) H := hP
    exact W.zret (v := 0) hx hb hr (rfl) (fun t ht hW => ⟨⟨0, (v7535, F7536, rc), rfl, ⟨hI, rfl, (frC (by decide) hf7537 (fun _ _ => rfl)), hF, (by show ((0 : Int32).toInt = 1 ∧ (v 41).toInt < 8 ∧ (v7535 41).toInt = (v 41).toInt + 1 ∧ (v7535 39).toInt = (v 39).toInt + 1 ∧ (v7535 40).toInt = (v 40).toInt) ∨ ((0 : Int32).toInt = 0 ∧ (v 41).toInt = 8 ∧ 0 ≤ (v7535 40).toInt ∧ (v7535 41).toInt = (v 41).toInt ∧ (v7535 39).toInt = (v 39).toInt); rw [show v7535 41 = v 41 from hf7537 41 (by decide)]; rw [show v7535 39 = v 39 from hf7537 39 (by decide)]; have : (0 : Int32).toInt = 0 := (by decide); omega)⟩, (by show va_P _ _ _ t.heap; rw [ht]; exact hP9)⟩, hS.F ht⟩) hS.2.2 dX12_opens_14
set_option maxHeartbeats 8000000 in
set_option maxRecDepth 100000 in
theorem c_X12_digits (l : Launch) (dC : Nat → ClassId) (dI : Nat → Nat → Nat) (g : Nat → Nat) (c : Nat → ClassId) (adK adV : Nat → Nat) (v : Nat → Int32) (F : Nat → Nat → Int32) (rc sz : Nat) (hg : injM g) (hI : IM v F) (hq : (v 39).toInt ≤ (v 30).toInt) : Met l yX12_digits (Cond.code yX12_digits cX12_digits 2 (some .boolean) :: wA) ({ frames := 2, cells := 0, slots := 0, locals := 80 }) (va_Pc [.ref (g 0)] (PM dC dI g c adK adV v F rc sz)) (va_Qi (fun (r : Int32) (u : StM) => IM u.1 u.2.1 ∧ u.2.2 = rc ∧ (∀ k, k ∉ ([39, 40, 42] : List Nat) → u.1 k = v k) ∧ (∀ k, k ∉ ([] : List Nat) → u.2.1 k = F k) ∧ ((r.toInt = 1 ∧ (v 39).toInt < (u.1 39).toInt ∧ (u.1 39).toInt ≤ (v 30).toInt ∧ (u.1 40).toInt = (v 40).toInt) ∨ (r.toInt = 0 ∧ 0 ≤ (u.1 40).toInt ∧ (v 39).toInt ≤ (u.1 39).toInt ∧ (u.1 39).toInt ≤ (v 30).toInt))) (BM dC dI g c) (AM g sz)) 0 0 (AM g sz) := by
  refine Met.ofW (cc := cX12_digits) (maxL := 2) (ret := (some .boolean)) (by decide) rfl ?_
  intro p e s m args below meth c0 s₁ B hml hv
  obtain ⟨rfl, hsz, hP, hK, hE⟩ := hv
  have hx := B.exec
  have hb := B.bytes
  have hr := B.returns
  have hts := atoms_spec (ws := Cond.code yX12_digits cX12_digits 2 (some .boolean) :: wA) B.pre
  have hwd : ∀ w ∈ wA, w.before _ s = true := fun w h => hts w (List.mem_cons_of_mem _ h)
  have hown : s.vm.findClass RX12 = some m.cls := findClass_of_methodNamed B.named
  have hlocks := B.notSynchronized
  subst hsz
  have hl := lv_entry ([.ref (g 0)]) (n := 2) (Nat.le_of_ble_eq_true rfl)
  rw [lg_entry_eq]
  generalize (lg_sl ([.ref (g 0)]) ++ List.replicate (2 - (lg_sl ([.ref (g 0)])).length) Slot.unset).toArray = ls at hl ⊢
  have hl : lv_has ls 2 [(0, .ref (g 0))] := hl
  obtain ⟨H, eH⟩ : ∃ z, z = s.heap := ⟨_, rfl⟩
  have hP : va_P (dC, dI) classes (wM g c v F rc) H := by rw [eH]; exact hP
  have hS : va_S (AM g s.heap.size) s.heap H [] := by rw [eH]; exact va_S.rf
  refine my_heap eH ?_
  have hF : ∀ k, k ∉ ([] : List Nat) → F k = F k := fun _ _ => rfl
  have hb30 : 0 ≤ (v 30).toInt ∧ (v 30).toInt ≤ 120 := hI.1 30 _ _ rfl
  have hb39 : 0 ≤ (v 39).toInt ∧ (v 39).toInt ≤ 120 := hI.1 39 _ _ rfl
  refine lv_iconst (v := 0) hx hb dX12_digits_0 (by decide) ?_
  refine lv_istore_n (lv' := [(1, .int 0), (0, .ref (g 0))]) hx hb dX12_digits_1 rfl hl (by decide) rfl (fun ls hl => ?_)
  refine lv_aload_n hx hb dX12_digits_2 rfl (lv_at hl 1 rfl) ?_
  refine lv_iconst (v := 0) hx hb dX12_digits_3 (by decide) ?_
  refine va_put (D := (dC, dI)) (ci := 12) (v := .int 0) (ty := .int) (C := RX12) (T := TX12) (N := 63) (fs := fsM_0 g v rc) hx hb hwd inA_X12 tyX12 tyX12_ok nmX12 hown hK hP (DM hg) hS 0 rfl rfl 42 (by decide) (hwd _ wk_1031) (fun _ h9 => h9) rfl (by decide +kernel) rfl rfl (Nat.le_of_ble_eq_true rfl) dX12_digits_4 (fun H locs hP _ hS => ?_)
  have hP := va_P_eq (pM_42 g c _ _ _ _) hP
  have hI := IM.put0 hI 42 0 rfl
  have lp7539 : ∀ (n : Nat) (x1_lp7539 : Int32) (v_lp7539 : Nat → Int32) (F_lp7539 : Nat → Nat → Int32) (H : Heap) (locs : List Loc) (ls : Array Slot), (0 ≤ x1_lp7539.toInt) → (x1_lp7539.toInt ≤ 5) → ((v_lp7539 39).toInt = (v 39).toInt + x1_lp7539.toInt ∧ (v_lp7539 39).toInt ≤ (v 30).toInt) → (2147483648 - x1_lp7539.toInt ≤ (n : Int)) → (∀ k, k ∉ ([39, 42] : List Nat) → v_lp7539 k = (va_up v 42 0) k) → IM v_lp7539 F_lp7539 → (∀ k, k ∉ ([] : List Nat) → F_lp7539 k = F k) → va_P (dC, dI) classes (wM g c v_lp7539 F_lp7539 rc) H → va_S (AM g s.heap.size) s.heap H locs → lv_has ls 2 [(1, .int x1_lp7539), (0, .ref (g 0))] → W p l e (headSpec (Cond.code yX12_digits cX12_digits 2 (some .boolean) :: wA) ({ frames := 2, cells := 0, slots := 0, locals := 80 })).room s m ([.ref (g 0)] : List Value).toArray below meth c0 H locs 0 0 (MQ below (va_Qi (fun (r : Int32) (u : StM) => IM u.1 u.2.1 ∧ u.2.2 = rc ∧ (∀ k, k ∉ ([39, 40, 42] : List Nat) → u.1 k = v k) ∧ (∀ k, k ∉ ([] : List Nat) → u.2.1 k = F k) ∧ ((r.toInt = 1 ∧ (v 39).toInt < (u.1 39).toInt ∧ (u.1 39).toInt ≤ (v 30).toInt ∧ (u.1 40).toInt = (v 40).toInt) ∨ (r.toInt = 0 ∧ 0 ≤ (u.1 40).toInt ∧ (v 39).toInt ≤ (u.1 39).toInt ∧ (u.1 39).toInt ≤ (v 30).toInt))) (BM dC dI g c) (AM g s.heap.size)) ([.ref (g 0)] : List Value).toArray s 0 0 (AM g s.heap.size)) (F0 m 7 ls []) := by
    intro n
    induction n with
    | zero =>
      intro x1_lp7539 v_lp7539 F_lp7539 H locs ls t7540 t7541 t7542 hm hf_lp7539 hI hF hP hS hl
      exfalso
      have := i32_rng x1_lp7539
      have hI1 := hI.1
      omega
    | succ n ih_lp7539 =>
      intro x1_lp7539 v_lp7539 F_lp7539 H locs ls t7540 t7541 t7542 hm hf_lp7539 hI hF hP hS hl
      have rx1_lp7539 := i32_rng x1_lp7539
      refine lv_iload_n hx hb dX12_digits_7 rfl (lv_at hl 0 rfl) ?_
      refine lv_iconst (v := 5) hx hb dX12_digits_8 (by decide) ?_
      refine lv_icmp_ge (tgt := 61) hx hb dX12_digits_9 (by decide) (fun c7543 => ?_) (fun c7543 => ?_)
      · skip
        have t7544 := cv_le (a := 5) (by decide) (b := x1_lp7539.toInt) rfl c7543
        refine lv_iload_n hx hb dX12_digits_61 rfl (lv_at hl 0 rfl) ?_
        refine lv_if_le (tgt := 81) hx hb dX12_digits_62 (by decide) (fun c7545 => ?_) (fun c7545 => ?_)
        · skip
          have t7546 := cv_le (a := x1_lp7539.toInt) rfl (b := 0) (by decide) c7545
          refine lv_aload_n hx hb dX12_digits_81 rfl (lv_at hl 1 rfl) ?_
          refine va_callv (va_runV (As := []) (rest := []) ⟨hx, hb, hml, hown, hwd⟩ (c_X12_wrong l dC dI g c adK adV v_lp7539 F_lp7539 rc H.size  hg hI ) (cwV 0 hwd (gV wk_1029 wk_1026 wk_1027 wk_1028 wk_5) rfl rfl rfl (by decide +kernel) ⟨Nat.le_of_ble_eq_true rfl, Nat.le_of_ble_eq_true rfl⟩) ⟨PM.blind, va_recv hK hP (ci := 12) (q0 := 0) rfl rfl, fun U hU hW => ⟨rfl, PM.at hK hE hP hS hU hW⟩⟩ rfl rfl hl.1 rfl (lv_room (Nat.le_of_ble_eq_true rfl)) dX12_digits_82 ⟨Nat.le_of_ble_eq_true rfl, Nat.le_of_ble_eq_true rfl⟩) hS (fun q _ h => (freeM hS) q h) (freeM hS) (fun u t H1 locs ht hvm hw hB hz1 hk1 hS => ?_)
          unfold BM at hB
          rw [ht] at hB
          obtain ⟨v7548, F7549, rc9⟩ := u
          obtain ⟨hI, hrc, hf7550, hG7551, hw⟩ := hw
          dsimp only at hI hrc hB hf7550 hG7551 hw
          have hF := frCF (by decide) hG7551 hF
          rw [hrc] at hB
          have hP : va_P (dC, dI) classes (wM g c v7548 F7549 rc) H1 := hB
          replace hw : 0 ≤ (v7548 40).toInt := hw
          have hw_r7547 := hw
          clear hw
          clear hz1
          generalize H1 = H at hP hS ⊢
          refine lv_iconst (v := 0) hx hb dX12_digits_85 (by decide) ?_
          have hP9 : va_P (dC, dI) classes (wM g c v7548 F7549 rc) H := hP
          exact W.zret (v := 0) hx hb hr (rfl) (fun t ht hW => ⟨⟨0, (v7548, F7549, rc), rfl, ⟨hI, rfl, (frC (by decide) hf7550 (frC (by decide) hf_lp7539 (frU (by decide) (fun _ _ => rfl)))), hF, (by show ((0 : Int32).toInt = 1 ∧ (v 39).toInt < (v7548 39).toInt ∧ (v7548 39).toInt ≤ (v 30).toInt ∧ (v7548 40).toInt = (v 40).toInt) ∨ ((0 : Int32).toInt = 0 ∧ 0 ≤ (v7548 40).toInt ∧ (v 39).toInt ≤ (v7548 39).toInt ∧ (v7548 39).toInt ≤ (v 30).toInt); rw [show v7548 39 = v_lp7539 39 from hf7550 39 (by decide)]; have : (0 : Int32).toInt = 0 := (by decide); omega)⟩, (by show va_P _ _ _ t.heap; rw [ht]; exact hP9)⟩, hS.F ht⟩) hS.2.2 dX12_digits_86
        · skip
          have t7552 := cv_nle (a := x1_lp7539.toInt) rfl (b := 0) (by decide) c7545
          refine lv_aload_n hx hb dX12_digits_65 rfl (lv_at hl 1 rfl) ?_
          have t7553 : 0 ≤ (v 30).toInt ∧ (v 30).toInt ≤ 120 := by have h9 := hI.1 30 _ _ rfl; rw [show v_lp7539 30 = v 30 from hf_lp7539 30 (by decide)] at h9; exact h9
          have t7554 : 0 ≤ (v_lp7539 39).toInt ∧ (v_lp7539 39).toInt ≤ 120 := hI.1 39 _ _ rfl
          refine va_calli (va_runV (As := []) (rest := []) ⟨hx, hb, hml, hown, hwd⟩ (c_X12_look l dC dI g c adK adV v_lp7539 F_lp7539 rc H.size  hg hI ) (cwV 0 hwd (gV wk_1017 wk_1014 wk_1015 wk_1016 wk_5) rfl rfl rfl (by decide +kernel) ⟨Nat.le_of_ble_eq_true rfl, Nat.le_of_ble_eq_true rfl⟩) ⟨PM.blind, va_recv hK hP (ci := 12) (q0 := 0) rfl rfl, fun U hU hW => ⟨rfl, PM.at hK hE hP hS hU hW⟩⟩ rfl rfl hl.1 rfl (lv_room (Nat.le_of_ble_eq_true rfl)) dX12_digits_66 ⟨Nat.le_of_ble_eq_true rfl, Nat.le_of_ble_eq_true rfl⟩) hS (fun q _ h => (freeM hS) q h) (freeM hS) (fun r7555 u t H1 locs ht hvm hw hB hz1 hk1 hS => ?_)
          unfold BM at hB
          rw [ht] at hB
          have hP : va_P (dC, dI) classes (wM g c v_lp7539 F_lp7539 rc) H1 := hB
          replace hw : r7555.toInt = lkM (v_lp7539 39) (v_lp7539 30) (F_lp7539 24) ∧ ((v_lp7539 39).toInt < (v_lp7539 30).toInt ∨ r7555.toInt = -1) := hw
          rw [show v_lp7539 30 = v 30 from hf_lp7539 30 (by decide)] at hw
          rw [hF 24 (by decide)] at hw
          have hw_r7555 := hw
          clear hw
          clear hz1
          generalize H1 = H at hP hS ⊢
          refine lv_bipush (v := 48) hx hb dX12_digits_69 (by decide) ?_
          refine lv_bipush (v := 57) hx hb dX12_digits_71 (by decide) ?_
          refine va_calli (va_runS (As := [.int r7555, .int 48, .int 57]) (rest := []) ⟨hx, hb, hml, hown, hwd⟩ (c_X12_in l dC dI g c adK adV v_lp7539 F_lp7539 rc H.size r7555 48 57 hg hI ) (va_cwS 3 hwd (gT wk_254 wk_252 wk_253 wk_5) rfl rfl rfl (by decide +kernel) ⟨Nat.le_of_ble_eq_true rfl, Nat.le_of_ble_eq_true rfl⟩) ⟨PM.blind, fun U hU hW => ⟨rfl, PM.at hK hE hP hS hU hW⟩⟩ rfl rfl hl.1 rfl (lv_room (Nat.le_of_ble_eq_true rfl)) dX12_digits_73 ⟨Nat.le_of_ble_eq_true rfl, Nat.le_of_ble_eq_true rfl⟩) hS (fun q _ h => (freeM hS) q h) (freeM hS) (fun r7556 u t H1 locs ht hvm hw hB hz1 hk1 hS => ?_)
          unfold BM at hB
          rw [ht] at hB
          have hP : va_P (dC, dI) classes (wM g c v_lp7539 F_lp7539 rc) H1 := hB
          have hw_r7556 : (r7556.toInt = 1 ∧ (48 : Int32).toInt ≤ r7555.toInt ∧ r7555.toInt ≤ (57 : Int32).toInt) ∨ (r7556.toInt = 0 ∧ (r7555.toInt < (48 : Int32).toInt ∨ (57 : Int32).toInt < r7555.toInt)) := hw
          clear hw
          have k7557 : (48 : Int32).toInt = 48 := by decide
          have k7558 : (57 : Int32).toInt = 57 := by decide
          clear hz1
          generalize H1 = H at hP hS ⊢
          refine lv_if_ne (tgt := 81) hx hb dX12_digits_76 (by decide) (fun c7559 => ?_) (fun c7559 => ?_)
          · skip
            have t7560 := cv_ne (a := r7556.toInt) rfl (b := 0) (by decide) c7559
            refine lv_aload_n hx hb dX12_digits_81 rfl (lv_at hl 1 rfl) ?_
            refine va_callv (va_runV (As := []) (rest := []) ⟨hx, hb, hml, hown, hwd⟩ (c_X12_wrong l dC dI g c adK adV v_lp7539 F_lp7539 rc H.size  hg hI ) (cwV 0 hwd (gV wk_1029 wk_1026 wk_1027 wk_1028 wk_5) rfl rfl rfl (by decide +kernel) ⟨Nat.le_of_ble_eq_true rfl, Nat.le_of_ble_eq_true rfl⟩) ⟨PM.blind, va_recv hK hP (ci := 12) (q0 := 0) rfl rfl, fun U hU hW => ⟨rfl, PM.at hK hE hP hS hU hW⟩⟩ rfl rfl hl.1 rfl (lv_room (Nat.le_of_ble_eq_true rfl)) dX12_digits_82 ⟨Nat.le_of_ble_eq_true rfl, Nat.le_of_ble_eq_true rfl⟩) hS (fun q _ h => (freeM hS) q h) (freeM hS) (fun u t H1 locs ht hvm hw hB hz1 hk1 hS => ?_)
            unfold BM at hB
            rw [ht] at hB
            obtain ⟨v7562, F7563, rc9⟩ := u
            obtain ⟨hI, hrc, hf7564, hG7565, hw⟩ := hw
            dsimp only at hI hrc hB hf7564 hG7565 hw
            have hF := frCF (by decide) hG7565 hF
            rw [hrc] at hB
            have hP : va_P (dC, dI) classes (wM g c v7562 F7563 rc) H1 := hB
            replace hw : 0 ≤ (v7562 40).toInt := hw
            have hw_r7561 := hw
            clear hw
            clear hz1
            generalize H1 = H at hP hS ⊢
            refine lv_iconst (v := 0) hx hb dX12_digits_85 (by decide) ?_
            have hP9 : va_P (dC, dI) classes (wM g c v7562 F7563 rc) H := hP
            exact W.zret (v := 0) hx hb hr (rfl) (fun t ht hW => ⟨⟨0, (v7562, F7563, rc), rfl, ⟨hI, rfl, (frC (by decide) hf7564 (frC (by decide) hf_lp7539 (frU (by decide) (fun _ _ => rfl)))), hF, (by show ((0 : Int32).toInt = 1 ∧ (v 39).toInt < (v7562 39).toInt ∧ (v7562 39).toInt ≤ (v 30).toInt ∧ (v7562 40).toInt = (v 40).toInt) ∨ ((0 : Int32).toInt = 0 ∧ 0 ≤ (v7562 40).toInt ∧ (v 39).toInt ≤ (v7562 39).toInt ∧ (v7562 39).toInt ≤ (v 30).toInt); rw [show v7562 39 = v_lp7539 39 from hf7564 39 (by decide)]; have : (0 : Int32).toInt = 0 := (by decide); omega)⟩, (by show va_P _ _ _ t.heap; rw [ht]; exact hP9)⟩, hS.F ht⟩) hS.2.2 dX12_digits_86
          · skip
            have t7566 := cv_eq (a := r7556.toInt) rfl (b := 0) (by decide) c7559
            refine lv_iconst (v := 1) hx hb dX12_digits_79 (by decide) ?_
            have hP9 : va_P (dC, dI) classes (wM g c v_lp7539 F_lp7539 rc) H := hP
            exact W.zret (v := 1) hx hb hr (rfl) (fun t ht hW => ⟨⟨1, (v_lp7539, F_lp7539, rc), rfl, ⟨hI, rfl, (frC (by decide) hf_lp7539 (frU (by decide) (fun _ _ => rfl))), hF, (by show ((1 : Int32).toInt = 1 ∧ (v 39).toInt < (v_lp7539 39).toInt ∧ (v_lp7539 39).toInt ≤ (v 30).toInt ∧ (v_lp7539 40).toInt = (v 40).toInt) ∨ ((1 : Int32).toInt = 0 ∧ 0 ≤ (v_lp7539 40).toInt ∧ (v 39).toInt ≤ (v_lp7539 39).toInt ∧ (v_lp7539 39).toInt ≤ (v 30).toInt); rw [show v_lp7539 40 = v 40 from hf_lp7539 40 (by decide)]; have : (1 : Int32).toInt = 1 := (by decide); omega)⟩, (by show va_P _ _ _ t.heap; rw [ht]; exact hP9)⟩, hS.F ht⟩) hS.2.2 dX12_digits_80
      · skip
        have t7567 := cv_nle (a := 5) (by decide) (b := x1_lp7539.toInt) rfl c7543
        refine lv_aload_n hx hb dX12_digits_12 rfl (lv_at hl 1 rfl) ?_
        have t7568 : 0 ≤ (v 30).toInt ∧ (v 30).toInt ≤ 120 := by have h9 := hI.1 30 _ _ rfl; rw [show v_lp7539 30 = v 30 from hf_lp7539 30 (by decide)] at h9; exact h9
        have t7569 : 0 ≤ (v_lp7539 39).toInt ∧ (v_lp7539 39).toInt ≤ 120 := hI.1 39 _ _ rfl
        refine va_calli (va_runV (As := []) (rest := []) ⟨hx, hb, hml, hown, hwd⟩ (c_X12_look l dC dI g c adK adV v_lp7539 F_lp7539 rc H.size  hg hI ) (cwV 0 hwd (gV wk_1017 wk_1014 wk_1015 wk_1016 wk_5) rfl rfl rfl (by decide +kernel) ⟨Nat.le_of_ble_eq_true rfl, Nat.le_of_ble_eq_true rfl⟩) ⟨PM.blind, va_recv hK hP (ci := 12) (q0 := 0) rfl rfl, fun U hU hW => ⟨rfl, PM.at hK hE hP hS hU hW⟩⟩ rfl rfl hl.1 rfl (lv_room (Nat.le_of_ble_eq_true rfl)) dX12_digits_13 ⟨Nat.le_of_ble_eq_true rfl, Nat.le_of_ble_eq_true rfl⟩) hS (fun q _ h => (freeM hS) q h) (freeM hS) (fun r7570 u t H1 locs ht hvm hw hB hz1 hk1 hS => ?_)
        unfold BM at hB
        rw [ht] at hB
        have hP : va_P (dC, dI) classes (wM g c v_lp7539 F_lp7539 rc) H1 := hB
        replace hw : r7570.toInt = lkM (v_lp7539 39) (v_lp7539 30) (F_lp7539 24) ∧ ((v_lp7539 39).toInt < (v_lp7539 30).toInt ∨ r7570.toInt = -1) := hw
        rw [show v_lp7539 30 = v 30 from hf_lp7539 30 (by decide)] at hw
        rw [hF 24 (by decide)] at hw
        have hw_r7570 := hw
        clear hw
        clear hz1
        generalize H1 = H at hP hS ⊢
        refine lv_bipush (v := 48) hx hb dX12_digits_16 (by decide) ?_
        refine lv_bipush (v := 57) hx hb dX12_digits_18 (by decide) ?_
        refine va_calli (va_runS (As := [.int r7570, .int 48, .int 57]) (rest := []) ⟨hx, hb, hml, hown, hwd⟩ (c_X12_in l dC dI g c adK adV v_lp7539 F_lp7539 rc H.size r7570 48 57 hg hI ) (va_cwS 3 hwd (gT wk_254 wk_252 wk_253 wk_5) rfl rfl rfl (by decide +kernel) ⟨Nat.le_of_ble_eq_true rfl, Nat.le_of_ble_eq_true rfl⟩) ⟨PM.blind, fun U hU hW => ⟨rfl, PM.at hK hE hP hS hU hW⟩⟩ rfl rfl hl.1 rfl (lv_room (Nat.le_of_ble_eq_true rfl)) dX12_digits_20 ⟨Nat.le_of_ble_eq_true rfl, Nat.le_of_ble_eq_true rfl⟩) hS (fun q _ h => (freeM hS) q h) (freeM hS) (fun r7571 u t H1 locs ht hvm hw hB hz1 hk1 hS => ?_)
        unfold BM at hB
        rw [ht] at hB
        have hP : va_P (dC, dI) classes (wM g c v_lp7539 F_lp7539 rc) H1 := hB
        have hw_r7571 : (r7571.toInt = 1 ∧ (48 : Int32).toInt ≤ r7570.toInt ∧ r7570.toInt ≤ (57 : Int32).toInt) ∨ (r7571.toInt = 0 ∧ (r7570.toInt < (48 : Int32).toInt ∨ (57 : Int32).toInt < r7570.toInt)) := hw
        clear hw
        have k7572 : (48 : Int32).toInt = 48 := by decide
        have k7573 : (57 : Int32).toInt = 57 := by decide
        clear hz1
        generalize H1 = H at hP hS ⊢
        refine lv_if_eq (tgt := 61) hx hb dX12_digits_23 (by decide) (fun c7574 => ?_) (fun c7574 => ?_)
        · skip
          have t7575 := cv_eq (a := r7571.toInt) rfl (b := 0) (by decide) c7574
          refine lv_iload_n hx hb dX12_digits_61 rfl (lv_at hl 0 rfl) ?_
          refine lv_if_le (tgt := 81) hx hb dX12_digits_62 (by decide) (fun c7576 => ?_) (fun c7576 => ?_)
          · skip
            have t7577 := cv_le (a := x1_lp7539.toInt) rfl (b := 0) (by decide) c7576
            refine lv_aload_n hx hb dX12_digits_81 rfl (lv_at hl 1 rfl) ?_
            refine va_callv (va_runV (As := []) (rest := []) ⟨hx, hb, hml, hown, hwd⟩ (c_X12_wrong l dC dI g c adK adV v_lp7539 F_lp7539 rc H.size  hg hI ) (cwV 0 hwd (gV wk_1029 wk_1026 wk_1027 wk_1028 wk_5) rfl rfl rfl (by decide +kernel) ⟨Nat.le_of_ble_eq_true rfl, Nat.le_of_ble_eq_true rfl⟩) ⟨PM.blind, va_recv hK hP (ci := 12) (q0 := 0) rfl rfl, fun U hU hW => ⟨rfl, PM.at hK hE hP hS hU hW⟩⟩ rfl rfl hl.1 rfl (lv_room (Nat.le_of_ble_eq_true rfl)) dX12_digits_82 ⟨Nat.le_of_ble_eq_true rfl, Nat.le_of_ble_eq_true rfl⟩) hS (fun q _ h => (freeM hS) q h) (freeM hS) (fun u t H1 locs ht hvm hw hB hz1 hk1 hS => ?_)
            unfold BM at hB
            rw [ht] at hB
            obtain ⟨v7579, F7580, rc9⟩ := u
            obtain ⟨hI, hrc, hf7581, hG7582, hw⟩ := hw
            dsimp only at hI hrc hB hf7581 hG7582 hw
            have hF := frCF (by decide) hG7582 hF
            rw [hrc] at hB
            have hP : va_P (dC, dI) classes (wM g c v7579 F7580 rc) H1 := hB
            replace hw : 0 ≤ (v7579 40).toInt := hw
            have hw_r7578 := hw
            clear hw
            clear hz1
            generalize H1 = H at hP hS ⊢
            refine lv_iconst (v := 0) hx hb dX12_digits_85 (by decide) ?_
            have hP9 : va_P (dC, dI) classes (wM g c v7579 F7580 rc) H := hP
            exact W.zret (v := 0) hx hb hr (rfl) (fun t ht hW => ⟨⟨0, (v7579, F7580, rc), rfl, ⟨hI, rfl, (frC (by decide) hf7581 (frC (by decide) hf_lp7539 (frU (by decide) (fun _ _ => rfl)))), hF, (by show ((0 : Int32).toInt = 1 ∧ (v 39).toInt < (v7579 39).toInt ∧ (v7579 39).toInt ≤ (v 30).toInt ∧ (v7579 40).toInt = (v 40).toInt) ∨ ((0 : Int32).toInt = 0 ∧ 0 ≤ (v7579 40).toInt ∧ (v 39).toInt ≤ (v7579 39).toInt ∧ (v7579 39).toInt ≤ (v 30).toInt); rw [show v7579 39 = v_lp7539 39 from hf7581 39 (by decide)]; have : (0 : Int32).toInt = 0 := (by decide); omega)⟩, (by show va_P _ _ _ t.heap; rw [ht]; exact hP9)⟩, hS.F ht⟩) hS.2.2 dX12_digits_86
          · skip
            have t7583 := cv_nle (a := x1_lp7539.toInt) rfl (b := 0) (by decide) c7576
            refine lv_aload_n hx hb dX12_digits_65 rfl (lv_at hl 1 rfl) ?_
            have t7584 : 0 ≤ (v 30).toInt ∧ (v 30).toInt ≤ 120 := by have h9 := hI.1 30 _ _ rfl; rw [show v_lp7539 30 = v 30 from hf_lp7539 30 (by decide)] at h9; exact h9
            have t7585 : 0 ≤ (v_lp7539 39).toInt ∧ (v_lp7539 39).toInt ≤ 120 := hI.1 39 _ _ rfl
            refine va_calli (va_runV (As := []) (rest := []) ⟨hx, hb, hml, hown, hwd⟩ (c_X12_look l dC dI g c adK adV v_lp7539 F_lp7539 rc H.size  hg hI ) (cwV 0 hwd (gV wk_1017 wk_1014 wk_1015 wk_1016 wk_5) rfl rfl rfl (by decide +kernel) ⟨Nat.le_of_ble_eq_true rfl, Nat.le_of_ble_eq_true rfl⟩) ⟨PM.blind, va_recv hK hP (ci := 12) (q0 := 0) rfl rfl, fun U hU hW => ⟨rfl, PM.at hK hE hP hS hU hW⟩⟩ rfl rfl hl.1 rfl (lv_room (Nat.le_of_ble_eq_true rfl)) dX12_digits_66 ⟨Nat.le_of_ble_eq_true rfl, Nat.le_of_ble_eq_true rfl⟩) hS (fun q _ h => (freeM hS) q h) (freeM hS) (fun r7586 u t H1 locs ht hvm hw hB hz1 hk1 hS => ?_)
            unfold BM at hB
            rw [ht] at hB
            have hP : va_P (dC, dI) classes (wM g c v_lp7539 F_lp7539 rc) H1 := hB
            replace hw : r7586.toInt = lkM (v_lp7539 39) (v_lp7539 30) (F_lp7539 24) ∧ ((v_lp7539 39).toInt < (v_lp7539 30).toInt ∨ r7586.toInt = -1) := hw
            rw [show v_lp7539 30 = v 30 from hf_lp7539 30 (by decide)] at hw
            rw [hF 24 (by decide)] at hw
            have hw_r7586 := hw
            clear hw
            clear hz1
            generalize H1 = H at hP hS ⊢
            refine lv_bipush (v := 48) hx hb dX12_digits_69 (by decide) ?_
            refine lv_bipush (v := 57) hx hb dX12_digits_71 (by decide) ?_
            refine va_calli (va_runS (As := [.int r7586, .int 48, .int 57]) (rest := []) ⟨hx, hb, hml, hown, hwd⟩ (c_X12_in l dC dI g c adK adV v_lp7539 F_lp7539 rc H.size r7586 48 57 hg hI ) (va_cwS 3 hwd (gT wk_254 wk_252 wk_253 wk_5) rfl rfl rfl (by decide +kernel) ⟨Nat.le_of_ble_eq_true rfl, Nat.le_of_ble_eq_true rfl⟩) ⟨PM.blind, fun U hU hW => ⟨rfl, PM.at hK hE hP hS hU hW⟩⟩ rfl rfl hl.1 rfl (lv_room (Nat.le_of_ble_eq_true rfl)) dX12_digits_73 ⟨Nat.le_of_ble_eq_true rfl, Nat.le_of_ble_eq_true rfl⟩) hS (fun q _ h => (freeM hS) q h) (freeM hS) (fun r7587 u t H1 locs ht hvm hw hB hz1 hk1 hS => ?_)
            unfold BM at hB
            rw [ht] at hB
            have hP : va_P (dC, dI) classes (wM g c v_lp7539 F_lp7539 rc) H1 := hB
            have hw_r7587 : (r7587.toInt = 1 ∧ (48 : Int32).toInt ≤ r7586.toInt ∧ r7586.toInt ≤ (57 : Int32).toInt) ∨ (r7587.toInt = 0 ∧ (r7586.toInt < (48 : Int32).toInt ∨ (57 : Int32).toInt < r7586.toInt)) := hw
            clear hw
            have k7588 : (48 : Int32).toInt = 48 := by decide
            have k7589 : (57 : Int32).toInt = 57 := by decide
            clear hz1
            generalize H1 = H at hP hS ⊢
            refine lv_if_ne (tgt := 81) hx hb dX12_digits_76 (by decide) (fun c7590 => ?_) (fun c7590 => ?_)
            · skip
              have t7591 := cv_ne (a := r7587.toInt) rfl (b := 0) (by decide) c7590
              refine lv_aload_n hx hb dX12_digits_81 rfl (lv_at hl 1 rfl) ?_
              refine va_callv (va_runV (As := []) (rest := []) ⟨hx, hb, hml, hown, hwd⟩ (c_X12_wrong l dC dI g c adK adV v_lp7539 F_lp7539 rc H.size  hg hI ) (cwV 0 hwd (gV wk_1029 wk_1026 wk_1027 wk_1028 wk_5) rfl rfl rfl (by decide +kernel) ⟨Nat.le_of_ble_eq_true rfl, Nat.le_of_ble_eq_true rfl⟩) ⟨PM.blind, va_recv hK hP (ci := 12) (q0 := 0) rfl rfl, fun U hU hW => ⟨rfl, PM.at hK hE hP hS hU hW⟩⟩ rfl rfl hl.1 rfl (lv_room (Nat.le_of_ble_eq_true rfl)) dX12_digits_82 ⟨Nat.le_of_ble_eq_true rfl, Nat.le_of_ble_eq_true rfl⟩) hS (fun q _ h => (freeM hS) q h) (freeM hS) (fun u t H1 locs ht hvm hw hB hz1 hk1 hS => ?_)
              unfold BM at hB
              rw [ht] at hB
              obtain ⟨v7593, F7594, rc9⟩ := u
              obtain ⟨hI, hrc, hf7595, hG7596, hw⟩ := hw
              dsimp only at hI hrc hB hf7595 hG7596 hw
              have hF := frCF (by decide) hG7596 hF
              rw [hrc] at hB
              have hP : va_P (dC, dI) classes (wM g c v7593 F7594 rc) H1 := hB
              replace hw : 0 ≤ (v7593 40).toInt := hw
              have hw_r7592 := hw
              clear hw
              clear hz1
              generalize H1 = H at hP hS ⊢
              refine lv_iconst (v := 0) hx hb dX12_digits_85 (by decide) ?_
              have hP9 : va_P (dC, dI) classes (wM g c v7593 F7594 rc) H := hP
              exact W.zret (v := 0) hx hb hr (rfl) (fun t ht hW => ⟨⟨0, (v7593, F7594, rc), rfl, ⟨hI, rfl, (frC (by decide) hf7595 (frC (by decide) hf_lp7539 (frU (by decide) (fun _ _ => rfl)))), hF, (by show ((0 : Int32).toInt = 1 ∧ (v 39).toInt < (v7593 39).toInt ∧ (v7593 39).toInt ≤ (v 30).toInt ∧ (v7593 40).toInt = (v 40).toInt) ∨ ((0 : Int32).toInt = 0 ∧ 0 ≤ (v7593 40).toInt ∧ (v 39).toInt ≤ (v7593 39).toInt ∧ (v7593 39).toInt ≤ (v 30).toInt); rw [show v7593 39 = v_lp7539 39 from hf7595 39 (by decide)]; have : (0 : Int32).toInt = 0 := (by decide); omega)⟩, (by show va_P _ _ _ t.heap; rw [ht]; exact hP9)⟩, hS.F ht⟩) hS.2.2 dX12_digits_86
            · skip
              have t7597 := cv_eq (a := r7587.toInt) rfl (b := 0) (by decide) c7590
              refine lv_iconst (v := 1) hx hb dX12_digits_79 (by decide) ?_
              have hP9 : va_P (dC, dI) classes (wM g c v_lp7539 F_lp7539 rc) H := hP
              exact W.zret (v := 1) hx hb hr (rfl) (fun t ht hW => ⟨⟨1, (v_lp7539, F_lp7539, rc), rfl, ⟨hI, rfl, (frC (by decide) hf_lp7539 (frU (by decide) (fun _ _ => rfl))), hF, (by show ((1 : Int32).toInt = 1 ∧ (v 39).toInt < (v_lp7539 39).toInt ∧ (v_lp7539 39).toInt ≤ (v 30).toInt ∧ (v_lp7539 40).toInt = (v 40).toInt) ∨ ((1 : Int32).toInt = 0 ∧ 0 ≤ (v_lp7539 40).toInt ∧ (v 39).toInt ≤ (v_lp7539 39).toInt ∧ (v_lp7539 39).toInt ≤ (v 30).toInt); rw [show v_lp7539 40 = v 40 from hf_lp7539 40 (by decide)]; have : (1 : Int32).toInt = 1 := (by decide); omega)⟩, (by show va_P _ _ _ t.heap; rw [ht]; exact hP9)⟩, hS.F ht⟩) hS.2.2 dX12_digits_80
        · skip
          have t7598 := cv_ne (a := r7571.toInt) rfl (b := 0) (by decide) c7574
          refine lv_aload_n hx hb dX12_digits_26 rfl (lv_at hl 1 rfl) ?_
          refine lv_bipush (v := 10) hx hb dX12_digits_27 (by decide) ?_
          refine lv_aload_n hx hb dX12_digits_29 rfl (lv_at hl 1 rfl) ?_
          refine va_get (D := (dC, dI)) (ci := 12) (v := .int (v_lp7539 42)) (C := RX12) (T := TX12) (N := 63) hx hb hwd inA_X12 hown hK hP 0 rfl rfl 42 (by decide) (hwd _ wk_1031) (fun _ h9 => h9) rfl dX12_digits_30 ?_
          refine lv_imul hx hb dX12_digits_33 ?_
          refine lv_topi (fun z7599 e7600 => ?_)
          try (have t7601 := tmul e7600 (a := 10) (by decide) (b := (v_lp7539 42).toInt) rfl (by omega))
          refine lv_aload_n hx hb dX12_digits_34 rfl (lv_at hl 1 rfl) ?_
          have t7602 : 0 ≤ (v 30).toInt ∧ (v 30).toInt ≤ 120 := by have h9 := hI.1 30 _ _ rfl; rw [show v_lp7539 30 = v 30 from hf_lp7539 30 (by decide)] at h9; exact h9
          have t7603 : 0 ≤ (v_lp7539 39).toInt ∧ (v_lp7539 39).toInt ≤ 120 := hI.1 39 _ _ rfl
          refine va_calli (va_runV (As := []) (rest := [.int z7599, .ref (g 0)]) ⟨hx, hb, hml, hown, hwd⟩ (c_X12_look l dC dI g c adK adV v_lp7539 F_lp7539 rc H.size  hg hI ) (cwV 0 hwd (gV wk_1017 wk_1014 wk_1015 wk_1016 wk_5) rfl rfl rfl (by decide +kernel) ⟨Nat.le_of_ble_eq_true rfl, Nat.le_of_ble_eq_true rfl⟩) ⟨PM.blind, va_recv hK hP (ci := 12) (q0 := 0) rfl rfl, fun U hU hW => ⟨rfl, PM.at hK hE hP hS hU hW⟩⟩ rfl rfl hl.1 rfl (lv_room (Nat.le_of_ble_eq_true rfl)) dX12_digits_35 ⟨Nat.le_of_ble_eq_true rfl, Nat.le_of_ble_eq_true rfl⟩) hS (fun q _ h => (freeM hS) q h) (freeM hS) (fun r7604 u t H1 locs ht hvm hw hB hz1 hk1 hS => ?_)
          unfold BM at hB
          rw [ht] at hB
          have hP : va_P (dC, dI) classes (wM g c v_lp7539 F_lp7539 rc) H1 := hB
          replace hw : r7604.toInt = lkM (v_lp7539 39) (v_lp7539 30) (F_lp7539 24) ∧ ((v_lp7539 39).toInt < (v_lp7539 30).toInt ∨ r7604.toInt = -1) := hw
          rw [show v_lp7539 30 = v 30 from hf_lp7539 30 (by decide)] at hw
          rw [hF 24 (by decide)] at hw
          have hw_r7604 := hw
          clear hw
          clear hz1
          generalize H1 = H at hP hS ⊢
          refine lv_iadd hx hb dX12_digits_38 ?_
          refine lv_topi (fun z7605 e7606 => ?_)
          try (have t7607 := tadd e7606 (a := z7599.toInt) rfl (b := r7604.toInt) rfl (by omega))
          refine lv_bipush (v := 48) hx hb dX12_digits_39 (by decide) ?_
          refine lv_isub hx hb dX12_digits_41 ?_
          refine lv_topi (fun z7608 e7609 => ?_)
          try (have t7610 := tsub e7609 (a := z7605.toInt) rfl (b := 48) (by decide) (by omega))
          refine va_put (D := (dC, dI)) (ci := 12) (v := .int z7608) (ty := .int) (C := RX12) (T := TX12) (N := 63) (fs := fsM_0 g v_lp7539 rc) hx hb hwd inA_X12 tyX12 tyX12_ok nmX12 hown hK hP (DM hg) hS 0 rfl rfl 42 (by decide) (hwd _ wk_1031) (fun _ h9 => h9) rfl (by decide +kernel) rfl rfl (Nat.le_of_ble_eq_true rfl) dX12_digits_42 (fun H locs hP _ hS => ?_)
          have hP := va_P_eq (pM_42 g c _ _ _ _) hP
          have hI := IM.put0 hI 42 z7608 rfl
          obtain ⟨z7611, e7612⟩ : ∃ y : Int32, y = x1_lp7539 + 1 := ⟨_, rfl⟩
          try (have t7613 := tadd e7612 rfl (b := 1) (by decide) (by omega))
          refine lv_iinc (v := z7611) (lv' := [(1, .int z7611), (0, .ref (g 0))]) hx hb dX12_digits_45 hl (k := 0) rfl (by rw [e7612]; rfl) (by decide) rfl (fun ls hl => ?_)
          refine lv_aload_n hx hb dX12_digits_48 rfl (lv_at hl 1 rfl) ?_
          refine lv_dup hx hb dX12_digits_49 rfl ?_
          refine va_get (D := (dC, dI)) (ci := 12) (v := .int (v_lp7539 39)) (C := RX12) (T := TX12) (N := 63) hx hb hwd inA_X12 hown hK hP 0 rfl rfl 39 (by decide) (hwd _ wk_1004) (fun _ h9 => h9) rfl dX12_digits_50 ?_
          have t7614 : 0 ≤ (v_lp7539 39).toInt ∧ (v_lp7539 39).toInt ≤ 120 := hI.1 39 _ _ rfl
          refine lv_iconst (v := 1) hx hb dX12_digits_53 (by decide) ?_
          refine lv_iadd hx hb dX12_digits_54 ?_
          refine lv_topi (fun z7615 e7616 => ?_)
          try (have t7617 := tadd e7616 (a := (v_lp7539 39).toInt) rfl (b := 1) (by decide) (by omega))
          refine va_put (D := (dC, dI)) (ci := 12) (v := .int z7615) (ty := .int) (C := RX12) (T := TX12) (N := 63) (fs := fsM_0 g (va_up v_lp7539 42 z7608) rc) hx hb hwd inA_X12 tyX12 tyX12_ok nmX12 hown hK hP (DM hg) hS 0 rfl rfl 39 (by decide) (hwd _ wk_1004) (fun _ h9 => h9) rfl (by decide +kernel) rfl rfl (Nat.le_of_ble_eq_true rfl) dX12_digits_55 (fun H locs hP _ hS => ?_)
          have hP := va_P_eq (pM_39 g c _ _ _ _) hP
          have hI := IM.put hI 39 z7615 rfl (by omega)
          refine lv_goto (tgt := 7) hx hb dX12_digits_58 (by decide) ?_
          exact ih_lp7539 z7611 (va_up (va_up v_lp7539 42 z7608) 39 z7615) F_lp7539 _ _ _ (by omega) (by omega) (by have h9 : (va_up (va_up v_lp7539 42 z7608) 39 z7615) 39 = z7615 := rfl; (try rw [h9]); clear h9; omega) (by omega) (frU (by decide) (frU (by decide) hf_lp7539)) hI hF hP hS (lv_sub hl [0, 1] rfl)
  obtain ⟨n9, hn9⟩ : ∃ n : Nat, 2147483648 - 0 ≤ (n : Int) := ⟨((2147483648 - 0 : Int)).toNat, by omega⟩
  exact lp7539 n9 0 (va_up v 42 0) F H _ ls (by have : (0 : Int32).toInt = 0 := (by decide); omega) (by have : (0 : Int32).toInt = 0 := (by decide); omega) (by have h9 : (va_up v 42 0) 39 = v 39 := rfl; (try rw [h9]); clear h9; have : (0 : Int32).toInt = 0 := (by decide); omega) (by have : (0 : Int32).toInt = 0 := (by decide); omega) (fun _ _ => rfl) hI hF hP hS hl
