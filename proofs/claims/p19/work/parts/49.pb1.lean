set_option maxHeartbeats 8000000 in
set_option maxRecDepth 100000 in
theorem c_X8_save (l : Launch) (dC : Nat → ClassId) (dI : Nat → Nat → Nat) (g : Nat → Nat) (c : Nat → ClassId) (adK adV : Nat → Nat) (v : Nat → Int32) (F : Nat → Nat → Int32) (rc sz : Nat) (p0 : Int32) (p1 : Int32) (p2 : Int64) (hg : injX g) (hI : IX v F) (h0 : 0 ≤ p0.toInt ∧ p0.toInt ≤ 9) (h1 : 0 ≤ p1.toInt ∧ p1.toInt ≤ 9) : Met l yX8_save (Cond.code yX8_save cX8_save 5 none :: wA) ({ frames := 3, cells := 0, slots := 0, locals := 120 }) (va_Pc [.ref (g 2), .int p0, .int p1, .long p2] (PX dC dI g c adK adV v F rc sz)) (va_Qv (fun (u : StX) => IX u.1 u.2.1 ∧ alX u.1 u.2.1 = alX v F ∧ u.2.2 = rc ∧ (∀ k, k ∉ ([] : List Nat) → u.1 k = v k) ∧ True) (BX dC dI g c) (AX g sz)) 0 0 (AX g sz) := by
  refine Met.ofW (cc := cX8_save) (maxL := 5) (ret := none) (by decide) rfl ?_
  intro p e s m args below meth c0 s₁ B hml hv
  obtain ⟨rfl, hsz, hP, hK, hE⟩ := hv
  have hx := B.exec
  have hb := B.bytes
  have hr := B.returns
  have hts := atoms_spec (ws := Cond.code yX8_save cX8_save 5 none :: wA) B.pre
  have hwd : ∀ w ∈ wA, w.before _ s = true := fun w h => hts w (List.mem_cons_of_mem _ h)
  have hown : s.vm.findClass RX8 = some m.cls := findClass_of_methodNamed B.named
  have hlocks := B.notSynchronized
  subst hsz
  have hl := lv_entry ([.ref (g 2), .int p0, .int p1, .long p2]) (n := 5) (Nat.le_of_ble_eq_true rfl)
  rw [lg_entry_eq]
  generalize (lg_sl ([.ref (g 2), .int p0, .int p1, .long p2]) ++ List.replicate (5 - (lg_sl ([.ref (g 2), .int p0, .int p1, .long p2])).length) Slot.unset).toArray = ls at hl ⊢
  have hl : lv_has ls 5 [(0, .ref (g 2)), (1, .int p0), (2, .int p1), (3, .long p2)] := hl
  obtain ⟨H, eH⟩ : ∃ z, z = s.heap := ⟨_, rfl⟩
  have hP : va_P (dC, dI) classes (wX g c v F rc) H := by rw [eH]; exact hP
  have hS : va_S (AX g s.heap.size) s.heap H [] := by rw [eH]; exact va_S.rf
  refine my_heap eH ?_
  have hal : alX v F = alX v F := rfl
  have rp0 := i32_rng p0
  have rp1 := i32_rng p1
  refine lv_aload_n hx hb dX8_save_0 rfl (lv_at hl 0 rfl) ?_
  refine va_get (D := (dC, dI)) (ci := 8) (v := .ref (g 23)) (C := RX8) (T := TX8) (N := 10) hx hb hwd inA_X8 hown hK hP 2 rfl rfl 9 (by decide) (hwd _ wk_76) (fun _ h9 => h9) rfl dX8_save_1 ?_
  refine lv_iload_n hx hb dX8_save_4 rfl (lv_at hl 1 rfl) ?_
  refine lv_bipush (v := 10) hx hb dX8_save_5 (by decide) ?_
  refine lv_imul hx hb dX8_save_7 ?_
  refine lv_topi (fun z1983 e1984 => ?_)
  try (have t1985 := tmul e1984 (a := p0.toInt) rfl (b := 10) (by decide) (by omega))
  refine lv_iload_n hx hb dX8_save_8 rfl (lv_at hl 2 rfl) ?_
  refine lv_iadd hx hb dX8_save_9 ?_
  refine lv_topi (fun z1986 e1987 => ?_)
  try (have t1988 := tadd e1987 (a := z1983.toInt) rfl (b := p1.toInt) rfl (by omega))
  refine lv_aload_n hx hb dX8_save_10 rfl (lv_at hl 0 rfl) ?_
  refine lv_iload_n hx hb dX8_save_11 rfl (lv_at hl 1 rfl) ?_
  refine lv_iload_n hx hb dX8_save_12 rfl (lv_at hl 2 rfl) ?_
  refine va_calli (va_runV (As := [.int p0, .int p1]) (rest := [.int z1986, .ref (g 23)]) ⟨hx, hb, hml, hown, hwd⟩ (c_X8_savedFor l dC dI g c adK adV v F rc H.size p0 p1 hg hI (by omega) (by omega)) (cwV 2 hwd (gV wk_466 wk_463 wk_464 wk_465 wk_18) rfl rfl rfl (by decide +kernel) ⟨Nat.le_of_ble_eq_true rfl, Nat.le_of_ble_eq_true rfl⟩) ⟨PX.blind, va_recv hK hP (ci := 8) (q0 := 2) rfl rfl, fun U hU hW => ⟨rfl, PX.at hK hE hP hS hU hW⟩⟩ rfl rfl hl.1 rfl (lv_room (Nat.le_of_ble_eq_true rfl)) dX8_save_13 ⟨Nat.le_of_ble_eq_true rfl, Nat.le_of_ble_eq_true rfl⟩) hS (fun q _ h => (freeX hS) q h) (freeX hS) (fun r1989 u t H1 locs ht hvm hw hB hz1 hk1 hS => ?_)
  unfold BX at hB
  rw [ht] at hB
  have hP : va_P (dC, dI) classes (wX g c v F rc) H1 := hB
  generalize H1 = H at hP hS ⊢
  have rr_r1989 := i32_rng r1989
  refine lv_i2l hx hb dX8_save_16 rfl ?_
  refine lv_topl (fun z1990 e1991 => ?_)
  refine lv_lload_n hx hb dX8_save_17 rfl (lv_at hl 3 rfl) ?_
  refine lv_ladd hx hb dX8_save_18 ?_
  refine lv_topl (fun z1992 e1993 => ?_)
  refine va_calli (va_runSN (As := [.long z1992]) (rest := [.int z1986, .ref (g 23)]) ⟨hx, hb, hml, hown, hwd⟩ (c_X11_held l dC dI g c adK adV v F rc H.size z1992 hg hI ) ⟨va_cnB 1 hwd (gS wk_468) rfl rfl rfl hE.1 (hwd _ wk_2) (by decide +kernel) ⟨Nat.le_of_ble_eq_true rfl, Nat.le_of_ble_eq_true rfl⟩, hwd _ wk_467, trivial⟩ ⟨PX.blind, fun U hU hW => ⟨rfl, PX.at hK hE hP hS hU hW⟩⟩ rfl rfl hl.1 rfl (lv_room (Nat.le_of_ble_eq_true rfl)) dX8_save_19 ⟨Nat.le_of_ble_eq_true rfl, Nat.le_of_ble_eq_true rfl⟩) hS (fun q _ h => (freeX hS) q h) (freeX hS) (fun r1994 u t H1 locs ht hvm hw hB hz1 hk1 hS => ?_)
  unfold BX at hB
  rw [ht] at hB
  have hP : va_P (dC, dI) classes (wX g c v F rc) H1 := hB
  generalize H1 = H at hP hS ⊢
  have rr_r1994 := i32_rng r1994
  refine va_iast hx hb hK hP (DX hg) hS 23 11 rfl rfl (i := z1986) (x := r1994) (vin (a := z1986.toInt) rfl (by omega)) dX8_save_22 (fun H locs hP _ hS => ?_)
  have hP := va_P_eq (sX_23 g c _ _ _ _) hP
  have hI := IX.store0 hI 23 (z1986 : Int32).toNatClampNeg r1994 rfl
  have hal := (alX_F _ _ 23 (upd (F 23) (z1986 : Int32).toNatClampNeg r1994) (by decide) (by decide) (by decide) (by decide) (by decide)).trans hal
  have hP : va_P (dC, dI) classes (wX g c v (va_up F 23 (upd (F 23) (z1986 : Int32).toNatClampNeg r1994)) rc) H := hP
  generalize (va_up F 23 (upd (F 23) (z1986 : Int32).toNatClampNeg r1994)) = F1995 at hP hI hal
  have hP9 : va_P (dC, dI) classes (wX g c v F1995 rc) H := hP
  exact W.vret hx hb hr (fun t ht hW => ⟨⟨(v, F1995, rc), rfl, ⟨hI, hal, rfl, (fun _ _ => rfl), trivial⟩, (by show va_P _ _ _ t.heap; rw [ht]; exact hP9)⟩, hS.F ht⟩) hS.2.2 dX8_save_23
set_option maxHeartbeats 8000000 in
set_option maxRecDepth 100000 in
theorem c_X8_payOut (l : Launch) (dC : Nat → ClassId) (dI : Nat → Nat → Nat) (g : Nat → Nat) (c : Nat → ClassId) (adK adV : Nat → Nat) (v : Nat → Int32) (F : Nat → Nat → Int32) (rc sz : Nat) (p0 : Int32) (p1 : Int32) (p2 : Int32) (hg : injX g) (hI : IX v F) (h0 : 0 ≤ p0.toInt ∧ p0.toInt ≤ 9) (h1 : 0 ≤ p1.toInt ∧ p1.toInt ≤ 9) : Met l yX8_payOut (Cond.code yX8_payOut cX8_payOut 5 (some .int) :: wA) ({ frames := 2, cells := 0, slots := 0, locals := 80 }) (va_Pc [.ref (g 2), .int p0, .int p1, .int p2] (PX dC dI g c adK adV v F rc sz)) (va_Qi (fun (r : Int32) (u : StX) => IX u.1 u.2.1 ∧ alX u.1 u.2.1 = alX v F ∧ u.2.2 = rc ∧ (∀ k, k ∉ ([] : List Nat) → u.1 k = v k) ∧ True) (BX dC dI g c) (AX g sz)) 0 0 (AX g sz) := by
  refine Met.ofW (cc := cX8_payOut) (maxL := 5) (ret := (some .int)) (by decide) rfl ?_
  intro p e s m args below meth c0 s₁ B hml hv
  obtain ⟨rfl, hsz, hP, hK, hE⟩ := hv
  have hx := B.exec
  have hb := B.bytes
  have hr := B.returns
  have hts := atoms_spec (ws := Cond.code yX8_payOut cX8_payOut 5 (some .int) :: wA) B.pre
  have hwd : ∀ w ∈ wA, w.before _ s = true := fun w h => hts w (List.mem_cons_of_mem _ h)
  have hown : s.vm.findClass RX8 = some m.cls := findClass_of_methodNamed B.named
  have hlocks := B.notSynchronized
  subst hsz
  have hl := lv_entry ([.ref (g 2), .int p0, .int p1, .int p2]) (n := 5) (Nat.le_of_ble_eq_true rfl)
  rw [lg_entry_eq]
  generalize (lg_sl ([.ref (g 2), .int p0, .int p1, .int p2]) ++ List.replicate (5 - (lg_sl ([.ref (g 2), .int p0, .int p1, .int p2])).length) Slot.unset).toArray = ls at hl ⊢
  have hl : lv_has ls 5 [(0, .ref (g 2)), (1, .int p0), (2, .int p1), (3, .int p2)] := hl
  obtain ⟨H, eH⟩ : ∃ z, z = s.heap := ⟨_, rfl⟩
  have hP : va_P (dC, dI) classes (wX g c v F rc) H := by rw [eH]; exact hP
  have hS : va_S (AX g s.heap.size) s.heap H [] := by rw [eH]; exact va_S.rf
  refine my_heap eH ?_
  have hal : alX v F = alX v F := rfl
  have rp0 := i32_rng p0
  have rp1 := i32_rng p1
  have rp2 := i32_rng p2
  refine lv_iload_n hx hb dX8_payOut_0 rfl (lv_at hl 3 rfl) ?_
  refine lv_aload_n hx hb dX8_payOut_1 rfl (lv_at hl 0 rfl) ?_
  refine lv_iload_n hx hb dX8_payOut_2 rfl (lv_at hl 1 rfl) ?_
  refine lv_iload_n hx hb dX8_payOut_3 rfl (lv_at hl 2 rfl) ?_
  refine va_calli (va_runV (As := [.int p0, .int p1]) (rest := [.int p2]) ⟨hx, hb, hml, hown, hwd⟩ (c_X8_savedFor l dC dI g c adK adV v F rc H.size p0 p1 hg hI (by omega) (by omega)) (cwV 2 hwd (gV wk_466 wk_463 wk_464 wk_465 wk_18) rfl rfl rfl (by decide +kernel) ⟨Nat.le_of_ble_eq_true rfl, Nat.le_of_ble_eq_true rfl⟩) ⟨PX.blind, va_recv hK hP (ci := 8) (q0 := 2) rfl rfl, fun U hU hW => ⟨rfl, PX.at hK hE hP hS hU hW⟩⟩ rfl rfl hl.1 rfl (lv_room (Nat.le_of_ble_eq_true rfl)) dX8_payOut_4 ⟨Nat.le_of_ble_eq_true rfl, Nat.le_of_ble_eq_true rfl⟩) hS (fun q _ h => (freeX hS) q h) (freeX hS) (fun r1996 u t H1 locs ht hvm hw hB hz1 hk1 hS => ?_)
  unfold BX at hB
  rw [ht] at hB
  have hP : va_P (dC, dI) classes (wX g c v F rc) H1 := hB
  generalize H1 = H at hP hS ⊢
  have rr_r1996 := i32_rng r1996
  refine va_mmin hx hb (by rw [hml]; exact hl.1.symm) hown (hwd _ wk_1343) (hwd _ wk_391) (hwd _ wk_392) (hwd _ wk_393) (Nat.le_of_ble_eq_true rfl) (Nat.le_of_ble_eq_true rfl) (Nat.le_of_ble_eq_true rfl) (Nat.le_of_ble_eq_true rfl) dX8_payOut_7 ?_
  refine lv_topi (fun z1997 e1998 => ?_)
  have t1999 := tmin e1998 (a := p2.toInt) rfl (b := r1996.toInt) rfl
  refine lv_istore (lv' := [(4, .int z1997), (0, .ref (g 2)), (1, .int p0), (2, .int p1), (3, .int p2)]) hx hb dX8_payOut_10 hl (by decide) rfl (fun ls hl => ?_)
  refine lv_aload_n hx hb dX8_payOut_12 rfl (lv_at hl 1 rfl) ?_
  refine va_get (D := (dC, dI)) (ci := 8) (v := .ref (g 23)) (C := RX8) (T := TX8) (N := 10) hx hb hwd inA_X8 hown hK hP 2 rfl rfl 9 (by decide) (hwd _ wk_76) (fun _ h9 => h9) rfl dX8_payOut_13 ?_
  refine lv_iload_n hx hb dX8_payOut_16 rfl (lv_at hl 2 rfl) ?_
  refine lv_bipush (v := 10) hx hb dX8_payOut_17 (by decide) ?_
  refine lv_imul hx hb dX8_payOut_19 ?_
  refine lv_topi (fun z2000 e2001 => ?_)
  try (have t2002 := tmul e2001 (a := p0.toInt) rfl (b := 10) (by decide) (by omega))
  refine lv_iload_n hx hb dX8_payOut_20 rfl (lv_at hl 3 rfl) ?_
  refine lv_iadd hx hb dX8_payOut_21 ?_
  refine lv_topi (fun z2003 e2004 => ?_)
  try (have t2005 := tadd e2004 (a := z2000.toInt) rfl (b := p1.toInt) rfl (by omega))
  refine lv_dup2_11 hx hb dX8_payOut_22 rfl rfl ?_
  refine va_iald hx hb hK hP 23 11 rfl rfl (i := z2003) (vin (a := z2003.toInt) rfl (by omega)) dX8_payOut_23 ?_
  refine lv_topi (fun z2006 e2007 => ?_)
  refine lv_iload hx hb dX8_payOut_24 (lv_at hl 0 rfl) ?_
  refine lv_isub hx hb dX8_payOut_26 ?_
  refine lv_topi (fun z2008 e2009 => ?_)
  try (have t2010 := tsub e2009 (a := z2006.toInt) rfl (b := z1997.toInt) rfl (by omega))
  refine va_iast hx hb hK hP (DX hg) hS 23 11 rfl rfl (i := z2003) (x := z2008) (vin (a := z2003.toInt) rfl (by omega)) dX8_payOut_27 (fun H locs hP _ hS => ?_)
  have hP := va_P_eq (sX_23 g c _ _ _ _) hP
  have hI := IX.store0 hI 23 (z2003 : Int32).toNatClampNeg z2008 rfl
  have hal := (alX_F _ _ 23 (upd (F 23) (z2003 : Int32).toNatClampNeg z2008) (by decide) (by decide) (by decide) (by decide) (by decide)).trans hal
  have hP : va_P (dC, dI) classes (wX g c v (va_up F 23 (upd (F 23) (z2003 : Int32).toNatClampNeg z2008)) rc) H := hP
  generalize (va_up F 23 (upd (F 23) (z2003 : Int32).toNatClampNeg z2008)) = F2011 at hP hI hal
  refine lv_iload hx hb dX8_payOut_28 (lv_at hl 0 rfl) ?_
  have hP9 : va_P (dC, dI) classes (wX g c v F2011 rc) H := hP
  exact W.iret (v := z1997) hx hb hr (fun t ht hW => ⟨⟨z1997, (v, F2011, rc), rfl, ⟨hI, hal, rfl, (fun _ _ => rfl), trivial⟩, (by show va_P _ _ _ t.heap; rw [ht]; exact hP9)⟩, hS.F ht⟩) hS.2.2 dX8_payOut_30
set_option maxHeartbeats 8000000 in
set_option maxRecDepth 100000 in
theorem c_X8_linkRent (l : Launch) (dC : Nat → ClassId) (dI : Nat → Nat → Nat) (g : Nat → Nat) (c : Nat → ClassId) (adK adV : Nat → Nat) (v : Nat → Int32) (F : Nat → Nat → Int32) (rc sz : Nat) (p0 : Int32) (p1 : Int32) (hg : injX g) (hI : IX v F) (h0 : 0 ≤ p0.toInt ∧ p0.toInt ≤ 9) : Met l yX8_linkRent (Cond.code yX8_linkRent cX8_linkRent 3 (some .int) :: wA) ({ frames := 1, cells := 0, slots := 0, locals := 40 }) (va_Pc [.ref (g 2), .int p0, .int p1] (PX dC dI g c adK adV v F rc sz)) (va_Qi (fun (r : Int32) (u : Unit) => True) (fun (_ : Unit) => BX dC dI g c (v, F, rc)) (AX g sz)) 0 0 (AX g sz) := by
  refine Met.ofW (cc := cX8_linkRent) (maxL := 3) (ret := (some .int)) (by decide) rfl ?_
  intro p e s m args below meth c0 s₁ B hml hv
  obtain ⟨rfl, hsz, hP, hK, hE⟩ := hv
  have hx := B.exec
  have hb := B.bytes
  have hr := B.returns
  have hts := atoms_spec (ws := Cond.code yX8_linkRent cX8_linkRent 3 (some .int) :: wA) B.pre
  have hwd : ∀ w ∈ wA, w.before _ s = true := fun w h => hts w (List.mem_cons_of_mem _ h)
  have hown : s.vm.findClass RX8 = some m.cls := findClass_of_methodNamed B.named
  have hlocks := B.notSynchronized
  subst hsz
  have hl := lv_entry ([.ref (g 2), .int p0, .int p1]) (n := 3) (Nat.le_of_ble_eq_true rfl)
  rw [lg_entry_eq]
  generalize (lg_sl ([.ref (g 2), .int p0, .int p1]) ++ List.replicate (3 - (lg_sl ([.ref (g 2), .int p0, .int p1])).length) Slot.unset).toArray = ls at hl ⊢
  have hl : lv_has ls 3 [(0, .ref (g 2)), (1, .int p0), (2, .int p1)] := hl
  obtain ⟨H, eH⟩ : ∃ z, z = s.heap := ⟨_, rfl⟩
  have hP : va_P (dC, dI) classes (wX g c v F rc) H := by rw [eH]; exact hP
  have hS : va_S (AX g s.heap.size) s.heap H [] := by rw [eH]; exact va_S.rf
  refine my_heap eH ?_
  have rp0 := i32_rng p0
  have rp1 := i32_rng p1
  refine lv_iload_n hx hb dX8_linkRent_0 rfl (lv_at hl 2 rfl) ?_
  refine lv_if_lt (tgt := 27) hx hb dX8_linkRent_1 (by decide) (fun c2012 => ?_) (fun c2012 => ?_)
  · skip
    have t2013 := cv_lt (a := p1.toInt) rfl (b := 0) (by decide) c2012
    refine lv_iconst (v := 0) hx hb dX8_linkRent_27 (by decide) ?_
    have hP9 : va_P (dC, dI) classes (wX g c v F rc) H := hP
    exact W.iret (v := 0) hx hb hr (fun t ht hW => ⟨⟨0, (), rfl, trivial, (by show va_P _ _ _ t.heap; rw [ht]; exact hP9)⟩, hS.F ht⟩) hS.2.2 dX8_linkRent_28
  · skip
    have t2014 := cv_nlt (a := p1.toInt) rfl (b := 0) (by decide) c2012
    refine lv_iload_n hx hb dX8_linkRent_4 rfl (lv_at hl 2 rfl) ?_
    refine lv_aload_n hx hb dX8_linkRent_5 rfl (lv_at hl 0 rfl) ?_
    refine va_get (D := (dC, dI)) (ci := 8) (v := .ref (g 20)) (C := RX8) (T := TX8) (N := 10) hx hb hwd inA_X8 hown hK hP 2 rfl rfl 6 (by decide) (hwd _ wk_73) (fun _ h9 => h9) rfl dX8_linkRent_6 ?_
    refine lv_iload_n hx hb dX8_linkRent_9 rfl (lv_at hl 1 rfl) ?_
    refine va_iald hx hb hK hP 20 8 rfl rfl (i := p0) (vin (a := p0.toInt) rfl (by omega)) dX8_linkRent_10 ?_
    refine lv_topi (fun z2015 e2016 => ?_)
    have t2017 : 0 ≤ z2015.toInt ∧ z2015.toInt ≤ 4 := by rw [e2016]; exact hI.2 20 _ _ rfl _
    refine lv_icmp_ge (tgt := 27) hx hb dX8_linkRent_11 (by decide) (fun c2018 => ?_) (fun c2018 => ?_)
    · skip
      have t2019 := cv_le (a := z2015.toInt) rfl (b := p1.toInt) rfl c2018
      refine lv_iconst (v := 0) hx hb dX8_linkRent_27 (by decide) ?_
      have hP9 : va_P (dC, dI) classes (wX g c v F rc) H := hP
      exact W.iret (v := 0) hx hb hr (fun t ht hW => ⟨⟨0, (), rfl, trivial, (by show va_P _ _ _ t.heap; rw [ht]; exact hP9)⟩, hS.F ht⟩) hS.2.2 dX8_linkRent_28
    · skip
      have t2020 := cv_nle (a := z2015.toInt) rfl (b := p1.toInt) rfl c2018
      refine lv_aload_n hx hb dX8_linkRent_14 rfl (lv_at hl 0 rfl) ?_
      refine va_get (D := (dC, dI)) (ci := 8) (v := .ref (g 21)) (C := RX8) (T := TX8) (N := 10) hx hb hwd inA_X8 hown hK hP 2 rfl rfl 7 (by decide) (hwd _ wk_74) (fun _ h9 => h9) rfl dX8_linkRent_15 ?_
      refine lv_iload_n hx hb dX8_linkRent_18 rfl (lv_at hl 1 rfl) ?_
      refine lv_iconst (v := 4) hx hb dX8_linkRent_19 (by decide) ?_
      refine lv_imul hx hb dX8_linkRent_20 ?_
      refine lv_topi (fun z2021 e2022 => ?_)
      try (have t2023 := tmul e2022 (a := p0.toInt) rfl (b := 4) (by decide) (by omega))
      refine lv_iload_n hx hb dX8_linkRent_21 rfl (lv_at hl 2 rfl) ?_
      refine lv_iadd hx hb dX8_linkRent_22 ?_
      refine lv_topi (fun z2024 e2025 => ?_)
      try (have t2026 := tadd e2025 (a := z2021.toInt) rfl (b := p1.toInt) rfl (by omega))
      refine va_iald hx hb hK hP 21 9 rfl rfl (i := z2024) (vin (a := z2024.toInt) rfl (by omega)) dX8_linkRent_23 ?_
      refine lv_topi (fun z2027 e2028 => ?_)
      refine lv_goto (tgt := 28) hx hb dX8_linkRent_24 (by decide) ?_
      have hP9 : va_P (dC, dI) classes (wX g c v F rc) H := hP
      exact W.iret (v := z2027) hx hb hr (fun t ht hW => ⟨⟨z2027, (), rfl, trivial, (by show va_P _ _ _ t.heap; rw [ht]; exact hP9)⟩, hS.F ht⟩) hS.2.2 dX8_linkRent_28
set_option maxHeartbeats 8000000 in
set_option maxRecDepth 100000 in
theorem c_X11_isPlace (l : Launch) (dC : Nat → ClassId) (dI : Nat → Nat → Nat) (g : Nat → Nat) (c : Nat → ClassId) (adK adV : Nat → Nat) (v : Nat → Int32) (F : Nat → Nat → Int32) (rc sz : Nat) (p0 : Int32) (hg : injX g) (hI : IX v F) : Met l yX11_isPlace (Cond.code yX11_isPlace cX11_isPlace 2 (some .boolean) :: wA) ({ frames := 2, cells := 0, slots := 0, locals := 80 }) (va_Pc [.ref (g 0), .int p0] (PX dC dI g c adK adV v F rc sz)) (va_Qi (fun (r : Int32) (u : Unit) => 0 ≤ r.toInt ∧ r.toInt ≤ 1) (fun (_ : Unit) => BX dC dI g c (v, F, rc)) (AX g sz)) 0 0 (AX g sz) := by
  refine Met.ofW (cc := cX11_isPlace) (maxL := 2) (ret := (some .boolean)) (by decide) rfl ?_
  intro p e s m args below meth c0 s₁ B hml hv
  obtain ⟨rfl, hsz, hP, hK, hE⟩ := hv
  have hx := B.exec
  have hb := B.bytes
  have hr := B.returns
  have hts := atoms_spec (ws := Cond.code yX11_isPlace cX11_isPlace 2 (some .boolean) :: wA) B.pre
  have hwd : ∀ w ∈ wA, w.before _ s = true := fun w h => hts w (List.mem_cons_of_mem _ h)
  have hown : s.vm.findClass RX11 = some m.cls := findClass_of_methodNamed B.named
  have hlocks := B.notSynchronized
  subst hsz
  have hl := lv_entry ([.ref (g 0), .int p0]) (n := 2) (Nat.le_of_ble_eq_true rfl)
  rw [lg_entry_eq]
  generalize (lg_sl ([.ref (g 0), .int p0]) ++ List.replicate (2 - (lg_sl ([.ref (g 0), .int p0])).length) Slot.unset).toArray = ls at hl ⊢
  have hl : lv_has ls 2 [(0, .ref (g 0)), (1, .int p0)] := hl
  obtain ⟨H, eH⟩ : ∃ z, z = s.heap := ⟨_, rfl⟩
  have hP : va_P (dC, dI) classes (wX g c v F rc) H := by rw [eH]; exact hP
  have hS : va_S (AX g s.heap.size) s.heap H [] := by rw [eH]; exact va_S.rf
  refine my_heap eH ?_
  have rp0 := i32_rng p0
  refine lv_aload_n hx hb dX11_isPlace_0 rfl (lv_at hl 0 rfl) ?_
  refine va_get (D := (dC, dI)) (ci := 11) (v := .ref (g 2)) (C := RX11) (T := TX11) (N := 14) hx hb hwd inA_X11 hown hK hP 0 rfl rfl 1 (by decide) (hwd _ wk_19) (fun _ h9 => h9) rfl dX11_isPlace_1 ?_
  refine lv_iload_n hx hb dX11_isPlace_4 rfl (lv_at hl 1 rfl) ?_
  refine va_calli (va_runV (As := [.int p0]) (rest := []) ⟨hx, hb, hml, hown, hwd⟩ (c_X8_has l dC dI g c adK adV v F rc H.size p0 hg hI ) (cwV 1 hwd (gV wk_276 wk_273 wk_274 wk_275 wk_18) rfl rfl rfl (by decide +kernel) ⟨Nat.le_of_ble_eq_true rfl, Nat.le_of_ble_eq_true rfl⟩) ⟨PX.blind, va_recv hK hP (ci := 8) (q0 := 2) rfl rfl, fun U hU hW => ⟨rfl, PX.at hK hE hP hS hU hW⟩⟩ rfl rfl hl.1 rfl (lv_room (Nat.le_of_ble_eq_true rfl)) dX11_isPlace_5 ⟨Nat.le_of_ble_eq_true rfl, Nat.le_of_ble_eq_true rfl⟩) hS (fun q _ h => (freeX hS) q h) (freeX hS) (fun r2029 u t H1 locs ht hvm hw hB hz1 hk1 hS => ?_)
  unfold BX at hB
  rw [ht] at hB
  have hP : va_P (dC, dI) classes (wX g c v F rc) H1 := hB
  have hw : (0 ≤ r2029.toInt ∧ r2029.toInt ≤ 1) ∧ (r2029.toInt = 1 → 0 ≤ p0.toInt ∧ p0.toInt < 10) := hw
  generalize H1 = H at hP hS ⊢
  have hw_r2029 := hw
  refine lv_if_ne (tgt := 23) hx hb dX11_isPlace_8 (by decide) (fun c2030 => ?_) (fun c2030 => ?_)
  · skip
    have t2031 := cv_ne (a := r2029.toInt) rfl (b := 0) (by decide) c2030
    refine lv_iconst (v := 1) hx hb dX11_isPlace_23 (by decide) ?_
    refine lv_goto (tgt := 28) hx hb dX11_isPlace_24 (by decide) ?_
    have hP9 : va_P (dC, dI) classes (wX g c v F rc) H := hP
    exact W.zret (v := 1) hx hb hr (rfl) (fun t ht hW => ⟨⟨1, (), rfl, by have : (1 : Int32).toInt = 1 := (by decide); omega, (by show va_P _ _ _ t.heap; rw [ht]; exact hP9)⟩, hS.F ht⟩) hS.2.2 dX11_isPlace_28
  · skip
    have t2032 := cv_eq (a := r2029.toInt) rfl (b := 0) (by decide) c2030
    refine lv_iload_n hx hb dX11_isPlace_11 rfl (lv_at hl 1 rfl) ?_
    refine lv_bipush (v := 10) hx hb dX11_isPlace_12 (by decide) ?_
    refine lv_icmp_eq (tgt := 23) hx hb dX11_isPlace_14 (by decide) (fun c2033 => ?_) (fun c2033 => ?_)
    · skip
      have t2034 := cv_eq (a := p0.toInt) rfl (b := 10) (by decide) c2033
      refine lv_iconst (v := 1) hx hb dX11_isPlace_23 (by decide) ?_
      refine lv_goto (tgt := 28) hx hb dX11_isPlace_24 (by decide) ?_
      have hP9 : va_P (dC, dI) classes (wX g c v F rc) H := hP
      exact W.zret (v := 1) hx hb hr (rfl) (fun t ht hW => ⟨⟨1, (), rfl, by have : (1 : Int32).toInt = 1 := (by decide); omega, (by show va_P _ _ _ t.heap; rw [ht]; exact hP9)⟩, hS.F ht⟩) hS.2.2 dX11_isPlace_28
    · skip
      have t2035 := cv_ne (a := p0.toInt) rfl (b := 10) (by decide) c2033
      refine lv_iload_n hx hb dX11_isPlace_17 rfl (lv_at hl 1 rfl) ?_
      refine lv_bipush (v := 11) hx hb dX11_isPlace_18 (by decide) ?_
      refine lv_icmp_ne (tgt := 27) hx hb dX11_isPlace_20 (by decide) (fun c2036 => ?_) (fun c2036 => ?_)
      · skip
        have t2037 := cv_ne (a := p0.toInt) rfl (b := 11) (by decide) c2036
        refine lv_iconst (v := 0) hx hb dX11_isPlace_27 (by decide) ?_
        have hP9 : va_P (dC, dI) classes (wX g c v F rc) H := hP
        exact W.zret (v := 0) hx hb hr (rfl) (fun t ht hW => ⟨⟨0, (), rfl, by have : (0 : Int32).toInt = 0 := (by decide); omega, (by show va_P _ _ _ t.heap; rw [ht]; exact hP9)⟩, hS.F ht⟩) hS.2.2 dX11_isPlace_28
      · skip
        have t2038 := cv_eq (a := p0.toInt) rfl (b := 11) (by decide) c2036
        refine lv_iconst (v := 1) hx hb dX11_isPlace_23 (by decide) ?_
        refine lv_goto (tgt := 28) hx hb dX11_isPlace_24 (by decide) ?_
        have hP9 : va_P (dC, dI) classes (wX g c v F rc) H := hP
        exact W.zret (v := 1) hx hb hr (rfl) (fun t ht hW => ⟨⟨1, (), rfl, by have : (1 : Int32).toInt = 1 := (by decide); omega, (by show va_P _ _ _ t.heap; rw [ht]; exact hP9)⟩, hS.F ht⟩) hS.2.2 dX11_isPlace_28
set_option maxHeartbeats 8000000 in
set_option maxRecDepth 100000 in
theorem c_X11_takes (l : Launch) (dC : Nat → ClassId) (dI : Nat → Nat → Nat) (g : Nat → Nat) (c : Nat → ClassId) (adK adV : Nat → Nat) (v : Nat → Int32) (F : Nat → Nat → Int32) (rc sz : Nat) (p0 : Int32) (p1 : Int32) (hg : injX g) (hI : IX v F) (h1 : 0 ≤ p1.toInt ∧ p1.toInt ≤ 9) : Met l yX11_takes (Cond.code yX11_takes cX11_takes 3 (some .boolean) :: wA) ({ frames := 2, cells := 0, slots := 0, locals := 80 }) (va_Pc [.ref (g 0), .int p0, .int p1] (PX dC dI g c adK adV v F rc sz)) (va_Qi (fun (r : Int32) (u : Unit) => 0 ≤ r.toInt ∧ r.toInt ≤ 1) (fun (_ : Unit) => BX dC dI g c (v, F, rc)) (AX g sz)) 0 0 (AX g sz) := by
  refine Met.ofW (cc := cX11_takes) (maxL := 3) (ret := (some .boolean)) (by decide) rfl ?_
  intro p e s m args below meth c0 s₁ B hml hv
  obtain ⟨rfl, hsz, hP, hK, hE⟩ := hv
  have hx := B.exec
  have hb := B.bytes
  have hr := B.returns
  have hts := atoms_spec (ws := Cond.code yX11_takes cX11_takes 3 (some .boolean) :: wA) B.pre
  have hwd : ∀ w ∈ wA, w.before _ s = true := fun w h => hts w (List.mem_cons_of_mem _ h)
  have hown : s.vm.findClass RX11 = some m.cls := findClass_of_methodNamed B.named
  have hlocks := B.notSynchronized
  subst hsz
  have hl := lv_entry ([.ref (g 0), .int p0, .int p1]) (n := 3) (Nat.le_of_ble_eq_true rfl)
  rw [lg_entry_eq]
  generalize (lg_sl ([.ref (g 0), .int p0, .int p1]) ++ List.replicate (3 - (lg_sl ([.ref (g 0), .int p0, .int p1])).length) Slot.unset).toArray = ls at hl ⊢
  have hl : lv_has ls 3 [(0, .ref (g 0)), (1, .int p0), (2, .int p1)] := hl
  obtain ⟨H, eH⟩ : ∃ z, z = s.heap := ⟨_, rfl⟩
  have hP : va_P (dC, dI) classes (wX g c v F rc) H := by rw [eH]; exact hP
  have hS : va_S (AX g s.heap.size) s.heap H [] := by rw [eH]; exact va_S.rf
  refine my_heap eH ?_
  have rp0 := i32_rng p0
  have rp1 := i32_rng p1
  refine lv_aload_n hx hb dX11_takes_0 rfl (lv_at hl 0 rfl) ?_
  refine va_get (D := (dC, dI)) (ci := 11) (v := .ref (g 2)) (C := RX11) (T := TX11) (N := 14) hx hb hwd inA_X11 hown hK hP 0 rfl rfl 1 (by decide) (hwd _ wk_19) (fun _ h9 => h9) rfl dX11_takes_1 ?_
  refine lv_iload_n hx hb dX11_takes_4 rfl (lv_at hl 1 rfl) ?_
  refine va_calli (va_runV (As := [.int p0]) (rest := []) ⟨hx, hb, hml, hown, hwd⟩ (c_X8_has l dC dI g c adK adV v F rc H.size p0 hg hI ) (cwV 1 hwd (gV wk_276 wk_273 wk_274 wk_275 wk_18) rfl rfl rfl (by decide +kernel) ⟨Nat.le_of_ble_eq_true rfl, Nat.le_of_ble_eq_true rfl⟩) ⟨PX.blind, va_recv hK hP (ci := 8) (q0 := 2) rfl rfl, fun U hU hW => ⟨rfl, PX.at hK hE hP hS hU hW⟩⟩ rfl rfl hl.1 rfl (lv_room (Nat.le_of_ble_eq_true rfl)) dX11_takes_5 ⟨Nat.le_of_ble_eq_true rfl, Nat.le_of_ble_eq_true rfl⟩) hS (fun q _ h => (freeX hS) q h) (freeX hS) (fun r2039 u t H1 locs ht hvm hw hB hz1 hk1 hS => ?_)
  unfold BX at hB
  rw [ht] at hB
  have hP : va_P (dC, dI) classes (wX g c v F rc) H1 := hB
  have hw : (0 ≤ r2039.toInt ∧ r2039.toInt ≤ 1) ∧ (r2039.toInt = 1 → 0 ≤ p0.toInt ∧ p0.toInt < 10) := hw
  generalize H1 = H at hP hS ⊢
  have hw_r2039 := hw
  refine lv_if_ne (tgt := 13) hx hb dX11_takes_8 (by decide) (fun c2040 => ?_) (fun c2040 => ?_)
  · skip
    have t2041 := cv_ne (a := r2039.toInt) rfl (b := 0) (by decide) c2040
    refine lv_aload_n hx hb dX11_takes_13 rfl (lv_at hl 0 rfl) ?_
    refine va_get (D := (dC, dI)) (ci := 11) (v := .ref (g 2)) (C := RX11) (T := TX11) (N := 14) hx hb hwd inA_X11 hown hK hP 0 rfl rfl 1 (by decide) (hwd _ wk_19) (fun _ h9 => h9) rfl dX11_takes_14 ?_
    refine lv_iload_n hx hb dX11_takes_17 rfl (lv_at hl 1 rfl) ?_
    refine va_calli (va_runV (As := [.int p0]) (rest := []) ⟨hx, hb, hml, hown, hwd⟩ (c_X8_isBack l dC dI g c adK adV v F rc H.size p0 hg hI (by omega)) (cwV 1 hwd (gV wk_284 wk_281 wk_282 wk_283 wk_18) rfl rfl rfl (by decide +kernel) ⟨Nat.le_of_ble_eq_true rfl, Nat.le_of_ble_eq_true rfl⟩) ⟨PX.blind, va_recv hK hP (ci := 8) (q0 := 2) rfl rfl, fun U hU hW => ⟨rfl, PX.at hK hE hP hS hU hW⟩⟩ rfl rfl hl.1 rfl (lv_room (Nat.le_of_ble_eq_true rfl)) dX11_takes_18 ⟨Nat.le_of_ble_eq_true rfl, Nat.le_of_ble_eq_true rfl⟩) hS (fun q _ h => (freeX hS) q h) (freeX hS) (fun r2042 u t H1 locs ht hvm hw hB hz1 hk1 hS => ?_)
    unfold BX at hB
    rw [ht] at hB
    have hP : va_P (dC, dI) classes (wX g c v F rc) H1 := hB
    have hw : 0 ≤ r2042.toInt ∧ r2042.toInt ≤ 1 := hw
    generalize H1 = H at hP hS ⊢
    have hw_r2042 := hw
    refine lv_if_ne (tgt := 49) hx hb dX11_takes_21 (by decide) (fun c2043 => ?_) (fun c2043 => ?_)
    · skip
      have t2044 := cv_ne (a := r2042.toInt) rfl (b := 0) (by decide) c2043
      refine lv_iconst (v := 0) hx hb dX11_takes_49 (by decide) ?_
      have hP9 : va_P (dC, dI) classes (wX g c v F rc) H := hP
      exact W.zret (v := 0) hx hb hr (rfl) (fun t ht hW => ⟨⟨0, (), rfl, by have : (0 : Int32).toInt = 0 := (by decide); omega, (by show va_P _ _ _ t.heap; rw [ht]; exact hP9)⟩, hS.F ht⟩) hS.2.2 dX11_takes_50
    · skip
      have t2045 := cv_eq (a := r2042.toInt) rfl (b := 0) (by decide) c2043
      refine lv_aload_n hx hb dX11_takes_24 rfl (lv_at hl 0 rfl) ?_
      refine va_get (D := (dC, dI)) (ci := 11) (v := .ref (g 3)) (C := RX11) (T := TX11) (N := 14) hx hb hwd inA_X11 hown hK hP 0 rfl rfl 2 (by decide) (hwd _ wk_27) (fun _ h9 => h9) rfl dX11_takes_25 ?_
      refine lv_iload_n hx hb dX11_takes_28 rfl (lv_at hl 2 rfl) ?_
      refine lv_iload_n hx hb dX11_takes_29 rfl (lv_at hl 1 rfl) ?_
      refine va_calli (va_runV (As := [.int p1, .int p0]) (rest := []) ⟨hx, hb, hml, hown, hwd⟩ (c_X7_ofKindAt l dC dI g c adK adV v F rc H.size p1 p0 hg hI ) (cwV 2 hwd (gV wk_288 wk_285 wk_286 wk_287 wk_26) rfl rfl rfl (by decide +kernel) ⟨Nat.le_of_ble_eq_true rfl, Nat.le_of_ble_eq_true rfl⟩) ⟨PX.blind, va_recv hK hP (ci := 7) (q0 := 3) rfl rfl, fun U hU hW => ⟨rfl, PX.at hK hE hP hS hU hW⟩⟩ rfl rfl hl.1 rfl (lv_room (Nat.le_of_ble_eq_true rfl)) dX11_takes_30 ⟨Nat.le_of_ble_eq_true rfl, Nat.le_of_ble_eq_true rfl⟩) hS (fun q _ h => (freeX hS) q h) (freeX hS) (fun r2046 u t H1 locs ht hvm hw hB hz1 hk1 hS => ?_)
      unfold BX at hB
      rw [ht] at hB
      have hP : va_P (dC, dI) classes (wX g c v F rc) H1 := hB
      generalize H1 = H at hP hS ⊢
      have rr_r2046 := i32_rng r2046
      refine lv_aload_n hx hb dX11_takes_33 rfl (lv_at hl 0 rfl) ?_
      refine va_get (D := (dC, dI)) (ci := 11) (v := .ref (g 2)) (C := RX11) (T := TX11) (N := 14) hx hb hwd inA_X11 hown hK hP 0 rfl rfl 1 (by decide) (hwd _ wk_19) (fun _ h9 => h9) rfl dX11_takes_34 ?_
      refine lv_iload_n hx hb dX11_takes_37 rfl (lv_at hl 1 rfl) ?_
      refine lv_iload_n hx hb dX11_takes_38 rfl (lv_at hl 2 rfl) ?_
      refine va_calli (va_runV (As := [.int p0, .int p1]) (rest := [.int r2046]) ⟨hx, hb, hml, hown, hwd⟩ (c_X8_needOf l dC dI g c adK adV v F rc H.size p0 p1 hg hI (by omega) (by omega)) (cwV 2 hwd (gV wk_297 wk_614 wk_295 wk_296 wk_18) rfl rfl rfl (by decide +kernel) ⟨Nat.le_of_ble_eq_true rfl, Nat.le_of_ble_eq_true rfl⟩) ⟨PX.blind, va_recv hK hP (ci := 8) (q0 := 2) rfl rfl, fun U hU hW => ⟨rfl, PX.at hK hE hP hS hU hW⟩⟩ rfl rfl hl.1 rfl (lv_room (Nat.le_of_ble_eq_true rfl)) dX11_takes_39 ⟨Nat.le_of_ble_eq_true rfl, Nat.le_of_ble_eq_true rfl⟩) hS (fun q _ h => (freeX hS) q h) (freeX hS) (fun r2047 u t H1 locs ht hvm hw hB hz1 hk1 hS => ?_)
      unfold BX at hB
      rw [ht] at hB
      have hP : va_P (dC, dI) classes (wX g c v F rc) H1 := hB
      generalize H1 = H at hP hS ⊢
      have rr_r2047 := i32_rng r2047
      refine lv_icmp_ge (tgt := 49) hx hb dX11_takes_42 (by decide) (fun c2048 => ?_) (fun c2048 => ?_)
      · skip
        have t2049 := cv_le (a := r2047.toInt) rfl (b := r2046.toInt) rfl c2048
        refine lv_iconst (v := 0) hx hb dX11_takes_49 (by decide) ?_
        have hP9 : va_P (dC, dI) classes (wX g c v F rc) H := hP
        exact W.zret (v := 0) hx hb hr (rfl) (fun t ht hW => ⟨⟨0, (), rfl, by have : (0 : Int32).toInt = 0 := (by decide); omega, (by show va_P _ _ _ t.heap; rw [ht]; exact hP9)⟩, hS.F ht⟩) hS.2.2 dX11_takes_50
      · skip
        have t2050 := cv_nle (a := r2047.toInt) rfl (b := r2046.toInt) rfl c2048
        refine lv_iconst (v := 1) hx hb dX11_takes_45 (by decide) ?_
        refine lv_goto (tgt := 50) hx hb dX11_takes_46 (by decide) ?_
        have hP9 : va_P (dC, dI) classes (wX g c v F rc) H := hP
        exact W.zret (v := 1) hx hb hr (rfl) (fun t ht hW => ⟨⟨1, (), rfl, by have : (1 : Int32).toInt = 1 := (by decide); omega, (by show va_P _ _ _ t.heap; rw [ht]; exact hP9)⟩, hS.F ht⟩) hS.2.2 dX11_takes_50
  · skip
    have t2051 := cv_eq (a := r2039.toInt) rfl (b := 0) (by decide) c2040
    refine lv_iconst (v := 1) hx hb dX11_takes_11 (by decide) ?_
    have hP9 : va_P (dC, dI) classes (wX g c v F rc) H := hP
    exact W.zret (v := 1) hx hb hr (rfl) (fun t ht hW => ⟨⟨1, (), rfl, by have : (1 : Int32).toInt = 1 := (by decide); omega, (by show va_P _ _ _ t.heap; rw [ht]; exact hP9)⟩, hS.F ht⟩) hS.2.2 dX11_takes_12
set_option maxHeartbeats 8000000 in
set_option maxRecDepth 100000 in
theorem c_X11_stayAt (l : Launch) (dC : Nat → ClassId) (dI : Nat → Nat → Nat) (g : Nat → Nat) (c : Nat → ClassId) (adK adV : Nat → Nat) (v : Nat → Int32) (F : Nat → Nat → Int32) (rc sz : Nat) (p0 : Int32) (p1 : Int32) (hg : injX g) (hI : IX v F) : Met l yX11_stayAt (Cond.code yX11_stayAt cX11_stayAt 3 (some .int) :: wA) ({ frames := 2, cells := 0, slots := 0, locals := 80 }) (va_Pc [.ref (g 0), .int p0, .int p1] (PX dC dI g c adK adV v F rc sz)) (va_Qi (fun (r : Int32) (u : Unit) => (-1 ≤ r.toInt ∧ r.toInt ≤ 499) ∧ (r.toInt = -1 ∨ (0 ≤ p0.toInt ∧ p0.toInt ≤ 99))) (fun (_ : Unit) => BX dC dI g c (v, F, rc)) (AX g sz)) 0 0 (AX g sz) := by
  refine Met.ofW (cc := cX11_stayAt) (maxL := 3) (ret := (some .int)) (by decide) rfl ?_
  intro p e s m args below meth c0 s₁ B hml hv
  obtain ⟨rfl, hsz, hP, hK, hE⟩ := hv
  have hx := B.exec
  have hb := B.bytes
  have hr := B.returns
  have hts := atoms_spec (ws := Cond.code yX11_stayAt cX11_stayAt 3 (some .int) :: wA) B.pre
  have hwd : ∀ w ∈ wA, w.before _ s = true := fun w h => hts w (List.mem_cons_of_mem _ h)
  have hown : s.vm.findClass RX11 = some m.cls := findClass_of_methodNamed B.named
  have hlocks := B.notSynchronized
  subst hsz
  have hl := lv_entry ([.ref (g 0), .int p0, .int p1]) (n := 3) (Nat.le_of_ble_eq_true rfl)
  rw [lg_entry_eq]
  generalize (lg_sl ([.ref (g 0), .int p0, .int p1]) ++ List.replicate (3 - (lg_sl ([.ref (g 0), .int p0, .int p1])).length) Slot.unset).toArray = ls at hl ⊢
  have hl : lv_has ls 3 [(0, .ref (g 0)), (1, .int p0), (2, .int p1)] := hl
  obtain ⟨H, eH⟩ : ∃ z, z = s.heap := ⟨_, rfl⟩
  have hP : va_P (dC, dI) classes (wX g c v F rc) H := by rw [eH]; exact hP
  have hS : va_S (AX g s.heap.size) s.heap H [] := by rw [eH]; exact va_S.rf
  refine my_heap eH ?_
  have rp0 := i32_rng p0
  have rp1 := i32_rng p1
  refine lv_aload_n hx hb dX11_stayAt_0 rfl (lv_at hl 0 rfl) ?_
  refine va_get (D := (dC, dI)) (ci := 11) (v := .ref (g 3)) (C := RX11) (T := TX11) (N := 14) hx hb hwd inA_X11 hown hK hP 0 rfl rfl 2 (by decide) (hwd _ wk_27) (fun _ h9 => h9) rfl dX11_stayAt_1 ?_
  refine lv_iload_n hx hb dX11_stayAt_4 rfl (lv_at hl 1 rfl) ?_
  refine va_calli (va_runV (As := [.int p0]) (rest := []) ⟨hx, hb, hml, hown, hwd⟩ (c_X7_has l dC dI g c adK adV v F rc H.size p0 hg hI ) (cwV 1 hwd (gV wk_605 wk_602 wk_603 wk_604 wk_26) rfl rfl rfl (by decide +kernel) ⟨Nat.le_of_ble_eq_true rfl, Nat.le_of_ble_eq_true rfl⟩) ⟨PX.blind, va_recv hK hP (ci := 7) (q0 := 3) rfl rfl, fun U hU hW => ⟨rfl, PX.at hK hE hP hS hU hW⟩⟩ rfl rfl hl.1 rfl (lv_room (Nat.le_of_ble_eq_true rfl)) dX11_stayAt_5 ⟨Nat.le_of_ble_eq_true rfl, Nat.le_of_ble_eq_true rfl⟩) hS (fun q _ h => (freeX hS) q h) (freeX hS) (fun r2052 u t H1 locs ht hvm hw hB hz1 hk1 hS => ?_)
  unfold BX at hB
  rw [ht] at hB
  have hP : va_P (dC, dI) classes (wX g c v F rc) H1 := hB
  have hw : (0 ≤ r2052.toInt ∧ r2052.toInt ≤ 1) ∧ (r2052.toInt = 1 → 0 ≤ p0.toInt ∧ p0.toInt < 100) := hw
  generalize H1 = H at hP hS ⊢
  have hw_r2052 := hw
  refine lv_if_eq (tgt := 23) hx hb dX11_stayAt_8 (by decide) (fun c2053 => ?_) (fun c2053 => ?_)
  · skip
    have t2054 := cv_eq (a := r2052.toInt) rfl (b := 0) (by decide) c2053
    refine lv_iconst (v := (-1)) hx hb dX11_stayAt_23 (by decide) ?_
    have hP9 : va_P (dC, dI) classes (wX g c v F rc) H := hP
    exact W.iret (v := (-1)) hx hb hr (fun t ht hW => ⟨⟨(-1), (), rfl, by have : ((-1) : Int32).toInt = (-1) := (by decide); omega, (by show va_P _ _ _ t.heap; rw [ht]; exact hP9)⟩, hS.F ht⟩) hS.2.2 dX11_stayAt_24
  · skip
    have t2055 := cv_ne (a := r2052.toInt) rfl (b := 0) (by decide) c2053
    refine lv_aload_n hx hb dX11_stayAt_11 rfl (lv_at hl 0 rfl) ?_
    refine va_get (D := (dC, dI)) (ci := 11) (v := .ref (g 4)) (C := RX11) (T := TX11) (N := 14) hx hb hwd inA_X11 hown hK hP 0 rfl rfl 3 (by decide) (hwd _ wk_23) (fun _ h9 => h9) rfl dX11_stayAt_12 ?_
    refine lv_iload_n hx hb dX11_stayAt_15 rfl (lv_at hl 1 rfl) ?_
    refine lv_iload_n hx hb dX11_stayAt_16 rfl (lv_at hl 2 rfl) ?_
    refine va_calli (va_runV (As := [.int p0, .int p1]) (rest := []) ⟨hx, hb, hml, hown, hwd⟩ (c_X9_at l dC dI g c adK adV v F rc H.size p0 p1 hg hI (by omega)) (cwV 2 hwd (gV wk_797 wk_794 wk_795 wk_796 wk_22) rfl rfl rfl (by decide +kernel) ⟨Nat.le_of_ble_eq_true rfl, Nat.le_of_ble_eq_true rfl⟩) ⟨PX.blind, va_recv hK hP (ci := 9) (q0 := 4) rfl rfl, fun U hU hW => ⟨rfl, PX.at hK hE hP hS hU hW⟩⟩ rfl rfl hl.1 rfl (lv_room (Nat.le_of_ble_eq_true rfl)) dX11_stayAt_17 ⟨Nat.le_of_ble_eq_true rfl, Nat.le_of_ble_eq_true rfl⟩) hS (fun q _ h => (freeX hS) q h) (freeX hS) (fun r2056 u t H1 locs ht hvm hw hB hz1 hk1 hS => ?_)
    unfold BX at hB
    rw [ht] at hB
    have hP : va_P (dC, dI) classes (wX g c v F rc) H1 := hB
    have hw : -1 ≤ r2056.toInt ∧ r2056.toInt ≤ 499 := hw
    generalize H1 = H at hP hS ⊢
    have hw_r2056 := hw
    refine lv_goto (tgt := 24) hx hb dX11_stayAt_20 (by decide) ?_
    have hP9 : va_P (dC, dI) classes (wX g c v F rc) H := hP
    exact W.iret (v := r2056) hx hb hr (fun t ht hW => ⟨⟨r2056, (), rfl, by omega, (by show va_P _ _ _ t.heap; rw [ht]; exact hP9)⟩, hS.F ht⟩) hS.2.2 dX11_stayAt_24
set_option maxHeartbeats 8000000 in
set_option maxRecDepth 100000 in
theorem c_X11_setReservesAside (l : Launch) (dC : Nat → ClassId) (dI : Nat → Nat → Nat) (g : Nat → Nat) (c : Nat → ClassId) (adK adV : Nat → Nat) (v : Nat → Int32) (F : Nat → Nat → Int32) (rc sz : Nat) (p0 : Int32) (p1 : Int32) (hg : injX g) (hI : IX v F) (h0 : 0 ≤ p0.toInt ∧ p0.toInt ≤ 9) : Met l yX11_setReservesAside (Cond.code yX11_setReservesAside cX11_setReservesAside 4 none :: wA) ({ frames := 4, cells := 0, slots := 0, locals := 160 }) (va_Pc [.ref (g 0), .int p0, .int p1] (PX dC dI g c adK adV v F rc sz)) (va_Qv (fun (u : StX) => IX u.1 u.2.1 ∧ alX u.1 u.2.1 = alX v F ∧ u.2.2 = rc ∧ (∀ k, k ∉ ([] : List Nat) → u.1 k = v k) ∧ True) (BX dC dI g c) (AX g sz)) 0 0 (AX g sz) := by
  refine Met.ofW (cc := cX11_setReservesAside) (maxL := 4) (ret := none) (by decide) rfl ?_
  intro p e s m args below meth c0 s₁ B hml hv
  obtain ⟨rfl, hsz, hP, hK, hE⟩ := hv
  have hx := B.exec
  have hb := B.bytes
  have hr := B.returns
  have hts := atoms_spec (ws := Cond.code yX11_setReservesAside cX11_setReservesAside 4 none :: wA) B.pre
  have hwd : ∀ w ∈ wA, w.before _ s = true := fun w h => hts w (List.mem_cons_of_mem _ h)
  have hown : s.vm.findClass RX11 = some m.cls := findClass_of_methodNamed B.named
  have hlocks := B.notSynchronized
  subst hsz
  have hl := lv_entry ([.ref (g 0), .int p0, .int p1]) (n := 4) (Nat.le_of_ble_eq_true rfl)
  rw [lg_entry_eq]
  generalize (lg_sl ([.ref (g 0), .int p0, .int p1]) ++ List.replicate (4 - (lg_sl ([.ref (g 0), .int p0, .int p1])).length) Slot.unset).toArray = ls at hl ⊢
  have hl : lv_has ls 4 [(0, .ref (g 0)), (1, .int p0), (2, .int p1)] := hl
  obtain ⟨H, eH⟩ : ∃ z, z = s.heap := ⟨_, rfl⟩
  have hP : va_P (dC, dI) classes (wX g c v F rc) H := by rw [eH]; exact hP
  have hS : va_S (AX g s.heap.size) s.heap H [] := by rw [eH]; exact va_S.rf
  refine my_heap eH ?_
  have hal : alX v F = alX v F := rfl
  have rp0 := i32_rng p0
  have rp1 := i32_rng p1
  refine lv_iconst (v := 0) hx hb dX11_setReservesAside_0 (by decide) ?_
  refine lv_istore_n (lv' := [(3, .int 0), (0, .ref (g 0)), (1, .int p0), (2, .int p1)]) hx hb dX11_setReservesAside_1 rfl hl (by decide) rfl (fun ls hl => ?_)
  have lp2057 : ∀ (n : Nat) (x3_lp2057 : Int32) (v_lp2057 : Nat → Int32) (F_lp2057 : Nat → Nat → Int32) (H : Heap) (locs : List Loc) (ls : Array Slot), (0 ≤ x3_lp2057.toInt) → (2147483648 - x3_lp2057.toInt ≤ (n : Int)) → (∀ k, k ∉ ([] : List Nat) → v_lp2057 k = v k) → IX v_lp2057 F_lp2057 → alX v_lp2057 F_lp2057 = alX v F → va_P (dC, dI) classes (wX g c v_lp2057 F_lp2057 rc) H → va_S (AX g s.heap.size) s.heap H locs → lv_has ls 4 [(3, .int x3_lp2057), (0, .ref (g 0)), (1, .int p0), (2, .int p1)] → W p l e (headSpec (Cond.code yX11_setReservesAside cX11_setReservesAside 4 none :: wA) ({ frames := 4, cells := 0, slots := 0, locals := 160 })).room s m ([.ref (g 0), .int p0, .int p1] : List Value).toArray below meth c0 H locs 0 0 (MQ below (va_Qv (fun (u : StX) => IX u.1 u.2.1 ∧ alX u.1 u.2.1 = alX v F ∧ u.2.2 = rc ∧ (∀ k, k ∉ ([] : List Nat) → u.1 k = v k) ∧ True) (BX dC dI g c) (AX g s.heap.size)) ([.ref (g 0), .int p0, .int p1] : List Value).toArray s 0 0 (AX g s.heap.size)) (F0 m 2 ls []) := by
    intro n
    induction n with
    | zero =>
      intro x3_lp2057 v_lp2057 F_lp2057 H locs ls t2058 hm hf_lp2057 hI hal hP hS hl
      exfalso
      have := i32_rng x3_lp2057
      have hI1 := hI.1
      omega
    | succ n ih_lp2057 =>
      intro x3_lp2057 v_lp2057 F_lp2057 H locs ls t2058 hm hf_lp2057 hI hal hP hS hl
      have rx3_lp2057 := i32_rng x3_lp2057
      refine lv_iload_n hx hb dX11_setReservesAside_2 rfl (lv_at hl 0 rfl) ?_
      refine lv_aload_n hx hb dX11_setReservesAside_3 rfl (lv_at hl 1 rfl) ?_
      refine va_get (D := (dC, dI)) (ci := 11) (v := .ref (g 1)) (C := RX11) (T := TX11) (N := 14) hx hb hwd inA_X11 hown hK hP 0 rfl rfl 0 (by decide) (hwd _ wk_15) (fun _ h9 => h9) rfl dX11_setReservesAside_4 ?_
      refine va_get (D := (dC, dI)) (ci := 2) (v := .int (v_lp2057 20)) (C := RX2) (T := TX2) (N := 4) hx hb hwd inA_X2 hown hK hP 1 rfl rfl 0 (by decide) (hwd _ wk_457) (fun _ h9 => h9) rfl dX11_setReservesAside_7 ?_
      refine my_top (v := v 20) (hf_lp2057 20 (by decide)) ?_
      have t2059 : 0 ≤ (v 20).toInt ∧ (v 20).toInt ≤ 10 := by have h9 := hI.1 20 _ _ rfl; rw [show v_lp2057 20 = v 20 from hf_lp2057 20 (by decide)] at h9; exact h9
      refine lv_icmp_ge (tgt := 52) hx hb dX11_setReservesAside_10 (by decide) (fun c2060 => ?_) (fun c2060 => ?_)
      · skip
        have t2061 := cv_le (a := (v 20).toInt) rfl (b := x3_lp2057.toInt) rfl c2060
        have hP9 : va_P (dC, dI) classes (wX g c v_lp2057 F_lp2057 rc) H := hP
        exact W.vret hx hb hr (fun t ht hW => ⟨⟨(v_lp2057, F_lp2057, rc), rfl, ⟨hI, hal, rfl, (frC (by decide) hf_lp2057 (fun _ _ => rfl)), trivial⟩, (by show va_P _ _ _ t.heap; rw [ht]; exact hP9)⟩, hS.F ht⟩) hS.2.2 dX11_setReservesAside_52
      · skip
        have t2062 := cv_nle (a := (v 20).toInt) rfl (b := x3_lp2057.toInt) rfl c2060
        refine lv_aload_n hx hb dX11_setReservesAside_13 rfl (lv_at hl 1 rfl) ?_
        refine va_get (D := (dC, dI)) (ci := 11) (v := .ref (g 2)) (C := RX11) (T := TX11) (N := 14) hx hb hwd inA_X11 hown hK hP 0 rfl rfl 1 (by decide) (hwd _ wk_19) (fun _ h9 => h9) rfl dX11_setReservesAside_14 ?_
        refine lv_iload_n hx hb dX11_setReservesAside_17 rfl (lv_at hl 2 rfl) ?_
        refine lv_iload_n hx hb dX11_setReservesAside_18 rfl (lv_at hl 0 rfl) ?_
        refine lv_iload_n hx hb dX11_setReservesAside_19 rfl (lv_at hl 3 rfl) ?_
        refine lv_i2l hx hb dX11_setReservesAside_20 rfl ?_
        refine lv_topl (fun z2063 e2064 => ?_)
        refine lv_aload_n hx hb dX11_setReservesAside_21 rfl (lv_at hl 1 rfl) ?_
        refine va_get (D := (dC, dI)) (ci := 11) (v := .ref (g 1)) (C := RX11) (T := TX11) (N := 14) hx hb hwd inA_X11 hown hK hP 0 rfl rfl 0 (by decide) (hwd _ wk_15) (fun _ h9 => h9) rfl dX11_setReservesAside_22 ?_
        refine va_get (D := (dC, dI)) (ci := 2) (v := .ref (g 14)) (C := RX2) (T := TX2) (N := 4) hx hb hwd inA_X2 hown hK hP 1 rfl rfl 3 (by decide) (hwd _ wk_458) (fun _ h9 => h9) rfl dX11_setReservesAside_25 ?_
        refine lv_iload_n hx hb dX11_setReservesAside_28 rfl (lv_at hl 0 rfl) ?_
        refine va_iald hx hb hK hP 14 2 rfl rfl (i := x3_lp2057) (vin (a := x3_lp2057.toInt) rfl (by omega)) dX11_setReservesAside_29 ?_
        refine lv_topi (fun z2065 e2066 => ?_)
        refine lv_i2l hx hb dX11_setReservesAside_30 rfl ?_
        refine lv_topl (fun z2067 e2068 => ?_)
        refine lv_lmul hx hb dX11_setReservesAside_31 ?_
        refine lv_topl (fun z2069 e2070 => ?_)
        refine lv_aload_n hx hb dX11_setReservesAside_32 rfl (lv_at hl 1 rfl) ?_
        refine va_get (D := (dC, dI)) (ci := 11) (v := .ref (g 3)) (C := RX11) (T := TX11) (N := 14) hx hb hwd inA_X11 hown hK hP 0 rfl rfl 2 (by decide) (hwd _ wk_27) (fun _ h9 => h9) rfl dX11_setReservesAside_33 ?_
        refine lv_iload_n hx hb dX11_setReservesAside_36 rfl (lv_at hl 0 rfl) ?_
        refine lv_iload_n hx hb dX11_setReservesAside_37 rfl (lv_at hl 2 rfl) ?_
        refine va_calli (va_runV (As := [.int x3_lp2057, .int p0]) (rest := [.long z2069, .int x3_lp2057, .int p0, .ref (g 2)]) ⟨hx, hb, hml, hown, hwd⟩ (c_X7_ofKindAt l dC dI g c adK adV v_lp2057 F_lp2057 rc H.size x3_lp2057 p0 hg hI ) (cwV 2 hwd (gV wk_288 wk_285 wk_286 wk_287 wk_26) rfl rfl rfl (by decide +kernel) ⟨Nat.le_of_ble_eq_true rfl, Nat.le_of_ble_eq_true rfl⟩) ⟨PX.blind, va_recv hK hP (ci := 7) (q0 := 3) rfl rfl, fun U hU hW => ⟨rfl, PX.at hK hE hP hS hU hW⟩⟩ rfl rfl hl.1 rfl (lv_room (Nat.le_of_ble_eq_true rfl)) dX11_setReservesAside_38 ⟨Nat.le_of_ble_eq_true rfl, Nat.le_of_ble_eq_true rfl⟩) hS (fun q _ h => (freeX hS) q h) (freeX hS) (fun r2071 u t H1 locs ht hvm hw hB hz1 hk1 hS => ?_)
        unfold BX at hB
        rw [ht] at hB
        have hP : va_P (dC, dI) classes (wX g c v_lp2057 F_lp2057 rc) H1 := hB
        generalize H1 = H at hP hS ⊢
        have rr_r2071 := i32_rng r2071
        refine lv_i2l hx hb dX11_setReservesAside_41 rfl ?_
        refine lv_topl (fun z2072 e2073 => ?_)
        refine lv_lmul hx hb dX11_setReservesAside_42 ?_
        refine lv_topl (fun z2074 e2075 => ?_)
        refine va_callv (va_runV (As := [.int p0, .int x3_lp2057, .long z2074]) (rest := []) ⟨hx, hb, hml, hown, hwd⟩ (c_X8_save l dC dI g c adK adV v_lp2057 F_lp2057 rc H.size p0 x3_lp2057 z2074 hg hI (by omega) (by omega)) (cwV 3 hwd (gV wk_462 wk_459 wk_460 wk_461 wk_18) rfl rfl rfl (by decide +kernel) ⟨Nat.le_of_ble_eq_true rfl, Nat.le_of_ble_eq_true rfl⟩) ⟨PX.blind, va_recv hK hP (ci := 8) (q0 := 2) rfl rfl, fun U hU hW => ⟨rfl, PX.at hK hE hP hS hU hW⟩⟩ rfl rfl hl.1 rfl (lv_room (Nat.le_of_ble_eq_true rfl)) dX11_setReservesAside_43 ⟨Nat.le_of_ble_eq_true rfl, Nat.le_of_ble_eq_true rfl⟩) hS (fun q _ h => (freeX hS) q h) (freeX hS) (fun u t H1 locs ht hvm hw hB hz1 hk1 hS => ?_)
        unfold BX at hB
        rw [ht] at hB
        obtain ⟨v2077, F2078, rc9⟩ := u
        obtain ⟨hI, hal9, hrc, hf2079, hw⟩ := hw
        dsimp only at hI hal9 hrc hB hf2079 hw
        rw [hrc] at hB
        have hal := hal9.trans hal
        have hP : va_P (dC, dI) classes (wX g c v2077 F2078 rc) H1 := hB
        generalize H1 = H at hP hS ⊢
        obtain ⟨z2080, e2081⟩ : ∃ y : Int32, y = x3_lp2057 + 1 := ⟨_, rfl⟩
        try (have t2082 := tadd e2081 rfl (b := 1) (by decide) (by omega))
        refine lv_iinc (v := z2080) (lv' := [(3, .int z2080), (0, .ref (g 0)), (1, .int p0), (2, .int p1)]) hx hb dX11_setReservesAside_46 hl (k := 0) rfl (by rw [e2081]; rfl) (by decide) rfl (fun ls hl => ?_)
        refine lv_goto (tgt := 2) hx hb dX11_setReservesAside_49 (by decide) ?_
        exact ih_lp2057 z2080 v2077 F2078 _ _ _ (by omega) (by omega) (frC (by decide) hf2079 hf_lp2057) hI hal hP hS (lv_sub hl [0, 1, 2, 3] rfl)
  obtain ⟨n9, hn9⟩ : ∃ n : Nat, 2147483648 - 0 ≤ (n : Int) := ⟨((2147483648 - 0 : Int)).toNat, by omega⟩
  exact lp2057 n9 0 v F H _ ls (by have : (0 : Int32).toInt = 0 := (by decide); omega) (by have : (0 : Int32).toInt = 0 := (by decide); omega) (fun _ _ => rfl) hI hal hP hS hl
