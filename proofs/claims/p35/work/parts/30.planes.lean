set_option maxHeartbeats 8000000 in
set_option maxRecDepth 100000 in
theorem c_X8_isBack (l : Launch) (dC : Nat → ClassId) (dI : Nat → Nat → Nat) (g : Nat → Nat) (c : Nat → ClassId) (adK adV : Nat → Nat) (v : Nat → Int32) (F : Nat → Nat → Int32) (rc sz : Nat) (p0 : Int32) (hg : injX g) (hI : IX v F) (h0 : 0 ≤ p0.toInt ∧ p0.toInt ≤ 9) : Met l yX8_isBack (Cond.code yX8_isBack cX8_isBack 2 (some .boolean) :: wA) ({ frames := 1, cells := 0, slots := 0, locals := 40 }) (va_Pc [.ref (g 2), .int p0] (PX dC dI g c adK adV v F rc sz)) (va_Qi (fun (r : Int32) (u : Unit) => 0 ≤ r.toInt ∧ r.toInt ≤ 1) (fun (_ : Unit) => BX dC dI g c (v, F, rc)) (AX g sz)) 0 0 (AX g sz) := by
  refine Met.ofW (cc := cX8_isBack) (maxL := 2) (ret := (some .boolean)) (by decide) rfl ?_
  intro p e s m args below meth c0 s₁ B hml hv
  obtain ⟨rfl, hsz, hP, hK, hE⟩ := hv
  have hx := B.exec
  have hb := B.bytes
  have hr := B.returns
  have hts := atoms_spec (ws := Cond.code yX8_isBack cX8_isBack 2 (some .boolean) :: wA) B.pre
  have hwd : ∀ w ∈ wA, w.before _ s = true := fun w h => hts w (List.mem_cons_of_mem _ h)
  have hown : s.vm.findClass RX8 = some m.cls := findClass_of_methodNamed B.named
  have hlocks := B.notSynchronized
  subst hsz
  have hl := lv_entry ([.ref (g 2), .int p0]) (n := 2) (Nat.le_of_ble_eq_true rfl)
  rw [lg_entry_eq]
  generalize (lg_sl ([.ref (g 2), .int p0]) ++ List.replicate (2 - (lg_sl ([.ref (g 2), .int p0])).length) Slot.unset).toArray = ls at hl ⊢
  have hl : lv_has ls 2 [(0, .ref (g 2)), (1, .int p0)] := hl
  obtain ⟨H, eH⟩ : ∃ z, z = s.heap := ⟨_, rfl⟩
  have hP : va_P (dC, dI) classes (wX g c v F rc) H := by rw [eH]; exact hP
  have hS : va_S (AX g s.heap.size) s.heap H [] := by rw [eH]; exact va_S.rf
  refine my_heap eH ?_
  have rp0 := i32_rng p0
  refine lv_aload_n hx hb dX8_isBack_0 rfl (lv_at hl 0 rfl) ?_
  refine va_get (D := (dC, dI)) (ci := 8) (v := .ref (g 19)) (C := RX8) (T := TX8) (N := 10) hx hb hwd inA_X8 hown hK hP 2 rfl rfl 5 (by decide) (hwd _ wk_72) (fun _ h9 => h9) rfl dX8_isBack_1 ?_
  refine lv_iload_n hx hb dX8_isBack_4 rfl (lv_at hl 1 rfl) ?_
  refine va_iald hx hb hK hP 19 7 rfl rfl (i := p0) (vin (a := p0.toInt) rfl (by omega)) dX8_isBack_5 ?_
  refine lv_topi (fun z84 e85 => ?_)
  refine lv_if_lt (tgt := 13) hx hb dX8_isBack_6 (by decide) (fun c86 => ?_) (fun c86 => ?_)
  · skip
    have t87 := cv_lt (a := z84.toInt) rfl (b := 0) (by decide) c86
    refine lv_iconst (v := 0) hx hb dX8_isBack_13 (by decide) ?_
    have hP9 : va_P (dC, dI) classes (wX g c v F rc) H := hP
    exact W.zret (v := 0) hx hb hr (rfl) (fun t ht hW => ⟨⟨0, (), rfl, by have : (0 : Int32).toInt = 0 := (by decide); omega, (by show va_P _ _ _ t.heap; rw [ht]; exact hP9)⟩, hS.F ht⟩) hS.2.2 dX8_isBack_14
  · skip
    have t88 := cv_nlt (a := z84.toInt) rfl (b := 0) (by decide) c86
    refine lv_iconst (v := 1) hx hb dX8_isBack_9 (by decide) ?_
    refine lv_goto (tgt := 14) hx hb dX8_isBack_10 (by decide) ?_
    have hP9 : va_P (dC, dI) classes (wX g c v F rc) H := hP
    exact W.zret (v := 1) hx hb hr (rfl) (fun t ht hW => ⟨⟨1, (), rfl, by have : (1 : Int32).toInt = 1 := (by decide); omega, (by show va_P _ _ _ t.heap; rw [ht]; exact hP9)⟩, hS.F ht⟩) hS.2.2 dX8_isBack_14
set_option maxHeartbeats 8000000 in
set_option maxRecDepth 100000 in
theorem c_X8_close (l : Launch) (dC : Nat → ClassId) (dI : Nat → Nat → Nat) (g : Nat → Nat) (c : Nat → ClassId) (adK adV : Nat → Nat) (v : Nat → Int32) (F : Nat → Nat → Int32) (rc sz : Nat) (p0 : Int32) (p1 : Int32) (p2 : Int32) (hg : injX g) (hI : IX v F) (h0 : 0 ≤ p0.toInt ∧ p0.toInt ≤ 9) : Met l yX8_close (Cond.code yX8_close cX8_close 4 none :: wA) ({ frames := 1, cells := 0, slots := 0, locals := 40 }) (va_Pc [.ref (g 2), .int p0, .int p1, .int p2] (PX dC dI g c adK adV v F rc sz)) (va_Qv (fun (u : StX) => IX u.1 u.2.1 ∧ alX u.1 u.2.1 = alX v F ∧ u.2.2 = rc ∧ (∀ k, k ∉ ([] : List Nat) → u.1 k = v k) ∧ True) (BX dC dI g c) (AX g sz)) 0 0 (AX g sz) := by
  refine Met.ofW (cc := cX8_close) (maxL := 4) (ret := none) (by decide) rfl ?_
  intro p e s m args below meth c0 s₁ B hml hv
  obtain ⟨rfl, hsz, hP, hK, hE⟩ := hv
  have hx := B.exec
  have hb := B.bytes
  have hr := B.returns
  have hts := atoms_spec (ws := Cond.code yX8_close cX8_close 4 none :: wA) B.pre
  have hwd : ∀ w ∈ wA, w.before _ s = true := fun w h => hts w (List.mem_cons_of_mem _ h)
  have hown : s.vm.findClass RX8 = some m.cls := findClass_of_methodNamed B.named
  have hlocks := B.notSynchronized
  subst hsz
  have hl := lv_entry ([.ref (g 2), .int p0, .int p1, .int p2]) (n := 4) (Nat.le_of_ble_eq_true rfl)
  rw [lg_entry_eq]
  generalize (lg_sl ([.ref (g 2), .int p0, .int p1, .int p2]) ++ List.replicate (4 - (lg_sl ([.ref (g 2), .int p0, .int p1, .int p2])).length) Slot.unset).toArray = ls at hl ⊢
  have hl : lv_has ls 4 [(0, .ref (g 2)), (1, .int p0), (2, .int p1), (3, .int p2)] := hl
  obtain ⟨H, eH⟩ : ∃ z, z = s.heap := ⟨_, rfl⟩
  have hP : va_P (dC, dI) classes (wX g c v F rc) H := by rw [eH]; exact hP
  have hS : va_S (AX g s.heap.size) s.heap H [] := by rw [eH]; exact va_S.rf
  refine my_heap eH ?_
  have hal : alX v F = alX v F := rfl
  have rp0 := i32_rng p0
  have rp1 := i32_rng p1
  have rp2 := i32_rng p2
  refine lv_aload_n hx hb dX8_close_0 rfl (lv_at hl 0 rfl) ?_
  refine va_get (D := (dC, dI)) (ci := 8) (v := .ref (g 18)) (C := RX8) (T := TX8) (N := 10) hx hb hwd inA_X8 hown hK hP 2 rfl rfl 4 (by decide) (hwd _ wk_71) (fun _ h9 => h9) rfl dX8_close_1 ?_
  refine lv_iload_n hx hb dX8_close_4 rfl (lv_at hl 1 rfl) ?_
  refine lv_iload_n hx hb dX8_close_5 rfl (lv_at hl 2 rfl) ?_
  refine va_iast hx hb hK hP (DX hg) hS 18 6 rfl rfl (i := p0) (x := p1) (vin (a := p0.toInt) rfl (by omega)) dX8_close_6 (fun H locs hP _ hS => ?_)
  have hP := va_P_eq (sX_18 g c _ _ _ _) hP
  have hI := IX.store0 hI 18 (p0 : Int32).toNatClampNeg p1 rfl
  have hal := (alX_F _ _ 18 (upd (F 18) (p0 : Int32).toNatClampNeg p1) (by decide) (by decide)).trans hal
  have hP : va_P (dC, dI) classes (wX g c v (va_up F 18 (upd (F 18) (p0 : Int32).toNatClampNeg p1)) rc) H := hP
  generalize (va_up F 18 (upd (F 18) (p0 : Int32).toNatClampNeg p1)) = F89 at hP hI hal
  refine lv_aload_n hx hb dX8_close_7 rfl (lv_at hl 0 rfl) ?_
  refine va_get (D := (dC, dI)) (ci := 8) (v := .ref (g 19)) (C := RX8) (T := TX8) (N := 10) hx hb hwd inA_X8 hown hK hP 2 rfl rfl 5 (by decide) (hwd _ wk_72) (fun _ h9 => h9) rfl dX8_close_8 ?_
  refine lv_iload_n hx hb dX8_close_11 rfl (lv_at hl 1 rfl) ?_
  refine lv_iload_n hx hb dX8_close_12 rfl (lv_at hl 3 rfl) ?_
  refine va_iast hx hb hK hP (DX hg) hS 19 7 rfl rfl (i := p0) (x := p2) (vin (a := p0.toInt) rfl (by omega)) dX8_close_13 (fun H locs hP _ hS => ?_)
  have hP := va_P_eq (sX_19 g c _ _ _ _) hP
  have hI := IX.store0 hI 19 (p0 : Int32).toNatClampNeg p2 rfl
  have hal := (alX_F _ _ 19 (upd (F89 19) (p0 : Int32).toNatClampNeg p2) (by decide) (by decide)).trans hal
  have hP : va_P (dC, dI) classes (wX g c v (va_up F89 19 (upd (F89 19) (p0 : Int32).toNatClampNeg p2)) rc) H := hP
  generalize (va_up F89 19 (upd (F89 19) (p0 : Int32).toNatClampNeg p2)) = F90 at hP hI hal
  have hP9 : va_P (dC, dI) classes (wX g c v F90 rc) H := hP
  exact W.vret hx hb hr (fun t ht hW => ⟨⟨(v, F90, rc), rfl, ⟨hI, hal, rfl, (fun _ _ => rfl), trivial⟩, (by show va_P _ _ _ t.heap; rw [ht]; exact hP9)⟩, hS.F ht⟩) hS.2.2 dX8_close_14
set_option maxHeartbeats 8000000 in
set_option maxRecDepth 100000 in
theorem c_X8_backs (l : Launch) (dC : Nat → ClassId) (dI : Nat → Nat → Nat) (g : Nat → Nat) (c : Nat → ClassId) (adK adV : Nat → Nat) (v : Nat → Int32) (F : Nat → Nat → Int32) (rc sz : Nat) (hg : injX g) (hI : IX v F) : Met l yX8_backs (Cond.code yX8_backs cX8_backs 3 (some .int) :: wA) ({ frames := 2, cells := 0, slots := 0, locals := 80 }) (va_Pc [.ref (g 2)] (PX dC dI g c adK adV v F rc sz)) (va_Qi (fun (r : Int32) (u : Unit) => True) (fun (_ : Unit) => BX dC dI g c (v, F, rc)) (AX g sz)) 0 0 (AX g sz) := by
  refine Met.ofW (cc := cX8_backs) (maxL := 3) (ret := (some .int)) (by decide) rfl ?_
  intro p e s m args below meth c0 s₁ B hml hv
  obtain ⟨rfl, hsz, hP, hK, hE⟩ := hv
  have hx := B.exec
  have hb := B.bytes
  have hr := B.returns
  have hts := atoms_spec (ws := Cond.code yX8_backs cX8_backs 3 (some .int) :: wA) B.pre
  have hwd : ∀ w ∈ wA, w.before _ s = true := fun w h => hts w (List.mem_cons_of_mem _ h)
  have hown : s.vm.findClass RX8 = some m.cls := findClass_of_methodNamed B.named
  have hlocks := B.notSynchronized
  subst hsz
  have hl := lv_entry ([.ref (g 2)]) (n := 3) (Nat.le_of_ble_eq_true rfl)
  rw [lg_entry_eq]
  generalize (lg_sl ([.ref (g 2)]) ++ List.replicate (3 - (lg_sl ([.ref (g 2)])).length) Slot.unset).toArray = ls at hl ⊢
  have hl : lv_has ls 3 [(0, .ref (g 2))] := hl
  obtain ⟨H, eH⟩ : ∃ z, z = s.heap := ⟨_, rfl⟩
  have hP : va_P (dC, dI) classes (wX g c v F rc) H := by rw [eH]; exact hP
  have hS : va_S (AX g s.heap.size) s.heap H [] := by rw [eH]; exact va_S.rf
  refine my_heap eH ?_
  refine lv_iconst (v := 0) hx hb dX8_backs_0 (by decide) ?_
  refine lv_istore_n (lv' := [(1, .int 0), (0, .ref (g 2))]) hx hb dX8_backs_1 rfl hl (by decide) rfl (fun ls hl => ?_)
  refine lv_iconst (v := 0) hx hb dX8_backs_2 (by decide) ?_
  refine lv_istore_n (lv' := [(2, .int 0), (1, .int 0), (0, .ref (g 2))]) hx hb dX8_backs_3 rfl hl (by decide) rfl (fun ls hl => ?_)
  have lp91 : ∀ (n : Nat) (x2_lp91 : Int32) (x1_lp91 : Int32) (H : Heap) (locs : List Loc) (ls : Array Slot), (0 ≤ x2_lp91.toInt) → (2147483648 - x2_lp91.toInt ≤ (n : Int)) → va_P (dC, dI) classes (wX g c v F rc) H → va_S (AX g s.heap.size) s.heap H locs → lv_has ls 3 [(2, .int x2_lp91), (1, .int x1_lp91), (0, .ref (g 2))] → W p l e (headSpec (Cond.code yX8_backs cX8_backs 3 (some .int) :: wA) ({ frames := 2, cells := 0, slots := 0, locals := 80 })).room s m ([.ref (g 2)] : List Value).toArray below meth c0 H locs 0 0 (MQ below (va_Qi (fun (r : Int32) (u : Unit) => True) (fun (_ : Unit) => BX dC dI g c (v, F, rc)) (AX g s.heap.size)) ([.ref (g 2)] : List Value).toArray s 0 0 (AX g s.heap.size)) (F0 m 4 ls []) := by
    intro n
    induction n with
    | zero =>
      intro x2_lp91 x1_lp91 H locs ls t92 hm hP hS hl
      exfalso
      have := i32_rng x2_lp91
      have := i32_rng x1_lp91
      omega
    | succ n ih_lp91 =>
      intro x2_lp91 x1_lp91 H locs ls t92 hm hP hS hl
      have rx2_lp91 := i32_rng x2_lp91
      have rx1_lp91 := i32_rng x1_lp91
      refine lv_iload_n hx hb dX8_backs_4 rfl (lv_at hl 0 rfl) ?_
      refine lv_aload_n hx hb dX8_backs_5 rfl (lv_at hl 2 rfl) ?_
      refine va_get (D := (dC, dI)) (ci := 8) (v := .int (v 40)) (C := RX8) (T := TX8) (N := 10) hx hb hwd inA_X8 hown hK hP 2 rfl rfl 0 (by decide) (hwd _ wk_263) (fun _ h9 => h9) rfl dX8_backs_6 ?_
      have t93 : 0 ≤ (v 40).toInt ∧ (v 40).toInt ≤ 10 := hI.1 40 _ _ rfl
      refine lv_icmp_ge (tgt := 34) hx hb dX8_backs_9 (by decide) (fun c94 => ?_) (fun c94 => ?_)
      · skip
        have t95 := cv_le (a := (v 40).toInt) rfl (b := x2_lp91.toInt) rfl c94
        refine lv_iload_n hx hb dX8_backs_34 rfl (lv_at hl 1 rfl) ?_
        have hP9 : va_P (dC, dI) classes (wX g c v F rc) H := hP
        exact W.iret (v := x1_lp91) hx hb hr (fun t ht hW => ⟨⟨x1_lp91, (), rfl, trivial, (by show va_P _ _ _ t.heap; rw [ht]; exact hP9)⟩, hS.F ht⟩) hS.2.2 dX8_backs_35
      · skip
        have t96 := cv_nle (a := (v 40).toInt) rfl (b := x2_lp91.toInt) rfl c94
        refine lv_iload_n hx hb dX8_backs_12 rfl (lv_at hl 1 rfl) ?_
        refine lv_aload_n hx hb dX8_backs_13 rfl (lv_at hl 2 rfl) ?_
        refine lv_iload_n hx hb dX8_backs_14 rfl (lv_at hl 0 rfl) ?_
        refine va_calli (va_runV (As := [.int x2_lp91]) (rest := [.int x1_lp91]) ⟨hx, hb, hml, hown, hwd⟩ (c_X8_isBack l dC dI g c adK adV v F rc H.size x2_lp91 hg hI (by omega)) (cwV 1 hwd (gV wk_284 wk_1428 wk_282 wk_283 wk_18) rfl rfl rfl (by decide +kernel) ⟨Nat.le_of_ble_eq_true rfl, Nat.le_of_ble_eq_true rfl⟩) ⟨PX.blind, va_recv hK hP (ci := 8) (q0 := 2) rfl rfl, fun U hU hW => ⟨rfl, PX.at hK hE hP hS hU hW⟩⟩ rfl rfl hl.1 rfl (lv_room (Nat.le_of_ble_eq_true rfl)) dX8_backs_15 ⟨Nat.le_of_ble_eq_true rfl, Nat.le_of_ble_eq_true rfl⟩) hS (fun q _ h => (freeX hS) q h) (freeX hS) (fun r97 u t H1 locs ht hvm hw hB hz1 hk1 hS => ?_)
        unfold BX at hB
        rw [ht] at hB
        have hP : va_P (dC, dI) classes (wX g c v F rc) H1 := hB
        have hw : 0 ≤ r97.toInt ∧ r97.toInt ≤ 1 := hw
        generalize H1 = H at hP hS ⊢
        have hw_r97 := hw
        refine lv_if_eq (tgt := 25) hx hb dX8_backs_18 (by decide) (fun c98 => ?_) (fun c98 => ?_)
        · skip
          have t99 := cv_eq (a := r97.toInt) rfl (b := 0) (by decide) c98
          refine lv_iconst (v := 0) hx hb dX8_backs_25 (by decide) ?_
          refine lv_iadd hx hb dX8_backs_26 ?_
          refine lv_topi (fun z100 e101 => ?_)
          try (have t102 := tadd e101 (a := x1_lp91.toInt) rfl (b := 0) (by decide) (by omega))
          refine lv_istore_n (lv' := [(1, .int z100), (2, .int x2_lp91), (0, .ref (g 2))]) hx hb dX8_backs_27 rfl hl (by decide) rfl (fun ls hl => ?_)
          obtain ⟨z103, e104⟩ : ∃ y : Int32, y = x2_lp91 + 1 := ⟨_, rfl⟩
          try (have t105 := tadd e104 rfl (b := 1) (by decide) (by omega))
          refine lv_iinc (v := z103) (lv' := [(2, .int z103), (1, .int z100), (0, .ref (g 2))]) hx hb dX8_backs_28 hl (k := 1) rfl (by rw [e104]; rfl) (by decide) rfl (fun ls hl => ?_)
          refine lv_goto (tgt := 4) hx hb dX8_backs_31 (by decide) ?_
          exact ih_lp91 z103 z100  _ _ _ (by omega) (by omega) hP hS (lv_sub hl [0, 1, 2] rfl)
        · skip
          have t106 := cv_ne (a := r97.toInt) rfl (b := 0) (by decide) c98
          refine lv_iconst (v := 1) hx hb dX8_backs_21 (by decide) ?_
          refine lv_goto (tgt := 26) hx hb dX8_backs_22 (by decide) ?_
          refine lv_iadd hx hb dX8_backs_26 ?_
          refine lv_topi (fun z107 e108 => ?_)
          try (have t109 := tadd e108 (a := x1_lp91.toInt) rfl (b := 1) (by decide) (by omega))
          refine lv_istore_n (lv' := [(1, .int z107), (2, .int x2_lp91), (0, .ref (g 2))]) hx hb dX8_backs_27 rfl hl (by decide) rfl (fun ls hl => ?_)
          obtain ⟨z110, e111⟩ : ∃ y : Int32, y = x2_lp91 + 1 := ⟨_, rfl⟩
          try (have t112 := tadd e111 rfl (b := 1) (by decide) (by omega))
          refine lv_iinc (v := z110) (lv' := [(2, .int z110), (1, .int z107), (0, .ref (g 2))]) hx hb dX8_backs_28 hl (k := 1) rfl (by rw [e111]; rfl) (by decide) rfl (fun ls hl => ?_)
          refine lv_goto (tgt := 4) hx hb dX8_backs_31 (by decide) ?_
          exact ih_lp91 z110 z107  _ _ _ (by omega) (by omega) hP hS (lv_sub hl [0, 1, 2] rfl)
  obtain ⟨n9, hn9⟩ : ∃ n : Nat, 2147483648 - 0 ≤ (n : Int) := ⟨((2147483648 - 0 : Int)).toNat, by omega⟩
  exact lp91 n9 0 0  H _ ls (by have : (0 : Int32).toInt = 0 := (by decide); have : (0 : Int32).toInt = 0 := (by decide); omega) (by have : (0 : Int32).toInt = 0 := (by decide); have : (0 : Int32).toInt = 0 := (by decide); omega) hP hS hl
set_option maxHeartbeats 8000000 in
set_option maxRecDepth 100000 in
theorem c_X8_needOf (l : Launch) (dC : Nat → ClassId) (dI : Nat → Nat → Nat) (g : Nat → Nat) (c : Nat → ClassId) (adK adV : Nat → Nat) (v : Nat → Int32) (F : Nat → Nat → Int32) (rc sz : Nat) (p0 : Int32) (p1 : Int32) (hg : injX g) (hI : IX v F) (h0 : 0 ≤ p0.toInt ∧ p0.toInt ≤ 9) (h1 : 0 ≤ p1.toInt ∧ p1.toInt ≤ 9) : Met l yX8_needOf (Cond.code yX8_needOf cX8_needOf 3 (some .int) :: wA) ({ frames := 1, cells := 0, slots := 0, locals := 40 }) (va_Pc [.ref (g 2), .int p0, .int p1] (PX dC dI g c adK adV v F rc sz)) (va_Qi (fun (r : Int32) (u : Unit) => True) (fun (_ : Unit) => BX dC dI g c (v, F, rc)) (AX g sz)) 0 0 (AX g sz) := by
  refine Met.ofW (cc := cX8_needOf) (maxL := 3) (ret := (some .int)) (by decide) rfl ?_
  intro p e s m args below meth c0 s₁ B hml hv
  obtain ⟨rfl, hsz, hP, hK, hE⟩ := hv
  have hx := B.exec
  have hb := B.bytes
  have hr := B.returns
  have hts := atoms_spec (ws := Cond.code yX8_needOf cX8_needOf 3 (some .int) :: wA) B.pre
  have hwd : ∀ w ∈ wA, w.before _ s = true := fun w h => hts w (List.mem_cons_of_mem _ h)
  have hown : s.vm.findClass RX8 = some m.cls := findClass_of_methodNamed B.named
  have hlocks := B.notSynchronized
  subst hsz
  have hl := lv_entry ([.ref (g 2), .int p0, .int p1]) (n := 3) (Nat.le_of_ble_eq_true rfl)
  rw [lg_entry_eq]
  generalize (lg_sl ([.ref (g 2), .int p0, .int p1]) ++ List.replicate (3 - (lg_sl ([.ref (g 2), .int p0, .int p1])).length) Slot.unset).toArray = ls at hl ⊢
  have hl : lv_has ls 3 [(0, .ref (g 2)), (1, .int p0), (2, .int p1)] := hl
  obtain ⟨H, eH⟩ : ∃ z, z = s.heap := ⟨_, rfl⟩
  have hP : va_P (dC, dI) classes (wX g c v F rc) H := by rw [eH]; exact hP
  have hS : va_S (AX g s.heap.size) s.heap H [] := by rw [eH]; exact va_S.rf
  refine my_heap eH ?_
  have rp0 := i32_rng p0
  have rp1 := i32_rng p1
  refine lv_aload_n hx hb dX8_needOf_0 rfl (lv_at hl 0 rfl) ?_
  refine va_get (D := (dC, dI)) (ci := 8) (v := .ref (g 22)) (C := RX8) (T := TX8) (N := 10) hx hb hwd inA_X8 hown hK hP 2 rfl rfl 8 (by decide) (hwd _ wk_75) (fun _ h9 => h9) rfl dX8_needOf_1 ?_
  refine lv_iload_n hx hb dX8_needOf_4 rfl (lv_at hl 1 rfl) ?_
  refine lv_bipush (v := 10) hx hb dX8_needOf_5 (by decide) ?_
  refine lv_imul hx hb dX8_needOf_7 ?_
  refine lv_topi (fun z113 e114 => ?_)
  try (have t115 := tmul e114 (a := p0.toInt) rfl (b := 10) (by decide) (by omega))
  refine lv_iload_n hx hb dX8_needOf_8 rfl (lv_at hl 2 rfl) ?_
  refine lv_iadd hx hb dX8_needOf_9 ?_
  refine lv_topi (fun z116 e117 => ?_)
  try (have t118 := tadd e117 (a := z113.toInt) rfl (b := p1.toInt) rfl (by omega))
  refine va_iald hx hb hK hP 22 10 rfl rfl (i := z116) (vin (a := z116.toInt) rfl (by omega)) dX8_needOf_10 ?_
  refine lv_topi (fun z119 e120 => ?_)
  have hP9 : va_P (dC, dI) classes (wX g c v F rc) H := hP
  exact W.iret (v := z119) hx hb hr (fun t ht hW => ⟨⟨z119, (), rfl, trivial, (by show va_P _ _ _ t.heap; rw [ht]; exact hP9)⟩, hS.F ht⟩) hS.2.2 dX8_needOf_11
set_option maxHeartbeats 8000000 in
set_option maxRecDepth 100000 in
theorem c_X8_changeNeed (l : Launch) (dC : Nat → ClassId) (dI : Nat → Nat → Nat) (g : Nat → Nat) (c : Nat → ClassId) (adK adV : Nat → Nat) (v : Nat → Int32) (F : Nat → Nat → Int32) (rc sz : Nat) (p0 : Int32) (p1 : Int32) (p2 : Int32) (hg : injX g) (hI : IX v F) (h0 : 0 ≤ p0.toInt ∧ p0.toInt ≤ 9) (h1 : 0 ≤ p1.toInt ∧ p1.toInt ≤ 9) : Met l yX8_changeNeed (Cond.code yX8_changeNeed cX8_changeNeed 5 (some .int) :: wA) ({ frames := 2, cells := 0, slots := 0, locals := 80 }) (va_Pc [.ref (g 2), .int p0, .int p1, .int p2] (PX dC dI g c adK adV v F rc sz)) (va_Qi (fun (r : Int32) (u : StX) => IX u.1 u.2.1 ∧ alX u.1 u.2.1 = alX v F ∧ u.2.2 = rc ∧ (∀ k, k ∉ ([] : List Nat) → u.1 k = v k) ∧ True) (BX dC dI g c) (AX g sz)) 0 0 (AX g sz) := by
  refine Met.ofW (cc := cX8_changeNeed) (maxL := 5) (ret := (some .int)) (by decide) rfl ?_
  intro p e s m args below meth c0 s₁ B hml hv
  obtain ⟨rfl, hsz, hP, hK, hE⟩ := hv
  have hx := B.exec
  have hb := B.bytes
  have hr := B.returns
  have hts := atoms_spec (ws := Cond.code yX8_changeNeed cX8_changeNeed 5 (some .int) :: wA) B.pre
  have hwd : ∀ w ∈ wA, w.before _ s = true := fun w h => hts w (List.mem_cons_of_mem _ h)
  have hown : s.vm.findClass RX8 = some m.cls := findClass_of_methodNamed B.named
  have hlocks := B.notSynchronized
  subst hsz
  have hl := lv_entry ([.ref (g 2), .int p0, .int p1, .int p2]) (n := 5) (Nat.le_of_ble_eq_true rfl)
  rw [lg_entry_eq]
  generalize (lg_sl ([.ref (g 2), .int p0, .int p1, .int p2]) ++ List.replicate (5 - (lg_sl ([.ref (g 2), .int p0, .int p1, .int p2])).length) Slot.unset).toArray = ls at hl ⊢
  have hl : lv_has ls 5 [(0, .ref (g 2)), (1, .int p0), (2, .int p1), (3, .int p2)] := hl
  obtain ⟨H, eH⟩ : ∃ z, z = s.heap := ⟨_, rfl⟩
  have hP : va_P (dC, dI) classes (wX g c v F rc) H := by rw [eH]; exact hP
  have hS : va_S (AX g s.heap.size) s.heap H [] := by rw [eH]; exact va_S.rf
  refine my_heap eH ?_
  have hal : alX v F = alX v F := rfl
  have rp0 := i32_rng p0
  have rp1 := i32_rng p1
  have rp2 := i32_rng p2
  refine lv_aload_n hx hb dX8_changeNeed_0 rfl (lv_at hl 0 rfl) ?_
  refine lv_iload_n hx hb dX8_changeNeed_1 rfl (lv_at hl 1 rfl) ?_
  refine lv_iload_n hx hb dX8_changeNeed_2 rfl (lv_at hl 2 rfl) ?_
  refine va_calli (va_runV (As := [.int p0, .int p1]) (rest := []) ⟨hx, hb, hml, hown, hwd⟩ (c_X8_needOf l dC dI g c adK adV v F rc H.size p0 p1 hg hI (by omega) (by omega)) (cwV 2 hwd (gV wk_297 wk_294 wk_295 wk_296 wk_18) rfl rfl rfl (by decide +kernel) ⟨Nat.le_of_ble_eq_true rfl, Nat.le_of_ble_eq_true rfl⟩) ⟨PX.blind, va_recv hK hP (ci := 8) (q0 := 2) rfl rfl, fun U hU hW => ⟨rfl, PX.at hK hE hP hS hU hW⟩⟩ rfl rfl hl.1 rfl (lv_room (Nat.le_of_ble_eq_true rfl)) dX8_changeNeed_3 ⟨Nat.le_of_ble_eq_true rfl, Nat.le_of_ble_eq_true rfl⟩) hS (fun q _ h => (freeX hS) q h) (freeX hS) (fun r121 u t H1 locs ht hvm hw hB hz1 hk1 hS => ?_)
  unfold BX at hB
  rw [ht] at hB
  have hP : va_P (dC, dI) classes (wX g c v F rc) H1 := hB
  generalize H1 = H at hP hS ⊢
  have rr_r121 := i32_rng r121
  refine lv_istore (lv' := [(4, .int r121), (0, .ref (g 2)), (1, .int p0), (2, .int p1), (3, .int p2)]) hx hb dX8_changeNeed_6 hl (by decide) rfl (fun ls hl => ?_)
  refine lv_aload_n hx hb dX8_changeNeed_8 rfl (lv_at hl 1 rfl) ?_
  refine va_get (D := (dC, dI)) (ci := 8) (v := .ref (g 22)) (C := RX8) (T := TX8) (N := 10) hx hb hwd inA_X8 hown hK hP 2 rfl rfl 8 (by decide) (hwd _ wk_75) (fun _ h9 => h9) rfl dX8_changeNeed_9 ?_
  refine lv_iload_n hx hb dX8_changeNeed_12 rfl (lv_at hl 2 rfl) ?_
  refine lv_bipush (v := 10) hx hb dX8_changeNeed_13 (by decide) ?_
  refine lv_imul hx hb dX8_changeNeed_15 ?_
  refine lv_topi (fun z122 e123 => ?_)
  try (have t124 := tmul e123 (a := p0.toInt) rfl (b := 10) (by decide) (by omega))
  refine lv_iload_n hx hb dX8_changeNeed_16 rfl (lv_at hl 3 rfl) ?_
  refine lv_iadd hx hb dX8_changeNeed_17 ?_
  refine lv_topi (fun z125 e126 => ?_)
  try (have t127 := tadd e126 (a := z122.toInt) rfl (b := p1.toInt) rfl (by omega))
  refine lv_iload_n hx hb dX8_changeNeed_18 rfl (lv_at hl 4 rfl) ?_
  refine va_iast hx hb hK hP (DX hg) hS 22 10 rfl rfl (i := z125) (x := p2) (vin (a := z125.toInt) rfl (by omega)) dX8_changeNeed_19 (fun H locs hP _ hS => ?_)
  have hP := va_P_eq (sX_22 g c _ _ _ _) hP
  have hI := IX.store0 hI 22 (z125 : Int32).toNatClampNeg p2 rfl
  have hal := (alX_F _ _ 22 (upd (F 22) (z125 : Int32).toNatClampNeg p2) (by decide) (by decide)).trans hal
  have hP : va_P (dC, dI) classes (wX g c v (va_up F 22 (upd (F 22) (z125 : Int32).toNatClampNeg p2)) rc) H := hP
  generalize (va_up F 22 (upd (F 22) (z125 : Int32).toNatClampNeg p2)) = F128 at hP hI hal
  refine lv_iload hx hb dX8_changeNeed_20 (lv_at hl 0 rfl) ?_
  have hP9 : va_P (dC, dI) classes (wX g c v F128 rc) H := hP
  exact W.iret (v := r121) hx hb hr (fun t ht hW => ⟨⟨r121, (v, F128, rc), rfl, ⟨hI, hal, rfl, (fun _ _ => rfl), trivial⟩, (by show va_P _ _ _ t.heap; rw [ht]; exact hP9)⟩, hS.F ht⟩) hS.2.2 dX8_changeNeed_22
set_option maxHeartbeats 8000000 in
set_option maxRecDepth 100000 in
theorem c_X8_needOfAll (l : Launch) (dC : Nat → ClassId) (dI : Nat → Nat → Nat) (g : Nat → Nat) (c : Nat → ClassId) (adK adV : Nat → Nat) (v : Nat → Int32) (F : Nat → Nat → Int32) (rc sz : Nat) (p0 : Int32) (hg : injX g) (hI : IX v F) (h0 : 0 ≤ p0.toInt ∧ p0.toInt ≤ 9) : Met l yX8_needOfAll (Cond.code yX8_needOfAll cX8_needOfAll 4 (some .int) :: wA) ({ frames := 2, cells := 0, slots := 0, locals := 80 }) (va_Pc [.ref (g 2), .int p0] (PX dC dI g c adK adV v F rc sz)) (va_Qi (fun (r : Int32) (u : Unit) => True) (fun (_ : Unit) => BX dC dI g c (v, F, rc)) (AX g sz)) 0 0 (AX g sz) := by
  refine Met.ofW (cc := cX8_needOfAll) (maxL := 4) (ret := (some .int)) (by decide) rfl ?_
  intro p e s m args below meth c0 s₁ B hml hv
  obtain ⟨rfl, hsz, hP, hK, hE⟩ := hv
  have hx := B.exec
  have hb := B.bytes
  have hr := B.returns
  have hts := atoms_spec (ws := Cond.code yX8_needOfAll cX8_needOfAll 4 (some .int) :: wA) B.pre
  have hwd : ∀ w ∈ wA, w.before _ s = true := fun w h => hts w (List.mem_cons_of_mem _ h)
  have hown : s.vm.findClass RX8 = some m.cls := findClass_of_methodNamed B.named
  have hlocks := B.notSynchronized
  subst hsz
  have hl := lv_entry ([.ref (g 2), .int p0]) (n := 4) (Nat.le_of_ble_eq_true rfl)
  rw [lg_entry_eq]
  generalize (lg_sl ([.ref (g 2), .int p0]) ++ List.replicate (4 - (lg_sl ([.ref (g 2), .int p0])).length) Slot.unset).toArray = ls at hl ⊢
  have hl : lv_has ls 4 [(0, .ref (g 2)), (1, .int p0)] := hl
  obtain ⟨H, eH⟩ : ∃ z, z = s.heap := ⟨_, rfl⟩
  have hP : va_P (dC, dI) classes (wX g c v F rc) H := by rw [eH]; exact hP
  have hS : va_S (AX g s.heap.size) s.heap H [] := by rw [eH]; exact va_S.rf
  refine my_heap eH ?_
  have rp0 := i32_rng p0
  refine lv_iconst (v := 0) hx hb dX8_needOfAll_0 (by decide) ?_
  refine lv_istore_n (lv' := [(2, .int 0), (0, .ref (g 2)), (1, .int p0)]) hx hb dX8_needOfAll_1 rfl hl (by decide) rfl (fun ls hl => ?_)
  refine lv_iconst (v := 0) hx hb dX8_needOfAll_2 (by decide) ?_
  refine lv_istore_n (lv' := [(3, .int 0), (2, .int 0), (0, .ref (g 2)), (1, .int p0)]) hx hb dX8_needOfAll_3 rfl hl (by decide) rfl (fun ls hl => ?_)
  have lp129 : ∀ (n : Nat) (x3_lp129 : Int32) (x2_lp129 : Int32) (H : Heap) (locs : List Loc) (ls : Array Slot), (0 ≤ x3_lp129.toInt) → (2147483648 - x3_lp129.toInt ≤ (n : Int)) → va_P (dC, dI) classes (wX g c v F rc) H → va_S (AX g s.heap.size) s.heap H locs → lv_has ls 4 [(3, .int x3_lp129), (2, .int x2_lp129), (0, .ref (g 2)), (1, .int p0)] → W p l e (headSpec (Cond.code yX8_needOfAll cX8_needOfAll 4 (some .int) :: wA) ({ frames := 2, cells := 0, slots := 0, locals := 80 })).room s m ([.ref (g 2), .int p0] : List Value).toArray below meth c0 H locs 0 0 (MQ below (va_Qi (fun (r : Int32) (u : Unit) => True) (fun (_ : Unit) => BX dC dI g c (v, F, rc)) (AX g s.heap.size)) ([.ref (g 2), .int p0] : List Value).toArray s 0 0 (AX g s.heap.size)) (F0 m 4 ls []) := by
    intro n
    induction n with
    | zero =>
      intro x3_lp129 x2_lp129 H locs ls t130 hm hP hS hl
      exfalso
      have := i32_rng x3_lp129
      have := i32_rng x2_lp129
      omega
    | succ n ih_lp129 =>
      intro x3_lp129 x2_lp129 H locs ls t130 hm hP hS hl
      have rx3_lp129 := i32_rng x3_lp129
      have rx2_lp129 := i32_rng x2_lp129
      refine lv_iload_n hx hb dX8_needOfAll_4 rfl (lv_at hl 0 rfl) ?_
      refine lv_bipush (v := 10) hx hb dX8_needOfAll_5 (by decide) ?_
      refine lv_icmp_ge (tgt := 25) hx hb dX8_needOfAll_7 (by decide) (fun c131 => ?_) (fun c131 => ?_)
      · skip
        have t132 := cv_le (a := 10) (by decide) (b := x3_lp129.toInt) rfl c131
        refine lv_iload_n hx hb dX8_needOfAll_25 rfl (lv_at hl 1 rfl) ?_
        have hP9 : va_P (dC, dI) classes (wX g c v F rc) H := hP
        exact W.iret (v := x2_lp129) hx hb hr (fun t ht hW => ⟨⟨x2_lp129, (), rfl, trivial, (by show va_P _ _ _ t.heap; rw [ht]; exact hP9)⟩, hS.F ht⟩) hS.2.2 dX8_needOfAll_26
      · skip
        have t133 := cv_nle (a := 10) (by decide) (b := x3_lp129.toInt) rfl c131
        refine lv_iload_n hx hb dX8_needOfAll_10 rfl (lv_at hl 1 rfl) ?_
        refine lv_aload_n hx hb dX8_needOfAll_11 rfl (lv_at hl 2 rfl) ?_
        refine lv_iload_n hx hb dX8_needOfAll_12 rfl (lv_at hl 3 rfl) ?_
        refine lv_iload_n hx hb dX8_needOfAll_13 rfl (lv_at hl 0 rfl) ?_
        refine va_calli (va_runV (As := [.int p0, .int x3_lp129]) (rest := [.int x2_lp129]) ⟨hx, hb, hml, hown, hwd⟩ (c_X8_needOf l dC dI g c adK adV v F rc H.size p0 x3_lp129 hg hI (by omega) (by omega)) (cwV 2 hwd (gV wk_297 wk_294 wk_295 wk_296 wk_18) rfl rfl rfl (by decide +kernel) ⟨Nat.le_of_ble_eq_true rfl, Nat.le_of_ble_eq_true rfl⟩) ⟨PX.blind, va_recv hK hP (ci := 8) (q0 := 2) rfl rfl, fun U hU hW => ⟨rfl, PX.at hK hE hP hS hU hW⟩⟩ rfl rfl hl.1 rfl (lv_room (Nat.le_of_ble_eq_true rfl)) dX8_needOfAll_14 ⟨Nat.le_of_ble_eq_true rfl, Nat.le_of_ble_eq_true rfl⟩) hS (fun q _ h => (freeX hS) q h) (freeX hS) (fun r134 u t H1 locs ht hvm hw hB hz1 hk1 hS => ?_)
        unfold BX at hB
        rw [ht] at hB
        have hP : va_P (dC, dI) classes (wX g c v F rc) H1 := hB
        generalize H1 = H at hP hS ⊢
        have rr_r134 := i32_rng r134
        refine lv_iadd hx hb dX8_needOfAll_17 ?_
        refine lv_topi (fun z135 e136 => ?_)
        try (have t137 := tadd e136 (a := x2_lp129.toInt) rfl (b := r134.toInt) rfl (by omega))
        refine lv_istore_n (lv' := [(2, .int z135), (3, .int x3_lp129), (0, .ref (g 2)), (1, .int p0)]) hx hb dX8_needOfAll_18 rfl hl (by decide) rfl (fun ls hl => ?_)
        obtain ⟨z138, e139⟩ : ∃ y : Int32, y = x3_lp129 + 1 := ⟨_, rfl⟩
        try (have t140 := tadd e139 rfl (b := 1) (by decide) (by omega))
        refine lv_iinc (v := z138) (lv' := [(3, .int z138), (2, .int z135), (0, .ref (g 2)), (1, .int p0)]) hx hb dX8_needOfAll_19 hl (k := 1) rfl (by rw [e139]; rfl) (by decide) rfl (fun ls hl => ?_)
        refine lv_goto (tgt := 4) hx hb dX8_needOfAll_22 (by decide) ?_
        exact ih_lp129 z138 z135  _ _ _ (by omega) (by omega) hP hS (lv_sub hl [0, 1, 2, 3] rfl)
  obtain ⟨n9, hn9⟩ : ∃ n : Nat, 2147483648 - 0 ≤ (n : Int) := ⟨((2147483648 - 0 : Int)).toNat, by omega⟩
  exact lp129 n9 0 0  H _ ls (by have : (0 : Int32).toInt = 0 := (by decide); have : (0 : Int32).toInt = 0 := (by decide); omega) (by have : (0 : Int32).toInt = 0 := (by decide); have : (0 : Int32).toInt = 0 := (by decide); omega) hP hS hl
set_option maxHeartbeats 8000000 in
set_option maxRecDepth 100000 in
theorem c_X8_canFly (l : Launch) (dC : Nat → ClassId) (dI : Nat → Nat → Nat) (g : Nat → Nat) (c : Nat → ClassId) (adK adV : Nat → Nat) (v : Nat → Int32) (F : Nat → Nat → Int32) (rc sz : Nat) (p0 : Int32) (p1 : Int32) (p2 : Int32) (hg : injX g) (hI : IX v F) (h0 : 0 ≤ p0.toInt ∧ p0.toInt ≤ 9) : Met l yX8_canFly (Cond.code yX8_canFly cX8_canFly 4 (some .boolean) :: wA) ({ frames := 1, cells := 0, slots := 0, locals := 40 }) (va_Pc [.ref (g 2), .int p0, .int p1, .int p2] (PX dC dI g c adK adV v F rc sz)) (va_Qi (fun (r : Int32) (u : Unit) => 0 ≤ r.toInt ∧ r.toInt ≤ 1) (fun (_ : Unit) => BX dC dI g c (v, F, rc)) (AX g sz)) 0 0 (AX g sz) := by
  refine Met.ofW (cc := cX8_canFly) (maxL := 4) (ret := (some .boolean)) (by decide) rfl ?_
  intro p e s m args below meth c0 s₁ B hml hv
  obtain ⟨rfl, hsz, hP, hK, hE⟩ := hv
  have hx := B.exec
  have hb := B.bytes
  have hr := B.returns
  have hts := atoms_spec (ws := Cond.code yX8_canFly cX8_canFly 4 (some .boolean) :: wA) B.pre
  have hwd : ∀ w ∈ wA, w.before _ s = true := fun w h => hts w (List.mem_cons_of_mem _ h)
  have hown : s.vm.findClass RX8 = some m.cls := findClass_of_methodNamed B.named
  have hlocks := B.notSynchronized
  subst hsz
  have hl := lv_entry ([.ref (g 2), .int p0, .int p1, .int p2]) (n := 4) (Nat.le_of_ble_eq_true rfl)
  rw [lg_entry_eq]
  generalize (lg_sl ([.ref (g 2), .int p0, .int p1, .int p2]) ++ List.replicate (4 - (lg_sl ([.ref (g 2), .int p0, .int p1, .int p2])).length) Slot.unset).toArray = ls at hl ⊢
  have hl : lv_has ls 4 [(0, .ref (g 2)), (1, .int p0), (2, .int p1), (3, .int p2)] := hl
  obtain ⟨H, eH⟩ : ∃ z, z = s.heap := ⟨_, rfl⟩
  have hP : va_P (dC, dI) classes (wX g c v F rc) H := by rw [eH]; exact hP
  have hS : va_S (AX g s.heap.size) s.heap H [] := by rw [eH]; exact va_S.rf
  refine my_heap eH ?_
  have rp0 := i32_rng p0
  have rp1 := i32_rng p1
  have rp2 := i32_rng p2
  refine lv_aload_n hx hb dX8_canFly_0 rfl (lv_at hl 0 rfl) ?_
  refine va_get (D := (dC, dI)) (ci := 8) (v := .ref (g 16)) (C := RX8) (T := TX8) (N := 10) hx hb hwd inA_X8 hown hK hP 2 rfl rfl 2 (by decide) (hwd _ wk_69) (fun _ h9 => h9) rfl dX8_canFly_1 ?_
  refine lv_iload_n hx hb dX8_canFly_4 rfl (lv_at hl 1 rfl) ?_
  refine va_iald hx hb hK hP 16 4 rfl rfl (i := p0) (vin (a := p0.toInt) rfl (by omega)) dX8_canFly_5 ?_
  refine lv_topi (fun z141 e142 => ?_)
  refine lv_iload_n hx hb dX8_canFly_6 rfl (lv_at hl 2 rfl) ?_
  refine lv_iadd hx hb dX8_canFly_7 ?_
  refine lv_topi (fun z143 e144 => ?_)
  try (have t145 := tadd e144 (a := z141.toInt) rfl (b := p1.toInt) rfl (by omega))
  refine lv_ldc (v := 999999) hx hb hown (hwd _ wk_442) dX8_canFly_8 ?_
  refine lv_icmp_gt (tgt := 30) hx hb dX8_canFly_10 (by decide) (fun c146 => ?_) (fun c146 => ?_)
  · skip
    have t147 := cv_lt (a := 999999) (by decide) (b := z143.toInt) rfl c146
    refine lv_iconst (v := 0) hx hb dX8_canFly_30 (by decide) ?_
    have hP9 : va_P (dC, dI) classes (wX g c v F rc) H := hP
    exact W.zret (v := 0) hx hb hr (rfl) (fun t ht hW => ⟨⟨0, (), rfl, by have : (0 : Int32).toInt = 0 := (by decide); omega, (by show va_P _ _ _ t.heap; rw [ht]; exact hP9)⟩, hS.F ht⟩) hS.2.2 dX8_canFly_31
  · skip
    have t148 := cv_nlt (a := 999999) (by decide) (b := z143.toInt) rfl c146
    refine lv_aload_n hx hb dX8_canFly_13 rfl (lv_at hl 0 rfl) ?_
    refine va_get (D := (dC, dI)) (ci := 8) (v := .ref (g 17)) (C := RX8) (T := TX8) (N := 10) hx hb hwd inA_X8 hown hK hP 2 rfl rfl 3 (by decide) (hwd _ wk_70) (fun _ h9 => h9) rfl dX8_canFly_14 ?_
    refine lv_iload_n hx hb dX8_canFly_17 rfl (lv_at hl 1 rfl) ?_
    refine va_iald hx hb hK hP 17 5 rfl rfl (i := p0) (vin (a := p0.toInt) rfl (by omega)) dX8_canFly_18 ?_
    refine lv_topi (fun z149 e150 => ?_)
    refine lv_iload_n hx hb dX8_canFly_19 rfl (lv_at hl 3 rfl) ?_
    refine lv_iadd hx hb dX8_canFly_20 ?_
    refine lv_topi (fun z151 e152 => ?_)
    try (have t153 := tadd e152 (a := z149.toInt) rfl (b := p2.toInt) rfl (by omega))
    refine lv_ldc (v := 999999) hx hb hown (hwd _ wk_442) dX8_canFly_21 ?_
    refine lv_icmp_gt (tgt := 30) hx hb dX8_canFly_23 (by decide) (fun c154 => ?_) (fun c154 => ?_)
    · skip
      have t155 := cv_lt (a := 999999) (by decide) (b := z151.toInt) rfl c154
      refine lv_iconst (v := 0) hx hb dX8_canFly_30 (by decide) ?_
      have hP9 : va_P (dC, dI) classes (wX g c v F rc) H := hP
      exact W.zret (v := 0) hx hb hr (rfl) (fun t ht hW => ⟨⟨0, (), rfl, by have : (0 : Int32).toInt = 0 := (by decide); omega, (by show va_P _ _ _ t.heap; rw [ht]; exact hP9)⟩, hS.F ht⟩) hS.2.2 dX8_canFly_31
    · skip
      have t156 := cv_nlt (a := 999999) (by decide) (b := z151.toInt) rfl c154
      refine lv_iconst (v := 1) hx hb dX8_canFly_26 (by decide) ?_
      refine lv_goto (tgt := 31) hx hb dX8_canFly_27 (by decide) ?_
      have hP9 : va_P (dC, dI) classes (wX g c v F rc) H := hP
      exact W.zret (v := 1) hx hb hr (rfl) (fun t ht hW => ⟨⟨1, (), rfl, by have : (1 : Int32).toInt = 1 := (by decide); omega, (by show va_P _ _ _ t.heap; rw [ht]; exact hP9)⟩, hS.F ht⟩) hS.2.2 dX8_canFly_31
set_option maxHeartbeats 8000000 in
set_option maxRecDepth 100000 in
theorem c_X8_wear (l : Launch) (dC : Nat → ClassId) (dI : Nat → Nat → Nat) (g : Nat → Nat) (c : Nat → ClassId) (adK adV : Nat → Nat) (v : Nat → Int32) (F : Nat → Nat → Int32) (rc sz : Nat) (p0 : Int32) (p1 : Int32) (p2 : Int32) (hg : injX g) (hI : IX v F) (h0 : 0 ≤ p0.toInt ∧ p0.toInt ≤ 9) : Met l yX8_wear (Cond.code yX8_wear cX8_wear 4 (some .int) :: wA) ({ frames := 1, cells := 0, slots := 0, locals := 40 }) (va_Pc [.ref (g 2), .int p0, .int p1, .int p2] (PX dC dI g c adK adV v F rc sz)) (va_Qi (fun (r : Int32) (u : StX) => IX u.1 u.2.1 ∧ alX u.1 u.2.1 = alX v F ∧ u.2.2 = rc ∧ (∀ k, k ∉ ([] : List Nat) → u.1 k = v k) ∧ True) (BX dC dI g c) (AX g sz)) 0 0 (AX g sz) := by
  refine Met.ofW (cc := cX8_wear) (maxL := 4) (ret := (some .int)) (by decide) rfl ?_
  intro p e s m args below meth c0 s₁ B hml hv
  obtain ⟨rfl, hsz, hP, hK, hE⟩ := hv
  have hx := B.exec
  have hb := B.bytes
  have hr := B.returns
  have hts := atoms_spec (ws := Cond.code yX8_wear cX8_wear 4 (some .int) :: wA) B.pre
  have hwd : ∀ w ∈ wA, w.before _ s = true := fun w h => hts w (List.mem_cons_of_mem _ h)
  have hown : s.vm.findClass RX8 = some m.cls := findClass_of_methodNamed B.named
  have hlocks := B.notSynchronized
  subst hsz
  have hl := lv_entry ([.ref (g 2), .int p0, .int p1, .int p2]) (n := 4) (Nat.le_of_ble_eq_true rfl)
  rw [lg_entry_eq]
  generalize (lg_sl ([.ref (g 2), .int p0, .int p1, .int p2]) ++ List.replicate (4 - (lg_sl ([.ref (g 2), .int p0, .int p1, .int p2])).length) Slot.unset).toArray = ls at hl ⊢
  have hl : lv_has ls 4 [(0, .ref (g 2)), (1, .int p0), (2, .int p1), (3, .int p2)] := hl
  obtain ⟨H, eH⟩ : ∃ z, z = s.heap := ⟨_, rfl⟩
  have hP : va_P (dC, dI) classes (wX g c v F rc) H := by rw [eH]; exact hP
  have hS : va_S (AX g s.heap.size) s.heap H [] := by rw [eH]; exact va_S.rf
  refine my_heap eH ?_
  have hal : alX v F = alX v F := rfl
  have rp0 := i32_rng p0
  have rp1 := i32_rng p1
  have rp2 := i32_rng p2
  refine lv_aload_n hx hb dX8_wear_0 rfl (lv_at hl 0 rfl) ?_
  refine va_get (D := (dC, dI)) (ci := 8) (v := .ref (g 16)) (C := RX8) (T := TX8) (N := 10) hx hb hwd inA_X8 hown hK hP 2 rfl rfl 2 (by decide) (hwd _ wk_69) (fun _ h9 => h9) rfl dX8_wear_1 ?_
  refine lv_iload_n hx hb dX8_wear_4 rfl (lv_at hl 1 rfl) ?_
  refine lv_dup2_11 hx hb dX8_wear_5 rfl rfl ?_
  refine va_iald hx hb hK hP 16 4 rfl rfl (i := p0) (vin (a := p0.toInt) rfl (by omega)) dX8_wear_6 ?_
  refine lv_topi (fun z157 e158 => ?_)
  refine lv_iload_n hx hb dX8_wear_7 rfl (lv_at hl 2 rfl) ?_
  refine lv_iadd hx hb dX8_wear_8 ?_
  refine lv_topi (fun z159 e160 => ?_)
  try (have t161 := tadd e160 (a := z157.toInt) rfl (b := p1.toInt) rfl (by omega))
  refine va_iast hx hb hK hP (DX hg) hS 16 4 rfl rfl (i := p0) (x := z159) (vin (a := p0.toInt) rfl (by omega)) dX8_wear_9 (fun H locs hP _ hS => ?_)
  have hP := va_P_eq (sX_16 g c _ _ _ _) hP
  have hI := IX.store0 hI 16 (p0 : Int32).toNatClampNeg z159 rfl
  have hal := (alX_F _ _ 16 (upd (F 16) (p0 : Int32).toNatClampNeg z159) (by decide) (by decide)).trans hal
  have hP : va_P (dC, dI) classes (wX g c v (va_up F 16 (upd (F 16) (p0 : Int32).toNatClampNeg z159)) rc) H := hP
  generalize (va_up F 16 (upd (F 16) (p0 : Int32).toNatClampNeg z159)) = F162 at hP hI hal
  refine lv_aload_n hx hb dX8_wear_10 rfl (lv_at hl 0 rfl) ?_
  refine va_get (D := (dC, dI)) (ci := 8) (v := .ref (g 17)) (C := RX8) (T := TX8) (N := 10) hx hb hwd inA_X8 hown hK hP 2 rfl rfl 3 (by decide) (hwd _ wk_70) (fun _ h9 => h9) rfl dX8_wear_11 ?_
  refine lv_iload_n hx hb dX8_wear_14 rfl (lv_at hl 1 rfl) ?_
  refine lv_dup2_11 hx hb dX8_wear_15 rfl rfl ?_
  refine va_iald hx hb hK hP 17 5 rfl rfl (i := p0) (vin (a := p0.toInt) rfl (by omega)) dX8_wear_16 ?_
  refine lv_topi (fun z163 e164 => ?_)
  refine lv_iload_n hx hb dX8_wear_17 rfl (lv_at hl 3 rfl) ?_
  refine lv_iadd hx hb dX8_wear_18 ?_
  refine lv_topi (fun z165 e166 => ?_)
  try (have t167 := tadd e166 (a := z163.toInt) rfl (b := p2.toInt) rfl (by omega))
  refine va_iast hx hb hK hP (DX hg) hS 17 5 rfl rfl (i := p0) (x := z165) (vin (a := p0.toInt) rfl (by omega)) dX8_wear_19 (fun H locs hP _ hS => ?_)
  have hP := va_P_eq (sX_17 g c _ _ _ _) hP
  have hI := IX.store0 hI 17 (p0 : Int32).toNatClampNeg z165 rfl
  have hal := (alX_F _ _ 17 (upd (F162 17) (p0 : Int32).toNatClampNeg z165) (by decide) (by decide)).trans hal
  have hP : va_P (dC, dI) classes (wX g c v (va_up F162 17 (upd (F162 17) (p0 : Int32).toNatClampNeg z165)) rc) H := hP
  generalize (va_up F162 17 (upd (F162 17) (p0 : Int32).toNatClampNeg z165)) = F168 at hP hI hal
  refine lv_aload_n hx hb dX8_wear_20 rfl (lv_at hl 0 rfl) ?_
  refine va_get (D := (dC, dI)) (ci := 8) (v := .ref (g 16)) (C := RX8) (T := TX8) (N := 10) hx hb hwd inA_X8 hown hK hP 2 rfl rfl 2 (by decide) (hwd _ wk_69) (fun _ h9 => h9) rfl dX8_wear_21 ?_
  refine lv_iload_n hx hb dX8_wear_24 rfl (lv_at hl 1 rfl) ?_
  refine va_iald hx hb hK hP 16 4 rfl rfl (i := p0) (vin (a := p0.toInt) rfl (by omega)) dX8_wear_25 ?_
  refine lv_topi (fun z169 e170 => ?_)
  have hP9 : va_P (dC, dI) classes (wX g c v F168 rc) H := hP
  exact W.iret (v := z169) hx hb hr (fun t ht hW => ⟨⟨z169, (v, F168, rc), rfl, ⟨hI, hal, rfl, (fun _ _ => rfl), trivial⟩, (by show va_P _ _ _ t.heap; rw [ht]; exact hP9)⟩, hS.F ht⟩) hS.2.2 dX8_wear_26
set_option maxHeartbeats 8000000 in
set_option maxRecDepth 100000 in
theorem c_X8_savedFor (l : Launch) (dC : Nat → ClassId) (dI : Nat → Nat → Nat) (g : Nat → Nat) (c : Nat → ClassId) (adK adV : Nat → Nat) (v : Nat → Int32) (F : Nat → Nat → Int32) (rc sz : Nat) (p0 : Int32) (p1 : Int32) (hg : injX g) (hI : IX v F) (h0 : 0 ≤ p0.toInt ∧ p0.toInt ≤ 9) (h1 : 0 ≤ p1.toInt ∧ p1.toInt ≤ 9) : Met l yX8_savedFor (Cond.code yX8_savedFor cX8_savedFor 3 (some .int) :: wA) ({ frames := 1, cells := 0, slots := 0, locals := 40 }) (va_Pc [.ref (g 2), .int p0, .int p1] (PX dC dI g c adK adV v F rc sz)) (va_Qi (fun (r : Int32) (u : Unit) => True) (fun (_ : Unit) => BX dC dI g c (v, F, rc)) (AX g sz)) 0 0 (AX g sz) := by
  refine Met.ofW (cc := cX8_savedFor) (maxL := 3) (ret := (some .int)) (by decide) rfl ?_
  intro p e s m args below meth c0 s₁ B hml hv
  obtain ⟨rfl, hsz, hP, hK, hE⟩ := hv
  have hx := B.exec
  have hb := B.bytes
  have hr := B.returns
  have hts := atoms_spec (ws := Cond.code yX8_savedFor cX8_savedFor 3 (some .int) :: wA) B.pre
  have hwd : ∀ w ∈ wA, w.before _ s = true := fun w h => hts w (List.mem_cons_of_mem _ h)
  have hown : s.vm.findClass RX8 = some m.cls := findClass_of_methodNamed B.named
  have hlocks := B.notSynchronized
  subst hsz
  have hl := lv_entry ([.ref (g 2), .int p0, .int p1]) (n := 3) (Nat.le_of_ble_eq_true rfl)
  rw [lg_entry_eq]
  generalize (lg_sl ([.ref (g 2), .int p0, .int p1]) ++ List.replicate (3 - (lg_sl ([.ref (g 2), .int p0, .int p1])).length) Slot.unset).toArray = ls at hl ⊢
  have hl : lv_has ls 3 [(0, .ref (g 2)), (1, .int p0), (2, .int p1)] := hl
  obtain ⟨H, eH⟩ : ∃ z, z = s.heap := ⟨_, rfl⟩
  have hP : va_P (dC, dI) classes (wX g c v F rc) H := by rw [eH]; exact hP
  have hS : va_S (AX g s.heap.size) s.heap H [] := by rw [eH]; exact va_S.rf
  refine my_heap eH ?_
  have rp0 := i32_rng p0
  have rp1 := i32_rng p1
  refine lv_aload_n hx hb dX8_savedFor_0 rfl (lv_at hl 0 rfl) ?_
  refine va_get (D := (dC, dI)) (ci := 8) (v := .ref (g 23)) (C := RX8) (T := TX8) (N := 10) hx hb hwd inA_X8 hown hK hP 2 rfl rfl 9 (by decide) (hwd _ wk_76) (fun _ h9 => h9) rfl dX8_savedFor_1 ?_
  refine lv_iload_n hx hb dX8_savedFor_4 rfl (lv_at hl 1 rfl) ?_
  refine lv_bipush (v := 10) hx hb dX8_savedFor_5 (by decide) ?_
  refine lv_imul hx hb dX8_savedFor_7 ?_
  refine lv_topi (fun z171 e172 => ?_)
  try (have t173 := tmul e172 (a := p0.toInt) rfl (b := 10) (by decide) (by omega))
  refine lv_iload_n hx hb dX8_savedFor_8 rfl (lv_at hl 2 rfl) ?_
  refine lv_iadd hx hb dX8_savedFor_9 ?_
  refine lv_topi (fun z174 e175 => ?_)
  try (have t176 := tadd e175 (a := z171.toInt) rfl (b := p1.toInt) rfl (by omega))
  refine va_iald hx hb hK hP 23 11 rfl rfl (i := z174) (vin (a := z174.toInt) rfl (by omega)) dX8_savedFor_10 ?_
  refine lv_topi (fun z177 e178 => ?_)
  have hP9 : va_P (dC, dI) classes (wX g c v F rc) H := hP
  exact W.iret (v := z177) hx hb hr (fun t ht hW => ⟨⟨z177, (), rfl, trivial, (by show va_P _ _ _ t.heap; rw [ht]; exact hP9)⟩, hS.F ht⟩) hS.2.2 dX8_savedFor_11
