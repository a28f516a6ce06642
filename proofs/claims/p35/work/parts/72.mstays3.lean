set_option maxHeartbeats 8000000 in
set_option maxRecDepth 100000 in
theorem c_X12_staysOf (l : Launch) (dC : Nat → ClassId) (dI : Nat → Nat → Nat) (g : Nat → Nat) (c : Nat → ClassId) (adK adV : Nat → Nat) (v : Nat → Int32) (F : Nat → Nat → Int32) (rc sz : Nat) (p0 : Int32) (hg : injM g) (hI : IM v F) : Met l yX12_staysOf (Cond.code yX12_staysOf cX12_staysOf 4 (some .int) :: wA) ({ frames := 1, cells := 0, slots := 0, locals := 40 }) (va_Pc [.ref (g 0), .int p0] (PM dC dI g c adK adV v F rc sz)) (va_Qi (fun (r : Int32) (u : Unit) => r.toInt = (cnt (stP (F 15) p0.toInt) (v 19).toNatClampNeg : Int)) (fun (_ : Unit) => BM dC dI g c (v, F, rc)) (AM g sz)) 0 0 (AM g sz) := by
  refine Met.ofW (cc := cX12_staysOf) (maxL := 4) (ret := (some .int)) (by decide) rfl ?_
  intro p e s m args below meth c0 s₁ B hml hv
  obtain ⟨rfl, hsz, hP, hK, hE⟩ := hv
  have hx := B.exec
  have hb := B.bytes
  have hr := B.returns
  have hts := atoms_spec (ws := Cond.code yX12_staysOf cX12_staysOf 4 (some .int) :: wA) B.pre
  have hwd : ∀ w ∈ wA, w.before _ s = true := fun w h => hts w (List.mem_cons_of_mem _ h)
  have hown : s.vm.findClass RX12 = some m.cls := findClass_of_methodNamed B.named
  have hlocks := B.notSynchronized
  subst hsz
  have hl := lv_entry ([.ref (g 0), .int p0]) (n := 4) (Nat.le_of_ble_eq_true rfl)
  rw [lg_entry_eq]
  generalize (lg_sl ([.ref (g 0), .int p0]) ++ List.replicate (4 - (lg_sl ([.ref (g 0), .int p0])).length) Slot.unset).toArray = ls at hl ⊢
  have hl : lv_has ls 4 [(0, .ref (g 0)), (1, .int p0)] := hl
  obtain ⟨H, eH⟩ : ∃ z, z = s.heap := ⟨_, rfl⟩
  have hP : va_P (dC, dI) classes (wM g c v F rc) H := by rw [eH]; exact hP
  have hS : va_S (AM g s.heap.size) s.heap H [] := by rw [eH]; exact va_S.rf
  refine my_heap eH ?_
  have rp0 := i32_rng p0
  have hb19 : 0 ≤ (v 19).toInt ∧ (v 19).toInt ≤ 500 := hI.1 19 _ _ rfl
  refine lv_iconst (v := 0) hx hb dX12_staysOf_0 (by decide) ?_
  refine lv_istore_n (lv' := [(2, .int 0), (0, .ref (g 0)), (1, .int p0)]) hx hb dX12_staysOf_1 rfl hl (by decide) rfl (fun ls hl => ?_)
  refine lv_iconst (v := 0) hx hb dX12_staysOf_2 (by decide) ?_
  refine lv_istore_n (lv' := [(3, .int 0), (2, .int 0), (0, .ref (g 0)), (1, .int p0)]) hx hb dX12_staysOf_3 rfl hl (by decide) rfl (fun ls hl => ?_)
  have lp6563 : ∀ (n : Nat) (x3_lp6563 : Int32) (x2_lp6563 : Int32) (H : Heap) (locs : List Loc) (ls : Array Slot), (0 ≤ x3_lp6563.toInt) → (x3_lp6563.toInt ≤ (v 19).toInt) → (0 ≤ x2_lp6563.toInt ∧ x2_lp6563.toInt ≤ x3_lp6563.toInt) → (x2_lp6563.toInt = (cnt (stP (F 15) p0.toInt) x3_lp6563.toNatClampNeg : Int)) → (2147483648 - x3_lp6563.toInt ≤ (n : Int)) → va_P (dC, dI) classes (wM g c v F rc) H → va_S (AM g s.heap.size) s.heap H locs → lv_has ls 4 [(3, .int x3_lp6563), (2, .int x2_lp6563), (0, .ref (g 0)), (1, .int p0)] → W p l e (headSpec (Cond.code yX12_staysOf cX12_staysOf 4 (some .int) :: wA) ({ frames := 1, cells := 0, slots := 0, locals := 40 })).room s m ([.ref (g 0), .int p0] : List Value).toArray below meth c0 H locs 0 0 (MQ below (va_Qi (fun (r : Int32) (u : Unit) => r.toInt = (cnt (stP (F 15) p0.toInt) (v 19).toNatClampNeg : Int)) (fun (_ : Unit) => BM dC dI g c (v, F, rc)) (AM g s.heap.size)) ([.ref (g 0), .int p0] : List Value).toArray s 0 0 (AM g s.heap.size)) (F0 m 4 ls []) := by
    intro n
    induction n with
    | zero =>
      intro x3_lp6563 x2_lp6563 H locs ls t6564 t6565 t6566 t6567 hm hP hS hl
      exfalso
      have := i32_rng x3_lp6563
      have := i32_rng x2_lp6563
      omega
    | succ n ih_lp6563 =>
      intro x3_lp6563 x2_lp6563 H locs ls t6564 t6565 t6566 t6567 hm hP hS hl
      have rx3_lp6563 := i32_rng x3_lp6563
      have rx2_lp6563 := i32_rng x2_lp6563
      refine lv_iload_n hx hb dX12_staysOf_4 rfl (lv_at hl 0 rfl) ?_
      refine lv_aload_n hx hb dX12_staysOf_5 rfl (lv_at hl 2 rfl) ?_
      refine va_get (D := (dC, dI)) (ci := 12) (v := .int (v 19)) (C := RX12) (T := TX12) (N := 63) hx hb hwd inA_X12 hown hK hP 0 rfl rfl 19 (by decide) (hwd _ wk_494) (fun _ h9 => h9) rfl dX12_staysOf_6 ?_
      have t6568 : 0 ≤ (v 19).toInt ∧ (v 19).toInt ≤ 500 := hI.1 19 _ _ rfl
      refine lv_icmp_ge (tgt := 36) hx hb dX12_staysOf_9 (by decide) (fun c6569 => ?_) (fun c6569 => ?_)
      · skip
        have t6570 := cv_le (a := (v 19).toInt) rfl (b := x3_lp6563.toInt) rfl c6569
        refine lv_iload_n hx hb dX12_staysOf_36 rfl (lv_at hl 1 rfl) ?_
        have hP9 : va_P (dC, dI) classes (wM g c v F rc) H := hP
        exact W.iret (v := x2_lp6563) hx hb hr (fun t ht hW => ⟨⟨x2_lp6563, (), rfl, (by have e9 := t6567; rw [ncl_eq (show x3_lp6563.toInt = (v 19).toInt by omega)] at e9; exact e9), (by show va_P _ _ _ t.heap; rw [ht]; exact hP9)⟩, hS.F ht⟩) hS.2.2 dX12_staysOf_37
      · skip
        have t6571 := cv_nle (a := (v 19).toInt) rfl (b := x3_lp6563.toInt) rfl c6569
        refine lv_iload_n hx hb dX12_staysOf_12 rfl (lv_at hl 1 rfl) ?_
        refine lv_aload_n hx hb dX12_staysOf_13 rfl (lv_at hl 2 rfl) ?_
        refine va_get (D := (dC, dI)) (ci := 12) (v := .ref (g 15)) (C := RX12) (T := TX12) (N := 63) hx hb hwd inA_X12 hown hK hP 0 rfl rfl 20 (by decide) (hwd _ wk_196) (fun _ h9 => h9) rfl dX12_staysOf_14 ?_
        refine lv_iload_n hx hb dX12_staysOf_17 rfl (lv_at hl 0 rfl) ?_
        refine va_iald hx hb hK hP 15 14 rfl rfl (i := x3_lp6563) (vin (a := x3_lp6563.toInt) rfl (by omega)) dX12_staysOf_18 ?_
        refine lv_topi (fun z6572 e6573 => ?_)
        have t6574 : 0 ≤ z6572.toInt ∧ z6572.toInt ≤ 99 := by rw [e6573]; exact hI.2 15 _ _ rfl _
        have tzz6572 : z6572.toInt = (F 15 (x3_lp6563 : Int32).toNatClampNeg).toInt := congrArg Int32.toInt e6573
        refine lv_iload_n hx hb dX12_staysOf_19 rfl (lv_at hl 3 rfl) ?_
        refine lv_icmp_ne (tgt := 27) hx hb dX12_staysOf_20 (by decide) (fun c6575 => ?_) (fun c6575 => ?_)
        · skip
          have t6576 := cv_ne (a := z6572.toInt) rfl (b := p0.toInt) rfl c6575
          refine lv_iconst (v := 0) hx hb dX12_staysOf_27 (by decide) ?_
          refine lv_iadd hx hb dX12_staysOf_28 ?_
          refine lv_topi (fun z6577 e6578 => ?_)
          try (have t6579 := tadd e6578 (a := x2_lp6563.toInt) rfl (b := 0) (by decide) (by omega))
          refine lv_istore_n (lv' := [(2, .int z6577), (3, .int x3_lp6563), (0, .ref (g 0)), (1, .int p0)]) hx hb dX12_staysOf_29 rfl hl (by decide) rfl (fun ls hl => ?_)
          obtain ⟨z6580, e6581⟩ : ∃ y : Int32, y = x3_lp6563 + 1 := ⟨_, rfl⟩
          try (have t6582 := tadd e6581 rfl (b := 1) (by decide) (by omega))
          refine lv_iinc (v := z6580) (lv' := [(3, .int z6580), (2, .int z6577), (0, .ref (g 0)), (1, .int p0)]) hx hb dX12_staysOf_30 hl (k := 1) rfl (by rw [e6581]; rfl) (by decide) rfl (fun ls hl => ?_)
          refine lv_goto (tgt := 4) hx hb dX12_staysOf_33 (by decide) ?_
          exact ih_lp6563 z6580 z6577  _ _ _ (by omega) (by omega) (by omega) (by first | exact cnt_s1 (by omega) (by omega) t6567 (decide_eq_true (by omega)) (by omega) | exact cnt_s0 (by omega) (by omega) t6567 (fun q => by have q := of_decide_eq_true q; omega) (by omega)) (by omega) hP hS (lv_sub hl [0, 1, 2, 3] rfl)
        · skip
          have t6583 := cv_eq (a := z6572.toInt) rfl (b := p0.toInt) rfl c6575
          refine lv_iconst (v := 1) hx hb dX12_staysOf_23 (by decide) ?_
          refine lv_goto (tgt := 28) hx hb dX12_staysOf_24 (by decide) ?_
          refine lv_iadd hx hb dX12_staysOf_28 ?_
          refine lv_topi (fun z6584 e6585 => ?_)
          try (have t6586 := tadd e6585 (a := x2_lp6563.toInt) rfl (b := 1) (by decide) (by omega))
          refine lv_istore_n (lv' := [(2, .int z6584), (3, .int x3_lp6563), (0, .ref (g 0)), (1, .int p0)]) hx hb dX12_staysOf_29 rfl hl (by decide) rfl (fun ls hl => ?_)
          obtain ⟨z6587, e6588⟩ : ∃ y : Int32, y = x3_lp6563 + 1 := ⟨_, rfl⟩
          try (have t6589 := tadd e6588 rfl (b := 1) (by decide) (by omega))
          refine lv_iinc (v := z6587) (lv' := [(3, .int z6587), (2, .int z6584), (0, .ref (g 0)), (1, .int p0)]) hx hb dX12_staysOf_30 hl (k := 1) rfl (by rw [e6588]; rfl) (by decide) rfl (fun ls hl => ?_)
          refine lv_goto (tgt := 4) hx hb dX12_staysOf_33 (by decide) ?_
          exact ih_lp6563 z6587 z6584  _ _ _ (by omega) (by omega) (by omega) (by first | exact cnt_s1 (by omega) (by omega) t6567 (decide_eq_true (by omega)) (by omega) | exact cnt_s0 (by omega) (by omega) t6567 (fun q => by have q := of_decide_eq_true q; omega) (by omega)) (by omega) hP hS (lv_sub hl [0, 1, 2, 3] rfl)
  obtain ⟨n9, hn9⟩ : ∃ n : Nat, 2147483648 - 0 ≤ (n : Int) := ⟨((2147483648 - 0 : Int)).toNat, by omega⟩
  exact lp6563 n9 0 0  H _ ls (by have : (0 : Int32).toInt = 0 := (by decide); have : (0 : Int32).toInt = 0 := (by decide); omega) (by have : (0 : Int32).toInt = 0 := (by decide); have : (0 : Int32).toInt = 0 := (by decide); omega) (by have : (0 : Int32).toInt = 0 := (by decide); omega) (by rfl) (by have : (0 : Int32).toInt = 0 := (by decide); have : (0 : Int32).toInt = 0 := (by decide); omega) hP hS hl
set_option maxHeartbeats 8000000 in
set_option maxRecDepth 100000 in
theorem c_X12_stayOf (l : Launch) (dC : Nat → ClassId) (dI : Nat → Nat → Nat) (g : Nat → Nat) (c : Nat → ClassId) (adK adV : Nat → Nat) (v : Nat → Int32) (F : Nat → Nat → Int32) (rc sz : Nat) (p0 : Int32) (p1 : Int32) (hg : injM g) (hI : IM v F) : Met l yX12_stayOf (Cond.code yX12_stayOf cX12_stayOf 6 (some .int) :: wA) ({ frames := 2, cells := 0, slots := 0, locals := 80 }) (va_Pc [.ref (g 0), .int p0, .int p1] (PM dC dI g c adK adV v F rc sz)) (va_Qi (fun (r : Int32) (u : Unit) => ((0 ≤ r.toInt ∧ r.toInt < (v 19).toInt) ∧ (F 15 r.toNatClampNeg).toInt = p0.toInt ∧ (cnt (ahP (F 15) (F 17) p0.toInt r.toNatClampNeg) (v 19).toNatClampNeg : Int) = p1.toInt) ∨ (r.toInt = -1 ∧ ∀ s : Nat, (s : Int) < (v 19).toInt → ((F 15 s).toInt = p0.toInt → (cnt (ahP (F 15) (F 17) p0.toInt s) (v 19).toNatClampNeg : Int) ≠ p1.toInt))) (fun (_ : Unit) => BM dC dI g c (v, F, rc)) (AM g sz)) 0 0 (AM g sz) := by
  refine Met.ofW (cc := cX12_stayOf) (maxL := 6) (ret := (some .int)) (by decide) rfl ?_
  intro p e s m args below meth c0 s₁ B hml hv
  obtain ⟨rfl, hsz, hP, hK, hE⟩ := hv
  have hx := B.exec
  have hb := B.bytes
  have hr := B.returns
  have hts := atoms_spec (ws := Cond.code yX12_stayOf cX12_stayOf 6 (some .int) :: wA) B.pre
  have hwd : ∀ w ∈ wA, w.before _ s = true := fun w h => hts w (List.mem_cons_of_mem _ h)
  have hown : s.vm.findClass RX12 = some m.cls := findClass_of_methodNamed B.named
  have hlocks := B.notSynchronized
  subst hsz
  have hl := lv_entry ([.ref (g 0), .int p0, .int p1]) (n := 6) (Nat.le_of_ble_eq_true rfl)
  rw [lg_entry_eq]
  generalize (lg_sl ([.ref (g 0), .int p0, .int p1]) ++ List.replicate (6 - (lg_sl ([.ref (g 0), .int p0, .int p1])).length) Slot.unset).toArray = ls at hl ⊢
  have hl : lv_has ls 6 [(0, .ref (g 0)), (1, .int p0), (2, .int p1)] := hl
  obtain ⟨H, eH⟩ : ∃ z, z = s.heap := ⟨_, rfl⟩
  have hP : va_P (dC, dI) classes (wM g c v F rc) H := by rw [eH]; exact hP
  have hS : va_S (AM g s.heap.size) s.heap H [] := by rw [eH]; exact va_S.rf
  refine my_heap eH ?_
  have rp0 := i32_rng p0
  have rp1 := i32_rng p1
  have hb19 : 0 ≤ (v 19).toInt ∧ (v 19).toInt ≤ 500 := hI.1 19 _ _ rfl
  refine lv_iconst (v := 0) hx hb dX12_stayOf_0 (by decide) ?_
  refine lv_istore_n (lv' := [(3, .int 0), (0, .ref (g 0)), (1, .int p0), (2, .int p1)]) hx hb dX12_stayOf_1 rfl hl (by decide) rfl (fun ls hl => ?_)
  have lp6590 : ∀ (n : Nat) (x3_lp6590 : Int32) (H : Heap) (locs : List Loc) (ls : Array Slot), (0 ≤ x3_lp6590.toInt) → (∀ s : Nat, (s : Int) < x3_lp6590.toInt → ((F 15 s).toInt = p0.toInt → (cnt (ahP (F 15) (F 17) p0.toInt s) (v 19).toNatClampNeg : Int) ≠ p1.toInt)) → (2147483648 - x3_lp6590.toInt ≤ (n : Int)) → va_P (dC, dI) classes (wM g c v F rc) H → va_S (AM g s.heap.size) s.heap H locs → lv_has ls 6 [(3, .int x3_lp6590), (0, .ref (g 0)), (1, .int p0), (2, .int p1)] → W p l e (headSpec (Cond.code yX12_stayOf cX12_stayOf 6 (some .int) :: wA) ({ frames := 2, cells := 0, slots := 0, locals := 80 })).room s m ([.ref (g 0), .int p0, .int p1] : List Value).toArray below meth c0 H locs 0 0 (MQ below (va_Qi (fun (r : Int32) (u : Unit) => ((0 ≤ r.toInt ∧ r.toInt < (v 19).toInt) ∧ (F 15 r.toNatClampNeg).toInt = p0.toInt ∧ (cnt (ahP (F 15) (F 17) p0.toInt r.toNatClampNeg) (v 19).toNatClampNeg : Int) = p1.toInt) ∨ (r.toInt = -1 ∧ ∀ s : Nat, (s : Int) < (v 19).toInt → ((F 15 s).toInt = p0.toInt → (cnt (ahP (F 15) (F 17) p0.toInt s) (v 19).toNatClampNeg : Int) ≠ p1.toInt))) (fun (_ : Unit) => BM dC dI g c (v, F, rc)) (AM g s.heap.size)) ([.ref (g 0), .int p0, .int p1] : List Value).toArray s 0 0 (AM g s.heap.size)) (F0 m 2 ls []) := by
    intro n
    induction n with
    | zero =>
      intro x3_lp6590 H locs ls t6591 t6592 hm hP hS hl
      exfalso
      have := i32_rng x3_lp6590
      omega
    | succ n ih_lp6590 =>
      intro x3_lp6590 H locs ls t6591 t6592 hm hP hS hl
      have rx3_lp6590 := i32_rng x3_lp6590
      refine lv_iload_n hx hb dX12_stayOf_2 rfl (lv_at hl 0 rfl) ?_
      refine lv_aload_n hx hb dX12_stayOf_3 rfl (lv_at hl 1 rfl) ?_
      refine va_get (D := (dC, dI)) (ci := 12) (v := .int (v 19)) (C := RX12) (T := TX12) (N := 63) hx hb hwd inA_X12 hown hK hP 0 rfl rfl 19 (by decide) (hwd _ wk_494) (fun _ h9 => h9) rfl dX12_stayOf_4 ?_
      have t6593 : 0 ≤ (v 19).toInt ∧ (v 19).toInt ≤ 500 := hI.1 19 _ _ rfl
      refine lv_icmp_ge (tgt := 89) hx hb dX12_stayOf_7 (by decide) (fun c6594 => ?_) (fun c6594 => ?_)
      · skip
        have t6595 := cv_le (a := (v 19).toInt) rfl (b := x3_lp6590.toInt) rfl c6594
        refine lv_iconst (v := (-1)) hx hb dX12_stayOf_89 (by decide) ?_
        have hP9 : va_P (dC, dI) classes (wM g c v F rc) H := hP
        exact W.iret (v := (-1)) hx hb hr (fun t ht hW => ⟨⟨(-1), (), rfl, (Or.inr ⟨by decide, fun s hs => t6592 s (by omega)⟩), (by show va_P _ _ _ t.heap; rw [ht]; exact hP9)⟩, hS.F ht⟩) hS.2.2 dX12_stayOf_90
      · skip
        have t6596 := cv_nle (a := (v 19).toInt) rfl (b := x3_lp6590.toInt) rfl c6594
        refine lv_aload_n hx hb dX12_stayOf_10 rfl (lv_at hl 1 rfl) ?_
        refine va_get (D := (dC, dI)) (ci := 12) (v := .ref (g 15)) (C := RX12) (T := TX12) (N := 63) hx hb hwd inA_X12 hown hK hP 0 rfl rfl 20 (by decide) (hwd _ wk_196) (fun _ h9 => h9) rfl dX12_stayOf_11 ?_
        refine lv_iload_n hx hb dX12_stayOf_14 rfl (lv_at hl 0 rfl) ?_
        refine va_iald hx hb hK hP 15 14 rfl rfl (i := x3_lp6590) (vin (a := x3_lp6590.toInt) rfl (by omega)) dX12_stayOf_15 ?_
        refine lv_topi (fun z6597 e6598 => ?_)
        have t6599 : 0 ≤ z6597.toInt ∧ z6597.toInt ≤ 99 := by rw [e6598]; exact hI.2 15 _ _ rfl _
        have tzz6597 : z6597.toInt = (F 15 (x3_lp6590 : Int32).toNatClampNeg).toInt := congrArg Int32.toInt e6598
        refine lv_iload_n hx hb dX12_stayOf_16 rfl (lv_at hl 2 rfl) ?_
        refine lv_icmp_eq (tgt := 23) hx hb dX12_stayOf_17 (by decide) (fun c6600 => ?_) (fun c6600 => ?_)
        · skip
          have t6601 := cv_eq (a := z6597.toInt) rfl (b := p0.toInt) rfl c6600
          refine lv_iconst (v := 0) hx hb dX12_stayOf_23 (by decide) ?_
          refine lv_istore (lv' := [(4, .int 0), (3, .int x3_lp6590), (0, .ref (g 0)), (1, .int p0), (2, .int p1)]) hx hb dX12_stayOf_24 hl (by decide) rfl (fun ls hl => ?_)
          refine lv_iconst (v := 0) hx hb dX12_stayOf_26 (by decide) ?_
          refine lv_istore (lv' := [(5, .int 0), (4, .int 0), (3, .int x3_lp6590), (0, .ref (g 0)), (1, .int p0), (2, .int p1)]) hx hb dX12_stayOf_27 hl (by decide) rfl (fun ls hl => ?_)
          have lp6602 : ∀ (n : Nat) (x5_lp6602 : Int32) (x4_lp6602 : Int32) (H : Heap) (locs : List Loc) (ls : Array Slot), (0 ≤ x5_lp6602.toInt) → (x5_lp6602.toInt ≤ (v 19).toInt) → (0 ≤ x4_lp6602.toInt ∧ x4_lp6602.toInt ≤ x5_lp6602.toInt) → (x4_lp6602.toInt = (cnt (ahP (F 15) (F 17) p0.toInt x3_lp6590.toNatClampNeg) x5_lp6602.toNatClampNeg : Int)) → (2147483648 - x5_lp6602.toInt ≤ (n : Int)) → va_P (dC, dI) classes (wM g c v F rc) H → va_S (AM g s.heap.size) s.heap H locs → lv_has ls 6 [(5, .int x5_lp6602), (4, .int x4_lp6602), (3, .int x3_lp6590), (0, .ref (g 0)), (1, .int p0), (2, .int p1)] → W p l e (headSpec (Cond.code yX12_stayOf cX12_stayOf 6 (some .int) :: wA) ({ frames := 2, cells := 0, slots := 0, locals := 80 })).room s m ([.ref (g 0), .int p0, .int p1] : List Value).toArray below meth c0 H locs 0 0 (MQ below (va_Qi (fun (r : Int32) (u : Unit) => ((0 ≤ r.toInt ∧ r.toInt < (v 19).toInt) ∧ (F 15 r.toNatClampNeg).toInt = p0.toInt ∧ (cnt (ahP (F 15) (F 17) p0.toInt r.toNatClampNeg) (v 19).toNatClampNeg : Int) = p1.toInt) ∨ (r.toInt = -1 ∧ ∀ s : Nat, (s : Int) < (v 19).toInt → ((F 15 s).toInt = p0.toInt → (cnt (ahP (F 15) (F 17) p0.toInt s) (v 19).toNatClampNeg : Int) ≠ p1.toInt))) (fun (_ : Unit) => BM dC dI g c (v, F, rc)) (AM g s.heap.size)) ([.ref (g 0), .int p0, .int p1] : List Value).toArray s 0 0 (AM g s.heap.size)) (F0 m 29 ls []) := by
            intro n
            induction n with
            | zero =>
              intro x5_lp6602 x4_lp6602 H locs ls t6603 t6604 t6605 t6606 hm hP hS hl
              exfalso
              have := i32_rng x5_lp6602
              have := i32_rng x4_lp6602
              omega
            | succ n ih_lp6602 =>
              intro x5_lp6602 x4_lp6602 H locs ls t6603 t6604 t6605 t6606 hm hP hS hl
              have rx5_lp6602 := i32_rng x5_lp6602
              have rx4_lp6602 := i32_rng x4_lp6602
              refine lv_iload hx hb dX12_stayOf_29 (lv_at hl 0 rfl) ?_
              refine lv_aload_n hx hb dX12_stayOf_31 rfl (lv_at hl 3 rfl) ?_
              refine va_get (D := (dC, dI)) (ci := 12) (v := .int (v 19)) (C := RX12) (T := TX12) (N := 63) hx hb hwd inA_X12 hown hK hP 0 rfl rfl 19 (by decide) (hwd _ wk_494) (fun _ h9 => h9) rfl dX12_stayOf_32 ?_
              have t6607 : 0 ≤ (v 19).toInt ∧ (v 19).toInt ≤ 500 := hI.1 19 _ _ rfl
              refine lv_icmp_ge (tgt := 75) hx hb dX12_stayOf_35 (by decide) (fun c6608 => ?_) (fun c6608 => ?_)
              · skip
                have t6609 := cv_le (a := (v 19).toInt) rfl (b := x5_lp6602.toInt) rfl c6608
                refine lv_iload hx hb dX12_stayOf_75 (lv_at hl 1 rfl) ?_
                refine lv_iload_n hx hb dX12_stayOf_77 rfl (lv_at hl 5 rfl) ?_
                refine lv_icmp_ne (tgt := 83) hx hb dX12_stayOf_78 (by decide) (fun c6610 => ?_) (fun c6610 => ?_)
                · skip
                  have t6611 := cv_ne (a := x4_lp6602.toInt) rfl (b := p1.toInt) rfl c6610
                  obtain ⟨z6612, e6613⟩ : ∃ y : Int32, y = x3_lp6590 + 1 := ⟨_, rfl⟩
                  try (have t6614 := tadd e6613 rfl (b := 1) (by decide) (by omega))
                  refine lv_iinc (v := z6612) (lv' := [(3, .int z6612), (5, .int x5_lp6602), (4, .int x4_lp6602), (0, .ref (g 0)), (1, .int p0), (2, .int p1)]) hx hb dX12_stayOf_83 hl (k := 2) rfl (by rw [e6613]; rfl) (by decide) rfl (fun ls hl => ?_)
                  refine lv_goto (tgt := 2) hx hb dX12_stayOf_86 (by decide) ?_
                  exact ih_lp6590 z6612  _ _ _ (by omega) (all_step (x := x3_lp6590) (P := fun s => ((F 15 s).toInt = p0.toInt → (cnt (ahP (F 15) (F 17) p0.toInt s) (v 19).toNatClampNeg : Int) ≠ p1.toInt)) (by omega) t6592 (by have e9 := t6606; rw [ncl_eq (show x5_lp6602.toInt = (v 19).toInt by omega)] at e9; intro _; omega)) (by omega) hP hS (lv_sub hl [0, 3, 4, 5] rfl)
                · skip
                  have t6615 := cv_eq (a := x4_lp6602.toInt) rfl (b := p1.toInt) rfl c6610
                  refine lv_iload_n hx hb dX12_stayOf_81 rfl (lv_at hl 2 rfl) ?_
                  have hP9 : va_P (dC, dI) classes (wM g c v F rc) H := hP
                  exact W.iret (v := x3_lp6590) hx hb hr (fun t ht hW => ⟨⟨x3_lp6590, (), rfl, (by have e9 := t6606; rw [ncl_eq (show x5_lp6602.toInt = (v 19).toInt by omega)] at e9; exact Or.inl ⟨by omega, by omega, by omega⟩), (by show va_P _ _ _ t.heap; rw [ht]; exact hP9)⟩, hS.F ht⟩) hS.2.2 dX12_stayOf_82
              · skip
                have t6616 := cv_nle (a := (v 19).toInt) rfl (b := x5_lp6602.toInt) rfl c6608
                refine lv_iload hx hb dX12_stayOf_38 (lv_at hl 1 rfl) ?_
                refine lv_aload_n hx hb dX12_stayOf_40 rfl (lv_at hl 3 rfl) ?_
                refine va_get (D := (dC, dI)) (ci := 12) (v := .ref (g 15)) (C := RX12) (T := TX12) (N := 63) hx hb hwd inA_X12 hown hK hP 0 rfl rfl 20 (by decide) (hwd _ wk_196) (fun _ h9 => h9) rfl dX12_stayOf_41 ?_
                refine lv_iload hx hb dX12_stayOf_44 (lv_at hl 0 rfl) ?_
                refine va_iald hx hb hK hP 15 14 rfl rfl (i := x5_lp6602) (vin (a := x5_lp6602.toInt) rfl (by omega)) dX12_stayOf_46 ?_
                refine lv_topi (fun z6617 e6618 => ?_)
                have t6619 : 0 ≤ z6617.toInt ∧ z6617.toInt ≤ 99 := by rw [e6618]; exact hI.2 15 _ _ rfl _
                have tzz6617 : z6617.toInt = (F 15 (x5_lp6602 : Int32).toNatClampNeg).toInt := congrArg Int32.toInt e6618
                refine lv_iload_n hx hb dX12_stayOf_47 rfl (lv_at hl 4 rfl) ?_
                refine lv_icmp_ne (tgt := 65) hx hb dX12_stayOf_48 (by decide) (fun c6620 => ?_) (fun c6620 => ?_)
                · skip
                  have t6621 := cv_ne (a := z6617.toInt) rfl (b := p0.toInt) rfl c6620
                  refine lv_iconst (v := 0) hx hb dX12_stayOf_65 (by decide) ?_
                  refine lv_iadd hx hb dX12_stayOf_66 ?_
                  refine lv_topi (fun z6622 e6623 => ?_)
                  try (have t6624 := tadd e6623 (a := x4_lp6602.toInt) rfl (b := 0) (by decide) (by omega))
                  refine lv_istore (lv' := [(4, .int z6622), (5, .int x5_lp6602), (3, .int x3_lp6590), (0, .ref (g 0)), (1, .int p0), (2, .int p1)]) hx hb dX12_stayOf_67 hl (by decide) rfl (fun ls hl => ?_)
                  obtain ⟨z6625, e6626⟩ : ∃ y : Int32, y = x5_lp6602 + 1 := ⟨_, rfl⟩
                  try (have t6627 := tadd e6626 rfl (b := 1) (by decide) (by omega))
                  refine lv_iinc (v := z6625) (lv' := [(5, .int z6625), (4, .int z6622), (3, .int x3_lp6590), (0, .ref (g 0)), (1, .int p0), (2, .int p1)]) hx hb dX12_stayOf_69 hl (k := 1) rfl (by rw [e6626]; rfl) (by decide) rfl (fun ls hl => ?_)
                  refine lv_goto (tgt := 29) hx hb dX12_stayOf_72 (by decide) ?_
                  exact ih_lp6602 z6625 z6622  _ _ _ (by omega) (by omega) (by omega) (by have n9 := ncl_i (x := x5_lp6602) (by omega); have n8 := ncl_i (x := x3_lp6590) (by omega); first | exact cnt_s1 (x := x5_lp6602) (by omega) (by omega) t6606 (decide_eq_true (by omega)) (by omega) | exact cnt_s0 (x := x5_lp6602) (by omega) (by omega) t6606 (fun q => by have q := of_decide_eq_true q; omega) (by omega)) (by omega) hP hS (lv_sub hl [0, 1, 2, 3, 4, 5] rfl)
                · skip
                  have t6628 := cv_eq (a := z6617.toInt) rfl (b := p0.toInt) rfl c6620
                  refine lv_aload_n hx hb dX12_stayOf_51 rfl (lv_at hl 3 rfl) ?_
                  refine lv_iload hx hb dX12_stayOf_52 (lv_at hl 0 rfl) ?_
                  refine lv_iload_n hx hb dX12_stayOf_54 rfl (lv_at hl 2 rfl) ?_
                  refine va_calli (va_runV (As := [.int x5_lp6602, .int x3_lp6590]) (rest := [.int x4_lp6602]) ⟨hx, hb, hml, hown, hwd⟩ (c_X12_isAhead l dC dI g c adK adV v F rc H.size x5_lp6602 x3_lp6590 hg hI (by omega) (by omega)) (cwV 2 hwd (gV wk_509 wk_506 wk_507 wk_508 wk_5) rfl rfl rfl (by decide +kernel) ⟨Nat.le_of_ble_eq_true rfl, Nat.le_of_ble_eq_true rfl⟩) ⟨PM.blind, va_recv hK hP (ci := 12) (q0 := 0) rfl rfl, fun U hU hW => ⟨rfl, PM.at hK hE hP hS hU hW⟩⟩ rfl rfl hl.1 rfl (lv_room (Nat.le_of_ble_eq_true rfl)) dX12_stayOf_55 ⟨Nat.le_of_ble_eq_true rfl, Nat.le_of_ble_eq_true rfl⟩) hS (fun q _ h => (freeM hS) q h) (freeM hS) (fun r6629 u t H1 locs ht hvm hw hB hz1 hk1 hS => ?_)
                  unfold BM at hB
                  rw [ht] at hB
                  have hP : va_P (dC, dI) classes (wM g c v F rc) H1 := hB
                  replace hw : (r6629.toInt = 1 ∧ ((F 17 x5_lp6602.toNatClampNeg).toInt < (F 17 x3_lp6590.toNatClampNeg).toInt ∨ ((F 17 x5_lp6602.toNatClampNeg).toInt = (F 17 x3_lp6590.toNatClampNeg).toInt ∧ x5_lp6602.toInt < x3_lp6590.toInt))) ∨ (r6629.toInt = 0 ∧ ¬ ((F 17 x5_lp6602.toNatClampNeg).toInt < (F 17 x3_lp6590.toNatClampNeg).toInt ∨ ((F 17 x5_lp6602.toNatClampNeg).toInt = (F 17 x3_lp6590.toNatClampNeg).toInt ∧ x5_lp6602.toInt < x3_lp6590.toInt))) := hw
                  have hw_r6629 := hw
                  clear hw
                  clear hz1
                  generalize H1 = H at hP hS ⊢
                  refine lv_if_eq (tgt := 65) hx hb dX12_stayOf_58 (by decide) (fun c6630 => ?_) (fun c6630 => ?_)
                  · skip
                    have t6631 := cv_eq (a := r6629.toInt) rfl (b := 0) (by decide) c6630
                    refine lv_iconst (v := 0) hx hb dX12_stayOf_65 (by decide) ?_
                    refine lv_iadd hx hb dX12_stayOf_66 ?_
                    refine lv_topi (fun z6632 e6633 => ?_)
                    try (have t6634 := tadd e6633 (a := x4_lp6602.toInt) rfl (b := 0) (by decide) (by omega))
                    refine lv_istore (lv' := [(4, .int z6632), (5, .int x5_lp6602), (3, .int x3_lp6590), (0, .ref (g 0)), (1, .int p0), (2, .int p1)]) hx hb dX12_stayOf_67 hl (by decide) rfl (fun ls hl => ?_)
                    obtain ⟨z6635, e6636⟩ : ∃ y : Int32, y = x5_lp6602 + 1 := ⟨_, rfl⟩
                    try (have t6637 := tadd e6636 rfl (b := 1) (by decide) (by omega))
                    refine lv_iinc (v := z6635) (lv' := [(5, .int z6635), (4, .int z6632), (3, .int x3_lp6590), (0, .ref (g 0)), (1, .int p0), (2, .int p1)]) hx hb dX12_stayOf_69 hl (k := 1) rfl (by rw [e6636]; rfl) (by decide) rfl (fun ls hl => ?_)
                    refine lv_goto (tgt := 29) hx hb dX12_stayOf_72 (by decide) ?_
                    exact ih_lp6602 z6635 z6632  _ _ _ (by omega) (by omega) (by omega) (by have n9 := ncl_i (x := x5_lp6602) (by omega); have n8 := ncl_i (x := x3_lp6590) (by omega); first | exact cnt_s1 (x := x5_lp6602) (by omega) (by omega) t6606 (decide_eq_true (by omega)) (by omega) | exact cnt_s0 (x := x5_lp6602) (by omega) (by omega) t6606 (fun q => by have q := of_decide_eq_true q; omega) (by omega)) (by omega) hP hS (lv_sub hl [0, 1, 2, 3, 4, 5] rfl)
                  · skip
                    have t6638 := cv_ne (a := r6629.toInt) rfl (b := 0) (by decide) c6630
                    refine lv_iconst (v := 1) hx hb dX12_stayOf_61 (by decide) ?_
                    refine lv_goto (tgt := 66) hx hb dX12_stayOf_62 (by decide) ?_
                    refine lv_iadd hx hb dX12_stayOf_66 ?_
                    refine lv_topi (fun z6639 e6640 => ?_)
                    try (have t6641 := tadd e6640 (a := x4_lp6602.toInt) rfl (b := 1) (by decide) (by omega))
                    refine lv_istore (lv' := [(4, .int z6639), (5, .int x5_lp6602), (3, .int x3_lp6590), (0, .ref (g 0)), (1, .int p0), (2, .int p1)]) hx hb dX12_stayOf_67 hl (by decide) rfl (fun ls hl => ?_)
                    obtain ⟨z6642, e6643⟩ : ∃ y : Int32, y = x5_lp6602 + 1 := ⟨_, rfl⟩
                    try (have t6644 := tadd e6643 rfl (b := 1) (by decide) (by omega))
                    refine lv_iinc (v := z6642) (lv' := [(5, .int z6642), (4, .int z6639), (3, .int x3_lp6590), (0, .ref (g 0)), (1, .int p0), (2, .int p1)]) hx hb dX12_stayOf_69 hl (k := 1) rfl (by rw [e6643]; rfl) (by decide) rfl (fun ls hl => ?_)
                    refine lv_goto (tgt := 29) hx hb dX12_stayOf_72 (by decide) ?_
                    exact ih_lp6602 z6642 z6639  _ _ _ (by omega) (by omega) (by omega) (by have n9 := ncl_i (x := x5_lp6602) (by omega); have n8 := ncl_i (x := x3_lp6590) (by omega); first | exact cnt_s1 (x := x5_lp6602) (by omega) (by omega) t6606 (decide_eq_true (by omega)) (by omega) | exact cnt_s0 (x := x5_lp6602) (by omega) (by omega) t6606 (fun q => by have q := of_decide_eq_true q; omega) (by omega)) (by omega) hP hS (lv_sub hl [0, 1, 2, 3, 4, 5] rfl)
          obtain ⟨n9, hn9⟩ : ∃ n : Nat, 2147483648 - 0 ≤ (n : Int) := ⟨((2147483648 - 0 : Int)).toNat, by omega⟩
          exact lp6602 n9 0 0  H _ ls (by have : (0 : Int32).toInt = 0 := (by decide); have : (0 : Int32).toInt = 0 := (by decide); omega) (by have : (0 : Int32).toInt = 0 := (by decide); have : (0 : Int32).toInt = 0 := (by decide); omega) (by have : (0 : Int32).toInt = 0 := (by decide); omega) (by rfl) (by have : (0 : Int32).toInt = 0 := (by decide); have : (0 : Int32).toInt = 0 := (by decide); omega) hP hS hl
        · skip
          have t6645 := cv_ne (a := z6597.toInt) rfl (b := p0.toInt) rfl c6600
          refine lv_goto (tgt := 83) hx hb dX12_stayOf_20 (by decide) ?_
          obtain ⟨z6646, e6647⟩ : ∃ y : Int32, y = x3_lp6590 + 1 := ⟨_, rfl⟩
          try (have t6648 := tadd e6647 rfl (b := 1) (by decide) (by omega))
          refine lv_iinc (v := z6646) (lv' := [(3, .int z6646), (0, .ref (g 0)), (1, .int p0), (2, .int p1)]) hx hb dX12_stayOf_83 hl (k := 0) rfl (by rw [e6647]; rfl) (by decide) rfl (fun ls hl => ?_)
          refine lv_goto (tgt := 2) hx hb dX12_stayOf_86 (by decide) ?_
          exact ih_lp6590 z6646  _ _ _ (by omega) (all_step (x := x3_lp6590) (P := fun s => ((F 15 s).toInt = p0.toInt → (cnt (ahP (F 15) (F 17) p0.toInt s) (v 19).toNatClampNeg : Int) ≠ p1.toInt)) (by omega) t6592 (by intro q9; exfalso; omega)) (by omega) hP hS (lv_sub hl [0, 1, 2, 3] rfl)
  obtain ⟨n9, hn9⟩ : ∃ n : Nat, 2147483648 - 0 ≤ (n : Int) := ⟨((2147483648 - 0 : Int)).toNat, by omega⟩
  exact lp6590 n9 0  H _ ls (by have : (0 : Int32).toInt = 0 := (by decide); omega) (fun j h => absurd h (by have : (0 : Int32).toInt = 0 := (by decide); omega)) (by have : (0 : Int32).toInt = 0 := (by decide); omega) hP hS hl
set_option maxHeartbeats 8000000 in
set_option maxRecDepth 100000 in
theorem c_X12_paper (l : Launch) (dC : Nat → ClassId) (dI : Nat → Nat → Nat) (g : Nat → Nat) (c : Nat → ClassId) (adK adV : Nat → Nat) (v : Nat → Int32) (F : Nat → Nat → Int32) (rc sz : Nat) (p0 : Int32) (p1 : Int32) (p2 : Int32) (hg : injM g) (hI : IM v F) : Met l yX12_paper (Cond.code yX12_paper cX12_paper 6 (some .int) :: wA) ({ frames := 3, cells := 0, slots := 0, locals := 120 }) (va_Pc [.ref (g 0), .int p0, .int p1, .int p2] (PM dC dI g c adK adV v F rc sz)) (va_Qi (fun (r : Int32) (u : StM) => IM u.1 u.2.1 ∧ u.2.2 = rc ∧ (∀ k, k ∉ ([] : List Nat) → u.1 k = v k) ∧ (∀ k, k ∉ ([23] : List Nat) → u.2.1 k = F k) ∧ True) (BM dC dI g c) (AM g sz)) 0 0 (AM g sz) := by
  refine Met.ofW (cc := cX12_paper) (maxL := 6) (ret := (some .int)) (by decide) rfl ?_
  intro p e s m args below meth c0 s₁ B hml hv
  obtain ⟨rfl, hsz, hP, hK, hE⟩ := hv
  have hx := B.exec
  have hb := B.bytes
  have hr := B.returns
  have hts := atoms_spec (ws := Cond.code yX12_paper cX12_paper 6 (some .int) :: wA) B.pre
  have hwd : ∀ w ∈ wA, w.before _ s = true := fun w h => hts w (List.mem_cons_of_mem _ h)
  have hown : s.vm.findClass RX12 = some m.cls := findClass_of_methodNamed B.named
  have hlocks := B.notSynchronized
  subst hsz
  have hl := lv_entry ([.ref (g 0), .int p0, .int p1, .int p2]) (n := 6) (Nat.le_of_ble_eq_true rfl)
  rw [lg_entry_eq]
  generalize (lg_sl ([.ref (g 0), .int p0, .int p1, .int p2]) ++ List.replicate (6 - (lg_sl ([.ref (g 0), .int p0, .int p1, .int p2])).length) Slot.unset).toArray = ls at hl ⊢
  have hl : lv_has ls 6 [(0, .ref (g 0)), (1, .int p0), (2, .int p1), (3, .int p2)] := hl
  obtain ⟨H, eH⟩ : ∃ z, z = s.heap := ⟨_, rfl⟩
  have hP : va_P (dC, dI) classes (wM g c v F rc) H := by rw [eH]; exact hP
  have hS : va_S (AM g s.heap.size) s.heap H [] := by rw [eH]; exact va_S.rf
  refine my_heap eH ?_
  have hF : ∀ k, k ∉ ([23] : List Nat) → F k = F k := fun _ _ => rfl
  have rp0 := i32_rng p0
  have rp1 := i32_rng p1
  have rp2 := i32_rng p2
  refine lv_aload_n hx hb dX12_paper_0 rfl (lv_at hl 0 rfl) ?_
  refine lv_iload_n hx hb dX12_paper_1 rfl (lv_at hl 1 rfl) ?_
  have t6685 : 0 ≤ (v 14).toInt ∧ (v 14).toInt ≤ 100 := hI.1 14 _ _ rfl
  refine va_calli (va_runV (As := [.int p0]) (rest := []) ⟨hx, hb, hml, hown, hwd⟩ (c_X12_isPart l dC dI g c adK adV v F rc H.size p0 hg hI ) (cwV 1 hwd (gV wk_631 wk_628 wk_629 wk_630 wk_5) rfl rfl rfl (by decide +kernel) ⟨Nat.le_of_ble_eq_true rfl, Nat.le_of_ble_eq_true rfl⟩) ⟨PM.blind, va_recv hK hP (ci := 12) (q0 := 0) rfl rfl, fun U hU hW => ⟨rfl, PM.at hK hE hP hS hU hW⟩⟩ rfl rfl hl.1 rfl (lv_room (Nat.le_of_ble_eq_true rfl)) dX12_paper_2 ⟨Nat.le_of_ble_eq_true rfl, Nat.le_of_ble_eq_true rfl⟩) hS (fun q _ h => (freeM hS) q h) (freeM hS) (fun r6686 u t H1 locs ht hvm hw hB hz1 hk1 hS => ?_)
  unfold BM at hB
  rw [ht] at hB
  have hP : va_P (dC, dI) classes (wM g c v F rc) H1 := hB
  replace hw : (r6686.toInt = 1 ∧ 0 ≤ p0.toInt ∧ p0.toInt < (v 14).toInt) ∨ (r6686.toInt = 0 ∧ (p0.toInt < 0 ∨ (v 14).toInt ≤ p0.toInt)) := hw
  have hw_r6686 := hw
  clear hw
  clear hz1
  generalize H1 = H at hP hS ⊢
  refine lv_if_eq (tgt := 17) hx hb dX12_paper_5 (by decide) (fun c6687 => ?_) (fun c6687 => ?_)
  · skip
    have t6688 := cv_eq (a := r6686.toInt) rfl (b := 0) (by decide) c6687
    refine lv_iconst (v := (-1)) hx hb dX12_paper_17 (by decide) ?_
    have hP9 : va_P (dC, dI) classes (wM g c v F rc) H := hP
    exact W.iret (v := (-1)) hx hb hr (fun t ht hW => ⟨⟨(-1), (v, F, rc), rfl, ⟨hI, rfl, (fun _ _ => rfl), hF, trivial⟩, (by show va_P _ _ _ t.heap; rw [ht]; exact hP9)⟩, hS.F ht⟩) hS.2.2 dX12_paper_18
  · skip
    have t6689 := cv_ne (a := r6686.toInt) rfl (b := 0) (by decide) c6687
    refine lv_iload_n hx hb dX12_paper_8 rfl (lv_at hl 3 rfl) ?_
    refine lv_iconst (v := 0) hx hb dX12_paper_9 (by decide) ?_
    refine lv_iconst (v := 1) hx hb dX12_paper_10 (by decide) ?_
    refine va_calli (va_runS (As := [.int p2, .int 0, .int 1]) (rest := []) ⟨hx, hb, hml, hown, hwd⟩ (c_X12_in l dC dI g c adK adV v F rc H.size p2 0 1 hg hI ) (va_cwS 3 hwd (gT wk_254 wk_252 wk_253 wk_5) rfl rfl rfl (by decide +kernel) ⟨Nat.le_of_ble_eq_true rfl, Nat.le_of_ble_eq_true rfl⟩) ⟨PM.blind, fun U hU hW => ⟨rfl, PM.at hK hE hP hS hU hW⟩⟩ rfl rfl hl.1 rfl (lv_room (Nat.le_of_ble_eq_true rfl)) dX12_paper_11 ⟨Nat.le_of_ble_eq_true rfl, Nat.le_of_ble_eq_true rfl⟩) hS (fun q _ h => (freeM hS) q h) (freeM hS) (fun r6690 u t H1 locs ht hvm hw hB hz1 hk1 hS => ?_)
    unfold BM at hB
    rw [ht] at hB
    have hP : va_P (dC, dI) classes (wM g c v F rc) H1 := hB
    have hw_r6690 : (r6690.toInt = 1 ∧ (0 : Int32).toInt ≤ p2.toInt ∧ p2.toInt ≤ (1 : Int32).toInt) ∨ (r6690.toInt = 0 ∧ (p2.toInt < (0 : Int32).toInt ∨ (1 : Int32).toInt < p2.toInt)) := hw
    clear hw
    have k6691 : (0 : Int32).toInt = 0 := by decide
    have k6692 : (1 : Int32).toInt = 1 := by decide
    clear hz1
    generalize H1 = H at hP hS ⊢
    refine lv_if_ne (tgt := 19) hx hb dX12_paper_14 (by decide) (fun c6693 => ?_) (fun c6693 => ?_)
    · skip
      have t6694 := cv_ne (a := r6690.toInt) rfl (b := 0) (by decide) c6693
      refine lv_aload_n hx hb dX12_paper_19 rfl (lv_at hl 0 rfl) ?_
      refine lv_iload_n hx hb dX12_paper_20 rfl (lv_at hl 1 rfl) ?_
      refine lv_iload_n hx hb dX12_paper_21 rfl (lv_at hl 2 rfl) ?_
      have t6695 : 0 ≤ (v 19).toInt ∧ (v 19).toInt ≤ 500 := hI.1 19 _ _ rfl
      refine va_calli (va_runV (As := [.int p0, .int p1]) (rest := []) ⟨hx, hb, hml, hown, hwd⟩ (c_X12_stayOf l dC dI g c adK adV v F rc H.size p0 p1 hg hI ) (cwV 2 hwd (gV wk_744 wk_741 wk_742 wk_743 wk_5) rfl rfl rfl (by decide +kernel) ⟨Nat.le_of_ble_eq_true rfl, Nat.le_of_ble_eq_true rfl⟩) ⟨PM.blind, va_recv hK hP (ci := 12) (q0 := 0) rfl rfl, fun U hU hW => ⟨rfl, PM.at hK hE hP hS hU hW⟩⟩ rfl rfl hl.1 rfl (lv_room (Nat.le_of_ble_eq_true rfl)) dX12_paper_22 ⟨Nat.le_of_ble_eq_true rfl, Nat.le_of_ble_eq_true rfl⟩) hS (fun q _ h => (freeM hS) q h) (freeM hS) (fun r6696 u t H1 locs ht hvm hw hB hz1 hk1 hS => ?_)
      unfold BM at hB
      rw [ht] at hB
      have hP : va_P (dC, dI) classes (wM g c v F rc) H1 := hB
      replace hw : ((0 ≤ r6696.toInt ∧ r6696.toInt < (v 19).toInt) ∧ (F 15 r6696.toNatClampNeg).toInt = p0.toInt ∧ (cnt (ahP (F 15) (F 17) p0.toInt r6696.toNatClampNeg) (v 19).toNatClampNeg : Int) = p1.toInt) ∨ (r6696.toInt = -1 ∧ ∀ s : Nat, (s : Int) < (v 19).toInt → ((F 15 s).toInt = p0.toInt → (cnt (ahP (F 15) (F 17) p0.toInt s) (v 19).toNatClampNeg : Int) ≠ p1.toInt)) := hw
      have hw_r6696 := hw
      clear hw
      clear hz1
      generalize H1 = H at hP hS ⊢
      refine lv_istore (lv' := [(4, .int r6696), (0, .ref (g 0)), (1, .int p0), (2, .int p1), (3, .int p2)]) hx hb dX12_paper_25 hl (by decide) rfl (fun ls hl => ?_)
      refine lv_iload hx hb dX12_paper_27 (lv_at hl 0 rfl) ?_
      refine lv_if_ge (tgt := 34) hx hb dX12_paper_29 (by decide) (fun c6697 => ?_) (fun c6697 => ?_)
      · skip
        have t6698 := cv_le (a := 0) (by decide) (b := r6696.toInt) rfl c6697
        refine lv_aload_n hx hb dX12_paper_34 rfl (lv_at hl 1 rfl) ?_
        refine va_get (D := (dC, dI)) (ci := 12) (v := .ref (g 18)) (C := RX12) (T := TX12) (N := 63) hx hb hwd inA_X12 hown hK hP 0 rfl rfl 23 (by decide) (hwd _ wk_199) (fun _ h9 => h9) rfl dX12_paper_35 ?_
        refine lv_iload hx hb dX12_paper_38 (lv_at hl 0 rfl) ?_
        refine va_iald hx hb hK hP 18 17 rfl rfl (i := r6696) (vin (a := r6696.toInt) rfl (by omega)) dX12_paper_40 ?_
        refine lv_topi (fun z6699 e6700 => ?_)
        refine lv_ldc (v := 1000000) hx hb hown (hwd _ wk_500) dX12_paper_41 ?_
        refine lv_icmp_ne (tgt := 49) hx hb dX12_paper_43 (by decide) (fun c6701 => ?_) (fun c6701 => ?_)
        · skip
          have t6702 := cv_ne (a := z6699.toInt) rfl (b := 1000000) (by decide) c6701
          refine lv_aload_n hx hb dX12_paper_49 rfl (lv_at hl 1 rfl) ?_
          refine va_get (D := (dC, dI)) (ci := 12) (v := .ref (g 23)) (C := RX12) (T := TX12) (N := 63) hx hb hwd inA_X12 hown hK hP 0 rfl rfl 28 (by decide) (hwd _ wk_204) (fun _ h9 => h9) rfl dX12_paper_50 ?_
          refine lv_iload hx hb dX12_paper_53 (lv_at hl 0 rfl) ?_
          refine va_zald hx hb hK hP 23 22 rfl rfl (i := r6696) (vin (a := r6696.toInt) rfl (by omega)) dX12_paper_55 ?_
          refine lv_topi (fun z6703 e6704 => ?_)
          refine lv_if_eq (tgt := 63) hx hb dX12_paper_56 (by decide) (fun c6705 => ?_) (fun c6705 => ?_)
          · skip
            have t6706 := cv_eq (a := z6703.toInt) rfl (b := 0) (by decide) c6705
            refine lv_iconst (v := 0) hx hb dX12_paper_63 (by decide) ?_
            refine lv_istore (lv' := [(5, .int 0), (4, .int r6696), (0, .ref (g 0)), (1, .int p0), (2, .int p1), (3, .int p2)]) hx hb dX12_paper_64 hl (by decide) rfl (fun ls hl => ?_)
            refine lv_aload_n hx hb dX12_paper_66 rfl (lv_at hl 2 rfl) ?_
            refine va_get (D := (dC, dI)) (ci := 12) (v := .ref (g 23)) (C := RX12) (T := TX12) (N := 63) hx hb hwd inA_X12 hown hK hP 0 rfl rfl 28 (by decide) (hwd _ wk_204) (fun _ h9 => h9) rfl dX12_paper_67 ?_
            refine lv_iload hx hb dX12_paper_70 (lv_at hl 1 rfl) ?_
            refine lv_iload_n hx hb dX12_paper_72 rfl (lv_at hl 5 rfl) ?_
            refine lv_iconst (v := 1) hx hb dX12_paper_73 (by decide) ?_
            refine lv_icmp_ne (tgt := 81) hx hb dX12_paper_74 (by decide) (fun c6707 => ?_) (fun c6707 => ?_)
            · skip
              have t6708 := cv_ne (a := p2.toInt) rfl (b := 1) (by decide) c6707
              refine lv_iconst (v := 0) hx hb dX12_paper_81 (by decide) ?_
              refine va_zast hx hb hK hP (DM hg) hS 23 22 rfl rfl (i := r6696) (x := 0) (vin (a := r6696.toInt) rfl (by omega)) dX12_paper_82 (fun H locs hP _ hS => ?_)
              have hP := va_P_eq (sM_23 g c _ _ _ _) hP
              have hI := IM.store0 hI 23 (r6696 : Int32).toNatClampNeg (vp_nar .boolean 0) rfl
              have hF := frUF (k := 23) (f := upd (F 23) (r6696 : Int32).toNatClampNeg (vp_nar .boolean 0)) (by decide) hF
              have hP : va_P (dC, dI) classes (wM g c v (va_up F 23 (upd (F 23) (r6696 : Int32).toNatClampNeg (vp_nar .boolean 0))) rc) H := hP
              generalize (va_up F 23 (upd (F 23) (r6696 : Int32).toNatClampNeg (vp_nar .boolean 0))) = F6709 at hP hI hF
              refine lv_iload hx hb dX12_paper_83 (lv_at hl 0 rfl) ?_
              have hP9 : va_P (dC, dI) classes (wM g c v F6709 rc) H := hP
              exact W.iret (v := 0) hx hb hr (fun t ht hW => ⟨⟨0, (v, F6709, rc), rfl, ⟨hI, rfl, (fun _ _ => rfl), hF, trivial⟩, (by show va_P _ _ _ t.heap; rw [ht]; exact hP9)⟩, hS.F ht⟩) hS.2.2 dX12_paper_85
            · skip
              have t6710 := cv_eq (a := p2.toInt) rfl (b := 1) (by decide) c6707
              refine lv_iconst (v := 1) hx hb dX12_paper_77 (by decide) ?_
              refine lv_goto (tgt := 82) hx hb dX12_paper_78 (by decide) ?_
              refine va_zast hx hb hK hP (DM hg) hS 23 22 rfl rfl (i := r6696) (x := 1) (vin (a := r6696.toInt) rfl (by omega)) dX12_paper_82 (fun H locs hP _ hS => ?_)
              have hP := va_P_eq (sM_23 g c _ _ _ _) hP
              have hI := IM.store0 hI 23 (r6696 : Int32).toNatClampNeg (vp_nar .boolean 1) rfl
              have hF := frUF (k := 23) (f := upd (F 23) (r6696 : Int32).toNatClampNeg (vp_nar .boolean 1)) (by decide) hF
              have hP : va_P (dC, dI) classes (wM g c v (va_up F 23 (upd (F 23) (r6696 : Int32).toNatClampNeg (vp_nar .boolean 1))) rc) H := hP
              generalize (va_up F 23 (upd (F 23) (r6696 : Int32).toNatClampNeg (vp_nar .boolean 1))) = F6711 at hP hI hF
              refine lv_iload hx hb dX12_paper_83 (lv_at hl 0 rfl) ?_
              have hP9 : va_P (dC, dI) classes (wM g c v F6711 rc) H := hP
              exact W.iret (v := 0) hx hb hr (fun t ht hW => ⟨⟨0, (v, F6711, rc), rfl, ⟨hI, rfl, (fun _ _ => rfl), hF, trivial⟩, (by show va_P _ _ _ t.heap; rw [ht]; exact hP9)⟩, hS.F ht⟩) hS.2.2 dX12_paper_85
          · skip
            have t6712 := cv_ne (a := z6703.toInt) rfl (b := 0) (by decide) c6705
            refine lv_iconst (v := 1) hx hb dX12_paper_59 (by decide) ?_
            refine lv_goto (tgt := 64) hx hb dX12_paper_60 (by decide) ?_
            refine lv_istore (lv' := [(5, .int 1), (4, .int r6696), (0, .ref (g 0)), (1, .int p0), (2, .int p1), (3, .int p2)]) hx hb dX12_paper_64 hl (by decide) rfl (fun ls hl => ?_)
            refine lv_aload_n hx hb dX12_paper_66 rfl (lv_at hl 2 rfl) ?_
            refine va_get (D := (dC, dI)) (ci := 12) (v := .ref (g 23)) (C := RX12) (T := TX12) (N := 63) hx hb hwd inA_X12 hown hK hP 0 rfl rfl 28 (by decide) (hwd _ wk_204) (fun _ h9 => h9) rfl dX12_paper_67 ?_
            refine lv_iload hx hb dX12_paper_70 (lv_at hl 1 rfl) ?_
            refine lv_iload_n hx hb dX12_paper_72 rfl (lv_at hl 5 rfl) ?_
            refine lv_iconst (v := 1) hx hb dX12_paper_73 (by decide) ?_
            refine lv_icmp_ne (tgt := 81) hx hb dX12_paper_74 (by decide) (fun c6713 => ?_) (fun c6713 => ?_)
            · skip
              have t6714 := cv_ne (a := p2.toInt) rfl (b := 1) (by decide) c6713
              refine lv_iconst (v := 0) hx hb dX12_paper_81 (by decide) ?_
              refine va_zast hx hb hK hP (DM hg) hS 23 22 rfl rfl (i := r6696) (x := 0) (vin (a := r6696.toInt) rfl (by omega)) dX12_paper_82 (fun H locs hP _ hS => ?_)
              have hP := va_P_eq (sM_23 g c _ _ _ _) hP
              have hI := IM.store0 hI 23 (r6696 : Int32).toNatClampNeg (vp_nar .boolean 0) rfl
              have hF := frUF (k := 23) (f := upd (F 23) (r6696 : Int32).toNatClampNeg (vp_nar .boolean 0)) (by decide) hF
              have hP : va_P (dC, dI) classes (wM g c v (va_up F 23 (upd (F 23) (r6696 : Int32).toNatClampNeg (vp_nar .boolean 0))) rc) H := hP
              generalize (va_up F 23 (upd (F 23) (r6696 : Int32).toNatClampNeg (vp_nar .boolean 0))) = F6715 at hP hI hF
              refine lv_iload hx hb dX12_paper_83 (lv_at hl 0 rfl) ?_
              have hP9 : va_P (dC, dI) classes (wM g c v F6715 rc) H := hP
              exact W.iret (v := 1) hx hb hr (fun t ht hW => ⟨⟨1, (v, F6715, rc), rfl, ⟨hI, rfl, (fun _ _ => rfl), hF, trivial⟩, (by show va_P _ _ _ t.heap; rw [ht]; exact hP9)⟩, hS.F ht⟩) hS.2.2 dX12_paper_85
            · skip
              have t6716 := cv_eq (a := p2.toInt) rfl (b := 1) (by decide) c6713
              refine lv_iconst (v := 1) hx hb dX12_paper_77 (by decide) ?_
              refine lv_goto (tgt := 82) hx hb dX12_paper_78 (by decide) ?_
              refine va_zast hx hb hK hP (DM hg) hS 23 22 rfl rfl (i := r6696) (x := 1) (vin (a := r6696.toInt) rfl (by omega)) dX12_paper_82 (fun H locs hP _ hS => ?_)
              have hP := va_P_eq (sM_23 g c _ _ _ _) hP
              have hI := IM.store0 hI 23 (r6696 : Int32).toNatClampNeg (vp_nar .boolean 1) rfl
              have hF := frUF (k := 23) (f := upd (F 23) (r6696 : Int32).toNatClampNeg (vp_nar .boolean 1)) (by decide) hF
              have hP : va_P (dC, dI) classes (wM g c v (va_up F 23 (upd (F 23) (r6696 : Int32).toNatClampNeg (vp_nar .boolean 1))) rc) H := hP
              generalize (va_up F 23 (upd (F 23) (r6696 : Int32).toNatClampNeg (vp_nar .boolean 1))) = F6717 at hP hI hF
              refine lv_iload hx hb dX12_paper_83 (lv_at hl 0 rfl) ?_
              have hP9 : va_P (dC, dI) classes (wM g c v F6717 rc) H := hP
              exact W.iret (v := 1) hx hb hr (fun t ht hW => ⟨⟨1, (v, F6717, rc), rfl, ⟨hI, rfl, (fun _ _ => rfl), hF, trivial⟩, (by show va_P _ _ _ t.heap; rw [ht]; exact hP9)⟩, hS.F ht⟩) hS.2.2 dX12_paper_85
        · skip
          have t6718 := cv_eq (a := z6699.toInt) rfl (b := 1000000) (by decide) c6701
          refine lv_bipush (v := (-2)) hx hb dX12_paper_46 (by decide) ?_
          have hP9 : va_P (dC, dI) classes (wM g c v F rc) H := hP
          exact W.iret (v := (-2)) hx hb hr (fun t ht hW => ⟨⟨(-2), (v, F, rc), rfl, ⟨hI, rfl, (fun _ _ => rfl), hF, trivial⟩, (by show va_P _ _ _ t.heap; rw [ht]; exact hP9)⟩, hS.F ht⟩) hS.2.2 dX12_paper_48
      · skip
        have t6719 := cv_nle (a := 0) (by decide) (b := r6696.toInt) rfl c6697
        refine lv_iconst (v := (-1)) hx hb dX12_paper_32 (by decide) ?_
        have hP9 : va_P (dC, dI) classes (wM g c v F rc) H := hP
        exact W.iret (v := (-1)) hx hb hr (fun t ht hW => ⟨⟨(-1), (v, F, rc), rfl, ⟨hI, rfl, (fun _ _ => rfl), hF, trivial⟩, (by show va_P _ _ _ t.heap; rw [ht]; exact hP9)⟩, hS.F ht⟩) hS.2.2 dX12_paper_33
    · skip
      have t6720 := cv_eq (a := r6690.toInt) rfl (b := 0) (by decide) c6693
      refine lv_iconst (v := (-1)) hx hb dX12_paper_17 (by decide) ?_
      have hP9 : va_P (dC, dI) classes (wM g c v F rc) H := hP
      exact W.iret (v := (-1)) hx hb hr (fun t ht hW => ⟨⟨(-1), (v, F, rc), rfl, ⟨hI, rfl, (fun _ _ => rfl), hF, trivial⟩, (by show va_P _ _ _ t.heap; rw [ht]; exact hP9)⟩, hS.F ht⟩) hS.2.2 dX12_paper_18
set_option maxHeartbeats 8000000 in
set_option maxRecDepth 100000 in
theorem c_X12_stay (l : Launch) (dC : Nat → ClassId) (dI : Nat → Nat → Nat) (g : Nat → Nat) (c : Nat → ClassId) (adK adV : Nat → Nat) (v : Nat → Int32) (F : Nat → Nat → Int32) (rc sz : Nat) (p0 : Int32) (p1 : Int32) (p2 : Int32) (hg : injM g) (hI : IM v F) : Met l yX12_stay (Cond.code yX12_stay cX12_stay 5 (some .int) :: wA) ({ frames := 3, cells := 0, slots := 0, locals := 120 }) (va_Pc [.ref (g 0), .int p0, .int p1, .int p2] (PM dC dI g c adK adV v F rc sz)) (va_Qi (fun (r : Int32) (u : Unit) => True) (fun (_ : Unit) => BM dC dI g c (v, F, rc)) (AM g sz)) 0 0 (AM g sz) := by
  refine Met.ofW (cc := cX12_stay) (maxL := 5) (ret := (some .int)) (by decide) rfl ?_
  intro p e s m args below meth c0 s₁ B hml hv
  obtain ⟨rfl, hsz, hP, hK, hE⟩ := hv
  have hx := B.exec
  have hb := B.bytes
  have hr := B.returns
  have hts := atoms_spec (ws := Cond.code yX12_stay cX12_stay 5 (some .int) :: wA) B.pre
  have hwd : ∀ w ∈ wA, w.before _ s = true := fun w h => hts w (List.mem_cons_of_mem _ h)
  have hown : s.vm.findClass RX12 = some m.cls := findClass_of_methodNamed B.named
  have hlocks := B.notSynchronized
  subst hsz
  have hl := lv_entry ([.ref (g 0), .int p0, .int p1, .int p2]) (n := 5) (Nat.le_of_ble_eq_true rfl)
  rw [lg_entry_eq]
  generalize (lg_sl ([.ref (g 0), .int p0, .int p1, .int p2]) ++ List.replicate (5 - (lg_sl ([.ref (g 0), .int p0, .int p1, .int p2])).length) Slot.unset).toArray = ls at hl ⊢
  have hl : lv_has ls 5 [(0, .ref (g 0)), (1, .int p0), (2, .int p1), (3, .int p2)] := hl
  obtain ⟨H, eH⟩ : ∃ z, z = s.heap := ⟨_, rfl⟩
  have hP : va_P (dC, dI) classes (wM g c v F rc) H := by rw [eH]; exact hP
  have hS : va_S (AM g s.heap.size) s.heap H [] := by rw [eH]; exact va_S.rf
  refine my_heap eH ?_
  have rp0 := i32_rng p0
  have rp1 := i32_rng p1
  have rp2 := i32_rng p2
  refine lv_aload_n hx hb dX12_stay_0 rfl (lv_at hl 0 rfl) ?_
  refine lv_iload_n hx hb dX12_stay_1 rfl (lv_at hl 1 rfl) ?_
  have t6721 : 0 ≤ (v 14).toInt ∧ (v 14).toInt ≤ 100 := hI.1 14 _ _ rfl
  refine va_calli (va_runV (As := [.int p0]) (rest := []) ⟨hx, hb, hml, hown, hwd⟩ (c_X12_isPart l dC dI g c adK adV v F rc H.size p0 hg hI ) (cwV 1 hwd (gV wk_631 wk_628 wk_629 wk_630 wk_5) rfl rfl rfl (by decide +kernel) ⟨Nat.le_of_ble_eq_true rfl, Nat.le_of_ble_eq_true rfl⟩) ⟨PM.blind, va_recv hK hP (ci := 12) (q0 := 0) rfl rfl, fun U hU hW => ⟨rfl, PM.at hK hE hP hS hU hW⟩⟩ rfl rfl hl.1 rfl (lv_room (Nat.le_of_ble_eq_true rfl)) dX12_stay_2 ⟨Nat.le_of_ble_eq_true rfl, Nat.le_of_ble_eq_true rfl⟩) hS (fun q _ h => (freeM hS) q h) (freeM hS) (fun r6722 u t H1 locs ht hvm hw hB hz1 hk1 hS => ?_)
  unfold BM at hB
  rw [ht] at hB
  have hP : va_P (dC, dI) classes (wM g c v F rc) H1 := hB
  replace hw : (r6722.toInt = 1 ∧ 0 ≤ p0.toInt ∧ p0.toInt < (v 14).toInt) ∨ (r6722.toInt = 0 ∧ (p0.toInt < 0 ∨ (v 14).toInt ≤ p0.toInt)) := hw
  have hw_r6722 := hw
  clear hw
  clear hz1
  generalize H1 = H at hP hS ⊢
  refine lv_if_eq (tgt := 18) hx hb dX12_stay_5 (by decide) (fun c6723 => ?_) (fun c6723 => ?_)
  · skip
    have t6724 := cv_eq (a := r6722.toInt) rfl (b := 0) (by decide) c6723
    refine lv_ldc (v := (-2000000000)) hx hb hown (hwd _ wk_542) dX12_stay_18 ?_
    have hP9 : va_P (dC, dI) classes (wM g c v F rc) H := hP
    exact W.iret (v := (-2000000000)) hx hb hr (fun t ht hW => ⟨⟨(-2000000000), (), rfl, trivial, (by show va_P _ _ _ t.heap; rw [ht]; exact hP9)⟩, hS.F ht⟩) hS.2.2 dX12_stay_20
  · skip
    have t6725 := cv_ne (a := r6722.toInt) rfl (b := 0) (by decide) c6723
    refine lv_iload_n hx hb dX12_stay_8 rfl (lv_at hl 3 rfl) ?_
    refine lv_iconst (v := 0) hx hb dX12_stay_9 (by decide) ?_
    refine lv_bipush (v := 7) hx hb dX12_stay_10 (by decide) ?_
    refine va_calli (va_runS (As := [.int p2, .int 0, .int 7]) (rest := []) ⟨hx, hb, hml, hown, hwd⟩ (c_X12_in l dC dI g c adK adV v F rc H.size p2 0 7 hg hI ) (va_cwS 3 hwd (gT wk_254 wk_252 wk_253 wk_5) rfl rfl rfl (by decide +kernel) ⟨Nat.le_of_ble_eq_true rfl, Nat.le_of_ble_eq_true rfl⟩) ⟨PM.blind, fun U hU hW => ⟨rfl, PM.at hK hE hP hS hU hW⟩⟩ rfl rfl hl.1 rfl (lv_room (Nat.le_of_ble_eq_true rfl)) dX12_stay_12 ⟨Nat.le_of_ble_eq_true rfl, Nat.le_of_ble_eq_true rfl⟩) hS (fun q _ h => (freeM hS) q h) (freeM hS) (fun r6726 u t H1 locs ht hvm hw hB hz1 hk1 hS => ?_)
    unfold BM at hB
    rw [ht] at hB
    have hP : va_P (dC, dI) classes (wM g c v F rc) H1 := hB
    have hw_r6726 : (r6726.toInt = 1 ∧ (0 : Int32).toInt ≤ p2.toInt ∧ p2.toInt ≤ (7 : Int32).toInt) ∨ (r6726.toInt = 0 ∧ (p2.toInt < (0 : Int32).toInt ∨ (7 : Int32).toInt < p2.toInt)) := hw
    clear hw
    have k6727 : (0 : Int32).toInt = 0 := by decide
    have k6728 : (7 : Int32).toInt = 7 := by decide
    clear hz1
    generalize H1 = H at hP hS ⊢
    refine lv_if_ne (tgt := 21) hx hb dX12_stay_15 (by decide) (fun c6729 => ?_) (fun c6729 => ?_)
    · skip
      have t6730 := cv_ne (a := r6726.toInt) rfl (b := 0) (by decide) c6729
      refine lv_aload_n hx hb dX12_stay_21 rfl (lv_at hl 0 rfl) ?_
      refine lv_iload_n hx hb dX12_stay_22 rfl (lv_at hl 1 rfl) ?_
      refine lv_iload_n hx hb dX12_stay_23 rfl (lv_at hl 2 rfl) ?_
      have t6731 : 0 ≤ (v 19).toInt ∧ (v 19).toInt ≤ 500 := hI.1 19 _ _ rfl
      refine va_calli (va_runV (As := [.int p0, .int p1]) (rest := []) ⟨hx, hb, hml, hown, hwd⟩ (c_X12_stayOf l dC dI g c adK adV v F rc H.size p0 p1 hg hI ) (cwV 2 hwd (gV wk_744 wk_741 wk_742 wk_743 wk_5) rfl rfl rfl (by decide +kernel) ⟨Nat.le_of_ble_eq_true rfl, Nat.le_of_ble_eq_true rfl⟩) ⟨PM.blind, va_recv hK hP (ci := 12) (q0 := 0) rfl rfl, fun U hU hW => ⟨rfl, PM.at hK hE hP hS hU hW⟩⟩ rfl rfl hl.1 rfl (lv_room (Nat.le_of_ble_eq_true rfl)) dX12_stay_24 ⟨Nat.le_of_ble_eq_true rfl, Nat.le_of_ble_eq_true rfl⟩) hS (fun q _ h => (freeM hS) q h) (freeM hS) (fun r6732 u t H1 locs ht hvm hw hB hz1 hk1 hS => ?_)
      unfold BM at hB
      rw [ht] at hB
      have hP : va_P (dC, dI) classes (wM g c v F rc) H1 := hB
      replace hw : ((0 ≤ r6732.toInt ∧ r6732.toInt < (v 19).toInt) ∧ (F 15 r6732.toNatClampNeg).toInt = p0.toInt ∧ (cnt (ahP (F 15) (F 17) p0.toInt r6732.toNatClampNeg) (v 19).toNatClampNeg : Int) = p1.toInt) ∨ (r6732.toInt = -1 ∧ ∀ s : Nat, (s : Int) < (v 19).toInt → ((F 15 s).toInt = p0.toInt → (cnt (ahP (F 15) (F 17) p0.toInt s) (v 19).toNatClampNeg : Int) ≠ p1.toInt)) := hw
      have hw_r6732 := hw
      clear hw
      clear hz1
      generalize H1 = H at hP hS ⊢
      refine lv_istore (lv' := [(4, .int r6732), (0, .ref (g 0)), (1, .int p0), (2, .int p1), (3, .int p2)]) hx hb dX12_stay_27 hl (by decide) rfl (fun ls hl => ?_)
      refine lv_iload hx hb dX12_stay_29 (lv_at hl 0 rfl) ?_
      refine lv_if_ge (tgt := 37) hx hb dX12_stay_31 (by decide) (fun c6733 => ?_) (fun c6733 => ?_)
      · skip
        have t6734 := cv_le (a := 0) (by decide) (b := r6732.toInt) rfl c6733
        refine lv_iload_n hx hb dX12_stay_37 rfl (lv_at hl 4 rfl) ?_
        by_cases hlo6735 : p2.toInt < 0
        · refine lv_tableOut (tgt := 151) hx hb dX12_stay_38 (Or.inl hlo6735) (by decide) ?_
          refine lv_aload_n hx hb dX12_stay_151 rfl (lv_at hl 1 rfl) ?_
          refine va_get (D := (dC, dI)) (ci := 12) (v := .ref (g 23)) (C := RX12) (T := TX12) (N := 63) hx hb hwd inA_X12 hown hK hP 0 rfl rfl 28 (by decide) (hwd _ wk_204) (fun _ h9 => h9) rfl dX12_stay_152 ?_
          refine lv_iload hx hb dX12_stay_155 (lv_at hl 0 rfl) ?_
          refine va_zald hx hb hK hP 23 22 rfl rfl (i := r6732) (vin (a := r6732.toInt) rfl (by omega)) dX12_stay_157 ?_
          refine lv_topi (fun z6737 e6738 => ?_)
          refine lv_if_eq (tgt := 165) hx hb dX12_stay_158 (by decide) (fun c6739 => ?_) (fun c6739 => ?_)
          · skip
            have t6740 := cv_eq (a := z6737.toInt) rfl (b := 0) (by decide) c6739
            refine lv_iconst (v := 0) hx hb dX12_stay_165 (by decide) ?_
            have hP9 : va_P (dC, dI) classes (wM g c v F rc) H := hP
            exact W.iret (v := 0) hx hb hr (fun t ht hW => ⟨⟨0, (), rfl, trivial, (by show va_P _ _ _ t.heap; rw [ht]; exact hP9)⟩, hS.F ht⟩) hS.2.2 dX12_stay_166
          · skip
            have t6741 := cv_ne (a := z6737.toInt) rfl (b := 0) (by decide) c6739
            refine lv_iconst (v := 1) hx hb dX12_stay_161 (by decide) ?_
            refine lv_goto (tgt := 166) hx hb dX12_stay_162 (by decide) ?_
            have hP9 : va_P (dC, dI) classes (wM g c v F rc) H := hP
            exact W.iret (v := 1) hx hb hr (fun t ht hW => ⟨⟨1, (), rfl, trivial, (by show va_P _ _ _ t.heap; rw [ht]; exact hP9)⟩, hS.F ht⟩) hS.2.2 dX12_stay_166
        by_cases hhi6736 : 6 < p2.toInt
        · refine lv_tableOut (tgt := 151) hx hb dX12_stay_38 (Or.inr hhi6736) (by decide) ?_
          refine lv_aload_n hx hb dX12_stay_151 rfl (lv_at hl 1 rfl) ?_
          refine va_get (D := (dC, dI)) (ci := 12) (v := .ref (g 23)) (C := RX12) (T := TX12) (N := 63) hx hb hwd inA_X12 hown hK hP 0 rfl rfl 28 (by decide) (hwd _ wk_204) (fun _ h9 => h9) rfl dX12_stay_152 ?_
          refine lv_iload hx hb dX12_stay_155 (lv_at hl 0 rfl) ?_
          refine va_zald hx hb hK hP 23 22 rfl rfl (i := r6732) (vin (a := r6732.toInt) rfl (by omega)) dX12_stay_157 ?_
          refine lv_topi (fun z6742 e6743 => ?_)
          refine lv_if_eq (tgt := 165) hx hb dX12_stay_158 (by decide) (fun c6744 => ?_) (fun c6744 => ?_)
          · skip
            have t6745 := cv_eq (a := z6742.toInt) rfl (b := 0) (by decide) c6744
            refine lv_iconst (v := 0) hx hb dX12_stay_165 (by decide) ?_
            have hP9 : va_P (dC, dI) classes (wM g c v F rc) H := hP
            exact W.iret (v := 0) hx hb hr (fun t ht hW => ⟨⟨0, (), rfl, trivial, (by show va_P _ _ _ t.heap; rw [ht]; exact hP9)⟩, hS.F ht⟩) hS.2.2 dX12_stay_166
          · skip
            have t6746 := cv_ne (a := z6742.toInt) rfl (b := 0) (by decide) c6744
            refine lv_iconst (v := 1) hx hb dX12_stay_161 (by decide) ?_
            refine lv_goto (tgt := 166) hx hb dX12_stay_162 (by decide) ?_
            have hP9 : va_P (dC, dI) classes (wM g c v F rc) H := hP
            exact W.iret (v := 1) hx hb hr (fun t ht hW => ⟨⟨1, (), rfl, trivial, (by show va_P _ _ _ t.heap; rw [ht]; exact hP9)⟩, hS.F ht⟩) hS.2.2 dX12_stay_166
        rcases (show p2.toInt = 0 ∨ p2.toInt = 1 ∨ p2.toInt = 2 ∨ p2.toInt = 3 ∨ p2.toInt = 4 ∨ p2.toInt = 5 ∨ p2.toInt = 6 by omega) with hk | hk | hk | hk | hk | hk | hk
        · refine lv_tableIn (off := 42) (tgt := 80) hx hb dX12_stay_38 hlo6735 hhi6736 (by rw [hk]; decide) (by decide) ?_
          refine lv_aload_n hx hb dX12_stay_80 rfl (lv_at hl 1 rfl) ?_
          refine va_get (D := (dC, dI)) (ci := 12) (v := .ref (g 16)) (C := RX12) (T := TX12) (N := 63) hx hb hwd inA_X12 hown hK hP 0 rfl rfl 21 (by decide) (hwd _ wk_197) (fun _ h9 => h9) rfl dX12_stay_81 ?_
          refine lv_iload hx hb dX12_stay_84 (lv_at hl 0 rfl) ?_
          refine va_iald hx hb hK hP 16 15 rfl rfl (i := r6732) (vin (a := r6732.toInt) rfl (by omega)) dX12_stay_86 ?_
          refine lv_topi (fun z6747 e6748 => ?_)
          have t6749 : 0 ≤ z6747.toInt ∧ z6747.toInt ≤ 11 := by rw [e6748]; exact hI.2 16 _ _ rfl _
          have hP9 : va_P (dC, dI) classes (wM g c v F rc) H := hP
          exact W.iret (v := z6747) hx hb hr (fun t ht hW => ⟨⟨z6747, (), rfl, trivial, (by show va_P _ _ _ t.heap; rw [ht]; exact hP9)⟩, hS.F ht⟩) hS.2.2 dX12_stay_87
        · refine lv_tableIn (off := 50) (tgt := 88) hx hb dX12_stay_38 hlo6735 hhi6736 (by rw [hk]; decide) (by decide) ?_
          refine lv_aload_n hx hb dX12_stay_88 rfl (lv_at hl 1 rfl) ?_
          refine va_get (D := (dC, dI)) (ci := 12) (v := .ref (g 17)) (C := RX12) (T := TX12) (N := 63) hx hb hwd inA_X12 hown hK hP 0 rfl rfl 22 (by decide) (hwd _ wk_198) (fun _ h9 => h9) rfl dX12_stay_89 ?_
          refine lv_iload hx hb dX12_stay_92 (lv_at hl 0 rfl) ?_
          refine va_iald hx hb hK hP 17 16 rfl rfl (i := r6732) (vin (a := r6732.toInt) rfl (by omega)) dX12_stay_94 ?_
          refine lv_topi (fun z6750 e6751 => ?_)
          have hP9 : va_P (dC, dI) classes (wM g c v F rc) H := hP
          exact W.iret (v := z6750) hx hb hr (fun t ht hW => ⟨⟨z6750, (), rfl, trivial, (by show va_P _ _ _ t.heap; rw [ht]; exact hP9)⟩, hS.F ht⟩) hS.2.2 dX12_stay_95
        · refine lv_tableIn (off := 58) (tgt := 96) hx hb dX12_stay_38 hlo6735 hhi6736 (by rw [hk]; decide) (by decide) ?_
          refine lv_aload_n hx hb dX12_stay_96 rfl (lv_at hl 1 rfl) ?_
          refine va_get (D := (dC, dI)) (ci := 12) (v := .ref (g 18)) (C := RX12) (T := TX12) (N := 63) hx hb hwd inA_X12 hown hK hP 0 rfl rfl 23 (by decide) (hwd _ wk_199) (fun _ h9 => h9) rfl dX12_stay_97 ?_
          refine lv_iload hx hb dX12_stay_100 (lv_at hl 0 rfl) ?_
          refine va_iald hx hb hK hP 18 17 rfl rfl (i := r6732) (vin (a := r6732.toInt) rfl (by omega)) dX12_stay_102 ?_
          refine lv_topi (fun z6752 e6753 => ?_)
          refine lv_ldc (v := 1000000) hx hb hown (hwd _ wk_500) dX12_stay_103 ?_
          refine lv_icmp_ne (tgt := 113) hx hb dX12_stay_105 (by decide) (fun c6754 => ?_) (fun c6754 => ?_)
          · skip
            have t6755 := cv_ne (a := z6752.toInt) rfl (b := 1000000) (by decide) c6754
            refine lv_aload_n hx hb dX12_stay_113 rfl (lv_at hl 1 rfl) ?_
            refine va_get (D := (dC, dI)) (ci := 12) (v := .ref (g 18)) (C := RX12) (T := TX12) (N := 63) hx hb hwd inA_X12 hown hK hP 0 rfl rfl 23 (by decide) (hwd _ wk_199) (fun _ h9 => h9) rfl dX12_stay_114 ?_
            refine lv_iload hx hb dX12_stay_117 (lv_at hl 0 rfl) ?_
            refine va_iald hx hb hK hP 18 17 rfl rfl (i := r6732) (vin (a := r6732.toInt) rfl (by omega)) dX12_stay_119 ?_
            refine lv_topi (fun z6756 e6757 => ?_)
            have hP9 : va_P (dC, dI) classes (wM g c v F rc) H := hP
            exact W.iret (v := z6756) hx hb hr (fun t ht hW => ⟨⟨z6756, (), rfl, trivial, (by show va_P _ _ _ t.heap; rw [ht]; exact hP9)⟩, hS.F ht⟩) hS.2.2 dX12_stay_120
          · skip
            have t6758 := cv_eq (a := z6752.toInt) rfl (b := 1000000) (by decide) c6754
            refine lv_ldc (v := (-2000000000)) hx hb hown (hwd _ wk_542) dX12_stay_108 ?_
            refine lv_goto (tgt := 120) hx hb dX12_stay_110 (by decide) ?_
            have hP9 : va_P (dC, dI) classes (wM g c v F rc) H := hP
            exact W.iret (v := (-2000000000)) hx hb hr (fun t ht hW => ⟨⟨(-2000000000), (), rfl, trivial, (by show va_P _ _ _ t.heap; rw [ht]; exact hP9)⟩, hS.F ht⟩) hS.2.2 dX12_stay_120
        · refine lv_tableIn (off := 83) (tgt := 121) hx hb dX12_stay_38 hlo6735 hhi6736 (by rw [hk]; decide) (by decide) ?_
          refine lv_aload_n hx hb dX12_stay_121 rfl (lv_at hl 1 rfl) ?_
          refine va_get (D := (dC, dI)) (ci := 12) (v := .ref (g 19)) (C := RX12) (T := TX12) (N := 63) hx hb hwd inA_X12 hown hK hP 0 rfl rfl 24 (by decide) (hwd _ wk_200) (fun _ h9 => h9) rfl dX12_stay_122 ?_
          refine lv_iload hx hb dX12_stay_125 (lv_at hl 0 rfl) ?_
          refine va_iald hx hb hK hP 19 18 rfl rfl (i := r6732) (vin (a := r6732.toInt) rfl (by omega)) dX12_stay_127 ?_
          refine lv_topi (fun z6759 e6760 => ?_)
          have hP9 : va_P (dC, dI) classes (wM g c v F rc) H := hP
          exact W.iret (v := z6759) hx hb hr (fun t ht hW => ⟨⟨z6759, (), rfl, trivial, (by show va_P _ _ _ t.heap; rw [ht]; exact hP9)⟩, hS.F ht⟩) hS.2.2 dX12_stay_128
        · refine lv_tableIn (off := 91) (tgt := 129) hx hb dX12_stay_38 hlo6735 hhi6736 (by rw [hk]; decide) (by decide) ?_
          refine lv_aload_n hx hb dX12_stay_129 rfl (lv_at hl 1 rfl) ?_
          refine lv_iload hx hb dX12_stay_130 (lv_at hl 0 rfl) ?_
          refine va_calli (va_runV (As := [.int r6732]) (rest := []) ⟨hx, hb, hml, hown, hwd⟩ (c_X12_hoursEnd l dC dI g c adK adV v F rc H.size r6732 hg hI (by omega)) (cwV 1 hwd (gV wk_748 wk_745 wk_746 wk_747 wk_5) rfl rfl rfl (by decide +kernel) ⟨Nat.le_of_ble_eq_true rfl, Nat.le_of_ble_eq_true rfl⟩) ⟨PM.blind, va_recv hK hP (ci := 12) (q0 := 0) rfl rfl, fun U hU hW => ⟨rfl, PM.at hK hE hP hS hU hW⟩⟩ rfl rfl hl.1 rfl (lv_room (Nat.le_of_ble_eq_true rfl)) dX12_stay_132 ⟨Nat.le_of_ble_eq_true rfl, Nat.le_of_ble_eq_true rfl⟩) hS (fun q _ h => (freeM hS) q h) (freeM hS) (fun r6761 u t H1 locs ht hvm hw hB hz1 hk1 hS => ?_)
          unfold BM at hB
          rw [ht] at hB
          have hP : va_P (dC, dI) classes (wM g c v F rc) H1 := hB
          clear hz1
          generalize H1 = H at hP hS ⊢
          have rr_r6761 := i32_rng r6761
          have hP9 : va_P (dC, dI) classes (wM g c v F rc) H := hP
          exact W.iret (v := r6761) hx hb hr (fun t ht hW => ⟨⟨r6761, (), rfl, trivial, (by show va_P _ _ _ t.heap; rw [ht]; exact hP9)⟩, hS.F ht⟩) hS.2.2 dX12_stay_135
        · refine lv_tableIn (off := 98) (tgt := 136) hx hb dX12_stay_38 hlo6735 hhi6736 (by rw [hk]; decide) (by decide) ?_
          refine lv_aload_n hx hb dX12_stay_136 rfl (lv_at hl 1 rfl) ?_
          refine va_get (D := (dC, dI)) (ci := 12) (v := .ref (g 21)) (C := RX12) (T := TX12) (N := 63) hx hb hwd inA_X12 hown hK hP 0 rfl rfl 26 (by decide) (hwd _ wk_202) (fun _ h9 => h9) rfl dX12_stay_137 ?_
          refine lv_iload hx hb dX12_stay_140 (lv_at hl 0 rfl) ?_
          refine va_iald hx hb hK hP 21 20 rfl rfl (i := r6732) (vin (a := r6732.toInt) rfl (by omega)) dX12_stay_142 ?_
          refine lv_topi (fun z6762 e6763 => ?_)
          have hP9 : va_P (dC, dI) classes (wM g c v F rc) H := hP
          exact W.iret (v := z6762) hx hb hr (fun t ht hW => ⟨⟨z6762, (), rfl, trivial, (by show va_P _ _ _ t.heap; rw [ht]; exact hP9)⟩, hS.F ht⟩) hS.2.2 dX12_stay_143
        · refine lv_tableIn (off := 106) (tgt := 144) hx hb dX12_stay_38 hlo6735 hhi6736 (by rw [hk]; decide) (by decide) ?_
          refine lv_aload_n hx hb dX12_stay_144 rfl (lv_at hl 1 rfl) ?_
          refine lv_iload hx hb dX12_stay_145 (lv_at hl 0 rfl) ?_
          refine va_calli (va_runV (As := [.int r6732]) (rest := []) ⟨hx, hb, hml, hown, hwd⟩ (c_X12_landingsEnd l dC dI g c adK adV v F rc H.size r6732 hg hI (by omega)) (cwV 1 hwd (gV wk_752 wk_749 wk_750 wk_751 wk_5) rfl rfl rfl (by decide +kernel) ⟨Nat.le_of_ble_eq_true rfl, Nat.le_of_ble_eq_true rfl⟩) ⟨PM.blind, va_recv hK hP (ci := 12) (q0 := 0) rfl rfl, fun U hU hW => ⟨rfl, PM.at hK hE hP hS hU hW⟩⟩ rfl rfl hl.1 rfl (lv_room (Nat.le_of_ble_eq_true rfl)) dX12_stay_147 ⟨Nat.le_of_ble_eq_true rfl, Nat.le_of_ble_eq_true rfl⟩) hS (fun q _ h => (freeM hS) q h) (freeM hS) (fun r6764 u t H1 locs ht hvm hw hB hz1 hk1 hS => ?_)
          unfold BM at hB
          rw [ht] at hB
          have hP : va_P (dC, dI) classes (wM g c v F rc) H1 := hB
          clear hz1
          generalize H1 = H at hP hS ⊢
          have rr_r6764 := i32_rng r6764
          have hP9 : va_P (dC, dI) classes (wM g c v F rc) H := hP
          exact W.iret (v := r6764) hx hb hr (fun t ht hW => ⟨⟨r6764, (), rfl, trivial, (by show va_P _ _ _ t.heap; rw [ht]; exact hP9)⟩, hS.F ht⟩) hS.2.2 dX12_stay_150
      · skip
        have t6765 := cv_nle (a := 0) (by decide) (b := r6732.toInt) rfl c6733
        refine lv_ldc (v := (-2000000000)) hx hb hown (hwd _ wk_542) dX12_stay_34 ?_
        have hP9 : va_P (dC, dI) classes (wM g c v F rc) H := hP
        exact W.iret (v := (-2000000000)) hx hb hr (fun t ht hW => ⟨⟨(-2000000000), (), rfl, trivial, (by show va_P _ _ _ t.heap; rw [ht]; exact hP9)⟩, hS.F ht⟩) hS.2.2 dX12_stay_36
    · skip
      have t6766 := cv_eq (a := r6726.toInt) rfl (b := 0) (by decide) c6729
      refine lv_ldc (v := (-2000000000)) hx hb hown (hwd _ wk_542) dX12_stay_18 ?_
      have hP9 : va_P (dC, dI) classes (wM g c v F rc) H := hP
      exact W.iret (v := (-2000000000)) hx hb hr (fun t ht hW => ⟨⟨(-2000000000), (), rfl, trivial, (by show va_P _ _ _ t.heap; rw [ht]; exact hP9)⟩, hS.F ht⟩) hS.2.2 dX12_stay_20
theorem stay_pos {P T : Nat → Int32} {i : Int} {n k r : Int32} {m : Int} (hm : m = (cnt (stP P i) n.toNatClampNeg : Int)) (h0 : 0 ≤ k.toInt) (hk : k.toInt < m) (h : ((0 ≤ r.toInt ∧ r.toInt < n.toInt) ∧ (P r.toNatClampNeg).toInt = i ∧ (cnt (ahP P T i r.toNatClampNeg) n.toNatClampNeg : Int) = k.toInt) ∨ (r.toInt = -1 ∧ ∀ s : Nat, (s : Int) < n.toInt → ((P s).toInt = i → (cnt (ahP P T i s) n.toNatClampNeg : Int) ≠ k.toInt))) : 0 ≤ r.toInt ∧ r.toInt < n.toInt := by
  rcases h with h | ⟨-, h⟩
  · exact h.1
  · exfalso
    obtain ⟨s, h1, h2, h3⟩ := rank_surj P T i n.toNatClampNeg k.toInt.toNat (by omega)
    have e : n.toNatClampNeg = n.toInt.toNat := rfl
    exact h s (by omega) h2 (by rw [h3]; omega)
set_option maxHeartbeats 8000000 in
set_option maxRecDepth 100000 in
theorem c_X12_isLess (l : Launch) (dC : Nat → ClassId) (dI : Nat → Nat → Nat) (g : Nat → Nat) (c : Nat → ClassId) (adK adV : Nat → Nat) (v : Nat → Int32) (F : Nat → Nat → Int32) (rc sz : Nat) (p0 : Int32) (hg : injM g) (hI : IM v F) : Met l yX12_isLess (Cond.code yX12_isLess cX12_isLess 6 (some .boolean) :: wA) ({ frames := 3, cells := 0, slots := 0, locals := 120 }) (va_Pc [.ref (g 0), .int p0] (PM dC dI g c adK adV v F rc sz)) (va_Qi (fun (r : Int32) (u : Unit) => 0 ≤ r.toInt ∧ r.toInt ≤ 1) (fun (_ : Unit) => BM dC dI g c (v, F, rc)) (AM g sz)) 0 0 (AM g sz) := by
  refine Met.ofW (cc := cX12_isLess) (maxL := 6) (ret := (some .boolean)) (by decide) rfl ?_
  intro p e s m args below meth c0 s₁ B hml hv
  obtain ⟨rfl, hsz, hP, hK, hE⟩ := hv
  have hx := B.exec
  have hb := B.bytes
  have hr := B.returns
  have hts := atoms_spec (ws := Cond.code yX12_isLess cX12_isLess 6 (some .boolean) :: wA) B.pre
  have hwd : ∀ w ∈ wA, w.before _ s = true := fun w h => hts w (List.mem_cons_of_mem _ h)
  have hown : s.vm.findClass RX12 = some m.cls := findClass_of_methodNamed B.named
  have hlocks := B.notSynchronized
  subst hsz
  have hl := lv_entry ([.ref (g 0), .int p0]) (n := 6) (Nat.le_of_ble_eq_true rfl)
  rw [lg_entry_eq]
  generalize (lg_sl ([.ref (g 0), .int p0]) ++ List.replicate (6 - (lg_sl ([.ref (g 0), .int p0])).length) Slot.unset).toArray = ls at hl ⊢
  have hl : lv_has ls 6 [(0, .ref (g 0)), (1, .int p0)] := hl
  obtain ⟨H, eH⟩ : ∃ z, z = s.heap := ⟨_, rfl⟩
  have hP : va_P (dC, dI) classes (wM g c v F rc) H := by rw [eH]; exact hP
  have hS : va_S (AM g s.heap.size) s.heap H [] := by rw [eH]; exact va_S.rf
  refine my_heap eH ?_
  have rp0 := i32_rng p0
  refine lv_aload_n hx hb dX12_isLess_0 rfl (lv_at hl 0 rfl) ?_
  refine lv_iload_n hx hb dX12_isLess_1 rfl (lv_at hl 1 rfl) ?_
  have t6767 : 0 ≤ (v 19).toInt ∧ (v 19).toInt ≤ 500 := hI.1 19 _ _ rfl
  refine va_calli (va_runV (As := [.int p0]) (rest := []) ⟨hx, hb, hml, hown, hwd⟩ (c_X12_staysOf l dC dI g c adK adV v F rc H.size p0 hg hI ) (cwV 1 hwd (gV wk_720 wk_717 wk_718 wk_719 wk_5) rfl rfl rfl (by decide +kernel) ⟨Nat.le_of_ble_eq_true rfl, Nat.le_of_ble_eq_true rfl⟩) ⟨PM.blind, va_recv hK hP (ci := 12) (q0 := 0) rfl rfl, fun U hU hW => ⟨rfl, PM.at hK hE hP hS hU hW⟩⟩ rfl rfl hl.1 rfl (lv_room (Nat.le_of_ble_eq_true rfl)) dX12_isLess_2 ⟨Nat.le_of_ble_eq_true rfl, Nat.le_of_ble_eq_true rfl⟩) hS (fun q _ h => (freeM hS) q h) (freeM hS) (fun r6768 u t H1 locs ht hvm hw hB hz1 hk1 hS => ?_)
  unfold BM at hB
  rw [ht] at hB
  have hP : va_P (dC, dI) classes (wM g c v F rc) H1 := hB
  replace hw : r6768.toInt = (cnt (stP (F 15) p0.toInt) (v 19).toNatClampNeg : Int) := hw
  have hw_r6768 := hw
  clear hw
  clear hz1
  generalize H1 = H at hP hS ⊢
  have rr_r6768 := i32_rng r6768
  refine lv_istore_n (lv' := [(2, .int r6768), (0, .ref (g 0)), (1, .int p0)]) hx hb dX12_isLess_5 rfl hl (by decide) rfl (fun ls hl => ?_)
  refine lv_iconst (v := (-1)) hx hb dX12_isLess_6 (by decide) ?_
  refine lv_istore_n (lv' := [(3, .int (-1)), (2, .int r6768), (0, .ref (g 0)), (1, .int p0)]) hx hb dX12_isLess_7 rfl hl (by decide) rfl (fun ls hl => ?_)
  refine lv_iconst (v := 0) hx hb dX12_isLess_8 (by decide) ?_
  refine lv_istore (lv' := [(4, .int 0), (3, .int (-1)), (2, .int r6768), (0, .ref (g 0)), (1, .int p0)]) hx hb dX12_isLess_9 hl (by decide) rfl (fun ls hl => ?_)
  have lp6769 : ∀ (n : Nat) (x4_lp6769 : Int32) (x3_lp6769 : Int32) (H : Heap) (locs : List Loc) (ls : Array Slot), (0 ≤ x4_lp6769.toInt) → (-1 ≤ x3_lp6769.toInt) → (x3_lp6769.toInt ≤ 499) → (2147483648 - x4_lp6769.toInt ≤ (n : Int)) → va_P (dC, dI) classes (wM g c v F rc) H → va_S (AM g s.heap.size) s.heap H locs → lv_has ls 6 [(4, .int x4_lp6769), (3, .int x3_lp6769), (2, .int r6768), (0, .ref (g 0)), (1, .int p0)] → W p l e (headSpec (Cond.code yX12_isLess cX12_isLess 6 (some .boolean) :: wA) ({ frames := 3, cells := 0, slots := 0, locals := 120 })).room s m ([.ref (g 0), .int p0] : List Value).toArray below meth c0 H locs 0 0 (MQ below (va_Qi (fun (r : Int32) (u : Unit) => 0 ≤ r.toInt ∧ r.toInt ≤ 1) (fun (_ : Unit) => BM dC dI g c (v, F, rc)) (AM g s.heap.size)) ([.ref (g 0), .int p0] : List Value).toArray s 0 0 (AM g s.heap.size)) (F0 m 11 ls []) := by
    intro n
    induction n with
    | zero =>
      intro x4_lp6769 x3_lp6769 H locs ls t6770 t6771 t6772 hm hP hS hl
      exfalso
      have := i32_rng x4_lp6769
      have := i32_rng x3_lp6769
      omega
    | succ n ih_lp6769 =>
      intro x4_lp6769 x3_lp6769 H locs ls t6770 t6771 t6772 hm hP hS hl
      have rx4_lp6769 := i32_rng x4_lp6769
      have rx3_lp6769 := i32_rng x3_lp6769
      refine lv_iload hx hb dX12_isLess_11 (lv_at hl 0 rfl) ?_
      refine lv_iload_n hx hb dX12_isLess_13 rfl (lv_at hl 2 rfl) ?_
      refine lv_icmp_ge (tgt := 140) hx hb dX12_isLess_14 (by decide) (fun c6773 => ?_) (fun c6773 => ?_)
      · skip
        have t6774 := cv_le (a := r6768.toInt) rfl (b := x4_lp6769.toInt) rfl c6773
        refine lv_iconst (v := 0) hx hb dX12_isLess_140 (by decide) ?_
        have hP9 : va_P (dC, dI) classes (wM g c v F rc) H := hP
        exact W.zret (v := 0) hx hb hr (rfl) (fun t ht hW => ⟨⟨0, (), rfl, by have : (0 : Int32).toInt = 0 := (by decide); omega, (by show va_P _ _ _ t.heap; rw [ht]; exact hP9)⟩, hS.F ht⟩) hS.2.2 dX12_isLess_141
      · skip
        have t6775 := cv_nle (a := r6768.toInt) rfl (b := x4_lp6769.toInt) rfl c6773
        refine lv_aload_n hx hb dX12_isLess_17 rfl (lv_at hl 3 rfl) ?_
        refine lv_iload_n hx hb dX12_isLess_18 rfl (lv_at hl 4 rfl) ?_
        refine lv_iload hx hb dX12_isLess_19 (lv_at hl 0 rfl) ?_
        have t6776 : 0 ≤ (v 19).toInt ∧ (v 19).toInt ≤ 500 := hI.1 19 _ _ rfl
        refine va_calli (va_runV (As := [.int p0, .int x4_lp6769]) (rest := []) ⟨hx, hb, hml, hown, hwd⟩ (c_X12_stayOf l dC dI g c adK adV v F rc H.size p0 x4_lp6769 hg hI ) (cwV 2 hwd (gV wk_744 wk_741 wk_742 wk_743 wk_5) rfl rfl rfl (by decide +kernel) ⟨Nat.le_of_ble_eq_true rfl, Nat.le_of_ble_eq_true rfl⟩) ⟨PM.blind, va_recv hK hP (ci := 12) (q0 := 0) rfl rfl, fun U hU hW => ⟨rfl, PM.at hK hE hP hS hU hW⟩⟩ rfl rfl hl.1 rfl (lv_room (Nat.le_of_ble_eq_true rfl)) dX12_isLess_21 ⟨Nat.le_of_ble_eq_true rfl, Nat.le_of_ble_eq_true rfl⟩) hS (fun q _ h => (freeM hS) q h) (freeM hS) (fun r6777 u t H1 locs ht hvm hw hB hz1 hk1 hS => ?_)
        unfold BM at hB
        rw [ht] at hB
        have hP : va_P (dC, dI) classes (wM g c v F rc) H1 := hB
        replace hw : ((0 ≤ r6777.toInt ∧ r6777.toInt < (v 19).toInt) ∧ (F 15 r6777.toNatClampNeg).toInt = p0.toInt ∧ (cnt (ahP (F 15) (F 17) p0.toInt r6777.toNatClampNeg) (v 19).toNatClampNeg : Int) = x4_lp6769.toInt) ∨ (r6777.toInt = -1 ∧ ∀ s : Nat, (s : Int) < (v 19).toInt → ((F 15 s).toInt = p0.toInt → (cnt (ahP (F 15) (F 17) p0.toInt s) (v 19).toNatClampNeg : Int) ≠ x4_lp6769.toInt)) := hw
        have hw_r6777 := hw
        clear hw
        clear hz1
        generalize H1 = H at hP hS ⊢
        have hs_r6777 := stay_pos hw_r6768 (k := x4_lp6769) (by omega) (by omega) hw_r6777
        refine lv_istore (lv' := [(5, .int r6777), (4, .int x4_lp6769), (3, .int x3_lp6769), (2, .int r6768), (0, .ref (g 0)), (1, .int p0)]) hx hb dX12_isLess_24 hl (by decide) rfl (fun ls hl => ?_)
        refine lv_aload_n hx hb dX12_isLess_26 rfl (lv_at hl 4 rfl) ?_
        refine va_get (D := (dC, dI)) (ci := 12) (v := .ref (g 16)) (C := RX12) (T := TX12) (N := 63) hx hb hwd inA_X12 hown hK hP 0 rfl rfl 21 (by decide) (hwd _ wk_197) (fun _ h9 => h9) rfl dX12_isLess_27 ?_
        refine lv_iload hx hb dX12_isLess_30 (lv_at hl 0 rfl) ?_
        refine va_iald hx hb hK hP 16 15 rfl rfl (i := r6777) (vin (a := r6777.toInt) rfl (by omega)) dX12_isLess_32 ?_
        refine lv_topi (fun z6778 e6779 => ?_)
        have t6780 : 0 ≤ z6778.toInt ∧ z6778.toInt ≤ 11 := by rw [e6779]; exact hI.2 16 _ _ rfl _
        have tzz6778 : z6778.toInt = (F 16 (r6777 : Int32).toNatClampNeg).toInt := congrArg Int32.toInt e6779
        refine lv_bipush (v := 10) hx hb dX12_isLess_33 (by decide) ?_
        refine lv_icmp_eq (tgt := 72) hx hb dX12_isLess_35 (by decide) (fun c6781 => ?_) (fun c6781 => ?_)
        · skip
          have t6782 := cv_eq (a := z6778.toInt) rfl (b := 10) (by decide) c6781
          refine lv_iload_n hx hb dX12_isLess_72 rfl (lv_at hl 2 rfl) ?_
          refine lv_if_lt (tgt := 131) hx hb dX12_isLess_73 (by decide) (fun c6783 => ?_) (fun c6783 => ?_)
          · skip
            have t6784 := cv_lt (a := x3_lp6769.toInt) rfl (b := 0) (by decide) c6783
            refine lv_iload hx hb dX12_isLess_131 (lv_at hl 0 rfl) ?_
            refine lv_istore_n (lv' := [(3, .int r6777), (5, .int r6777), (4, .int x4_lp6769), (2, .int r6768), (0, .ref (g 0)), (1, .int p0)]) hx hb dX12_isLess_133 rfl hl (by decide) rfl (fun ls hl => ?_)
            obtain ⟨z6785, e6786⟩ : ∃ y : Int32, y = x4_lp6769 + 1 := ⟨_, rfl⟩
            try (have t6787 := tadd e6786 rfl (b := 1) (by decide) (by omega))
            refine lv_iinc (v := z6785) (lv' := [(4, .int z6785), (3, .int r6777), (5, .int r6777), (2, .int r6768), (0, .ref (g 0)), (1, .int p0)]) hx hb dX12_isLess_134 hl (k := 2) rfl (by rw [e6786]; rfl) (by decide) rfl (fun ls hl => ?_)
            refine lv_goto (tgt := 11) hx hb dX12_isLess_137 (by decide) ?_
            exact ih_lp6769 z6785 r6777  _ _ _ (by omega) (by omega) (by omega) (by omega) hP hS (lv_sub hl [0, 1, 3, 4, 5] rfl)
          · skip
            have t6788 := cv_nlt (a := x3_lp6769.toInt) rfl (b := 0) (by decide) c6783
            refine lv_aload_n hx hb dX12_isLess_76 rfl (lv_at hl 4 rfl) ?_
            refine va_get (D := (dC, dI)) (ci := 12) (v := .ref (g 16)) (C := RX12) (T := TX12) (N := 63) hx hb hwd inA_X12 hown hK hP 0 rfl rfl 21 (by decide) (hwd _ wk_197) (fun _ h9 => h9) rfl dX12_isLess_77 ?_
            refine lv_iload_n hx hb dX12_isLess_80 rfl (lv_at hl 2 rfl) ?_
            refine va_iald hx hb hK hP 16 15 rfl rfl (i := x3_lp6769) (vin (a := x3_lp6769.toInt) rfl (by omega)) dX12_isLess_81 ?_
            refine lv_topi (fun z6789 e6790 => ?_)
            have t6791 : 0 ≤ z6789.toInt ∧ z6789.toInt ≤ 11 := by rw [e6790]; exact hI.2 16 _ _ rfl _
            have tzz6789 : z6789.toInt = (F 16 (x3_lp6769 : Int32).toNatClampNeg).toInt := congrArg Int32.toInt e6790
            refine lv_bipush (v := 10) hx hb dX12_isLess_82 (by decide) ?_
            refine lv_icmp_eq (tgt := 131) hx hb dX12_isLess_84 (by decide) (fun c6792 => ?_) (fun c6792 => ?_)
            · skip
              have t6793 := cv_eq (a := z6789.toInt) rfl (b := 10) (by decide) c6792
              refine lv_iload hx hb dX12_isLess_131 (lv_at hl 0 rfl) ?_
              refine lv_istore_n (lv' := [(3, .int r6777), (5, .int r6777), (4, .int x4_lp6769), (2, .int r6768), (0, .ref (g 0)), (1, .int p0)]) hx hb dX12_isLess_133 rfl hl (by decide) rfl (fun ls hl => ?_)
              obtain ⟨z6794, e6795⟩ : ∃ y : Int32, y = x4_lp6769 + 1 := ⟨_, rfl⟩
              try (have t6796 := tadd e6795 rfl (b := 1) (by decide) (by omega))
              refine lv_iinc (v := z6794) (lv' := [(4, .int z6794), (3, .int r6777), (5, .int r6777), (2, .int r6768), (0, .ref (g 0)), (1, .int p0)]) hx hb dX12_isLess_134 hl (k := 2) rfl (by rw [e6795]; rfl) (by decide) rfl (fun ls hl => ?_)
              refine lv_goto (tgt := 11) hx hb dX12_isLess_137 (by decide) ?_
              exact ih_lp6769 z6794 r6777  _ _ _ (by omega) (by omega) (by omega) (by omega) hP hS (lv_sub hl [0, 1, 3, 4, 5] rfl)
            · skip
              have t6797 := cv_ne (a := z6789.toInt) rfl (b := 10) (by decide) c6792
              refine lv_aload_n hx hb dX12_isLess_87 rfl (lv_at hl 4 rfl) ?_
              refine va_get (D := (dC, dI)) (ci := 12) (v := .ref (g 16)) (C := RX12) (T := TX12) (N := 63) hx hb hwd inA_X12 hown hK hP 0 rfl rfl 21 (by decide) (hwd _ wk_197) (fun _ h9 => h9) rfl dX12_isLess_88 ?_
              refine lv_iload hx hb dX12_isLess_91 (lv_at hl 0 rfl) ?_
              refine va_iald hx hb hK hP 16 15 rfl rfl (i := r6777) (vin (a := r6777.toInt) rfl (by omega)) dX12_isLess_93 ?_
              refine lv_topi (fun z6798 e6799 => ?_)
              have t6800 : 0 ≤ z6798.toInt ∧ z6798.toInt ≤ 11 := by rw [e6799]; exact hI.2 16 _ _ rfl _
              have tzz6798 : z6798.toInt = (F 16 (r6777 : Int32).toNatClampNeg).toInt := congrArg Int32.toInt e6799
              refine lv_bipush (v := 10) hx hb dX12_isLess_94 (by decide) ?_
              refine lv_icmp_eq (tgt := 131) hx hb dX12_isLess_96 (by decide) (fun c6801 => ?_) (fun c6801 => ?_)
              · skip
                have t6802 := cv_eq (a := z6798.toInt) rfl (b := 10) (by decide) c6801
                refine lv_iload hx hb dX12_isLess_131 (lv_at hl 0 rfl) ?_
                refine lv_istore_n (lv' := [(3, .int r6777), (5, .int r6777), (4, .int x4_lp6769), (2, .int r6768), (0, .ref (g 0)), (1, .int p0)]) hx hb dX12_isLess_133 rfl hl (by decide) rfl (fun ls hl => ?_)
                obtain ⟨z6803, e6804⟩ : ∃ y : Int32, y = x4_lp6769 + 1 := ⟨_, rfl⟩
                try (have t6805 := tadd e6804 rfl (b := 1) (by decide) (by omega))
                refine lv_iinc (v := z6803) (lv' := [(4, .int z6803), (3, .int r6777), (5, .int r6777), (2, .int r6768), (0, .ref (g 0)), (1, .int p0)]) hx hb dX12_isLess_134 hl (k := 2) rfl (by rw [e6804]; rfl) (by decide) rfl (fun ls hl => ?_)
                refine lv_goto (tgt := 11) hx hb dX12_isLess_137 (by decide) ?_
                exact ih_lp6769 z6803 r6777  _ _ _ (by omega) (by omega) (by omega) (by omega) hP hS (lv_sub hl [0, 1, 3, 4, 5] rfl)
              · skip
                have t6806 := cv_ne (a := z6798.toInt) rfl (b := 10) (by decide) c6801
                refine lv_aload_n hx hb dX12_isLess_99 rfl (lv_at hl 4 rfl) ?_
                refine va_get (D := (dC, dI)) (ci := 12) (v := .ref (g 19)) (C := RX12) (T := TX12) (N := 63) hx hb hwd inA_X12 hown hK hP 0 rfl rfl 24 (by decide) (hwd _ wk_200) (fun _ h9 => h9) rfl dX12_isLess_100 ?_
                refine lv_iload hx hb dX12_isLess_103 (lv_at hl 0 rfl) ?_
                refine va_iald hx hb hK hP 19 18 rfl rfl (i := r6777) (vin (a := r6777.toInt) rfl (by omega)) dX12_isLess_105 ?_
                refine lv_topi (fun z6807 e6808 => ?_)
                have tzz6807 : z6807.toInt = (F 19 (r6777 : Int32).toNatClampNeg).toInt := congrArg Int32.toInt e6808
                refine lv_aload_n hx hb dX12_isLess_106 rfl (lv_at hl 4 rfl) ?_
                refine lv_iload_n hx hb dX12_isLess_107 rfl (lv_at hl 2 rfl) ?_
                refine va_calli (va_runV (As := [.int x3_lp6769]) (rest := [.int z6807]) ⟨hx, hb, hml, hown, hwd⟩ (c_X12_hoursEnd l dC dI g c adK adV v F rc H.size x3_lp6769 hg hI (by omega)) (cwV 1 hwd (gV wk_748 wk_745 wk_746 wk_747 wk_5) rfl rfl rfl (by decide +kernel) ⟨Nat.le_of_ble_eq_true rfl, Nat.le_of_ble_eq_true rfl⟩) ⟨PM.blind, va_recv hK hP (ci := 12) (q0 := 0) rfl rfl, fun U hU hW => ⟨rfl, PM.at hK hE hP hS hU hW⟩⟩ rfl rfl hl.1 rfl (lv_room (Nat.le_of_ble_eq_true rfl)) dX12_isLess_108 ⟨Nat.le_of_ble_eq_true rfl, Nat.le_of_ble_eq_true rfl⟩) hS (fun q _ h => (freeM hS) q h) (freeM hS) (fun r6809 u t H1 locs ht hvm hw hB hz1 hk1 hS => ?_)
                unfold BM at hB
                rw [ht] at hB
                have hP : va_P (dC, dI) classes (wM g c v F rc) H1 := hB
                clear hz1
                generalize H1 = H at hP hS ⊢
                have rr_r6809 := i32_rng r6809
                refine lv_icmp_lt (tgt := 129) hx hb dX12_isLess_111 (by decide) (fun c6810 => ?_) (fun c6810 => ?_)
                · skip
                  have t6811 := cv_lt (a := z6807.toInt) rfl (b := r6809.toInt) rfl c6810
                  refine lv_iconst (v := 1) hx hb dX12_isLess_129 (by decide) ?_
                  have hP9 : va_P (dC, dI) classes (wM g c v F rc) H := hP
                  exact W.zret (v := 1) hx hb hr (rfl) (fun t ht hW => ⟨⟨1, (), rfl, by have : (1 : Int32).toInt = 1 := (by decide); omega, (by show va_P _ _ _ t.heap; rw [ht]; exact hP9)⟩, hS.F ht⟩) hS.2.2 dX12_isLess_130
                · skip
                  have t6812 := cv_nlt (a := z6807.toInt) rfl (b := r6809.toInt) rfl c6810
                  refine lv_aload_n hx hb dX12_isLess_114 rfl (lv_at hl 4 rfl) ?_
                  refine va_get (D := (dC, dI)) (ci := 12) (v := .ref (g 21)) (C := RX12) (T := TX12) (N := 63) hx hb hwd inA_X12 hown hK hP 0 rfl rfl 26 (by decide) (hwd _ wk_202) (fun _ h9 => h9) rfl dX12_isLess_115 ?_
                  refine lv_iload hx hb dX12_isLess_118 (lv_at hl 0 rfl) ?_
                  refine va_iald hx hb hK hP 21 20 rfl rfl (i := r6777) (vin (a := r6777.toInt) rfl (by omega)) dX12_isLess_120 ?_
                  refine lv_topi (fun z6813 e6814 => ?_)
                  have tzz6813 : z6813.toInt = (F 21 (r6777 : Int32).toNatClampNeg).toInt := congrArg Int32.toInt e6814
                  refine lv_aload_n hx hb dX12_isLess_121 rfl (lv_at hl 4 rfl) ?_
                  refine lv_iload_n hx hb dX12_isLess_122 rfl (lv_at hl 2 rfl) ?_
                  refine va_calli (va_runV (As := [.int x3_lp6769]) (rest := [.int z6813]) ⟨hx, hb, hml, hown, hwd⟩ (c_X12_landingsEnd l dC dI g c adK adV v F rc H.size x3_lp6769 hg hI (by omega)) (cwV 1 hwd (gV wk_752 wk_749 wk_750 wk_751 wk_5) rfl rfl rfl (by decide +kernel) ⟨Nat.le_of_ble_eq_true rfl, Nat.le_of_ble_eq_true rfl⟩) ⟨PM.blind, va_recv hK hP (ci := 12) (q0 := 0) rfl rfl, fun U hU hW => ⟨rfl, PM.at hK hE hP hS hU hW⟩⟩ rfl rfl hl.1 rfl (lv_room (Nat.le_of_ble_eq_true rfl)) dX12_isLess_123 ⟨Nat.le_of_ble_eq_true rfl, Nat.le_of_ble_eq_true rfl⟩) hS (fun q _ h => (freeM hS) q h) (freeM hS) (fun r6815 u t H1 locs ht hvm hw hB hz1 hk1 hS => ?_)
                  unfold BM at hB
                  rw [ht] at hB
                  have hP : va_P (dC, dI) classes (wM g c v F rc) H1 := hB
                  clear hz1
                  generalize H1 = H at hP hS ⊢
                  have rr_r6815 := i32_rng r6815
                  refine lv_icmp_ge (tgt := 131) hx hb dX12_isLess_126 (by decide) (fun c6816 => ?_) (fun c6816 => ?_)
                  · skip
                    have t6817 := cv_le (a := r6815.toInt) rfl (b := z6813.toInt) rfl c6816
                    refine lv_iload hx hb dX12_isLess_131 (lv_at hl 0 rfl) ?_
                    refine lv_istore_n (lv' := [(3, .int r6777), (5, .int r6777), (4, .int x4_lp6769), (2, .int r6768), (0, .ref (g 0)), (1, .int p0)]) hx hb dX12_isLess_133 rfl hl (by decide) rfl (fun ls hl => ?_)
                    obtain ⟨z6818, e6819⟩ : ∃ y : Int32, y = x4_lp6769 + 1 := ⟨_, rfl⟩
                    try (have t6820 := tadd e6819 rfl (b := 1) (by decide) (by omega))
                    refine lv_iinc (v := z6818) (lv' := [(4, .int z6818), (3, .int r6777), (5, .int r6777), (2, .int r6768), (0, .ref (g 0)), (1, .int p0)]) hx hb dX12_isLess_134 hl (k := 2) rfl (by rw [e6819]; rfl) (by decide) rfl (fun ls hl => ?_)
                    refine lv_goto (tgt := 11) hx hb dX12_isLess_137 (by decide) ?_
                    exact ih_lp6769 z6818 r6777  _ _ _ (by omega) (by omega) (by omega) (by omega) hP hS (lv_sub hl [0, 1, 3, 4, 5] rfl)
                  · skip
                    have t6821 := cv_nle (a := r6815.toInt) rfl (b := z6813.toInt) rfl c6816
                    refine lv_iconst (v := 1) hx hb dX12_isLess_129 (by decide) ?_
                    have hP9 : va_P (dC, dI) classes (wM g c v F rc) H := hP
                    exact W.zret (v := 1) hx hb hr (rfl) (fun t ht hW => ⟨⟨1, (), rfl, by have : (1 : Int32).toInt = 1 := (by decide); omega, (by show va_P _ _ _ t.heap; rw [ht]; exact hP9)⟩, hS.F ht⟩) hS.2.2 dX12_isLess_130
        · skip
          have t6822 := cv_ne (a := z6778.toInt) rfl (b := 10) (by decide) c6781
          refine lv_aload_n hx hb dX12_isLess_38 rfl (lv_at hl 4 rfl) ?_
          refine lv_iload hx hb dX12_isLess_39 (lv_at hl 0 rfl) ?_
          refine va_calli (va_runV (As := [.int r6777]) (rest := []) ⟨hx, hb, hml, hown, hwd⟩ (c_X12_hoursEnd l dC dI g c adK adV v F rc H.size r6777 hg hI (by omega)) (cwV 1 hwd (gV wk_748 wk_745 wk_746 wk_747 wk_5) rfl rfl rfl (by decide +kernel) ⟨Nat.le_of_ble_eq_true rfl, Nat.le_of_ble_eq_true rfl⟩) ⟨PM.blind, va_recv hK hP (ci := 12) (q0 := 0) rfl rfl, fun U hU hW => ⟨rfl, PM.at hK hE hP hS hU hW⟩⟩ rfl rfl hl.1 rfl (lv_room (Nat.le_of_ble_eq_true rfl)) dX12_isLess_41 ⟨Nat.le_of_ble_eq_true rfl, Nat.le_of_ble_eq_true rfl⟩) hS (fun q _ h => (freeM hS) q h) (freeM hS) (fun r6823 u t H1 locs ht hvm hw hB hz1 hk1 hS => ?_)
          unfold BM at hB
          rw [ht] at hB
          have hP : va_P (dC, dI) classes (wM g c v F rc) H1 := hB
          clear hz1
          generalize H1 = H at hP hS ⊢
          have rr_r6823 := i32_rng r6823
          refine lv_aload_n hx hb dX12_isLess_44 rfl (lv_at hl 4 rfl) ?_
          refine va_get (D := (dC, dI)) (ci := 12) (v := .ref (g 19)) (C := RX12) (T := TX12) (N := 63) hx hb hwd inA_X12 hown hK hP 0 rfl rfl 24 (by decide) (hwd _ wk_200) (fun _ h9 => h9) rfl dX12_isLess_45 ?_
          refine lv_iload hx hb dX12_isLess_48 (lv_at hl 0 rfl) ?_
          refine va_iald hx hb hK hP 19 18 rfl rfl (i := r6777) (vin (a := r6777.toInt) rfl (by omega)) dX12_isLess_50 ?_
          refine lv_topi (fun z6824 e6825 => ?_)
          have tzz6824 : z6824.toInt = (F 19 (r6777 : Int32).toNatClampNeg).toInt := congrArg Int32.toInt e6825
          refine lv_icmp_lt (tgt := 70) hx hb dX12_isLess_51 (by decide) (fun c6826 => ?_) (fun c6826 => ?_)
          · skip
            have t6827 := cv_lt (a := r6823.toInt) rfl (b := z6824.toInt) rfl c6826
            refine lv_iconst (v := 1) hx hb dX12_isLess_70 (by decide) ?_
            have hP9 : va_P (dC, dI) classes (wM g c v F rc) H := hP
            exact W.zret (v := 1) hx hb hr (rfl) (fun t ht hW => ⟨⟨1, (), rfl, by have : (1 : Int32).toInt = 1 := (by decide); omega, (by show va_P _ _ _ t.heap; rw [ht]; exact hP9)⟩, hS.F ht⟩) hS.2.2 dX12_isLess_71
          · skip
            have t6828 := cv_nlt (a := r6823.toInt) rfl (b := z6824.toInt) rfl c6826
            refine lv_aload_n hx hb dX12_isLess_54 rfl (lv_at hl 4 rfl) ?_
            refine lv_iload hx hb dX12_isLess_55 (lv_at hl 0 rfl) ?_
            refine va_calli (va_runV (As := [.int r6777]) (rest := []) ⟨hx, hb, hml, hown, hwd⟩ (c_X12_landingsEnd l dC dI g c adK adV v F rc H.size r6777 hg hI (by omega)) (cwV 1 hwd (gV wk_752 wk_749 wk_750 wk_751 wk_5) rfl rfl rfl (by decide +kernel) ⟨Nat.le_of_ble_eq_true rfl, Nat.le_of_ble_eq_true rfl⟩) ⟨PM.blind, va_recv hK hP (ci := 12) (q0 := 0) rfl rfl, fun U hU hW => ⟨rfl, PM.at hK hE hP hS hU hW⟩⟩ rfl rfl hl.1 rfl (lv_room (Nat.le_of_ble_eq_true rfl)) dX12_isLess_57 ⟨Nat.le_of_ble_eq_true rfl, Nat.le_of_ble_eq_true rfl⟩) hS (fun q _ h => (freeM hS) q h) (freeM hS) (fun r6829 u t H1 locs ht hvm hw hB hz1 hk1 hS => ?_)
            unfold BM at hB
            rw [ht] at hB
            have hP : va_P (dC, dI) classes (wM g c v F rc) H1 := hB
            clear hz1
            generalize H1 = H at hP hS ⊢
            have rr_r6829 := i32_rng r6829
            refine lv_aload_n hx hb dX12_isLess_60 rfl (lv_at hl 4 rfl) ?_
            refine va_get (D := (dC, dI)) (ci := 12) (v := .ref (g 21)) (C := RX12) (T := TX12) (N := 63) hx hb hwd inA_X12 hown hK hP 0 rfl rfl 26 (by decide) (hwd _ wk_202) (fun _ h9 => h9) rfl dX12_isLess_61 ?_
            refine lv_iload hx hb dX12_isLess_64 (lv_at hl 0 rfl) ?_
            refine va_iald hx hb hK hP 21 20 rfl rfl (i := r6777) (vin (a := r6777.toInt) rfl (by omega)) dX12_isLess_66 ?_
            refine lv_topi (fun z6830 e6831 => ?_)
            have tzz6830 : z6830.toInt = (F 21 (r6777 : Int32).toNatClampNeg).toInt := congrArg Int32.toInt e6831
            refine lv_icmp_ge (tgt := 72) hx hb dX12_isLess_67 (by decide) (fun c6832 => ?_) (fun c6832 => ?_)
            · skip
              have t6833 := cv_le (a := z6830.toInt) rfl (b := r6829.toInt) rfl c6832
              refine lv_iload_n hx hb dX12_isLess_72 rfl (lv_at hl 2 rfl) ?_
              refine lv_if_lt (tgt := 131) hx hb dX12_isLess_73 (by decide) (fun c6834 => ?_) (fun c6834 => ?_)
              · skip
                have t6835 := cv_lt (a := x3_lp6769.toInt) rfl (b := 0) (by decide) c6834
                refine lv_iload hx hb dX12_isLess_131 (lv_at hl 0 rfl) ?_
                refine lv_istore_n (lv' := [(3, .int r6777), (5, .int r6777), (4, .int x4_lp6769), (2, .int r6768), (0, .ref (g 0)), (1, .int p0)]) hx hb dX12_isLess_133 rfl hl (by decide) rfl (fun ls hl => ?_)
                obtain ⟨z6836, e6837⟩ : ∃ y : Int32, y = x4_lp6769 + 1 := ⟨_, rfl⟩
                try (have t6838 := tadd e6837 rfl (b := 1) (by decide) (by omega))
                refine lv_iinc (v := z6836) (lv' := [(4, .int z6836), (3, .int r6777), (5, .int r6777), (2, .int r6768), (0, .ref (g 0)), (1, .int p0)]) hx hb dX12_isLess_134 hl (k := 2) rfl (by rw [e6837]; rfl) (by decide) rfl (fun ls hl => ?_)
                refine lv_goto (tgt := 11) hx hb dX12_isLess_137 (by decide) ?_
                exact ih_lp6769 z6836 r6777  _ _ _ (by omega) (by omega) (by omega) (by omega) hP hS (lv_sub hl [0, 1, 3, 4, 5] rfl)
              · skip
                have t6839 := cv_nlt (a := x3_lp6769.toInt) rfl (b := 0) (by decide) c6834
                refine lv_aload_n hx hb dX12_isLess_76 rfl (lv_at hl 4 rfl) ?_
                refine va_get (D := (dC, dI)) (ci := 12) (v := .ref (g 16)) (C := RX12) (T := TX12) (N := 63) hx hb hwd inA_X12 hown hK hP 0 rfl rfl 21 (by decide) (hwd _ wk_197) (fun _ h9 => h9) rfl dX12_isLess_77 ?_
                refine lv_iload_n hx hb dX12_isLess_80 rfl (lv_at hl 2 rfl) ?_
                refine va_iald hx hb hK hP 16 15 rfl rfl (i := x3_lp6769) (vin (a := x3_lp6769.toInt) rfl (by omega)) dX12_isLess_81 ?_
                refine lv_topi (fun z6840 e6841 => ?_)
                have t6842 : 0 ≤ z6840.toInt ∧ z6840.toInt ≤ 11 := by rw [e6841]; exact hI.2 16 _ _ rfl _
                have tzz6840 : z6840.toInt = (F 16 (x3_lp6769 : Int32).toNatClampNeg).toInt := congrArg Int32.toInt e6841
                refine lv_bipush (v := 10) hx hb dX12_isLess_82 (by decide) ?_
                refine lv_icmp_eq (tgt := 131) hx hb dX12_isLess_84 (by decide) (fun c6843 => ?_) (fun c6843 => ?_)
                · skip
                  have t6844 := cv_eq (a := z6840.toInt) rfl (b := 10) (by decide) c6843
                  refine lv_iload hx hb dX12_isLess_131 (lv_at hl 0 rfl) ?_
                  refine lv_istore_n (lv' := [(3, .int r6777), (5, .int r6777), (4, .int x4_lp6769), (2, .int r6768), (0, .ref (g 0)), (1, .int p0)]) hx hb dX12_isLess_133 rfl hl (by decide) rfl (fun ls hl => ?_)
                  obtain ⟨z6845, e6846⟩ : ∃ y : Int32, y = x4_lp6769 + 1 := ⟨_, rfl⟩
                  try (have t6847 := tadd e6846 rfl (b := 1) (by decide) (by omega))
                  refine lv_iinc (v := z6845) (lv' := [(4, .int z6845), (3, .int r6777), (5, .int r6777), (2, .int r6768), (0, .ref (g 0)), (1, .int p0)]) hx hb dX12_isLess_134 hl (k := 2) rfl (by rw [e6846]; rfl) (by decide) rfl (fun ls hl => ?_)
                  refine lv_goto (tgt := 11) hx hb dX12_isLess_137 (by decide) ?_
                  exact ih_lp6769 z6845 r6777  _ _ _ (by omega) (by omega) (by omega) (by omega) hP hS (lv_sub hl [0, 1, 3, 4, 5] rfl)
                · skip
                  have t6848 := cv_ne (a := z6840.toInt) rfl (b := 10) (by decide) c6843
                  refine lv_aload_n hx hb dX12_isLess_87 rfl (lv_at hl 4 rfl) ?_
                  refine va_get (D := (dC, dI)) (ci := 12) (v := .ref (g 16)) (C := RX12) (T := TX12) (N := 63) hx hb hwd inA_X12 hown hK hP 0 rfl rfl 21 (by decide) (hwd _ wk_197) (fun _ h9 => h9) rfl dX12_isLess_88 ?_
                  refine lv_iload hx hb dX12_isLess_91 (lv_at hl 0 rfl) ?_
                  refine va_iald hx hb hK hP 16 15 rfl rfl (i := r6777) (vin (a := r6777.toInt) rfl (by omega)) dX12_isLess_93 ?_
                  refine lv_topi (fun z6849 e6850 => ?_)
                  have t6851 : 0 ≤ z6849.toInt ∧ z6849.toInt ≤ 11 := by rw [e6850]; exact hI.2 16 _ _ rfl _
                  have tzz6849 : z6849.toInt = (F 16 (r6777 : Int32).toNatClampNeg).toInt := congrArg Int32.toInt e6850
                  refine lv_bipush (v := 10) hx hb dX12_isLess_94 (by decide) ?_
                  refine lv_icmp_eq (tgt := 131) hx hb dX12_isLess_96 (by decide) (fun c6852 => ?_) (fun c6852 => ?_)
                  · skip
                    have t6853 := cv_eq (a := z6849.toInt) rfl (b := 10) (by decide) c6852
                    refine lv_iload hx hb dX12_isLess_131 (lv_at hl 0 rfl) ?_
                    refine lv_istore_n (lv' := [(3, .int r6777), (5, .int r6777), (4, .int x4_lp6769), (2, .int r6768), (0, .ref (g 0)), (1, .int p0)]) hx hb dX12_isLess_133 rfl hl (by decide) rfl (fun ls hl => ?_)
                    obtain ⟨z6854, e6855⟩ : ∃ y : Int32, y = x4_lp6769 + 1 := ⟨_, rfl⟩
                    try (have t6856 := tadd e6855 rfl (b := 1) (by decide) (by omega))
                    refine lv_iinc (v := z6854) (lv' := [(4, .int z6854), (3, .int r6777), (5, .int r6777), (2, .int r6768), (0, .ref (g 0)), (1, .int p0)]) hx hb dX12_isLess_134 hl (k := 2) rfl (by rw [e6855]; rfl) (by decide) rfl (fun ls hl => ?_)
                    refine lv_goto (tgt := 11) hx hb dX12_isLess_137 (by decide) ?_
                    exact ih_lp6769 z6854 r6777  _ _ _ (by omega) (by omega) (by omega) (by omega) hP hS (lv_sub hl [0, 1, 3, 4, 5] rfl)
                  · skip
                    have t6857 := cv_ne (a := z6849.toInt) rfl (b := 10) (by decide) c6852
                    refine lv_aload_n hx hb dX12_isLess_99 rfl (lv_at hl 4 rfl) ?_
                    refine va_get (D := (dC, dI)) (ci := 12) (v := .ref (g 19)) (C := RX12) (T := TX12) (N := 63) hx hb hwd inA_X12 hown hK hP 0 rfl rfl 24 (by decide) (hwd _ wk_200) (fun _ h9 => h9) rfl dX12_isLess_100 ?_
                    refine lv_iload hx hb dX12_isLess_103 (lv_at hl 0 rfl) ?_
                    refine va_iald hx hb hK hP 19 18 rfl rfl (i := r6777) (vin (a := r6777.toInt) rfl (by omega)) dX12_isLess_105 ?_
                    refine lv_topi (fun z6858 e6859 => ?_)
                    have tzz6858 : z6858.toInt = (F 19 (r6777 : Int32).toNatClampNeg).toInt := congrArg Int32.toInt e6859
                    refine lv_aload_n hx hb dX12_isLess_106 rfl (lv_at hl 4 rfl) ?_
                    refine lv_iload_n hx hb dX12_isLess_107 rfl (lv_at hl 2 rfl) ?_
                    refine va_calli (va_runV (As := [.int x3_lp6769]) (rest := [.int z6858]) ⟨hx, hb, hml, hown, hwd⟩ (c_X12_hoursEnd l dC dI g c adK adV v F rc H.size x3_lp6769 hg hI (by omega)) (cwV 1 hwd (gV wk_748 wk_745 wk_746 wk_747 wk_5) rfl rfl rfl (by decide +kernel) ⟨Nat.le_of_ble_eq_true rfl, Nat.le_of_ble_eq_true rfl⟩) ⟨PM.blind, va_recv hK hP (ci := 12) (q0 := 0) rfl rfl, fun U hU hW => ⟨rfl, PM.at hK hE hP hS hU hW⟩⟩ rfl rfl hl.1 rfl (lv_room (Nat.le_of_ble_eq_true rfl)) dX12_isLess_108 ⟨Nat.le_of_ble_eq_true rfl, Nat.le_of_ble_eq_true rfl⟩) hS (fun q _ h => (freeM hS) q h) (freeM hS) (fun r6860 u t H1 locs ht hvm hw hB hz1 hk1 hS => ?_)
                    unfold BM at hB
                    rw [ht] at hB
                    have hP : va_P (dC, dI) classes (wM g c v F rc) H1 := hB
                    clear hz1
                    generalize H1 = H at hP hS ⊢
                    have rr_r6860 := i32_rng r6860
                    refine lv_icmp_lt (tgt := 129) hx hb dX12_isLess_111 (by decide) (fun c6861 => ?_) (fun c6861 => ?_)
                    · skip
                      have t6862 := cv_lt (a := z6858.toInt) rfl (b := r6860.toInt) rfl c6861
                      refine lv_iconst (v := 1) hx hb dX12_isLess_129 (by decide) ?_
                      have hP9 : va_P (dC, dI) classes (wM g c v F rc) H := hP
                      exact W.zret (v := 1) hx hb hr (rfl) (fun t ht hW => ⟨⟨1, (), rfl, by have : (1 : Int32).toInt = 1 := (by decide); omega, (by show va_P _ _ _ t.heap; rw [ht]; exact hP9)⟩, hS.F ht⟩) hS.2.2 dX12_isLess_130
                    · skip
                      have t6863 := cv_nlt (a := z6858.toInt) rfl (b := r6860.toInt) rfl c6861
                      refine lv_aload_n hx hb dX12_isLess_114 rfl (lv_at hl 4 rfl) ?_
                      refine va_get (D := (dC, dI)) (ci := 12) (v := .ref (g 21)) (C := RX12) (T := TX12) (N := 63) hx hb hwd inA_X12 hown hK hP 0 rfl rfl 26 (by decide) (hwd _ wk_202) (fun _ h9 => h9) rfl dX12_isLess_115 ?_
                      refine lv_iload hx hb dX12_isLess_118 (lv_at hl 0 rfl) ?_
                      refine va_iald hx hb hK hP 21 20 rfl rfl (i := r6777) (vin (a := r6777.toInt) rfl (by omega)) dX12_isLess_120 ?_
                      refine lv_topi (fun z6864 e6865 => ?_)
                      have tzz6864 : z6864.toInt = (F 21 (r6777 : Int32).toNatClampNeg).toInt := congrArg Int32.toInt e6865
                      refine lv_aload_n hx hb dX12_isLess_121 rfl (lv_at hl 4 rfl) ?_
                      refine lv_iload_n hx hb dX12_isLess_122 rfl (lv_at hl 2 rfl) ?_
                      refine va_calli (va_runV (As := [.int x3_lp6769]) (rest := [.int z6864]) ⟨hx, hb, hml, hown, hwd⟩ (c_X12_landingsEnd l dC dI g c adK adV v F rc H.size x3_lp6769 hg hI (by omega)) (cwV 1 hwd (gV wk_752 wk_749 wk_750 wk_751 wk_5) rfl rfl rfl (by decide +kernel) ⟨Nat.le_of_ble_eq_true rfl, Nat.le_of_ble_eq_true rfl⟩) ⟨PM.blind, va_recv hK hP (ci := 12) (q0 := 0) rfl rfl, fun U hU hW => ⟨rfl, PM.at hK hE hP hS hU hW⟩⟩ rfl rfl hl.1 rfl (lv_room (Nat.le_of_ble_eq_true rfl)) dX12_isLess_123 ⟨Nat.le_of_ble_eq_true rfl, Nat.le_of_ble_eq_true rfl⟩) hS (fun q _ h => (freeM hS) q h) (freeM hS) (fun r6866 u t H1 locs ht hvm hw hB hz1 hk1 hS => ?_)
                      unfold BM at hB
                      rw [ht] at hB
                      have hP : va_P (dC, dI) classes (wM g c v F rc) H1 := hB
                      clear hz1
                      generalize H1 = H at hP hS ⊢
                      have rr_r6866 := i32_rng r6866
                      refine lv_icmp_ge (tgt := 131) hx hb dX12_isLess_126 (by decide) (fun c6867 => ?_) (fun c6867 => ?_)
                      · skip
                        have t6868 := cv_le (a := r6866.toInt) rfl (b := z6864.toInt) rfl c6867
                        refine lv_iload hx hb dX12_isLess_131 (lv_at hl 0 rfl) ?_
                        refine lv_istore_n (lv' := [(3, .int r6777), (5, .int r6777), (4, .int x4_lp6769), (2, .int r6768), (0, .ref (g 0)), (1, .int p0)]) hx hb dX12_isLess_133 rfl hl (by decide) rfl (fun ls hl => ?_)
                        obtain ⟨z6869, e6870⟩ : ∃ y : Int32, y = x4_lp6769 + 1 := ⟨_, rfl⟩
                        try (have t6871 := tadd e6870 rfl (b := 1) (by decide) (by omega))
                        refine lv_iinc (v := z6869) (lv' := [(4, .int z6869), (3, .int r6777), (5, .int r6777), (2, .int r6768), (0, .ref (g 0)), (1, .int p0)]) hx hb dX12_isLess_134 hl (k := 2) rfl (by rw [e6870]; rfl) (by decide) rfl (fun ls hl => ?_)
                        refine lv_goto (tgt := 11) hx hb dX12_isLess_137 (by decide) ?_
                        exact ih_lp6769 z6869 r6777  _ _ _ (by omega) (by omega) (by omega) (by omega) hP hS (lv_sub hl [0, 1, 3, 4, 5] rfl)
                      · skip
                        have t6872 := cv_nle (a := r6866.toInt) rfl (b := z6864.toInt) rfl c6867
                        refine lv_iconst (v := 1) hx hb dX12_isLess_129 (by decide) ?_
                        have hP9 : va_P (dC, dI) classes (wM g c v F rc) H := hP
                        exact W.zret (v := 1) hx hb hr (rfl) (fun t ht hW => ⟨⟨1, (), rfl, by have : (1 : Int32).toInt = 1 := (by decide); omega, (by show va_P _ _ _ t.heap; rw [ht]; exact hP9)⟩, hS.F ht⟩) hS.2.2 dX12_isLess_130
            · skip
              have t6873 := cv_nle (a := z6830.toInt) rfl (b := r6829.toInt) rfl c6832
              refine lv_iconst (v := 1) hx hb dX12_isLess_70 (by decide) ?_
              have hP9 : va_P (dC, dI) classes (wM g c v F rc) H := hP
              exact W.zret (v := 1) hx hb hr (rfl) (fun t ht hW => ⟨⟨1, (), rfl, by have : (1 : Int32).toInt = 1 := (by decide); omega, (by show va_P _ _ _ t.heap; rw [ht]; exact hP9)⟩, hS.F ht⟩) hS.2.2 dX12_isLess_71
  obtain ⟨n9, hn9⟩ : ∃ n : Nat, 2147483648 - 0 ≤ (n : Int) := ⟨((2147483648 - 0 : Int)).toNat, by omega⟩
  exact lp6769 n9 0 (-1)  H _ ls (by have : (0 : Int32).toInt = 0 := (by decide); have : ((-1) : Int32).toInt = (-1) := (by decide); omega) (by have : (0 : Int32).toInt = 0 := (by decide); have : ((-1) : Int32).toInt = (-1) := (by decide); omega) (by have : (0 : Int32).toInt = 0 := (by decide); have : ((-1) : Int32).toInt = (-1) := (by decide); omega) (by have : (0 : Int32).toInt = 0 := (by decide); have : ((-1) : Int32).toInt = (-1) := (by decide); omega) hP hS hl
set_option maxHeartbeats 8000000 in
set_option maxRecDepth 100000 in
theorem c_X12_cannot (l : Launch) (dC : Nat → ClassId) (dI : Nat → Nat → Nat) (g : Nat → Nat) (c : Nat → ClassId) (adK adV : Nat → Nat) (v : Nat → Int32) (F : Nat → Nat → Int32) (rc sz : Nat) (p0 : Int32) (hg : injM g) (hI : IM v F) (h0 : 0 ≤ p0.toInt ∧ p0.toInt ≤ 99) : Met l yX12_cannot (Cond.code yX12_cannot cX12_cannot 2 (some .int) :: wA) ({ frames := 4, cells := 0, slots := 0, locals := 160 }) (va_Pc [.ref (g 0), .int p0] (PM dC dI g c adK adV v F rc sz)) (va_Qi (fun (r : Int32) (u : Unit) => True) (fun (_ : Unit) => BM dC dI g c (v, F, rc)) (AM g sz)) 0 0 (AM g sz) := by
  refine Met.ofW (cc := cX12_cannot) (maxL := 2) (ret := (some .int)) (by decide) rfl ?_
  intro p e s m args below meth c0 s₁ B hml hv
  obtain ⟨rfl, hsz, hP, hK, hE⟩ := hv
  have hx := B.exec
  have hb := B.bytes
  have hr := B.returns
  have hts := atoms_spec (ws := Cond.code yX12_cannot cX12_cannot 2 (some .int) :: wA) B.pre
  have hwd : ∀ w ∈ wA, w.before _ s = true := fun w h => hts w (List.mem_cons_of_mem _ h)
  have hown : s.vm.findClass RX12 = some m.cls := findClass_of_methodNamed B.named
  have hlocks := B.notSynchronized
  subst hsz
  have hl := lv_entry ([.ref (g 0), .int p0]) (n := 2) (Nat.le_of_ble_eq_true rfl)
  rw [lg_entry_eq]
  generalize (lg_sl ([.ref (g 0), .int p0]) ++ List.replicate (2 - (lg_sl ([.ref (g 0), .int p0])).length) Slot.unset).toArray = ls at hl ⊢
  have hl : lv_has ls 2 [(0, .ref (g 0)), (1, .int p0)] := hl
  obtain ⟨H, eH⟩ : ∃ z, z = s.heap := ⟨_, rfl⟩
  have hP : va_P (dC, dI) classes (wM g c v F rc) H := by rw [eH]; exact hP
  have hS : va_S (AM g s.heap.size) s.heap H [] := by rw [eH]; exact va_S.rf
  refine my_heap eH ?_
  have rp0 := i32_rng p0
  refine lv_aload_n hx hb dX12_cannot_0 rfl (lv_at hl 0 rfl) ?_
  refine lv_iload_n hx hb dX12_cannot_1 rfl (lv_at hl 1 rfl) ?_
  refine va_calli (va_runV (As := [.int p0]) (rest := []) ⟨hx, hb, hml, hown, hwd⟩ (c_X12_areTwice l dC dI g c adK adV v F rc H.size p0 hg hI ) (cwV 1 hwd (gV wk_732 wk_729 wk_730 wk_731 wk_5) rfl rfl rfl (by decide +kernel) ⟨Nat.le_of_ble_eq_true rfl, Nat.le_of_ble_eq_true rfl⟩) ⟨PM.blind, va_recv hK hP (ci := 12) (q0 := 0) rfl rfl, fun U hU hW => ⟨rfl, PM.at hK hE hP hS hU hW⟩⟩ rfl rfl hl.1 rfl (lv_room (Nat.le_of_ble_eq_true rfl)) dX12_cannot_2 ⟨Nat.le_of_ble_eq_true rfl, Nat.le_of_ble_eq_true rfl⟩) hS (fun q _ h => (freeM hS) q h) (freeM hS) (fun r6874 u t H1 locs ht hvm hw hB hz1 hk1 hS => ?_)
  unfold BM at hB
  rw [ht] at hB
  have hP : va_P (dC, dI) classes (wM g c v F rc) H1 := hB
  have hw_r6874 : 0 ≤ r6874.toInt ∧ r6874.toInt ≤ 1 := hw
  clear hw
  clear hz1
  generalize H1 = H at hP hS ⊢
  refine lv_if_eq (tgt := 12) hx hb dX12_cannot_5 (by decide) (fun c6875 => ?_) (fun c6875 => ?_)
  · skip
    have t6876 := cv_eq (a := r6874.toInt) rfl (b := 0) (by decide) c6875
    refine lv_aload_n hx hb dX12_cannot_12 rfl (lv_at hl 0 rfl) ?_
    refine lv_iload_n hx hb dX12_cannot_13 rfl (lv_at hl 1 rfl) ?_
    refine va_calli (va_runV (As := [.int p0]) (rest := []) ⟨hx, hb, hml, hown, hwd⟩ (c_X12_isLess l dC dI g c adK adV v F rc H.size p0 hg hI ) (cwV 1 hwd (gV wk_740 wk_737 wk_738 wk_739 wk_5) rfl rfl rfl (by decide +kernel) ⟨Nat.le_of_ble_eq_true rfl, Nat.le_of_ble_eq_true rfl⟩) ⟨PM.blind, va_recv hK hP (ci := 12) (q0 := 0) rfl rfl, fun U hU hW => ⟨rfl, PM.at hK hE hP hS hU hW⟩⟩ rfl rfl hl.1 rfl (lv_room (Nat.le_of_ble_eq_true rfl)) dX12_cannot_14 ⟨Nat.le_of_ble_eq_true rfl, Nat.le_of_ble_eq_true rfl⟩) hS (fun q _ h => (freeM hS) q h) (freeM hS) (fun r6877 u t H1 locs ht hvm hw hB hz1 hk1 hS => ?_)
    unfold BM at hB
    rw [ht] at hB
    have hP : va_P (dC, dI) classes (wM g c v F rc) H1 := hB
    have hw_r6877 : 0 ≤ r6877.toInt ∧ r6877.toInt ≤ 1 := hw
    clear hw
    clear hz1
    generalize H1 = H at hP hS ⊢
    refine lv_if_eq (tgt := 24) hx hb dX12_cannot_17 (by decide) (fun c6878 => ?_) (fun c6878 => ?_)
    · skip
      have t6879 := cv_eq (a := r6877.toInt) rfl (b := 0) (by decide) c6878
      refine lv_aload_n hx hb dX12_cannot_24 rfl (lv_at hl 0 rfl) ?_
      refine lv_iload_n hx hb dX12_cannot_25 rfl (lv_at hl 1 rfl) ?_
      refine va_calli (va_runV (As := [.int p0]) (rest := []) ⟨hx, hb, hml, hown, hwd⟩ (c_X12_isDouble l dC dI g c adK adV v F rc H.size p0 hg hI (by omega)) (cwV 1 hwd (gV wk_756 wk_753 wk_754 wk_755 wk_5) rfl rfl rfl (by decide +kernel) ⟨Nat.le_of_ble_eq_true rfl, Nat.le_of_ble_eq_true rfl⟩) ⟨PM.blind, va_recv hK hP (ci := 12) (q0 := 0) rfl rfl, fun U hU hW => ⟨rfl, PM.at hK hE hP hS hU hW⟩⟩ rfl rfl hl.1 rfl (lv_room (Nat.le_of_ble_eq_true rfl)) dX12_cannot_26 ⟨Nat.le_of_ble_eq_true rfl, Nat.le_of_ble_eq_true rfl⟩) hS (fun q _ h => (freeM hS) q h) (freeM hS) (fun r6880 u t H1 locs ht hvm hw hB hz1 hk1 hS => ?_)
      unfold BM at hB
      rw [ht] at hB
      have hP : va_P (dC, dI) classes (wM g c v F rc) H1 := hB
      have hw_r6880 : 0 ≤ r6880.toInt ∧ r6880.toInt ≤ 1 := hw
      clear hw
      clear hz1
      generalize H1 = H at hP hS ⊢
      refine lv_if_eq (tgt := 36) hx hb dX12_cannot_29 (by decide) (fun c6881 => ?_) (fun c6881 => ?_)
      · skip
        have t6882 := cv_eq (a := r6880.toInt) rfl (b := 0) (by decide) c6881
        refine lv_iconst (v := 0) hx hb dX12_cannot_36 (by decide) ?_
        have hP9 : va_P (dC, dI) classes (wM g c v F rc) H := hP
        exact W.iret (v := 0) hx hb hr (fun t ht hW => ⟨⟨0, (), rfl, trivial, (by show va_P _ _ _ t.heap; rw [ht]; exact hP9)⟩, hS.F ht⟩) hS.2.2 dX12_cannot_37
      · skip
        have t6883 := cv_ne (a := r6880.toInt) rfl (b := 0) (by decide) c6881
        refine lv_iconst (v := 3) hx hb dX12_cannot_32 (by decide) ?_
        refine lv_goto (tgt := 37) hx hb dX12_cannot_33 (by decide) ?_
        have hP9 : va_P (dC, dI) classes (wM g c v F rc) H := hP
        exact W.iret (v := 3) hx hb hr (fun t ht hW => ⟨⟨3, (), rfl, trivial, (by show va_P _ _ _ t.heap; rw [ht]; exact hP9)⟩, hS.F ht⟩) hS.2.2 dX12_cannot_37
    · skip
      have t6884 := cv_ne (a := r6877.toInt) rfl (b := 0) (by decide) c6878
      refine lv_iconst (v := 2) hx hb dX12_cannot_20 (by decide) ?_
      refine lv_goto (tgt := 37) hx hb dX12_cannot_21 (by decide) ?_
      have hP9 : va_P (dC, dI) classes (wM g c v F rc) H := hP
      exact W.iret (v := 2) hx hb hr (fun t ht hW => ⟨⟨2, (), rfl, trivial, (by show va_P _ _ _ t.heap; rw [ht]; exact hP9)⟩, hS.F ht⟩) hS.2.2 dX12_cannot_37
  · skip
    have t6885 := cv_ne (a := r6874.toInt) rfl (b := 0) (by decide) c6875
    refine lv_iconst (v := 1) hx hb dX12_cannot_8 (by decide) ?_
    refine lv_goto (tgt := 37) hx hb dX12_cannot_9 (by decide) ?_
    have hP9 : va_P (dC, dI) classes (wM g c v F rc) H := hP
    exact W.iret (v := 1) hx hb hr (fun t ht hW => ⟨⟨1, (), rfl, trivial, (by show va_P _ _ _ t.heap; rw [ht]; exact hP9)⟩, hS.F ht⟩) hS.2.2 dX12_cannot_37
set_option maxHeartbeats 8000000 in
set_option maxRecDepth 100000 in
theorem c_X12_ofPart (l : Launch) (dC : Nat → ClassId) (dI : Nat → Nat → Nat) (g : Nat → Nat) (c : Nat → ClassId) (adK adV : Nat → Nat) (v : Nat → Int32) (F : Nat → Nat → Int32) (rc sz : Nat) (p0 : Int32) (p1 : Int32) (hg : injM g) (hI : IM v F) : Met l yX12_ofPart (Cond.code yX12_ofPart cX12_ofPart 3 (some .int) :: wA) ({ frames := 5, cells := 0, slots := 0, locals := 200 }) (va_Pc [.ref (g 0), .int p0, .int p1] (PM dC dI g c adK adV v F rc sz)) (va_Qi (fun (r : Int32) (u : Unit) => True) (fun (_ : Unit) => BM dC dI g c (v, F, rc)) (AM g sz)) 0 0 (AM g sz) := by
  refine Met.ofW (cc := cX12_ofPart) (maxL := 3) (ret := (some .int)) (by decide) rfl ?_
  intro p e s m args below meth c0 s₁ B hml hv
  obtain ⟨rfl, hsz, hP, hK, hE⟩ := hv
  have hx := B.exec
  have hb := B.bytes
  have hr := B.returns
  have hts := atoms_spec (ws := Cond.code yX12_ofPart cX12_ofPart 3 (some .int) :: wA) B.pre
  have hwd : ∀ w ∈ wA, w.before _ s = true := fun w h => hts w (List.mem_cons_of_mem _ h)
  have hown : s.vm.findClass RX12 = some m.cls := findClass_of_methodNamed B.named
  have hlocks := B.notSynchronized
  subst hsz
  have hl := lv_entry ([.ref (g 0), .int p0, .int p1]) (n := 3) (Nat.le_of_ble_eq_true rfl)
  rw [lg_entry_eq]
  generalize (lg_sl ([.ref (g 0), .int p0, .int p1]) ++ List.replicate (3 - (lg_sl ([.ref (g 0), .int p0, .int p1])).length) Slot.unset).toArray = ls at hl ⊢
  have hl : lv_has ls 3 [(0, .ref (g 0)), (1, .int p0), (2, .int p1)] := hl
  obtain ⟨H, eH⟩ : ∃ z, z = s.heap := ⟨_, rfl⟩
  have hP : va_P (dC, dI) classes (wM g c v F rc) H := by rw [eH]; exact hP
  have hS : va_S (AM g s.heap.size) s.heap H [] := by rw [eH]; exact va_S.rf
  refine my_heap eH ?_
  have rp0 := i32_rng p0
  have rp1 := i32_rng p1
  refine lv_aload_n hx hb dX12_ofPart_0 rfl (lv_at hl 0 rfl) ?_
  refine lv_iload_n hx hb dX12_ofPart_1 rfl (lv_at hl 1 rfl) ?_
  have t6886 : 0 ≤ (v 14).toInt ∧ (v 14).toInt ≤ 100 := hI.1 14 _ _ rfl
  refine va_calli (va_runV (As := [.int p0]) (rest := []) ⟨hx, hb, hml, hown, hwd⟩ (c_X12_isPart l dC dI g c adK adV v F rc H.size p0 hg hI ) (cwV 1 hwd (gV wk_631 wk_628 wk_629 wk_630 wk_5) rfl rfl rfl (by decide +kernel) ⟨Nat.le_of_ble_eq_true rfl, Nat.le_of_ble_eq_true rfl⟩) ⟨PM.blind, va_recv hK hP (ci := 12) (q0 := 0) rfl rfl, fun U hU hW => ⟨rfl, PM.at hK hE hP hS hU hW⟩⟩ rfl rfl hl.1 rfl (lv_room (Nat.le_of_ble_eq_true rfl)) dX12_ofPart_2 ⟨Nat.le_of_ble_eq_true rfl, Nat.le_of_ble_eq_true rfl⟩) hS (fun q _ h => (freeM hS) q h) (freeM hS) (fun r6887 u t H1 locs ht hvm hw hB hz1 hk1 hS => ?_)
  unfold BM at hB
  rw [ht] at hB
  have hP : va_P (dC, dI) classes (wM g c v F rc) H1 := hB
  replace hw : (r6887.toInt = 1 ∧ 0 ≤ p0.toInt ∧ p0.toInt < (v 14).toInt) ∨ (r6887.toInt = 0 ∧ (p0.toInt < 0 ∨ (v 14).toInt ≤ p0.toInt)) := hw
  have hw_r6887 := hw
  clear hw
  clear hz1
  generalize H1 = H at hP hS ⊢
  refine lv_if_ne (tgt := 11) hx hb dX12_ofPart_5 (by decide) (fun c6888 => ?_) (fun c6888 => ?_)
  · skip
    have t6889 := cv_ne (a := r6887.toInt) rfl (b := 0) (by decide) c6888
    refine lv_iload_n hx hb dX12_ofPart_11 rfl (lv_at hl 2 rfl) ?_
    by_cases hlo6890 : p1.toInt < 0
    · refine lv_tableOut (tgt := 134) hx hb dX12_ofPart_12 (Or.inl hlo6890) (by decide) ?_
      refine lv_ldc (v := (-2000000000)) hx hb hown (hwd _ wk_542) dX12_ofPart_134 ?_
      have hP9 : va_P (dC, dI) classes (wM g c v F rc) H := hP
      exact W.iret (v := (-2000000000)) hx hb hr (fun t ht hW => ⟨⟨(-2000000000), (), rfl, trivial, (by show va_P _ _ _ t.heap; rw [ht]; exact hP9)⟩, hS.F ht⟩) hS.2.2 dX12_ofPart_136
    by_cases hhi6891 : 8 < p1.toInt
    · refine lv_tableOut (tgt := 134) hx hb dX12_ofPart_12 (Or.inr hhi6891) (by decide) ?_
      refine lv_ldc (v := (-2000000000)) hx hb hown (hwd _ wk_542) dX12_ofPart_134 ?_
      have hP9 : va_P (dC, dI) classes (wM g c v F rc) H := hP
      exact W.iret (v := (-2000000000)) hx hb hr (fun t ht hW => ⟨⟨(-2000000000), (), rfl, trivial, (by show va_P _ _ _ t.heap; rw [ht]; exact hP9)⟩, hS.F ht⟩) hS.2.2 dX12_ofPart_136
    rcases (show p1.toInt = 0 ∨ p1.toInt = 1 ∨ p1.toInt = 2 ∨ p1.toInt = 3 ∨ p1.toInt = 4 ∨ p1.toInt = 5 ∨ p1.toInt = 6 ∨ p1.toInt = 7 ∨ p1.toInt = 8 by omega) with hk | hk | hk | hk | hk | hk | hk | hk | hk
    · refine lv_tableIn (off := 52) (tgt := 64) hx hb dX12_ofPart_12 hlo6890 hhi6891 (by rw [hk]; decide) (by decide) ?_
      refine lv_aload_n hx hb dX12_ofPart_64 rfl (lv_at hl 0 rfl) ?_
      refine va_get (D := (dC, dI)) (ci := 12) (v := .ref (g 11)) (C := RX12) (T := TX12) (N := 63) hx hb hwd inA_X12 hown hK hP 0 rfl rfl 15 (by decide) (hwd _ wk_192) (fun _ h9 => h9) rfl dX12_ofPart_65 ?_
      refine lv_iload_n hx hb dX12_ofPart_68 rfl (lv_at hl 1 rfl) ?_
      refine va_iald hx hb hK hP 11 10 rfl rfl (i := p0) (vin (a := p0.toInt) rfl (by omega)) dX12_ofPart_69 ?_
      refine lv_topi (fun z6892 e6893 => ?_)
      have t6894 : 0 ≤ z6892.toInt ∧ z6892.toInt ≤ 9 := by rw [e6893]; exact hI.2 11 _ _ rfl _
      have hP9 : va_P (dC, dI) classes (wM g c v F rc) H := hP
      exact W.iret (v := z6892) hx hb hr (fun t ht hW => ⟨⟨z6892, (), rfl, trivial, (by show va_P _ _ _ t.heap; rw [ht]; exact hP9)⟩, hS.F ht⟩) hS.2.2 dX12_ofPart_70
    · refine lv_tableIn (off := 59) (tgt := 71) hx hb dX12_ofPart_12 hlo6890 hhi6891 (by rw [hk]; decide) (by decide) ?_
      refine lv_aload_n hx hb dX12_ofPart_71 rfl (lv_at hl 0 rfl) ?_
      refine va_get (D := (dC, dI)) (ci := 12) (v := .ref (g 12)) (C := RX12) (T := TX12) (N := 63) hx hb hwd inA_X12 hown hK hP 0 rfl rfl 16 (by decide) (hwd _ wk_193) (fun _ h9 => h9) rfl dX12_ofPart_72 ?_
      refine lv_iload_n hx hb dX12_ofPart_75 rfl (lv_at hl 1 rfl) ?_
      refine va_iald hx hb hK hP 12 11 rfl rfl (i := p0) (vin (a := p0.toInt) rfl (by omega)) dX12_ofPart_76 ?_
      refine lv_topi (fun z6895 e6896 => ?_)
      have hP9 : va_P (dC, dI) classes (wM g c v F rc) H := hP
      exact W.iret (v := z6895) hx hb hr (fun t ht hW => ⟨⟨z6895, (), rfl, trivial, (by show va_P _ _ _ t.heap; rw [ht]; exact hP9)⟩, hS.F ht⟩) hS.2.2 dX12_ofPart_77
    · refine lv_tableIn (off := 66) (tgt := 78) hx hb dX12_ofPart_12 hlo6890 hhi6891 (by rw [hk]; decide) (by decide) ?_
      refine lv_aload_n hx hb dX12_ofPart_78 rfl (lv_at hl 0 rfl) ?_
      refine va_get (D := (dC, dI)) (ci := 12) (v := .ref (g 13)) (C := RX12) (T := TX12) (N := 63) hx hb hwd inA_X12 hown hK hP 0 rfl rfl 17 (by decide) (hwd _ wk_194) (fun _ h9 => h9) rfl dX12_ofPart_79 ?_
      refine lv_iload_n hx hb dX12_ofPart_82 rfl (lv_at hl 1 rfl) ?_
      refine va_iald hx hb hK hP 13 12 rfl rfl (i := p0) (vin (a := p0.toInt) rfl (by omega)) dX12_ofPart_83 ?_
      refine lv_topi (fun z6897 e6898 => ?_)
      have t6899 : 0 ≤ z6897.toInt ∧ z6897.toInt ≤ 12 := by rw [e6898]; exact hI.2 13 _ _ rfl _
      have hP9 : va_P (dC, dI) classes (wM g c v F rc) H := hP
      exact W.iret (v := z6897) hx hb hr (fun t ht hW => ⟨⟨z6897, (), rfl, trivial, (by show va_P _ _ _ t.heap; rw [ht]; exact hP9)⟩, hS.F ht⟩) hS.2.2 dX12_ofPart_84
    · refine lv_tableIn (off := 73) (tgt := 85) hx hb dX12_ofPart_12 hlo6890 hhi6891 (by rw [hk]; decide) (by decide) ?_
      refine lv_aload_n hx hb dX12_ofPart_85 rfl (lv_at hl 0 rfl) ?_
      refine va_get (D := (dC, dI)) (ci := 12) (v := .ref (g 14)) (C := RX12) (T := TX12) (N := 63) hx hb hwd inA_X12 hown hK hP 0 rfl rfl 18 (by decide) (hwd _ wk_195) (fun _ h9 => h9) rfl dX12_ofPart_86 ?_
      refine lv_iconst (v := 3) hx hb dX12_ofPart_89 (by decide) ?_
      refine lv_iload_n hx hb dX12_ofPart_90 rfl (lv_at hl 1 rfl) ?_
      refine lv_imul hx hb dX12_ofPart_91 ?_
      refine lv_topi (fun z6900 e6901 => ?_)
      try (have t6902 := tmul e6901 (a := 3) (by decide) (b := p0.toInt) rfl (by omega))
      refine va_iald hx hb hK hP 14 13 rfl rfl (i := z6900) (vin (a := z6900.toInt) rfl (by omega)) dX12_ofPart_92 ?_
      refine lv_topi (fun z6903 e6904 => ?_)
      have hP9 : va_P (dC, dI) classes (wM g c v F rc) H := hP
      exact W.iret (v := z6903) hx hb hr (fun t ht hW => ⟨⟨z6903, (), rfl, trivial, (by show va_P _ _ _ t.heap; rw [ht]; exact hP9)⟩, hS.F ht⟩) hS.2.2 dX12_ofPart_93
    · refine lv_tableIn (off := 82) (tgt := 94) hx hb dX12_ofPart_12 hlo6890 hhi6891 (by rw [hk]; decide) (by decide) ?_
      refine lv_aload_n hx hb dX12_ofPart_94 rfl (lv_at hl 0 rfl) ?_
      refine va_get (D := (dC, dI)) (ci := 12) (v := .ref (g 14)) (C := RX12) (T := TX12) (N := 63) hx hb hwd inA_X12 hown hK hP 0 rfl rfl 18 (by decide) (hwd _ wk_195) (fun _ h9 => h9) rfl dX12_ofPart_95 ?_
      refine lv_iconst (v := 3) hx hb dX12_ofPart_98 (by decide) ?_
      refine lv_iload_n hx hb dX12_ofPart_99 rfl (lv_at hl 1 rfl) ?_
      refine lv_imul hx hb dX12_ofPart_100 ?_
      refine lv_topi (fun z6905 e6906 => ?_)
      try (have t6907 := tmul e6906 (a := 3) (by decide) (b := p0.toInt) rfl (by omega))
      refine lv_iconst (v := 1) hx hb dX12_ofPart_101 (by decide) ?_
      refine lv_iadd hx hb dX12_ofPart_102 ?_
      refine lv_topi (fun z6908 e6909 => ?_)
      try (have t6910 := tadd e6909 (a := z6905.toInt) rfl (b := 1) (by decide) (by omega))
      refine va_iald hx hb hK hP 14 13 rfl rfl (i := z6908) (vin (a := z6908.toInt) rfl (by omega)) dX12_ofPart_103 ?_
      refine lv_topi (fun z6911 e6912 => ?_)
      have hP9 : va_P (dC, dI) classes (wM g c v F rc) H := hP
      exact W.iret (v := z6911) hx hb hr (fun t ht hW => ⟨⟨z6911, (), rfl, trivial, (by show va_P _ _ _ t.heap; rw [ht]; exact hP9)⟩, hS.F ht⟩) hS.2.2 dX12_ofPart_104
    · refine lv_tableIn (off := 93) (tgt := 105) hx hb dX12_ofPart_12 hlo6890 hhi6891 (by rw [hk]; decide) (by decide) ?_
      refine lv_aload_n hx hb dX12_ofPart_105 rfl (lv_at hl 0 rfl) ?_
      refine va_get (D := (dC, dI)) (ci := 12) (v := .ref (g 14)) (C := RX12) (T := TX12) (N := 63) hx hb hwd inA_X12 hown hK hP 0 rfl rfl 18 (by decide) (hwd _ wk_195) (fun _ h9 => h9) rfl dX12_ofPart_106 ?_
      refine lv_iconst (v := 3) hx hb dX12_ofPart_109 (by decide) ?_
      refine lv_iload_n hx hb dX12_ofPart_110 rfl (lv_at hl 1 rfl) ?_
      refine lv_imul hx hb dX12_ofPart_111 ?_
      refine lv_topi (fun z6913 e6914 => ?_)
      try (have t6915 := tmul e6914 (a := 3) (by decide) (b := p0.toInt) rfl (by omega))
      refine lv_iconst (v := 2) hx hb dX12_ofPart_112 (by decide) ?_
      refine lv_iadd hx hb dX12_ofPart_113 ?_
      refine lv_topi (fun z6916 e6917 => ?_)
      try (have t6918 := tadd e6917 (a := z6913.toInt) rfl (b := 2) (by decide) (by omega))
      refine va_iald hx hb hK hP 14 13 rfl rfl (i := z6916) (vin (a := z6916.toInt) rfl (by omega)) dX12_ofPart_114 ?_
      refine lv_topi (fun z6919 e6920 => ?_)
      have hP9 : va_P (dC, dI) classes (wM g c v F rc) H := hP
      exact W.iret (v := z6919) hx hb hr (fun t ht hW => ⟨⟨z6919, (), rfl, trivial, (by show va_P _ _ _ t.heap; rw [ht]; exact hP9)⟩, hS.F ht⟩) hS.2.2 dX12_ofPart_115
    · refine lv_tableIn (off := 104) (tgt := 116) hx hb dX12_ofPart_12 hlo6890 hhi6891 (by rw [hk]; decide) (by decide) ?_
      refine lv_aload_n hx hb dX12_ofPart_116 rfl (lv_at hl 0 rfl) ?_
      refine lv_iload_n hx hb dX12_ofPart_117 rfl (lv_at hl 1 rfl) ?_
      have t6921 : 0 ≤ (v 19).toInt ∧ (v 19).toInt ≤ 500 := hI.1 19 _ _ rfl
      refine va_calli (va_runV (As := [.int p0]) (rest := []) ⟨hx, hb, hml, hown, hwd⟩ (c_X12_staysOf l dC dI g c adK adV v F rc H.size p0 hg hI ) (cwV 1 hwd (gV wk_720 wk_717 wk_718 wk_719 wk_5) rfl rfl rfl (by decide +kernel) ⟨Nat.le_of_ble_eq_true rfl, Nat.le_of_ble_eq_true rfl⟩) ⟨PM.blind, va_recv hK hP (ci := 12) (q0 := 0) rfl rfl, fun U hU hW => ⟨rfl, PM.at hK hE hP hS hU hW⟩⟩ rfl rfl hl.1 rfl (lv_room (Nat.le_of_ble_eq_true rfl)) dX12_ofPart_118 ⟨Nat.le_of_ble_eq_true rfl, Nat.le_of_ble_eq_true rfl⟩) hS (fun q _ h => (freeM hS) q h) (freeM hS) (fun r6922 u t H1 locs ht hvm hw hB hz1 hk1 hS => ?_)
      unfold BM at hB
      rw [ht] at hB
      have hP : va_P (dC, dI) classes (wM g c v F rc) H1 := hB
      replace hw : r6922.toInt = (cnt (stP (F 15) p0.toInt) (v 19).toNatClampNeg : Int) := hw
      have hw_r6922 := hw
      clear hw
      clear hz1
      generalize H1 = H at hP hS ⊢
      have rr_r6922 := i32_rng r6922
      have hP9 : va_P (dC, dI) classes (wM g c v F rc) H := hP
      exact W.iret (v := r6922) hx hb hr (fun t ht hW => ⟨⟨r6922, (), rfl, trivial, (by show va_P _ _ _ t.heap; rw [ht]; exact hP9)⟩, hS.F ht⟩) hS.2.2 dX12_ofPart_121
    · refine lv_tableIn (off := 110) (tgt := 122) hx hb dX12_ofPart_12 hlo6890 hhi6891 (by rw [hk]; decide) (by decide) ?_
      refine lv_aload_n hx hb dX12_ofPart_122 rfl (lv_at hl 0 rfl) ?_
      refine lv_iload_n hx hb dX12_ofPart_123 rfl (lv_at hl 1 rfl) ?_
      refine va_calli (va_runV (As := [.int p0]) (rest := []) ⟨hx, hb, hml, hown, hwd⟩ (c_X12_gapsOf l dC dI g c adK adV v F rc H.size p0 hg hI ) (cwV 1 hwd (gV wk_724 wk_721 wk_722 wk_723 wk_5) rfl rfl rfl (by decide +kernel) ⟨Nat.le_of_ble_eq_true rfl, Nat.le_of_ble_eq_true rfl⟩) ⟨PM.blind, va_recv hK hP (ci := 12) (q0 := 0) rfl rfl, fun U hU hW => ⟨rfl, PM.at hK hE hP hS hU hW⟩⟩ rfl rfl hl.1 rfl (lv_room (Nat.le_of_ble_eq_true rfl)) dX12_ofPart_124 ⟨Nat.le_of_ble_eq_true rfl, Nat.le_of_ble_eq_true rfl⟩) hS (fun q _ h => (freeM hS) q h) (freeM hS) (fun r6923 u t H1 locs ht hvm hw hB hz1 hk1 hS => ?_)
      unfold BM at hB
      rw [ht] at hB
      have hP : va_P (dC, dI) classes (wM g c v F rc) H1 := hB
      clear hz1
      generalize H1 = H at hP hS ⊢
      have rr_r6923 := i32_rng r6923
      have hP9 : va_P (dC, dI) classes (wM g c v F rc) H := hP
      exact W.iret (v := r6923) hx hb hr (fun t ht hW => ⟨⟨r6923, (), rfl, trivial, (by show va_P _ _ _ t.heap; rw [ht]; exact hP9)⟩, hS.F ht⟩) hS.2.2 dX12_ofPart_127
    · refine lv_tableIn (off := 116) (tgt := 128) hx hb dX12_ofPart_12 hlo6890 hhi6891 (by rw [hk]; decide) (by decide) ?_
      refine lv_aload_n hx hb dX12_ofPart_128 rfl (lv_at hl 0 rfl) ?_
      refine lv_iload_n hx hb dX12_ofPart_129 rfl (lv_at hl 1 rfl) ?_
      refine va_calli (va_runV (As := [.int p0]) (rest := []) ⟨hx, hb, hml, hown, hwd⟩ (c_X12_cannot l dC dI g c adK adV v F rc H.size p0 hg hI (by omega)) (cwV 1 hwd (gV wk_728 wk_725 wk_726 wk_727 wk_5) rfl rfl rfl (by decide +kernel) ⟨Nat.le_of_ble_eq_true rfl, Nat.le_of_ble_eq_true rfl⟩) ⟨PM.blind, va_recv hK hP (ci := 12) (q0 := 0) rfl rfl, fun U hU hW => ⟨rfl, PM.at hK hE hP hS hU hW⟩⟩ rfl rfl hl.1 rfl (lv_room (Nat.le_of_ble_eq_true rfl)) dX12_ofPart_130 ⟨Nat.le_of_ble_eq_true rfl, Nat.le_of_ble_eq_true rfl⟩) hS (fun q _ h => (freeM hS) q h) (freeM hS) (fun r6924 u t H1 locs ht hvm hw hB hz1 hk1 hS => ?_)
      unfold BM at hB
      rw [ht] at hB
      have hP : va_P (dC, dI) classes (wM g c v F rc) H1 := hB
      clear hz1
      generalize H1 = H at hP hS ⊢
      have rr_r6924 := i32_rng r6924
      have hP9 : va_P (dC, dI) classes (wM g c v F rc) H := hP
      exact W.iret (v := r6924) hx hb hr (fun t ht hW => ⟨⟨r6924, (), rfl, trivial, (by show va_P _ _ _ t.heap; rw [ht]; exact hP9)⟩, hS.F ht⟩) hS.2.2 dX12_ofPart_133
  · skip
    have t6925 := cv_eq (a := r6887.toInt) rfl (b := 0) (by decide) c6888
    refine lv_ldc (v := (-2000000000)) hx hb hown (hwd _ wk_542) dX12_ofPart_8 ?_
    have hP9 : va_P (dC, dI) classes (wM g c v F rc) H := hP
    exact W.iret (v := (-2000000000)) hx hb hr (fun t ht hW => ⟨⟨(-2000000000), (), rfl, trivial, (by show va_P _ _ _ t.heap; rw [ht]; exact hP9)⟩, hS.F ht⟩) hS.2.2 dX12_ofPart_10
