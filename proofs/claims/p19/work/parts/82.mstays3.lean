set_option maxHeartbeats 8000000 in
set_option maxRecDepth 100000 in
theorem c_X12_staysOf (l : Launch) (dC : Nat → ClassId) (dI : Nat → Nat → Nat) (g : Nat → Nat) (c : Nat → ClassId) (adK adV : Nat → Nat) (v : Nat → Int32) (F : Nat → Nat → Int32) (rc sz : Nat) (p0 : Int32) (hg : injM g) (hI : IM v F) : Met l yX12_staysOf (Cond.code yX12_staysOf cX12_staysOf 4 (some .int) :: wA) ({ frames := 1, cells := 0, slots := 0, locals := 40 }) (va_Pc [.ref (g 0), .int p0] (PM dC dI g c adK adV v F rc sz)) (va_Qi (fun (r : Int32) (u : Unit) => r.toInt = (cnt (stP (F 15) p0.toInt) (v 19).toNatClampNeg : Int)) (fun (_ : Unit) => BM dC dI g c (v, F, rc)) (AM g sz)) 0 0 (AM g sz) := by
  refine Met.ofW (cc := cX12_staysOf) (maxL := 4) (ret := (some .int)) (by decide) rfl ?_
  intro p e s m args below meth c0 s₁ B hml hv
  obtain ⟨rfl, hsz, hP, hK, hE⟩ := hv
  have hx := B.exec
  have hb := B.bytes
  have hr := B.returns
  have hts := atoms_spec (ws := Cond.code yX12_staysOf cX12_staysOf 4 (some .int) :: wA) B.pre
  have hwd : ∀ w ∈ wA, w.before _ s = true := fun w h => hts w (List.mem_cons_of_mem _ h)
  have hown : s.vm.findClass RX12 = some m.cls := findClass_of_methodNamed B.named
  have hlocks := B.notSynchronized
  subst hsz
  have hl := lv_entry ([.ref (g 0), .int p0]) (n := 4) (Nat.le_of_ble_eq_true rfl)
  rw [lg_entry_eq]
  generalize (lg_sl ([.ref (g 0), .int p0]) ++ List.replicate (4 - (lg_sl ([.ref (g 0), .int p0])).length) Slot.unset).toArray = ls at hl ⊢
  have hl : lv_has ls 4 [(0, .ref (g 0)), (1, .int p0)] := hl
  obtain ⟨H, eH⟩ : ∃ z, z = s.heap := ⟨_, rfl⟩
  have hP : va_P (dC, dI) classes (wM g c v F rc) H := by rw [eH]; exact hP
  have hS : va_S (AM g s.heap.size) s.heap H [] := by rw [eH]; exact va_S.rf
  refine my_heap eH ?_
  have rp0 := i32_rng p0
  have hb19 : 0 ≤ (v 19).toInt ∧ (v 19).toInt ≤ 500 := hI.1 19 _ _ rfl
  refine lv_iconst (v := 0) hx hb dX12_staysOf_0 (by decide) ?_
  refine lv_istore_n (lv' := [(2, .int 0), (0, .ref (g 0)), (1, .int p0)]) hx hb dX12_staysOf_1 rfl hl (by decide) rfl (fun ls hl => ?_)
  refine lv_iconst (v := 0) hx hb dX12_staysOf_2 (by decide) ?_
  refine lv_istore_n (lv' := [(3, .int 0), (2, .int 0), (0, .ref (g 0)), (1, .int p0)]) hx hb dX12_staysOf_3 rfl hl (by decide) rfl (fun ls hl => ?_)
  have lp6666 : ∀ (n : Nat) (x3_lp6666 : Int32) (x2_lp6666 : Int32) (H : Heap) (locs : List Loc) (ls : Array Slot), (0 ≤ x3_lp6666.toInt) → (x3_lp6666.toInt ≤ (v 19).toInt) → (0 ≤ x2_lp6666.toInt ∧ x2_lp6666.toInt ≤ x3_lp6666.toInt) → (x2_lp6666.toInt = (cnt (stP (F 15) p0.toInt) x3_lp6666.toNatClampNeg : Int)) → (2147483648 - x3_lp6666.toInt ≤ (n : Int)) → va_P (dC, dI) classes (wM g c v F rc) H → va_S (AM g s.heap.size) s.heap H locs → lv_has ls 4 [(3, .int x3_lp6666), (2, .int x2_lp6666), (0, .ref (g 0)), (1, .int p0)] → W p l e (headSpec (Cond.code yX12_staysOf cX12_staysOf 4 (some .int) :: wA) ({ frames := 1, cells := 0, slots := 0, locals := 40 })).room s m ([.ref (g 0), .int p0] : List Value).toArray below meth c0 H locs 0 0 (MQ below (va_Qi (fun (r : Int32) (u : Unit) => r.toInt = (cnt (stP (F 15) p0.toInt) (v 19).toNatClampNeg : Int)) (fun (_ : Unit) => BM dC dI g c (v, F, rc)) (AM g s.heap.size)) ([.ref (g 0), .int p0] : List Value).toArray s 0 0 (AM g s.heap.size)) (F0 m 4 ls []) := by
    intro n
    induction n with
    | zero =>
      intro x3_lp6666 x2_lp6666 H locs ls t6667 t6668 t6669 t6670 hm hP hS hl
      exfalso
      have := i32_rng x3_lp6666
      have := i32_rng x2_lp6666
      omega
    | succ n ih_lp6666 =>
      intro x3_lp6666 x2_lp6666 H locs ls t6667 t6668 t6669 t6670 hm hP hS hl
      have rx3_lp6666 := i32_rng x3_lp6666
      have rx2_lp6666 := i32_rng x2_lp6666
      refine lv_iload_n hx hb dX12_staysOf_4 rfl (lv_at hl 0 rfl) ?_
      refine lv_aload_n hx hb dX12_staysOf_5 rfl (lv_at hl 2 rfl) ?_
      refine va_get (D := (dC, dI)) (ci := 12) (v := .int (v 19)) (C := RX12) (T := TX12) (N := 63) hx hb hwd inA_X12 hown hK hP 0 rfl rfl 19 (by decide) (hwd _ wk_494) (fun _ h9 => h9) rfl dX12_staysOf_6 ?_
      have t6671 : 0 ≤ (v 19).toInt ∧ (v 19).toInt ≤ 500 := hI.1 19 _ _ rfl
      refine lv_icmp_ge (tgt := 36) hx hb dX12_staysOf_9 (by decide) (fun c6672 => ?_) (fun c6672 => ?_)
      · skip
        have t6673 := cv_le (a := (v 19).toInt) rfl (b := x3_lp6666.toInt) rfl c6672
        refine lv_iload_n hx hb dX12_staysOf_36 rfl (lv_at hl 1 rfl) ?_
        have hP9 : va_P (dC, dI) classes (wM g c v F rc) H := hP
        exact W.iret (v := x2_lp6666) hx hb hr (fun t ht hW => ⟨⟨x2_lp6666, (), rfl, (by have e9 := t6670; rw [ncl_eq (show x3_lp6666.toInt = (v 19).toInt by omega)] at e9; exact e9), (by show va_P _ _ _ t.heap; rw [ht]; exact hP9)⟩, hS.F ht⟩) hS.2.2 dX12_staysOf_37
      · skip
        have t6674 := cv_nle (a := (v 19).toInt) rfl (b := x3_lp6666.toInt) rfl c6672
        refine lv_iload_n hx hb dX12_staysOf_12 rfl (lv_at hl 1 rfl) ?_
        refine lv_aload_n hx hb dX12_staysOf_13 rfl (lv_at hl 2 rfl) ?_
        refine va_get (D := (dC, dI)) (ci := 12) (v := .ref (g 15)) (C := RX12) (T := TX12) (N := 63) hx hb hwd inA_X12 hown hK hP 0 rfl rfl 20 (by decide) (hwd _ wk_196) (fun _ h9 => h9) rfl dX12_staysOf_14 ?_
        refine lv_iload_n hx hb dX12_staysOf_17 rfl (lv_at hl 0 rfl) ?_
        refine va_iald hx hb hK hP 15 14 rfl rfl (i := x3_lp6666) (vin (a := x3_lp6666.toInt) rfl (by omega)) dX12_staysOf_18 ?_
        refine lv_topi (fun z6675 e6676 => ?_)
        have t6677 : 0 ≤ z6675.toInt ∧ z6675.toInt ≤ 99 := by rw [e6676]; exact hI.2 15 _ _ rfl _
        have tzz6675 : z6675.toInt = (F 15 (x3_lp6666 : Int32).toNatClampNeg).toInt := congrArg Int32.toInt e6676
        refine lv_iload_n hx hb dX12_staysOf_19 rfl (lv_at hl 3 rfl) ?_
        refine lv_icmp_ne (tgt := 27) hx hb dX12_staysOf_20 (by decide) (fun c6678 => ?_) (fun c6678 => ?_)
        · skip
          have t6679 := cv_ne (a := z6675.toInt) rfl (b := p0.toInt) rfl c6678
          refine lv_iconst (v := 0) hx hb dX12_staysOf_27 (by decide) ?_
          refine lv_iadd hx hb dX12_staysOf_28 ?_
          refine lv_topi (fun z6680 e6681 => ?_)
          try (have t6682 := tadd e6681 (a := x2_lp6666.toInt) rfl (b := 0) (by decide) (by omega))
          refine lv_istore_n (lv' := [(2, .int z6680), (3, .int x3_lp6666), (0, .ref (g 0)), (1, .int p0)]) hx hb dX12_staysOf_29 rfl hl (by decide) rfl (fun ls hl => ?_)
          obtain ⟨z6683, e6684⟩ : ∃ y : Int32, y = x3_lp6666 + 1 := ⟨_, rfl⟩
          try (have t6685 := tadd e6684 rfl (b := 1) (by decide) (by omega))
          refine lv_iinc (v := z6683) (lv' := [(3, .int z6683), (2, .int z6680), (0, .ref (g 0)), (1, .int p0)]) hx hb dX12_staysOf_30 hl (k := 1) rfl (by rw [e6684]; rfl) (by decide) rfl (fun ls hl => ?_)
          refine lv_goto (tgt := 4) hx hb dX12_staysOf_33 (by decide) ?_
          exact ih_lp6666 z6683 z6680  _ _ _ (by omega) (by omega) (by omega) (by first | exact cnt_s1 (by omega) (by omega) t6670 (decide_eq_true (by omega)) (by omega) | exact cnt_s0 (by omega) (by omega) t6670 (fun q => by have q := of_decide_eq_true q; omega) (by omega)) (by omega) hP hS (lv_sub hl [0, 1, 2, 3] rfl)
        · skip
          have t6686 := cv_eq (a := z6675.toInt) rfl (b := p0.toInt) rfl c6678
          refine lv_iconst (v := 1) hx hb dX12_staysOf_23 (by decide) ?_
          refine lv_goto (tgt := 28) hx hb dX12_staysOf_24 (by decide) ?_
          refine lv_iadd hx hb dX12_staysOf_28 ?_
          refine lv_topi (fun z6687 e6688 => ?_)
          try (have t6689 := tadd e6688 (a := x2_lp6666.toInt) rfl (b := 1) (by decide) (by omega))
          refine lv_istore_n (lv' := [(2, .int z6687), (3, .int x3_lp6666), (0, .ref (g 0)), (1, .int p0)]) hx hb dX12_staysOf_29 rfl hl (by decide) rfl (fun ls hl => ?_)
          obtain ⟨z6690, e6691⟩ : ∃ y : Int32, y = x3_lp6666 + 1 := ⟨_, rfl⟩
          try (have t6692 := tadd e6691 rfl (b := 1) (by decide) (by omega))
          refine lv_iinc (v := z6690) (lv' := [(3, .int z6690), (2, .int z6687), (0, .ref (g 0)), (1, .int p0)]) hx hb dX12_staysOf_30 hl (k := 1) rfl (by rw [e6691]; rfl) (by decide) rfl (fun ls hl => ?_)
          refine lv_goto (tgt := 4) hx hb dX12_staysOf_33 (by decide) ?_
          exact ih_lp6666 z6690 z6687  _ _ _ (by omega) (by omega) (by omega) (by first | exact cnt_s1 (by omega) (by omega) t6670 (decide_eq_true (by omega)) (by omega) | exact cnt_s0 (by omega) (by omega) t6670 (fun q => by have q := of_decide_eq_true q; omega) (by omega)) (by omega) hP hS (lv_sub hl [0, 1, 2, 3] rfl)
  obtain ⟨n9, hn9⟩ : ∃ n : Nat, 2147483648 - 0 ≤ (n : Int) := ⟨((2147483648 - 0 : Int)).toNat, by omega⟩
  exact lp6666 n9 0 0  H _ ls (by have : (0 : Int32).toInt = 0 := (by decide); have : (0 : Int32).toInt = 0 := (by decide); omega) (by have : (0 : Int32).toInt = 0 := (by decide); have : (0 : Int32).toInt = 0 := (by decide); omega) (by have : (0 : Int32).toInt = 0 := (by decide); omega) (by rfl) (by have : (0 : Int32).toInt = 0 := (by decide); have : (0 : Int32).toInt = 0 := (by decide); omega) hP hS hl
set_option maxHeartbeats 8000000 in
set_option maxRecDepth 100000 in
theorem c_X12_stayOf (l : Launch) (dC : Nat → ClassId) (dI : Nat → Nat → Nat) (g : Nat → Nat) (c : Nat → ClassId) (adK adV : Nat → Nat) (v : Nat → Int32) (F : Nat → Nat → Int32) (rc sz : Nat) (p0 : Int32) (p1 : Int32) (hg : injM g) (hI : IM v F) : Met l yX12_stayOf (Cond.code yX12_stayOf cX12_stayOf 6 (some .int) :: wA) ({ frames := 2, cells := 0, slots := 0, locals := 80 }) (va_Pc [.ref (g 0), .int p0, .int p1] (PM dC dI g c adK adV v F rc sz)) (va_Qi (fun (r : Int32) (u : Unit) => ((0 ≤ r.toInt ∧ r.toInt < (v 19).toInt) ∧ (F 15 r.toNatClampNeg).toInt = p0.toInt ∧ (cnt (ahP (F 15) (F 17) p0.toInt r.toNatClampNeg) (v 19).toNatClampNeg : Int) = p1.toInt) ∨ (r.toInt = -1 ∧ ∀ s : Nat, (s : Int) < (v 19).toInt → ((F 15 s).toInt = p0.toInt → (cnt (ahP (F 15) (F 17) p0.toInt s) (v 19).toNatClampNeg : Int) ≠ p1.toInt))) (fun (_ : Unit) => BM dC dI g c (v, F, rc)) (AM g sz)) 0 0 (AM g sz) := by
  refine Met.ofW (cc := cX12_stayOf) (maxL := 6) (ret := (some .int)) (by decide) rfl ?_
  intro p e s m args below meth c0 s₁ B hml hv
  obtain ⟨rfl, hsz, hP, hK, hE⟩ := hv
  have hx := B.exec
  have hb := B.bytes
  have hr := B.returns
  have hts := atoms_spec (ws := Cond.code yX12_stayOf cX12_stayOf 6 (some .int) :: wA) B.pre
  have hwd : ∀ w ∈ wA, w.before _ s = true := fun w h => hts w (List.mem_cons_of_mem _ h)
  have hown : s.vm.findClass RX12 = some m.cls := findClass_of_methodNamed B.named
  have hlocks := B.notSynchronized
  subst hsz
  have hl := lv_entry ([.ref (g 0), .int p0, .int p1]) (n := 6) (Nat.le_of_ble_eq_true rfl)
  rw [lg_entry_eq]
  generalize (lg_sl ([.ref (g 0), .int p0, .int p1]) ++ List.replicate (6 - (lg_sl ([.ref (g 0), .int p0, .int p1])).length) Slot.unset).toArray = ls at hl ⊢
  have hl : lv_has ls 6 [(0, .ref (g 0)), (1, .int p0), (2, .int p1)] := hl
  obtain ⟨H, eH⟩ : ∃ z, z = s.heap := ⟨_, rfl⟩
  have hP : va_P (dC, dI) classes (wM g c v F rc) H := by rw [eH]; exact hP
  have hS : va_S (AM g s.heap.size) s.heap H [] := by rw [eH]; exact va_S.rf
  refine my_heap eH ?_
  have rp0 := i32_rng p0
  have rp1 := i32_rng p1
  have hb19 : 0 ≤ (v 19).toInt ∧ (v 19).toInt ≤ 500 := hI.1 19 _ _ rfl
  refine lv_iconst (v := 0) hx hb dX12_stayOf_0 (by decide) ?_
  refine lv_istore_n (lv' := [(3, .int 0), (0, .ref (g 0)), (1, .int p0), (2, .int p1)]) hx hb dX12_stayOf_1 rfl hl (by decide) rfl (fun ls hl => ?_)
  have lp6693 : ∀ (n : Nat) (x3_lp6693 : Int32) (H : Heap) (locs : List Loc) (ls : Array Slot), (0 ≤ x3_lp6693.toInt) → (∀ s : Nat, (s : Int) < x3_lp6693.toInt → ((F 15 s).toInt = p0.toInt → (cnt (ahP (F 15) (F 17) p0.toInt s) (v 19).toNatClampNeg : Int) ≠ p1.toInt)) → (2147483648 - x3_lp6693.toInt ≤ (n : Int)) → va_P (dC, dI) classes (wM g c v F rc) H → va_S (AM g s.heap.size) s.heap H locs → lv_has ls 6 [(3, .int x3_lp6693), (0, .ref (g 0)), (1, .int p0), (2, .int p1)] → W p l e (headSpec (Cond.code yX12_stayOf cX12_stayOf 6 (some .int) :: wA) ({ frames := 2, cells := 0, slots := 0, locals := 80 })).room s m ([.ref (g 0), .int p0, .int p1] : List Value).toArray below meth c0 H locs 0 0 (MQ below (va_Qi (fun (r : Int32) (u : Unit) => ((0 ≤ r.toInt ∧ r.toInt < (v 19).toInt) ∧ (F 15 r.toNatClampNeg).toInt = p0.toInt ∧ (cnt (ahP (F 15) (F 17) p0.toInt r.toNatClampNeg) (v 19).toNatClampNeg : Int) = p1.toInt) ∨ (r.toInt = -1 ∧ ∀ s : Nat, (s : Int) < (v 19).toInt → ((F 15 s).toInt = p0.toInt → (cnt (ahP (F 15) (F 17) p0.toInt s) (v 19).toNatClampNeg : Int) ≠ p1.toInt))) (fun (_ : Unit) => BM dC dI g c (v, F, rc)) (AM g s.heap.size)) ([.ref (g 0), .int p0, .int p1] : List Value).toArray s 0 0 (AM g s.heap.size)) (F0 m 2 ls []) := by
    intro n
    induction n with
    | zero =>
      intro x3_lp6693 H locs ls t6694 t6695 hm hP hS hl
      exfalso
      have := i32_rng x3_lp6693
      omega
    | succ n ih_lp6693 =>
      intro x3_lp6693 H locs ls t6694 t6695 hm hP hS hl
      have rx3_lp6693 := i32_rng x3_lp6693
      refine lv_iload_n hx hb dX12_stayOf_2 rfl (lv_at hl 0 rfl) ?_
      refine lv_aload_n hx hb dX12_stayOf_3 rfl (lv_at hl 1 rfl) ?_
      refine va_get (D := (dC, dI)) (ci := 12) (v := .int (v 19)) (C := RX12) (T := TX12) (N := 63) hx hb hwd inA_X12 hown hK hP 0 rfl rfl 19 (by decide) (hwd _ wk_494) (fun _ h9 => h9) rfl dX12_stayOf_4 ?_
      have t6696 : 0 ≤ (v 19).toInt ∧ (v 19).toInt ≤ 500 := hI.1 19 _ _ rfl
      refine lv_icmp_ge (tgt := 89) hx hb dX12_stayOf_7 (by decide) (fun c6697 => ?_) (fun c6697 => ?_)
      · skip
        have t6698 := cv_le (a := (v 19).toInt) rfl (b := x3_lp6693.toInt) rfl c6697
        refine lv_iconst (v := (-1)) hx hb dX12_stayOf_89 (by decide) ?_
        have hP9 : va_P (dC, dI) classes (wM g c v F rc) H := hP
        exact W.iret (v := (-1)) hx hb hr (fun t ht hW => ⟨⟨(-1), (), rfl, (Or.inr ⟨by decide, fun s hs => t6695 s (by omega)⟩), (by show va_P _ _ _ t.heap; rw [ht]; exact hP9)⟩, hS.F ht⟩) hS.2.2 dX12_stayOf_90
      · skip
        have t6699 := cv_nle (a := (v 19).toInt) rfl (b := x3_lp6693.toInt) rfl c6697
        refine lv_aload_n hx hb dX12_stayOf_10 rfl (lv_at hl 1 rfl) ?_
        refine va_get (D := (dC, dI)) (ci := 12) (v := .ref (g 15)) (C := RX12) (T := TX12) (N := 63) hx hb hwd inA_X12 hown hK hP 0 rfl rfl 20 (by decide) (hwd _ wk_196) (fun _ h9 => h9) rfl dX12_stayOf_11 ?_
        refine lv_iload_n hx hb dX12_stayOf_14 rfl (lv_at hl 0 rfl) ?_
        refine va_iald hx hb hK hP 15 14 rfl rfl (i := x3_lp6693) (vin (a := x3_lp6693.toInt) rfl (by omega)) dX12_stayOf_15 ?_
        refine lv_topi (fun z6700 e6701 => ?_)
        have t6702 : 0 ≤ z6700.toInt ∧ z6700.toInt ≤ 99 := by rw [e6701]; exact hI.2 15 _ _ rfl _
        have tzz6700 : z6700.toInt = (F 15 (x3_lp6693 : Int32).toNatClampNeg).toInt := congrArg Int32.toInt e6701
        refine lv_iload_n hx hb dX12_stayOf_16 rfl (lv_at hl 2 rfl) ?_
        refine lv_icmp_eq (tgt := 23) hx hb dX12_stayOf_17 (by decide) (fun c6703 => ?_) (fun c6703 => ?_)
        · skip
          have t6704 := cv_eq (a := z6700.toInt) rfl (b := p0.toInt) rfl c6703
          refine lv_iconst (v := 0) hx hb dX12_stayOf_23 (by decide) ?_
          refine lv_istore (lv' := [(4, .int 0), (3, .int x3_lp6693), (0, .ref (g 0)), (1, .int p0), (2, .int p1)]) hx hb dX12_stayOf_24 hl (by decide) rfl (fun ls hl => ?_)
          refine lv_iconst (v := 0) hx hb dX12_stayOf_26 (by decide) ?_
          refine lv_istore (lv' := [(5, .int 0), (4, .int 0), (3, .int x3_lp6693), (0, .ref (g 0)), (1, .int p0), (2, .int p1)]) hx hb dX12_stayOf_27 hl (by decide) rfl (fun ls hl => ?_)
          have lp6705 : ∀ (n : Nat) (x5_lp6705 : Int32) (x4_lp6705 : Int32) (H : Heap) (locs : List Loc) (ls : Array Slot), (0 ≤ x5_lp6705.toInt) → (x5_lp6705.toInt ≤ (v 19).toInt) → (0 ≤ x4_lp6705.toInt ∧ x4_lp6705.toInt ≤ x5_lp6705.toInt) → (x4_lp6705.toInt = (cnt (ahP (F 15) (F 17) p0.toInt x3_lp6693.toNatClampNeg) x5_lp6705.toNatClampNeg : Int)) → (2147483648 - x5_lp6705.toInt ≤ (n : Int)) → va_P (dC, dI) classes (wM g c v F rc) H → va_S (AM g s.heap.size) s.heap H locs → lv_has ls 6 [(5, .int x5_lp6705), (4, .int x4_lp6705), (3, .int x3_lp6693), (0, .ref (g 0)), (1, .int p0), (2, .int p1)] → W p l e (headSpec (Cond.code yX12_stayOf cX12_stayOf 6 (some .int) :: wA) ({ frames := 2, cells := 0, slots := 0, locals := 80 })).room s m ([.ref (g 0), .int p0, .int p1] : List Value).toArray below meth c0 H locs 0 0 (MQ below (va_Qi (fun (r : Int32) (u : Unit) => ((0 ≤ r.toInt ∧ r.toInt < (v 19).toInt) ∧ (F 15 r.toNatClampNeg).toInt = p0.toInt ∧ (cnt (ahP (F 15) (F 17) p0.toInt r.toNatClampNeg) (v 19).toNatClampNeg : Int) = p1.toInt) ∨ (r.toInt = -1 ∧ ∀ s : Nat, (s : Int) < (v 19).toInt → ((F 15 s).toInt = p0.toInt → (cnt (ahP (F 15) (F 17) p0.toInt s) (v 19).toNatClampNeg : Int) ≠ p1.toInt))) (fun (_ : Unit) => BM dC dI g c (v, F, rc)) (AM g s.heap.size)) ([.ref (g 0), .int p0, .int p1] : List Value).toArray s 0 0 (AM g s.heap.size)) (F0 m 29 ls []) := by
            intro n
            induction n with
            | zero =>
              intro x5_lp6705 x4_lp6705 H locs ls t6706 t6707 t6708 t6709 hm hP hS hl
              exfalso
              have := i32_rng x5_lp6705
              have := i32_rng x4_lp6705
              omega
            | succ n ih_lp6705 =>
              intro x5_lp6705 x4_lp6705 H locs ls t6706 t6707 t6708 t6709 hm hP hS hl
              have rx5_lp6705 := i32_rng x5_lp6705
              have rx4_lp6705 := i32_rng x4_lp6705
              refine lv_iload hx hb dX12_stayOf_29 (lv_at hl 0 rfl) ?_
              refine lv_aload_n hx hb dX12_stayOf_31 rfl (lv_at hl 3 rfl) ?_
              refine va_get (D := (dC, dI)) (ci := 12) (v := .int (v 19)) (C := RX12) (T := TX12) (N := 63) hx hb hwd inA_X12 hown hK hP 0 rfl rfl 19 (by decide) (hwd _ wk_494) (fun _ h9 => h9) rfl dX12_stayOf_32 ?_
              have t6710 : 0 ≤ (v 19).toInt ∧ (v 19).toInt ≤ 500 := hI.1 19 _ _ rfl
              refine lv_icmp_ge (tgt := 75) hx hb dX12_stayOf_35 (by decide) (fun c6711 => ?_) (fun c6711 => ?_)
              · skip
                have t6712 := cv_le (a := (v 19).toInt) rfl (b := x5_lp6705.toInt) rfl c6711
                refine lv_iload hx hb dX12_stayOf_75 (lv_at hl 1 rfl) ?_
                refine lv_iload_n hx hb dX12_stayOf_77 rfl (lv_at hl 5 rfl) ?_
                refine lv_icmp_ne (tgt := 83) hx hb dX12_stayOf_78 (by decide) (fun c6713 => ?_) (fun c6713 => ?_)
                · skip
                  have t6714 := cv_ne (a := x4_lp6705.toInt) rfl (b := p1.toInt) rfl c6713
                  obtain ⟨z6715, e6716⟩ : ∃ y : Int32, y = x3_lp6693 + 1 := ⟨_, rfl⟩
                  try (have t6717 := tadd e6716 rfl (b := 1) (by decide) (by omega))
                  refine lv_iinc (v := z6715) (lv' := [(3, .int z6715), (5, .int x5_lp6705), (4, .int x4_lp6705), (0, .ref (g 0)), (1, .int p0), (2, .int p1)]) hx hb dX12_stayOf_83 hl (k := 2) rfl (by rw [e6716]; rfl) (by decide) rfl (fun ls hl => ?_)
                  refine lv_goto (tgt := 2) hx hb dX12_stayOf_86 (by decide) ?_
                  exact ih_lp6693 z6715  _ _ _ (by omega) (all_step (x := x3_lp6693) (P := fun s => ((F 15 s).toInt = p0.toInt → (cnt (ahP (F 15) (F 17) p0.toInt s) (v 19).toNatClampNeg : Int) ≠ p1.toInt)) (by omega) t6695 (by have e9 := t6709; rw [ncl_eq (show x5_lp6705.toInt = (v 19).toInt by omega)] at e9; intro _; omega)) (by omega) hP hS (lv_sub hl [0, 3, 4, 5] rfl)
                · skip
                  have t6718 := cv_eq (a := x4_lp6705.toInt) rfl (b := p1.toInt) rfl c6713
                  refine lv_iload_n hx hb dX12_stayOf_81 rfl (lv_at hl 2 rfl) ?_
                  have hP9 : va_P (dC, dI) classes (wM g c v F rc) H := hP
                  exact W.iret (v := x3_lp6693) hx hb hr (fun t ht hW => ⟨⟨x3_lp6693, (), rfl, (by have e9 := t6709; rw [ncl_eq (show x5_lp6705.toInt = (v 19).toInt by omega)] at e9; exact Or.inl ⟨by omega, by omega, by omega⟩), (by show va_P _ _ _ t.heap; rw [ht]; exact hP9)⟩, hS.F ht⟩) hS.2.2 dX12_stayOf_82
              · skip
                have t6719 := cv_nle (a := (v 19).toInt) rfl (b := x5_lp6705.toInt) rfl c6711
                refine lv_iload hx hb dX12_stayOf_38 (lv_at hl 1 rfl) ?_
                refine lv_aload_n hx hb dX12_stayOf_40 rfl (lv_at hl 3 rfl) ?_
                refine va_get (D := (dC, dI)) (ci := 12) (v := .ref (g 15)) (C := RX12) (T := TX12) (N := 63) hx hb hwd inA_X12 hown hK hP 0 rfl rfl 20 (by decide) (hwd _ wk_196) (fun _ h9 => h9) rfl dX12_stayOf_41 ?_
                refine lv_iload hx hb dX12_stayOf_44 (lv_at hl 0 rfl) ?_
                refine va_iald hx hb hK hP 15 14 rfl rfl (i := x5_lp6705) (vin (a := x5_lp6705.toInt) rfl (by omega)) dX12_stayOf_46 ?_
                refine lv_topi (fun z6720 e6721 => ?_)
                have t6722 : 0 ≤ z6720.toInt ∧ z6720.toInt ≤ 99 := by rw [e6721]; exact hI.2 15 _ _ rfl _
                have tzz6720 : z6720.toInt = (F 15 (x5_lp6705 : Int32).toNatClampNeg).toInt := congrArg Int32.toInt e6721
                refine lv_iload_n hx hb dX12_stayOf_47 rfl (lv_at hl 4 rfl) ?_
                refine lv_icmp_ne (tgt := 65) hx hb dX12_stayOf_48 (by decide) (fun c6723 => ?_) (fun c6723 => ?_)
                · skip
                  have t6724 := cv_ne (a := z6720.toInt) rfl (b := p0.toInt) rfl c6723
                  refine lv_iconst (v := 0) hx hb dX12_stayOf_65 (by decide) ?_
                  refine lv_iadd hx hb dX12_stayOf_66 ?_
                  refine lv_topi (fun z6725 e6726 => ?_)
                  try (have t6727 := tadd e6726 (a := x4_lp6705.toInt) rfl (b := 0) (by decide) (by omega))
                  refine lv_istore (lv' := [(4, .int z6725), (5, .int x5_lp6705), (3, .int x3_lp6693), (0, .ref (g 0)), (1, .int p0), (2, .int p1)]) hx hb dX12_stayOf_67 hl (by decide) rfl (fun ls hl => ?_)
                  obtain ⟨z6728, e6729⟩ : ∃ y : Int32, y = x5_lp6705 + 1 := ⟨_, rfl⟩
                  try (have t6730 := tadd e6729 rfl (b := 1) (by decide) (by omega))
                  refine lv_iinc (v := z6728) (lv' := [(5, .int z6728), (4, .int z6725), (3, .int x3_lp6693), (0, .ref (g 0)), (1, .int p0), (2, .int p1)]) hx hb dX12_stayOf_69 hl (k := 1) rfl (by rw [e6729]; rfl) (by decide) rfl (fun ls hl => ?_)
                  refine lv_goto (tgt := 29) hx hb dX12_stayOf_72 (by decide) ?_
                  exact ih_lp6705 z6728 z6725  _ _ _ (by omega) (by omega) (by omega) (by have n9 := ncl_i (x := x5_lp6705) (by omega); have n8 := ncl_i (x := x3_lp6693) (by omega); first | exact cnt_s1 (x := x5_lp6705) (by omega) (by omega) t6709 (decide_eq_true (by omega)) (by omega) | exact cnt_s0 (x := x5_lp6705) (by omega) (by omega) t6709 (fun q => by have q := of_decide_eq_true q; omega) (by omega)) (by omega) hP hS (lv_sub hl [0, 1, 2, 3, 4, 5] rfl)
                · skip
                  have t6731 := cv_eq (a := z6720.toInt) rfl (b := p0.toInt) rfl c6723
                  refine lv_aload_n hx hb dX12_stayOf_51 rfl (lv_at hl 3 rfl) ?_
                  refine lv_iload hx hb dX12_stayOf_52 (lv_at hl 0 rfl) ?_
                  refine lv_iload_n hx hb dX12_stayOf_54 rfl (lv_at hl 2 rfl) ?_
                  refine va_calli (va_runV (As := [.int x5_lp6705, .int x3_lp6693]) (rest := [.int x4_lp6705]) ⟨hx, hb, hml, hown, hwd⟩ (c_X12_isAhead l dC dI g c adK adV v F rc H.size x5_lp6705 x3_lp6693 hg hI (by omega) (by omega)) (cwV 2 hwd (gV wk_509 wk_506 wk_507 wk_508 wk_5) rfl rfl rfl (by decide +kernel) ⟨Nat.le_of_ble_eq_true rfl, Nat.le_of_ble_eq_true rfl⟩) ⟨PM.blind, va_recv hK hP (ci := 12) (q0 := 0) rfl rfl, fun U hU hW => ⟨rfl, PM.at hK hE hP hS hU hW⟩⟩ rfl rfl hl.1 rfl (lv_room (Nat.le_of_ble_eq_true rfl)) dX12_stayOf_55 ⟨Nat.le_of_ble_eq_true rfl, Nat.le_of_ble_eq_true rfl⟩) hS (fun q _ h => (freeM hS) q h) (freeM hS) (fun r6732 u t H1 locs ht hvm hw hB hz1 hk1 hS => ?_)
                  unfold BM at hB
                  rw [ht] at hB
                  have hP : va_P (dC, dI) classes (wM g c v F rc) H1 := hB
                  replace hw : (r6732.toInt = 1 ∧ ((F 17 x5_lp6705.toNatClampNeg).toInt < (F 17 x3_lp6693.toNatClampNeg).toInt ∨ ((F 17 x5_lp6705.toNatClampNeg).toInt = (F 17 x3_lp6693.toNatClampNeg).toInt ∧ x5_lp6705.toInt < x3_lp6693.toInt))) ∨ (r6732.toInt = 0 ∧ ¬ ((F 17 x5_lp6705.toNatClampNeg).toInt < (F 17 x3_lp6693.toNatClampNeg).toInt ∨ ((F 17 x5_lp6705.toNatClampNeg).toInt = (F 17 x3_lp6693.toNatClampNeg).toInt ∧ x5_lp6705.toInt < x3_lp6693.toInt))) := hw
                  have hw_r6732 := hw
                  clear hw
                  clear hz1
                  generalize H1 = H at hP hS ⊢
                  refine lv_if_eq (tgt := 65) hx hb dX12_stayOf_58 (by decide) (fun c6733 => ?_) (fun c6733 => ?_)
                  · skip
                    have t6734 := cv_eq (a := r6732.toInt) rfl (b := 0) (by decide) c6733
                    refine lv_iconst (v := 0) hx hb dX12_stayOf_65 (by decide) ?_
                    refine lv_iadd hx hb dX12_stayOf_66 ?_
                    refine lv_topi (fun z6735 e6736 => ?_)
                    try (have t6737 := tadd e6736 (a := x4_lp6705.toInt) rfl (b := 0) (by decide) (by omega))
                    refine lv_istore (lv' := [(4, .int z6735), (5, .int x5_lp6705), (3, .int x3_lp6693), (0, .ref (g 0)), (1, .int p0), (2, .int p1)]) hx hb dX12_stayOf_67 hl (by decide) rfl (fun ls hl => ?_)
                    obtain ⟨z6738, e6739⟩ : ∃ y : Int32, y = x5_lp6705 + 1 := ⟨_, rfl⟩
                    try (have t6740 := tadd e6739 rfl (b := 1) (by decide) (by omega))
                    refine lv_iinc (v := z6738) (lv' := [(5, .int z6738), (4, .int z6735), (3, .int x3_lp6693), (0, .ref (g 0)), (1, .int p0), (2, .int p1)]) hx hb dX12_stayOf_69 hl (k := 1) rfl (by rw [e6739]; rfl) (by decide) rfl (fun ls hl => ?_)
                    refine lv_goto (tgt := 29) hx hb dX12_stayOf_72 (by decide) ?_
                    exact ih_lp6705 z6738 z6735  _ _ _ (by omega) (by omega) (by omega) (by have n9 := ncl_i (x := x5_lp6705) (by omega); have n8 := ncl_i (x := x3_lp6693) (by omega); first | exact cnt_s1 (x := x5_lp6705) (by omega) (by omega) t6709 (decide_eq_true (by omega)) (by omega) | exact cnt_s0 (x := x5_lp6705) (by omega) (by omega) t6709 (fun q => by have q := of_decide_eq_true q; omega) (by omega)) (by omega) hP hS (lv_sub hl [0, 1, 2, 3, 4, 5] rfl)
                  · skip
                    have t6741 := cv_ne (a := r6732.toInt) rfl (b := 0) (by decide) c6733
                    refine lv_iconst (v := 1) hx hb dX12_stayOf_61 (by decide) ?_
                    refine lv_goto (tgt := 66) hx hb dX12_stayOf_62 (by decide) ?_
                    refine lv_iadd hx hb dX12_stayOf_66 ?_
                    refine lv_topi (fun z6742 e6743 => ?_)
                    try (have t6744 := tadd e6743 (a := x4_lp6705.toInt) rfl (b := 1) (by decide) (by omega))
                    refine lv_istore (lv' := [(4, .int z6742), (5, .int x5_lp6705), (3, .int x3_lp6693), (0, .ref (g 0)), (1, .int p0), (2, .int p1)]) hx hb dX12_stayOf_67 hl (by decide) rfl (fun ls hl => ?_)
                    obtain ⟨z6745, e6746⟩ : ∃ y : Int32, y = x5_lp6705 + 1 := ⟨_, rfl⟩
                    try (have t6747 := tadd e6746 rfl (b := 1) (by decide) (by omega))
                    refine lv_iinc (v := z6745) (lv' := [(5, .int z6745), (4, .int z6742), (3, .int x3_lp6693), (0, .ref (g 0)), (1, .int p0), (2, .int p1)]) hx hb dX12_stayOf_69 hl (k := 1) rfl (by rw [e6746]; rfl) (by decide) rfl (fun ls hl => ?_)
                    refine lv_goto (tgt := 29) hx hb dX12_stayOf_72 (by decide) ?_
                    exact ih_lp6705 z6745 z6742  _ _ _ (by omega) (by omega) (by omega) (by have n9 := ncl_i (x := x5_lp6705) (by omega); have n8 := ncl_i (x := x3_lp6693) (by omega); first | exact cnt_s1 (x := x5_lp6705) (by omega) (by omega) t6709 (decide_eq_true (by omega)) (by omega) | exact cnt_s0 (x := x5_lp6705) (by omega) (by omega) t6709 (fun q => by have q := of_decide_eq_true q; omega) (by omega)) (by omega) hP hS (lv_sub hl [0, 1, 2, 3, 4, 5] rfl)
          obtain ⟨n9, hn9⟩ : ∃ n : Nat, 2147483648 - 0 ≤ (n : Int) := ⟨((2147483648 - 0 : Int)).toNat, by omega⟩
          exact lp6705 n9 0 0  H _ ls (by have : (0 : Int32).toInt = 0 := (by decide); have : (0 : Int32).toInt = 0 := (by decide); omega) (by have : (0 : Int32).toInt = 0 := (by decide); have : (0 : Int32).toInt = 0 := (by decide); omega) (by have : (0 : Int32).toInt = 0 := (by decide); omega) (by rfl) (by have : (0 : Int32).toInt = 0 := (by decide); have : (0 : Int32).toInt = 0 := (by decide); omega) hP hS hl
        · skip
          have t6748 := cv_ne (a := z6700.toInt) rfl (b := p0.toInt) rfl c6703
          refine lv_goto (tgt := 83) hx hb dX12_stayOf_20 (by decide) ?_
          obtain ⟨z6749, e6750⟩ : ∃ y : Int32, y = x3_lp6693 + 1 := ⟨_, rfl⟩
          try (have t6751 := tadd e6750 rfl (b := 1) (by decide) (by omega))
          refine lv_iinc (v := z6749) (lv' := [(3, .int z6749), (0, .ref (g 0)), (1, .int p0), (2, .int p1)]) hx hb dX12_stayOf_83 hl (k := 0) rfl (by rw [e6750]; rfl) (by decide) rfl (fun ls hl => ?_)
          refine lv_goto (tgt := 2) hx hb dX12_stayOf_86 (by decide) ?_
          exact ih_lp6693 z6749  _ _ _ (by omega) (all_step (x := x3_lp6693) (P := fun s => ((F 15 s).toInt = p0.toInt → (cnt (ahP (F 15) (F 17) p0.toInt s) (v 19).toNatClampNeg : Int) ≠ p1.toInt)) (by omega) t6695 (by intro q9; exfalso; omega)) (by omega) hP hS (lv_sub hl [0, 1, 2, 3] rfl)
  obtain ⟨n9, hn9⟩ : ∃ n : Nat, 2147483648 - 0 ≤ (n : Int) := ⟨((2147483648 - 0 : Int)).toNat, by omega⟩
  exact lp6693 n9 0  H _ ls (by have : (0 : Int32).toInt = 0 := (by decide); omega) (fun j h => absurd h (by have : (0 : Int32).toInt = 0 := (by decide); omega)) (by have : (0 : Int32).toInt = 0 := (by decide); omega) hP hS hl
set_option maxHeartbeats 8000000 in
set_option maxRecDepth 100000 in
theorem c_X12_paper (l : Launch) (dC : Nat → ClassId) (dI : Nat → Nat → Nat) (g : Nat → Nat) (c : Nat → ClassId) (adK adV : Nat → Nat) (v : Nat → Int32) (F : Nat → Nat → Int32) (rc sz : Nat) (p0 : Int32) (p1 : Int32) (p2 : Int32) (hg : injM g) (hI : IM v F) : Met l yX12_paper (Cond.code yX12_paper cX12_paper 6 (some .int) :: wA) ({ frames := 3, cells := 0, slots := 0, locals := 120 }) (va_Pc [.ref (g 0), .int p0, .int p1, .int p2] (PM dC dI g c adK adV v F rc sz)) (va_Qi (fun (r : Int32) (u : StM) => IM u.1 u.2.1 ∧ u.2.2 = rc ∧ (∀ k, k ∉ ([] : List Nat) → u.1 k = v k) ∧ (∀ k, k ∉ ([23] : List Nat) → u.2.1 k = F k) ∧ True) (BM dC dI g c) (AM g sz)) 0 0 (AM g sz) := by
  refine Met.ofW (cc := cX12_paper) (maxL := 6) (ret := (some .int)) (by decide) rfl ?_
  intro p e s m args below meth c0 s₁ B hml hv
  obtain ⟨rfl, hsz, hP, hK, hE⟩ := hv
  have hx := B.exec
  have hb := B.bytes
  have hr := B.returns
  have hts := atoms_spec (ws := Cond.code yX12_paper cX12_paper 6 (some .int) :: wA) B.pre
  have hwd : ∀ w ∈ wA, w.before _ s = true := fun w h => hts w (List.mem_cons_of_mem _ h)
  have hown : s.vm.findClass RX12 = some m.cls := findClass_of_methodNamed B.named
  have hlocks := B.notSynchronized
  subst hsz
  have hl := lv_entry ([.ref (g 0), .int p0, .int p1, .int p2]) (n := 6) (Nat.le_of_ble_eq_true rfl)
  rw [lg_entry_eq]
  generalize (lg_sl ([.ref (g 0), .int p0, .int p1, .int p2]) ++ List.replicate (6 - (lg_sl ([.ref (g 0), .int p0, .int p1, .int p2])).length) Slot.unset).toArray = ls at hl ⊢
  have hl : lv_has ls 6 [(0, .ref (g 0)), (1, .int p0), (2, .int p1), (3, .int p2)] := hl
  obtain ⟨H, eH⟩ : ∃ z, z = s.heap := ⟨_, rfl⟩
  have hP : va_P (dC, dI) classes (wM g c v F rc) H := by rw [eH]; exact hP
  have hS : va_S (AM g s.heap.size) s.heap H [] := by rw [eH]; exact va_S.rf
  refine my_heap eH ?_
  have hF : ∀ k, k ∉ ([23] : List Nat) → F k = F k := fun _ _ => rfl
  have rp0 := i32_rng p0
  have rp1 := i32_rng p1
  have rp2 := i32_rng p2
  refine lv_aload_n hx hb dX12_paper_0 rfl (lv_at hl 0 rfl) ?_
  refine lv_iload_n hx hb dX12_paper_1 rfl (lv_at hl 1 rfl) ?_
  have t6788 : 0 ≤ (v 14).toInt ∧ (v 14).toInt ≤ 100 := hI.1 14 _ _ rfl
  refine va_calli (va_runV (As := [.int p0]) (rest := []) ⟨hx, hb, hml, hown, hwd⟩ (c_X12_isPart l dC dI g c adK adV v F rc H.size p0 hg hI ) (cwV 1 hwd (gV wk_631 wk_628 wk_629 wk_630 wk_5) rfl rfl rfl (by decide +kernel) ⟨Nat.le_of_ble_eq_true rfl, Nat.le_of_ble_eq_true rfl⟩) ⟨PM.blind, va_recv hK hP (ci := 12) (q0 := 0) rfl rfl, fun U hU hW => ⟨rfl, PM.at hK hE hP hS hU hW⟩⟩ rfl rfl hl.1 rfl (lv_room (Nat.le_of_ble_eq_true rfl)) dX12_paper_2 ⟨Nat.le_of_ble_eq_true rfl, Nat.le_of_ble_eq_true rfl⟩) hS (fun q _ h => (freeM hS) q h) (freeM hS) (fun r6789 u t H1 locs ht hvm hw hB hz1 hk1 hS => ?_)
  unfold BM at hB
  rw [ht] at hB
  have hP : va_P (dC, dI) classes (wM g c v F rc) H1 := hB
  replace hw : (r6789.toInt = 1 ∧ 0 ≤ p0.toInt ∧ p0.toInt < (v 14).toInt) ∨ (r6789.toInt = 0 ∧ (p0.toInt < 0 ∨ (v 14).toInt ≤ p0.toInt)) := hw
  have hw_r6789 := hw
  clear hw
  clear hz1
  generalize H1 = H at hP hS ⊢
  refine lv_if_eq (tgt := 17) hx hb dX12_paper_5 (by decide) (fun c6790 => ?_) (fun c6790 => ?_)
  · skip
    have t6791 := cv_eq (a := r6789.toInt) rfl (b := 0) (by decide) c6790
    refine lv_iconst (v := (-1)) hx hb dX12_paper_17 (by decide) ?_
    have hP9 : va_P (dC, dI) classes (wM g c v F rc) H := hP
    exact W.iret (v := (-1)) hx hb hr (fun t ht hW => ⟨⟨(-1), (v, F, rc), rfl, ⟨hI, rfl, (fun _ _ => rfl), hF, trivial⟩, (by show va_P _ _ _ t.heap; rw [ht]; exact hP9)⟩, hS.F ht⟩) hS.2.2 dX12_paper_18
  · skip
    have t6792 := cv_ne (a := r6789.toInt) rfl (b := 0) (by decide) c6790
    refine lv_iload_n hx hb dX12_paper_8 rfl (lv_at hl 3 rfl) ?_
    refine lv_iconst (v := 0) hx hb dX12_paper_9 (by decide) ?_
    refine lv_iconst (v := 1) hx hb dX12_paper_10 (by decide) ?_
    refine va_calli (va_runS (As := [.int p2, .int 0, .int 1]) (rest := []) ⟨hx, hb, hml, hown, hwd⟩ (c_X12_in l dC dI g c adK adV v F rc H.size p2 0 1 hg hI ) (va_cwS 3 hwd (gT wk_254 wk_252 wk_253 wk_5) rfl rfl rfl (by decide +kernel) ⟨Nat.le_of_ble_eq_true rfl, Nat.le_of_ble_eq_true rfl⟩) ⟨PM.blind, fun U hU hW => ⟨rfl, PM.at hK hE hP hS hU hW⟩⟩ rfl rfl hl.1 rfl (lv_room (Nat.le_of_ble_eq_true rfl)) dX12_paper_11 ⟨Nat.le_of_ble_eq_true rfl, Nat.le_of_ble_eq_true rfl⟩) hS (fun q _ h => (freeM hS) q h) (freeM hS) (fun r6793 u t H1 locs ht hvm hw hB hz1 hk1 hS => ?_)
    unfold BM at hB
    rw [ht] at hB
    have hP : va_P (dC, dI) classes (wM g c v F rc) H1 := hB
    have hw_r6793 : (r6793.toInt = 1 ∧ (0 : Int32).toInt ≤ p2.toInt ∧ p2.toInt ≤ (1 : Int32).toInt) ∨ (r6793.toInt = 0 ∧ (p2.toInt < (0 : Int32).toInt ∨ (1 : Int32).toInt < p2.toInt)) := hw
    clear hw
    have k6794 : (0 : Int32).toInt = 0 := by decide
    have k6795 : (1 : Int32).toInt = 1 := by decide
    clear hz1
    generalize H1 = H at hP hS ⊢
    refine lv_if_ne (tgt := 19) hx hb dX12_paper_14 (by decide) (fun c6796 => ?_) (fun c6796 => ?_)
    · skip
      have t6797 := cv_ne (a := r6793.toInt) rfl (b := 0) (by decide) c6796
      refine lv_aload_n hx hb dX12_paper_19 rfl (lv_at hl 0 rfl) ?_
      refine lv_iload_n hx hb dX12_paper_20 rfl (lv_at hl 1 rfl) ?_
      refine lv_iload_n hx hb dX12_paper_21 rfl (lv_at hl 2 rfl) ?_
      have t6798 : 0 ≤ (v 19).toInt ∧ (v 19).toInt ≤ 500 := hI.1 19 _ _ rfl
      refine va_calli (va_runV (As := [.int p0, .int p1]) (rest := []) ⟨hx, hb, hml, hown, hwd⟩ (c_X12_stayOf l dC dI g c adK adV v F rc H.size p0 p1 hg hI ) (cwV 2 hwd (gV wk_744 wk_741 wk_742 wk_743 wk_5) rfl rfl rfl (by decide +kernel) ⟨Nat.le_of_ble_eq_true rfl, Nat.le_of_ble_eq_true rfl⟩) ⟨PM.blind, va_recv hK hP (ci := 12) (q0 := 0) rfl rfl, fun U hU hW => ⟨rfl, PM.at hK hE hP hS hU hW⟩⟩ rfl rfl hl.1 rfl (lv_room (Nat.le_of_ble_eq_true rfl)) dX12_paper_22 ⟨Nat.le_of_ble_eq_true rfl, Nat.le_of_ble_eq_true rfl⟩) hS (fun q _ h => (freeM hS) q h) (freeM hS) (fun r6799 u t H1 locs ht hvm hw hB hz1 hk1 hS => ?_)
      unfold BM at hB
      rw [ht] at hB
      have hP : va_P (dC, dI) classes (wM g c v F rc) H1 := hB
      replace hw : ((0 ≤ r6799.toInt ∧ r6799.toInt < (v 19).toInt) ∧ (F 15 r6799.toNatClampNeg).toInt = p0.toInt ∧ (cnt (ahP (F 15) (F 17) p0.toInt r6799.toNatClampNeg) (v 19).toNatClampNeg : Int) = p1.toInt) ∨ (r6799.toInt = -1 ∧ ∀ s : Nat, (s : Int) < (v 19).toInt → ((F 15 s).toInt = p0.toInt → (cnt (ahP (F 15) (F 17) p0.toInt s) (v 19).toNatClampNeg : Int) ≠ p1.toInt)) := hw
      have hw_r6799 := hw
      clear hw
      clear hz1
      generalize H1 = H at hP hS ⊢
      refine lv_istore (lv' := [(4, .int r6799), (0, .ref (g 0)), (1, .int p0), (2, .int p1), (3, .int p2)]) hx hb dX12_paper_25 hl (by decide) rfl (fun ls hl => ?_)
      refine lv_iload hx hb dX12_paper_27 (lv_at hl 0 rfl) ?_
      refine lv_if_ge (tgt := 34) hx hb dX12_paper_29 (by decide) (fun c6800 => ?_) (fun c6800 => ?_)
      · skip
        have t6801 := cv_le (a := 0) (by decide) (b := r6799.toInt) rfl c6800
        refine lv_aload_n hx hb dX12_paper_34 rfl (lv_at hl 1 rfl) ?_
        refine va_get (D := (dC, dI)) (ci := 12) (v := .ref (g 18)) (C := RX12) (T := TX12) (N := 63) hx hb hwd inA_X12 hown hK hP 0 rfl rfl 23 (by decide) (hwd _ wk_199) (fun _ h9 => h9) rfl dX12_paper_35 ?_
        refine lv_iload hx hb dX12_paper_38 (lv_at hl 0 rfl) ?_
        refine va_iald hx hb hK hP 18 17 rfl rfl (i := r6799) (vin (a := r6799.toInt) rfl (by omega)) dX12_paper_40 ?_
        refine lv_topi (fun z6802 e6803 => ?_)
        refine lv_ldc (v := 1000000) hx hb hown (hwd _ wk_500) dX12_paper_41 ?_
        refine lv_icmp_ne (tgt := 49) hx hb dX12_paper_43 (by decide) (fun c6804 => ?_) (fun c6804 => ?_)
        · skip
          have t6805 := cv_ne (a := z6802.toInt) rfl (b := 1000000) (by decide) c6804
          refine lv_aload_n hx hb dX12_paper_49 rfl (lv_at hl 1 rfl) ?_
          refine va_get (D := (dC, dI)) (ci := 12) (v := .ref (g 23)) (C := RX12) (T := TX12) (N := 63) hx hb hwd inA_X12 hown hK hP 0 rfl rfl 28 (by decide) (hwd _ wk_204) (fun _ h9 => h9) rfl dX12_paper_50 ?_
          refine lv_iload hx hb dX12_paper_53 (lv_at hl 0 rfl) ?_
          refine va_zald hx hb hK hP 23 22 rfl rfl (i := r6799) (vin (a := r6799.toInt) rfl (by omega)) dX12_paper_55 ?_
          refine lv_topi (fun z6806 e6807 => ?_)
          refine lv_if_eq (tgt := 63) hx hb dX12_paper_56 (by decide) (fun c6808 => ?_) (fun c6808 => ?_)
          · skip
            have t6809 := cv_eq (a := z6806.toInt) rfl (b := 0) (by decide) c6808
            refine lv_iconst (v := 0) hx hb dX12_paper_63 (by decide) ?_
            refine lv_istore (lv' := [(5, .int 0), (4, .int r6799), (0, .ref (g 0)), (1, .int p0), (2, .int p1), (3, .int p2)]) hx hb dX12_paper_64 hl (by decide) rfl (fun ls hl => ?_)
            refine lv_aload_n hx hb dX12_paper_66 rfl (lv_at hl 2 rfl) ?_
            refine va_get (D := (dC, dI)) (ci := 12) (v := .ref (g 23)) (C := RX12) (T := TX12) (N := 63) hx hb hwd inA_X12 hown hK hP 0 rfl rfl 28 (by decide) (hwd _ wk_204) (fun _ h9 => h9) rfl dX12_paper_67 ?_
            refine lv_iload hx hb dX12_paper_70 (lv_at hl 1 rfl) ?_
            refine lv_iload_n hx hb dX12_paper_72 rfl (lv_at hl 5 rfl) ?_
            refine lv_iconst (v := 1) hx hb dX12_paper_73 (by decide) ?_
            refine lv_icmp_ne (tgt := 81) hx hb dX12_paper_74 (by decide) (fun c6810 => ?_) (fun c6810 => ?_)
            · skip
              have t6811 := cv_ne (a := p2.toInt) rfl (b := 1) (by decide) c6810
              refine lv_iconst (v := 0) hx hb dX12_paper_81 (by decide) ?_
              refine va_zast hx hb hK hP (DM hg) hS 23 22 rfl rfl (i := r6799) (x := 0) (vin (a := r6799.toInt) rfl (by omega)) dX12_paper_82 (fun H locs hP _ hS => ?_)
              have hP := va_P_eq (sM_23 g c _ _ _ _) hP
              have hI := IM.store0 hI 23 (r6799 : Int32).toNatClampNeg (vp_nar .boolean 0) rfl
              have hF := frUF (k := 23) (f := upd (F 23) (r6799 : Int32).toNatClampNeg (vp_nar .boolean 0)) (by decide) hF
              have hP : va_P (dC, dI) classes (wM g c v (va_up F 23 (upd (F 23) (r6799 : Int32).toNatClampNeg (vp_nar .boolean 0))) rc) H := hP
              generalize (va_up F 23 (upd (F 23) (r6799 : Int32).toNatClampNeg (vp_nar .boolean 0))) = F6812 at hP hI hF
              refine lv_iload hx hb dX12_paper_83 (lv_at hl 0 rfl) ?_
              have hP9 : va_P (dC, dI) classes (wM g c v F6812 rc) H := hP
              exact W.iret (v := 0) hx hb hr (fun t ht hW => ⟨⟨0, (v, F6812, rc), rfl, ⟨hI, rfl, (fun _ _ => rfl), hF, trivial⟩, (by show va_P _ _ _ t.heap; rw [ht]; exact hP9)⟩, hS.F ht⟩) hS.2.2 dX12_paper_85
            · skip
              have t6813 := cv_eq (a := p2.toInt) rfl (b := 1) (by decide) c6810
              refine lv_iconst (v := 1) hx hb dX12_paper_77 (by decide) ?_
              refine lv_goto (tgt := 82) hx hb dX12_paper_78 (by decide) ?_
              refine va_zast hx hb hK hP (DM hg) hS 23 22 rfl rfl (i := r6799) (x := 1) (vin (a := r6799.toInt) rfl (by omega)) dX12_paper_82 (fun H locs hP _ hS => ?_)
              have hP := va_P_eq (sM_23 g c _ _ _ _) hP
              have hI := IM.store0 hI 23 (r6799 : Int32).toNatClampNeg (vp_nar .boolean 1) rfl
              have hF := frUF (k := 23) (f := upd (F 23) (r6799 : Int32).toNatClampNeg (vp_nar .boolean 1)) (by decide) hF
              have hP : va_P (dC, dI) classes (wM g c v (va_up F 23 (upd (F 23) (r6799 : Int32).toNatClampNeg (vp_nar .boolean 1))) rc) H := hP
              generalize (va_up F 23 (upd (F 23) (r6799 : Int32).toNatClampNeg (vp_nar .boolean 1))) = F6814 at hP hI hF
              refine lv_iload hx hb dX12_paper_83 (lv_at hl 0 rfl) ?_
              have hP9 : va_P (dC, dI) classes (wM g c v F6814 rc) H := hP
              exact W.iret (v := 0) hx hb hr (fun t ht hW => ⟨⟨0, (v, F6814, rc), rfl, ⟨hI, rfl, (fun _ _ => rfl), hF, trivial⟩, (by show va_P _ _ _ t.heap; rw [ht]; exact hP9)⟩, hS.F ht⟩) hS.2.2 dX12_paper_85
          · skip
            have t6815 := cv_ne (a := z6806.toInt) rfl (b := 0) (by decide) c6808
            refine lv_iconst (v := 1) hx hb dX12_paper_59 (by decide) ?_
            refine lv_goto (tgt := 64) hx hb dX12_paper_60 (by decide) ?_
            refine lv_istore (lv' := [(5, .int 1), (4, .int r6799), (0, .ref (g 0)), (1, .int p0), (2, .int p1), (3, .int p2)]) hx hb dX12_paper_64 hl (by decide) rfl (fun ls hl => ?_)
            refine lv_aload_n hx hb dX12_paper_66 rfl (lv_at hl 2 rfl) ?_
            refine va_get (D := (dC, dI)) (ci := 12) (v := .ref (g 23)) (C := RX12) (T := TX12) (N := 63) hx hb hwd inA_X12 hown hK hP 0 rfl rfl 28 (by decide) (hwd _ wk_204) (fun _ h9 => h9) rfl dX12_paper_67 ?_
            refine lv_iload hx hb dX12_paper_70 (lv_at hl 1 rfl) ?_
            refine lv_iload_n hx hb dX12_paper_72 rfl (lv_at hl 5 rfl) ?_
            refine lv_iconst (v := 1) hx hb dX12_paper_73 (by decide) ?_
            refine lv_icmp_ne (tgt := 81) hx hb dX12_paper_74 (by decide) (fun c6816 => ?_) (fun c6816 => ?_)
            · skip
              have t6817 := cv_ne (a := p2.toInt) rfl (b := 1) (by decide) c6816
              refine lv_iconst (v := 0) hx hb dX12_paper_81 (by decide) ?_
              refine va_zast hx hb hK hP (DM hg) hS 23 22 rfl rfl (i := r6799) (x := 0) (vin (a := r6799.toInt) rfl (by omega)) dX12_paper_82 (fun H locs hP _ hS => ?_)
              have hP := va_P_eq (sM_23 g c _ _ _ _) hP
              have hI := IM.store0 hI 23 (r6799 : Int32).toNatClampNeg (vp_nar .boolean 0) rfl
              have hF := frUF (k := 23) (f := upd (F 23) (r6799 : Int32).toNatClampNeg (vp_nar .boolean 0)) (by decide) hF
              have hP : va_P (dC, dI) classes (wM g c v (va_up F 23 (upd (F 23) (r6799 : Int32).toNatClampNeg (vp_nar .boolean 0))) rc) H := hP
              generalize (va_up F 23 (upd (F 23) (r6799 : Int32).toNatClampNeg (vp_nar .boolean 0))) = F6818 at hP hI hF
              refine lv_iload hx hb dX12_paper_83 (lv_at hl 0 rfl) ?_
              have hP9 : va_P (dC, dI) classes (wM g c v F6818 rc) H := hP
              exact W.iret (v := 1) hx hb hr (fun t ht hW => ⟨⟨1, (v, F6818, rc), rfl, ⟨hI, rfl, (fun _ _ => rfl), hF, trivial⟩, (by show va_P _ _ _ t.heap; rw [ht]; exact hP9)⟩, hS.F ht⟩) hS.2.2 dX12_paper_85
            · skip
              have t6819 := cv_eq (a := p2.toInt) rfl (b := 1) (by decide) c6816
              refine lv_iconst (v := 1) hx hb dX12_paper_77 (by decide) ?_
              refine lv_goto (tgt := 82) hx hb dX12_paper_78 (by decide) ?_
              refine va_zast hx hb hK hP (DM hg) hS 23 22 rfl rfl (i := r6799) (x := 1) (vin (a := r6799.toInt) rfl (by omega)) dX12_paper_82 (fun H locs hP _ hS => ?_)
              have hP := va_P_eq (sM_23 g c _ _ _ _) hP
              have hI := IM.store0 hI 23 (r6799 : Int32).toNatClampNeg (vp_nar .boolean 1) rfl
              have hF := frUF (k := 23) (f := upd (F 23) (r6799 : Int32).toNatClampNeg (vp_nar .boolean 1)) (by decide) hF
              have hP : va_P (dC, dI) classes (wM g c v (va_up F 23 (upd (F 23) (r6799 : Int32).toNatClampNeg (vp_nar .boolean 1))) rc) H := hP
              generalize (va_up F 23 (upd (F 23) (r6799 : Int32).toNatClampNeg (vp_nar .boolean 1))) = F6820 at hP hI hF
              refine lv_iload hx hb dX12_paper_83 (lv_at hl 0 rfl) ?_
              have hP9 : va_P (dC, dI) classes (wM g c v F6820 rc) H := hP
              exact W.iret (v := 1) hx hb hr (fun t ht hW => ⟨⟨1, (v, F6820, rc), rfl, ⟨hI, rfl, (fun _ _ => rfl), hF, trivial⟩, (by show va_P _ _ _ t.heap; rw [ht]; exact hP9)⟩, hS.F ht⟩) hS.2.2 dX12_paper_85
        · skip
          have t6821 := cv_eq (a := z6802.toInt) rfl (b := 1000000) (by decide) c6804
          refine lv_bipush (v := (-2)) hx hb dX12_paper_46 (by decide) ?_
          have hP9 : va_P (dC, dI) classes (wM g c v F rc) H := hP
          exact W.iret (v := (-2)) hx hb hr (fun t ht hW => ⟨⟨(-2), (v, F, rc), rfl, ⟨hI, rfl, (fun _ _ => rfl), hF, trivial⟩, (by show va_P _ _ _ t.heap; rw [ht]; exact hP9)⟩, hS.F ht⟩) hS.2.2 dX12_paper_48
      · skip
        have t6822 := cv_nle (a := 0) (by decide) (b := r6799.toInt) rfl c6800
        refine lv_iconst (v := (-1)) hx hb dX12_paper_32 (by decide) ?_
        have hP9 : va_P (dC, dI) classes (wM g c v F rc) H := hP
        exact W.iret (v := (-1)) hx hb hr (fun t ht hW => ⟨⟨(-1), (v, F, rc), rfl, ⟨hI, rfl, (fun _ _ => rfl), hF, trivial⟩, (by show va_P _ _ _ t.heap; rw [ht]; exact hP9)⟩, hS.F ht⟩) hS.2.2 dX12_paper_33
    · skip
      have t6823 := cv_eq (a := r6793.toInt) rfl (b := 0) (by decide) c6796
      refine lv_iconst (v := (-1)) hx hb dX12_paper_17 (by decide) ?_
      have hP9 : va_P (dC, dI) classes (wM g c v F rc) H := hP
      exact W.iret (v := (-1)) hx hb hr (fun t ht hW => ⟨⟨(-1), (v, F, rc), rfl, ⟨hI, rfl, (fun _ _ => rfl), hF, trivial⟩, (by show va_P _ _ _ t.heap; rw [ht]; exact hP9)⟩, hS.F ht⟩) hS.2.2 dX12_paper_18
set_option maxHeartbeats 8000000 in
set_option maxRecDepth 100000 in
theorem c_X12_stay (l : Launch) (dC : Nat → ClassId) (dI : Nat → Nat → Nat) (g : Nat → Nat) (c : Nat → ClassId) (adK adV : Nat → Nat) (v : Nat → Int32) (F : Nat → Nat → Int32) (rc sz : Nat) (p0 : Int32) (p1 : Int32) (p2 : Int32) (hg : injM g) (hI : IM v F) : Met l yX12_stay (Cond.code yX12_stay cX12_stay 5 (some .int) :: wA) ({ frames := 3, cells := 0, slots := 0, locals := 120 }) (va_Pc [.ref (g 0), .int p0, .int p1, .int p2] (PM dC dI g c adK adV v F rc sz)) (va_Qi (fun (r : Int32) (u : Unit) => True) (fun (_ : Unit) => BM dC dI g c (v, F, rc)) (AM g sz)) 0 0 (AM g sz) := by
  refine Met.ofW (cc := cX12_stay) (maxL := 5) (ret := (some .int)) (by decide) rfl ?_
  intro p e s m args below meth c0 s₁ B hml hv
  obtain ⟨rfl, hsz, hP, hK, hE⟩ := hv
  have hx := B.exec
  have hb := B.bytes
  have hr := B.returns
  have hts := atoms_spec (ws := Cond.code yX12_stay cX12_stay 5 (some .int) :: wA) B.pre
  have hwd : ∀ w ∈ wA, w.before _ s = true := fun w h => hts w (List.mem_cons_of_mem _ h)
  have hown : s.vm.findClass RX12 = some m.cls := findClass_of_methodNamed B.named
  have hlocks := B.notSynchronized
  subst hsz
  have hl := lv_entry ([.ref (g 0), .int p0, .int p1, .int p2]) (n := 5) (Nat.le_of_ble_eq_true rfl)
  rw [lg_entry_eq]
  generalize (lg_sl ([.ref (g 0), .int p0, .int p1, .int p2]) ++ List.replicate (5 - (lg_sl ([.ref (g 0), .int p0, .int p1, .int p2])).length) Slot.unset).toArray = ls at hl ⊢
  have hl : lv_has ls 5 [(0, .ref (g 0)), (1, .int p0), (2, .int p1), (3, .int p2)] := hl
  obtain ⟨H, eH⟩ : ∃ z, z = s.heap := ⟨_, rfl⟩
  have hP : va_P (dC, dI) classes (wM g c v F rc) H := by rw [eH]; exact hP
  have hS : va_S (AM g s.heap.size) s.heap H [] := by rw [eH]; exact va_S.rf
  refine my_heap eH ?_
  have rp0 := i32_rng p0
  have rp1 := i32_rng p1
  have rp2 := i32_rng p2
  refine lv_aload_n hx hb dX12_stay_0 rfl (lv_at hl 0 rfl) ?_
  refine lv_iload_n hx hb dX12_stay_1 rfl (lv_at hl 1 rfl) ?_
  have t6824 : 0 ≤ (v 14).toInt ∧ (v 14).toInt ≤ 100 := hI.1 14 _ _ rfl
  refine va_calli (va_runV (As := [.int p0]) (rest := []) ⟨hx, hb, hml, hown, hwd⟩ (c_X12_isPart l dC dI g c adK adV v F rc H.size p0 hg hI ) (cwV 1 hwd (gV wk_631 wk_628 wk_629 wk_630 wk_5) rfl rfl rfl (by decide +kernel) ⟨Nat.le_of_ble_eq_true rfl, Nat.le_of_ble_eq_true rfl⟩) ⟨PM.blind, va_recv hK hP (ci := 12) (q0 := 0) rfl rfl, fun U hU hW => ⟨rfl, PM.at hK hE hP hS hU hW⟩⟩ rfl rfl hl.1 rfl (lv_room (Nat.le_of_ble_eq_true rfl)) dX12_stay_2 ⟨Nat.le_of_ble_eq_true rfl, Nat.le_of_ble_eq_true rfl⟩) hS (fun q _ h => (freeM hS) q h) (freeM hS) (fun r6825 u t H1 locs ht hvm hw hB hz1 hk1 hS => ?_)
  unfold BM at hB
  rw [ht] at hB
  have hP : va_P (dC, dI) classes (wM g c v F rc) H1 := hB
  replace hw : (r6825.toInt = 1 ∧ 0 ≤ p0.toInt ∧ p0.toInt < (v 14).toInt) ∨ (r6825.toInt = 0 ∧ (p0.toInt < 0 ∨ (v 14).toInt ≤ p0.toInt)) := hw
  have hw_r6825 := hw
  clear hw
  clear hz1
  generalize H1 = H at hP hS ⊢
  refine lv_if_eq (tgt := 18) hx hb dX12_stay_5 (by decide) (fun c6826 => ?_) (fun c6826 => ?_)
  · skip
    have t6827 := cv_eq (a := r6825.toInt) rfl (b := 0) (by decide) c6826
    refine lv_ldc (v := (-2000000000)) hx hb hown (hwd _ wk_542) dX12_stay_18 ?_
    have hP9 : va_P (dC, dI) classes (wM g c v F rc) H := hP
    exact W.iret (v := (-2000000000)) hx hb hr (fun t ht hW => ⟨⟨(-2000000000), (), rfl, trivial, (by show va_P _ _ _ t.heap; rw [ht]; exact hP9)⟩, hS.F ht⟩) hS.2.2 dX12_stay_20
  · skip
    have t6828 := cv_ne (a := r6825.toInt) rfl (b := 0) (by decide) c6826
    refine lv_iload_n hx hb dX12_stay_8 rfl (lv_at hl 3 rfl) ?_
    refine lv_iconst (v := 0) hx hb dX12_stay_9 (by decide) ?_
    refine lv_bipush (v := 7) hx hb dX12_stay_10 (by decide) ?_
    refine va_calli (va_runS (As := [.int p2, .int 0, .int 7]) (rest := []) ⟨hx, hb, hml, hown, hwd⟩ (c_X12_in l dC dI g c adK adV v F rc H.size p2 0 7 hg hI ) (va_cwS 3 hwd (gT wk_254 wk_252 wk_253 wk_5) rfl rfl rfl (by decide +kernel) ⟨Nat.le_of_ble_eq_true rfl, Nat.le_of_ble_eq_true rfl⟩) ⟨PM.blind, fun U hU hW => ⟨rfl, PM.at hK hE hP hS hU hW⟩⟩ rfl rfl hl.1 rfl (lv_room (Nat.le_of_ble_eq_true rfl)) dX12_stay_12 ⟨Nat.le_of_ble_eq_true rfl, Nat.le_of_ble_eq_true rfl⟩) hS (fun q _ h => (freeM hS) q h) (freeM hS) (fun r6829 u t H1 locs ht hvm hw hB hz1 hk1 hS => ?_)
    unfold BM at hB
    rw [ht] at hB
    have hP : va_P (dC, dI) classes (wM g c v F rc) H1 := hB
    have hw_r6829 : (r6829.toInt = 1 ∧ (0 : Int32).toInt ≤ p2.toInt ∧ p2.toInt ≤ (7 : Int32).toInt) ∨ (r6829.toInt = 0 ∧ (p2.toInt < (0 : Int32).toInt ∨ (7 : Int32).toInt < p2.toInt)) := hw
    clear hw
    have k6830 : (0 : Int32).toInt = 0 := by decide
    have k6831 : (7 : Int32).toInt = 7 := by decide
    clear hz1
    generalize H1 = H at hP hS ⊢
    refine lv_if_ne (tgt := 21) hx hb dX12_stay_15 (by decide) (fun c6832 => ?_) (fun c6832 => ?_)
    · skip
      have t6833 := cv_ne (a := r6829.toInt) rfl (b := 0) (by decide) c6832
      refine lv_aload_n hx hb dX12_stay_21 rfl (lv_at hl 0 rfl) ?_
      refine lv_iload_n hx hb dX12_stay_22 rfl (lv_at hl 1 rfl) ?_
      refine lv_iload_n hx hb dX12_stay_23 rfl (lv_at hl 2 rfl) ?_
      have t6834 : 0 ≤ (v 19).toInt ∧ (v 19).toInt ≤ 500 := hI.1 19 _ _ rfl
      refine va_calli (va_runV (As := [.int p0, .int p1]) (rest := []) ⟨hx, hb, hml, hown, hwd⟩ (c_X12_stayOf l dC dI g c adK adV v F rc H.size p0 p1 hg hI ) (cwV 2 hwd (gV wk_744 wk_741 wk_742 wk_743 wk_5) rfl rfl rfl (by decide +kernel) ⟨Nat.le_of_ble_eq_true rfl, Nat.le_of_ble_eq_true rfl⟩) ⟨PM.blind, va_recv hK hP (ci := 12) (q0 := 0) rfl rfl, fun U hU hW => ⟨rfl, PM.at hK hE hP hS hU hW⟩⟩ rfl rfl hl.1 rfl (lv_room (Nat.le_of_ble_eq_true rfl)) dX12_stay_24 ⟨Nat.le_of_ble_eq_true rfl, Nat.le_of_ble_eq_true rfl⟩) hS (fun q _ h => (freeM hS) q h) (freeM hS) (fun r6835 u t H1 locs ht hvm hw hB hz1 hk1 hS => ?_)
      unfold BM at hB
      rw [ht] at hB
      have hP : va_P (dC, dI) classes (wM g c v F rc) H1 := hB
      replace hw : ((0 ≤ r6835.toInt ∧ r6835.toInt < (v 19).toInt) ∧ (F 15 r6835.toNatClampNeg).toInt = p0.toInt ∧ (cnt (ahP (F 15) (F 17) p0.toInt r6835.toNatClampNeg) (v 19).toNatClampNeg : Int) = p1.toInt) ∨ (r6835.toInt = -1 ∧ ∀ s : Nat, (s : Int) < (v 19).toInt → ((F 15 s).toInt = p0.toInt → (cnt (ahP (F 15) (F 17) p0.toInt s) (v 19).toNatClampNeg : Int) ≠ p1.toInt)) := hw
      have hw_r6835 := hw
      clear hw
      clear hz1
      generalize H1 = H at hP hS ⊢
      refine lv_istore (lv' := [(4, .int r6835), (0, .ref (g 0)), (1, .int p0), (2, .int p1), (3, .int p2)]) hx hb dX12_stay_27 hl (by decide) rfl (fun ls hl => ?_)
      refine lv_iload hx hb dX12_stay_29 (lv_at hl 0 rfl) ?_
      refine lv_if_ge (tgt := 37) hx hb dX12_stay_31 (by decide) (fun c6836 => ?_) (fun c6836 => ?_)
      · skip
        have t6837 := cv_le (a := 0) (by decide) (b := r6835.toInt) rfl c6836
        refine lv_iload_n hx hb dX12_stay_37 rfl (lv_at hl 4 rfl) ?_
        by_cases hlo6838 : p2.toInt < 0
        · refine lv_tableOut (tgt := 151) hx hb dX12_stay_38 (Or.inl hlo6838) (by decide) ?_
          refine lv_aload_n hx hb dX12_stay_151 rfl (lv_at hl 1 rfl) ?_
          refine va_get (D := (dC, dI)) (ci := 12) (v := .ref (g 23)) (C := RX12) (T := TX12) (N := 63) hx hb hwd inA_X12 hown hK hP 0 rfl rfl 28 (by decide) (hwd _ wk_204) (fun _ h9 => h9) rfl dX12_stay_152 ?_
          refine lv_iload hx hb dX12_stay_155 (lv_at hl 0 rfl) ?_
          refine va_zald hx hb hK hP 23 22 rfl rfl (i := r6835) (vin (a := r6835.toInt) rfl (by omega)) dX12_stay_157 ?_
          refine lv_topi (fun z6840 e6841 => ?_)
          refine lv_if_eq (tgt := 165) hx hb dX12_stay_158 (by decide) (fun c6842 => ?_) (fun c6842 => ?_)
          · skip
            have t6843 := cv_eq (a := z6840.toInt) rfl (b := 0) (by decide) c6842
            refine lv_iconst (v := 0) hx hb dX12_stay_165 (by decide) ?_
            have hP9 : va_P (dC, dI) classes (wM g c v F rc) H := hP
            exact W.iret (v := 0) hx hb hr (fun t ht hW => ⟨⟨0, (), rfl, trivial, (by show va_P _ _ _ t.heap; rw [ht]; exact hP9)⟩, hS.F ht⟩) hS.2.2 dX12_stay_166
          · skip
            have t6844 := cv_ne (a := z6840.toInt) rfl (b := 0) (by decide) c6842
            refine lv_iconst (v := 1) hx hb dX12_stay_161 (by decide) ?_
            refine lv_goto (tgt := 166) hx hb dX12_stay_162 (by decide) ?_
            have hP9 : va_P (dC, dI) classes (wM g c v F rc) H := hP
            exact W.iret (v := 1) hx hb hr (fun t ht hW => ⟨⟨1, (), rfl, trivial, (by show va_P _ _ _ t.heap; rw [ht]; exact hP9)⟩, hS.F ht⟩) hS.2.2 dX12_stay_166
        by_cases hhi6839 : 6 < p2.toInt
        · refine lv_tableOut (tgt := 151) hx hb dX12_stay_38 (Or.inr hhi6839) (by decide) ?_
          refine lv_aload_n hx hb dX12_stay_151 rfl (lv_at hl 1 rfl) ?_
          refine va_get (D := (dC, dI)) (ci := 12) (v := .ref (g 23)) (C := RX12) (T := TX12) (N := 63) hx hb hwd inA_X12 hown hK hP 0 rfl rfl 28 (by decide) (hwd _ wk_204) (fun _ h9 => h9) rfl dX12_stay_152 ?_
          refine lv_iload hx hb dX12_stay_155 (lv_at hl 0 rfl) ?_
          refine va_zald hx hb hK hP 23 22 rfl rfl (i := r6835) (vin (a := r6835.toInt) rfl (by omega)) dX12_stay_157 ?_
          refine lv_topi (fun z6845 e6846 => ?_)
          refine lv_if_eq (tgt := 165) hx hb dX12_stay_158 (by decide) (fun c6847 => ?_) (fun c6847 => ?_)
          · skip
            have t6848 := cv_eq (a := z6845.toInt) rfl (b := 0) (by decide) c6847
            refine lv_iconst (v := 0) hx hb dX12_stay_165 (by decide) ?_
            have hP9 : va_P (dC, dI) classes (wM g c v F rc) H := hP
            exact W.iret (v := 0) hx hb hr (fun t ht hW => ⟨⟨0, (), rfl, trivial, (by show va_P _ _ _ t.heap; rw [ht]; exact hP9)⟩, hS.F ht⟩) hS.2.2 dX12_stay_166
          · skip
            have t6849 := cv_ne (a := z6845.toInt) rfl (b := 0) (by decide) c6847
            refine lv_iconst (v := 1) hx hb dX12_stay_161 (by decide) ?_
            refine lv_goto (tgt := 166) hx hb dX12_stay_162 (by decide) ?_
            have hP9 : va_P (dC, dI) classes (wM g c v F rc) H := hP
            exact W.iret (v := 1) hx hb hr (fun t ht hW => ⟨⟨1, (), rfl, trivial, (by show va_P _ _ _ t.heap; rw [ht]; exact hP9)⟩, hS.F ht⟩) hS.2.2 dX12_stay_166
        rcases (show p2.toInt = 0 ∨ p2.toInt = 1 ∨ p2.toInt = 2 ∨ p2.toInt = 3 ∨ p2.toInt = 4 ∨ p2.toInt = 5 ∨ p2.toInt = 6 by omega) with hk | hk | hk | hk | hk | hk | hk
        · refine lv_tableIn (off := 42) (tgt := 80) hx hb dX12_stay_38 hlo6838 hhi6839 (by rw [hk]; decide) (by decide) ?_
          refine lv_aload_n hx hb dX12_stay_80 rfl (lv_at hl 1 rfl) ?_
          refine va_get (D := (dC, dI)) (ci := 12) (v := .ref (g 16)) (C := RX12) (T := TX12) (N := 63) hx hb hwd inA_X12 hown hK hP 0 rfl rfl 21 (by decide) (hwd _ wk_197) (fun _ h9 => h9) rfl dX12_stay_81 ?_
          refine lv_iload hx hb dX12_stay_84 (lv_at hl 0 rfl) ?_
          refine va_iald hx hb hK hP 16 15 rfl rfl (i := r6835) (vin (a := r6835.toInt) rfl (by omega)) dX12_stay_86 ?_
          refine lv_topi (fun z6850 e6851 => ?_)
          have t6852 : 0 ≤ z6850.toInt ∧ z6850.toInt ≤ 11 := by rw [e6851]; exact hI.2 16 _ _ rfl _
          have hP9 : va_P (dC, dI) classes (wM g c v F rc) H := hP
          exact W.iret (v := z6850) hx hb hr (fun t ht hW => ⟨⟨z6850, (), rfl, trivial, (by show va_P _ _ _ t.heap; rw [ht]; exact hP9)⟩, hS.F ht⟩) hS.2.2 dX12_stay_87
        · refine lv_tableIn (off := 50) (tgt := 88) hx hb dX12_stay_38 hlo6838 hhi6839 (by rw [hk]; decide) (by decide) ?_
          refine lv_aload_n hx hb dX12_stay_88 rfl (lv_at hl 1 rfl) ?_
          refine va_get (D := (dC, dI)) (ci := 12) (v := .ref (g 17)) (C := RX12) (T := TX12) (N := 63) hx hb hwd inA_X12 hown hK hP 0 rfl rfl 22 (by decide) (hwd _ wk_198) (fun _ h9 => h9) rfl dX12_stay_89 ?_
          refine lv_iload hx hb dX12_stay_92 (lv_at hl 0 rfl) ?_
          refine va_iald hx hb hK hP 17 16 rfl rfl (i := r6835) (vin (a := r6835.toInt) rfl (by omega)) dX12_stay_94 ?_
          refine lv_topi (fun z6853 e6854 => ?_)
          have hP9 : va_P (dC, dI) classes (wM g c v F rc) H := hP
          exact W.iret (v := z6853) hx hb hr (fun t ht hW => ⟨⟨z6853, (), rfl, trivial, (by show va_P _ _ _ t.heap; rw [ht]; exact hP9)⟩, hS.F ht⟩) hS.2.2 dX12_stay_95
        · refine lv_tableIn (off := 58) (tgt := 96) hx hb dX12_stay_38 hlo6838 hhi6839 (by rw [hk]; decide) (by decide) ?_
          refine lv_aload_n hx hb dX12_stay_96 rfl (lv_at hl 1 rfl) ?_
          refine va_get (D := (dC, dI)) (ci := 12) (v := .ref (g 18)) (C := RX12) (T := TX12) (N := 63) hx hb hwd inA_X12 hown hK hP 0 rfl rfl 23 (by decide) (hwd _ wk_199) (fun _ h9 => h9) rfl dX12_stay_97 ?_
          refine lv_iload hx hb dX12_stay_100 (lv_at hl 0 rfl) ?_
          refine va_iald hx hb hK hP 18 17 rfl rfl (i := r6835) (vin (a := r6835.toInt) rfl (by omega)) dX12_stay_102 ?_
          refine lv_topi (fun z6855 e6856 => ?_)
          refine lv_ldc (v := 1000000) hx hb hown (hwd _ wk_500) dX12_stay_103 ?_
          refine lv_icmp_ne (tgt := 113) hx hb dX12_stay_105 (by decide) (fun c6857 => ?_) (fun c6857 => ?_)
          · skip
            have t6858 := cv_ne (a := z6855.toInt) rfl (b := 1000000) (by decide) c6857
            refine lv_aload_n hx hb dX12_stay_113 rfl (lv_at hl 1 rfl) ?_
            refine va_get (D := (dC, dI)) (ci := 12) (v := .ref (g 18)) (C := RX12) (T := TX12) (N := 63) hx hb hwd inA_X12 hown hK hP 0 rfl rfl 23 (by decide) (hwd _ wk_199) (fun _ h9 => h9) rfl dX12_stay_114 ?_
            refine lv_iload hx hb dX12_stay_117 (lv_at hl 0 rfl) ?_
            refine va_iald hx hb hK hP 18 17 rfl rfl (i := r6835) (vin (a := r6835.toInt) rfl (by omega)) dX12_stay_119 ?_
            refine lv_topi (fun z6859 e6860 => ?_)
            have hP9 : va_P (dC, dI) classes (wM g c v F rc) H := hP
            exact W.iret (v := z6859) hx hb hr (fun t ht hW => ⟨⟨z6859, (), rfl, trivial, (by show va_P _ _ _ t.heap; rw [ht]; exact hP9)⟩, hS.F ht⟩) hS.2.2 dX12_stay_120
          · skip
            have t6861 := cv_eq (a := z6855.toInt) rfl (b := 1000000) (by decide) c6857
            refine lv_ldc (v := (-2000000000)) hx hb hown (hwd _ wk_542) dX12_stay_108 ?_
            refine lv_goto (tgt := 120) hx hb dX12_stay_110 (by decide) ?_
            have hP9 : va_P (dC, dI) classes (wM g c v F rc) H := hP
            exact W.iret (v := (-2000000000)) hx hb hr (fun t ht hW => ⟨⟨(-2000000000), (), rfl, trivial, (by show va_P _ _ _ t.heap; rw [ht]; exact hP9)⟩, hS.F ht⟩) hS.2.2 dX12_stay_120
        · refine lv_tableIn (off := 83) (tgt := 121) hx hb dX12_stay_38 hlo6838 hhi6839 (by rw [hk]; decide) (by decide) ?_
          refine lv_aload_n hx hb dX12_stay_121 rfl (lv_at hl 1 rfl) ?_
          refine va_get (D := (dC, dI)) (ci := 12) (v := .ref (g 19)) (C := RX12) (T := TX12) (N := 63) hx hb hwd inA_X12 hown hK hP 0 rfl rfl 24 (by decide) (hwd _ wk_200) (fun _ h9 => h9) rfl dX12_stay_122 ?_
          refine lv_iload hx hb dX12_stay_125 (lv_at hl 0 rfl) ?_
          refine va_iald hx hb hK hP 19 18 rfl rfl (i := r6835) (vin (a := r6835.toInt) rfl (by omega)) dX12_stay_127 ?_
          refine lv_topi (fun z6862 e6863 => ?_)
          have hP9 : va_P (dC, dI) classes (wM g c v F rc) H := hP
          exact W.iret (v := z6862) hx hb hr (fun t ht hW => ⟨⟨z6862, (), rfl, trivial, (by show va_P _ _ _ t.heap; rw [ht]; exact hP9)⟩, hS.F ht⟩) hS.2.2 dX12_stay_128
        · refine lv_tableIn (off := 91) (tgt := 129) hx hb dX12_stay_38 hlo6838 hhi6839 (by rw [hk]; decide) (by decide) ?_
          refine lv_aload_n hx hb dX12_stay_129 rfl (lv_at hl 1 rfl) ?_
          refine lv_iload hx hb dX12_stay_130 (lv_at hl 0 rfl) ?_
          refine va_calli (va_runV (As := [.int r6835]) (rest := []) ⟨hx, hb, hml, hown, hwd⟩ (c_X12_hoursEnd l dC dI g c adK adV v F rc H.size r6835 hg hI (by omega)) (cwV 1 hwd (gV wk_748 wk_745 wk_746 wk_747 wk_5) rfl rfl rfl (by decide +kernel) ⟨Nat.le_of_ble_eq_true rfl, Nat.le_of_ble_eq_true rfl⟩) ⟨PM.blind, va_recv hK hP (ci := 12) (q0 := 0) rfl rfl, fun U hU hW => ⟨rfl, PM.at hK hE hP hS hU hW⟩⟩ rfl rfl hl.1 rfl (lv_room (Nat.le_of_ble_eq_true rfl)) dX12_stay_132 ⟨Nat.le_of_ble_eq_true rfl, Nat.le_of_ble_eq_true rfl⟩) hS (fun q _ h => (freeM hS) q h) (freeM hS) (fun r6864 u t H1 locs ht hvm hw hB hz1 hk1 hS => ?_)
          unfold BM at hB
          rw [ht] at hB
          have hP : va_P (dC, dI) classes (wM g c v F rc) H1 := hB
          clear hz1
          generalize H1 = H at hP hS ⊢
          have rr_r6864 := i32_rng r6864
          have hP9 : va_P (dC, dI) classes (wM g c v F rc) H := hP
          exact W.iret (v := r6864) hx hb hr (fun t ht hW => ⟨⟨r6864, (), rfl, trivial, (by show va_P _ _ _ t.heap; rw [ht]; exact hP9)⟩, hS.F ht⟩) hS.2.2 dX12_stay_135
        · refine lv_tableIn (off := 98) (tgt := 136) hx hb dX12_stay_38 hlo6838 hhi6839 (by rw [hk]; decide) (by decide) ?_
          refine lv_aload_n hx hb dX12_stay_136 rfl (lv_at hl 1 rfl) ?_
          refine va_get (D := (dC, dI)) (ci := 12) (v := .ref (g 21)) (C := RX12) (T := TX12) (N := 63) hx hb hwd inA_X12 hown hK hP 0 rfl rfl 26 (by decide) (hwd _ wk_202) (fun _ h9 => h9) rfl dX12_stay_137 ?_
          refine lv_iload hx hb dX12_stay_140 (lv_at hl 0 rfl) ?_
          refine va_iald hx hb hK hP 21 20 rfl rfl (i := r6835) (vin (a := r6835.toInt) rfl (by omega)) dX12_stay_142 ?_
          refine lv_topi (fun z6865 e6866 => ?_)
          have hP9 : va_P (dC, dI) classes (wM g c v F rc) H := hP
          exact W.iret (v := z6865) hx hb hr (fun t ht hW => ⟨⟨z6865, (), rfl, trivial, (by show va_P _ _ _ t.heap; rw [ht]; exact hP9)⟩, hS.F ht⟩) hS.2.2 dX12_stay_143
        · refine lv_tableIn (off := 106) (tgt := 144) hx hb dX12_stay_38 hlo6838 hhi6839 (by rw [hk]; decide) (by decide) ?_
          refine lv_aload_n hx hb dX12_stay_144 rfl (lv_at hl 1 rfl) ?_
          refine lv_iload hx hb dX12_stay_145 (lv_at hl 0 rfl) ?_
          refine va_calli (va_runV (As := [.int r6835]) (rest := []) ⟨hx, hb, hml, hown, hwd⟩ (c_X12_landingsEnd l dC dI g c adK adV v F rc H.size r6835 hg hI (by omega)) (cwV 1 hwd (gV wk_752 wk_749 wk_750 wk_751 wk_5) rfl rfl rfl (by decide +kernel) ⟨Nat.le_of_ble_eq_true rfl, Nat.le_of_ble_eq_true rfl⟩) ⟨PM.blind, va_recv hK hP (ci := 12) (q0 := 0) rfl rfl, fun U hU hW => ⟨rfl, PM.at hK hE hP hS hU hW⟩⟩ rfl rfl hl.1 rfl (lv_room (Nat.le_of_ble_eq_true rfl)) dX12_stay_147 ⟨Nat.le_of_ble_eq_true rfl, Nat.le_of_ble_eq_true rfl⟩) hS (fun q _ h => (freeM hS) q h) (freeM hS) (fun r6867 u t H1 locs ht hvm hw hB hz1 hk1 hS => ?_)
          unfold BM at hB
          rw [ht] at hB
          have hP : va_P (dC, dI) classes (wM g c v F rc) H1 := hB
          clear hz1
          generalize H1 = H at hP hS ⊢
          have rr_r6867 := i32_rng r6867
          have hP9 : va_P (dC, dI) classes (wM g c v F rc) H := hP
          exact W.iret (v := r6867) hx hb hr (fun t ht hW => ⟨⟨r6867, (), rfl, trivial, (by show va_P _ _ _ t.heap; rw [ht]; exact hP9)⟩, hS.F ht⟩) hS.2.2 dX12_stay_150
      · skip
        have t6868 := cv_nle (a := 0) (by decide) (b := r6835.toInt) rfl c6836
        refine lv_ldc (v := (-2000000000)) hx hb hown (hwd _ wk_542) dX12_stay_34 ?_
        have hP9 : va_P (dC, dI) classes (wM g c v F rc) H := hP
        exact W.iret (v := (-2000000000)) hx hb hr (fun t ht hW => ⟨⟨(-2000000000), (), rfl, trivial, (by show va_P _ _ _ t.heap; rw [ht]; exact hP9)⟩, hS.F ht⟩) hS.2.2 dX12_stay_36
    · skip
      have t6869 := cv_eq (a := r6829.toInt) rfl (b := 0) (by decide) c6832
      refine lv_ldc (v := (-2000000000)) hx hb hown (hwd _ wk_542) dX12_stay_18 ?_
      have hP9 : va_P (dC, dI) classes (wM g c v F rc) H := hP
      exact W.iret (v := (-2000000000)) hx hb hr (fun t ht hW => ⟨⟨(-2000000000), (), rfl, trivial, (by show va_P _ _ _ t.heap; rw [ht]; exact hP9)⟩, hS.F ht⟩) hS.2.2 dX12_stay_20
theorem stay_pos {P T : Nat → Int32} {i : Int} {n k r : Int32} {m : Int} (hm : m = (cnt (stP P i) n.toNatClampNeg : Int)) (h0 : 0 ≤ k.toInt) (hk : k.toInt < m) (h : ((0 ≤ r.toInt ∧ r.toInt < n.toInt) ∧ (P r.toNatClampNeg).toInt = i ∧ (cnt (ahP P T i r.toNatClampNeg) n.toNatClampNeg : Int) = k.toInt) ∨ (r.toInt = -1 ∧ ∀ s : Nat, (s : Int) < n.toInt → ((P s).toInt = i → (cnt (ahP P T i s) n.toNatClampNeg : Int) ≠ k.toInt))) : 0 ≤ r.toInt ∧ r.toInt < n.toInt := by
  rcases h with h | ⟨-, h⟩
  · exact h.1
  · exfalso
    obtain ⟨s, h1, h2, h3⟩ := rank_surj P T i n.toNatClampNeg k.toInt.toNat (by omega)
    have e : n.toNatClampNeg = n.toInt.toNat := rfl
    exact h s (by omega) h2 (by rw [h3]; omega)
set_option maxHeartbeats 8000000 in
set_option maxRecDepth 100000 in
theorem c_X12_isLess (l : Launch) (dC : Nat → ClassId) (dI : Nat → Nat → Nat) (g : Nat → Nat) (c : Nat → ClassId) (adK adV : Nat → Nat) (v : Nat → Int32) (F : Nat → Nat → Int32) (rc sz : Nat) (p0 : Int32) (hg : injM g) (hI : IM v F) : Met l yX12_isLess (Cond.code yX12_isLess cX12_isLess 6 (some .boolean) :: wA) ({ frames := 3, cells := 0, slots := 0, locals := 120 }) (va_Pc [.ref (g 0), .int p0] (PM dC dI g c adK adV v F rc sz)) (va_Qi (fun (r : Int32) (u : Unit) => 0 ≤ r.toInt ∧ r.toInt ≤ 1) (fun (_ : Unit) => BM dC dI g c (v, F, rc)) (AM g sz)) 0 0 (AM g sz) := by
  refine Met.ofW (cc := cX12_isLess) (maxL := 6) (ret := (some .boolean)) (by decide) rfl ?_
  intro p e s m args below meth c0 s₁ B hml hv
  obtain ⟨rfl, hsz, hP, hK, hE⟩ := hv
  have hx := B.exec
  have hb := B.bytes
  have hr := B.returns
  have hts := atoms_spec (ws := Cond.code yX12_isLess cX12_isLess 6 (some .boolean) :: wA) B.pre
  have hwd : ∀ w ∈ wA, w.before _ s = true := fun w h => hts w (List.mem_cons_of_mem _ h)
  have hown : s.vm.findClass RX12 = some m.cls := findClass_of_methodNamed B.named
  have hlocks := B.notSynchronized
  subst hsz
  have hl := lv_entry ([.ref (g 0), .int p0]) (n := 6) (Nat.le_of_ble_eq_true rfl)
  rw [lg_entry_eq]
  generalize (lg_sl ([.ref (g 0), .int p0]) ++ List.replicate (6 - (lg_sl ([.ref (g 0), .int p0])).length) Slot.unset).toArray = ls at hl ⊢
  have hl : lv_has ls 6 [(0, .ref (g 0)), (1, .int p0)] := hl
  obtain ⟨H, eH⟩ : ∃ z, z = s.heap := ⟨_, rfl⟩
  have hP : va_P (dC, dI) classes (wM g c v F rc) H := by rw [eH]; exact hP
  have hS : va_S (AM g s.heap.size) s.heap H [] := by rw [eH]; exact va_S.rf
  refine my_heap eH ?_
  have rp0 := i32_rng p0
  refine lv_aload_n hx hb dX12_isLess_0 rfl (lv_at hl 0 rfl) ?_
  refine lv_iload_n hx hb dX12_isLess_1 rfl (lv_at hl 1 rfl) ?_
  have t6870 : 0 ≤ (v 19).toInt ∧ (v 19).toInt ≤ 500 := hI.1 19 _ _ rfl
  refine va_calli (va_runV (As := [.int p0]) (rest := []) ⟨hx, hb, hml, hown, hwd⟩ (c_X12_staysOf l dC dI g c adK adV v F rc H.size p0 hg hI ) (cwV 1 hwd (gV wk_720 wk_717 wk_718 wk_719 wk_5) rfl rfl rfl (by decide +kernel) ⟨Nat.le_of_ble_eq_true rfl, Nat.le_of_ble_eq_true rfl⟩) ⟨PM.blind, va_recv hK hP (ci := 12) (q0 := 0) rfl rfl, fun U hU hW => ⟨rfl, PM.at hK hE hP hS hU hW⟩⟩ rfl rfl hl.1 rfl (lv_room (Nat.le_of_ble_eq_true rfl)) dX12_isLess_2 ⟨Nat.le_of_ble_eq_true rfl, Nat.le_of_ble_eq_true rfl⟩) hS (fun q _ h => (freeM hS) q h) (freeM hS) (fun r6871 u t H1 locs ht hvm hw hB hz1 hk1 hS => ?_)
  unfold BM at hB
  rw [ht] at hB
  have hP : va_P (dC, dI) classes (wM g c v F rc) H1 := hB
  replace hw : r6871.toInt = (cnt (stP (F 15) p0.toInt) (v 19).toNatClampNeg : Int) := hw
  have hw_r6871 := hw
  clear hw
  clear hz1
  generalize H1 = H at hP hS ⊢
  have rr_r6871 := i32_rng r6871
  refine lv_istore_n (lv' := [(2, .int r6871), (0, .ref (g 0)), (1, .int p0)]) hx hb dX12_isLess_5 rfl hl (by decide) rfl (fun ls hl => ?_)
  refine lv_iconst (v := (-1)) hx hb dX12_isLess_6 (by decide) ?_
  refine lv_istore_n (lv' := [(3, .int (-1)), (2, .int r6871), (0, .ref (g 0)), (1, .int p0)]) hx hb dX12_isLess_7 rfl hl (by decide) rfl (fun ls hl => ?_)
  refine lv_iconst (v := 0) hx hb dX12_isLess_8 (by decide) ?_
  refine lv_istore (lv' := [(4, .int 0), (3, .int (-1)), (2, .int r6871), (0, .ref (g 0)), (1, .int p0)]) hx hb dX12_isLess_9 hl (by decide) rfl (fun ls hl => ?_)
  have lp6872 : ∀ (n : Nat) (x4_lp6872 : Int32) (x3_lp6872 : Int32) (H : Heap) (locs : List Loc) (ls : Array Slot), (0 ≤ x4_lp6872.toInt) → (-1 ≤ x3_lp6872.toInt) → (x3_lp6872.toInt ≤ 499) → (2147483648 - x4_lp6872.toInt ≤ (n : Int)) → va_P (dC, dI) classes (wM g c v F rc) H → va_S (AM g s.heap.size) s.heap H locs → lv_has ls 6 [(4, .int x4_lp6872), (3, .int x3_lp6872), (2, .int r6871), (0, .ref (g 0)), (1, .int p0)] → W p l e (headSpec (Cond.code yX12_isLess cX12_isLess 6 (some .boolean) :: wA) ({ frames := 3, cells := 0, slots := 0, locals := 120 })).room s m ([.ref (g 0), .int p0] : List Value).toArray below meth c0 H locs 0 0 (MQ below (va_Qi (fun (r : Int32) (u : Unit) => 0 ≤ r.toInt ∧ r.toInt ≤ 1) (fun (_ : Unit) => BM dC dI g c (v, F, rc)) (AM g s.heap.size)) ([.ref (g 0), .int p0] : List Value).toArray s 0 0 (AM g s.heap.size)) (F0 m 11 ls []) := by
    intro n
    induction n with
    | zero =>
      intro x4_lp6872 x3_lp6872 H locs ls t6873 t6874 t6875 hm hP hS hl
      exfalso
      have := i32_rng x4_lp6872
      have := i32_rng x3_lp6872
      omega
    | succ n ih_lp6872 =>
      intro x4_lp6872 x3_lp6872 H locs ls t6873 t6874 t6875 hm hP hS hl
      have rx4_lp6872 := i32_rng x4_lp6872
      have rx3_lp6872 := i32_rng x3_lp6872
      refine lv_iload hx hb dX12_isLess_11 (lv_at hl 0 rfl) ?_
      refine lv_iload_n hx hb dX12_isLess_13 rfl (lv_at hl 2 rfl) ?_
      refine lv_icmp_ge (tgt := 140) hx hb dX12_isLess_14 (by decide) (fun c6876 => ?_) (fun c6876 => ?_)
      · skip
        have t6877 := cv_le (a := r6871.toInt) rfl (b := x4_lp6872.toInt) rfl c6876
        refine lv_iconst (v := 0) hx hb dX12_isLess_140 (by decide) ?_
        have hP9 : va_P (dC, dI) classes (wM g c v F rc) H := hP
        exact W.zret (v := 0) hx hb hr (rfl) (fun t ht hW => ⟨⟨0, (), rfl, by have : (0 : Int32).toInt = 0 := (by decide); omega, (by show va_P _ _ _ t.heap; rw [ht]; exact hP9)⟩, hS.F ht⟩) hS.2.2 dX12_isLess_141
      · skip
        have t6878 := cv_nle (a := r6871.toInt) rfl (b := x4_lp6872.toInt) rfl c6876
        refine lv_aload_n hx hb dX12_isLess_17 rfl (lv_at hl 3 rfl) ?_
        refine lv_iload_n hx hb dX12_isLess_18 rfl (lv_at hl 4 rfl) ?_
        refine lv_iload hx hb dX12_isLess_19 (lv_at hl 0 rfl) ?_
        have t6879 : 0 ≤ (v 19).toInt ∧ (v 19).toInt ≤ 500 := hI.1 19 _ _ rfl
        refine va_calli (va_runV (As := [.int p0, .int x4_lp6872]) (rest := []) ⟨hx, hb, hml, hown, hwd⟩ (c_X12_stayOf l dC dI g c adK adV v F rc H.size p0 x4_lp6872 hg hI ) (cwV 2 hwd (gV wk_744 wk_741 wk_742 wk_743 wk_5) rfl rfl rfl (by decide +kernel) ⟨Nat.le_of_ble_eq_true rfl, Nat.le_of_ble_eq_true rfl⟩) ⟨PM.blind, va_recv hK hP (ci := 12) (q0 := 0) rfl rfl, fun U hU hW => ⟨rfl, PM.at hK hE hP hS hU hW⟩⟩ rfl rfl hl.1 rfl (lv_room (Nat.le_of_ble_eq_true rfl)) dX12_isLess_21 ⟨Nat.le_of_ble_eq_true rfl, Nat.le_of_ble_eq_true rfl⟩) hS (fun q _ h => (freeM hS) q h) (freeM hS) (fun r6880 u t H1 locs ht hvm hw hB hz1 hk1 hS => ?_)
        unfold BM at hB
        rw [ht] at hB
        have hP : va_P (dC, dI) classes (wM g c v F rc) H1 := hB
        replace hw : ((0 ≤ r6880.toInt ∧ r6880.toInt < (v 19).toInt) ∧ (F 15 r6880.toNatClampNeg).toInt = p0.toInt ∧ (cnt (ahP (F 15) (F 17) p0.toInt r6880.toNatClampNeg) (v 19).toNatClampNeg : Int) = x4_lp6872.toInt) ∨ (r6880.toInt = -1 ∧ ∀ s : Nat, (s : Int) < (v 19).toInt → ((F 15 s).toInt = p0.toInt → (cnt (ahP (F 15) (F 17) p0.toInt s) (v 19).toNatClampNeg : Int) ≠ x4_lp6872.toInt)) := hw
        have hw_r6880 := hw
        clear hw
        clear hz1
        generalize H1 = H at hP hS ⊢
        have hs_r6880 := stay_pos hw_r6871 (k := x4_lp6872) (by omega) (by omega) hw_r6880
        refine lv_istore (lv' := [(5, .int r6880), (4, .int x4_lp6872), (3, .int x3_lp6872), (2, .int r6871), (0, .ref (g 0)), (1, .int p0)]) hx hb dX12_isLess_24 hl (by decide) rfl (fun ls hl => ?_)
        refine lv_aload_n hx hb dX12_isLess_26 rfl (lv_at hl 4 rfl) ?_
        refine va_get (D := (dC, dI)) (ci := 12) (v := .ref (g 16)) (C := RX12) (T := TX12) (N := 63) hx hb hwd inA_X12 hown hK hP 0 rfl rfl 21 (by decide) (hwd _ wk_197) (fun _ h9 => h9) rfl dX12_isLess_27 ?_
        refine lv_iload hx hb dX12_isLess_30 (lv_at hl 0 rfl) ?_
        refine va_iald hx hb hK hP 16 15 rfl rfl (i := r6880) (vin (a := r6880.toInt) rfl (by omega)) dX12_isLess_32 ?_
        refine lv_topi (fun z6881 e6882 => ?_)
        have t6883 : 0 ≤ z6881.toInt ∧ z6881.toInt ≤ 11 := by rw [e6882]; exact hI.2 16 _ _ rfl _
        have tzz6881 : z6881.toInt = (F 16 (r6880 : Int32).toNatClampNeg).toInt := congrArg Int32.toInt e6882
        refine lv_bipush (v := 10) hx hb dX12_isLess_33 (by decide) ?_
        refine lv_icmp_eq (tgt := 72) hx hb dX12_isLess_35 (by decide) (fun c6884 => ?_) (fun c6884 => ?_)
        · skip
          have t6885 := cv_eq (a := z6881.toInt) rfl (b := 10) (by decide) c6884
          refine lv_iload_n hx hb dX12_isLess_72 rfl (lv_at hl 2 rfl) ?_
          refine lv_if_lt (tgt := 131) hx hb dX12_isLess_73 (by decide) (fun c6886 => ?_) (fun c6886 => ?_)
          · skip
            have t6887 := cv_lt (a := x3_lp6872.toInt) rfl (b := 0) (by decide) c6886
            refine lv_iload hx hb dX12_isLess_131 (lv_at hl 0 rfl) ?_
            refine lv_istore_n (lv' := [(3, .int r6880), (5, .int r6880), (4, .int x4_lp6872), (2, .int r6871), (0, .ref (g 0)), (1, .int p0)]) hx hb dX12_isLess_133 rfl hl (by decide) rfl (fun ls hl => ?_)
            obtain ⟨z6888, e6889⟩ : ∃ y : Int32, y = x4_lp6872 + 1 := ⟨_, rfl⟩
            try (have t6890 := tadd e6889 rfl (b := 1) (by decide) (by omega))
            refine lv_iinc (v := z6888) (lv' := [(4, .int z6888), (3, .int r6880), (5, .int r6880), (2, .int r6871), (0, .ref (g 0)), (1, .int p0)]) hx hb dX12_isLess_134 hl (k := 2) rfl (by rw [e6889]; rfl) (by decide) rfl (fun ls hl => ?_)
            refine lv_goto (tgt := 11) hx hb dX12_isLess_137 (by decide) ?_
            exact ih_lp6872 z6888 r6880  _ _ _ (by omega) (by omega) (by omega) (by omega) hP hS (lv_sub hl [0, 1, 3, 4, 5] rfl)
          · skip
            have t6891 := cv_nlt (a := x3_lp6872.toInt) rfl (b := 0) (by decide) c6886
            refine lv_aload_n hx hb dX12_isLess_76 rfl (lv_at hl 4 rfl) ?_
            refine va_get (D := (dC, dI)) (ci := 12) (v := .ref (g 16)) (C := RX12) (T := TX12) (N := 63) hx hb hwd inA_X12 hown hK hP 0 rfl rfl 21 (by decide) (hwd _ wk_197) (fun _ h9 => h9) rfl dX12_isLess_77 ?_
            refine lv_iload_n hx hb dX12_isLess_80 rfl (lv_at hl 2 rfl) ?_
            refine va_iald hx hb hK hP 16 15 rfl rfl (i := x3_lp6872) (vin (a := x3_lp6872.toInt) rfl (by omega)) dX12_isLess_81 ?_
            refine lv_topi (fun z6892 e6893 => ?_)
            have t6894 : 0 ≤ z6892.toInt ∧ z6892.toInt ≤ 11 := by rw [e6893]; exact hI.2 16 _ _ rfl _
            have tzz6892 : z6892.toInt = (F 16 (x3_lp6872 : Int32).toNatClampNeg).toInt := congrArg Int32.toInt e6893
            refine lv_bipush (v := 10) hx hb dX12_isLess_82 (by decide) ?_
            refine lv_icmp_eq (tgt := 131) hx hb dX12_isLess_84 (by decide) (fun c6895 => ?_) (fun c6895 => ?_)
            · skip
              have t6896 := cv_eq (a := z6892.toInt) rfl (b := 10) (by decide) c6895
              refine lv_iload hx hb dX12_isLess_131 (lv_at hl 0 rfl) ?_
              refine lv_istore_n (lv' := [(3, .int r6880), (5, .int r6880), (4, .int x4_lp6872), (2, .int r6871), (0, .ref (g 0)), (1, .int p0)]) hx hb dX12_isLess_133 rfl hl (by decide) rfl (fun ls hl => ?_)
              obtain ⟨z6897, e6898⟩ : ∃ y : Int32, y = x4_lp6872 + 1 := ⟨_, rfl⟩
              try (have t6899 := tadd e6898 rfl (b := 1) (by decide) (by omega))
              refine lv_iinc (v := z6897) (lv' := [(4, .int z6897), (3, .int r6880), (5, .int r6880), (2, .int r6871), (0, .ref (g 0)), (1, .int p0)]) hx hb dX12_isLess_134 hl (k := 2) rfl (by rw [e6898]; rfl) (by decide) rfl (fun ls hl => ?_)
              refine lv_goto (tgt := 11) hx hb dX12_isLess_137 (by decide) ?_
              exact ih_lp6872 z6897 r6880  _ _ _ (by omega) (by omega) (by omega) (by omega) hP hS (lv_sub hl [0, 1, 3, 4, 5] rfl)
            · skip
              have t6900 := cv_ne (a := z6892.toInt) rfl (b := 10) (by decide) c6895
              refine lv_aload_n hx hb dX12_isLess_87 rfl (lv_at hl 4 rfl) ?_
              refine va_get (D := (dC, dI)) (ci := 12) (v := .ref (g 16)) (C := RX12) (T := TX12) (N := 63) hx hb hwd inA_X12 hown hK hP 0 rfl rfl 21 (by decide) (hwd _ wk_197) (fun _ h9 => h9) rfl dX12_isLess_88 ?_
              refine lv_iload hx hb dX12_isLess_91 (lv_at hl 0 rfl) ?_
              refine va_iald hx hb hK hP 16 15 rfl rfl (i := r6880) (vin (a := r6880.toInt) rfl (by omega)) dX12_isLess_93 ?_
              refine lv_topi (fun z6901 e6902 => ?_)
              have t6903 : 0 ≤ z6901.toInt ∧ z6901.toInt ≤ 11 := by rw [e6902]; exact hI.2 16 _ _ rfl _
              have tzz6901 : z6901.toInt = (F 16 (r6880 : Int32).toNatClampNeg).toInt := congrArg Int32.toInt e6902
              refine lv_bipush (v := 10) hx hb dX12_isLess_94 (by decide) ?_
              refine lv_icmp_eq (tgt := 131) hx hb dX12_isLess_96 (by decide) (fun c6904 => ?_) (fun c6904 => ?_)
              · skip
                have t6905 := cv_eq (a := z6901.toInt) rfl (b := 10) (by decide) c6904
                refine lv_iload hx hb dX12_isLess_131 (lv_at hl 0 rfl) ?_
                refine lv_istore_n (lv' := [(3, .int r6880), (5, .int r6880), (4, .int x4_lp6872), (2, .int r6871), (0, .ref (g 0)), (1, .int p0)]) hx hb dX12_isLess_133 rfl hl (by decide) rfl (fun ls hl => ?_)
                obtain ⟨z6906, e6907⟩ : ∃ y : Int32, y = x4_lp6872 + 1 := ⟨_, rfl⟩
                try (have t6908 := tadd e6907 rfl (b := 1) (by decide) (by omega))
                refine lv_iinc (v := z6906) (lv' := [(4, .int z6906), (3, .int r6880), (5, .int r6880), (2, .int r6871), (0, .ref (g 0)), (1, .int p0)]) hx hb dX12_isLess_134 hl (k := 2) rfl (by rw [e6907]; rfl) (by decide) rfl (fun ls hl => ?_)
                refine lv_goto (tgt := 11) hx hb dX12_isLess_137 (by decide) ?_
                exact ih_lp6872 z6906 r6880  _ _ _ (by omega) (by omega) (by omega) (by omega) hP hS (lv_sub hl [0, 1, 3, 4, 5] rfl)
              · skip
                have t6909 := cv_ne (a := z6901.toInt) rfl (b := 10) (by decide) c6904
                refine lv_aload_n hx hb dX12_isLess_99 rfl (lv_at hl 4 rfl) ?_
                refine va_get (D := (dC, dI)) (ci := 12) (v := .ref (g 19)) (C := RX12) (T := TX12) (N := 63) hx hb hwd inA_X12 hown hK hP 0 rfl rfl 24 (by decide) (hwd _ wk_200) (fun _ h9 => h9) rfl dX12_isLess_100 ?_
                refine lv_iload hx hb dX12_isLess_103 (lv_at hl 0 rfl) ?_
                refine va_iald hx hb hK hP 19 18 rfl rfl (i := r6880) (vin (a := r6880.toInt) rfl (by omega)) dX12_isLess_105 ?_
                refine lv_topi (fun z6910 e6911 => ?_)
                have tzz6910 : z6910.toInt = (F 19 (r6880 : Int32).toNatClampNeg).toInt := congrArg Int32.toInt e6911
                refine lv_aload_n hx hb dX12_isLess_106 rfl (lv_at hl 4 rfl) ?_
                refine lv_iload_n hx hb dX12_isLess_107 rfl (lv_at hl 2 rfl) ?_
                refine va_calli (va_runV (As := [.int x3_lp6872]) (rest := [.int z6910]) ⟨hx, hb, hml, hown, hwd⟩ (c_X12_hoursEnd l dC dI g c adK adV v F rc H.size x3_lp6872 hg hI (by omega)) (cwV 1 hwd (gV wk_748 wk_745 wk_746 wk_747 wk_5) rfl rfl rfl (by decide +kernel) ⟨Nat.le_of_ble_eq_true rfl, Nat.le_of_ble_eq_true rfl⟩) ⟨PM.blind, va_recv hK hP (ci := 12) (q0 := 0) rfl rfl, fun U hU hW => ⟨rfl, PM.at hK hE hP hS hU hW⟩⟩ rfl rfl hl.1 rfl (lv_room (Nat.le_of_ble_eq_true rfl)) dX12_isLess_108 ⟨Nat.le_of_ble_eq_true rfl, Nat.le_of_ble_eq_true rfl⟩) hS (fun q _ h => (freeM hS) q h) (freeM hS) (fun r6912 u t H1 locs ht hvm hw hB hz1 hk1 hS => ?_)
                unfold BM at hB
                rw [ht] at hB
                have hP : va_P (dC, dI) classes (wM g c v F rc) H1 := hB
                clear hz1
                generalize H1 = H at hP hS ⊢
                have rr_r6912 := i32_rng r6912
                refine lv_icmp_lt (tgt := 129) hx hb dX12_isLess_111 (by decide) (fun c6913 => ?_) (fun c6913 => ?_)
                · skip
                  have t6914 := cv_lt (a := z6910.toInt) rfl (b := r6912.toInt) rfl c6913
                  refine lv_iconst (v := 1) hx hb dX12_isLess_129 (by decide) ?_
                  have hP9 : va_P (dC, dI) classes (wM g c v F rc) H := hP
                  exact W.zret (v := 1) hx hb hr (rfl) (fun t ht hW => ⟨⟨1, (), rfl, by have : (1 : Int32).toInt = 1 := (by decide); omega, (by show va_P _ _ _ t.heap; rw [ht]; exact hP9)⟩, hS.F ht⟩) hS.2.2 dX12_isLess_130
                · skip
                  have t6915 := cv_nlt (a := z6910.toInt) rfl (b := r6912.toInt) rfl c6913
                  refine lv_aload_n hx hb dX12_isLess_114 rfl (lv_at hl 4 rfl) ?_
                  refine va_get (D := (dC, dI)) (ci := 12) (v := .ref (g 21)) (C := RX12) (T := TX12) (N := 63) hx hb hwd inA_X12 hown hK hP 0 rfl rfl 26 (by decide) (hwd _ wk_202) (fun _ h9 => h9) rfl dX12_isLess_115 ?_
                  refine lv_iload hx hb dX12_isLess_118 (lv_at hl 0 rfl) ?_
                  refine va_iald hx hb hK hP 21 20 rfl rfl (i := r6880) (vin (a := r6880.toInt) rfl (by omega)) dX12_isLess_120 ?_
                  refine lv_topi (fun z6916 e6917 => ?_)
                  have tzz6916 : z6916.toInt = (F 21 (r6880 : Int32).toNatClampNeg).toInt := congrArg Int32.toInt e6917
                  refine lv_aload_n hx hb dX12_isLess_121 rfl (lv_at hl 4 rfl) ?_
                  refine lv_iload_n hx hb dX12_isLess_122 rfl (lv_at hl 2 rfl) ?_
                  refine va_calli (va_runV (As := [.int x3_lp6872]) (rest := [.int z6916]) ⟨hx, hb, hml, hown, hwd⟩ (c_X12_landingsEnd l dC dI g c adK adV v F rc H.size x3_lp6872 hg hI (by omega)) (cwV 1 hwd (gV wk_752 wk_749 wk_750 wk_751 wk_5) rfl rfl rfl (by decide +kernel) ⟨Nat.le_of_ble_eq_true rfl, Nat.le_of_ble_eq_true rfl⟩) ⟨PM.blind, va_recv hK hP (ci := 12) (q0 := 0) rfl rfl, fun U hU hW => ⟨rfl, PM.at hK hE hP hS hU hW⟩⟩ rfl rfl hl.1 rfl (lv_room (Nat.le_of_ble_eq_true rfl)) dX12_isLess_123 ⟨Nat.le_of_ble_eq_true rfl, Nat.le_of_ble_eq_true rfl⟩) hS (fun q _ h => (freeM hS) q h) (freeM hS) (fun r6918 u t H1 locs ht hvm hw hB hz1 hk1 hS => ?_)
                  unfold BM at hB
                  rw [ht] at hB
                  have hP : va_P (dC, dI) classes (wM g c v F rc) H1 := hB
                  clear hz1
                  generalize H1 = H at hP hS ⊢
                  have rr_r6918 := i32_rng r6918
                  refine lv_icmp_ge (tgt := 131) hx hb dX12_isLess_126 (by decide) (fun c6919 => ?_) (fun c6919 => ?_)
                  · skip
                    have t6920 := cv_le (a := r6918.toInt) rfl (b := z6916.toInt) rfl c6919
                    refine lv_iload hx hb dX12_isLess_131 (lv_at hl 0 rfl) ?_
                    refine lv_istore_n (lv' := [(3, .int r6880), (5, .int r6880), (4, .int x4_lp6872), (2, .int r6871), (0, .ref (g 0)), (1, .int p0)]) hx hb dX12_isLess_133 rfl hl (by decide) rfl (fun ls hl => ?_)
                    obtain ⟨z6921, e6922⟩ : ∃ y : Int32, y = x4_lp6872 + 1 := ⟨_, rfl⟩
                    try (have t6923 := tadd e6922 rfl (b := 1) (by decide) (by omega))
                    refine lv_iinc (v := z6921) (lv' := [(4, .int z6921), (3, .int r6880), (5, .int r6880), (2, .int r6871), (0, .ref (g 0)), (1, .int p0)]) hx hb dX12_isLess_134 hl (k := 2) rfl (by rw [e6922]; rfl) (by decide) rfl (fun ls hl => ?_)
                    refine lv_goto (tgt := 11) hx hb dX12_isLess_137 (by decide) ?_
                    exact ih_lp6872 z6921 r6880  _ _ _ (by omega) (by omega) (by omega) (by omega) hP hS (lv_sub hl [0, 1, 3, 4, 5] rfl)
                  · skip
                    have t6924 := cv_nle (a := r6918.toInt) rfl (b := z6916.toInt) rfl c6919
                    refine lv_iconst (v := 1) hx hb dX12_isLess_129 (by decide) ?_
                    have hP9 : va_P (dC, dI) classes (wM g c v F rc) H := hP
                    exact W.zret (v := 1) hx hb hr (rfl) (fun t ht hW => ⟨⟨1, (), rfl, by have : (1 : Int32).toInt = 1 := (by decide); omega, (by show va_P _ _ _ t.heap; rw [ht]; exact hP9)⟩, hS.F ht⟩) hS.2.2 dX12_isLess_130
        · skip
          have t6925 := cv_ne (a := z6881.toInt) rfl (b := 10) (by decide) c6884
          refine lv_aload_n hx hb dX12_isLess_38 rfl (lv_at hl 4 rfl) ?_
          refine lv_iload hx hb dX12_isLess_39 (lv_at hl 0 rfl) ?_
          refine va_calli (va_runV (As := [.int r6880]) (rest := []) ⟨hx, hb, hml, hown, hwd⟩ (c_X12_hoursEnd l dC dI g c adK adV v F rc H.size r6880 hg hI (by omega)) (cwV 1 hwd (gV wk_748 wk_745 wk_746 wk_747 wk_5) rfl rfl rfl (by decide +kernel) ⟨Nat.le_of_ble_eq_true rfl, Nat.le_of_ble_eq_true rfl⟩) ⟨PM.blind, va_recv hK hP (ci := 12) (q0 := 0) rfl rfl, fun U hU hW => ⟨rfl, PM.at hK hE hP hS hU hW⟩⟩ rfl rfl hl.1 rfl (lv_room (Nat.le_of_ble_eq_true rfl)) dX12_isLess_41 ⟨Nat.le_of_ble_eq_true rfl, Nat.le_of_ble_eq_true rfl⟩) hS (fun q _ h => (freeM hS) q h) (freeM hS) (fun r6926 u t H1 locs ht hvm hw hB hz1 hk1 hS => ?_)
          unfold BM at hB
          rw [ht] at hB
          have hP : va_P (dC, dI) classes (wM g c v F rc) H1 := hB
          clear hz1
          generalize H1 = H at hP hS ⊢
          have rr_r6926 := i32_rng r6926
          refine lv_aload_n hx hb dX12_isLess_44 rfl (lv_at hl 4 rfl) ?_
          refine va_get (D := (dC, dI)) (ci := 12) (v := .ref (g 19)) (C := RX12) (T := TX12) (N := 63) hx hb hwd inA_X12 hown hK hP 0 rfl rfl 24 (by decide) (hwd _ wk_200) (fun _ h9 => h9) rfl dX12_isLess_45 ?_
          refine lv_iload hx hb dX12_isLess_48 (lv_at hl 0 rfl) ?_
          refine va_iald hx hb hK hP 19 18 rfl rfl (i := r6880) (vin (a := r6880.toInt) rfl (by omega)) dX12_isLess_50 ?_
          refine lv_topi (fun z6927 e6928 => ?_)
          have tzz6927 : z6927.toInt = (F 19 (r6880 : Int32).toNatClampNeg).toInt := congrArg Int32.toInt e6928
          refine lv_icmp_lt (tgt := 70) hx hb dX12_isLess_51 (by decide) (fun c6929 => ?_) (fun c6929 => ?_)
          · skip
            have t6930 := cv_lt (a := r6926.toInt) rfl (b := z6927.toInt) rfl c6929
            refine lv_iconst (v := 1) hx hb dX12_isLess_70 (by decide) ?_
            have hP9 : va_P (dC, dI) classes (wM g c v F rc) H := hP
            exact W.zret (v := 1) hx hb hr (rfl) (fun t ht hW => ⟨⟨1, (), rfl, by have : (1 : Int32).toInt = 1 := (by decide); omega, (by show va_P _ _ _ t.heap; rw [ht]; exact hP9)⟩, hS.F ht⟩) hS.2.2 dX12_isLess_71
          · skip
            have t6931 := cv_nlt (a := r6926.toInt) rfl (b := z6927.toInt) rfl c6929
            refine lv_aload_n hx hb dX12_isLess_54 rfl (lv_at hl 4 rfl) ?_
            refine lv_iload hx hb dX12_isLess_55 (lv_at hl 0 rfl) ?_
            refine va_calli (va_runV (As := [.int r6880]) (rest := []) ⟨hx, hb, hml, hown, hwd⟩ (c_X12_landingsEnd l dC dI g c adK adV v F rc H.size r6880 hg hI (by omega)) (cwV 1 hwd (gV wk_752 wk_749 wk_750 wk_751 wk_5) rfl rfl rfl (by decide +kernel) ⟨Nat.le_of_ble_eq_true rfl, Nat.le_of_ble_eq_true rfl⟩) ⟨PM.blind, va_recv hK hP (ci := 12) (q0 := 0) rfl rfl, fun U hU hW => ⟨rfl, PM.at hK hE hP hS hU hW⟩⟩ rfl rfl hl.1 rfl (lv_room (Nat.le_of_ble_eq_true rfl)) dX12_isLess_57 ⟨Nat.le_of_ble_eq_true rfl, Nat.le_of_ble_eq_true rfl⟩) hS (fun q _ h => (freeM hS) q h) (freeM hS) (fun r6932 u t H1 locs ht hvm hw hB hz1 hk1 hS => ?_)
            unfold BM at hB
            rw [ht] at hB
            have hP : va_P (dC, dI) classes (wM g c v F rc) H1 := hB
            clear hz1
            generalize H1 = H at hP hS ⊢
            have rr_r6932 := i32_rng r6932
            refine lv_aload_n hx hb dX12_isLess_60 rfl (lv_at hl 4 rfl) ?_
            refine va_get (D := (dC, dI)) (ci := 12) (v := .ref (g 21)) (C := RX12) (T := TX12) (N := 63) hx hb hwd inA_X12 hown hK hP 0 rfl rfl 26 (by decide) (hwd _ wk_202) (fun _ h9 => h9) rfl dX12_isLess_61 ?_
            refine lv_iload hx hb dX12_isLess_64 (lv_at hl 0 rfl) ?_
            refine va_iald hx hb hK hP 21 20 rfl rfl (i := r6880) (vin (a := r6880.toInt) rfl (by omega)) dX12_isLess_66 ?_
            refine lv_topi (fun z6933 e6934 => ?_)
            have tzz6933 : z6933.toInt = (F 21 (r6880 : Int32).toNatClampNeg).toInt := congrArg Int32.toInt e6934
            refine lv_icmp_ge (tgt := 72) hx hb dX12_isLess_67 (by decide) (fun c6935 => ?_) (fun c6935 => ?_)
            · skip
              have t6936 := cv_le (a := z6933.toInt) rfl (b := r6932.toInt) rfl c6935
              refine lv_iload_n hx hb dX12_isLess_72 rfl (lv_at hl 2 rfl) ?_
              refine lv_if_lt (tgt := 131) hx hb dX12_isLess_73 (by decide) (fun c6937 => ?_) (fun c6937 => ?_)
              · skip
                have t6938 := cv_lt (a := x3_lp6872.toInt) rfl (b := 0) (by decide) c6937
                refine lv_iload hx hb dX12_isLess_131 (lv_at hl 0 rfl) ?_
                refine lv_istore_n (lv' := [(3, .int r6880), (5, .int r6880), (4, .int x4_lp6872), (2, .int r6871), (0, .ref (g 0)), (1, .int p0)]) hx hb dX12_isLess_133 rfl hl (by decide) rfl (fun ls hl => ?_)
                obtain ⟨z6939, e6940⟩ : ∃ y : Int32, y = x4_lp6872 + 1 := ⟨_, rfl⟩
                try (have t6941 := tadd e6940 rfl (b := 1) (by decide) (by omega))
                refine lv_iinc (v := z6939) (lv' := [(4, .int z6939), (3, .int r6880), (5, .int r6880), (2, .int r6871), (0, .ref (g 0)), (1, .int p0)]) hx hb dX12_isLess_134 hl (k := 2) rfl (by rw [e6940]; rfl) (by decide) rfl (fun ls hl => ?_)
                refine lv_goto (tgt := 11) hx hb dX12_isLess_137 (by decide) ?_
                exact ih_lp6872 z6939 r6880  _ _ _ (by omega) (by omega) (by omega) (by omega) hP hS (lv_sub hl [0, 1, 3, 4, 5] rfl)
              · skip
                have t6942 := cv_nlt (a := x3_lp6872.toInt) rfl (b := 0) (by decide) c6937
                refine lv_aload_n hx hb dX12_isLess_76 rfl (lv_at hl 4 rfl) ?_
                refine va_get (D := (dC, dI)) (ci := 12) (v := .ref (g 16)) (C := RX12) (T := TX12) (N := 63) hx hb hwd inA_X12 hown hK hP 0 rfl rfl 21 (by decide) (hwd _ wk_197) (fun _ h9 => h9) rfl dX12_isLess_77 ?_
                refine lv_iload_n hx hb dX12_isLess_80 rfl (lv_at hl 2 rfl) ?_
                refine va_iald hx hb hK hP 16 15 rfl rfl (i := x3_lp6872) (vin (a := x3_lp6872.toInt) rfl (by omega)) dX12_isLess_81 ?_
                refine lv_topi (fun z6943 e6944 => ?_)
                have t6945 : 0 ≤ z6943.toInt ∧ z6943.toInt ≤ 11 := by rw [e6944]; exact hI.2 16 _ _ rfl _
                have tzz6943 : z6943.toInt = (F 16 (x3_lp6872 : Int32).toNatClampNeg).toInt := congrArg Int32.toInt e6944
                refine lv_bipush (v := 10) hx hb dX12_isLess_82 (by decide) ?_
                refine lv_icmp_eq (tgt := 131) hx hb dX12_isLess_84 (by decide) (fun c6946 => ?_) (fun c6946 => ?_)
                · skip
                  have t6947 := cv_eq (a := z6943.toInt) rfl (b := 10) (by decide) c6946
                  refine lv_iload hx hb dX12_isLess_131 (lv_at hl 0 rfl) ?_
                  refine lv_istore_n (lv' := [(3, .int r6880), (5, .int r6880), (4, .int x4_lp6872), (2, .int r6871), (0, .ref (g 0)), (1, .int p0)]) hx hb dX12_isLess_133 rfl hl (by decide) rfl (fun ls hl => ?_)
                  obtain ⟨z6948, e6949⟩ : ∃ y : Int32, y = x4_lp6872 + 1 := ⟨_, rfl⟩
                  try (have t6950 := tadd e6949 rfl (b := 1) (by decide) (by omega))
                  refine lv_iinc (v := z6948) (lv' := [(4, .int z6948), (3, .int r6880), (5, .int r6880), (2, .int r6871), (0, .ref (g 0)), (1, .int p0)]) hx hb dX12_isLess_134 hl (k := 2) rfl (by rw [e6949]; rfl) (by decide) rfl (fun ls hl => ?_)
                  refine lv_goto (tgt := 11) hx hb dX12_isLess_137 (by decide) ?_
                  exact ih_lp6872 z6948 r6880  _ _ _ (by omega) (by omega) (by omega) (by omega) hP hS (lv_sub hl [0, 1, 3, 4, 5] rfl)
                · skip
                  have t6951 := cv_ne (a := z6943.toInt) rfl (b := 10) (by decide) c6946
                  refine lv_aload_n hx hb dX12_isLess_87 rfl (lv_at hl 4 rfl) ?_
                  refine va_get (D := (dC, dI)) (ci := 12) (v := .ref (g 16)) (C := RX12) (T := TX12) (N := 63) hx hb hwd inA_X12 hown hK hP 0 rfl rfl 21 (by decide) (hwd _ wk_197) (fun _ h9 => h9) rfl dX12_isLess_88 ?_
                  refine lv_iload hx hb dX12_isLess_91 (lv_at hl 0 rfl) ?_
                  refine va_iald hx hb hK hP 16 15 rfl rfl (i := r6880) (vin (a := r6880.toInt) rfl (by omega)) dX12_isLess_93 ?_
                  refine lv_topi (fun z6952 e6953 => ?_)
                  have t6954 : 0 ≤ z6952.toInt ∧ z6952.toInt ≤ 11 := by rw [e6953]; exact hI.2 16 _ _ rfl _
                  have tzz6952 : z6952.toInt = (F 16 (r6880 : Int32).toNatClampNeg).toInt := congrArg Int32.toInt e6953
                  refine lv_bipush (v := 10) hx hb dX12_isLess_94 (by decide) ?_
                  refine lv_icmp_eq (tgt := 131) hx hb dX12_isLess_96 (by decide) (fun c6955 => ?_) (fun c6955 => ?_)
                  · skip
                    have t6956 := cv_eq (a := z6952.toInt) rfl (b := 10) (by decide) c6955
                    refine lv_iload hx hb dX12_isLess_131 (lv_at hl 0 rfl) ?_
                    refine lv_istore_n (lv' := [(3, .int r6880), (5, .int r6880), (4, .int x4_lp6872), (2, .int r6871), (0, .ref (g 0)), (1, .int p0)]) hx hb dX12_isLess_133 rfl hl (by decide) rfl (fun ls hl => ?_)
                    obtain ⟨z6957, e6958⟩ : ∃ y : Int32, y = x4_lp6872 + 1 := ⟨_, rfl⟩
                    try (have t6959 := tadd e6958 rfl (b := 1) (by decide) (by omega))
                    refine lv_iinc (v := z6957) (lv' := [(4, .int z6957), (3, .int r6880), (5, .int r6880), (2, .int r6871), (0, .ref (g 0)), (1, .int p0)]) hx hb dX12_isLess_134 hl (k := 2) rfl (by rw [e6958]; rfl) (by decide) rfl (fun ls hl => ?_)
                    refine lv_goto (tgt := 11) hx hb dX12_isLess_137 (by decide) ?_
                    exact ih_lp6872 z6957 r6880  _ _ _ (by omega) (by omega) (by omega) (by omega) hP hS (lv_sub hl [0, 1, 3, 4, 5] rfl)
                  · skip
                    have t6960 := cv_ne (a := z6952.toInt) rfl (b := 10) (by decide) c6955
                    refine lv_aload_n hx hb dX12_isLess_99 rfl (lv_at hl 4 rfl) ?_
                    refine va_get (D := (dC, dI)) (ci := 12) (v := .ref (g 19)) (C := RX12) (T := TX12) (N := 63) hx hb hwd inA_X12 hown hK hP 0 rfl rfl 24 (by decide) (hwd _ wk_200) (fun _ h9 => h9) rfl dX12_isLess_100 ?_
                    refine lv_iload hx hb dX12_isLess_103 (lv_at hl 0 rfl) ?_
                    refine va_iald hx hb hK hP 19 18 rfl rfl (i := r6880) (vin (a := r6880.toInt) rfl (by omega)) dX12_isLess_105 ?_
                    refine lv_topi (fun z6961 e6962 => ?_)
                    have tzz6961 : z6961.toInt = (F 19 (r6880 : Int32).toNatClampNeg).toInt := congrArg Int32.toInt e6962
                    refine lv_aload_n hx hb dX12_isLess_106 rfl (lv_at hl 4 rfl) ?_
                    refine lv_iload_n hx hb dX12_isLess_107 rfl (lv_at hl 2 rfl) ?_
                    refine va_calli (va_runV (As := [.int x3_lp6872]) (rest := [.int z6961]) ⟨hx, hb, hml, hown, hwd⟩ (c_X12_hoursEnd l dC dI g c adK adV v F rc H.size x3_lp6872 hg hI (by omega)) (cwV 1 hwd (gV wk_748 wk_745 wk_746 wk_747 wk_5) rfl rfl rfl (by decide +kernel) ⟨Nat.le_of_ble_eq_true rfl, Nat.le_of_ble_eq_true rfl⟩) ⟨PM.blind, va_recv hK hP (ci := 12) (q0 := 0) rfl rfl, fun U hU hW => ⟨rfl, PM.at hK hE hP hS hU hW⟩⟩ rfl rfl hl.1 rfl (lv_room (Nat.le_of_ble_eq_true rfl)) dX12_isLess_108 ⟨Nat.le_of_ble_eq_true rfl, Nat.le_of_ble_eq_true rfl⟩) hS (fun q _ h => (freeM hS) q h) (freeM hS) (fun r6963 u t H1 locs ht hvm hw hB hz1 hk1 hS => ?_)
                    unfold BM at hB
                    rw [ht] at hB
                    have hP : va_P (dC, dI) classes (wM g c v F rc) H1 := hB
                    clear hz1
                    generalize H1 = H at hP hS ⊢
                    have rr_r6963 := i32_rng r6963
                    refine lv_icmp_lt (tgt := 129) hx hb dX12_isLess_111 (by decide) (fun c6964 => ?_) (fun c6964 => ?_)
                    · skip
                      have t6965 := cv_lt (a := z6961.toInt) rfl (b := r6963.toInt) rfl c6964
                      refine lv_iconst (v := 1) hx hb dX12_isLess_129 (by decide) ?_
                      have hP9 : va_P (dC, dI) classes (wM g c v F rc) H := hP
                      exact W.zret (v := 1) hx hb hr (rfl) (fun t ht hW => ⟨⟨1, (), rfl, by have : (1 : Int32).toInt = 1 := (by decide); omega, (by show va_P _ _ _ t.heap; rw [ht]; exact hP9)⟩, hS.F ht⟩) hS.2.2 dX12_isLess_130
                    · skip
                      have t6966 := cv_nlt (a := z6961.toInt) rfl (b := r6963.toInt) rfl c6964
                      refine lv_aload_n hx hb dX12_isLess_114 rfl (lv_at hl 4 rfl) ?_
                      refine va_get (D := (dC, dI)) (ci := 12) (v := .ref (g 21)) (C := RX12) (T := TX12) (N := 63) hx hb hwd inA_X12 hown hK hP 0 rfl rfl 26 (by decide) (hwd _ wk_202) (fun _ h9 => h9) rfl dX12_isLess_115 ?_
                      refine lv_iload hx hb dX12_isLess_118 (lv_at hl 0 rfl) ?_
                      refine va_iald hx hb hK hP 21 20 rfl rfl (i := r6880) (vin (a := r6880.toInt) rfl (by omega)) dX12_isLess_120 ?_
                      refine lv_topi (fun z6967 e6968 => ?_)
                      have tzz6967 : z6967.toInt = (F 21 (r6880 : Int32).toNatClampNeg).toInt := congrArg Int32.toInt e6968
                      refine lv_aload_n hx hb dX12_isLess_121 rfl (lv_at hl 4 rfl) ?_
                      refine lv_iload_n hx hb dX12_isLess_122 rfl (lv_at hl 2 rfl) ?_
                      refine va_calli (va_runV (As := [.int x3_lp6872]) (rest := [.int z6967]) ⟨hx, hb, hml, hown, hwd⟩ (c_X12_landingsEnd l dC dI g c adK adV v F rc H.size x3_lp6872 hg hI (by omega)) (cwV 1 hwd (gV wk_752 wk_749 wk_750 wk_751 wk_5) rfl rfl rfl (by decide +kernel) ⟨Nat.le_of_ble_eq_true rfl, Nat.le_of_ble_eq_true rfl⟩) ⟨PM.blind, va_recv hK hP (ci := 12) (q0 := 0) rfl rfl, fun U hU hW => ⟨rfl, PM.at hK hE hP hS hU hW⟩⟩ rfl rfl hl.1 rfl (lv_room (Nat.le_of_ble_eq_true rfl)) dX12_isLess_123 ⟨Nat.le_of_ble_eq_true rfl, Nat.le_of_ble_eq_true rfl⟩) hS (fun q _ h => (freeM hS) q h) (freeM hS) (fun r6969 u t H1 locs ht hvm hw hB hz1 hk1 hS => ?_)
                      unfold BM at hB
                      rw [ht] at hB
                      have hP : va_P (dC, dI) classes (wM g c v F rc) H1 := hB
                      clear hz1
                      generalize H1 = H at hP hS ⊢
                      have rr_r6969 := i32_rng r6969
                      refine lv_icmp_ge (tgt := 131) hx hb dX12_isLess_126 (by decide) (fun c6970 => ?_) (fun c6970 => ?_)
                      · skip
                        have t6971 := cv_le (a := r6969.toInt) rfl (b := z6967.toInt) rfl c6970
                        refine lv_iload hx hb dX12_isLess_131 (lv_at hl 0 rfl) ?_
                        refine lv_istore_n (lv' := [(3, .int r6880), (5, .int r6880), (4, .int x4_lp6872), (2, .int r6871), (0, .ref (g 0)), (1, .int p0)]) hx hb dX12_isLess_133 rfl hl (by decide) rfl (fun ls hl => ?_)
                        obtain ⟨z6972, e6973⟩ : ∃ y : Int32, y = x4_lp6872 + 1 := ⟨_, rfl⟩
                        try (have t6974 := tadd e6973 rfl (b := 1) (by decide) (by omega))
                        refine lv_iinc (v := z6972) (lv' := [(4, .int z6972), (3, .int r6880), (5, .int r6880), (2, .int r6871), (0, .ref (g 0)), (1, .int p0)]) hx hb dX12_isLess_134 hl (k := 2) rfl (by rw [e6973]; rfl) (by decide) rfl (fun ls hl => ?_)
                        refine lv_goto (tgt := 11) hx hb dX12_isLess_137 (by decide) ?_
                        exact ih_lp6872 z6972 r6880  _ _ _ (by omega) (by omega) (by omega) (by omega) hP hS (lv_sub hl [0, 1, 3, 4, 5] rfl)
                      · skip
                        have t6975 := cv_nle (a := r6969.toInt) rfl (b := z6967.toInt) rfl c6970
                        refine lv_iconst (v := 1) hx hb dX12_isLess_129 (by decide) ?_
                        have hP9 : va_P (dC, dI) classes (wM g c v F rc) H := hP
                        exact W.zret (v := 1) hx hb hr (rfl) (fun t ht hW => ⟨⟨1, (), rfl, by have : (1 : Int32).toInt = 1 := (by decide); omega, (by show va_P _ _ _ t.heap; rw [ht]; exact hP9)⟩, hS.F ht⟩) hS.2.2 dX12_isLess_130
            · skip
              have t6976 := cv_nle (a := z6933.toInt) rfl (b := r6932.toInt) rfl c6935
              refine lv_iconst (v := 1) hx hb dX12_isLess_70 (by decide) ?_
              have hP9 : va_P (dC, dI) classes (wM g c v F rc) H := hP
              exact W.zret (v := 1) hx hb hr (rfl) (fun t ht hW => ⟨⟨1, (), rfl, by have : (1 : Int32).toInt = 1 := (by decide); omega, (by show va_P _ _ _ t.heap; rw [ht]; exact hP9)⟩, hS.F ht⟩) hS.2.2 dX12_isLess_71
  obtain ⟨n9, hn9⟩ : ∃ n : Nat, 2147483648 - 0 ≤ (n : Int) := ⟨((2147483648 - 0 : Int)).toNat, by omega⟩
  exact lp6872 n9 0 (-1)  H _ ls (by have : (0 : Int32).toInt = 0 := (by decide); have : ((-1) : Int32).toInt = (-1) := (by decide); omega) (by have : (0 : Int32).toInt = 0 := (by decide); have : ((-1) : Int32).toInt = (-1) := (by decide); omega) (by have : (0 : Int32).toInt = 0 := (by decide); have : ((-1) : Int32).toInt = (-1) := (by decide); omega) (by have : (0 : Int32).toInt = 0 := (by decide); have : ((-1) : Int32).toInt = (-1) := (by decide); omega) hP hS hl
set_option maxHeartbeats 8000000 in
set_option maxRecDepth 100000 in
theorem c_X12_cannot (l : Launch) (dC : Nat → ClassId) (dI : Nat → Nat → Nat) (g : Nat → Nat) (c : Nat → ClassId) (adK adV : Nat → Nat) (v : Nat → Int32) (F : Nat → Nat → Int32) (rc sz : Nat) (p0 : Int32) (hg : injM g) (hI : IM v F) (h0 : 0 ≤ p0.toInt ∧ p0.toInt ≤ 99) : Met l yX12_cannot (Cond.code yX12_cannot cX12_cannot 2 (some .int) :: wA) ({ frames := 4, cells := 0, slots := 0, locals := 160 }) (va_Pc [.ref (g 0), .int p0] (PM dC dI g c adK adV v F rc sz)) (va_Qi (fun (r : Int32) (u : Unit) => True) (fun (_ : Unit) => BM dC dI g c (v, F, rc)) (AM g sz)) 0 0 (AM g sz) := by
  refine Met.ofW (cc := cX12_cannot) (maxL := 2) (ret := (some .int)) (by decide) rfl ?_
  intro p e s m args below meth c0 s₁ B hml hv
  obtain ⟨rfl, hsz, hP, hK, hE⟩ := hv
  have hx := B.exec
  have hb := B.bytes
  have hr := B.returns
  have hts := atoms_spec (ws := Cond.code yX12_cannot cX12_cannot 2 (some .int) :: wA) B.pre
  have hwd : ∀ w ∈ wA, w.before _ s = true := fun w h => hts w (List.mem_cons_of_mem _ h)
  have hown : s.vm.findClass RX12 = some m.cls := findClass_of_methodNamed B.named
  have hlocks := B.notSynchronized
  subst hsz
  have hl := lv_entry ([.ref (g 0), .int p0]) (n := 2) (Nat.le_of_ble_eq_true rfl)
  rw [lg_entry_eq]
  generalize (lg_sl ([.ref (g 0), .int p0]) ++ List.replicate (2 - (lg_sl ([.ref (g 0), .int p0])).length) Slot.unset).toArray = ls at hl ⊢
  have hl : lv_has ls 2 [(0, .ref (g 0)), (1, .int p0)] := hl
  obtain ⟨H, eH⟩ : ∃ z, z = s.heap := ⟨_, rfl⟩
  have hP : va_P (dC, dI) classes (wM g c v F rc) H := by rw [eH]; exact hP
  have hS : va_S (AM g s.heap.size) s.heap H [] := by rw [eH]; exact va_S.rf
  refine my_heap eH ?_
  have rp0 := i32_rng p0
  refine lv_aload_n hx hb dX12_cannot_0 rfl (lv_at hl 0 rfl) ?_
  refine lv_iload_n hx hb dX12_cannot_1 rfl (lv_at hl 1 rfl) ?_
  refine va_calli (va_runV (As := [.int p0]) (rest := []) ⟨hx, hb, hml, hown, hwd⟩ (c_X12_areTwice l dC dI g c adK adV v F rc H.size p0 hg hI ) (cwV 1 hwd (gV wk_732 wk_729 wk_730 wk_731 wk_5) rfl rfl rfl (by decide +kernel) ⟨Nat.le_of_ble_eq_true rfl, Nat.le_of_ble_eq_true rfl⟩) ⟨PM.blind, va_recv hK hP (ci := 12) (q0 := 0) rfl rfl, fun U hU hW => ⟨rfl, PM.at hK hE hP hS hU hW⟩⟩ rfl rfl hl.1 rfl (lv_room (Nat.le_of_ble_eq_true rfl)) dX12_cannot_2 ⟨Nat.le_of_ble_eq_true rfl, Nat.le_of_ble_eq_true rfl⟩) hS (fun q _ h => (freeM hS) q h) (freeM hS) (fun r6977 u t H1 locs ht hvm hw hB hz1 hk1 hS => ?_)
  unfold BM at hB
  rw [ht] at hB
  have hP : va_P (dC, dI) classes (wM g c v F rc) H1 := hB
  have hw_r6977 : 0 ≤ r6977.toInt ∧ r6977.toInt ≤ 1 := hw
  clear hw
  clear hz1
  generalize H1 = H at hP hS ⊢
  refine lv_if_eq (tgt := 12) hx hb dX12_cannot_5 (by decide) (fun c6978 => ?_) (fun c6978 => ?_)
  · skip
    have t6979 := cv_eq (a := r6977.toInt) rfl (b := 0) (by decide) c6978
    refine lv_aload_n hx hb dX12_cannot_12 rfl (lv_at hl 0 rfl) ?_
    refine lv_iload_n hx hb dX12_cannot_13 rfl (lv_at hl 1 rfl) ?_
    refine va_calli (va_runV (As := [.int p0]) (rest := []) ⟨hx, hb, hml, hown, hwd⟩ (c_X12_isLess l dC dI g c adK adV v F rc H.size p0 hg hI ) (cwV 1 hwd (gV wk_740 wk_737 wk_738 wk_739 wk_5) rfl rfl rfl (by decide +kernel) ⟨Nat.le_of_ble_eq_true rfl, Nat.le_of_ble_eq_true rfl⟩) ⟨PM.blind, va_recv hK hP (ci := 12) (q0 := 0) rfl rfl, fun U hU hW => ⟨rfl, PM.at hK hE hP hS hU hW⟩⟩ rfl rfl hl.1 rfl (lv_room (Nat.le_of_ble_eq_true rfl)) dX12_cannot_14 ⟨Nat.le_of_ble_eq_true rfl, Nat.le_of_ble_eq_true rfl⟩) hS (fun q _ h => (freeM hS) q h) (freeM hS) (fun r6980 u t H1 locs ht hvm hw hB hz1 hk1 hS => ?_)
    unfold BM at hB
    rw [ht] at hB
    have hP : va_P (dC, dI) classes (wM g c v F rc) H1 := hB
    have hw_r6980 : 0 ≤ r6980.toInt ∧ r6980.toInt ≤ 1 := hw
    clear hw
    clear hz1
    generalize H1 = H at hP hS ⊢
    refine lv_if_eq (tgt := 24) hx hb dX12_cannot_17 (by decide) (fun c6981 => ?_) (fun c6981 => ?_)
    · skip
      have t6982 := cv_eq (a := r6980.toInt) rfl (b := 0) (by decide) c6981
      refine lv_aload_n hx hb dX12_cannot_24 rfl (lv_at hl 0 rfl) ?_
      refine lv_iload_n hx hb dX12_cannot_25 rfl (lv_at hl 1 rfl) ?_
      refine va_calli (va_runV (As := [.int p0]) (rest := []) ⟨hx, hb, hml, hown, hwd⟩ (c_X12_isDouble l dC dI g c adK adV v F rc H.size p0 hg hI (by omega)) (cwV 1 hwd (gV wk_756 wk_753 wk_754 wk_755 wk_5) rfl rfl rfl (by decide +kernel) ⟨Nat.le_of_ble_eq_true rfl, Nat.le_of_ble_eq_true rfl⟩) ⟨PM.blind, va_recv hK hP (ci := 12) (q0 := 0) rfl rfl, fun U hU hW => ⟨rfl, PM.at hK hE hP hS hU hW⟩⟩ rfl rfl hl.1 rfl (lv_room (Nat.le_of_ble_eq_true rfl)) dX12_cannot_26 ⟨Nat.le_of_ble_eq_true rfl, Nat.le_of_ble_eq_true rfl⟩) hS (fun q _ h => (freeM hS) q h) (freeM hS) (fun r6983 u t H1 locs ht hvm hw hB hz1 hk1 hS => ?_)
      unfold BM at hB
      rw [ht] at hB
      have hP : va_P (dC, dI) classes (wM g c v F rc) H1 := hB
      have hw_r6983 : 0 ≤ r6983.toInt ∧ r6983.toInt ≤ 1 := hw
      clear hw
      clear hz1
      generalize H1 = H at hP hS ⊢
      refine lv_if_eq (tgt := 36) hx hb dX12_cannot_29 (by decide) (fun c6984 => ?_) (fun c6984 => ?_)
      · skip
        have t6985 := cv_eq (a := r6983.toInt) rfl (b := 0) (by decide) c6984
        refine lv_iconst (v := 0) hx hb dX12_cannot_36 (by decide) ?_
        have hP9 : va_P (dC, dI) classes (wM g c v F rc) H := hP
        exact W.iret (v := 0) hx hb hr (fun t ht hW => ⟨⟨0, (), rfl, trivial, (by show va_P _ _ _ t.heap; rw [ht]; exact hP9)⟩, hS.F ht⟩) hS.2.2 dX12_cannot_37
      · skip
        have t6986 := cv_ne (a := r6983.toInt) rfl (b := 0) (by decide) c6984
        refine lv_iconst (v := 3) hx hb dX12_cannot_32 (by decide) ?_
        refine lv_goto (tgt := 37) hx hb dX12_cannot_33 (by decide) ?_
        have hP9 : va_P (dC, dI) classes (wM g c v F rc) H := hP
        exact W.iret (v := 3) hx hb hr (fun t ht hW => ⟨⟨3, (), rfl, trivial, (by show va_P _ _ _ t.heap; rw [ht]; exact hP9)⟩, hS.F ht⟩) hS.2.2 dX12_cannot_37
    · skip
      have t6987 := cv_ne (a := r6980.toInt) rfl (b := 0) (by decide) c6981
      refine lv_iconst (v := 2) hx hb dX12_cannot_20 (by decide) ?_
      refine lv_goto (tgt := 37) hx hb dX12_cannot_21 (by decide) ?_
      have hP9 : va_P (dC, dI) classes (wM g c v F rc) H := hP
      exact W.iret (v := 2) hx hb hr (fun t ht hW => ⟨⟨2, (), rfl, trivial, (by show va_P _ _ _ t.heap; rw [ht]; exact hP9)⟩, hS.F ht⟩) hS.2.2 dX12_cannot_37
  · skip
    have t6988 := cv_ne (a := r6977.toInt) rfl (b := 0) (by decide) c6978
    refine lv_iconst (v := 1) hx hb dX12_cannot_8 (by decide) ?_
    refine lv_goto (tgt := 37) hx hb dX12_cannot_9 (by decide) ?_
    have hP9 : va_P (dC, dI) classes (wM g c v F rc) H := hP
    exact W.iret (v := 1) hx hb hr (fun t ht hW => ⟨⟨1, (), rfl, trivial, (by show va_P _ _ _ t.heap; rw [ht]; exact hP9)⟩, hS.F ht⟩) hS.2.2 dX12_cannot_37
set_option maxHeartbeats 8000000 in
set_option maxRecDepth 100000 in
theorem c_X12_ofPart (l : Launch) (dC : Nat → ClassId) (dI : Nat → Nat → Nat) (g : Nat → Nat) (c : Nat → ClassId) (adK adV : Nat → Nat) (v : Nat → Int32) (F : Nat → Nat → Int32) (rc sz : Nat) (p0 : Int32) (p1 : Int32) (hg : injM g) (hI : IM v F) : Met l yX12_ofPart (Cond.code yX12_ofPart cX12_ofPart 3 (some .int) :: wA) ({ frames := 5, cells := 0, slots := 0, locals := 200 }) (va_Pc [.ref (g 0), .int p0, .int p1] (PM dC dI g c adK adV v F rc sz)) (va_Qi (fun (r : Int32) (u : Unit) => True) (fun (_ : Unit) => BM dC dI g c (v, F, rc)) (AM g sz)) 0 0 (AM g sz) := by
  refine Met.ofW (cc := cX12_ofPart) (maxL := 3) (ret := (some .int)) (by decide) rfl ?_
  intro p e s m args below meth c0 s₁ B hml hv
  obtain ⟨rfl, hsz, hP, hK, hE⟩ := hv
  have hx := B.exec
  have hb := B.bytes
  have hr := B.returns
  have hts := atoms_spec (ws := Cond.code yX12_ofPart cX12_ofPart 3 (some .int) :: wA) B.pre
  have hwd : ∀ w ∈ wA, w.before _ s = true := fun w h => hts w (List.mem_cons_of_mem _ h)
  have hown : s.vm.findClass RX12 = some m.cls := findClass_of_methodNamed B.named
  have hlocks := B.notSynchronized
  subst hsz
  have hl := lv_entry ([.ref (g 0), .int p0, .int p1]) (n := 3) (Nat.le_of_ble_eq_true rfl)
  rw [lg_entry_eq]
  generalize (lg_sl ([.ref (g 0), .int p0, .int p1]) ++ List.replicate (3 - (lg_sl ([.ref (g 0), .int p0, .int p1])).length) Slot.unset).toArray = ls at hl ⊢
  have hl : lv_has ls 3 [(0, .ref (g 0)), (1, .int p0), (2, .int p1)] := hl
  obtain ⟨H, eH⟩ : ∃ z, z = s.heap := ⟨_, rfl⟩
  have hP : va_P (dC, dI) classes (wM g c v F rc) H := by rw [eH]; exact hP
  have hS : va_S (AM g s.heap.size) s.heap H [] := by rw [eH]; exact va_S.rf
  refine my_heap eH ?_
  have rp0 := i32_rng p0
  have rp1 := i32_rng p1
  refine lv_aload_n hx hb dX12_ofPart_0 rfl (lv_at hl 0 rfl) ?_
  refine lv_iload_n hx hb dX12_ofPart_1 rfl (lv_at hl 1 rfl) ?_
  have t6989 : 0 ≤ (v 14).toInt ∧ (v 14).toInt ≤ 100 := hI.1 14 _ _ rfl
  refine va_calli (va_runV (As := [.int p0]) (rest := []) ⟨hx, hb, hml, hown, hwd⟩ (c_X12_isPart l dC dI g c adK adV v F rc H.size p0 hg hI ) (cwV 1 hwd (gV wk_631 wk_628 wk_629 wk_630 wk_5) rfl rfl rfl (by decide +kernel) ⟨Nat.le_of_ble_eq_true rfl, Nat.le_of_ble_eq_true rfl⟩) ⟨PM.blind, va_recv hK hP (ci := 12) (q0 := 0) rfl rfl, fun U hU hW => ⟨rfl, PM.at hK hE hP hS hU hW⟩⟩ rfl rfl hl.1 rfl (lv_room (Nat.le_of_ble_eq_true rfl)) dX12_ofPart_2 ⟨Nat.le_of_ble_eq_true rfl, Nat.le_of_ble_eq_true rfl⟩) hS (fun q _ h => (freeM hS) q h) (freeM hS) (fun r6990 u t H1 locs ht hvm hw hB hz1 hk1 hS => ?_)
  unfold BM at hB
  rw [ht] at hB
  have hP : va_P (dC, dI) classes (wM g c v F rc) H1 := hB
  replace hw : (r6990.toInt = 1 ∧ 0 ≤ p0.toInt ∧ p0.toInt < (v 14).toInt) ∨ (r6990.toInt = 0 ∧ (p0.toInt < 0 ∨ (v 14).toInt ≤ p0.toInt)) := hw
  have hw_r6990 := hw
  clear hw
  clear hz1
  generalize H1 = H at hP hS ⊢
  refine lv_if_ne (tgt := 11) hx hb dX12_ofPart_5 (by decide) (fun c6991 => ?_) (fun c6991 => ?_)
  · skip
    have t6992 := cv_ne (a := r6990.toInt) rfl (b := 0) (by decide) c6991
    refine lv_iload_n hx hb dX12_ofPart_11 rfl (lv_at hl 2 rfl) ?_
    by_cases hlo6993 : p1.toInt < 0
    · refine lv_tableOut (tgt := 134) hx hb dX12_ofPart_12 (Or.inl hlo6993) (by decide) ?_
      refine lv_ldc (v := (-2000000000)) hx hb hown (hwd _ wk_542) dX12_ofPart_134 ?_
      have hP9 : va_P (dC, dI) classes (wM g c v F rc) H := hP
      exact W.iret (v := (-2000000000)) hx hb hr (fun t ht hW => ⟨⟨(-2000000000), (), rfl, trivial, (by show va_P _ _ _ t.heap; rw [ht]; exact hP9)⟩, hS.F ht⟩) hS.2.2 dX12_ofPart_136
    by_cases hhi6994 : 8 < p1.toInt
    · refine lv_tableOut (tgt := 134) hx hb dX12_ofPart_12 (Or.inr hhi6994) (by decide) ?_
      refine lv_ldc (v := (-2000000000)) hx hb hown (hwd _ wk_542) dX12_ofPart_134 ?_
      have hP9 : va_P (dC, dI) classes (wM g c v F rc) H := hP
      exact W.iret (v := (-2000000000)) hx hb hr (fun t ht hW => ⟨⟨(-2000000000), (), rfl, trivial, (by show va_P _ _ _ t.heap; rw [ht]; exact hP9)⟩, hS.F ht⟩) hS.2.2 dX12_ofPart_136
    rcases (show p1.toInt = 0 ∨ p1.toInt = 1 ∨ p1.toInt = 2 ∨ p1.toInt = 3 ∨ p1.toInt = 4 ∨ p1.toInt = 5 ∨ p1.toInt = 6 ∨ p1.toInt = 7 ∨ p1.toInt = 8 by omega) with hk | hk | hk | hk | hk | hk | hk | hk | hk
    · refine lv_tableIn (off := 52) (tgt := 64) hx hb dX12_ofPart_12 hlo6993 hhi6994 (by rw [hk]; decide) (by decide) ?_
      refine lv_aload_n hx hb dX12_ofPart_64 rfl (lv_at hl 0 rfl) ?_
      refine va_get (D := (dC, dI)) (ci := 12) (v := .ref (g 11)) (C := RX12) (T := TX12) (N := 63) hx hb hwd inA_X12 hown hK hP 0 rfl rfl 15 (by decide) (hwd _ wk_192) (fun _ h9 => h9) rfl dX12_ofPart_65 ?_
      refine lv_iload_n hx hb dX12_ofPart_68 rfl (lv_at hl 1 rfl) ?_
      refine va_iald hx hb hK hP 11 10 rfl rfl (i := p0) (vin (a := p0.toInt) rfl (by omega)) dX12_ofPart_69 ?_
      refine lv_topi (fun z6995 e6996 => ?_)
      have t6997 : 0 ≤ z6995.toInt ∧ z6995.toInt ≤ 9 := by rw [e6996]; exact hI.2 11 _ _ rfl _
      have hP9 : va_P (dC, dI) classes (wM g c v F rc) H := hP
      exact W.iret (v := z6995) hx hb hr (fun t ht hW => ⟨⟨z6995, (), rfl, trivial, (by show va_P _ _ _ t.heap; rw [ht]; exact hP9)⟩, hS.F ht⟩) hS.2.2 dX12_ofPart_70
    · refine lv_tableIn (off := 59) (tgt := 71) hx hb dX12_ofPart_12 hlo6993 hhi6994 (by rw [hk]; decide) (by decide) ?_
      refine lv_aload_n hx hb dX12_ofPart_71 rfl (lv_at hl 0 rfl) ?_
      refine va_get (D := (dC, dI)) (ci := 12) (v := .ref (g 12)) (C := RX12) (T := TX12) (N := 63) hx hb hwd inA_X12 hown hK hP 0 rfl rfl 16 (by decide) (hwd _ wk_193) (fun _ h9 => h9) rfl dX12_ofPart_72 ?_
      refine lv_iload_n hx hb dX12_ofPart_75 rfl (lv_at hl 1 rfl) ?_
      refine va_iald hx hb hK hP 12 11 rfl rfl (i := p0) (vin (a := p0.toInt) rfl (by omega)) dX12_ofPart_76 ?_
      refine lv_topi (fun z6998 e6999 => ?_)
      have hP9 : va_P (dC, dI) classes (wM g c v F rc) H := hP
      exact W.iret (v := z6998) hx hb hr (fun t ht hW => ⟨⟨z6998, (), rfl, trivial, (by show va_P _ _ _ t.heap; rw [ht]; exact hP9)⟩, hS.F ht⟩) hS.2.2 dX12_ofPart_77
    · refine lv_tableIn (off := 66) (tgt := 78) hx hb dX12_ofPart_12 hlo6993 hhi6994 (by rw [hk]; decide) (by decide) ?_
      refine lv_aload_n hx hb dX12_ofPart_78 rfl (lv_at hl 0 rfl) ?_
      refine va_get (D := (dC, dI)) (ci := 12) (v := .ref (g 13)) (C := RX12) (T := TX12) (N := 63) hx hb hwd inA_X12 hown hK hP 0 rfl rfl 17 (by decide) (hwd _ wk_194) (fun _ h9 => h9) rfl dX12_ofPart_79 ?_
      refine lv_iload_n hx hb dX12_ofPart_82 rfl (lv_at hl 1 rfl) ?_
      refine va_iald hx hb hK hP 13 12 rfl rfl (i := p0) (vin (a := p0.toInt) rfl (by omega)) dX12_ofPart_83 ?_
      refine lv_topi (fun z7000 e7001 => ?_)
      have t7002 : 0 ≤ z7000.toInt ∧ z7000.toInt ≤ 12 := by rw [e7001]; exact hI.2 13 _ _ rfl _
      have hP9 : va_P (dC, dI) classes (wM g c v F rc) H := hP
      exact W.iret (v := z7000) hx hb hr (fun t ht hW => ⟨⟨z7000, (), rfl, trivial, (by show va_P _ _ _ t.heap; rw [ht]; exact hP9)⟩, hS.F ht⟩) hS.2.2 dX12_ofPart_84
    · refine lv_tableIn (off := 73) (tgt := 85) hx hb dX12_ofPart_12 hlo6993 hhi6994 (by rw [hk]; decide) (by decide) ?_
      refine lv_aload_n hx hb dX12_ofPart_85 rfl (lv_at hl 0 rfl) ?_
      refine va_get (D := (dC, dI)) (ci := 12) (v := .ref (g 14)) (C := RX12) (T := TX12) (N := 63) hx hb hwd inA_X12 hown hK hP 0 rfl rfl 18 (by decide) (hwd _ wk_195) (fun _ h9 => h9) rfl dX12_ofPart_86 ?_
      refine lv_iconst (v := 3) hx hb dX12_ofPart_89 (by decide) ?_
      refine lv_iload_n hx hb dX12_ofPart_90 rfl (lv_at hl 1 rfl) ?_
      refine lv_imul hx hb dX12_ofPart_91 ?_
      refine lv_topi (fun z7003 e7004 => ?_)
      try (have t7005 := tmul e7004 (a := 3) (by decide) (b := p0.toInt) rfl (by omega))
      refine va_iald hx hb hK hP 14 13 rfl rfl (i := z7003) (vin (a := z7003.toInt) rfl (by omega)) dX12_ofPart_92 ?_
      refine lv_topi (fun z7006 e7007 => ?_)
      have hP9 : va_P (dC, dI) classes (wM g c v F rc) H := hP
      exact W.iret (v := z7006) hx hb hr (fun t ht hW => ⟨⟨z7006, (), rfl, trivial, (by show va_P _ _ _ t.heap; rw [ht]; exact hP9)⟩, hS.F ht⟩) hS.2.2 dX12_ofPart_93
    · refine lv_tableIn (off := 82) (tgt := 94) hx hb dX12_ofPart_12 hlo6993 hhi6994 (by rw [hk]; decide) (by decide) ?_
      refine lv_aload_n hx hb dX12_ofPart_94 rfl (lv_at hl 0 rfl) ?_
      refine va_get (D := (dC, dI)) (ci := 12) (v := .ref (g 14)) (C := RX12) (T := TX12) (N := 63) hx hb hwd inA_X12 hown hK hP 0 rfl rfl 18 (by decide) (hwd _ wk_195) (fun _ h9 => h9) rfl dX12_ofPart_95 ?_
      refine lv_iconst (v := 3) hx hb dX12_ofPart_98 (by decide) ?_
      refine lv_iload_n hx hb dX12_ofPart_99 rfl (lv_at hl 1 rfl) ?_
      refine lv_imul hx hb dX12_ofPart_100 ?_
      refine lv_topi (fun z7008 e7009 => ?_)
      try (have t7010 := tmul e7009 (a := 3) (by decide) (b := p0.toInt) rfl (by omega))
      refine lv_iconst (v := 1) hx hb dX12_ofPart_101 (by decide) ?_
      refine lv_iadd hx hb dX12_ofPart_102 ?_
      refine lv_topi (fun z7011 e7012 => ?_)
      try (have t7013 := tadd e7012 (a := z7008.toInt) rfl (b := 1) (by decide) (by omega))
      refine va_iald hx hb hK hP 14 13 rfl rfl (i := z7011) (vin (a := z7011.toInt) rfl (by omega)) dX12_ofPart_103 ?_
      refine lv_topi (fun z7014 e7015 => ?_)
      have hP9 : va_P (dC, dI) classes (wM g c v F rc) H := hP
      exact W.iret (v := z7014) hx hb hr (fun t ht hW => ⟨⟨z7014, (), rfl, trivial, (by show va_P _ _ _ t.heap; rw [ht]; exact hP9)⟩, hS.F ht⟩) hS.2.2 dX12_ofPart_104
    · refine lv_tableIn (off := 93) (tgt := 105) hx hb dX12_ofPart_12 hlo6993 hhi6994 (by rw [hk]; decide) (by decide) ?_
      refine lv_aload_n hx hb dX12_ofPart_105 rfl (lv_at hl 0 rfl) ?_
      refine va_get (D := (dC, dI)) (ci := 12) (v := .ref (g 14)) (C := RX12) (T := TX12) (N := 63) hx hb hwd inA_X12 hown hK hP 0 rfl rfl 18 (by decide) (hwd _ wk_195) (fun _ h9 => h9) rfl dX12_ofPart_106 ?_
      refine lv_iconst (v := 3) hx hb dX12_ofPart_109 (by decide) ?_
      refine lv_iload_n hx hb dX12_ofPart_110 rfl (lv_at hl 1 rfl) ?_
      refine lv_imul hx hb dX12_ofPart_111 ?_
      refine lv_topi (fun z7016 e7017 => ?_)
      try (have t7018 := tmul e7017 (a := 3) (by decide) (b := p0.toInt) rfl (by omega))
      refine lv_iconst (v := 2) hx hb dX12_ofPart_112 (by decide) ?_
      refine lv_iadd hx hb dX12_ofPart_113 ?_
      refine lv_topi (fun z7019 e7020 => ?_)
      try (have t7021 := tadd e7020 (a := z7016.toInt) rfl (b := 2) (by decide) (by omega))
      refine va_iald hx hb hK hP 14 13 rfl rfl (i := z7019) (vin (a := z7019.toInt) rfl (by omega)) dX12_ofPart_114 ?_
      refine lv_topi (fun z7022 e7023 => ?_)
      have hP9 : va_P (dC, dI) classes (wM g c v F rc) H := hP
      exact W.iret (v := z7022) hx hb hr (fun t ht hW => ⟨⟨z7022, (), rfl, trivial, (by show va_P _ _ _ t.heap; rw [ht]; exact hP9)⟩, hS.F ht⟩) hS.2.2 dX12_ofPart_115
    · refine lv_tableIn (off := 104) (tgt := 116) hx hb dX12_ofPart_12 hlo6993 hhi6994 (by rw [hk]; decide) (by decide) ?_
      refine lv_aload_n hx hb dX12_ofPart_116 rfl (lv_at hl 0 rfl) ?_
      refine lv_iload_n hx hb dX12_ofPart_117 rfl (lv_at hl 1 rfl) ?_
      have t7024 : 0 ≤ (v 19).toInt ∧ (v 19).toInt ≤ 500 := hI.1 19 _ _ rfl
      refine va_calli (va_runV (As := [.int p0]) (rest := []) ⟨hx, hb, hml, hown, hwd⟩ (c_X12_staysOf l dC dI g c adK adV v F rc H.size p0 hg hI ) (cwV 1 hwd (gV wk_720 wk_717 wk_718 wk_719 wk_5) rfl rfl rfl (by decide +kernel) ⟨Nat.le_of_ble_eq_true rfl, Nat.le_of_ble_eq_true rfl⟩) ⟨PM.blind, va_recv hK hP (ci := 12) (q0 := 0) rfl rfl, fun U hU hW => ⟨rfl, PM.at hK hE hP hS hU hW⟩⟩ rfl rfl hl.1 rfl (lv_room (Nat.le_of_ble_eq_true rfl)) dX12_ofPart_118 ⟨Nat.le_of_ble_eq_true rfl, Nat.le_of_ble_eq_true rfl⟩) hS (fun q _ h => (freeM hS) q h) (freeM hS) (fun r7025 u t H1 locs ht hvm hw hB hz1 hk1 hS => ?_)
      unfold BM at hB
      rw [ht] at hB
      have hP : va_P (dC, dI) classes (wM g c v F rc) H1 := hB
      replace hw : r7025.toInt = (cnt (stP (F 15) p0.toInt) (v 19).toNatClampNeg : Int) := hw
      have hw_r7025 := hw
      clear hw
      clear hz1
      generalize H1 = H at hP hS ⊢
      have rr_r7025 := i32_rng r7025
      have hP9 : va_P (dC, dI) classes (wM g c v F rc) H := hP
      exact W.iret (v := r7025) hx hb hr (fun t ht hW => ⟨⟨r7025, (), rfl, trivial, (by show va_P _ _ _ t.heap; rw [ht]; exact hP9)⟩, hS.F ht⟩) hS.2.2 dX12_ofPart_121
    · refine lv_tableIn (off := 110) (tgt := 122) hx hb dX12_ofPart_12 hlo6993 hhi6994 (by rw [hk]; decide) (by decide) ?_
      refine lv_aload_n hx hb dX12_ofPart_122 rfl (lv_at hl 0 rfl) ?_
      refine lv_iload_n hx hb dX12_ofPart_123 rfl (lv_at hl 1 rfl) ?_
      refine va_calli (va_runV (As := [.int p0]) (rest := []) ⟨hx, hb, hml, hown, hwd⟩ (c_X12_gapsOf l dC dI g c adK adV v F rc H.size p0 hg hI ) (cwV 1 hwd (gV wk_724 wk_721 wk_722 wk_723 wk_5) rfl rfl rfl (by decide +kernel) ⟨Nat.le_of_ble_eq_true rfl, Nat.le_of_ble_eq_true rfl⟩) ⟨PM.blind, va_recv hK hP (ci := 12) (q0 := 0) rfl rfl, fun U hU hW => ⟨rfl, PM.at hK hE hP hS hU hW⟩⟩ rfl rfl hl.1 rfl (lv_room (Nat.le_of_ble_eq_true rfl)) dX12_ofPart_124 ⟨Nat.le_of_ble_eq_true rfl, Nat.le_of_ble_eq_true rfl⟩) hS (fun q _ h => (freeM hS) q h) (freeM hS) (fun r7026 u t H1 locs ht hvm hw hB hz1 hk1 hS => ?_)
      unfold BM at hB
      rw [ht] at hB
      have hP : va_P (dC, dI) classes (wM g c v F rc) H1 := hB
      clear hz1
      generalize H1 = H at hP hS ⊢
      have rr_r7026 := i32_rng r7026
      have hP9 : va_P (dC, dI) classes (wM g c v F rc) H := hP
      exact W.iret (v := r7026) hx hb hr (fun t ht hW => ⟨⟨r7026, (), rfl, trivial, (by show va_P _ _ _ t.heap; rw [ht]; exact hP9)⟩, hS.F ht⟩) hS.2.2 dX12_ofPart_127
    · refine lv_tableIn (off := 116) (tgt := 128) hx hb dX12_ofPart_12 hlo6993 hhi6994 (by rw [hk]; decide) (by decide) ?_
      refine lv_aload_n hx hb dX12_ofPart_128 rfl (lv_at hl 0 rfl) ?_
      refine lv_iload_n hx hb dX12_ofPart_129 rfl (lv_at hl 1 rfl) ?_
      refine va_calli (va_runV (As := [.int p0]) (rest := []) ⟨hx, hb, hml, hown, hwd⟩ (c_X12_cannot l dC dI g c adK adV v F rc H.size p0 hg hI (by omega)) (cwV 1 hwd (gV wk_728 wk_725 wk_726 wk_727 wk_5) rfl rfl rfl (by decide +kernel) ⟨Nat.le_of_ble_eq_true rfl, Nat.le_of_ble_eq_true rfl⟩) ⟨PM.blind, va_recv hK hP (ci := 12) (q0 := 0) rfl rfl, fun U hU hW => ⟨rfl, PM.at hK hE hP hS hU hW⟩⟩ rfl rfl hl.1 rfl (lv_room (Nat.le_of_ble_eq_true rfl)) dX12_ofPart_130 ⟨Nat.le_of_ble_eq_true rfl, Nat.le_of_ble_eq_true rfl⟩) hS (fun q _ h => (freeM hS) q h) (freeM hS) (fun r7027 u t H1 locs ht hvm hw hB hz1 hk1 hS => ?_)
      unfold BM at hB
      rw [ht] at hB
      have hP : va_P (dC, dI) classes (wM g c v F rc) H1 := hB
      clear hz1
      generalize H1 = H at hP hS ⊢
      have rr_r7027 := i32_rng r7027
      have hP9 : va_P (dC, dI) classes (wM g c v F rc) H := hP
      exact W.iret (v := r7027) hx hb hr (fun t ht hW => ⟨⟨r7027, (), rfl, trivial, (by show va_P _ _ _ t.heap; rw [ht]; exact hP9)⟩, hS.F ht⟩) hS.2.2 dX12_ofPart_133
  · skip
    have t7028 := cv_eq (a := r6990.toInt) rfl (b := 0) (by decide) c6991
    refine lv_ldc (v := (-2000000000)) hx hb hown (hwd _ wk_542) dX12_ofPart_8 ?_
    have hP9 : va_P (dC, dI) classes (wM g c v F rc) H := hP
    exact W.iret (v := (-2000000000)) hx hb hr (fun t ht hW => ⟨⟨(-2000000000), (), rfl, trivial, (by show va_P _ _ _ t.heap; rw [ht]; exact hP9)⟩, hS.F ht⟩) hS.2.2 dX12_ofPart_10
