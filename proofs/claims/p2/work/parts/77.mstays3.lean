set_option maxHeartbeats 8000000 in
set_option maxRecDepth 100000 in
theorem c_X12_staysOf (l : Launch) (dC : Nat → ClassId) (dI : Nat → Nat → Nat) (g : Nat → Nat) (c : Nat → ClassId) (adK adV : Nat → Nat) (v : Nat → Int32) (F : Nat → Nat → Int32) (rc sz : Nat) (p0 : Int32) (hg : injM g) (hI : IM v F) : Met l yX12_staysOf (Cond.code yX12_staysOf cX12_staysOf 4 (some .int) :: wA) ({ frames := 1, cells := 0, slots := 0, locals := 40 }) (va_Pc [.ref (g 0), .int p0] (PM dC dI g c adK adV v F rc sz)) (va_Qi (fun (r : Int32) (u : Unit) => r.toInt = (cnt (stP (F 15) p0.toInt) (v 19).toNatClampNeg : Int)) (fun (_ : Unit) => BM dC dI g c (v, F, rc)) (AM g sz)) 0 0 (AM g sz) := by
  refine Met.ofW (cc := cX12_staysOf) (maxL := 4) (ret := (some .int)) (by decide) rfl ?_
  intro p e s m args below meth c0 s₁ B hml hv
  obtain ⟨rfl, hsz, hP, hK, hE⟩ := hv
  have hx := B.exec
  have hb := B.bytes
  have hr := B.returns
  have hts := atoms_spec (ws := Cond.code yX12_staysOf cX12_staysOf 4 (some .int) :: wA) B.pre
  have hwd : ∀ w ∈ wA, w.before _ s = true := fun w h => hts w (List.mem_cons_of_mem _ h)
  have hown : s.vm.findClass RX12 = some m.cls := findClass_of_methodNamed B.named
  have hlocks := B.notSynchronized
  subst hsz
  have hl := lv_entry ([.ref (g 0), .int p0]) (n := 4) (Nat.le_of_ble_eq_true rfl)
  rw [lg_entry_eq]
  generalize (lg_sl ([.ref (g 0), .int p0]) ++ List.replicate (4 - (lg_sl ([.ref (g 0), .int p0])).length) Slot.unset).toArray = ls at hl ⊢
  have hl : lv_has ls 4 [(0, .ref (g 0)), (1, .int p0)] := hl
  obtain ⟨H, eH⟩ : ∃ z, z = s.heap := ⟨_, rfl⟩
  have hP : va_P (dC, dI) classes (wM g c v F rc) H := by rw [eH]; exact hP
  have hS : va_S (AM g s.heap.size) s.heap H [] := by rw [eH]; exact va_S.rf
  refine my_heap eH ?_
  have rp0 := i32_rng p0
  have hb19 : 0 ≤ (v 19).toInt ∧ (v 19).toInt ≤ 500 := hI.1 19 _ _ rfl
  refine lv_iconst (v := 0) hx hb dX12_staysOf_0 (by decide) ?_
  refine lv_istore_n (lv' := [(2, .int 0), (0, .ref (g 0)), (1, .int p0)]) hx hb dX12_staysOf_1 rfl hl (by decide) rfl (fun ls hl => ?_)
  refine lv_iconst (v := 0) hx hb dX12_staysOf_2 (by decide) ?_
  refine lv_istore_n (lv' := [(3, .int 0), (2, .int 0), (0, .ref (g 0)), (1, .int p0)]) hx hb dX12_staysOf_3 rfl hl (by decide) rfl (fun ls hl => ?_)
  have lp9020 : ∀ (n : Nat) (x3_lp9020 : Int32) (x2_lp9020 : Int32) (H : Heap) (locs : List Loc) (ls : Array Slot), (0 ≤ x3_lp9020.toInt) → (x3_lp9020.toInt ≤ (v 19).toInt) → (0 ≤ x2_lp9020.toInt ∧ x2_lp9020.toInt ≤ x3_lp9020.toInt) → (x2_lp9020.toInt = (cnt (stP (F 15) p0.toInt) x3_lp9020.toNatClampNeg : Int)) → (2147483648 - x3_lp9020.toInt ≤ (n : Int)) → va_P (dC, dI) classes (wM g c v F rc) H → va_S (AM g s.heap.size) s.heap H locs → lv_has ls 4 [(3, .int x3_lp9020), (2, .int x2_lp9020), (0, .ref (g 0)), (1, .int p0)] → W p l e (headSpec (Cond.code yX12_staysOf cX12_staysOf 4 (some .int) :: wA) ({ frames := 1, cells := 0, slots := 0, locals := 40 })).room s m ([.ref (g 0), .int p0] : List Value).toArray below meth c0 H locs 0 0 (MQ below (va_Qi (fun (r : Int32) (u : Unit) => r.toInt = (cnt (stP (F 15) p0.toInt) (v 19).toNatClampNeg : Int)) (fun (_ : Unit) => BM dC dI g c (v, F, rc)) (AM g s.heap.size)) ([.ref (g 0), .int p0] : List Value).toArray s 0 0 (AM g s.heap.size)) (F0 m 4 ls []) := by
    intro n
    induction n with
    | zero =>
      intro x3_lp9020 x2_lp9020 H locs ls t9021 t9022 t9023 t9024 hm hP hS hl
      exfalso
      have := i32_rng x3_lp9020
      have := i32_rng x2_lp9020
      omega
    | succ n ih_lp9020 =>
      intro x3_lp9020 x2_lp9020 H locs ls t9021 t9022 t9023 t9024 hm hP hS hl
      have rx3_lp9020 := i32_rng x3_lp9020
      have rx2_lp9020 := i32_rng x2_lp9020
      refine lv_iload_n hx hb dX12_staysOf_4 rfl (lv_at hl 0 rfl) ?_
      refine lv_aload_n hx hb dX12_staysOf_5 rfl (lv_at hl 2 rfl) ?_
      refine va_get (D := (dC, dI)) (ci := 12) (v := .int (v 19)) (C := RX12) (T := TX12) (N := 63) hx hb hwd inA_X12 hown hK hP 0 rfl rfl 19 (by decide) (hwd _ wk_494) (fun _ h9 => h9) rfl dX12_staysOf_6 ?_
      have t9025 : 0 ≤ (v 19).toInt ∧ (v 19).toInt ≤ 500 := hI.1 19 _ _ rfl
      refine lv_icmp_ge (tgt := 36) hx hb dX12_staysOf_9 (by decide) (fun c9026 => ?_) (fun c9026 => ?_)
      · skip
        have t9027 := cv_le (a := (v 19).toInt) rfl (b := x3_lp9020.toInt) rfl c9026
        refine lv_iload_n hx hb dX12_staysOf_36 rfl (lv_at hl 1 rfl) ?_
        have hP9 : va_P (dC, dI) classes (wM g c v F rc) H := hP
        exact W.iret (v := x2_lp9020) hx hb hr (fun t ht hW => ⟨⟨x2_lp9020, (), rfl, (by have e9 := t9024; rw [ncl_eq (show x3_lp9020.toInt = (v 19).toInt by omega)] at e9; exact e9), (by show va_P _ _ _ t.heap; rw [ht]; exact hP9)⟩, hS.F ht⟩) hS.2.2 dX12_staysOf_37
      · skip
        have t9028 := cv_nle (a := (v 19).toInt) rfl (b := x3_lp9020.toInt) rfl c9026
        refine lv_iload_n hx hb dX12_staysOf_12 rfl (lv_at hl 1 rfl) ?_
        refine lv_aload_n hx hb dX12_staysOf_13 rfl (lv_at hl 2 rfl) ?_
        refine va_get (D := (dC, dI)) (ci := 12) (v := .ref (g 15)) (C := RX12) (T := TX12) (N := 63) hx hb hwd inA_X12 hown hK hP 0 rfl rfl 20 (by decide) (hwd _ wk_196) (fun _ h9 => h9) rfl dX12_staysOf_14 ?_
        refine lv_iload_n hx hb dX12_staysOf_17 rfl (lv_at hl 0 rfl) ?_
        refine va_iald hx hb hK hP 15 14 rfl rfl (i := x3_lp9020) (vin (a := x3_lp9020.toInt) rfl (by omega)) dX12_staysOf_18 ?_
        refine lv_topi (fun z9029 e9030 => ?_)
        have t9031 : 0 ≤ z9029.toInt ∧ z9029.toInt ≤ 99 := by rw [e9030]; exact hI.2 15 _ _ rfl _
        have tzz9029 : z9029.toInt = (F 15 (x3_lp9020 : Int32).toNatClampNeg).toInt := congrArg Int32.toInt e9030
        refine lv_iload_n hx hb dX12_staysOf_19 rfl (lv_at hl 3 rfl) ?_
        refine lv_icmp_ne (tgt := 27) hx hb dX12_staysOf_20 (by decide) (fun c9032 => ?_) (fun c9032 => ?_)
        · skip
          have t9033 := cv_ne (a := z9029.toInt) rfl (b := p0.toInt) rfl c9032
          refine lv_iconst (v := 0) hx hb dX12_staysOf_27 (by decide) ?_
          refine lv_iadd hx hb dX12_staysOf_28 ?_
          refine lv_topi (fun z9034 e9035 => ?_)
          try (have t9036 := tadd e9035 (a := x2_lp9020.toInt) rfl (b := 0) (by decide) (by omega))
          refine lv_istore_n (lv' := [(2, .int z9034), (3, .int x3_lp9020), (0, .ref (g 0)), (1, .int p0)]) hx hb dX12_staysOf_29 rfl hl (by decide) rfl (fun ls hl => ?_)
          obtain ⟨z9037, e9038⟩ : ∃ y : Int32, y = x3_lp9020 + 1 := ⟨_, rfl⟩
          try (have t9039 := tadd e9038 rfl (b := 1) (by decide) (by omega))
          refine lv_iinc (v := z9037) (lv' := [(3, .int z9037), (2, .int z9034), (0, .ref (g 0)), (1, .int p0)]) hx hb dX12_staysOf_30 hl (k := 1) rfl (by rw [e9038]; rfl) (by decide) rfl (fun ls hl => ?_)
          refine lv_goto (tgt := 4) hx hb dX12_staysOf_33 (by decide) ?_
          exact ih_lp9020 z9037 z9034  _ _ _ (by omega) (by omega) (by omega) (by first | exact cnt_s1 (by omega) (by omega) t9024 (decide_eq_true (by omega)) (by omega) | exact cnt_s0 (by omega) (by omega) t9024 (fun q => by have q := of_decide_eq_true q; omega) (by omega)) (by omega) hP hS (lv_sub hl [0, 1, 2, 3] rfl)
        · skip
          have t9040 := cv_eq (a := z9029.toInt) rfl (b := p0.toInt) rfl c9032
          refine lv_iconst (v := 1) hx hb dX12_staysOf_23 (by decide) ?_
          refine lv_goto (tgt := 28) hx hb dX12_staysOf_24 (by decide) ?_
          refine lv_iadd hx hb dX12_staysOf_28 ?_
          refine lv_topi (fun z9041 e9042 => ?_)
          try (have t9043 := tadd e9042 (a := x2_lp9020.toInt) rfl (b := 1) (by decide) (by omega))
          refine lv_istore_n (lv' := [(2, .int z9041), (3, .int x3_lp9020), (0, .ref (g 0)), (1, .int p0)]) hx hb dX12_staysOf_29 rfl hl (by decide) rfl (fun ls hl => ?_)
          obtain ⟨z9044, e9045⟩ : ∃ y : Int32, y = x3_lp9020 + 1 := ⟨_, rfl⟩
          try (have t9046 := tadd e9045 rfl (b := 1) (by decide) (by omega))
          refine lv_iinc (v := z9044) (lv' := [(3, .int z9044), (2, .int z9041), (0, .ref (g 0)), (1, .int p0)]) hx hb dX12_staysOf_30 hl (k := 1) rfl (by rw [e9045]; rfl) (by decide) rfl (fun ls hl => ?_)
          refine lv_goto (tgt := 4) hx hb dX12_staysOf_33 (by decide) ?_
          exact ih_lp9020 z9044 z9041  _ _ _ (by omega) (by omega) (by omega) (by first | exact cnt_s1 (by omega) (by omega) t9024 (decide_eq_true (by omega)) (by omega) | exact cnt_s0 (by omega) (by omega) t9024 (fun q => by have q := of_decide_eq_true q; omega) (by omega)) (by omega) hP hS (lv_sub hl [0, 1, 2, 3] rfl)
  obtain ⟨n9, hn9⟩ : ∃ n : Nat, 2147483648 - 0 ≤ (n : Int) := ⟨((2147483648 - 0 : Int)).toNat, by omega⟩
  exact lp9020 n9 0 0  H _ ls (by have : (0 : Int32).toInt = 0 := (by decide); have : (0 : Int32).toInt = 0 := (by decide); omega) (by have : (0 : Int32).toInt = 0 := (by decide); have : (0 : Int32).toInt = 0 := (by decide); omega) (by have : (0 : Int32).toInt = 0 := (by decide); omega) (by rfl) (by have : (0 : Int32).toInt = 0 := (by decide); have : (0 : Int32).toInt = 0 := (by decide); omega) hP hS hl
set_option maxHeartbeats 8000000 in
set_option maxRecDepth 100000 in
theorem c_X12_stayOf (l : Launch) (dC : Nat → ClassId) (dI : Nat → Nat → Nat) (g : Nat → Nat) (c : Nat → ClassId) (adK adV : Nat → Nat) (v : Nat → Int32) (F : Nat → Nat → Int32) (rc sz : Nat) (p0 : Int32) (p1 : Int32) (hg : injM g) (hI : IM v F) : Met l yX12_stayOf (Cond.code yX12_stayOf cX12_stayOf 6 (some .int) :: wA) ({ frames := 2, cells := 0, slots := 0, locals := 80 }) (va_Pc [.ref (g 0), .int p0, .int p1] (PM dC dI g c adK adV v F rc sz)) (va_Qi (fun (r : Int32) (u : Unit) => ((0 ≤ r.toInt ∧ r.toInt < (v 19).toInt) ∧ (F 15 r.toNatClampNeg).toInt = p0.toInt ∧ (cnt (ahP (F 15) (F 17) p0.toInt r.toNatClampNeg) (v 19).toNatClampNeg : Int) = p1.toInt) ∨ (r.toInt = -1 ∧ ∀ s : Nat, (s : Int) < (v 19).toInt → ((F 15 s).toInt = p0.toInt → (cnt (ahP (F 15) (F 17) p0.toInt s) (v 19).toNatClampNeg : Int) ≠ p1.toInt))) (fun (_ : Unit) => BM dC dI g c (v, F, rc)) (AM g sz)) 0 0 (AM g sz) := by
  refine Met.ofW (cc := cX12_stayOf) (maxL := 6) (ret := (some .int)) (by decide) rfl ?_
  intro p e s m args below meth c0 s₁ B hml hv
  obtain ⟨rfl, hsz, hP, hK, hE⟩ := hv
  have hx := B.exec
  have hb := B.bytes
  have hr := B.returns
  have hts := atoms_spec (ws := Cond.code yX12_stayOf cX12_stayOf 6 (some .int) :: wA) B.pre
  have hwd : ∀ w ∈ wA, w.before _ s = true := fun w h => hts w (List.mem_cons_of_mem _ h)
  have hown : s.vm.findClass RX12 = some m.cls := findClass_of_methodNamed B.named
  have hlocks := B.notSynchronized
  subst hsz
  have hl := lv_entry ([.ref (g 0), .int p0, .int p1]) (n := 6) (Nat.le_of_ble_eq_true rfl)
  rw [lg_entry_eq]
  generalize (lg_sl ([.ref (g 0), .int p0, .int p1]) ++ List.replicate (6 - (lg_sl ([.ref (g 0), .int p0, .int p1])).length) Slot.unset).toArray = ls at hl ⊢
  have hl : lv_has ls 6 [(0, .ref (g 0)), (1, .int p0), (2, .int p1)] := hl
  obtain ⟨H, eH⟩ : ∃ z, z = s.heap := ⟨_, rfl⟩
  have hP : va_P (dC, dI) classes (wM g c v F rc) H := by rw [eH]; exact hP
  have hS : va_S (AM g s.heap.size) s.heap H [] := by rw [eH]; exact va_S.rf
  refine my_heap eH ?_
  have rp0 := i32_rng p0
  have rp1 := i32_rng p1
  have hb19 : 0 ≤ (v 19).toInt ∧ (v 19).toInt ≤ 500 := hI.1 19 _ _ rfl
  refine lv_iconst (v := 0) hx hb dX12_stayOf_0 (by decide) ?_
  refine lv_istore_n (lv' := [(3, .int 0), (0, .ref (g 0)), (1, .int p0), (2, .int p1)]) hx hb dX12_stayOf_1 rfl hl (by decide) rfl (fun ls hl => ?_)
  have lp9047 : ∀ (n : Nat) (x3_lp9047 : Int32) (H : Heap) (locs : List Loc) (ls : Array Slot), (0 ≤ x3_lp9047.toInt) → (∀ s : Nat, (s : Int) < x3_lp9047.toInt → ((F 15 s).toInt = p0.toInt → (cnt (ahP (F 15) (F 17) p0.toInt s) (v 19).toNatClampNeg : Int) ≠ p1.toInt)) → (2147483648 - x3_lp9047.toInt ≤ (n : Int)) → va_P (dC, dI) classes (wM g c v F rc) H → va_S (AM g s.heap.size) s.heap H locs → lv_has ls 6 [(3, .int x3_lp9047), (0, .ref (g 0)), (1, .int p0), (2, .int p1)] → W p l e (headSpec (Cond.code yX12_stayOf cX12_stayOf 6 (some .int) :: wA) ({ frames := 2, cells := 0, slots := 0, locals := 80 })).room s m ([.ref (g 0), .int p0, .int p1] : List Value).toArray below meth c0 H locs 0 0 (MQ below (va_Qi (fun (r : Int32) (u : Unit) => ((0 ≤ r.toInt ∧ r.toInt < (v 19).toInt) ∧ (F 15 r.toNatClampNeg).toInt = p0.toInt ∧ (cnt (ahP (F 15) (F 17) p0.toInt r.toNatClampNeg) (v 19).toNatClampNeg : Int) = p1.toInt) ∨ (r.toInt = -1 ∧ ∀ s : Nat, (s : Int) < (v 19).toInt → ((F 15 s).toInt = p0.toInt → (cnt (ahP (F 15) (F 17) p0.toInt s) (v 19).toNatClampNeg : Int) ≠ p1.toInt))) (fun (_ : Unit) => BM dC dI g c (v, F, rc)) (AM g s.heap.size)) ([.ref (g 0), .int p0, .int p1] : List Value).toArray s 0 0 (AM g s.heap.size)) (F0 m 2 ls []) := by
    intro n
    induction n with
    | zero =>
      intro x3_lp9047 H locs ls t9048 t9049 hm hP hS hl
      exfalso
      have := i32_rng x3_lp9047
      omega
    | succ n ih_lp9047 =>
      intro x3_lp9047 H locs ls t9048 t9049 hm hP hS hl
      have rx3_lp9047 := i32_rng x3_lp9047
      refine lv_iload_n hx hb dX12_stayOf_2 rfl (lv_at hl 0 rfl) ?_
      refine lv_aload_n hx hb dX12_stayOf_3 rfl (lv_at hl 1 rfl) ?_
      refine va_get (D := (dC, dI)) (ci := 12) (v := .int (v 19)) (C := RX12) (T := TX12) (N := 63) hx hb hwd inA_X12 hown hK hP 0 rfl rfl 19 (by decide) (hwd _ wk_494) (fun _ h9 => h9) rfl dX12_stayOf_4 ?_
      have t9050 : 0 ≤ (v 19).toInt ∧ (v 19).toInt ≤ 500 := hI.1 19 _ _ rfl
      refine lv_icmp_ge (tgt := 89) hx hb dX12_stayOf_7 (by decide) (fun c9051 => ?_) (fun c9051 => ?_)
      · skip
        have t9052 := cv_le (a := (v 19).toInt) rfl (b := x3_lp9047.toInt) rfl c9051
        refine lv_iconst (v := (-1)) hx hb dX12_stayOf_89 (by decide) ?_
        have hP9 : va_P (dC, dI) classes (wM g c v F rc) H := hP
        exact W.iret (v := (-1)) hx hb hr (fun t ht hW => ⟨⟨(-1), (), rfl, (Or.inr ⟨by decide, fun s hs => t9049 s (by omega)⟩), (by show va_P _ _ _ t.heap; rw [ht]; exact hP9)⟩, hS.F ht⟩) hS.2.2 dX12_stayOf_90
      · skip
        have t9053 := cv_nle (a := (v 19).toInt) rfl (b := x3_lp9047.toInt) rfl c9051
        refine lv_aload_n hx hb dX12_stayOf_10 rfl (lv_at hl 1 rfl) ?_
        refine va_get (D := (dC, dI)) (ci := 12) (v := .ref (g 15)) (C := RX12) (T := TX12) (N := 63) hx hb hwd inA_X12 hown hK hP 0 rfl rfl 20 (by decide) (hwd _ wk_196) (fun _ h9 => h9) rfl dX12_stayOf_11 ?_
        refine lv_iload_n hx hb dX12_stayOf_14 rfl (lv_at hl 0 rfl) ?_
        refine va_iald hx hb hK hP 15 14 rfl rfl (i := x3_lp9047) (vin (a := x3_lp9047.toInt) rfl (by omega)) dX12_stayOf_15 ?_
        refine lv_topi (fun z9054 e9055 => ?_)
        have t9056 : 0 ≤ z9054.toInt ∧ z9054.toInt ≤ 99 := by rw [e9055]; exact hI.2 15 _ _ rfl _
        have tzz9054 : z9054.toInt = (F 15 (x3_lp9047 : Int32).toNatClampNeg).toInt := congrArg Int32.toInt e9055
        refine lv_iload_n hx hb dX12_stayOf_16 rfl (lv_at hl 2 rfl) ?_
        refine lv_icmp_eq (tgt := 23) hx hb dX12_stayOf_17 (by decide) (fun c9057 => ?_) (fun c9057 => ?_)
        · skip
          have t9058 := cv_eq (a := z9054.toInt) rfl (b := p0.toInt) rfl c9057
          refine lv_iconst (v := 0) hx hb dX12_stayOf_23 (by decide) ?_
          refine lv_istore (lv' := [(4, .int 0), (3, .int x3_lp9047), (0, .ref (g 0)), (1, .int p0), (2, .int p1)]) hx hb dX12_stayOf_24 hl (by decide) rfl (fun ls hl => ?_)
          refine lv_iconst (v := 0) hx hb dX12_stayOf_26 (by decide) ?_
          refine lv_istore (lv' := [(5, .int 0), (4, .int 0), (3, .int x3_lp9047), (0, .ref (g 0)), (1, .int p0), (2, .int p1)]) hx hb dX12_stayOf_27 hl (by decide) rfl (fun ls hl => ?_)
          have lp9059 : ∀ (n : Nat) (x5_lp9059 : Int32) (x4_lp9059 : Int32) (H : Heap) (locs : List Loc) (ls : Array Slot), (0 ≤ x5_lp9059.toInt) → (x5_lp9059.toInt ≤ (v 19).toInt) → (0 ≤ x4_lp9059.toInt ∧ x4_lp9059.toInt ≤ x5_lp9059.toInt) → (x4_lp9059.toInt = (cnt (ahP (F 15) (F 17) p0.toInt x3_lp9047.toNatClampNeg) x5_lp9059.toNatClampNeg : Int)) → (2147483648 - x5_lp9059.toInt ≤ (n : Int)) → va_P (dC, dI) classes (wM g c v F rc) H → va_S (AM g s.heap.size) s.heap H locs → lv_has ls 6 [(5, .int x5_lp9059), (4, .int x4_lp9059), (3, .int x3_lp9047), (0, .ref (g 0)), (1, .int p0), (2, .int p1)] → W p l e (headSpec (Cond.code yX12_stayOf cX12_stayOf 6 (some .int) :: wA) ({ frames := 2, cells := 0, slots := 0, locals := 80 })).room s m ([.ref (g 0), .int p0, .int p1] : List Value).toArray below meth c0 H locs 0 0 (MQ below (va_Qi (fun (r : Int32) (u : Unit) => ((0 ≤ r.toInt ∧ r.toInt < (v 19).toInt) ∧ (F 15 r.toNatClampNeg).toInt = p0.toInt ∧ (cnt (ahP (F 15) (F 17) p0.toInt r.toNatClampNeg) (v 19).toNatClampNeg : Int) = p1.toInt) ∨ (r.toInt = -1 ∧ ∀ s : Nat, (s : Int) < (v 19).toInt → ((F 15 s).toInt = p0.toInt → (cnt (ahP (F 15) (F 17) p0.toInt s) (v 19).toNatClampNeg : Int) ≠ p1.toInt))) (fun (_ : Unit) => BM dC dI g c (v, F, rc)) (AM g s.heap.size)) ([.ref (g 0), .int p0, .int p1] : List Value).toArray s 0 0 (AM g s.heap.size)) (F0 m 29 ls []) := by
            intro n
            induction n with
            | zero =>
              intro x5_lp9059 x4_lp9059 H locs ls t9060 t9061 t9062 t9063 hm hP hS hl
              exfalso
              have := i32_rng x5_lp9059
              have := i32_rng x4_lp9059
              omega
            | succ n ih_lp9059 =>
              intro x5_lp9059 x4_lp9059 H locs ls t9060 t9061 t9062 t9063 hm hP hS hl
              have rx5_lp9059 := i32_rng x5_lp9059
              have rx4_lp9059 := i32_rng x4_lp9059
              refine lv_iload hx hb dX12_stayOf_29 (lv_at hl 0 rfl) ?_
              refine lv_aload_n hx hb dX12_stayOf_31 rfl (lv_at hl 3 rfl) ?_
              refine va_get (D := (dC, dI)) (ci := 12) (v := .int (v 19)) (C := RX12) (T := TX12) (N := 63) hx hb hwd inA_X12 hown hK hP 0 rfl rfl 19 (by decide) (hwd _ wk_494) (fun _ h9 => h9) rfl dX12_stayOf_32 ?_
              have t9064 : 0 ≤ (v 19).toInt ∧ (v 19).toInt ≤ 500 := hI.1 19 _ _ rfl
              refine lv_icmp_ge (tgt := 75) hx hb dX12_stayOf_35 (by decide) (fun c9065 => ?_) (fun c9065 => ?_)
              · skip
                have t9066 := cv_le (a := (v 19).toInt) rfl (b := x5_lp9059.toInt) rfl c9065
                refine lv_iload hx hb dX12_stayOf_75 (lv_at hl 1 rfl) ?_
                refine lv_iload_n hx hb dX12_stayOf_77 rfl (lv_at hl 5 rfl) ?_
                refine lv_icmp_ne (tgt := 83) hx hb dX12_stayOf_78 (by decide) (fun c9067 => ?_) (fun c9067 => ?_)
                · skip
                  have t9068 := cv_ne (a := x4_lp9059.toInt) rfl (b := p1.toInt) rfl c9067
                  obtain ⟨z9069, e9070⟩ : ∃ y : Int32, y = x3_lp9047 + 1 := ⟨_, rfl⟩
                  try (have t9071 := tadd e9070 rfl (b := 1) (by decide) (by omega))
                  refine lv_iinc (v := z9069) (lv' := [(3, .int z9069), (5, .int x5_lp9059), (4, .int x4_lp9059), (0, .ref (g 0)), (1, .int p0), (2, .int p1)]) hx hb dX12_stayOf_83 hl (k := 2) rfl (by rw [e9070]; rfl) (by decide) rfl (fun ls hl => ?_)
                  refine lv_goto (tgt := 2) hx hb dX12_stayOf_86 (by decide) ?_
                  exact ih_lp9047 z9069  _ _ _ (by omega) (all_step (x := x3_lp9047) (P := fun s => ((F 15 s).toInt = p0.toInt → (cnt (ahP (F 15) (F 17) p0.toInt s) (v 19).toNatClampNeg : Int) ≠ p1.toInt)) (by omega) t9049 (by have e9 := t9063; rw [ncl_eq (show x5_lp9059.toInt = (v 19).toInt by omega)] at e9; intro _; omega)) (by omega) hP hS (lv_sub hl [0, 3, 4, 5] rfl)
                · skip
                  have t9072 := cv_eq (a := x4_lp9059.toInt) rfl (b := p1.toInt) rfl c9067
                  refine lv_iload_n hx hb dX12_stayOf_81 rfl (lv_at hl 2 rfl) ?_
                  have hP9 : va_P (dC, dI) classes (wM g c v F rc) H := hP
                  exact W.iret (v := x3_lp9047) hx hb hr (fun t ht hW => ⟨⟨x3_lp9047, (), rfl, (by have e9 := t9063; rw [ncl_eq (show x5_lp9059.toInt = (v 19).toInt by omega)] at e9; exact Or.inl ⟨by omega, by omega, by omega⟩), (by show va_P _ _ _ t.heap; rw [ht]; exact hP9)⟩, hS.F ht⟩) hS.2.2 dX12_stayOf_82
              · skip
                have t9073 := cv_nle (a := (v 19).toInt) rfl (b := x5_lp9059.toInt) rfl c9065
                refine lv_iload hx hb dX12_stayOf_38 (lv_at hl 1 rfl) ?_
                refine lv_aload_n hx hb dX12_stayOf_40 rfl (lv_at hl 3 rfl) ?_
                refine va_get (D := (dC, dI)) (ci := 12) (v := .ref (g 15)) (C := RX12) (T := TX12) (N := 63) hx hb hwd inA_X12 hown hK hP 0 rfl rfl 20 (by decide) (hwd _ wk_196) (fun _ h9 => h9) rfl dX12_stayOf_41 ?_
                refine lv_iload hx hb dX12_stayOf_44 (lv_at hl 0 rfl) ?_
                refine va_iald hx hb hK hP 15 14 rfl rfl (i := x5_lp9059) (vin (a := x5_lp9059.toInt) rfl (by omega)) dX12_stayOf_46 ?_
                refine lv_topi (fun z9074 e9075 => ?_)
                have t9076 : 0 ≤ z9074.toInt ∧ z9074.toInt ≤ 99 := by rw [e9075]; exact hI.2 15 _ _ rfl _
                have tzz9074 : z9074.toInt = (F 15 (x5_lp9059 : Int32).toNatClampNeg).toInt := congrArg Int32.toInt e9075
                refine lv_iload_n hx hb dX12_stayOf_47 rfl (lv_at hl 4 rfl) ?_
                refine lv_icmp_ne (tgt := 65) hx hb dX12_stayOf_48 (by decide) (fun c9077 => ?_) (fun c9077 => ?_)
                · skip
                  have t9078 := cv_ne (a := z9074.toInt) rfl (b := p0.toInt) rfl c9077
                  refine lv_iconst (v := 0) hx hb dX12_stayOf_65 (by decide) ?_
                  refine lv_iadd hx hb dX12_stayOf_66 ?_
                  refine lv_topi (fun z9079 e9080 => ?_)
                  try (have t9081 := tadd e9080 (a := x4_lp9059.toInt) rfl (b := 0) (by decide) (by omega))
                  refine lv_istore (lv' := [(4, .int z9079), (5, .int x5_lp9059), (3, .int x3_lp9047), (0, .ref (g 0)), (1, .int p0), (2, .int p1)]) hx hb dX12_stayOf_67 hl (by decide) rfl (fun ls hl => ?_)
                  obtain ⟨z9082, e9083⟩ : ∃ y : Int32, y = x5_lp9059 + 1 := ⟨_, rfl⟩
                  try (have t9084 := tadd e9083 rfl (b := 1) (by decide) (by omega))
                  refine lv_iinc (v := z9082) (lv' := [(5, .int z9082), (4, .int z9079), (3, .int x3_lp9047), (0, .ref (g 0)), (1, .int p0), (2, .int p1)]) hx hb dX12_stayOf_69 hl (k := 1) rfl (by rw [e9083]; rfl) (by decide) rfl (fun ls hl => ?_)
                  refine lv_goto (tgt := 29) hx hb dX12_stayOf_72 (by decide) ?_
                  exact ih_lp9059 z9082 z9079  _ _ _ (by omega) (by omega) (by omega) (by have n9 := ncl_i (x := x5_lp9059) (by omega); have n8 := ncl_i (x := x3_lp9047) (by omega); first | exact cnt_s1 (x := x5_lp9059) (by omega) (by omega) t9063 (decide_eq_true (by omega)) (by omega) | exact cnt_s0 (x := x5_lp9059) (by omega) (by omega) t9063 (fun q => by have q := of_decide_eq_true q; omega) (by omega)) (by omega) hP hS (lv_sub hl [0, 1, 2, 3, 4, 5] rfl)
                · skip
                  have t9085 := cv_eq (a := z9074.toInt) rfl (b := p0.toInt) rfl c9077
                  refine lv_aload_n hx hb dX12_stayOf_51 rfl (lv_at hl 3 rfl) ?_
                  refine lv_iload hx hb dX12_stayOf_52 (lv_at hl 0 rfl) ?_
                  refine lv_iload_n hx hb dX12_stayOf_54 rfl (lv_at hl 2 rfl) ?_
                  refine va_calli (va_runV (As := [.int x5_lp9059, .int x3_lp9047]) (rest := [.int x4_lp9059]) ⟨hx, hb, hml, hown, hwd⟩ (c_X12_isAhead l dC dI g c adK adV v F rc H.size x5_lp9059 x3_lp9047 hg hI (by omega) (by omega)) (cwV 2 hwd (gV wk_509 wk_506 wk_507 wk_508 wk_5) rfl rfl rfl (by decide +kernel) ⟨Nat.le_of_ble_eq_true rfl, Nat.le_of_ble_eq_true rfl⟩) ⟨PM.blind, va_recv hK hP (ci := 12) (q0 := 0) rfl rfl, fun U hU hW => ⟨rfl, PM.at hK hE hP hS hU hW⟩⟩ rfl rfl hl.1 rfl (lv_room (Nat.le_of_ble_eq_true rfl)) dX12_stayOf_55 ⟨Nat.le_of_ble_eq_true rfl, Nat.le_of_ble_eq_true rfl⟩) hS (fun q _ h => (freeM hS) q h) (freeM hS) (fun r9086 u t H1 locs ht hvm hw hB hz1 hk1 hS => ?_)
                  unfold BM at hB
                  rw [ht] at hB
                  have hP : va_P (dC, dI) classes (wM g c v F rc) H1 := hB
                  replace hw : (r9086.toInt = 1 ∧ ((F 17 x5_lp9059.toNatClampNeg).toInt < (F 17 x3_lp9047.toNatClampNeg).toInt ∨ ((F 17 x5_lp9059.toNatClampNeg).toInt = (F 17 x3_lp9047.toNatClampNeg).toInt ∧ x5_lp9059.toInt < x3_lp9047.toInt))) ∨ (r9086.toInt = 0 ∧ ¬ ((F 17 x5_lp9059.toNatClampNeg).toInt < (F 17 x3_lp9047.toNatClampNeg).toInt ∨ ((F 17 x5_lp9059.toNatClampNeg).toInt = (F 17 x3_lp9047.toNatClampNeg).toInt ∧ x5_lp9059.toInt < x3_lp9047.toInt))) := hw
                  have hw_r9086 := hw
                  clear hw
                  clear hz1
                  generalize H1 = H at hP hS ⊢
                  refine lv_if_eq (tgt := 65) hx hb dX12_stayOf_58 (by decide) (fun c9087 => ?_) (fun c9087 => ?_)
                  · skip
                    have t9088 := cv_eq (a := r9086.toInt) rfl (b := 0) (by decide) c9087
                    refine lv_iconst (v := 0) hx hb dX12_stayOf_65 (by decide) ?_
                    refine lv_iadd hx hb dX12_stayOf_66 ?_
                    refine lv_topi (fun z9089 e9090 => ?_)
                    try (have t9091 := tadd e9090 (a := x4_lp9059.toInt) rfl (b := 0) (by decide) (by omega))
                    refine lv_istore (lv' := [(4, .int z9089), (5, .int x5_lp9059), (3, .int x3_lp9047), (0, .ref (g 0)), (1, .int p0), (2, .int p1)]) hx hb dX12_stayOf_67 hl (by decide) rfl (fun ls hl => ?_)
                    obtain ⟨z9092, e9093⟩ : ∃ y : Int32, y = x5_lp9059 + 1 := ⟨_, rfl⟩
                    try (have t9094 := tadd e9093 rfl (b := 1) (by decide) (by omega))
                    refine lv_iinc (v := z9092) (lv' := [(5, .int z9092), (4, .int z9089), (3, .int x3_lp9047), (0, .ref (g 0)), (1, .int p0), (2, .int p1)]) hx hb dX12_stayOf_69 hl (k := 1) rfl (by rw [e9093]; rfl) (by decide) rfl (fun ls hl => ?_)
                    refine lv_goto (tgt := 29) hx hb dX12_stayOf_72 (by decide) ?_
                    exact ih_lp9059 z9092 z9089  _ _ _ (by omega) (by omega) (by omega) (by have n9 := ncl_i (x := x5_lp9059) (by omega); have n8 := ncl_i (x := x3_lp9047) (by omega); first | exact cnt_s1 (x := x5_lp9059) (by omega) (by omega) t9063 (decide_eq_true (by omega)) (by omega) | exact cnt_s0 (x := x5_lp9059) (by omega) (by omega) t9063 (fun q => by have q := of_decide_eq_true q; omega) (by omega)) (by omega) hP hS (lv_sub hl [0, 1, 2, 3, 4, 5] rfl)
                  · skip
                    have t9095 := cv_ne (a := r9086.toInt) rfl (b := 0) (by decide) c9087
                    refine lv_iconst (v := 1) hx hb dX12_stayOf_61 (by decide) ?_
                    refine lv_goto (tgt := 66) hx hb dX12_stayOf_62 (by decide) ?_
                    refine lv_iadd hx hb dX12_stayOf_66 ?_
                    refine lv_topi (fun z9096 e9097 => ?_)
                    try (have t9098 := tadd e9097 (a := x4_lp9059.toInt) rfl (b := 1) (by decide) (by omega))
                    refine lv_istore (lv' := [(4, .int z9096), (5, .int x5_lp9059), (3, .int x3_lp9047), (0, .ref (g 0)), (1, .int p0), (2, .int p1)]) hx hb dX12_stayOf_67 hl (by decide) rfl (fun ls hl => ?_)
                    obtain ⟨z9099, e9100⟩ : ∃ y : Int32, y = x5_lp9059 + 1 := ⟨_, rfl⟩
                    try (have t9101 := tadd e9100 rfl (b := 1) (by decide) (by omega))
                    refine lv_iinc (v := z9099) (lv' := [(5, .int z9099), (4, .int z9096), (3, .int x3_lp9047), (0, .ref (g 0)), (1, .int p0), (2, .int p1)]) hx hb dX12_stayOf_69 hl (k := 1) rfl (by rw [e9100]; rfl) (by decide) rfl (fun ls hl => ?_)
                    refine lv_goto (tgt := 29) hx hb dX12_stayOf_72 (by decide) ?_
                    exact ih_lp9059 z9099 z9096  _ _ _ (by omega) (by omega) (by omega) (by have n9 := ncl_i (x := x5_lp9059) (by omega); have n8 := ncl_i (x := x3_lp9047) (by omega); first | exact cnt_s1 (x := x5_lp9059) (by omega) (by omega) t9063 (decide_eq_true (by omega)) (by omega) | exact cnt_s0 (x := x5_lp9059) (by omega) (by omega) t9063 (fun q => by have q := of_decide_eq_true q; omega) (by omega)) (by omega) hP hS (lv_sub hl [0, 1, 2, 3, 4, 5] rfl)
          obtain ⟨n9, hn9⟩ : ∃ n : Nat, 2147483648 - 0 ≤ (n : Int) := ⟨((2147483648 - 0 : Int)).toNat, by omega⟩
          exact lp9059 n9 0 0  H _ ls (by have : (0 : Int32).toInt = 0 := (by decide); have : (0 : Int32).toInt = 0 := (by decide); omega) (by have : (0 : Int32).toInt = 0 := (by decide); have : (0 : Int32).toInt = 0 := (by decide); omega) (by have : (0 : Int32).toInt = 0 := (by decide); omega) (by rfl) (by have : (0 : Int32).toInt = 0 := (by decide); have : (0 : Int32).toInt = 0 := (by decide); omega) hP hS hl
        · skip
          have t9102 := cv_ne (a := z9054.toInt) rfl (b := p0.toInt) rfl c9057
          refine lv_goto (tgt := 83) hx hb dX12_stayOf_20 (by decide) ?_
          obtain ⟨z9103, e9104⟩ : ∃ y : Int32, y = x3_lp9047 + 1 := ⟨_, rfl⟩
          try (have t9105 := tadd e9104 rfl (b := 1) (by decide) (by omega))
          refine lv_iinc (v := z9103) (lv' := [(3, .int z9103), (0, .ref (g 0)), (1, .int p0), (2, .int p1)]) hx hb dX12_stayOf_83 hl (k := 0) rfl (by rw [e9104]; rfl) (by decide) rfl (fun ls hl => ?_)
          refine lv_goto (tgt := 2) hx hb dX12_stayOf_86 (by decide) ?_
          exact ih_lp9047 z9103  _ _ _ (by omega) (all_step (x := x3_lp9047) (P := fun s => ((F 15 s).toInt = p0.toInt → (cnt (ahP (F 15) (F 17) p0.toInt s) (v 19).toNatClampNeg : Int) ≠ p1.toInt)) (by omega) t9049 (by intro q9; exfalso; omega)) (by omega) hP hS (lv_sub hl [0, 1, 2, 3] rfl)
  obtain ⟨n9, hn9⟩ : ∃ n : Nat, 2147483648 - 0 ≤ (n : Int) := ⟨((2147483648 - 0 : Int)).toNat, by omega⟩
  exact lp9047 n9 0  H _ ls (by have : (0 : Int32).toInt = 0 := (by decide); omega) (fun j h => absurd h (by have : (0 : Int32).toInt = 0 := (by decide); omega)) (by have : (0 : Int32).toInt = 0 := (by decide); omega) hP hS hl
set_option maxHeartbeats 8000000 in
set_option maxRecDepth 100000 in
theorem c_X12_paper (l : Launch) (dC : Nat → ClassId) (dI : Nat → Nat → Nat) (g : Nat → Nat) (c : Nat → ClassId) (adK adV : Nat → Nat) (v : Nat → Int32) (F : Nat → Nat → Int32) (rc sz : Nat) (p0 : Int32) (p1 : Int32) (p2 : Int32) (hg : injM g) (hI : IM v F) : Met l yX12_paper (Cond.code yX12_paper cX12_paper 6 (some .int) :: wA) ({ frames := 3, cells := 0, slots := 0, locals := 120 }) (va_Pc [.ref (g 0), .int p0, .int p1, .int p2] (PM dC dI g c adK adV v F rc sz)) (va_Qi (fun (r : Int32) (u : StM) => IM u.1 u.2.1 ∧ u.2.2 = rc ∧ (∀ k, k ∉ ([] : List Nat) → u.1 k = v k) ∧ (∀ k, k ∉ ([23] : List Nat) → u.2.1 k = F k) ∧ True) (BM dC dI g c) (AM g sz)) 0 0 (AM g sz) := by
  refine Met.ofW (cc := cX12_paper) (maxL := 6) (ret := (some .int)) (by decide) rfl ?_
  intro p e s m args below meth c0 s₁ B hml hv
  obtain ⟨rfl, hsz, hP, hK, hE⟩ := hv
  have hx := B.exec
  have hb := B.bytes
  have hr := B.returns
  have hts := atoms_spec (ws := Cond.code yX12_paper cX12_paper 6 (some .int) :: wA) B.pre
  have hwd : ∀ w ∈ wA, w.before _ s = true := fun w h => hts w (List.mem_cons_of_mem _ h)
  have hown : s.vm.findClass RX12 = some m.cls := findClass_of_methodNamed B.named
  have hlocks := B.notSynchronized
  subst hsz
  have hl := lv_entry ([.ref (g 0), .int p0, .int p1, .int p2]) (n := 6) (Nat.le_of_ble_eq_true rfl)
  rw [lg_entry_eq]
  generalize (lg_sl ([.ref (g 0), .int p0, .int p1, .int p2]) ++ List.replicate (6 - (lg_sl ([.ref (g 0), .int p0, .int p1, .int p2])).length) Slot.unset).toArray = ls at hl ⊢
  have hl : lv_has ls 6 [(0, .ref (g 0)), (1, .int p0), (2, .int p1), (3, .int p2)] := hl
  obtain ⟨H, eH⟩ : ∃ z, z = s.heap := ⟨_, rfl⟩
  have hP : va_P (dC, dI) classes (wM g c v F rc) H := by rw [eH]; exact hP
  have hS : va_S (AM g s.heap.size) s.heap H [] := by rw [eH]; exact va_S.rf
  refine my_heap eH ?_
  have hF : ∀ k, k ∉ ([23] : List Nat) → F k = F k := fun _ _ => rfl
  have rp0 := i32_rng p0
  have rp1 := i32_rng p1
  have rp2 := i32_rng p2
  refine lv_aload_n hx hb dX12_paper_0 rfl (lv_at hl 0 rfl) ?_
  refine lv_iload_n hx hb dX12_paper_1 rfl (lv_at hl 1 rfl) ?_
  have t9142 : 0 ≤ (v 14).toInt ∧ (v 14).toInt ≤ 100 := hI.1 14 _ _ rfl
  refine va_calli (va_runV (As := [.int p0]) (rest := []) ⟨hx, hb, hml, hown, hwd⟩ (c_X12_isPart l dC dI g c adK adV v F rc H.size p0 hg hI ) (cwV 1 hwd (gV wk_631 wk_628 wk_629 wk_630 wk_5) rfl rfl rfl (by decide +kernel) ⟨Nat.le_of_ble_eq_true rfl, Nat.le_of_ble_eq_true rfl⟩) ⟨PM.blind, va_recv hK hP (ci := 12) (q0 := 0) rfl rfl, fun U hU hW => ⟨rfl, PM.at hK hE hP hS hU hW⟩⟩ rfl rfl hl.1 rfl (lv_room (Nat.le_of_ble_eq_true rfl)) dX12_paper_2 ⟨Nat.le_of_ble_eq_true rfl, Nat.le_of_ble_eq_true rfl⟩) hS (fun q _ h => (freeM hS) q h) (freeM hS) (fun r9143 u t H1 locs ht hvm hw hB hz1 hk1 hS => ?_)
  unfold BM at hB
  rw [ht] at hB
  have hP : va_P (dC, dI) classes (wM g c v F rc) H1 := hB
  replace hw : (r9143.toInt = 1 ∧ 0 ≤ p0.toInt ∧ p0.toInt < (v 14).toInt) ∨ (r9143.toInt = 0 ∧ (p0.toInt < 0 ∨ (v 14).toInt ≤ p0.toInt)) := hw
  have hw_r9143 := hw
  clear hw
  clear hz1
  generalize H1 = H at hP hS ⊢
  refine lv_if_eq (tgt := 17) hx hb dX12_paper_5 (by decide) (fun c9144 => ?_) (fun c9144 => ?_)
  · skip
    have t9145 := cv_eq (a := r9143.toInt) rfl (b := 0) (by decide) c9144
    refine lv_iconst (v := (-1)) hx hb dX12_paper_17 (by decide) ?_
    have hP9 : va_P (dC, dI) classes (wM g c v F rc) H := hP
    exact W.iret (v := (-1)) hx hb hr (fun t ht hW => ⟨⟨(-1), (v, F, rc), rfl, ⟨hI, rfl, (fun _ _ => rfl), hF, trivial⟩, (by show va_P _ _ _ t.heap; rw [ht]; exact hP9)⟩, hS.F ht⟩) hS.2.2 dX12_paper_18
  · skip
    have t9146 := cv_ne (a := r9143.toInt) rfl (b := 0) (by decide) c9144
    refine lv_iload_n hx hb dX12_paper_8 rfl (lv_at hl 3 rfl) ?_
    refine lv_iconst (v := 0) hx hb dX12_paper_9 (by decide) ?_
    refine lv_iconst (v := 1) hx hb dX12_paper_10 (by decide) ?_
    refine va_calli (va_runS (As := [.int p2, .int 0, .int 1]) (rest := []) ⟨hx, hb, hml, hown, hwd⟩ (c_X12_in l dC dI g c adK adV v F rc H.size p2 0 1 hg hI ) (va_cwS 3 hwd (gT wk_254 wk_252 wk_253 wk_5) rfl rfl rfl (by decide +kernel) ⟨Nat.le_of_ble_eq_true rfl, Nat.le_of_ble_eq_true rfl⟩) ⟨PM.blind, fun U hU hW => ⟨rfl, PM.at hK hE hP hS hU hW⟩⟩ rfl rfl hl.1 rfl (lv_room (Nat.le_of_ble_eq_true rfl)) dX12_paper_11 ⟨Nat.le_of_ble_eq_true rfl, Nat.le_of_ble_eq_true rfl⟩) hS (fun q _ h => (freeM hS) q h) (freeM hS) (fun r9147 u t H1 locs ht hvm hw hB hz1 hk1 hS => ?_)
    unfold BM at hB
    rw [ht] at hB
    have hP : va_P (dC, dI) classes (wM g c v F rc) H1 := hB
    have hw_r9147 : (r9147.toInt = 1 ∧ (0 : Int32).toInt ≤ p2.toInt ∧ p2.toInt ≤ (1 : Int32).toInt) ∨ (r9147.toInt = 0 ∧ (p2.toInt < (0 : Int32).toInt ∨ (1 : Int32).toInt < p2.toInt)) := hw
    clear hw
    have k9148 : (0 : Int32).toInt = 0 := by decide
    have k9149 : (1 : Int32).toInt = 1 := by decide
    clear hz1
    generalize H1 = H at hP hS ⊢
    refine lv_if_ne (tgt := 19) hx hb dX12_paper_14 (by decide) (fun c9150 => ?_) (fun c9150 => ?_)
    · skip
      have t9151 := cv_ne (a := r9147.toInt) rfl (b := 0) (by decide) c9150
      refine lv_aload_n hx hb dX12_paper_19 rfl (lv_at hl 0 rfl) ?_
      refine lv_iload_n hx hb dX12_paper_20 rfl (lv_at hl 1 rfl) ?_
      refine lv_iload_n hx hb dX12_paper_21 rfl (lv_at hl 2 rfl) ?_
      have t9152 : 0 ≤ (v 19).toInt ∧ (v 19).toInt ≤ 500 := hI.1 19 _ _ rfl
      refine va_calli (va_runV (As := [.int p0, .int p1]) (rest := []) ⟨hx, hb, hml, hown, hwd⟩ (c_X12_stayOf l dC dI g c adK adV v F rc H.size p0 p1 hg hI ) (cwV 2 hwd (gV wk_744 wk_741 wk_742 wk_743 wk_5) rfl rfl rfl (by decide +kernel) ⟨Nat.le_of_ble_eq_true rfl, Nat.le_of_ble_eq_true rfl⟩) ⟨PM.blind, va_recv hK hP (ci := 12) (q0 := 0) rfl rfl, fun U hU hW => ⟨rfl, PM.at hK hE hP hS hU hW⟩⟩ rfl rfl hl.1 rfl (lv_room (Nat.le_of_ble_eq_true rfl)) dX12_paper_22 ⟨Nat.le_of_ble_eq_true rfl, Nat.le_of_ble_eq_true rfl⟩) hS (fun q _ h => (freeM hS) q h) (freeM hS) (fun r9153 u t H1 locs ht hvm hw hB hz1 hk1 hS => ?_)
      unfold BM at hB
      rw [ht] at hB
      have hP : va_P (dC, dI) classes (wM g c v F rc) H1 := hB
      replace hw : ((0 ≤ r9153.toInt ∧ r9153.toInt < (v 19).toInt) ∧ (F 15 r9153.toNatClampNeg).toInt = p0.toInt ∧ (cnt (ahP (F 15) (F 17) p0.toInt r9153.toNatClampNeg) (v 19).toNatClampNeg : Int) = p1.toInt) ∨ (r9153.toInt = -1 ∧ ∀ s : Nat, (s : Int) < (v 19).toInt → ((F 15 s).toInt = p0.toInt → (cnt (ahP (F 15) (F 17) p0.toInt s) (v 19).toNatClampNeg : Int) ≠ p1.toInt)) := hw
      have hw_r9153 := hw
      clear hw
      clear hz1
      generalize H1 = H at hP hS ⊢
      refine lv_istore (lv' := [(4, .int r9153), (0, .ref (g 0)), (1, .int p0), (2, .int p1), (3, .int p2)]) hx hb dX12_paper_25 hl (by decide) rfl (fun ls hl => ?_)
      refine lv_iload hx hb dX12_paper_27 (lv_at hl 0 rfl) ?_
      refine lv_if_ge (tgt := 34) hx hb dX12_paper_29 (by decide) (fun c9154 => ?_) (fun c9154 => ?_)
      · skip
        have t9155 := cv_le (a := 0) (by decide) (b := r9153.toInt) rfl c9154
        refine lv_aload_n hx hb dX12_paper_34 rfl (lv_at hl 1 rfl) ?_
        refine va_get (D := (dC, dI)) (ci := 12) (v := .ref (g 18)) (C := RX12) (T := TX12) (N := 63) hx hb hwd inA_X12 hown hK hP 0 rfl rfl 23 (by decide) (hwd _ wk_199) (fun _ h9 => h9) rfl dX12_paper_35 ?_
        refine lv_iload hx hb dX12_paper_38 (lv_at hl 0 rfl) ?_
        refine va_iald hx hb hK hP 18 17 rfl rfl (i := r9153) (vin (a := r9153.toInt) rfl (by omega)) dX12_paper_40 ?_
        refine lv_topi (fun z9156 e9157 => ?_)
        refine lv_ldc (v := 1000000) hx hb hown (hwd _ wk_500) dX12_paper_41 ?_
        refine lv_icmp_ne (tgt := 49) hx hb dX12_paper_43 (by decide) (fun c9158 => ?_) (fun c9158 => ?_)
        · skip
          have t9159 := cv_ne (a := z9156.toInt) rfl (b := 1000000) (by decide) c9158
          refine lv_aload_n hx hb dX12_paper_49 rfl (lv_at hl 1 rfl) ?_
          refine va_get (D := (dC, dI)) (ci := 12) (v := .ref (g 23)) (C := RX12) (T := TX12) (N := 63) hx hb hwd inA_X12 hown hK hP 0 rfl rfl 28 (by decide) (hwd _ wk_204) (fun _ h9 => h9) rfl dX12_paper_50 ?_
          refine lv_iload hx hb dX12_paper_53 (lv_at hl 0 rfl) ?_
          refine va_zald hx hb hK hP 23 22 rfl rfl (i := r9153) (vin (a := r9153.toInt) rfl (by omega)) dX12_paper_55 ?_
          refine lv_topi (fun z9160 e9161 => ?_)
          refine lv_if_eq (tgt := 63) hx hb dX12_paper_56 (by decide) (fun c9162 => ?_) (fun c9162 => ?_)
          · skip
            have t9163 := cv_eq (a := z9160.toInt) rfl (b := 0) (by decide) c9162
            refine lv_iconst (v := 0) hx hb dX12_paper_63 (by decide) ?_
            refine lv_istore (lv' := [(5, .int 0), (4, .int r9153), (0, .ref (g 0)), (1, .int p0), (2, .int p1), (3, .int p2)]) hx hb dX12_paper_64 hl (by decide) rfl (fun ls hl => ?_)
            refine lv_aload_n hx hb dX12_paper_66 rfl (lv_at hl 2 rfl) ?_
            refine va_get (D := (dC, dI)) (ci := 12) (v := .ref (g 23)) (C := RX12) (T := TX12) (N := 63) hx hb hwd inA_X12 hown hK hP 0 rfl rfl 28 (by decide) (hwd _ wk_204) (fun _ h9 => h9) rfl dX12_paper_67 ?_
            refine lv_iload hx hb dX12_paper_70 (lv_at hl 1 rfl) ?_
            refine lv_iload_n hx hb dX12_paper_72 rfl (lv_at hl 5 rfl) ?_
            refine lv_iconst (v := 1) hx hb dX12_paper_73 (by decide) ?_
            refine lv_icmp_ne (tgt := 81) hx hb dX12_paper_74 (by decide) (fun c9164 => ?_) (fun c9164 => ?_)
            · skip
              have t9165 := cv_ne (a := p2.toInt) rfl (b := 1) (by decide) c9164
              refine lv_iconst (v := 0) hx hb dX12_paper_81 (by decide) ?_
              refine va_zast hx hb hK hP (DM hg) hS 23 22 rfl rfl (i := r9153) (x := 0) (vin (a := r9153.toInt) rfl (by omega)) dX12_paper_82 (fun H locs hP _ hS => ?_)
              have hP := va_P_eq (sM_23 g c _ _ _ _) hP
              have hI := IM.store0 hI 23 (r9153 : Int32).toNatClampNeg (vp_nar .boolean 0) rfl
              have hF := frUF (k := 23) (f := upd (F 23) (r9153 : Int32).toNatClampNeg (vp_nar .boolean 0)) (by decide) hF
              have hP : va_P (dC, dI) classes (wM g c v (va_up F 23 (upd (F 23) (r9153 : Int32).toNatClampNeg (vp_nar .boolean 0))) rc) H := hP
              generalize (va_up F 23 (upd (F 23) (r9153 : Int32).toNatClampNeg (vp_nar .boolean 0))) = F9166 at hP hI hF
              refine lv_iload hx hb dX12_paper_83 (lv_at hl 0 rfl) ?_
              have hP9 : va_P (dC, dI) classes (wM g c v F9166 rc) H := hP
              exact W.iret (v := 0) hx hb hr (fun t ht hW => ⟨⟨0, (v, F9166, rc), rfl, ⟨hI, rfl, (fun _ _ => rfl), hF, trivial⟩, (by show va_P _ _ _ t.heap; rw [ht]; exact hP9)⟩, hS.F ht⟩) hS.2.2 dX12_paper_85
            · skip
              have t9167 := cv_eq (a := p2.toInt) rfl (b := 1) (by decide) c9164
              refine lv_iconst (v := 1) hx hb dX12_paper_77 (by decide) ?_
              refine lv_goto (tgt := 82) hx hb dX12_paper_78 (by decide) ?_
              refine va_zast hx hb hK hP (DM hg) hS 23 22 rfl rfl (i := r9153) (x := 1) (vin (a := r9153.toInt) rfl (by omega)) dX12_paper_82 (fun H locs hP _ hS => ?_)
              have hP := va_P_eq (sM_23 g c _ _ _ _) hP
              have hI := IM.store0 hI 23 (r9153 : Int32).toNatClampNeg (vp_nar .boolean 1) rfl
              have hF := frUF (k := 23) (f := upd (F 23) (r9153 : Int32).toNatClampNeg (vp_nar .boolean 1)) (by decide) hF
              have hP : va_P (dC, dI) classes (wM g c v (va_up F 23 (upd (F 23) (r9153 : Int32).toNatClampNeg (vp_nar .boolean 1))) rc) H := hP
              generalize (va_up F 23 (upd (F 23) (r9153 : Int32).toNatClampNeg (vp_nar .boolean 1))) = F9168 at hP hI hF
              refine lv_iload hx hb dX12_paper_83 (lv_at hl 0 rfl) ?_
              have hP9 : va_P (dC, dI) classes (wM g c v F9168 rc) H := hP
              exact W.iret (v := 0) hx hb hr (fun t ht hW => ⟨⟨0, (v, F9168, rc), rfl, ⟨hI, rfl, (fun _ _ => rfl), hF, trivial⟩, (by show va_P _ _ _ t.heap; rw [ht]; exact hP9)⟩, hS.F ht⟩) hS.2.2 dX12_paper_85
          · skip
            have t9169 := cv_ne (a := z9160.toInt) rfl (b := 0) (by decide) c9162
            refine lv_iconst (v := 1) hx hb dX12_paper_59 (by decide) ?_
            refine lv_goto (tgt := 64) hx hb dX12_paper_60 (by decide) ?_
            refine lv_istore (lv' := [(5, .int 1), (4, .int r9153), (0, .ref (g 0)), (1, .int p0), (2, .int p1), (3, .int p2)]) hx hb dX12_paper_64 hl (by decide) rfl (fun ls hl => ?_)
            refine lv_aload_n hx hb dX12_paper_66 rfl (lv_at hl 2 rfl) ?_
            refine va_get (D := (dC, dI)) (ci := 12) (v := .ref (g 23)) (C := RX12) (T := TX12) (N := 63) hx hb hwd inA_X12 hown hK hP 0 rfl rfl 28 (by decide) (hwd _ wk_204) (fun _ h9 => h9) rfl dX12_paper_67 ?_
            refine lv_iload hx hb dX12_paper_70 (lv_at hl 1 rfl) ?_
            refine lv_iload_n hx hb dX12_paper_72 rfl (lv_at hl 5 rfl) ?_
            refine lv_iconst (v := 1) hx hb dX12_paper_73 (by decide) ?_
            refine lv_icmp_ne (tgt := 81) hx hb dX12_paper_74 (by decide) (fun c9170 => ?_) (fun c9170 => ?_)
            · skip
              have t9171 := cv_ne (a := p2.toInt) rfl (b := 1) (by decide) c9170
              refine lv_iconst (v := 0) hx hb dX12_paper_81 (by decide) ?_
              refine va_zast hx hb hK hP (DM hg) hS 23 22 rfl rfl (i := r9153) (x := 0) (vin (a := r9153.toInt) rfl (by omega)) dX12_paper_82 (fun H locs hP _ hS => ?_)
              have hP := va_P_eq (sM_23 g c _ _ _ _) hP
              have hI := IM.store0 hI 23 (r9153 : Int32).toNatClampNeg (vp_nar .boolean 0) rfl
              have hF := frUF (k := 23) (f := upd (F 23) (r9153 : Int32).toNatClampNeg (vp_nar .boolean 0)) (by decide) hF
              have hP : va_P (dC, dI) classes (wM g c v (va_up F 23 (upd (F 23) (r9153 : Int32).toNatClampNeg (vp_nar .boolean 0))) rc) H := hP
              generalize (va_up F 23 (upd (F 23) (r9153 : Int32).toNatClampNeg (vp_nar .boolean 0))) = F9172 at hP hI hF
              refine lv_iload hx hb dX12_paper_83 (lv_at hl 0 rfl) ?_
              have hP9 : va_P (dC, dI) classes (wM g c v F9172 rc) H := hP
              exact W.iret (v := 1) hx hb hr (fun t ht hW => ⟨⟨1, (v, F9172, rc), rfl, ⟨hI, rfl, (fun _ _ => rfl), hF, trivial⟩, (by show va_P _ _ _ t.heap; rw [ht]; exact hP9)⟩, hS.F ht⟩) hS.2.2 dX12_paper_85
            · skip
              have t9173 := cv_eq (a := p2.toInt) rfl (b := 1) (by decide) c9170
              refine lv_iconst (v := 1) hx hb dX12_paper_77 (by decide) ?_
              refine lv_goto (tgt := 82) hx hb dX12_paper_78 (by decide) ?_
              refine va_zast hx hb hK hP (DM hg) hS 23 22 rfl rfl (i := r9153) (x := 1) (vin (a := r9153.toInt) rfl (by omega)) dX12_paper_82 (fun H locs hP _ hS => ?_)
              have hP := va_P_eq (sM_23 g c _ _ _ _) hP
              have hI := IM.store0 hI 23 (r9153 : Int32).toNatClampNeg (vp_nar .boolean 1) rfl
              have hF := frUF (k := 23) (f := upd (F 23) (r9153 : Int32).toNatClampNeg (vp_nar .boolean 1)) (by decide) hF
              have hP : va_P (dC, dI) classes (wM g c v (va_up F 23 (upd (F 23) (r9153 : Int32).toNatClampNeg (vp_nar .boolean 1))) rc) H := hP
              generalize (va_up F 23 (upd (F 23) (r9153 : Int32).toNatClampNeg (vp_nar .boolean 1))) = F9174 at hP hI hF
              refine lv_iload hx hb dX12_paper_83 (lv_at hl 0 rfl) ?_
              have hP9 : va_P (dC, dI) classes (wM g c v F9174 rc) H := hP
              exact W.iret (v := 1) hx hb hr (fun t ht hW => ⟨⟨1, (v, F9174, rc), rfl, ⟨hI, rfl, (fun _ _ => rfl), hF, trivial⟩, (by show va_P _ _ _ t.heap; rw [ht]; exact hP9)⟩, hS.F ht⟩) hS.2.2 dX12_paper_85
        · skip
          have t9175 := cv_eq (a := z9156.toInt) rfl (b := 1000000) (by decide) c9158
          refine lv_bipush (v := (-2)) hx hb dX12_paper_46 (by decide) ?_
          have hP9 : va_P (dC, dI) classes (wM g c v F rc) H := hP
          exact W.iret (v := (-2)) hx hb hr (fun t ht hW => ⟨⟨(-2), (v, F, rc), rfl, ⟨hI, rfl, (fun _ _ => rfl), hF, trivial⟩, (by show va_P _ _ _ t.heap; rw [ht]; exact hP9)⟩, hS.F ht⟩) hS.2.2 dX12_paper_48
      · skip
        have t9176 := cv_nle (a := 0) (by decide) (b := r9153.toInt) rfl c9154
        refine lv_iconst (v := (-1)) hx hb dX12_paper_32 (by decide) ?_
        have hP9 : va_P (dC, dI) classes (wM g c v F rc) H := hP
        exact W.iret (v := (-1)) hx hb hr (fun t ht hW => ⟨⟨(-1), (v, F, rc), rfl, ⟨hI, rfl, (fun _ _ => rfl), hF, trivial⟩, (by show va_P _ _ _ t.heap; rw [ht]; exact hP9)⟩, hS.F ht⟩) hS.2.2 dX12_paper_33
    · skip
      have t9177 := cv_eq (a := r9147.toInt) rfl (b := 0) (by decide) c9150
      refine lv_iconst (v := (-1)) hx hb dX12_paper_17 (by decide) ?_
      have hP9 : va_P (dC, dI) classes (wM g c v F rc) H := hP
      exact W.iret (v := (-1)) hx hb hr (fun t ht hW => ⟨⟨(-1), (v, F, rc), rfl, ⟨hI, rfl, (fun _ _ => rfl), hF, trivial⟩, (by show va_P _ _ _ t.heap; rw [ht]; exact hP9)⟩, hS.F ht⟩) hS.2.2 dX12_paper_18
set_option maxHeartbeats 8000000 in
set_option maxRecDepth 100000 in
theorem c_X12_stay (l : Launch) (dC : Nat → ClassId) (dI : Nat → Nat → Nat) (g : Nat → Nat) (c : Nat → ClassId) (adK adV : Nat → Nat) (v : Nat → Int32) (F : Nat → Nat → Int32) (rc sz : Nat) (p0 : Int32) (p1 : Int32) (p2 : Int32) (hg : injM g) (hI : IM v F) : Met l yX12_stay (Cond.code yX12_stay cX12_stay 5 (some .int) :: wA) ({ frames := 3, cells := 0, slots := 0, locals := 120 }) (va_Pc [.ref (g 0), .int p0, .int p1, .int p2] (PM dC dI g c adK adV v F rc sz)) (va_Qi (fun (r : Int32) (u : Unit) => True) (fun (_ : Unit) => BM dC dI g c (v, F, rc)) (AM g sz)) 0 0 (AM g sz) := by
  refine Met.ofW (cc := cX12_stay) (maxL := 5) (ret := (some .int)) (by decide) rfl ?_
  intro p e s m args below meth c0 s₁ B hml hv
  obtain ⟨rfl, hsz, hP, hK, hE⟩ := hv
  have hx := B.exec
  have hb := B.bytes
  have hr := B.returns
  have hts := atoms_spec (ws := Cond.code yX12_stay cX12_stay 5 (some .int) :: wA) B.pre
  have hwd : ∀ w ∈ wA, w.before _ s = true := fun w h => hts w (List.mem_cons_of_mem _ h)
  have hown : s.vm.findClass RX12 = some m.cls := findClass_of_methodNamed B.named
  have hlocks := B.notSynchronized
  subst hsz
  have hl := lv_entry ([.ref (g 0), .int p0, .int p1, .int p2]) (n := 5) (Nat.le_of_ble_eq_true rfl)
  rw [lg_entry_eq]
  generalize (lg_sl ([.ref (g 0), .int p0, .int p1, .int p2]) ++ List.replicate (5 - (lg_sl ([.ref (g 0), .int p0, .int p1, .int p2])).length) Slot.unset).toArray = ls at hl ⊢
  have hl : lv_has ls 5 [(0, .ref (g 0)), (1, .int p0), (2, .int p1), (3, .int p2)] := hl
  obtain ⟨H, eH⟩ : ∃ z, z = s.heap := ⟨_, rfl⟩
  have hP : va_P (dC, dI) classes (wM g c v F rc) H := by rw [eH]; exact hP
  have hS : va_S (AM g s.heap.size) s.heap H [] := by rw [eH]; exact va_S.rf
  refine my_heap eH ?_
  have rp0 := i32_rng p0
  have rp1 := i32_rng p1
  have rp2 := i32_rng p2
  refine lv_aload_n hx hb dX12_stay_0 rfl (lv_at hl 0 rfl) ?_
  refine lv_iload_n hx hb dX12_stay_1 rfl (lv_at hl 1 rfl) ?_
  have t9178 : 0 ≤ (v 14).toInt ∧ (v 14).toInt ≤ 100 := hI.1 14 _ _ rfl
  refine va_calli (va_runV (As := [.int p0]) (rest := []) ⟨hx, hb, hml, hown, hwd⟩ (c_X12_isPart l dC dI g c adK adV v F rc H.size p0 hg hI ) (cwV 1 hwd (gV wk_631 wk_628 wk_629 wk_630 wk_5) rfl rfl rfl (by decide +kernel) ⟨Nat.le_of_ble_eq_true rfl, Nat.le_of_ble_eq_true rfl⟩) ⟨PM.blind, va_recv hK hP (ci := 12) (q0 := 0) rfl rfl, fun U hU hW => ⟨rfl, PM.at hK hE hP hS hU hW⟩⟩ rfl rfl hl.1 rfl (lv_room (Nat.le_of_ble_eq_true rfl)) dX12_stay_2 ⟨Nat.le_of_ble_eq_true rfl, Nat.le_of_ble_eq_true rfl⟩) hS (fun q _ h => (freeM hS) q h) (freeM hS) (fun r9179 u t H1 locs ht hvm hw hB hz1 hk1 hS => ?_)
  unfold BM at hB
  rw [ht] at hB
  have hP : va_P (dC, dI) classes (wM g c v F rc) H1 := hB
  replace hw : (r9179.toInt = 1 ∧ 0 ≤ p0.toInt ∧ p0.toInt < (v 14).toInt) ∨ (r9179.toInt = 0 ∧ (p0.toInt < 0 ∨ (v 14).toInt ≤ p0.toInt)) := hw
  have hw_r9179 := hw
  clear hw
  clear hz1
  generalize H1 = H at hP hS ⊢
  refine lv_if_eq (tgt := 18) hx hb dX12_stay_5 (by decide) (fun c9180 => ?_) (fun c9180 => ?_)
  · skip
    have t9181 := cv_eq (a := r9179.toInt) rfl (b := 0) (by decide) c9180
    refine lv_ldc (v := (-2000000000)) hx hb hown (hwd _ wk_542) dX12_stay_18 ?_
    have hP9 : va_P (dC, dI) classes (wM g c v F rc) H := hP
    exact W.iret (v := (-2000000000)) hx hb hr (fun t ht hW => ⟨⟨(-2000000000), (), rfl, trivial, (by show va_P _ _ _ t.heap; rw [ht]; exact hP9)⟩, hS.F ht⟩) hS.2.2 dX12_stay_20
  · skip
    have t9182 := cv_ne (a := r9179.toInt) rfl (b := 0) (by decide) c9180
    refine lv_iload_n hx hb dX12_stay_8 rfl (lv_at hl 3 rfl) ?_
    refine lv_iconst (v := 0) hx hb dX12_stay_9 (by decide) ?_
    refine lv_bipush (v := 7) hx hb dX12_stay_10 (by decide) ?_
    refine va_calli (va_runS (As := [.int p2, .int 0, .int 7]) (rest := []) ⟨hx, hb, hml, hown, hwd⟩ (c_X12_in l dC dI g c adK adV v F rc H.size p2 0 7 hg hI ) (va_cwS 3 hwd (gT wk_254 wk_252 wk_253 wk_5) rfl rfl rfl (by decide +kernel) ⟨Nat.le_of_ble_eq_true rfl, Nat.le_of_ble_eq_true rfl⟩) ⟨PM.blind, fun U hU hW => ⟨rfl, PM.at hK hE hP hS hU hW⟩⟩ rfl rfl hl.1 rfl (lv_room (Nat.le_of_ble_eq_true rfl)) dX12_stay_12 ⟨Nat.le_of_ble_eq_true rfl, Nat.le_of_ble_eq_true rfl⟩) hS (fun q _ h => (freeM hS) q h) (freeM hS) (fun r9183 u t H1 locs ht hvm hw hB hz1 hk1 hS => ?_)
    unfold BM at hB
    rw [ht] at hB
    have hP : va_P (dC, dI) classes (wM g c v F rc) H1 := hB
    have hw_r9183 : (r9183.toInt = 1 ∧ (0 : Int32).toInt ≤ p2.toInt ∧ p2.toInt ≤ (7 : Int32).toInt) ∨ (r9183.toInt = 0 ∧ (p2.toInt < (0 : Int32).toInt ∨ (7 : Int32).toInt < p2.toInt)) := hw
    clear hw
    have k9184 : (0 : Int32).toInt = 0 := by decide
    have k9185 : (7 : Int32).toInt = 7 := by decide
    clear hz1
    generalize H1 = H at hP hS ⊢
    refine lv_if_ne (tgt := 21) hx hb dX12_stay_15 (by decide) (fun c9186 => ?_) (fun c9186 => ?_)
    · skip
      have t9187 := cv_ne (a := r9183.toInt) rfl (b := 0) (by decide) c9186
      refine lv_aload_n hx hb dX12_stay_21 rfl (lv_at hl 0 rfl) ?_
      refine lv_iload_n hx hb dX12_stay_22 rfl (lv_at hl 1 rfl) ?_
      refine lv_iload_n hx hb dX12_stay_23 rfl (lv_at hl 2 rfl) ?_
      have t9188 : 0 ≤ (v 19).toInt ∧ (v 19).toInt ≤ 500 := hI.1 19 _ _ rfl
      refine va_calli (va_runV (As := [.int p0, .int p1]) (rest := []) ⟨hx, hb, hml, hown, hwd⟩ (c_X12_stayOf l dC dI g c adK adV v F rc H.size p0 p1 hg hI ) (cwV 2 hwd (gV wk_744 wk_741 wk_742 wk_743 wk_5) rfl rfl rfl (by decide +kernel) ⟨Nat.le_of_ble_eq_true rfl, Nat.le_of_ble_eq_true rfl⟩) ⟨PM.blind, va_recv hK hP (ci := 12) (q0 := 0) rfl rfl, fun U hU hW => ⟨rfl, PM.at hK hE hP hS hU hW⟩⟩ rfl rfl hl.1 rfl (lv_room (Nat.le_of_ble_eq_true rfl)) dX12_stay_24 ⟨Nat.le_of_ble_eq_true rfl, Nat.le_of_ble_eq_true rfl⟩) hS (fun q _ h => (freeM hS) q h) (freeM hS) (fun r9189 u t H1 locs ht hvm hw hB hz1 hk1 hS => ?_)
      unfold BM at hB
      rw [ht] at hB
      have hP : va_P (dC, dI) classes (wM g c v F rc) H1 := hB
      replace hw : ((0 ≤ r9189.toInt ∧ r9189.toInt < (v 19).toInt) ∧ (F 15 r9189.toNatClampNeg).toInt = p0.toInt ∧ (cnt (ahP (F 15) (F 17) p0.toInt r9189.toNatClampNeg) (v 19).toNatClampNeg : Int) = p1.toInt) ∨ (r9189.toInt = -1 ∧ ∀ s : Nat, (s : Int) < (v 19).toInt → ((F 15 s).toInt = p0.toInt → (cnt (ahP (F 15) (F 17) p0.toInt s) (v 19).toNatClampNeg : Int) ≠ p1.toInt)) := hw
      have hw_r9189 := hw
      clear hw
      clear hz1
      generalize H1 = H at hP hS ⊢
      refine lv_istore (lv' := [(4, .int r9189), (0, .ref (g 0)), (1, .int p0), (2, .int p1), (3, .int p2)]) hx hb dX12_stay_27 hl (by decide) rfl (fun ls hl => ?_)
      refine lv_iload hx hb dX12_stay_29 (lv_at hl 0 rfl) ?_
      refine lv_if_ge (tgt := 37) hx hb dX12_stay_31 (by decide) (fun c9190 => ?_) (fun c9190 => ?_)
      · skip
        have t9191 := cv_le (a := 0) (by decide) (b := r9189.toInt) rfl c9190
        refine lv_iload_n hx hb dX12_stay_37 rfl (lv_at hl 4 rfl) ?_
        by_cases hlo9192 : p2.toInt < 0
        · refine lv_tableOut (tgt := 151) hx hb dX12_stay_38 (Or.inl hlo9192) (by decide) ?_
          refine lv_aload_n hx hb dX12_stay_151 rfl (lv_at hl 1 rfl) ?_
          refine va_get (D := (dC, dI)) (ci := 12) (v := .ref (g 23)) (C := RX12) (T := TX12) (N := 63) hx hb hwd inA_X12 hown hK hP 0 rfl rfl 28 (by decide) (hwd _ wk_204) (fun _ h9 => h9) rfl dX12_stay_152 ?_
          refine lv_iload hx hb dX12_stay_155 (lv_at hl 0 rfl) ?_
          refine va_zald hx hb hK hP 23 22 rfl rfl (i := r9189) (vin (a := r9189.toInt) rfl (by omega)) dX12_stay_157 ?_
          refine lv_topi (fun z9194 e9195 => ?_)
          refine lv_if_eq (tgt := 165) hx hb dX12_stay_158 (by decide) (fun c9196 => ?_) (fun c9196 => ?_)
          · skip
            have t9197 := cv_eq (a := z9194.toInt) rfl (b := 0) (by decide) c9196
            refine lv_iconst (v := 0) hx hb dX12_stay_165 (by decide) ?_
            have hP9 : va_P (dC, dI) classes (wM g c v F rc) H := hP
            exact W.iret (v := 0) hx hb hr (fun t ht hW => ⟨⟨0, (), rfl, trivial, (by show va_P _ _ _ t.heap; rw [ht]; exact hP9)⟩, hS.F ht⟩) hS.2.2 dX12_stay_166
          · skip
            have t9198 := cv_ne (a := z9194.toInt) rfl (b := 0) (by decide) c9196
            refine lv_iconst (v := 1) hx hb dX12_stay_161 (by decide) ?_
            refine lv_goto (tgt := 166) hx hb dX12_stay_162 (by decide) ?_
            have hP9 : va_P (dC, dI) classes (wM g c v F rc) H := hP
            exact W.iret (v := 1) hx hb hr (fun t ht hW => ⟨⟨1, (), rfl, trivial, (by show va_P _ _ _ t.heap; rw [ht]; exact hP9)⟩, hS.F ht⟩) hS.2.2 dX12_stay_166
        by_cases hhi9193 : 6 < p2.toInt
        · refine lv_tableOut (tgt := 151) hx hb dX12_stay_38 (Or.inr hhi9193) (by decide) ?_
          refine lv_aload_n hx hb dX12_stay_151 rfl (lv_at hl 1 rfl) ?_
          refine va_get (D := (dC, dI)) (ci := 12) (v := .ref (g 23)) (C := RX12) (T := TX12) (N := 63) hx hb hwd inA_X12 hown hK hP 0 rfl rfl 28 (by decide) (hwd _ wk_204) (fun _ h9 => h9) rfl dX12_stay_152 ?_
          refine lv_iload hx hb dX12_stay_155 (lv_at hl 0 rfl) ?_
          refine va_zald hx hb hK hP 23 22 rfl rfl (i := r9189) (vin (a := r9189.toInt) rfl (by omega)) dX12_stay_157 ?_
          refine lv_topi (fun z9199 e9200 => ?_)
          refine lv_if_eq (tgt := 165) hx hb dX12_stay_158 (by decide) (fun c9201 => ?_) (fun c9201 => ?_)
          · skip
            have t9202 := cv_eq (a := z9199.toInt) rfl (b := 0) (by decide) c9201
            refine lv_iconst (v := 0) hx hb dX12_stay_165 (by decide) ?_
            have hP9 : va_P (dC, dI) classes (wM g c v F rc) H := hP
            exact W.iret (v := 0) hx hb hr (fun t ht hW => ⟨⟨0, (), rfl, trivial, (by show va_P _ _ _ t.heap; rw [ht]; exact hP9)⟩, hS.F ht⟩) hS.2.2 dX12_stay_166
          · skip
            have t9203 := cv_ne (a := z9199.toInt) rfl (b := 0) (by decide) c9201
            refine lv_iconst (v := 1) hx hb dX12_stay_161 (by decide) ?_
            refine lv_goto (tgt := 166) hx hb dX12_stay_162 (by decide) ?_
            have hP9 : va_P (dC, dI) classes (wM g c v F rc) H := hP
            exact W.iret (v := 1) hx hb hr (fun t ht hW => ⟨⟨1, (), rfl, trivial, (by show va_P _ _ _ t.heap; rw [ht]; exact hP9)⟩, hS.F ht⟩) hS.2.2 dX12_stay_166
        rcases (show p2.toInt = 0 ∨ p2.toInt = 1 ∨ p2.toInt = 2 ∨ p2.toInt = 3 ∨ p2.toInt = 4 ∨ p2.toInt = 5 ∨ p2.toInt = 6 by omega) with hk | hk | hk | hk | hk | hk | hk
        · refine lv_tableIn (off := 42) (tgt := 80) hx hb dX12_stay_38 hlo9192 hhi9193 (by rw [hk]; decide) (by decide) ?_
          refine lv_aload_n hx hb dX12_stay_80 rfl (lv_at hl 1 rfl) ?_
          refine va_get (D := (dC, dI)) (ci := 12) (v := .ref (g 16)) (C := RX12) (T := TX12) (N := 63) hx hb hwd inA_X12 hown hK hP 0 rfl rfl 21 (by decide) (hwd _ wk_197) (fun _ h9 => h9) rfl dX12_stay_81 ?_
          refine lv_iload hx hb dX12_stay_84 (lv_at hl 0 rfl) ?_
          refine va_iald hx hb hK hP 16 15 rfl rfl (i := r9189) (vin (a := r9189.toInt) rfl (by omega)) dX12_stay_86 ?_
          refine lv_topi (fun z9204 e9205 => ?_)
          have t9206 : 0 ≤ z9204.toInt ∧ z9204.toInt ≤ 11 := by rw [e9205]; exact hI.2 16 _ _ rfl _
          have hP9 : va_P (dC, dI) classes (wM g c v F rc) H := hP
          exact W.iret (v := z9204) hx hb hr (fun t ht hW => ⟨⟨z9204, (), rfl, trivial, (by show va_P _ _ _ t.heap; rw [ht]; exact hP9)⟩, hS.F ht⟩) hS.2.2 dX12_stay_87
        · refine lv_tableIn (off := 50) (tgt := 88) hx hb dX12_stay_38 hlo9192 hhi9193 (by rw [hk]; decide) (by decide) ?_
          refine lv_aload_n hx hb dX12_stay_88 rfl (lv_at hl 1 rfl) ?_
          refine va_get (D := (dC, dI)) (ci := 12) (v := .ref (g 17)) (C := RX12) (T := TX12) (N := 63) hx hb hwd inA_X12 hown hK hP 0 rfl rfl 22 (by decide) (hwd _ wk_198) (fun _ h9 => h9) rfl dX12_stay_89 ?_
          refine lv_iload hx hb dX12_stay_92 (lv_at hl 0 rfl) ?_
          refine va_iald hx hb hK hP 17 16 rfl rfl (i := r9189) (vin (a := r9189.toInt) rfl (by omega)) dX12_stay_94 ?_
          refine lv_topi (fun z9207 e9208 => ?_)
          have hP9 : va_P (dC, dI) classes (wM g c v F rc) H := hP
          exact W.iret (v := z9207) hx hb hr (fun t ht hW => ⟨⟨z9207, (), rfl, trivial, (by show va_P _ _ _ t.heap; rw [ht]; exact hP9)⟩, hS.F ht⟩) hS.2.2 dX12_stay_95
        · refine lv_tableIn (off := 58) (tgt := 96) hx hb dX12_stay_38 hlo9192 hhi9193 (by rw [hk]; decide) (by decide) ?_
          refine lv_aload_n hx hb dX12_stay_96 rfl (lv_at hl 1 rfl) ?_
          refine va_get (D := (dC, dI)) (ci := 12) (v := .ref (g 18)) (C := RX12) (T := TX12) (N := 63) hx hb hwd inA_X12 hown hK hP 0 rfl rfl 23 (by decide) (hwd _ wk_199) (fun _ h9 => h9) rfl dX12_stay_97 ?_
          refine lv_iload hx hb dX12_stay_100 (lv_at hl 0 rfl) ?_
          refine va_iald hx hb hK hP 18 17 rfl rfl (i := r9189) (vin (a := r9189.toInt) rfl (by omega)) dX12_stay_102 ?_
          refine lv_topi (fun z9209 e9210 => ?_)
          refine lv_ldc (v := 1000000) hx hb hown (hwd _ wk_500) dX12_stay_103 ?_
          refine lv_icmp_ne (tgt := 113) hx hb dX12_stay_105 (by decide) (fun c9211 => ?_) (fun c9211 => ?_)
          · skip
            have t9212 := cv_ne (a := z9209.toInt) rfl (b := 1000000) (by decide) c9211
            refine lv_aload_n hx hb dX12_stay_113 rfl (lv_at hl 1 rfl) ?_
            refine va_get (D := (dC, dI)) (ci := 12) (v := .ref (g 18)) (C := RX12) (T := TX12) (N := 63) hx hb hwd inA_X12 hown hK hP 0 rfl rfl 23 (by decide) (hwd _ wk_199) (fun _ h9 => h9) rfl dX12_stay_114 ?_
            refine lv_iload hx hb dX12_stay_117 (lv_at hl 0 rfl) ?_
            refine va_iald hx hb hK hP 18 17 rfl rfl (i := r9189) (vin (a := r9189.toInt) rfl (by omega)) dX12_stay_119 ?_
            refine lv_topi (fun z9213 e9214 => ?_)
            have hP9 : va_P (dC, dI) classes (wM g c v F rc) H := hP
            exact W.iret (v := z9213) hx hb hr (fun t ht hW => ⟨⟨z9213, (), rfl, trivial, (by show va_P _ _ _ t.heap; rw [ht]; exact hP9)⟩, hS.F ht⟩) hS.2.2 dX12_stay_120
          · skip
            have t9215 := cv_eq (a := z9209.toInt) rfl (b := 1000000) (by decide) c9211
            refine lv_ldc (v := (-2000000000)) hx hb hown (hwd _ wk_542) dX12_stay_108 ?_
            refine lv_goto (tgt := 120) hx hb dX12_stay_110 (by decide) ?_
            have hP9 : va_P (dC, dI) classes (wM g c v F rc) H := hP
            exact W.iret (v := (-2000000000)) hx hb hr (fun t ht hW => ⟨⟨(-2000000000), (), rfl, trivial, (by show va_P _ _ _ t.heap; rw [ht]; exact hP9)⟩, hS.F ht⟩) hS.2.2 dX12_stay_120
        · refine lv_tableIn (off := 83) (tgt := 121) hx hb dX12_stay_38 hlo9192 hhi9193 (by rw [hk]; decide) (by decide) ?_
          refine lv_aload_n hx hb dX12_stay_121 rfl (lv_at hl 1 rfl) ?_
          refine va_get (D := (dC, dI)) (ci := 12) (v := .ref (g 19)) (C := RX12) (T := TX12) (N := 63) hx hb hwd inA_X12 hown hK hP 0 rfl rfl 24 (by decide) (hwd _ wk_200) (fun _ h9 => h9) rfl dX12_stay_122 ?_
          refine lv_iload hx hb dX12_stay_125 (lv_at hl 0 rfl) ?_
          refine va_iald hx hb hK hP 19 18 rfl rfl (i := r9189) (vin (a := r9189.toInt) rfl (by omega)) dX12_stay_127 ?_
          refine lv_topi (fun z9216 e9217 => ?_)
          have hP9 : va_P (dC, dI) classes (wM g c v F rc) H := hP
          exact W.iret (v := z9216) hx hb hr (fun t ht hW => ⟨⟨z9216, (), rfl, trivial, (by show va_P _ _ _ t.heap; rw [ht]; exact hP9)⟩, hS.F ht⟩) hS.2.2 dX12_stay_128
        · refine lv_tableIn (off := 91) (tgt := 129) hx hb dX12_stay_38 hlo9192 hhi9193 (by rw [hk]; decide) (by decide) ?_
          refine lv_aload_n hx hb dX12_stay_129 rfl (lv_at hl 1 rfl) ?_
          refine lv_iload hx hb dX12_stay_130 (lv_at hl 0 rfl) ?_
          refine va_calli (va_runV (As := [.int r9189]) (rest := []) ⟨hx, hb, hml, hown, hwd⟩ (c_X12_hoursEnd l dC dI g c adK adV v F rc H.size r9189 hg hI (by omega)) (cwV 1 hwd (gV wk_748 wk_745 wk_746 wk_747 wk_5) rfl rfl rfl (by decide +kernel) ⟨Nat.le_of_ble_eq_true rfl, Nat.le_of_ble_eq_true rfl⟩) ⟨PM.blind, va_recv hK hP (ci := 12) (q0 := 0) rfl rfl, fun U hU hW => ⟨rfl, PM.at hK hE hP hS hU hW⟩⟩ rfl rfl hl.1 rfl (lv_room (Nat.le_of_ble_eq_true rfl)) dX12_stay_132 ⟨Nat.le_of_ble_eq_true rfl, Nat.le_of_ble_eq_true rfl⟩) hS (fun q _ h => (freeM hS) q h) (freeM hS) (fun r9218 u t H1 locs ht hvm hw hB hz1 hk1 hS => ?_)
          unfold BM at hB
          rw [ht] at hB
          have hP : va_P (dC, dI) classes (wM g c v F rc) H1 := hB
          clear hz1
          generalize H1 = H at hP hS ⊢
          have rr_r9218 := i32_rng r9218
          have hP9 : va_P (dC, dI) classes (wM g c v F rc) H := hP
          exact W.iret (v := r9218) hx hb hr (fun t ht hW => ⟨⟨r9218, (), rfl, trivial, (by show va_P _ _ _ t.heap; rw [ht]; exact hP9)⟩, hS.F ht⟩) hS.2.2 dX12_stay_135
        · refine lv_tableIn (off := 98) (tgt := 136) hx hb dX12_stay_38 hlo9192 hhi9193 (by rw [hk]; decide) (by decide) ?_
          refine lv_aload_n hx hb dX12_stay_136 rfl (lv_at hl 1 rfl) ?_
          refine va_get (D := (dC, dI)) (ci := 12) (v := .ref (g 21)) (C := RX12) (T := TX12) (N := 63) hx hb hwd inA_X12 hown hK hP 0 rfl rfl 26 (by decide) (hwd _ wk_202) (fun _ h9 => h9) rfl dX12_stay_137 ?_
          refine lv_iload hx hb dX12_stay_140 (lv_at hl 0 rfl) ?_
          refine va_iald hx hb hK hP 21 20 rfl rfl (i := r9189) (vin (a := r9189.toInt) rfl (by omega)) dX12_stay_142 ?_
          refine lv_topi (fun z9219 e9220 => ?_)
          have hP9 : va_P (dC, dI) classes (wM g c v F rc) H := hP
          exact W.iret (v := z9219) hx hb hr (fun t ht hW => ⟨⟨z9219, (), rfl, trivial, (by show va_P _ _ _ t.heap; rw [ht]; exact hP9)⟩, hS.F ht⟩) hS.2.2 dX12_stay_143
        · refine lv_tableIn (off := 106) (tgt := 144) hx hb dX12_stay_38 hlo9192 hhi9193 (by rw [hk]; decide) (by decide) ?_
          refine lv_aload_n hx hb dX12_stay_144 rfl (lv_at hl 1 rfl) ?_
          refine lv_iload hx hb dX12_stay_145 (lv_at hl 0 rfl) ?_
          refine va_calli (va_runV (As := [.int r9189]) (rest := []) ⟨hx, hb, hml, hown, hwd⟩ (c_X12_landingsEnd l dC dI g c adK adV v F rc H.size r9189 hg hI (by omega)) (cwV 1 hwd (gV wk_752 wk_749 wk_750 wk_751 wk_5) rfl rfl rfl (by decide +kernel) ⟨Nat.le_of_ble_eq_true rfl, Nat.le_of_ble_eq_true rfl⟩) ⟨PM.blind, va_recv hK hP (ci := 12) (q0 := 0) rfl rfl, fun U hU hW => ⟨rfl, PM.at hK hE hP hS hU hW⟩⟩ rfl rfl hl.1 rfl (lv_room (Nat.le_of_ble_eq_true rfl)) dX12_stay_147 ⟨Nat.le_of_ble_eq_true rfl, Nat.le_of_ble_eq_true rfl⟩) hS (fun q _ h => (freeM hS) q h) (freeM hS) (fun r9221 u t H1 locs ht hvm hw hB hz1 hk1 hS => ?_)
          unfold BM at hB
          rw [ht] at hB
          have hP : va_P (dC, dI) classes (wM g c v F rc) H1 := hB
          clear hz1
          generalize H1 = H at hP hS ⊢
          have rr_r9221 := i32_rng r9221
          have hP9 : va_P (dC, dI) classes (wM g c v F rc) H := hP
          exact W.iret (v := r9221) hx hb hr (fun t ht hW => ⟨⟨r9221, (), rfl, trivial, (by show va_P _ _ _ t.heap; rw [ht]; exact hP9)⟩, hS.F ht⟩) hS.2.2 dX12_stay_150
      · skip
        have t9222 := cv_nle (a := 0) (by decide) (b := r9189.toInt) rfl c9190
        refine lv_ldc (v := (-2000000000)) hx hb hown (hwd _ wk_542) dX12_stay_34 ?_
        have hP9 : va_P (dC, dI) classes (wM g c v F rc) H := hP
        exact W.iret (v := (-2000000000)) hx hb hr (fun t ht hW => ⟨⟨(-2000000000), (), rfl, trivial, (by show va_P _ _ _ t.heap; rw [ht]; exact hP9)⟩, hS.F ht⟩) hS.2.2 dX12_stay_36
    · skip
      have t9223 := cv_eq (a := r9183.toInt) rfl (b := 0) (by decide) c9186
      refine lv_ldc (v := (-2000000000)) hx hb hown (hwd _ wk_542) dX12_stay_18 ?_
      have hP9 : va_P (dC, dI) classes (wM g c v F rc) H := hP
      exact W.iret (v := (-2000000000)) hx hb hr (fun t ht hW => ⟨⟨(-2000000000), (), rfl, trivial, (by show va_P _ _ _ t.heap; rw [ht]; exact hP9)⟩, hS.F ht⟩) hS.2.2 dX12_stay_20
theorem stay_pos {P T : Nat → Int32} {i : Int} {n k r : Int32} {m : Int} (hm : m = (cnt (stP P i) n.toNatClampNeg : Int)) (h0 : 0 ≤ k.toInt) (hk : k.toInt < m) (h : ((0 ≤ r.toInt ∧ r.toInt < n.toInt) ∧ (P r.toNatClampNeg).toInt = i ∧ (cnt (ahP P T i r.toNatClampNeg) n.toNatClampNeg : Int) = k.toInt) ∨ (r.toInt = -1 ∧ ∀ s : Nat, (s : Int) < n.toInt → ((P s).toInt = i → (cnt (ahP P T i s) n.toNatClampNeg : Int) ≠ k.toInt))) : 0 ≤ r.toInt ∧ r.toInt < n.toInt := by
  rcases h with h | ⟨-, h⟩
  · exact h.1
  · exfalso
    obtain ⟨s, h1, h2, h3⟩ := rank_surj P T i n.toNatClampNeg k.toInt.toNat (by omega)
    have e : n.toNatClampNeg = n.toInt.toNat := rfl
    exact h s (by omega) h2 (by rw [h3]; omega)
set_option maxHeartbeats 8000000 in
set_option maxRecDepth 100000 in
theorem c_X12_isLess (l : Launch) (dC : Nat → ClassId) (dI : Nat → Nat → Nat) (g : Nat → Nat) (c : Nat → ClassId) (adK adV : Nat → Nat) (v : Nat → Int32) (F : Nat → Nat → Int32) (rc sz : Nat) (p0 : Int32) (hg : injM g) (hI : IM v F) : Met l yX12_isLess (Cond.code yX12_isLess cX12_isLess 6 (some .boolean) :: wA) ({ frames := 3, cells := 0, slots := 0, locals := 120 }) (va_Pc [.ref (g 0), .int p0] (PM dC dI g c adK adV v F rc sz)) (va_Qi (fun (r : Int32) (u : Unit) => 0 ≤ r.toInt ∧ r.toInt ≤ 1) (fun (_ : Unit) => BM dC dI g c (v, F, rc)) (AM g sz)) 0 0 (AM g sz) := by
  refine Met.ofW (cc := cX12_isLess) (maxL := 6) (ret := (some .boolean)) (by decide) rfl ?_
  intro p e s m args below meth c0 s₁ B hml hv
  obtain ⟨rfl, hsz, hP, hK, hE⟩ := hv
  have hx := B.exec
  have hb := B.bytes
  have hr := B.returns
  have hts := atoms_spec (ws := Cond.code yX12_isLess cX12_isLess 6 (some .boolean) :: wA) B.pre
  have hwd : ∀ w ∈ wA, w.before _ s = true := fun w h => hts w (List.mem_cons_of_mem _ h)
  have hown : s.vm.findClass RX12 = some m.cls := findClass_of_methodNamed B.named
  have hlocks := B.notSynchronized
  subst hsz
  have hl := lv_entry ([.ref (g 0), .int p0]) (n := 6) (Nat.le_of_ble_eq_true rfl)
  rw [lg_entry_eq]
  generalize (lg_sl ([.ref (g 0), .int p0]) ++ List.replicate (6 - (lg_sl ([.ref (g 0), .int p0])).length) Slot.unset).toArray = ls at hl ⊢
  have hl : lv_has ls 6 [(0, .ref (g 0)), (1, .int p0)] := hl
  obtain ⟨H, eH⟩ : ∃ z, z = s.heap := ⟨_, rfl⟩
  have hP : va_P (dC, dI) classes (wM g c v F rc) H := by rw [eH]; exact hP
  have hS : va_S (AM g s.heap.size) s.heap H [] := by rw [eH]; exact va_S.rf
  refine my_heap eH ?_
  have rp0 := i32_rng p0
  refine lv_aload_n hx hb dX12_isLess_0 rfl (lv_at hl 0 rfl) ?_
  refine lv_iload_n hx hb dX12_isLess_1 rfl (lv_at hl 1 rfl) ?_
  have t9224 : 0 ≤ (v 19).toInt ∧ (v 19).toInt ≤ 500 := hI.1 19 _ _ rfl
  refine va_calli (va_runV (As := [.int p0]) (rest := []) ⟨hx, hb, hml, hown, hwd⟩ (c_X12_staysOf l dC dI g c adK adV v F rc H.size p0 hg hI ) (cwV 1 hwd (gV wk_720 wk_717 wk_718 wk_719 wk_5) rfl rfl rfl (by decide +kernel) ⟨Nat.le_of_ble_eq_true rfl, Nat.le_of_ble_eq_true rfl⟩) ⟨PM.blind, va_recv hK hP (ci := 12) (q0 := 0) rfl rfl, fun U hU hW => ⟨rfl, PM.at hK hE hP hS hU hW⟩⟩ rfl rfl hl.1 rfl (lv_room (Nat.le_of_ble_eq_true rfl)) dX12_isLess_2 ⟨Nat.le_of_ble_eq_true rfl, Nat.le_of_ble_eq_true rfl⟩) hS (fun q _ h => (freeM hS) q h) (freeM hS) (fun r9225 u t H1 locs ht hvm hw hB hz1 hk1 hS => ?_)
  unfold BM at hB
  rw [ht] at hB
  have hP : va_P (dC, dI) classes (wM g c v F rc) H1 := hB
  replace hw : r9225.toInt = (cnt (stP (F 15) p0.toInt) (v 19).toNatClampNeg : Int) := hw
  have hw_r9225 := hw
  clear hw
  clear hz1
  generalize H1 = H at hP hS ⊢
  have rr_r9225 := i32_rng r9225
  refine lv_istore_n (lv' := [(2, .int r9225), (0, .ref (g 0)), (1, .int p0)]) hx hb dX12_isLess_5 rfl hl (by decide) rfl (fun ls hl => ?_)
  refine lv_iconst (v := (-1)) hx hb dX12_isLess_6 (by decide) ?_
  refine lv_istore_n (lv' := [(3, .int (-1)), (2, .int r9225), (0, .ref (g 0)), (1, .int p0)]) hx hb dX12_isLess_7 rfl hl (by decide) rfl (fun ls hl => ?_)
  refine lv_iconst (v := 0) hx hb dX12_isLess_8 (by decide) ?_
  refine lv_istore (lv' := [(4, .int 0), (3, .int (-1)), (2, .int r9225), (0, .ref (g 0)), (1, .int p0)]) hx hb dX12_isLess_9 hl (by decide) rfl (fun ls hl => ?_)
  have lp9226 : ∀ (n : Nat) (x4_lp9226 : Int32) (x3_lp9226 : Int32) (H : Heap) (locs : List Loc) (ls : Array Slot), (0 ≤ x4_lp9226.toInt) → (-1 ≤ x3_lp9226.toInt) → (x3_lp9226.toInt ≤ 499) → (2147483648 - x4_lp9226.toInt ≤ (n : Int)) → va_P (dC, dI) classes (wM g c v F rc) H → va_S (AM g s.heap.size) s.heap H locs → lv_has ls 6 [(4, .int x4_lp9226), (3, .int x3_lp9226), (2, .int r9225), (0, .ref (g 0)), (1, .int p0)] → W p l e (headSpec (Cond.code yX12_isLess cX12_isLess 6 (some .boolean) :: wA) ({ frames := 3, cells := 0, slots := 0, locals := 120 })).room s m ([.ref (g 0), .int p0] : List Value).toArray below meth c0 H locs 0 0 (MQ below (va_Qi (fun (r : Int32) (u : Unit) => 0 ≤ r.toInt ∧ r.toInt ≤ 1) (fun (_ : Unit) => BM dC dI g c (v, F, rc)) (AM g s.heap.size)) ([.ref (g 0), .int p0] : List Value).toArray s 0 0 (AM g s.heap.size)) (F0 m 11 ls []) := by
    intro n
    induction n with
    | zero =>
      intro x4_lp9226 x3_lp9226 H locs ls t9227 t9228 t9229 hm hP hS hl
      exfalso
      have := i32_rng x4_lp9226
      have := i32_rng x3_lp9226
      omega
    | succ n ih_lp9226 =>
      intro x4_lp9226 x3_lp9226 H locs ls t9227 t9228 t9229 hm hP hS hl
      have rx4_lp9226 := i32_rng x4_lp9226
      have rx3_lp9226 := i32_rng x3_lp9226
      refine lv_iload hx hb dX12_isLess_11 (lv_at hl 0 rfl) ?_
      refine lv_iload_n hx hb dX12_isLess_13 rfl (lv_at hl 2 rfl) ?_
      refine lv_icmp_ge (tgt := 140) hx hb dX12_isLess_14 (by decide) (fun c9230 => ?_) (fun c9230 => ?_)
      · skip
        have t9231 := cv_le (a := r9225.toInt) rfl (b := x4_lp9226.toInt) rfl c9230
        refine lv_iconst (v := 0) hx hb dX12_isLess_140 (by decide) ?_
        have hP9 : va_P (dC, dI) classes (wM g c v F rc) H := hP
        exact W.zret (v := 0) hx hb hr (rfl) (fun t ht hW => ⟨⟨0, (), rfl, by have : (0 : Int32).toInt = 0 := (by decide); omega, (by show va_P _ _ _ t.heap; rw [ht]; exact hP9)⟩, hS.F ht⟩) hS.2.2 dX12_isLess_141
      · skip
        have t9232 := cv_nle (a := r9225.toInt) rfl (b := x4_lp9226.toInt) rfl c9230
        refine lv_aload_n hx hb dX12_isLess_17 rfl (lv_at hl 3 rfl) ?_
        refine lv_iload_n hx hb dX12_isLess_18 rfl (lv_at hl 4 rfl) ?_
        refine lv_iload hx hb dX12_isLess_19 (lv_at hl 0 rfl) ?_
        have t9233 : 0 ≤ (v 19).toInt ∧ (v 19).toInt ≤ 500 := hI.1 19 _ _ rfl
        refine va_calli (va_runV (As := [.int p0, .int x4_lp9226]) (rest := []) ⟨hx, hb, hml, hown, hwd⟩ (c_X12_stayOf l dC dI g c adK adV v F rc H.size p0 x4_lp9226 hg hI ) (cwV 2 hwd (gV wk_744 wk_741 wk_742 wk_743 wk_5) rfl rfl rfl (by decide +kernel) ⟨Nat.le_of_ble_eq_true rfl, Nat.le_of_ble_eq_true rfl⟩) ⟨PM.blind, va_recv hK hP (ci := 12) (q0 := 0) rfl rfl, fun U hU hW => ⟨rfl, PM.at hK hE hP hS hU hW⟩⟩ rfl rfl hl.1 rfl (lv_room (Nat.le_of_ble_eq_true rfl)) dX12_isLess_21 ⟨Nat.le_of_ble_eq_true rfl, Nat.le_of_ble_eq_true rfl⟩) hS (fun q _ h => (freeM hS) q h) (freeM hS) (fun r9234 u t H1 locs ht hvm hw hB hz1 hk1 hS => ?_)
        unfold BM at hB
        rw [ht] at hB
        have hP : va_P (dC, dI) classes (wM g c v F rc) H1 := hB
        replace hw : ((0 ≤ r9234.toInt ∧ r9234.toInt < (v 19).toInt) ∧ (F 15 r9234.toNatClampNeg).toInt = p0.toInt ∧ (cnt (ahP (F 15) (F 17) p0.toInt r9234.toNatClampNeg) (v 19).toNatClampNeg : Int) = x4_lp9226.toInt) ∨ (r9234.toInt = -1 ∧ ∀ s : Nat, (s : Int) < (v 19).toInt → ((F 15 s).toInt = p0.toInt → (cnt (ahP (F 15) (F 17) p0.toInt s) (v 19).toNatClampNeg : Int) ≠ x4_lp9226.toInt)) := hw
        have hw_r9234 := hw
        clear hw
        clear hz1
        generalize H1 = H at hP hS ⊢
        have hs_r9234 := stay_pos hw_r9225 (k := x4_lp9226) (by omega) (by omega) hw_r9234
        refine lv_istore (lv' := [(5, .int r9234), (4, .int x4_lp9226), (3, .int x3_lp9226), (2, .int r9225), (0, .ref (g 0)), (1, .int p0)]) hx hb dX12_isLess_24 hl (by decide) rfl (fun ls hl => ?_)
        refine lv_aload_n hx hb dX12_isLess_26 rfl (lv_at hl 4 rfl) ?_
        refine va_get (D := (dC, dI)) (ci := 12) (v := .ref (g 16)) (C := RX12) (T := TX12) (N := 63) hx hb hwd inA_X12 hown hK hP 0 rfl rfl 21 (by decide) (hwd _ wk_197) (fun _ h9 => h9) rfl dX12_isLess_27 ?_
        refine lv_iload hx hb dX12_isLess_30 (lv_at hl 0 rfl) ?_
        refine va_iald hx hb hK hP 16 15 rfl rfl (i := r9234) (vin (a := r9234.toInt) rfl (by omega)) dX12_isLess_32 ?_
        refine lv_topi (fun z9235 e9236 => ?_)
        have t9237 : 0 ≤ z9235.toInt ∧ z9235.toInt ≤ 11 := by rw [e9236]; exact hI.2 16 _ _ rfl _
        have tzz9235 : z9235.toInt = (F 16 (r9234 : Int32).toNatClampNeg).toInt := congrArg Int32.toInt e9236
        refine lv_bipush (v := 10) hx hb dX12_isLess_33 (by decide) ?_
        refine lv_icmp_eq (tgt := 72) hx hb dX12_isLess_35 (by decide) (fun c9238 => ?_) (fun c9238 => ?_)
        · skip
          have t9239 := cv_eq (a := z9235.toInt) rfl (b := 10) (by decide) c9238
          refine lv_iload_n hx hb dX12_isLess_72 rfl (lv_at hl 2 rfl) ?_
          refine lv_if_lt (tgt := 131) hx hb dX12_isLess_73 (by decide) (fun c9240 => ?_) (fun c9240 => ?_)
          · skip
            have t9241 := cv_lt (a := x3_lp9226.toInt) rfl (b := 0) (by decide) c9240
            refine lv_iload hx hb dX12_isLess_131 (lv_at hl 0 rfl) ?_
            refine lv_istore_n (lv' := [(3, .int r9234), (5, .int r9234), (4, .int x4_lp9226), (2, .int r9225), (0, .ref (g 0)), (1, .int p0)]) hx hb dX12_isLess_133 rfl hl (by decide) rfl (fun ls hl => ?_)
            obtain ⟨z9242, e9243⟩ : ∃ y : Int32, y = x4_lp9226 + 1 := ⟨_, rfl⟩
            try (have t9244 := tadd e9243 rfl (b := 1) (by decide) (by omega))
            refine lv_iinc (v := z9242) (lv' := [(4, .int z9242), (3, .int r9234), (5, .int r9234), (2, .int r9225), (0, .ref (g 0)), (1, .int p0)]) hx hb dX12_isLess_134 hl (k := 2) rfl (by rw [e9243]; rfl) (by decide) rfl (fun ls hl => ?_)
            refine lv_goto (tgt := 11) hx hb dX12_isLess_137 (by decide) ?_
            exact ih_lp9226 z9242 r9234  _ _ _ (by omega) (by omega) (by omega) (by omega) hP hS (lv_sub hl [0, 1, 3, 4, 5] rfl)
          · skip
            have t9245 := cv_nlt (a := x3_lp9226.toInt) rfl (b := 0) (by decide) c9240
            refine lv_aload_n hx hb dX12_isLess_76 rfl (lv_at hl 4 rfl) ?_
            refine va_get (D := (dC, dI)) (ci := 12) (v := .ref (g 16)) (C := RX12) (T := TX12) (N := 63) hx hb hwd inA_X12 hown hK hP 0 rfl rfl 21 (by decide) (hwd _ wk_197) (fun _ h9 => h9) rfl dX12_isLess_77 ?_
            refine lv_iload_n hx hb dX12_isLess_80 rfl (lv_at hl 2 rfl) ?_
            refine va_iald hx hb hK hP 16 15 rfl rfl (i := x3_lp9226) (vin (a := x3_lp9226.toInt) rfl (by omega)) dX12_isLess_81 ?_
            refine lv_topi (fun z9246 e9247 => ?_)
            have t9248 : 0 ≤ z9246.toInt ∧ z9246.toInt ≤ 11 := by rw [e9247]; exact hI.2 16 _ _ rfl _
            have tzz9246 : z9246.toInt = (F 16 (x3_lp9226 : Int32).toNatClampNeg).toInt := congrArg Int32.toInt e9247
            refine lv_bipush (v := 10) hx hb dX12_isLess_82 (by decide) ?_
            refine lv_icmp_eq (tgt := 131) hx hb dX12_isLess_84 (by decide) (fun c9249 => ?_) (fun c9249 => ?_)
            · skip
              have t9250 := cv_eq (a := z9246.toInt) rfl (b := 10) (by decide) c9249
              refine lv_iload hx hb dX12_isLess_131 (lv_at hl 0 rfl) ?_
              refine lv_istore_n (lv' := [(3, .int r9234), (5, .int r9234), (4, .int x4_lp9226), (2, .int r9225), (0, .ref (g 0)), (1, .int p0)]) hx hb dX12_isLess_133 rfl hl (by decide) rfl (fun ls hl => ?_)
              obtain ⟨z9251, e9252⟩ : ∃ y : Int32, y = x4_lp9226 + 1 := ⟨_, rfl⟩
              try (have t9253 := tadd e9252 rfl (b := 1) (by decide) (by omega))
              refine lv_iinc (v := z9251) (lv' := [(4, .int z9251), (3, .int r9234), (5, .int r9234), (2, .int r9225), (0, .ref (g 0)), (1, .int p0)]) hx hb dX12_isLess_134 hl (k := 2) rfl (by rw [e9252]; rfl) (by decide) rfl (fun ls hl => ?_)
              refine lv_goto (tgt := 11) hx hb dX12_isLess_137 (by decide) ?_
              exact ih_lp9226 z9251 r9234  _ _ _ (by omega) (by omega) (by omega) (by omega) hP hS (lv_sub hl [0, 1, 3, 4, 5] rfl)
            · skip
              have t9254 := cv_ne (a := z9246.toInt) rfl (b := 10) (by decide) c9249
              refine lv_aload_n hx hb dX12_isLess_87 rfl (lv_at hl 4 rfl) ?_
              refine va_get (D := (dC, dI)) (ci := 12) (v := .ref (g 16)) (C := RX12) (T := TX12) (N := 63) hx hb hwd inA_X12 hown hK hP 0 rfl rfl 21 (by decide) (hwd _ wk_197) (fun _ h9 => h9) rfl dX12_isLess_88 ?_
              refine lv_iload hx hb dX12_isLess_91 (lv_at hl 0 rfl) ?_
              refine va_iald hx hb hK hP 16 15 rfl rfl (i := r9234) (vin (a := r9234.toInt) rfl (by omega)) dX12_isLess_93 ?_
              refine lv_topi (fun z9255 e9256 => ?_)
              have t9257 : 0 ≤ z9255.toInt ∧ z9255.toInt ≤ 11 := by rw [e9256]; exact hI.2 16 _ _ rfl _
              have tzz9255 : z9255.toInt = (F 16 (r9234 : Int32).toNatClampNeg).toInt := congrArg Int32.toInt e9256
              refine lv_bipush (v := 10) hx hb dX12_isLess_94 (by decide) ?_
              refine lv_icmp_eq (tgt := 131) hx hb dX12_isLess_96 (by decide) (fun c9258 => ?_) (fun c9258 => ?_)
              · skip
                have t9259 := cv_eq (a := z9255.toInt) rfl (b := 10) (by decide) c9258
                refine lv_iload hx hb dX12_isLess_131 (lv_at hl 0 rfl) ?_
                refine lv_istore_n (lv' := [(3, .int r9234), (5, .int r9234), (4, .int x4_lp9226), (2, .int r9225), (0, .ref (g 0)), (1, .int p0)]) hx hb dX12_isLess_133 rfl hl (by decide) rfl (fun ls hl => ?_)
                obtain ⟨z9260, e9261⟩ : ∃ y : Int32, y = x4_lp9226 + 1 := ⟨_, rfl⟩
                try (have t9262 := tadd e9261 rfl (b := 1) (by decide) (by omega))
                refine lv_iinc (v := z9260) (lv' := [(4, .int z9260), (3, .int r9234), (5, .int r9234), (2, .int r9225), (0, .ref (g 0)), (1, .int p0)]) hx hb dX12_isLess_134 hl (k := 2) rfl (by rw [e9261]; rfl) (by decide) rfl (fun ls hl => ?_)
                refine lv_goto (tgt := 11) hx hb dX12_isLess_137 (by decide) ?_
                exact ih_lp9226 z9260 r9234  _ _ _ (by omega) (by omega) (by omega) (by omega) hP hS (lv_sub hl [0, 1, 3, 4, 5] rfl)
              · skip
                have t9263 := cv_ne (a := z9255.toInt) rfl (b := 10) (by decide) c9258
                refine lv_aload_n hx hb dX12_isLess_99 rfl (lv_at hl 4 rfl) ?_
                refine va_get (D := (dC, dI)) (ci := 12) (v := .ref (g 19)) (C := RX12) (T := TX12) (N := 63) hx hb hwd inA_X12 hown hK hP 0 rfl rfl 24 (by decide) (hwd _ wk_200) (fun _ h9 => h9) rfl dX12_isLess_100 ?_
                refine lv_iload hx hb dX12_isLess_103 (lv_at hl 0 rfl) ?_
                refine va_iald hx hb hK hP 19 18 rfl rfl (i := r9234) (vin (a := r9234.toInt) rfl (by omega)) dX12_isLess_105 ?_
                refine lv_topi (fun z9264 e9265 => ?_)
                have tzz9264 : z9264.toInt = (F 19 (r9234 : Int32).toNatClampNeg).toInt := congrArg Int32.toInt e9265
                refine lv_aload_n hx hb dX12_isLess_106 rfl (lv_at hl 4 rfl) ?_
                refine lv_iload_n hx hb dX12_isLess_107 rfl (lv_at hl 2 rfl) ?_
                refine va_calli (va_runV (As := [.int x3_lp9226]) (rest := [.int z9264]) ⟨hx, hb, hml, hown, hwd⟩ (c_X12_hoursEnd l dC dI g c adK adV v F rc H.size x3_lp9226 hg hI (by omega)) (cwV 1 hwd (gV wk_748 wk_745 wk_746 wk_747 wk_5) rfl rfl rfl (by decide +kernel) ⟨Nat.le_of_ble_eq_true rfl, Nat.le_of_ble_eq_true rfl⟩) ⟨PM.blind, va_recv hK hP (ci := 12) (q0 := 0) rfl rfl, fun U hU hW => ⟨rfl, PM.at hK hE hP hS hU hW⟩⟩ rfl rfl hl.1 rfl (lv_room (Nat.le_of_ble_eq_true rfl)) dX12_isLess_108 ⟨Nat.le_of_ble_eq_true rfl, Nat.le_of_ble_eq_true rfl⟩) hS (fun q _ h => (freeM hS) q h) (freeM hS) (fun r9266 u t H1 locs ht hvm hw hB hz1 hk1 hS => ?_)
                unfold BM at hB
                rw [ht] at hB
                have hP : va_P (dC, dI) classes (wM g c v F rc) H1 := hB
                clear hz1
                generalize H1 = H at hP hS ⊢
                have rr_r9266 := i32_rng r9266
                refine lv_icmp_lt (tgt := 129) hx hb dX12_isLess_111 (by decide) (fun c9267 => ?_) (fun c9267 => ?_)
                · skip
                  have t9268 := cv_lt (a := z9264.toInt) rfl (b := r9266.toInt) rfl c9267
                  refine lv_iconst (v := 1) hx hb dX12_isLess_129 (by decide) ?_
                  have hP9 : va_P (dC, dI) classes (wM g c v F rc) H := hP
                  exact W.zret (v := 1) hx hb hr (rfl) (fun t ht hW => ⟨⟨1, (), rfl, by have : (1 : Int32).toInt = 1 := (by decide); omega, (by show va_P _ _ _ t.heap; rw [ht]; exact hP9)⟩, hS.F ht⟩) hS.2.2 dX12_isLess_130
                · skip
                  have t9269 := cv_nlt (a := z9264.toInt) rfl (b := r9266.toInt) rfl c9267
                  refine lv_aload_n hx hb dX12_isLess_114 rfl (lv_at hl 4 rfl) ?_
                  refine va_get (D := (dC, dI)) (ci := 12) (v := .ref (g 21)) (C := RX12) (T := TX12) (N := 63) hx hb hwd inA_X12 hown hK hP 0 rfl rfl 26 (by decide) (hwd _ wk_202) (fun _ h9 => h9) rfl dX12_isLess_115 ?_
                  refine lv_iload hx hb dX12_isLess_118 (lv_at hl 0 rfl) ?_
                  refine va_iald hx hb hK hP 21 20 rfl rfl (i := r9234) (vin (a := r9234.toInt) rfl (by omega)) dX12_isLess_120 ?_
                  refine lv_topi (fun z9270 e9271 => ?_)
                  have tzz9270 : z9270.toInt = (F 21 (r9234 : Int32).toNatClampNeg).toInt := congrArg Int32.toInt e9271
                  refine lv_aload_n hx hb dX12_isLess_121 rfl (lv_at hl 4 rfl) ?_
                  refine lv_iload_n hx hb dX12_isLess_122 rfl (lv_at hl 2 rfl) ?_
                  refine va_calli (va_runV (As := [.int x3_lp9226]) (rest := [.int z9270]) ⟨hx, hb, hml, hown, hwd⟩ (c_X12_landingsEnd l dC dI g c adK adV v F rc H.size x3_lp9226 hg hI (by omega)) (cwV 1 hwd (gV wk_752 wk_749 wk_750 wk_751 wk_5) rfl rfl rfl (by decide +kernel) ⟨Nat.le_of_ble_eq_true rfl, Nat.le_of_ble_eq_true rfl⟩) ⟨PM.blind, va_recv hK hP (ci := 12) (q0 := 0) rfl rfl, fun U hU hW => ⟨rfl, PM.at hK hE hP hS hU hW⟩⟩ rfl rfl hl.1 rfl (lv_room (Nat.le_of_ble_eq_true rfl)) dX12_isLess_123 ⟨Nat.le_of_ble_eq_true rfl, Nat.le_of_ble_eq_true rfl⟩) hS (fun q _ h => (freeM hS) q h) (freeM hS) (fun r9272 u t H1 locs ht hvm hw hB hz1 hk1 hS => ?_)
                  unfold BM at hB
                  rw [ht] at hB
                  have hP : va_P (dC, dI) classes (wM g c v F rc) H1 := hB
                  clear hz1
                  generalize H1 = H at hP hS ⊢
                  have rr_r9272 := i32_rng r9272
                  refine lv_icmp_ge (tgt := 131) hx hb dX12_isLess_126 (by decide) (fun c9273 => ?_) (fun c9273 => ?_)
                  · skip
                    have t9274 := cv_le (a := r9272.toInt) rfl (b := z9270.toInt) rfl c9273
                    refine lv_iload hx hb dX12_isLess_131 (lv_at hl 0 rfl) ?_
                    refine lv_istore_n (lv' := [(3, .int r9234), (5, .int r9234), (4, .int x4_lp9226), (2, .int r9225), (0, .ref (g 0)), (1, .int p0)]) hx hb dX12_isLess_133 rfl hl (by decide) rfl (fun ls hl => ?_)
                    obtain ⟨z9275, e9276⟩ : ∃ y : Int32, y = x4_lp9226 + 1 := ⟨_, rfl⟩
                    try (have t9277 := tadd e9276 rfl (b := 1) (by decide) (by omega))
                    refine lv_iinc (v := z9275) (lv' := [(4, .int z9275), (3, .int r9234), (5, .int r9234), (2, .int r9225), (0, .ref (g 0)), (1, .int p0)]) hx hb dX12_isLess_134 hl (k := 2) rfl (by rw [e9276]; rfl) (by decide) rfl (fun ls hl => ?_)
                    refine lv_goto (tgt := 11) hx hb dX12_isLess_137 (by decide) ?_
                    exact ih_lp9226 z9275 r9234  _ _ _ (by omega) (by omega) (by omega) (by omega) hP hS (lv_sub hl [0, 1, 3, 4, 5] rfl)
                  · skip
                    have t9278 := cv_nle (a := r9272.toInt) rfl (b := z9270.toInt) rfl c9273
                    refine lv_iconst (v := 1) hx hb dX12_isLess_129 (by decide) ?_
                    have hP9 : va_P (dC, dI) classes (wM g c v F rc) H := hP
                    exact W.zret (v := 1) hx hb hr (rfl) (fun t ht hW => ⟨⟨1, (), rfl, by have : (1 : Int32).toInt = 1 := (by decide); omega, (by show va_P _ _ _ t.heap; rw [ht]; exact hP9)⟩, hS.F ht⟩) hS.2.2 dX12_isLess_130
        · skip
          have t9279 := cv_ne (a := z9235.toInt) rfl (b := 10) (by decide) c9238
          refine lv_aload_n hx hb dX12_isLess_38 rfl (lv_at hl 4 rfl) ?_
          refine lv_iload hx hb dX12_isLess_39 (lv_at hl 0 rfl) ?_
          refine va_calli (va_runV (As := [.int r9234]) (rest := []) ⟨hx, hb, hml, hown, hwd⟩ (c_X12_hoursEnd l dC dI g c adK adV v F rc H.size r9234 hg hI (by omega)) (cwV 1 hwd (gV wk_748 wk_745 wk_746 wk_747 wk_5) rfl rfl rfl (by decide +kernel) ⟨Nat.le_of_ble_eq_true rfl, Nat.le_of_ble_eq_true rfl⟩) ⟨PM.blind, va_recv hK hP (ci := 12) (q0 := 0) rfl rfl, fun U hU hW => ⟨rfl, PM.at hK hE hP hS hU hW⟩⟩ rfl rfl hl.1 rfl (lv_room (Nat.le_of_ble_eq_true rfl)) dX12_isLess_41 ⟨Nat.le_of_ble_eq_true rfl, Nat.le_of_ble_eq_true rfl⟩) hS (fun q _ h => (freeM hS) q h) (freeM hS) (fun r9280 u t H1 locs ht hvm hw hB hz1 hk1 hS => ?_)
          unfold BM at hB
          rw [ht] at hB
          have hP : va_P (dC, dI) classes (wM g c v F rc) H1 := hB
          clear hz1
          generalize H1 = H at hP hS ⊢
          have rr_r9280 := i32_rng r9280
          refine lv_aload_n hx hb dX12_isLess_44 rfl (lv_at hl 4 rfl) ?_
          refine va_get (D := (dC, dI)) (ci := 12) (v := .ref (g 19)) (C := RX12) (T := TX12) (N := 63) hx hb hwd inA_X12 hown hK hP 0 rfl rfl 24 (by decide) (hwd _ wk_200) (fun _ h9 => h9) rfl dX12_isLess_45 ?_
          refine lv_iload hx hb dX12_isLess_48 (lv_at hl 0 rfl) ?_
          refine va_iald hx hb hK hP 19 18 rfl rfl (i := r9234) (vin (a := r9234.toInt) rfl (by omega)) dX12_isLess_50 ?_
          refine lv_topi (fun z9281 e9282 => ?_)
          have tzz9281 : z9281.toInt = (F 19 (r9234 : Int32).toNatClampNeg).toInt := congrArg Int32.toInt e9282
          refine lv_icmp_lt (tgt := 70) hx hb dX12_isLess_51 (by decide) (fun c9283 => ?_) (fun c9283 => ?_)
          · skip
            have t9284 := cv_lt (a := r9280.toInt) rfl (b := z9281.toInt) rfl c9283
            refine lv_iconst (v := 1) hx hb dX12_isLess_70 (by decide) ?_
            have hP9 : va_P (dC, dI) classes (wM g c v F rc) H := hP
            exact W.zret (v := 1) hx hb hr (rfl) (fun t ht hW => ⟨⟨1, (), rfl, by have : (1 : Int32).toInt = 1 := (by decide); omega, (by show va_P _ _ _ t.heap; rw [ht]; exact hP9)⟩, hS.F ht⟩) hS.2.2 dX12_isLess_71
          · skip
            have t9285 := cv_nlt (a := r9280.toInt) rfl (b := z9281.toInt) rfl c9283
            refine lv_aload_n hx hb dX12_isLess_54 rfl (lv_at hl 4 rfl) ?_
            refine lv_iload hx hb dX12_isLess_55 (lv_at hl 0 rfl) ?_
            refine va_calli (va_runV (As := [.int r9234]) (rest := []) ⟨hx, hb, hml, hown, hwd⟩ (c_X12_landingsEnd l dC dI g c adK adV v F rc H.size r9234 hg hI (by omega)) (cwV 1 hwd (gV wk_752 wk_749 wk_750 wk_751 wk_5) rfl rfl rfl (by decide +kernel) ⟨Nat.le_of_ble_eq_true rfl, Nat.le_of_ble_eq_true rfl⟩) ⟨PM.blind, va_recv hK hP (ci := 12) (q0 := 0) rfl rfl, fun U hU hW => ⟨rfl, PM.at hK hE hP hS hU hW⟩⟩ rfl rfl hl.1 rfl (lv_room (Nat.le_of_ble_eq_true rfl)) dX12_isLess_57 ⟨Nat.le_of_ble_eq_true rfl, Nat.le_of_ble_eq_true rfl⟩) hS (fun q _ h => (freeM hS) q h) (freeM hS) (fun r9286 u t H1 locs ht hvm hw hB hz1 hk1 hS => ?_)
            unfold BM at hB
            rw [ht] at hB
            have hP : va_P (dC, dI) classes (wM g c v F rc) H1 := hB
            clear hz1
            generalize H1 = H at hP hS ⊢
            have rr_r9286 := i32_rng r9286
            refine lv_aload_n hx hb dX12_isLess_60 rfl (lv_at hl 4 rfl) ?_
            refine va_get (D := (dC, dI)) (ci := 12) (v := .ref (g 21)) (C := RX12) (T := TX12) (N := 63) hx hb hwd inA_X12 hown hK hP 0 rfl rfl 26 (by decide) (hwd _ wk_202) (fun _ h9 => h9) rfl dX12_isLess_61 ?_
            refine lv_iload hx hb dX12_isLess_64 (lv_at hl 0 rfl) ?_
            refine va_iald hx hb hK hP 21 20 rfl rfl (i := r9234) (vin (a := r9234.toInt) rfl (by omega)) dX12_isLess_66 ?_
            refine lv_topi (fun z9287 e9288 => ?_)
            have tzz9287 : z9287.toInt = (F 21 (r9234 : Int32).toNatClampNeg).toInt := congrArg Int32.toInt e9288
            refine lv_icmp_ge (tgt := 72) hx hb dX12_isLess_67 (by decide) (fun c9289 => ?_) (fun c9289 => ?_)
            · skip
              have t9290 := cv_le (a := z9287.toInt) rfl (b := r9286.toInt) rfl c9289
              refine lv_iload_n hx hb dX12_isLess_72 rfl (lv_at hl 2 rfl) ?_
              refine lv_if_lt (tgt := 131) hx hb dX12_isLess_73 (by decide) (fun c9291 => ?_) (fun c9291 => ?_)
              · skip
                have t9292 := cv_lt (a := x3_lp9226.toInt) rfl (b := 0) (by decide) c9291
                refine lv_iload hx hb dX12_isLess_131 (lv_at hl 0 rfl) ?_
                refine lv_istore_n (lv' := [(3, .int r9234), (5, .int r9234), (4, .int x4_lp9226), (2, .int r9225), (0, .ref (g 0)), (1, .int p0)]) hx hb dX12_isLess_133 rfl hl (by decide) rfl (fun ls hl => ?_)
                obtain ⟨z9293, e9294⟩ : ∃ y : Int32, y = x4_lp9226 + 1 := ⟨_, rfl⟩
                try (have t9295 := tadd e9294 rfl (b := 1) (by decide) (by omega))
                refine lv_iinc (v := z9293) (lv' := [(4, .int z9293), (3, .int r9234), (5, .int r9234), (2, .int r9225), (0, .ref (g 0)), (1, .int p0)]) hx hb dX12_isLess_134 hl (k := 2) rfl (by rw [e9294]; rfl) (by decide) rfl (fun ls hl => ?_)
                refine lv_goto (tgt := 11) hx hb dX12_isLess_137 (by decide) ?_
                exact ih_lp9226 z9293 r9234  _ _ _ (by omega) (by omega) (by omega) (by omega) hP hS (lv_sub hl [0, 1, 3, 4, 5] rfl)
              · skip
                have t9296 := cv_nlt (a := x3_lp9226.toInt) rfl (b := 0) (by decide) c9291
                refine lv_aload_n hx hb dX12_isLess_76 rfl (lv_at hl 4 rfl) ?_
                refine va_get (D := (dC, dI)) (ci := 12) (v := .ref (g 16)) (C := RX12) (T := TX12) (N := 63) hx hb hwd inA_X12 hown hK hP 0 rfl rfl 21 (by decide) (hwd _ wk_197) (fun _ h9 => h9) rfl dX12_isLess_77 ?_
                refine lv_iload_n hx hb dX12_isLess_80 rfl (lv_at hl 2 rfl) ?_
                refine va_iald hx hb hK hP 16 15 rfl rfl (i := x3_lp9226) (vin (a := x3_lp9226.toInt) rfl (by omega)) dX12_isLess_81 ?_
                refine lv_topi (fun z9297 e9298 => ?_)
                have t9299 : 0 ≤ z9297.toInt ∧ z9297.toInt ≤ 11 := by rw [e9298]; exact hI.2 16 _ _ rfl _
                have tzz9297 : z9297.toInt = (F 16 (x3_lp9226 : Int32).toNatClampNeg).toInt := congrArg Int32.toInt e9298
                refine lv_bipush (v := 10) hx hb dX12_isLess_82 (by decide) ?_
                refine lv_icmp_eq (tgt := 131) hx hb dX12_isLess_84 (by decide) (fun c9300 => ?_) (fun c9300 => ?_)
                · skip
                  have t9301 := cv_eq (a := z9297.toInt) rfl (b := 10) (by decide) c9300
                  refine lv_iload hx hb dX12_isLess_131 (lv_at hl 0 rfl) ?_
                  refine lv_istore_n (lv' := [(3, .int r9234), (5, .int r9234), (4, .int x4_lp9226), (2, .int r9225), (0, .ref (g 0)), (1, .int p0)]) hx hb dX12_isLess_133 rfl hl (by decide) rfl (fun ls hl => ?_)
                  obtain ⟨z9302, e9303⟩ : ∃ y : Int32, y = x4_lp9226 + 1 := ⟨_, rfl⟩
                  try (have t9304 := tadd e9303 rfl (b := 1) (by decide) (by omega))
                  refine lv_iinc (v := z9302) (lv' := [(4, .int z9302), (3, .int r9234), (5, .int r9234), (2, .int r9225), (0, .ref (g 0)), (1, .int p0)]) hx hb dX12_isLess_134 hl (k := 2) rfl (by rw [e9303]; rfl) (by decide) rfl (fun ls hl => ?_)
                  refine lv_goto (tgt := 11) hx hb dX12_isLess_137 (by decide) ?_
                  exact ih_lp9226 z9302 r9234  _ _ _ (by omega) (by omega) (by omega) (by omega) hP hS (lv_sub hl [0, 1, 3, 4, 5] rfl)
                · skip
                  have t9305 := cv_ne (a := z9297.toInt) rfl (b := 10) (by decide) c9300
                  refine lv_aload_n hx hb dX12_isLess_87 rfl (lv_at hl 4 rfl) ?_
                  refine va_get (D := (dC, dI)) (ci := 12) (v := .ref (g 16)) (C := RX12) (T := TX12) (N := 63) hx hb hwd inA_X12 hown hK hP 0 rfl rfl 21 (by decide) (hwd _ wk_197) (fun _ h9 => h9) rfl dX12_isLess_88 ?_
                  refine lv_iload hx hb dX12_isLess_91 (lv_at hl 0 rfl) ?_
                  refine va_iald hx hb hK hP 16 15 rfl rfl (i := r9234) (vin (a := r9234.toInt) rfl (by omega)) dX12_isLess_93 ?_
                  refine lv_topi (fun z9306 e9307 => ?_)
                  have t9308 : 0 ≤ z9306.toInt ∧ z9306.toInt ≤ 11 := by rw [e9307]; exact hI.2 16 _ _ rfl _
                  have tzz9306 : z9306.toInt = (F 16 (r9234 : Int32).toNatClampNeg).toInt := congrArg Int32.toInt e9307
                  refine lv_bipush (v := 10) hx hb dX12_isLess_94 (by decide) ?_
                  refine lv_icmp_eq (tgt := 131) hx hb dX12_isLess_96 (by decide) (fun c9309 => ?_) (fun c9309 => ?_)
                  · skip
                    have t9310 := cv_eq (a := z9306.toInt) rfl (b := 10) (by decide) c9309
                    refine lv_iload hx hb dX12_isLess_131 (lv_at hl 0 rfl) ?_
                    refine lv_istore_n (lv' := [(3, .int r9234), (5, .int r9234), (4, .int x4_lp9226), (2, .int r9225), (0, .ref (g 0)), (1, .int p0)]) hx hb dX12_isLess_133 rfl hl (by decide) rfl (fun ls hl => ?_)
                    obtain ⟨z9311, e9312⟩ : ∃ y : Int32, y = x4_lp9226 + 1 := ⟨_, rfl⟩
                    try (have t9313 := tadd e9312 rfl (b := 1) (by decide) (by omega))
                    refine lv_iinc (v := z9311) (lv' := [(4, .int z9311), (3, .int r9234), (5, .int r9234), (2, .int r9225), (0, .ref (g 0)), (1, .int p0)]) hx hb dX12_isLess_134 hl (k := 2) rfl (by rw [e9312]; rfl) (by decide) rfl (fun ls hl => ?_)
                    refine lv_goto (tgt := 11) hx hb dX12_isLess_137 (by decide) ?_
                    exact ih_lp9226 z9311 r9234  _ _ _ (by omega) (by omega) (by omega) (by omega) hP hS (lv_sub hl [0, 1, 3, 4, 5] rfl)
                  · skip
                    have t9314 := cv_ne (a := z9306.toInt) rfl (b := 10) (by decide) c9309
                    refine lv_aload_n hx hb dX12_isLess_99 rfl (lv_at hl 4 rfl) ?_
                    refine va_get (D := (dC, dI)) (ci := 12) (v := .ref (g 19)) (C := RX12) (T := TX12) (N := 63) hx hb hwd inA_X12 hown hK hP 0 rfl rfl 24 (by decide) (hwd _ wk_200) (fun _ h9 => h9) rfl dX12_isLess_100 ?_
                    refine lv_iload hx hb dX12_isLess_103 (lv_at hl 0 rfl) ?_
                    refine va_iald hx hb hK hP 19 18 rfl rfl (i := r9234) (vin (a := r9234.toInt) rfl (by omega)) dX12_isLess_105 ?_
                    refine lv_topi (fun z9315 e9316 => ?_)
                    have tzz9315 : z9315.toInt = (F 19 (r9234 : Int32).toNatClampNeg).toInt := congrArg Int32.toInt e9316
                    refine lv_aload_n hx hb dX12_isLess_106 rfl (lv_at hl 4 rfl) ?_
                    refine lv_iload_n hx hb dX12_isLess_107 rfl (lv_at hl 2 rfl) ?_
                    refine va_calli (va_runV (As := [.int x3_lp9226]) (rest := [.int z9315]) ⟨hx, hb, hml, hown, hwd⟩ (c_X12_hoursEnd l dC dI g c adK adV v F rc H.size x3_lp9226 hg hI (by omega)) (cwV 1 hwd (gV wk_748 wk_745 wk_746 wk_747 wk_5) rfl rfl rfl (by decide +kernel) ⟨Nat.le_of_ble_eq_true rfl, Nat.le_of_ble_eq_true rfl⟩) ⟨PM.blind, va_recv hK hP (ci := 12) (q0 := 0) rfl rfl, fun U hU hW => ⟨rfl, PM.at hK hE hP hS hU hW⟩⟩ rfl rfl hl.1 rfl (lv_room (Nat.le_of_ble_eq_true rfl)) dX12_isLess_108 ⟨Nat.le_of_ble_eq_true rfl, Nat.le_of_ble_eq_true rfl⟩) hS (fun q _ h => (freeM hS) q h) (freeM hS) (fun r9317 u t H1 locs ht hvm hw hB hz1 hk1 hS => ?_)
                    unfold BM at hB
                    rw [ht] at hB
                    have hP : va_P (dC, dI) classes (wM g c v F rc) H1 := hB
                    clear hz1
                    generalize H1 = H at hP hS ⊢
                    have rr_r9317 := i32_rng r9317
                    refine lv_icmp_lt (tgt := 129) hx hb dX12_isLess_111 (by decide) (fun c9318 => ?_) (fun c9318 => ?_)
                    · skip
                      have t9319 := cv_lt (a := z9315.toInt) rfl (b := r9317.toInt) rfl c9318
                      refine lv_iconst (v := 1) hx hb dX12_isLess_129 (by decide) ?_
                      have hP9 : va_P (dC, dI) classes (wM g c v F rc) H := hP
                      exact W.zret (v := 1) hx hb hr (rfl) (fun t ht hW => ⟨⟨1, (), rfl, by have : (1 : Int32).toInt = 1 := (by decide); omega, (by show va_P _ _ _ t.heap; rw [ht]; exact hP9)⟩, hS.F ht⟩) hS.2.2 dX12_isLess_130
                    · skip
                      have t9320 := cv_nlt (a := z9315.toInt) rfl (b := r9317.toInt) rfl c9318
                      refine lv_aload_n hx hb dX12_isLess_114 rfl (lv_at hl 4 rfl) ?_
                      refine va_get (D := (dC, dI)) (ci := 12) (v := .ref (g 21)) (C := RX12) (T := TX12) (N := 63) hx hb hwd inA_X12 hown hK hP 0 rfl rfl 26 (by decide) (hwd _ wk_202) (fun _ h9 => h9) rfl dX12_isLess_115 ?_
                      refine lv_iload hx hb dX12_isLess_118 (lv_at hl 0 rfl) ?_
                      refine va_iald hx hb hK hP 21 20 rfl rfl (i := r9234) (vin (a := r9234.toInt) rfl (by omega)) dX12_isLess_120 ?_
                      refine lv_topi (fun z9321 e9322 => ?_)
                      have tzz9321 : z9321.toInt = (F 21 (r9234 : Int32).toNatClampNeg).toInt := congrArg Int32.toInt e9322
                      refine lv_aload_n hx hb dX12_isLess_121 rfl (lv_at hl 4 rfl) ?_
                      refine lv_iload_n hx hb dX12_isLess_122 rfl (lv_at hl 2 rfl) ?_
                      refine va_calli (va_runV (As := [.int x3_lp9226]) (rest := [.int z9321]) ⟨hx, hb, hml, hown, hwd⟩ (c_X12_landingsEnd l dC dI g c adK adV v F rc H.size x3_lp9226 hg hI (by omega)) (cwV 1 hwd (gV wk_752 wk_749 wk_750 wk_751 wk_5) rfl rfl rfl (by decide +kernel) ⟨Nat.le_of_ble_eq_true rfl, Nat.le_of_ble_eq_true rfl⟩) ⟨PM.blind, va_recv hK hP (ci := 12) (q0 := 0) rfl rfl, fun U hU hW => ⟨rfl, PM.at hK hE hP hS hU hW⟩⟩ rfl rfl hl.1 rfl (lv_room (Nat.le_of_ble_eq_true rfl)) dX12_isLess_123 ⟨Nat.le_of_ble_eq_true rfl, Nat.le_of_ble_eq_true rfl⟩) hS (fun q _ h => (freeM hS) q h) (freeM hS) (fun r9323 u t H1 locs ht hvm hw hB hz1 hk1 hS => ?_)
                      unfold BM at hB
                      rw [ht] at hB
                      have hP : va_P (dC, dI) classes (wM g c v F rc) H1 := hB
                      clear hz1
                      generalize H1 = H at hP hS ⊢
                      have rr_r9323 := i32_rng r9323
                      refine lv_icmp_ge (tgt := 131) hx hb dX12_isLess_126 (by decide) (fun c9324 => ?_) (fun c9324 => ?_)
                      · skip
                        have t9325 := cv_le (a := r9323.toInt) rfl (b := z9321.toInt) rfl c9324
                        refine lv_iload hx hb dX12_isLess_131 (lv_at hl 0 rfl) ?_
                        refine lv_istore_n (lv' := [(3, .int r9234), (5, .int r9234), (4, .int x4_lp9226), (2, .int r9225), (0, .ref (g 0)), (1, .int p0)]) hx hb dX12_isLess_133 rfl hl (by decide) rfl (fun ls hl => ?_)
                        obtain ⟨z9326, e9327⟩ : ∃ y : Int32, y = x4_lp9226 + 1 := ⟨_, rfl⟩
                        try (have t9328 := tadd e9327 rfl (b := 1) (by decide) (by omega))
                        refine lv_iinc (v := z9326) (lv' := [(4, .int z9326), (3, .int r9234), (5, .int r9234), (2, .int r9225), (0, .ref (g 0)), (1, .int p0)]) hx hb dX12_isLess_134 hl (k := 2) rfl (by rw [e9327]; rfl) (by decide) rfl (fun ls hl => ?_)
                        refine lv_goto (tgt := 11) hx hb dX12_isLess_137 (by decide) ?_
                        exact ih_lp9226 z9326 r9234  _ _ _ (by omega) (by omega) (by omega) (by omega) hP hS (lv_sub hl [0, 1, 3, 4, 5] rfl)
                      · skip
                        have t9329 := cv_nle (a := r9323.toInt) rfl (b := z9321.toInt) rfl c9324
                        refine lv_iconst (v := 1) hx hb dX12_isLess_129 (by decide) ?_
                        have hP9 : va_P (dC, dI) classes (wM g c v F rc) H := hP
                        exact W.zret (v := 1) hx hb hr (rfl) (fun t ht hW => ⟨⟨1, (), rfl, by have : (1 : Int32).toInt = 1 := (by decide); omega, (by show va_P _ _ _ t.heap; rw [ht]; exact hP9)⟩, hS.F ht⟩) hS.2.2 dX12_isLess_130
            · skip
              have t9330 := cv_nle (a := z9287.toInt) rfl (b := r9286.toInt) rfl c9289
              refine lv_iconst (v := 1) hx hb dX12_isLess_70 (by decide) ?_
              have hP9 : va_P (dC, dI) classes (wM g c v F rc) H := hP
              exact W.zret (v := 1) hx hb hr (rfl) (fun t ht hW => ⟨⟨1, (), rfl, by have : (1 : Int32).toInt = 1 := (by decide); omega, (by show va_P _ _ _ t.heap; rw [ht]; exact hP9)⟩, hS.F ht⟩) hS.2.2 dX12_isLess_71
  obtain ⟨n9, hn9⟩ : ∃ n : Nat, 2147483648 - 0 ≤ (n : Int) := ⟨((2147483648 - 0 : Int)).toNat, by omega⟩
  exact lp9226 n9 0 (-1)  H _ ls (by have : (0 : Int32).toInt = 0 := (by decide); have : ((-1) : Int32).toInt = (-1) := (by decide); omega) (by have : (0 : Int32).toInt = 0 := (by decide); have : ((-1) : Int32).toInt = (-1) := (by decide); omega) (by have : (0 : Int32).toInt = 0 := (by decide); have : ((-1) : Int32).toInt = (-1) := (by decide); omega) (by have : (0 : Int32).toInt = 0 := (by decide); have : ((-1) : Int32).toInt = (-1) := (by decide); omega) hP hS hl
set_option maxHeartbeats 8000000 in
set_option maxRecDepth 100000 in
theorem c_X12_cannot (l : Launch) (dC : Nat → ClassId) (dI : Nat → Nat → Nat) (g : Nat → Nat) (c : Nat → ClassId) (adK adV : Nat → Nat) (v : Nat → Int32) (F : Nat → Nat → Int32) (rc sz : Nat) (p0 : Int32) (hg : injM g) (hI : IM v F) (h0 : 0 ≤ p0.toInt ∧ p0.toInt ≤ 99) : Met l yX12_cannot (Cond.code yX12_cannot cX12_cannot 2 (some .int) :: wA) ({ frames := 4, cells := 0, slots := 0, locals := 160 }) (va_Pc [.ref (g 0), .int p0] (PM dC dI g c adK adV v F rc sz)) (va_Qi (fun (r : Int32) (u : Unit) => True) (fun (_ : Unit) => BM dC dI g c (v, F, rc)) (AM g sz)) 0 0 (AM g sz) := by
  refine Met.ofW (cc := cX12_cannot) (maxL := 2) (ret := (some .int)) (by decide) rfl ?_
  intro p e s m args below meth c0 s₁ B hml hv
  obtain ⟨rfl, hsz, hP, hK, hE⟩ := hv
  have hx := B.exec
  have hb := B.bytes
  have hr := B.returns
  have hts := atoms_spec (ws := Cond.code yX12_cannot cX12_cannot 2 (some .int) :: wA) B.pre
  have hwd : ∀ w ∈ wA, w.before _ s = true := fun w h => hts w (List.mem_cons_of_mem _ h)
  have hown : s.vm.findClass RX12 = some m.cls := findClass_of_methodNamed B.named
  have hlocks := B.notSynchronized
  subst hsz
  have hl := lv_entry ([.ref (g 0), .int p0]) (n := 2) (Nat.le_of_ble_eq_true rfl)
  rw [lg_entry_eq]
  generalize (lg_sl ([.ref (g 0), .int p0]) ++ List.replicate (2 - (lg_sl ([.ref (g 0), .int p0])).length) Slot.unset).toArray = ls at hl ⊢
  have hl : lv_has ls 2 [(0, .ref (g 0)), (1, .int p0)] := hl
  obtain ⟨H, eH⟩ : ∃ z, z = s.heap := ⟨_, rfl⟩
  have hP : va_P (dC, dI) classes (wM g c v F rc) H := by rw [eH]; exact hP
  have hS : va_S (AM g s.heap.size) s.heap H [] := by rw [eH]; exact va_S.rf
  refine my_heap eH ?_
  have rp0 := i32_rng p0
  refine lv_aload_n hx hb dX12_cannot_0 rfl (lv_at hl 0 rfl) ?_
  refine lv_iload_n hx hb dX12_cannot_1 rfl (lv_at hl 1 rfl) ?_
  refine va_calli (va_runV (As := [.int p0]) (rest := []) ⟨hx, hb, hml, hown, hwd⟩ (c_X12_areTwice l dC dI g c adK adV v F rc H.size p0 hg hI ) (cwV 1 hwd (gV wk_732 wk_729 wk_730 wk_731 wk_5) rfl rfl rfl (by decide +kernel) ⟨Nat.le_of_ble_eq_true rfl, Nat.le_of_ble_eq_true rfl⟩) ⟨PM.blind, va_recv hK hP (ci := 12) (q0 := 0) rfl rfl, fun U hU hW => ⟨rfl, PM.at hK hE hP hS hU hW⟩⟩ rfl rfl hl.1 rfl (lv_room (Nat.le_of_ble_eq_true rfl)) dX12_cannot_2 ⟨Nat.le_of_ble_eq_true rfl, Nat.le_of_ble_eq_true rfl⟩) hS (fun q _ h => (freeM hS) q h) (freeM hS) (fun r9331 u t H1 locs ht hvm hw hB hz1 hk1 hS => ?_)
  unfold BM at hB
  rw [ht] at hB
  have hP : va_P (dC, dI) classes (wM g c v F rc) H1 := hB
  have hw_r9331 : 0 ≤ r9331.toInt ∧ r9331.toInt ≤ 1 := hw
  clear hw
  clear hz1
  generalize H1 = H at hP hS ⊢
  refine lv_if_eq (tgt := 12) hx hb dX12_cannot_5 (by decide) (fun c9332 => ?_) (fun c9332 => ?_)
  · skip
    have t9333 := cv_eq (a := r9331.toInt) rfl (b := 0) (by decide) c9332
    refine lv_aload_n hx hb dX12_cannot_12 rfl (lv_at hl 0 rfl) ?_
    refine lv_iload_n hx hb dX12_cannot_13 rfl (lv_at hl 1 rfl) ?_
    refine va_calli (va_runV (As := [.int p0]) (rest := []) ⟨hx, hb, hml, hown, hwd⟩ (c_X12_isLess l dC dI g c adK adV v F rc H.size p0 hg hI ) (cwV 1 hwd (gV wk_740 wk_737 wk_738 wk_739 wk_5) rfl rfl rfl (by decide +kernel) ⟨Nat.le_of_ble_eq_true rfl, Nat.le_of_ble_eq_true rfl⟩) ⟨PM.blind, va_recv hK hP (ci := 12) (q0 := 0) rfl rfl, fun U hU hW => ⟨rfl, PM.at hK hE hP hS hU hW⟩⟩ rfl rfl hl.1 rfl (lv_room (Nat.le_of_ble_eq_true rfl)) dX12_cannot_14 ⟨Nat.le_of_ble_eq_true rfl, Nat.le_of_ble_eq_true rfl⟩) hS (fun q _ h => (freeM hS) q h) (freeM hS) (fun r9334 u t H1 locs ht hvm hw hB hz1 hk1 hS => ?_)
    unfold BM at hB
    rw [ht] at hB
    have hP : va_P (dC, dI) classes (wM g c v F rc) H1 := hB
    have hw_r9334 : 0 ≤ r9334.toInt ∧ r9334.toInt ≤ 1 := hw
    clear hw
    clear hz1
    generalize H1 = H at hP hS ⊢
    refine lv_if_eq (tgt := 24) hx hb dX12_cannot_17 (by decide) (fun c9335 => ?_) (fun c9335 => ?_)
    · skip
      have t9336 := cv_eq (a := r9334.toInt) rfl (b := 0) (by decide) c9335
      refine lv_aload_n hx hb dX12_cannot_24 rfl (lv_at hl 0 rfl) ?_
      refine lv_iload_n hx hb dX12_cannot_25 rfl (lv_at hl 1 rfl) ?_
      refine va_calli (va_runV (As := [.int p0]) (rest := []) ⟨hx, hb, hml, hown, hwd⟩ (c_X12_isDouble l dC dI g c adK adV v F rc H.size p0 hg hI (by omega)) (cwV 1 hwd (gV wk_756 wk_753 wk_754 wk_755 wk_5) rfl rfl rfl (by decide +kernel) ⟨Nat.le_of_ble_eq_true rfl, Nat.le_of_ble_eq_true rfl⟩) ⟨PM.blind, va_recv hK hP (ci := 12) (q0 := 0) rfl rfl, fun U hU hW => ⟨rfl, PM.at hK hE hP hS hU hW⟩⟩ rfl rfl hl.1 rfl (lv_room (Nat.le_of_ble_eq_true rfl)) dX12_cannot_26 ⟨Nat.le_of_ble_eq_true rfl, Nat.le_of_ble_eq_true rfl⟩) hS (fun q _ h => (freeM hS) q h) (freeM hS) (fun r9337 u t H1 locs ht hvm hw hB hz1 hk1 hS => ?_)
      unfold BM at hB
      rw [ht] at hB
      have hP : va_P (dC, dI) classes (wM g c v F rc) H1 := hB
      have hw_r9337 : 0 ≤ r9337.toInt ∧ r9337.toInt ≤ 1 := hw
      clear hw
      clear hz1
      generalize H1 = H at hP hS ⊢
      refine lv_if_eq (tgt := 36) hx hb dX12_cannot_29 (by decide) (fun c9338 => ?_) (fun c9338 => ?_)
      · skip
        have t9339 := cv_eq (a := r9337.toInt) rfl (b := 0) (by decide) c9338
        refine lv_iconst (v := 0) hx hb dX12_cannot_36 (by decide) ?_
        have hP9 : va_P (dC, dI) classes (wM g c v F rc) H := hP
        exact W.iret (v := 0) hx hb hr (fun t ht hW => ⟨⟨0, (), rfl, trivial, (by show va_P _ _ _ t.heap; rw [ht]; exact hP9)⟩, hS.F ht⟩) hS.2.2 dX12_cannot_37
      · skip
        have t9340 := cv_ne (a := r9337.toInt) rfl (b := 0) (by decide) c9338
        refine lv_iconst (v := 3) hx hb dX12_cannot_32 (by decide) ?_
        refine lv_goto (tgt := 37) hx hb dX12_cannot_33 (by decide) ?_
        have hP9 : va_P (dC, dI) classes (wM g c v F rc) H := hP
        exact W.iret (v := 3) hx hb hr (fun t ht hW => ⟨⟨3, (), rfl, trivial, (by show va_P _ _ _ t.heap; rw [ht]; exact hP9)⟩, hS.F ht⟩) hS.2.2 dX12_cannot_37
    · skip
      have t9341 := cv_ne (a := r9334.toInt) rfl (b := 0) (by decide) c9335
      refine lv_iconst (v := 2) hx hb dX12_cannot_20 (by decide) ?_
      refine lv_goto (tgt := 37) hx hb dX12_cannot_21 (by decide) ?_
      have hP9 : va_P (dC, dI) classes (wM g c v F rc) H := hP
      exact W.iret (v := 2) hx hb hr (fun t ht hW => ⟨⟨2, (), rfl, trivial, (by show va_P _ _ _ t.heap; rw [ht]; exact hP9)⟩, hS.F ht⟩) hS.2.2 dX12_cannot_37
  · skip
    have t9342 := cv_ne (a := r9331.toInt) rfl (b := 0) (by decide) c9332
    refine lv_iconst (v := 1) hx hb dX12_cannot_8 (by decide) ?_
    refine lv_goto (tgt := 37) hx hb dX12_cannot_9 (by decide) ?_
    have hP9 : va_P (dC, dI) classes (wM g c v F rc) H := hP
    exact W.iret (v := 1) hx hb hr (fun t ht hW => ⟨⟨1, (), rfl, trivial, (by show va_P _ _ _ t.heap; rw [ht]; exact hP9)⟩, hS.F ht⟩) hS.2.2 dX12_cannot_37
set_option maxHeartbeats 8000000 in
set_option maxRecDepth 100000 in
theorem c_X12_ofPart (l : Launch) (dC : Nat → ClassId) (dI : Nat → Nat → Nat) (g : Nat → Nat) (c : Nat → ClassId) (adK adV : Nat → Nat) (v : Nat → Int32) (F : Nat → Nat → Int32) (rc sz : Nat) (p0 : Int32) (p1 : Int32) (hg : injM g) (hI : IM v F) : Met l yX12_ofPart (Cond.code yX12_ofPart cX12_ofPart 3 (some .int) :: wA) ({ frames := 5, cells := 0, slots := 0, locals := 200 }) (va_Pc [.ref (g 0), .int p0, .int p1] (PM dC dI g c adK adV v F rc sz)) (va_Qi (fun (r : Int32) (u : Unit) => True) (fun (_ : Unit) => BM dC dI g c (v, F, rc)) (AM g sz)) 0 0 (AM g sz) := by
  refine Met.ofW (cc := cX12_ofPart) (maxL := 3) (ret := (some .int)) (by decide) rfl ?_
  intro p e s m args below meth c0 s₁ B hml hv
  obtain ⟨rfl, hsz, hP, hK, hE⟩ := hv
  have hx := B.exec
  have hb := B.bytes
  have hr := B.returns
  have hts := atoms_spec (ws := Cond.code yX12_ofPart cX12_ofPart 3 (some .int) :: wA) B.pre
  have hwd : ∀ w ∈ wA, w.before _ s = true := fun w h => hts w (List.mem_cons_of_mem _ h)
  have hown : s.vm.findClass RX12 = some m.cls := findClass_of_methodNamed B.named
  have hlocks := B.notSynchronized
  subst hsz
  have hl := lv_entry ([.ref (g 0), .int p0, .int p1]) (n := 3) (Nat.le_of_ble_eq_true rfl)
  rw [lg_entry_eq]
  generalize (lg_sl ([.ref (g 0), .int p0, .int p1]) ++ List.replicate (3 - (lg_sl ([.ref (g 0), .int p0, .int p1])).length) Slot.unset).toArray = ls at hl ⊢
  have hl : lv_has ls 3 [(0, .ref (g 0)), (1, .int p0), (2, .int p1)] := hl
  obtain ⟨H, eH⟩ : ∃ z, z = s.heap := ⟨_, rfl⟩
  have hP : va_P (dC, dI) classes (wM g c v F rc) H := by rw [eH]; exact hP
  have hS : va_S (AM g s.heap.size) s.heap H [] := by rw [eH]; exact va_S.rf
  refine my_heap eH ?_
  have rp0 := i32_rng p0
  have rp1 := i32_rng p1
  refine lv_aload_n hx hb dX12_ofPart_0 rfl (lv_at hl 0 rfl) ?_
  refine lv_iload_n hx hb dX12_ofPart_1 rfl (lv_at hl 1 rfl) ?_
  have t9343 : 0 ≤ (v 14).toInt ∧ (v 14).toInt ≤ 100 := hI.1 14 _ _ rfl
  refine va_calli (va_runV (As := [.int p0]) (rest := []) ⟨hx, hb, hml, hown, hwd⟩ (c_X12_isPart l dC dI g c adK adV v F rc H.size p0 hg hI ) (cwV 1 hwd (gV wk_631 wk_628 wk_629 wk_630 wk_5) rfl rfl rfl (by decide +kernel) ⟨Nat.le_of_ble_eq_true rfl, Nat.le_of_ble_eq_true rfl⟩) ⟨PM.blind, va_recv hK hP (ci := 12) (q0 := 0) rfl rfl, fun U hU hW => ⟨rfl, PM.at hK hE hP hS hU hW⟩⟩ rfl rfl hl.1 rfl (lv_room (Nat.le_of_ble_eq_true rfl)) dX12_ofPart_2 ⟨Nat.le_of_ble_eq_true rfl, Nat.le_of_ble_eq_true rfl⟩) hS (fun q _ h => (freeM hS) q h) (freeM hS) (fun r9344 u t H1 locs ht hvm hw hB hz1 hk1 hS => ?_)
  unfold BM at hB
  rw [ht] at hB
  have hP : va_P (dC, dI) classes (wM g c v F rc) H1 := hB
  replace hw : (r9344.toInt = 1 ∧ 0 ≤ p0.toInt ∧ p0.toInt < (v 14).toInt) ∨ (r9344.toInt = 0 ∧ (p0.toInt < 0 ∨ (v 14).toInt ≤ p0.toInt)) := hw
  have hw_r9344 := hw
  clear hw
  clear hz1
  generalize H1 = H at hP hS ⊢
  refine lv_if_ne (tgt := 11) hx hb dX12_ofPart_5 (by decide) (fun c9345 => ?_) (fun c9345 => ?_)
  · skip
    have t9346 := cv_ne (a := r9344.toInt) rfl (b := 0) (by decide) c9345
    refine lv_iload_n hx hb dX12_ofPart_11 rfl (lv_at hl 2 rfl) ?_
    by_cases hlo9347 : p1.toInt < 0
    · refine lv_tableOut (tgt := 134) hx hb dX12_ofPart_12 (Or.inl hlo9347) (by decide) ?_
      refine lv_ldc (v := (-2000000000)) hx hb hown (hwd _ wk_542) dX12_ofPart_134 ?_
      have hP9 : va_P (dC, dI) classes (wM g c v F rc) H := hP
      exact W.iret (v := (-2000000000)) hx hb hr (fun t ht hW => ⟨⟨(-2000000000), (), rfl, trivial, (by show va_P _ _ _ t.heap; rw [ht]; exact hP9)⟩, hS.F ht⟩) hS.2.2 dX12_ofPart_136
    by_cases hhi9348 : 8 < p1.toInt
    · refine lv_tableOut (tgt := 134) hx hb dX12_ofPart_12 (Or.inr hhi9348) (by decide) ?_
      refine lv_ldc (v := (-2000000000)) hx hb hown (hwd _ wk_542) dX12_ofPart_134 ?_
      have hP9 : va_P (dC, dI) classes (wM g c v F rc) H := hP
      exact W.iret (v := (-2000000000)) hx hb hr (fun t ht hW => ⟨⟨(-2000000000), (), rfl, trivial, (by show va_P _ _ _ t.heap; rw [ht]; exact hP9)⟩, hS.F ht⟩) hS.2.2 dX12_ofPart_136
    rcases (show p1.toInt = 0 ∨ p1.toInt = 1 ∨ p1.toInt = 2 ∨ p1.toInt = 3 ∨ p1.toInt = 4 ∨ p1.toInt = 5 ∨ p1.toInt = 6 ∨ p1.toInt = 7 ∨ p1.toInt = 8 by omega) with hk | hk | hk | hk | hk | hk | hk | hk | hk
    · refine lv_tableIn (off := 52) (tgt := 64) hx hb dX12_ofPart_12 hlo9347 hhi9348 (by rw [hk]; decide) (by decide) ?_
      refine lv_aload_n hx hb dX12_ofPart_64 rfl (lv_at hl 0 rfl) ?_
      refine va_get (D := (dC, dI)) (ci := 12) (v := .ref (g 11)) (C := RX12) (T := TX12) (N := 63) hx hb hwd inA_X12 hown hK hP 0 rfl rfl 15 (by decide) (hwd _ wk_192) (fun _ h9 => h9) rfl dX12_ofPart_65 ?_
      refine lv_iload_n hx hb dX12_ofPart_68 rfl (lv_at hl 1 rfl) ?_
      refine va_iald hx hb hK hP 11 10 rfl rfl (i := p0) (vin (a := p0.toInt) rfl (by omega)) dX12_ofPart_69 ?_
      refine lv_topi (fun z9349 e9350 => ?_)
      have t9351 : 0 ≤ z9349.toInt ∧ z9349.toInt ≤ 9 := by rw [e9350]; exact hI.2 11 _ _ rfl _
      have hP9 : va_P (dC, dI) classes (wM g c v F rc) H := hP
      exact W.iret (v := z9349) hx hb hr (fun t ht hW => ⟨⟨z9349, (), rfl, trivial, (by show va_P _ _ _ t.heap; rw [ht]; exact hP9)⟩, hS.F ht⟩) hS.2.2 dX12_ofPart_70
    · refine lv_tableIn (off := 59) (tgt := 71) hx hb dX12_ofPart_12 hlo9347 hhi9348 (by rw [hk]; decide) (by decide) ?_
      refine lv_aload_n hx hb dX12_ofPart_71 rfl (lv_at hl 0 rfl) ?_
      refine va_get (D := (dC, dI)) (ci := 12) (v := .ref (g 12)) (C := RX12) (T := TX12) (N := 63) hx hb hwd inA_X12 hown hK hP 0 rfl rfl 16 (by decide) (hwd _ wk_193) (fun _ h9 => h9) rfl dX12_ofPart_72 ?_
      refine lv_iload_n hx hb dX12_ofPart_75 rfl (lv_at hl 1 rfl) ?_
      refine va_iald hx hb hK hP 12 11 rfl rfl (i := p0) (vin (a := p0.toInt) rfl (by omega)) dX12_ofPart_76 ?_
      refine lv_topi (fun z9352 e9353 => ?_)
      have hP9 : va_P (dC, dI) classes (wM g c v F rc) H := hP
      exact W.iret (v := z9352) hx hb hr (fun t ht hW => ⟨⟨z9352, (), rfl, trivial, (by show va_P _ _ _ t.heap; rw [ht]; exact hP9)⟩, hS.F ht⟩) hS.2.2 dX12_ofPart_77
    · refine lv_tableIn (off := 66) (tgt := 78) hx hb dX12_ofPart_12 hlo9347 hhi9348 (by rw [hk]; decide) (by decide) ?_
      refine lv_aload_n hx hb dX12_ofPart_78 rfl (lv_at hl 0 rfl) ?_
      refine va_get (D := (dC, dI)) (ci := 12) (v := .ref (g 13)) (C := RX12) (T := TX12) (N := 63) hx hb hwd inA_X12 hown hK hP 0 rfl rfl 17 (by decide) (hwd _ wk_194) (fun _ h9 => h9) rfl dX12_ofPart_79 ?_
      refine lv_iload_n hx hb dX12_ofPart_82 rfl (lv_at hl 1 rfl) ?_
      refine va_iald hx hb hK hP 13 12 rfl rfl (i := p0) (vin (a := p0.toInt) rfl (by omega)) dX12_ofPart_83 ?_
      refine lv_topi (fun z9354 e9355 => ?_)
      have t9356 : 0 ≤ z9354.toInt ∧ z9354.toInt ≤ 12 := by rw [e9355]; exact hI.2 13 _ _ rfl _
      have hP9 : va_P (dC, dI) classes (wM g c v F rc) H := hP
      exact W.iret (v := z9354) hx hb hr (fun t ht hW => ⟨⟨z9354, (), rfl, trivial, (by show va_P _ _ _ t.heap; rw [ht]; exact hP9)⟩, hS.F ht⟩) hS.2.2 dX12_ofPart_84
    · refine lv_tableIn (off := 73) (tgt := 85) hx hb dX12_ofPart_12 hlo9347 hhi9348 (by rw [hk]; decide) (by decide) ?_
      refine lv_aload_n hx hb dX12_ofPart_85 rfl (lv_at hl 0 rfl) ?_
      refine va_get (D := (dC, dI)) (ci := 12) (v := .ref (g 14)) (C := RX12) (T := TX12) (N := 63) hx hb hwd inA_X12 hown hK hP 0 rfl rfl 18 (by decide) (hwd _ wk_195) (fun _ h9 => h9) rfl dX12_ofPart_86 ?_
      refine lv_iconst (v := 3) hx hb dX12_ofPart_89 (by decide) ?_
      refine lv_iload_n hx hb dX12_ofPart_90 rfl (lv_at hl 1 rfl) ?_
      refine lv_imul hx hb dX12_ofPart_91 ?_
      refine lv_topi (fun z9357 e9358 => ?_)
      try (have t9359 := tmul e9358 (a := 3) (by decide) (b := p0.toInt) rfl (by omega))
      refine va_iald hx hb hK hP 14 13 rfl rfl (i := z9357) (vin (a := z9357.toInt) rfl (by omega)) dX12_ofPart_92 ?_
      refine lv_topi (fun z9360 e9361 => ?_)
      have hP9 : va_P (dC, dI) classes (wM g c v F rc) H := hP
      exact W.iret (v := z9360) hx hb hr (fun t ht hW => ⟨⟨z9360, (), rfl, trivial, (by show va_P _ _ _ t.heap; rw [ht]; exact hP9)⟩, hS.F ht⟩) hS.2.2 dX12_ofPart_93
    · refine lv_tableIn (off := 82) (tgt := 94) hx hb dX12_ofPart_12 hlo9347 hhi9348 (by rw [hk]; decide) (by decide) ?_
      refine lv_aload_n hx hb dX12_ofPart_94 rfl (lv_at hl 0 rfl) ?_
      refine va_get (D := (dC, dI)) (ci := 12) (v := .ref (g 14)) (C := RX12) (T := TX12) (N := 63) hx hb hwd inA_X12 hown hK hP 0 rfl rfl 18 (by decide) (hwd _ wk_195) (fun _ h9 => h9) rfl dX12_ofPart_95 ?_
      refine lv_iconst (v := 3) hx hb dX12_ofPart_98 (by decide) ?_
      refine lv_iload_n hx hb dX12_ofPart_99 rfl (lv_at hl 1 rfl) ?_
      refine lv_imul hx hb dX12_ofPart_100 ?_
      refine lv_topi (fun z9362 e9363 => ?_)
      try (have t9364 := tmul e9363 (a := 3) (by decide) (b := p0.toInt) rfl (by omega))
      refine lv_iconst (v := 1) hx hb dX12_ofPart_101 (by decide) ?_
      refine lv_iadd hx hb dX12_ofPart_102 ?_
      refine lv_topi (fun z9365 e9366 => ?_)
      try (have t9367 := tadd e9366 (a := z9362.toInt) rfl (b := 1) (by decide) (by omega))
      refine va_iald hx hb hK hP 14 13 rfl rfl (i := z9365) (vin (a := z9365.toInt) rfl (by omega)) dX12_ofPart_103 ?_
      refine lv_topi (fun z9368 e9369 => ?_)
      have hP9 : va_P (dC, dI) classes (wM g c v F rc) H := hP
      exact W.iret (v := z9368) hx hb hr (fun t ht hW => ⟨⟨z9368, (), rfl, trivial, (by show va_P _ _ _ t.heap; rw [ht]; exact hP9)⟩, hS.F ht⟩) hS.2.2 dX12_ofPart_104
    · refine lv_tableIn (off := 93) (tgt := 105) hx hb dX12_ofPart_12 hlo9347 hhi9348 (by rw [hk]; decide) (by decide) ?_
      refine lv_aload_n hx hb dX12_ofPart_105 rfl (lv_at hl 0 rfl) ?_
      refine va_get (D := (dC, dI)) (ci := 12) (v := .ref (g 14)) (C := RX12) (T := TX12) (N := 63) hx hb hwd inA_X12 hown hK hP 0 rfl rfl 18 (by decide) (hwd _ wk_195) (fun _ h9 => h9) rfl dX12_ofPart_106 ?_
      refine lv_iconst (v := 3) hx hb dX12_ofPart_109 (by decide) ?_
      refine lv_iload_n hx hb dX12_ofPart_110 rfl (lv_at hl 1 rfl) ?_
      refine lv_imul hx hb dX12_ofPart_111 ?_
      refine lv_topi (fun z9370 e9371 => ?_)
      try (have t9372 := tmul e9371 (a := 3) (by decide) (b := p0.toInt) rfl (by omega))
      refine lv_iconst (v := 2) hx hb dX12_ofPart_112 (by decide) ?_
      refine lv_iadd hx hb dX12_ofPart_113 ?_
      refine lv_topi (fun z9373 e9374 => ?_)
      try (have t9375 := tadd e9374 (a := z9370.toInt) rfl (b := 2) (by decide) (by omega))
      refine va_iald hx hb hK hP 14 13 rfl rfl (i := z9373) (vin (a := z9373.toInt) rfl (by omega)) dX12_ofPart_114 ?_
      refine lv_topi (fun z9376 e9377 => ?_)
      have hP9 : va_P (dC, dI) classes (wM g c v F rc) H := hP
      exact W.iret (v := z9376) hx hb hr (fun t ht hW => ⟨⟨z9376, (), rfl, trivial, (by show va_P _ _ _ t.heap; rw [ht]; exact hP9)⟩, hS.F ht⟩) hS.2.2 dX12_ofPart_115
    · refine lv_tableIn (off := 104) (tgt := 116) hx hb dX12_ofPart_12 hlo9347 hhi9348 (by rw [hk]; decide) (by decide) ?_
      refine lv_aload_n hx hb dX12_ofPart_116 rfl (lv_at hl 0 rfl) ?_
      refine lv_iload_n hx hb dX12_ofPart_117 rfl (lv_at hl 1 rfl) ?_
      have t9378 : 0 ≤ (v 19).toInt ∧ (v 19).toInt ≤ 500 := hI.1 19 _ _ rfl
      refine va_calli (va_runV (As := [.int p0]) (rest := []) ⟨hx, hb, hml, hown, hwd⟩ (c_X12_staysOf l dC dI g c adK adV v F rc H.size p0 hg hI ) (cwV 1 hwd (gV wk_720 wk_717 wk_718 wk_719 wk_5) rfl rfl rfl (by decide +kernel) ⟨Nat.le_of_ble_eq_true rfl, Nat.le_of_ble_eq_true rfl⟩) ⟨PM.blind, va_recv hK hP (ci := 12) (q0 := 0) rfl rfl, fun U hU hW => ⟨rfl, PM.at hK hE hP hS hU hW⟩⟩ rfl rfl hl.1 rfl (lv_room (Nat.le_of_ble_eq_true rfl)) dX12_ofPart_118 ⟨Nat.le_of_ble_eq_true rfl, Nat.le_of_ble_eq_true rfl⟩) hS (fun q _ h => (freeM hS) q h) (freeM hS) (fun r9379 u t H1 locs ht hvm hw hB hz1 hk1 hS => ?_)
      unfold BM at hB
      rw [ht] at hB
      have hP : va_P (dC, dI) classes (wM g c v F rc) H1 := hB
      replace hw : r9379.toInt = (cnt (stP (F 15) p0.toInt) (v 19).toNatClampNeg : Int) := hw
      have hw_r9379 := hw
      clear hw
      clear hz1
      generalize H1 = H at hP hS ⊢
      have rr_r9379 := i32_rng r9379
      have hP9 : va_P (dC, dI) classes (wM g c v F rc) H := hP
      exact W.iret (v := r9379) hx hb hr (fun t ht hW => ⟨⟨r9379, (), rfl, trivial, (by show va_P _ _ _ t.heap; rw [ht]; exact hP9)⟩, hS.F ht⟩) hS.2.2 dX12_ofPart_121
    · refine lv_tableIn (off := 110) (tgt := 122) hx hb dX12_ofPart_12 hlo9347 hhi9348 (by rw [hk]; decide) (by decide) ?_
      refine lv_aload_n hx hb dX12_ofPart_122 rfl (lv_at hl 0 rfl) ?_
      refine lv_iload_n hx hb dX12_ofPart_123 rfl (lv_at hl 1 rfl) ?_
      refine va_calli (va_runV (As := [.int p0]) (rest := []) ⟨hx, hb, hml, hown, hwd⟩ (c_X12_gapsOf l dC dI g c adK adV v F rc H.size p0 hg hI ) (cwV 1 hwd (gV wk_724 wk_721 wk_722 wk_723 wk_5) rfl rfl rfl (by decide +kernel) ⟨Nat.le_of_ble_eq_true rfl, Nat.le_of_ble_eq_true rfl⟩) ⟨PM.blind, va_recv hK hP (ci := 12) (q0 := 0) rfl rfl, fun U hU hW => ⟨rfl, PM.at hK hE hP hS hU hW⟩⟩ rfl rfl hl.1 rfl (lv_room (Nat.le_of_ble_eq_true rfl)) dX12_ofPart_124 ⟨Nat.le_of_ble_eq_true rfl, Nat.le_of_ble_eq_true rfl⟩) hS (fun q _ h => (freeM hS) q h) (freeM hS) (fun r9380 u t H1 locs ht hvm hw hB hz1 hk1 hS => ?_)
      unfold BM at hB
      rw [ht] at hB
      have hP : va_P (dC, dI) classes (wM g c v F rc) H1 := hB
      clear hz1
      generalize H1 = H at hP hS ⊢
      have rr_r9380 := i32_rng r9380
      have hP9 : va_P (dC, dI) classes (wM g c v F rc) H := hP
      exact W.iret (v := r9380) hx hb hr (fun t ht hW => ⟨⟨r9380, (), rfl, trivial, (by show va_P _ _ _ t.heap; rw [ht]; exact hP9)⟩, hS.F ht⟩) hS.2.2 dX12_ofPart_127
    · refine lv_tableIn (off := 116) (tgt := 128) hx hb dX12_ofPart_12 hlo9347 hhi9348 (by rw [hk]; decide) (by decide) ?_
      refine lv_aload_n hx hb dX12_ofPart_128 rfl (lv_at hl 0 rfl) ?_
      refine lv_iload_n hx hb dX12_ofPart_129 rfl (lv_at hl 1 rfl) ?_
      refine va_calli (va_runV (As := [.int p0]) (rest := []) ⟨hx, hb, hml, hown, hwd⟩ (c_X12_cannot l dC dI g c adK adV v F rc H.size p0 hg hI (by omega)) (cwV 1 hwd (gV wk_728 wk_725 wk_726 wk_727 wk_5) rfl rfl rfl (by decide +kernel) ⟨Nat.le_of_ble_eq_true rfl, Nat.le_of_ble_eq_true rfl⟩) ⟨PM.blind, va_recv hK hP (ci := 12) (q0 := 0) rfl rfl, fun U hU hW => ⟨rfl, PM.at hK hE hP hS hU hW⟩⟩ rfl rfl hl.1 rfl (lv_room (Nat.le_of_ble_eq_true rfl)) dX12_ofPart_130 ⟨Nat.le_of_ble_eq_true rfl, Nat.le_of_ble_eq_true rfl⟩) hS (fun q _ h => (freeM hS) q h) (freeM hS) (fun r9381 u t H1 locs ht hvm hw hB hz1 hk1 hS => ?_)
      unfold BM at hB
      rw [ht] at hB
      have hP : va_P (dC, dI) classes (wM g c v F rc) H1 := hB
      clear hz1
      generalize H1 = H at hP hS ⊢
      have rr_r9381 := i32_rng r9381
      have hP9 : va_P (dC, dI) classes (wM g c v F rc) H := hP
      exact W.iret (v := r9381) hx hb hr (fun t ht hW => ⟨⟨r9381, (), rfl, trivial, (by show va_P _ _ _ t.heap; rw [ht]; exact hP9)⟩, hS.F ht⟩) hS.2.2 dX12_ofPart_133
  · skip
    have t9382 := cv_eq (a := r9344.toInt) rfl (b := 0) (by decide) c9345
    refine lv_ldc (v := (-2000000000)) hx hb hown (hwd _ wk_542) dX12_ofPart_8 ?_
    have hP9 : va_P (dC, dI) classes (wM g c v F rc) H := hP
    exact W.iret (v := (-2000000000)) hx hb hr (fun t ht hW => ⟨⟨(-2000000000), (), rfl, trivial, (by show va_P _ _ _ t.heap; rw [ht]; exact hP9)⟩, hS.F ht⟩) hS.2.2 dX12_ofPart_10
