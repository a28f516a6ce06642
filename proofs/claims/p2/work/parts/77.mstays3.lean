set_option maxHeartbeats 8000000 in
set_option maxRecDepth 100000 in
theorem c_X12_staysOf (l : Launch) (dC : Nat → ClassId) (dI : Nat → Nat → Nat) (g : Nat → Nat) (c : Nat → ClassId) (adK adV : Nat → Nat) (v : Nat → Int32) (F : Nat → Nat → Int32) (rc sz : Nat) (p0 : Int32) (hg : injM g) (hI : IM v F) : Met l yX12_staysOf (Cond.code yX12_staysOf cX12_staysOf 4 (some .int) :: wA) ({ frames := 1, cells := 0, slots := 0, locals := 40 }) (va_Pc [.ref (g 0), .int p0] (PM dC dI g c adK adV v F rc sz)) (va_Qi (fun (r : Int32) (u : Unit) => r.toInt = (cnt (stP (F 15) p0.toInt) (v 19).toNatClampNeg : Int)) (fun (_ : Unit) => BM dC dI g c (v, F, rc)) (AM g sz)) 0 0 (AM g sz) := by
  refine Met.ofW (cc := cX12_staysOf) (maxL := 4) (ret := (some .int)) (by decide) rfl ?_
  intro p e s m args below meth c0 s₁ B hml hv
  obtain ⟨rfl, hsz, hP, hK, hE⟩ := hv
  have hx := B.exec
  have hb := B.bytes
  have hr := B.returns
  have hts := atoms_spec (ws := Cond.code yX12_staysOf cX12_staysOf 4 (some .int) :: wA) B.pre
  have hwd : ∀ w ∈ wA, w.before _ s = true := fun w h => hts w (List.mem_cons_of_mem _ h)
  have hown : s.vm.findClass RX12 = some m.cls := findClass_of_methodNamed B.named
  have hlocks := B.notSynchronized
  subst hsz
  have hl := lv_entry ([.ref (g 0), .int p0]) (n := 4) (Nat.le_of_ble_eq_true rfl)
  rw [lg_entry_eq]
  generalize (lg_sl ([.ref (g 0), .int p0]) ++ List.replicate (4 - (lg_sl ([.ref (g 0), .int p0])).length) Slot.unset).toArray = ls at hl ⊢
  have hl : lv_has ls 4 [(0, .ref (g 0)), (1, .int p0)] := hl
  obtain ⟨H, eH⟩ : ∃ z, z = s.heap := ⟨_, rfl⟩
  have hP : va_P (dC, dI) classes (wM g c v F rc) H := by rw [eH]; exact hP
  have hS : va_S (AM g s.heap.size) s.heap H [] := by rw [eH]; exact va_S.rf
  refine my_heap eH ?_
  have rp0 := i32_rng p0
  refine lv_iconst (v := 0) hx hb dX12_staysOf_0 (by decide) ?_
  refine lv_istore_n (lv' := [(2, .int 0), (0, .ref (g 0)), (1, .int p0)]) hx hb dX12_staysOf_1 rfl hl (by decide) rfl (fun ls hl => ?_)
  refine lv_iconst (v := 0) hx hb dX12_staysOf_2 (by decide) ?_
  refine lv_istore_n (lv' := [(3, .int 0), (2, .int 0), (0, .ref (g 0)), (1, .int p0)]) hx hb dX12_staysOf_3 rfl hl (by decide) rfl (fun ls hl => ?_)
  have lp8942 : ∀ (n : Nat) (x3_lp8942 : Int32) (x2_lp8942 : Int32) (H : Heap) (locs : List Loc) (ls : Array Slot), (0 ≤ x3_lp8942.toInt) → (x3_lp8942.toInt ≤ (v 19).toInt) → (0 ≤ x2_lp8942.toInt ∧ x2_lp8942.toInt ≤ x3_lp8942.toInt) → (x2_lp8942.toInt = (cnt (stP (F 15) p0.toInt) x3_lp8942.toNatClampNeg : Int)) → (2147483648 - x3_lp8942.toInt ≤ (n : Int)) → va_P (dC, dI) classes (wM g c v F rc) H → va_S (AM g s.heap.size) s.heap H locs → lv_has ls 4 [(3, .int x3_lp8942), (2, .int x2_lp8942), (0, .ref (g 0)), (1, .int p0)] → W p l e (headSpec (Cond.code yX12_staysOf cX12_staysOf 4 (some .int) :: wA) ({ frames := 1, cells := 0, slots := 0, locals := 40 })).room s m ([.ref (g 0), .int p0] : List Value).toArray below meth c0 H locs 0 0 (MQ below (va_Qi (fun (r : Int32) (u : Unit) => r.toInt = (cnt (stP (F 15) p0.toInt) (v 19).toNatClampNeg : Int)) (fun (_ : Unit) => BM dC dI g c (v, F, rc)) (AM g s.heap.size)) ([.ref (g 0), .int p0] : List Value).toArray s 0 0 (AM g s.heap.size)) (F0 m 4 ls []) := by
    intro n
    induction n with
    | zero =>
      intro x3_lp8942 x2_lp8942 H locs ls t8943 t8944 t8945 t8946 hm hP hS hl
      exfalso
      have := i32_rng x3_lp8942
      have := i32_rng x2_lp8942
      omega
    | succ n ih_lp8942 =>
      intro x3_lp8942 x2_lp8942 H locs ls t8943 t8944 t8945 t8946 hm hP hS hl
      have rx3_lp8942 := i32_rng x3_lp8942
      have rx2_lp8942 := i32_rng x2_lp8942
      refine lv_iload_n hx hb dX12_staysOf_4 rfl (lv_at hl 0 rfl) ?_
      refine lv_aload_n hx hb dX12_staysOf_5 rfl (lv_at hl 2 rfl) ?_
      refine va_get (D := (dC, dI)) (ci := 12) (v := .int (v 19)) (C := RX12) (T := TX12) (N := 63) hx hb hwd inA_X12 hown hK hP 0 rfl rfl 19 (by decide) (hwd _ wk_494) (fun _ h9 => h9) rfl dX12_staysOf_6 ?_
      have t8947 : 0 ≤ (v 19).toInt ∧ (v 19).toInt ≤ 500 := hI.1 19 _ _ rfl
      refine lv_icmp_ge (tgt := 36) hx hb dX12_staysOf_9 (by decide) (fun c8948 => ?_) (fun c8948 => ?_)
      · skip
        have t8949 := cv_le (a := (v 19).toInt) rfl (b := x3_lp8942.toInt) rfl c8948
        refine lv_iload_n hx hb dX12_staysOf_36 rfl (lv_at hl 1 rfl) ?_
        have hP9 : va_P (dC, dI) classes (wM g c v F rc) H := hP
        exact W.iret (v := x2_lp8942) hx hb hr (fun t ht hW => ⟨⟨x2_lp8942, (), rfl, (by have e9 := t8946; rw [ncl_eq (show x3_lp8942.toInt = (v 19).toInt by omega)] at e9; exact e9), (by show va_P _ _ _ t.heap; rw [ht]; exact hP9)⟩, hS.F ht⟩) hS.2.2 dX12_staysOf_37
      · skip
        have t8950 := cv_nle (a := (v 19).toInt) rfl (b := x3_lp8942.toInt) rfl c8948
        refine lv_iload_n hx hb dX12_staysOf_12 rfl (lv_at hl 1 rfl) ?_
        refine lv_aload_n hx hb dX12_staysOf_13 rfl (lv_at hl 2 rfl) ?_
        refine va_get (D := (dC, dI)) (ci := 12) (v := .ref (g 15)) (C := RX12) (T := TX12) (N := 63) hx hb hwd inA_X12 hown hK hP 0 rfl rfl 20 (by decide) (hwd _ wk_196) (fun _ h9 => h9) rfl dX12_staysOf_14 ?_
        refine lv_iload_n hx hb dX12_staysOf_17 rfl (lv_at hl 0 rfl) ?_
        refine va_iald hx hb hK hP 15 14 rfl rfl (i := x3_lp8942) (vin (a := x3_lp8942.toInt) rfl (by omega)) dX12_staysOf_18 ?_
        refine lv_topi (fun z8951 e8952 => ?_)
        have t8953 : 0 ≤ z8951.toInt ∧ z8951.toInt ≤ 99 := by rw [e8952]; exact hI.2 15 _ _ rfl _
        have tzz8951 : z8951.toInt = (F 15 (x3_lp8942 : Int32).toNatClampNeg).toInt := congrArg Int32.toInt e8952
        refine lv_iload_n hx hb dX12_staysOf_19 rfl (lv_at hl 3 rfl) ?_
        refine lv_icmp_ne (tgt := 27) hx hb dX12_staysOf_20 (by decide) (fun c8954 => ?_) (fun c8954 => ?_)
        · skip
          have t8955 := cv_ne (a := z8951.toInt) rfl (b := p0.toInt) rfl c8954
          refine lv_iconst (v := 0) hx hb dX12_staysOf_27 (by decide) ?_
          refine lv_iadd hx hb dX12_staysOf_28 ?_
          refine lv_topi (fun z8956 e8957 => ?_)
          try (have t8958 := tadd e8957 (a := x2_lp8942.toInt) rfl (b := 0) (by decide) (by omega))
          refine lv_istore_n (lv' := [(2, .int z8956), (3, .int x3_lp8942), (0, .ref (g 0)), (1, .int p0)]) hx hb dX12_staysOf_29 rfl hl (by decide) rfl (fun ls hl => ?_)
          obtain ⟨z8959, e8960⟩ : ∃ y : Int32, y = x3_lp8942 + 1 := ⟨_, rfl⟩
          try (have t8961 := tadd e8960 rfl (b := 1) (by decide) (by omega))
          refine lv_iinc (v := z8959) (lv' := [(3, .int z8959), (2, .int z8956), (0, .ref (g 0)), (1, .int p0)]) hx hb dX12_staysOf_30 hl (k := 1) rfl (by rw [e8960]; rfl) (by decide) rfl (fun ls hl => ?_)
          refine lv_goto (tgt := 4) hx hb dX12_staysOf_33 (by decide) ?_
          exact ih_lp8942 z8959 z8956  _ _ _ (by omega) (by omega) (by omega) (by first | exact cnt_s1 (by omega) (by omega) t8946 (decide_eq_true (by omega)) (by omega) | exact cnt_s0 (by omega) (by omega) t8946 (fun q => by have q := of_decide_eq_true q; omega) (by omega)) (by omega) hP hS (lv_sub hl [0, 1, 2, 3] rfl)
        · skip
          have t8962 := cv_eq (a := z8951.toInt) rfl (b := p0.toInt) rfl c8954
          refine lv_iconst (v := 1) hx hb dX12_staysOf_23 (by decide) ?_
          refine lv_goto (tgt := 28) hx hb dX12_staysOf_24 (by decide) ?_
          refine lv_iadd hx hb dX12_staysOf_28 ?_
          refine lv_topi (fun z8963 e8964 => ?_)
          try (have t8965 := tadd e8964 (a := x2_lp8942.toInt) rfl (b := 1) (by decide) (by omega))
          refine lv_istore_n (lv' := [(2, .int z8963), (3, .int x3_lp8942), (0, .ref (g 0)), (1, .int p0)]) hx hb dX12_staysOf_29 rfl hl (by decide) rfl (fun ls hl => ?_)
          obtain ⟨z8966, e8967⟩ : ∃ y : Int32, y = x3_lp8942 + 1 := ⟨_, rfl⟩
          try (have t8968 := tadd e8967 rfl (b := 1) (by decide) (by omega))
          refine lv_iinc (v := z8966) (lv' := [(3, .int z8966), (2, .int z8963), (0, .ref (g 0)), (1, .int p0)]) hx hb dX12_staysOf_30 hl (k := 1) rfl (by rw [e8967]; rfl) (by decide) rfl (fun ls hl => ?_)
          refine lv_goto (tgt := 4) hx hb dX12_staysOf_33 (by decide) ?_
          exact ih_lp8942 z8966 z8963  _ _ _ (by omega) (by omega) (by omega) (by first | exact cnt_s1 (by omega) (by omega) t8946 (decide_eq_true (by omega)) (by omega) | exact cnt_s0 (by omega) (by omega) t8946 (fun q => by have q := of_decide_eq_true q; omega) (by omega)) (by omega) hP hS (lv_sub hl [0, 1, 2, 3] rfl)
  obtain ⟨n9, hn9⟩ : ∃ n : Nat, 2147483648 - 0 ≤ (n : Int) := ⟨((2147483648 - 0 : Int)).toNat, by omega⟩
  exact lp8942 n9 0 0  H _ ls (by have : (0 : Int32).toInt = 0 := (by decide); have : (0 : Int32).toInt = 0 := (by decide); omega) (by have : (0 : Int32).toInt = 0 := (by decide); have : (0 : Int32).toInt = 0 := (by decide); omega) (by have : (0 : Int32).toInt = 0 := (by decide); omega) (by rfl) (by have : (0 : Int32).toInt = 0 := (by decide); have : (0 : Int32).toInt = 0 := (by decide); omega) hP hS hl
set_option maxHeartbeats 8000000 in
set_option maxRecDepth 100000 in
theorem c_X12_stayOf (l : Launch) (dC : Nat → ClassId) (dI : Nat → Nat → Nat) (g : Nat → Nat) (c : Nat → ClassId) (adK adV : Nat → Nat) (v : Nat → Int32) (F : Nat → Nat → Int32) (rc sz : Nat) (p0 : Int32) (p1 : Int32) (hg : injM g) (hI : IM v F) : Met l yX12_stayOf (Cond.code yX12_stayOf cX12_stayOf 6 (some .int) :: wA) ({ frames := 2, cells := 0, slots := 0, locals := 80 }) (va_Pc [.ref (g 0), .int p0, .int p1] (PM dC dI g c adK adV v F rc sz)) (va_Qi (fun (r : Int32) (u : Unit) => ((0 ≤ r.toInt ∧ r.toInt < (v 19).toInt) ∧ (F 15 r.toNatClampNeg).toInt = p0.toInt ∧ (cnt (ahP (F 15) (F 17) p0.toInt r.toNatClampNeg) (v 19).toNatClampNeg : Int) = p1.toInt) ∨ (r.toInt = -1 ∧ ∀ s : Nat, (s : Int) < (v 19).toInt → ((F 15 s).toInt = p0.toInt → (cnt (ahP (F 15) (F 17) p0.toInt s) (v 19).toNatClampNeg : Int) ≠ p1.toInt))) (fun (_ : Unit) => BM dC dI g c (v, F, rc)) (AM g sz)) 0 0 (AM g sz) := by
  refine Met.ofW (cc := cX12_stayOf) (maxL := 6) (ret := (some .int)) (by decide) rfl ?_
  intro p e s m args below meth c0 s₁ B hml hv
  obtain ⟨rfl, hsz, hP, hK, hE⟩ := hv
  have hx := B.exec
  have hb := B.bytes
  have hr := B.returns
  have hts := atoms_spec (ws := Cond.code yX12_stayOf cX12_stayOf 6 (some .int) :: wA) B.pre
  have hwd : ∀ w ∈ wA, w.before _ s = true := fun w h => hts w (List.mem_cons_of_mem _ h)
  have hown : s.vm.findClass RX12 = some m.cls := findClass_of_methodNamed B.named
  have hlocks := B.notSynchronized
  subst hsz
  have hl := lv_entry ([.ref (g 0), .int p0, .int p1]) (n := 6) (Nat.le_of_ble_eq_true rfl)
  rw [lg_entry_eq]
  generalize (lg_sl ([.ref (g 0), .int p0, .int p1]) ++ List.replicate (6 - (lg_sl ([.ref (g 0), .int p0, .int p1])).length) Slot.unset).toArray = ls at hl ⊢
  have hl : lv_has ls 6 [(0, .ref (g 0)), (1, .int p0), (2, .int p1)] := hl
  obtain ⟨H, eH⟩ : ∃ z, z = s.heap := ⟨_, rfl⟩
  have hP : va_P (dC, dI) classes (wM g c v F rc) H := by rw [eH]; exact hP
  have hS : va_S (AM g s.heap.size) s.heap H [] := by rw [eH]; exact va_S.rf
  refine my_heap eH ?_
  have rp0 := i32_rng p0
  have rp1 := i32_rng p1
  refine lv_iconst (v := 0) hx hb dX12_stayOf_0 (by decide) ?_
  refine lv_istore_n (lv' := [(3, .int 0), (0, .ref (g 0)), (1, .int p0), (2, .int p1)]) hx hb dX12_stayOf_1 rfl hl (by decide) rfl (fun ls hl => ?_)
  have lp8969 : ∀ (n : Nat) (x3_lp8969 : Int32) (H : Heap) (locs : List Loc) (ls : Array Slot), (0 ≤ x3_lp8969.toInt) → (∀ s : Nat, (s : Int) < x3_lp8969.toInt → ((F 15 s).toInt = p0.toInt → (cnt (ahP (F 15) (F 17) p0.toInt s) (v 19).toNatClampNeg : Int) ≠ p1.toInt)) → (2147483648 - x3_lp8969.toInt ≤ (n : Int)) → va_P (dC, dI) classes (wM g c v F rc) H → va_S (AM g s.heap.size) s.heap H locs → lv_has ls 6 [(3, .int x3_lp8969), (0, .ref (g 0)), (1, .int p0), (2, .int p1)] → W p l e (headSpec (Cond.code yX12_stayOf cX12_stayOf 6 (some .int) :: wA) ({ frames := 2, cells := 0, slots := 0, locals := 80 })).room s m ([.ref (g 0), .int p0, .int p1] : List Value).toArray below meth c0 H locs 0 0 (MQ below (va_Qi (fun (r : Int32) (u : Unit) => ((0 ≤ r.toInt ∧ r.toInt < (v 19).toInt) ∧ (F 15 r.toNatClampNeg).toInt = p0.toInt ∧ (cnt (ahP (F 15) (F 17) p0.toInt r.toNatClampNeg) (v 19).toNatClampNeg : Int) = p1.toInt) ∨ (r.toInt = -1 ∧ ∀ s : Nat, (s : Int) < (v 19).toInt → ((F 15 s).toInt = p0.toInt → (cnt (ahP (F 15) (F 17) p0.toInt s) (v 19).toNatClampNeg : Int) ≠ p1.toInt))) (fun (_ : Unit) => BM dC dI g c (v, F, rc)) (AM g s.heap.size)) ([.ref (g 0), .int p0, .int p1] : List Value).toArray s 0 0 (AM g s.heap.size)) (F0 m 2 ls []) := by
    intro n
    induction n with
    | zero =>
      intro x3_lp8969 H locs ls t8970 t8971 hm hP hS hl
      exfalso
      have := i32_rng x3_lp8969
      omega
    | succ n ih_lp8969 =>
      intro x3_lp8969 H locs ls t8970 t8971 hm hP hS hl
      have rx3_lp8969 := i32_rng x3_lp8969
      refine lv_iload_n hx hb dX12_stayOf_2 rfl (lv_at hl 0 rfl) ?_
      refine lv_aload_n hx hb dX12_stayOf_3 rfl (lv_at hl 1 rfl) ?_
      refine va_get (D := (dC, dI)) (ci := 12) (v := .int (v 19)) (C := RX12) (T := TX12) (N := 63) hx hb hwd inA_X12 hown hK hP 0 rfl rfl 19 (by decide) (hwd _ wk_494) (fun _ h9 => h9) rfl dX12_stayOf_4 ?_
      have t8972 : 0 ≤ (v 19).toInt ∧ (v 19).toInt ≤ 500 := hI.1 19 _ _ rfl
      refine lv_icmp_ge (tgt := 89) hx hb dX12_stayOf_7 (by decide) (fun c8973 => ?_) (fun c8973 => ?_)
      · skip
        have t8974 := cv_le (a := (v 19).toInt) rfl (b := x3_lp8969.toInt) rfl c8973
        refine lv_iconst (v := (-1)) hx hb dX12_stayOf_89 (by decide) ?_
        have hP9 : va_P (dC, dI) classes (wM g c v F rc) H := hP
        exact W.iret (v := (-1)) hx hb hr (fun t ht hW => ⟨⟨(-1), (), rfl, (Or.inr ⟨by decide, fun s hs => t8971 s (by omega)⟩), (by show va_P _ _ _ t.heap; rw [ht]; exact hP9)⟩, hS.F ht⟩) hS.2.2 dX12_stayOf_90
      · skip
        have t8975 := cv_nle (a := (v 19).toInt) rfl (b := x3_lp8969.toInt) rfl c8973
        refine lv_aload_n hx hb dX12_stayOf_10 rfl (lv_at hl 1 rfl) ?_
        refine va_get (D := (dC, dI)) (ci := 12) (v := .ref (g 15)) (C := RX12) (T := TX12) (N := 63) hx hb hwd inA_X12 hown hK hP 0 rfl rfl 20 (by decide) (hwd _ wk_196) (fun _ h9 => h9) rfl dX12_stayOf_11 ?_
        refine lv_iload_n hx hb dX12_stayOf_14 rfl (lv_at hl 0 rfl) ?_
        refine va_iald hx hb hK hP 15 14 rfl rfl (i := x3_lp8969) (vin (a := x3_lp8969.toInt) rfl (by omega)) dX12_stayOf_15 ?_
        refine lv_topi (fun z8976 e8977 => ?_)
        have t8978 : 0 ≤ z8976.toInt ∧ z8976.toInt ≤ 99 := by rw [e8977]; exact hI.2 15 _ _ rfl _
        have tzz8976 : z8976.toInt = (F 15 (x3_lp8969 : Int32).toNatClampNeg).toInt := congrArg Int32.toInt e8977
        refine lv_iload_n hx hb dX12_stayOf_16 rfl (lv_at hl 2 rfl) ?_
        refine lv_icmp_eq (tgt := 23) hx hb dX12_stayOf_17 (by decide) (fun c8979 => ?_) (fun c8979 => ?_)
        · skip
          have t8980 := cv_eq (a := z8976.toInt) rfl (b := p0.toInt) rfl c8979
          refine lv_iconst (v := 0) hx hb dX12_stayOf_23 (by decide) ?_
          refine lv_istore (lv' := [(4, .int 0), (3, .int x3_lp8969), (0, .ref (g 0)), (1, .int p0), (2, .int p1)]) hx hb dX12_stayOf_24 hl (by decide) rfl (fun ls hl => ?_)
          refine lv_iconst (v := 0) hx hb dX12_stayOf_26 (by decide) ?_
          refine lv_istore (lv' := [(5, .int 0), (4, .int 0), (3, .int x3_lp8969), (0, .ref (g 0)), (1, .int p0), (2, .int p1)]) hx hb dX12_stayOf_27 hl (by decide) rfl (fun ls hl => ?_)
          have lp8981 : ∀ (n : Nat) (x5_lp8981 : Int32) (x4_lp8981 : Int32) (H : Heap) (locs : List Loc) (ls : Array Slot), (0 ≤ x5_lp8981.toInt) → (x5_lp8981.toInt ≤ (v 19).toInt) → (0 ≤ x4_lp8981.toInt ∧ x4_lp8981.toInt ≤ x5_lp8981.toInt) → (x4_lp8981.toInt = (cnt (ahP (F 15) (F 17) p0.toInt x3_lp8969.toNatClampNeg) x5_lp8981.toNatClampNeg : Int)) → (2147483648 - x5_lp8981.toInt ≤ (n : Int)) → va_P (dC, dI) classes (wM g c v F rc) H → va_S (AM g s.heap.size) s.heap H locs → lv_has ls 6 [(5, .int x5_lp8981), (4, .int x4_lp8981), (3, .int x3_lp8969), (0, .ref (g 0)), (1, .int p0), (2, .int p1)] → W p l e (headSpec (Cond.code yX12_stayOf cX12_stayOf 6 (some .int) :: wA) ({ frames := 2, cells := 0, slots := 0, locals := 80 })).room s m ([.ref (g 0), .int p0, .int p1] : List Value).toArray below meth c0 H locs 0 0 (MQ below (va_Qi (fun (r : Int32) (u : Unit) => ((0 ≤ r.toInt ∧ r.toInt < (v 19).toInt) ∧ (F 15 r.toNatClampNeg).toInt = p0.toInt ∧ (cnt (ahP (F 15) (F 17) p0.toInt r.toNatClampNeg) (v 19).toNatClampNeg : Int) = p1.toInt) ∨ (r.toInt = -1 ∧ ∀ s : Nat, (s : Int) < (v 19).toInt → ((F 15 s).toInt = p0.toInt → (cnt (ahP (F 15) (F 17) p0.toInt s) (v 19).toNatClampNeg : Int) ≠ p1.toInt))) (fun (_ : Unit) => BM dC dI g c (v, F, rc)) (AM g s.heap.size)) ([.ref (g 0), .int p0, .int p1] : List Value).toArray s 0 0 (AM g s.heap.size)) (F0 m 29 ls []) := by
            intro n
            induction n with
            | zero =>
              intro x5_lp8981 x4_lp8981 H locs ls t8982 t8983 t8984 t8985 hm hP hS hl
              exfalso
              have := i32_rng x5_lp8981
              have := i32_rng x4_lp8981
              omega
            | succ n ih_lp8981 =>
              intro x5_lp8981 x4_lp8981 H locs ls t8982 t8983 t8984 t8985 hm hP hS hl
              have rx5_lp8981 := i32_rng x5_lp8981
              have rx4_lp8981 := i32_rng x4_lp8981
              refine lv_iload hx hb dX12_stayOf_29 (lv_at hl 0 rfl) ?_
              refine lv_aload_n hx hb dX12_stayOf_31 rfl (lv_at hl 3 rfl) ?_
              refine va_get (D := (dC, dI)) (ci := 12) (v := .int (v 19)) (C := RX12) (T := TX12) (N := 63) hx hb hwd inA_X12 hown hK hP 0 rfl rfl 19 (by decide) (hwd _ wk_494) (fun _ h9 => h9) rfl dX12_stayOf_32 ?_
              have t8986 : 0 ≤ (v 19).toInt ∧ (v 19).toInt ≤ 500 := hI.1 19 _ _ rfl
              refine lv_icmp_ge (tgt := 75) hx hb dX12_stayOf_35 (by decide) (fun c8987 => ?_) (fun c8987 => ?_)
              · skip
                have t8988 := cv_le (a := (v 19).toInt) rfl (b := x5_lp8981.toInt) rfl c8987
                refine lv_iload hx hb dX12_stayOf_75 (lv_at hl 1 rfl) ?_
                refine lv_iload_n hx hb dX12_stayOf_77 rfl (lv_at hl 5 rfl) ?_
                refine lv_icmp_ne (tgt := 83) hx hb dX12_stayOf_78 (by decide) (fun c8989 => ?_) (fun c8989 => ?_)
                · skip
                  have t8990 := cv_ne (a := x4_lp8981.toInt) rfl (b := p1.toInt) rfl c8989
                  obtain ⟨z8991, e8992⟩ : ∃ y : Int32, y = x3_lp8969 + 1 := ⟨_, rfl⟩
                  try (have t8993 := tadd e8992 rfl (b := 1) (by decide) (by omega))
                  refine lv_iinc (v := z8991) (lv' := [(3, .int z8991), (5, .int x5_lp8981), (4, .int x4_lp8981), (0, .ref (g 0)), (1, .int p0), (2, .int p1)]) hx hb dX12_stayOf_83 hl (k := 2) rfl (by rw [e8992]; rfl) (by decide) rfl (fun ls hl => ?_)
                  refine lv_goto (tgt := 2) hx hb dX12_stayOf_86 (by decide) ?_
                  exact ih_lp8969 z8991  _ _ _ (by omega) (all_step (x := x3_lp8969) (P := fun s => ((F 15 s).toInt = p0.toInt → (cnt (ahP (F 15) (F 17) p0.toInt s) (v 19).toNatClampNeg : Int) ≠ p1.toInt)) (by omega) t8971 (by have e9 := t8985; rw [ncl_eq (show x5_lp8981.toInt = (v 19).toInt by omega)] at e9; intro _; omega)) (by omega) hP hS (lv_sub hl [0, 3, 4, 5] rfl)
                · skip
                  have t8994 := cv_eq (a := x4_lp8981.toInt) rfl (b := p1.toInt) rfl c8989
                  refine lv_iload_n hx hb dX12_stayOf_81 rfl (lv_at hl 2 rfl) ?_
                  have hP9 : va_P (dC, dI) classes (wM g c v F rc) H := hP
                  exact W.iret (v := x3_lp8969) hx hb hr (fun t ht hW => ⟨⟨x3_lp8969, (), rfl, (by have e9 := t8985; rw [ncl_eq (show x5_lp8981.toInt = (v 19).toInt by omega)] at e9; exact Or.inl ⟨by omega, by omega, by omega⟩), (by show va_P _ _ _ t.heap; rw [ht]; exact hP9)⟩, hS.F ht⟩) hS.2.2 dX12_stayOf_82
              · skip
                have t8995 := cv_nle (a := (v 19).toInt) rfl (b := x5_lp8981.toInt) rfl c8987
                refine lv_iload hx hb dX12_stayOf_38 (lv_at hl 1 rfl) ?_
                refine lv_aload_n hx hb dX12_stayOf_40 rfl (lv_at hl 3 rfl) ?_
                refine va_get (D := (dC, dI)) (ci := 12) (v := .ref (g 15)) (C := RX12) (T := TX12) (N := 63) hx hb hwd inA_X12 hown hK hP 0 rfl rfl 20 (by decide) (hwd _ wk_196) (fun _ h9 => h9) rfl dX12_stayOf_41 ?_
                refine lv_iload hx hb dX12_stayOf_44 (lv_at hl 0 rfl) ?_
                refine va_iald hx hb hK hP 15 14 rfl rfl (i := x5_lp8981) (vin (a := x5_lp8981.toInt) rfl (by omega)) dX12_stayOf_46 ?_
                refine lv_topi (fun z8996 e8997 => ?_)
                have t8998 : 0 ≤ z8996.toInt ∧ z8996.toInt ≤ 99 := by rw [e8997]; exact hI.2 15 _ _ rfl _
                have tzz8996 : z8996.toInt = (F 15 (x5_lp8981 : Int32).toNatClampNeg).toInt := congrArg Int32.toInt e8997
                refine lv_iload_n hx hb dX12_stayOf_47 rfl (lv_at hl 4 rfl) ?_
                refine lv_icmp_ne (tgt := 65) hx hb dX12_stayOf_48 (by decide) (fun c8999 => ?_) (fun c8999 => ?_)
                · skip
                  have t9000 := cv_ne (a := z8996.toInt) rfl (b := p0.toInt) rfl c8999
                  refine lv_iconst (v := 0) hx hb dX12_stayOf_65 (by decide) ?_
                  refine lv_iadd hx hb dX12_stayOf_66 ?_
                  refine lv_topi (fun z9001 e9002 => ?_)
                  try (have t9003 := tadd e9002 (a := x4_lp8981.toInt) rfl (b := 0) (by decide) (by omega))
                  refine lv_istore (lv' := [(4, .int z9001), (5, .int x5_lp8981), (3, .int x3_lp8969), (0, .ref (g 0)), (1, .int p0), (2, .int p1)]) hx hb dX12_stayOf_67 hl (by decide) rfl (fun ls hl => ?_)
                  obtain ⟨z9004, e9005⟩ : ∃ y : Int32, y = x5_lp8981 + 1 := ⟨_, rfl⟩
                  try (have t9006 := tadd e9005 rfl (b := 1) (by decide) (by omega))
                  refine lv_iinc (v := z9004) (lv' := [(5, .int z9004), (4, .int z9001), (3, .int x3_lp8969), (0, .ref (g 0)), (1, .int p0), (2, .int p1)]) hx hb dX12_stayOf_69 hl (k := 1) rfl (by rw [e9005]; rfl) (by decide) rfl (fun ls hl => ?_)
                  refine lv_goto (tgt := 29) hx hb dX12_stayOf_72 (by decide) ?_
                  exact ih_lp8981 z9004 z9001  _ _ _ (by omega) (by omega) (by omega) (by have n9 := ncl_i (x := x5_lp8981) (by omega); have n8 := ncl_i (x := x3_lp8969) (by omega); first | exact cnt_s1 (x := x5_lp8981) (by omega) (by omega) t8985 (decide_eq_true (by omega)) (by omega) | exact cnt_s0 (x := x5_lp8981) (by omega) (by omega) t8985 (fun q => by have q := of_decide_eq_true q; omega) (by omega)) (by omega) hP hS (lv_sub hl [0, 1, 2, 3, 4, 5] rfl)
                · skip
                  have t9007 := cv_eq (a := z8996.toInt) rfl (b := p0.toInt) rfl c8999
                  refine lv_aload_n hx hb dX12_stayOf_51 rfl (lv_at hl 3 rfl) ?_
                  refine lv_iload hx hb dX12_stayOf_52 (lv_at hl 0 rfl) ?_
                  refine lv_iload_n hx hb dX12_stayOf_54 rfl (lv_at hl 2 rfl) ?_
                  refine va_calli (va_runV (As := [.int x5_lp8981, .int x3_lp8969]) (rest := [.int x4_lp8981]) ⟨hx, hb, hml, hown, hwd⟩ (c_X12_isAhead l dC dI g c adK adV v F rc H.size x5_lp8981 x3_lp8969 hg hI (by omega) (by omega)) (cwV 2 hwd (gV wk_509 wk_506 wk_507 wk_508 wk_5) rfl rfl rfl (by decide +kernel) ⟨Nat.le_of_ble_eq_true rfl, Nat.le_of_ble_eq_true rfl⟩) ⟨PM.blind, va_recv hK hP (ci := 12) (q0 := 0) rfl rfl, fun U hU hW => ⟨rfl, PM.at hK hE hP hS hU hW⟩⟩ rfl rfl hl.1 rfl (lv_room (Nat.le_of_ble_eq_true rfl)) dX12_stayOf_55 ⟨Nat.le_of_ble_eq_true rfl, Nat.le_of_ble_eq_true rfl⟩) hS (fun q _ h => (freeM hS) q h) (freeM hS) (fun r9008 u t H1 locs ht hvm hw hB hz1 hk1 hS => ?_)
                  unfold BM at hB
                  rw [ht] at hB
                  have hP : va_P (dC, dI) classes (wM g c v F rc) H1 := hB
                  have hw : (r9008.toInt = 1 ∧ ((F 17 x5_lp8981.toNatClampNeg).toInt < (F 17 x3_lp8969.toNatClampNeg).toInt ∨ ((F 17 x5_lp8981.toNatClampNeg).toInt = (F 17 x3_lp8969.toNatClampNeg).toInt ∧ x5_lp8981.toInt < x3_lp8969.toInt))) ∨ (r9008.toInt = 0 ∧ ¬ ((F 17 x5_lp8981.toNatClampNeg).toInt < (F 17 x3_lp8969.toNatClampNeg).toInt ∨ ((F 17 x5_lp8981.toNatClampNeg).toInt = (F 17 x3_lp8969.toNatClampNeg).toInt ∧ x5_lp8981.toInt < x3_lp8969.toInt))) := hw
                  have hw_r9008 := hw
                  generalize H1 = H at hP hS ⊢
                  refine lv_if_eq (tgt := 65) hx hb dX12_stayOf_58 (by decide) (fun c9009 => ?_) (fun c9009 => ?_)
                  · skip
                    have t9010 := cv_eq (a := r9008.toInt) rfl (b := 0) (by decide) c9009
                    refine lv_iconst (v := 0) hx hb dX12_stayOf_65 (by decide) ?_
                    refine lv_iadd hx hb dX12_stayOf_66 ?_
                    refine lv_topi (fun z9011 e9012 => ?_)
                    try (have t9013 := tadd e9012 (a := x4_lp8981.toInt) rfl (b := 0) (by decide) (by omega))
                    refine lv_istore (lv' := [(4, .int z9011), (5, .int x5_lp8981), (3, .int x3_lp8969), (0, .ref (g 0)), (1, .int p0), (2, .int p1)]) hx hb dX12_stayOf_67 hl (by decide) rfl (fun ls hl => ?_)
                    obtain ⟨z9014, e9015⟩ : ∃ y : Int32, y = x5_lp8981 + 1 := ⟨_, rfl⟩
                    try (have t9016 := tadd e9015 rfl (b := 1) (by decide) (by omega))
                    refine lv_iinc (v := z9014) (lv' := [(5, .int z9014), (4, .int z9011), (3, .int x3_lp8969), (0, .ref (g 0)), (1, .int p0), (2, .int p1)]) hx hb dX12_stayOf_69 hl (k := 1) rfl (by rw [e9015]; rfl) (by decide) rfl (fun ls hl => ?_)
                    refine lv_goto (tgt := 29) hx hb dX12_stayOf_72 (by decide) ?_
                    exact ih_lp8981 z9014 z9011  _ _ _ (by omega) (by omega) (by omega) (by have n9 := ncl_i (x := x5_lp8981) (by omega); have n8 := ncl_i (x := x3_lp8969) (by omega); first | exact cnt_s1 (x := x5_lp8981) (by omega) (by omega) t8985 (decide_eq_true (by omega)) (by omega) | exact cnt_s0 (x := x5_lp8981) (by omega) (by omega) t8985 (fun q => by have q := of_decide_eq_true q; omega) (by omega)) (by omega) hP hS (lv_sub hl [0, 1, 2, 3, 4, 5] rfl)
                  · skip
                    have t9017 := cv_ne (a := r9008.toInt) rfl (b := 0) (by decide) c9009
                    refine lv_iconst (v := 1) hx hb dX12_stayOf_61 (by decide) ?_
                    refine lv_goto (tgt := 66) hx hb dX12_stayOf_62 (by decide) ?_
                    refine lv_iadd hx hb dX12_stayOf_66 ?_
                    refine lv_topi (fun z9018 e9019 => ?_)
                    try (have t9020 := tadd e9019 (a := x4_lp8981.toInt) rfl (b := 1) (by decide) (by omega))
                    refine lv_istore (lv' := [(4, .int z9018), (5, .int x5_lp8981), (3, .int x3_lp8969), (0, .ref (g 0)), (1, .int p0), (2, .int p1)]) hx hb dX12_stayOf_67 hl (by decide) rfl (fun ls hl => ?_)
                    obtain ⟨z9021, e9022⟩ : ∃ y : Int32, y = x5_lp8981 + 1 := ⟨_, rfl⟩
                    try (have t9023 := tadd e9022 rfl (b := 1) (by decide) (by omega))
                    refine lv_iinc (v := z9021) (lv' := [(5, .int z9021), (4, .int z9018), (3, .int x3_lp8969), (0, .ref (g 0)), (1, .int p0), (2, .int p1)]) hx hb dX12_stayOf_69 hl (k := 1) rfl (by rw [e9022]; rfl) (by decide) rfl (fun ls hl => ?_)
                    refine lv_goto (tgt := 29) hx hb dX12_stayOf_72 (by decide) ?_
                    exact ih_lp8981 z9021 z9018  _ _ _ (by omega) (by omega) (by omega) (by have n9 := ncl_i (x := x5_lp8981) (by omega); have n8 := ncl_i (x := x3_lp8969) (by omega); first | exact cnt_s1 (x := x5_lp8981) (by omega) (by omega) t8985 (decide_eq_true (by omega)) (by omega) | exact cnt_s0 (x := x5_lp8981) (by omega) (by omega) t8985 (fun q => by have q := of_decide_eq_true q; omega) (by omega)) (by omega) hP hS (lv_sub hl [0, 1, 2, 3, 4, 5] rfl)
          obtain ⟨n9, hn9⟩ : ∃ n : Nat, 2147483648 - 0 ≤ (n : Int) := ⟨((2147483648 - 0 : Int)).toNat, by omega⟩
          exact lp8981 n9 0 0  H _ ls (by have : (0 : Int32).toInt = 0 := (by decide); have : (0 : Int32).toInt = 0 := (by decide); omega) (by have : (0 : Int32).toInt = 0 := (by decide); have : (0 : Int32).toInt = 0 := (by decide); omega) (by have : (0 : Int32).toInt = 0 := (by decide); omega) (by rfl) (by have : (0 : Int32).toInt = 0 := (by decide); have : (0 : Int32).toInt = 0 := (by decide); omega) hP hS hl
        · skip
          have t9024 := cv_ne (a := z8976.toInt) rfl (b := p0.toInt) rfl c8979
          refine lv_goto (tgt := 83) hx hb dX12_stayOf_20 (by decide) ?_
          obtain ⟨z9025, e9026⟩ : ∃ y : Int32, y = x3_lp8969 + 1 := ⟨_, rfl⟩
          try (have t9027 := tadd e9026 rfl (b := 1) (by decide) (by omega))
          refine lv_iinc (v := z9025) (lv' := [(3, .int z9025), (0, .ref (g 0)), (1, .int p0), (2, .int p1)]) hx hb dX12_stayOf_83 hl (k := 0) rfl (by rw [e9026]; rfl) (by decide) rfl (fun ls hl => ?_)
          refine lv_goto (tgt := 2) hx hb dX12_stayOf_86 (by decide) ?_
          exact ih_lp8969 z9025  _ _ _ (by omega) (all_step (x := x3_lp8969) (P := fun s => ((F 15 s).toInt = p0.toInt → (cnt (ahP (F 15) (F 17) p0.toInt s) (v 19).toNatClampNeg : Int) ≠ p1.toInt)) (by omega) t8971 (by intro q9; exfalso; omega)) (by omega) hP hS (lv_sub hl [0, 1, 2, 3] rfl)
  obtain ⟨n9, hn9⟩ : ∃ n : Nat, 2147483648 - 0 ≤ (n : Int) := ⟨((2147483648 - 0 : Int)).toNat, by omega⟩
  exact lp8969 n9 0  H _ ls (by have : (0 : Int32).toInt = 0 := (by decide); omega) (fun j h => absurd h (by have : (0 : Int32).toInt = 0 := (by decide); omega)) (by have : (0 : Int32).toInt = 0 := (by decide); omega) hP hS hl
set_option maxHeartbeats 8000000 in
set_option maxRecDepth 100000 in
theorem c_X12_paper (l : Launch) (dC : Nat → ClassId) (dI : Nat → Nat → Nat) (g : Nat → Nat) (c : Nat → ClassId) (adK adV : Nat → Nat) (v : Nat → Int32) (F : Nat → Nat → Int32) (rc sz : Nat) (p0 : Int32) (p1 : Int32) (p2 : Int32) (hg : injM g) (hI : IM v F) : Met l yX12_paper (Cond.code yX12_paper cX12_paper 6 (some .int) :: wA) ({ frames := 3, cells := 0, slots := 0, locals := 120 }) (va_Pc [.ref (g 0), .int p0, .int p1, .int p2] (PM dC dI g c adK adV v F rc sz)) (va_Qi (fun (r : Int32) (u : StM) => IM u.1 u.2.1 ∧ u.2.2 = rc ∧ (∀ k, k ∉ ([] : List Nat) → u.1 k = v k) ∧ (∀ k, k ∉ ([23] : List Nat) → u.2.1 k = F k) ∧ True) (BM dC dI g c) (AM g sz)) 0 0 (AM g sz) := by
  refine Met.ofW (cc := cX12_paper) (maxL := 6) (ret := (some .int)) (by decide) rfl ?_
  intro p e s m args below meth c0 s₁ B hml hv
  obtain ⟨rfl, hsz, hP, hK, hE⟩ := hv
  have hx := B.exec
  have hb := B.bytes
  have hr := B.returns
  have hts := atoms_spec (ws := Cond.code yX12_paper cX12_paper 6 (some .int) :: wA) B.pre
  have hwd : ∀ w ∈ wA, w.before _ s = true := fun w h => hts w (List.mem_cons_of_mem _ h)
  have hown : s.vm.findClass RX12 = some m.cls := findClass_of_methodNamed B.named
  have hlocks := B.notSynchronized
  subst hsz
  have hl := lv_entry ([.ref (g 0), .int p0, .int p1, .int p2]) (n := 6) (Nat.le_of_ble_eq_true rfl)
  rw [lg_entry_eq]
  generalize (lg_sl ([.ref (g 0), .int p0, .int p1, .int p2]) ++ List.replicate (6 - (lg_sl ([.ref (g 0), .int p0, .int p1, .int p2])).length) Slot.unset).toArray = ls at hl ⊢
  have hl : lv_has ls 6 [(0, .ref (g 0)), (1, .int p0), (2, .int p1), (3, .int p2)] := hl
  obtain ⟨H, eH⟩ : ∃ z, z = s.heap := ⟨_, rfl⟩
  have hP : va_P (dC, dI) classes (wM g c v F rc) H := by rw [eH]; exact hP
  have hS : va_S (AM g s.heap.size) s.heap H [] := by rw [eH]; exact va_S.rf
  refine my_heap eH ?_
  have hF : ∀ k, k ∉ ([23] : List Nat) → F k = F k := fun _ _ => rfl
  have rp0 := i32_rng p0
  have rp1 := i32_rng p1
  have rp2 := i32_rng p2
  refine lv_aload_n hx hb dX12_paper_0 rfl (lv_at hl 0 rfl) ?_
  refine lv_iload_n hx hb dX12_paper_1 rfl (lv_at hl 1 rfl) ?_
  refine va_calli (va_runV (As := [.int p0]) (rest := []) ⟨hx, hb, hml, hown, hwd⟩ (c_X12_isPart l dC dI g c adK adV v F rc H.size p0 hg hI ) (cwV 1 hwd (gV wk_631 wk_628 wk_629 wk_630 wk_5) rfl rfl rfl (by decide +kernel) ⟨Nat.le_of_ble_eq_true rfl, Nat.le_of_ble_eq_true rfl⟩) ⟨PM.blind, va_recv hK hP (ci := 12) (q0 := 0) rfl rfl, fun U hU hW => ⟨rfl, PM.at hK hE hP hS hU hW⟩⟩ rfl rfl hl.1 rfl (lv_room (Nat.le_of_ble_eq_true rfl)) dX12_paper_2 ⟨Nat.le_of_ble_eq_true rfl, Nat.le_of_ble_eq_true rfl⟩) hS (fun q _ h => (freeM hS) q h) (freeM hS) (fun r9062 u t H1 locs ht hvm hw hB hz1 hk1 hS => ?_)
  unfold BM at hB
  rw [ht] at hB
  have hP : va_P (dC, dI) classes (wM g c v F rc) H1 := hB
  have hw : (r9062.toInt = 1 ∧ 0 ≤ p0.toInt ∧ p0.toInt < (v 14).toInt) ∨ (r9062.toInt = 0 ∧ (p0.toInt < 0 ∨ (v 14).toInt ≤ p0.toInt)) := hw
  have hw_r9062 := hw
  generalize H1 = H at hP hS ⊢
  refine lv_if_eq (tgt := 17) hx hb dX12_paper_5 (by decide) (fun c9063 => ?_) (fun c9063 => ?_)
  · skip
    have t9064 := cv_eq (a := r9062.toInt) rfl (b := 0) (by decide) c9063
    refine lv_iconst (v := (-1)) hx hb dX12_paper_17 (by decide) ?_
    have hP9 : va_P (dC, dI) classes (wM g c v F rc) H := hP
    exact W.iret (v := (-1)) hx hb hr (fun t ht hW => ⟨⟨(-1), (v, F, rc), rfl, ⟨hI, rfl, (fun _ _ => rfl), hF, trivial⟩, (by show va_P _ _ _ t.heap; rw [ht]; exact hP9)⟩, hS.F ht⟩) hS.2.2 dX12_paper_18
  · skip
    have t9065 := cv_ne (a := r9062.toInt) rfl (b := 0) (by decide) c9063
    refine lv_iload_n hx hb dX12_paper_8 rfl (lv_at hl 3 rfl) ?_
    refine lv_iconst (v := 0) hx hb dX12_paper_9 (by decide) ?_
    refine lv_iconst (v := 1) hx hb dX12_paper_10 (by decide) ?_
    refine va_calli (va_runS (As := [.int p2, .int 0, .int 1]) (rest := []) ⟨hx, hb, hml, hown, hwd⟩ (c_X12_in l dC dI g c adK adV v F rc H.size p2 0 1 hg hI ) (va_cwS 3 hwd (gT wk_254 wk_252 wk_253 wk_5) rfl rfl rfl (by decide +kernel) ⟨Nat.le_of_ble_eq_true rfl, Nat.le_of_ble_eq_true rfl⟩) ⟨PM.blind, fun U hU hW => ⟨rfl, PM.at hK hE hP hS hU hW⟩⟩ rfl rfl hl.1 rfl (lv_room (Nat.le_of_ble_eq_true rfl)) dX12_paper_11 ⟨Nat.le_of_ble_eq_true rfl, Nat.le_of_ble_eq_true rfl⟩) hS (fun q _ h => (freeM hS) q h) (freeM hS) (fun r9066 u t H1 locs ht hvm hw hB hz1 hk1 hS => ?_)
    unfold BM at hB
    rw [ht] at hB
    have hP : va_P (dC, dI) classes (wM g c v F rc) H1 := hB
    have hw : (r9066.toInt = 1 ∧ (0 : Int32).toInt ≤ p2.toInt ∧ p2.toInt ≤ (1 : Int32).toInt) ∨ (r9066.toInt = 0 ∧ (p2.toInt < (0 : Int32).toInt ∨ (1 : Int32).toInt < p2.toInt)) := hw
    have hw_r9066 := hw
    have k9067 : (0 : Int32).toInt = 0 := by decide
    have k9068 : (1 : Int32).toInt = 1 := by decide
    generalize H1 = H at hP hS ⊢
    refine lv_if_ne (tgt := 19) hx hb dX12_paper_14 (by decide) (fun c9069 => ?_) (fun c9069 => ?_)
    · skip
      have t9070 := cv_ne (a := r9066.toInt) rfl (b := 0) (by decide) c9069
      refine lv_aload_n hx hb dX12_paper_19 rfl (lv_at hl 0 rfl) ?_
      refine lv_iload_n hx hb dX12_paper_20 rfl (lv_at hl 1 rfl) ?_
      refine lv_iload_n hx hb dX12_paper_21 rfl (lv_at hl 2 rfl) ?_
      refine va_calli (va_runV (As := [.int p0, .int p1]) (rest := []) ⟨hx, hb, hml, hown, hwd⟩ (c_X12_stayOf l dC dI g c adK adV v F rc H.size p0 p1 hg hI ) (cwV 2 hwd (gV wk_744 wk_741 wk_742 wk_743 wk_5) rfl rfl rfl (by decide +kernel) ⟨Nat.le_of_ble_eq_true rfl, Nat.le_of_ble_eq_true rfl⟩) ⟨PM.blind, va_recv hK hP (ci := 12) (q0 := 0) rfl rfl, fun U hU hW => ⟨rfl, PM.at hK hE hP hS hU hW⟩⟩ rfl rfl hl.1 rfl (lv_room (Nat.le_of_ble_eq_true rfl)) dX12_paper_22 ⟨Nat.le_of_ble_eq_true rfl, Nat.le_of_ble_eq_true rfl⟩) hS (fun q _ h => (freeM hS) q h) (freeM hS) (fun r9071 u t H1 locs ht hvm hw hB hz1 hk1 hS => ?_)
      unfold BM at hB
      rw [ht] at hB
      have hP : va_P (dC, dI) classes (wM g c v F rc) H1 := hB
      have hw : ((0 ≤ r9071.toInt ∧ r9071.toInt < (v 19).toInt) ∧ (F 15 r9071.toNatClampNeg).toInt = p0.toInt ∧ (cnt (ahP (F 15) (F 17) p0.toInt r9071.toNatClampNeg) (v 19).toNatClampNeg : Int) = p1.toInt) ∨ (r9071.toInt = -1 ∧ ∀ s : Nat, (s : Int) < (v 19).toInt → ((F 15 s).toInt = p0.toInt → (cnt (ahP (F 15) (F 17) p0.toInt s) (v 19).toNatClampNeg : Int) ≠ p1.toInt)) := hw
      have hw_r9071 := hw
      generalize H1 = H at hP hS ⊢
      refine lv_istore (lv' := [(4, .int r9071), (0, .ref (g 0)), (1, .int p0), (2, .int p1), (3, .int p2)]) hx hb dX12_paper_25 hl (by decide) rfl (fun ls hl => ?_)
      refine lv_iload hx hb dX12_paper_27 (lv_at hl 0 rfl) ?_
      refine lv_if_ge (tgt := 34) hx hb dX12_paper_29 (by decide) (fun c9072 => ?_) (fun c9072 => ?_)
      · skip
        have t9073 := cv_le (a := 0) (by decide) (b := r9071.toInt) rfl c9072
        refine lv_aload_n hx hb dX12_paper_34 rfl (lv_at hl 1 rfl) ?_
        refine va_get (D := (dC, dI)) (ci := 12) (v := .ref (g 18)) (C := RX12) (T := TX12) (N := 63) hx hb hwd inA_X12 hown hK hP 0 rfl rfl 23 (by decide) (hwd _ wk_199) (fun _ h9 => h9) rfl dX12_paper_35 ?_
        refine lv_iload hx hb dX12_paper_38 (lv_at hl 0 rfl) ?_
        refine va_iald hx hb hK hP 18 17 rfl rfl (i := r9071) (vin (a := r9071.toInt) rfl (by omega)) dX12_paper_40 ?_
        refine lv_topi (fun z9074 e9075 => ?_)
        refine lv_ldc (v := 1000000) hx hb hown (hwd _ wk_500) dX12_paper_41 ?_
        refine lv_icmp_ne (tgt := 49) hx hb dX12_paper_43 (by decide) (fun c9076 => ?_) (fun c9076 => ?_)
        · skip
          have t9077 := cv_ne (a := z9074.toInt) rfl (b := 1000000) (by decide) c9076
          refine lv_aload_n hx hb dX12_paper_49 rfl (lv_at hl 1 rfl) ?_
          refine va_get (D := (dC, dI)) (ci := 12) (v := .ref (g 23)) (C := RX12) (T := TX12) (N := 63) hx hb hwd inA_X12 hown hK hP 0 rfl rfl 28 (by decide) (hwd _ wk_204) (fun _ h9 => h9) rfl dX12_paper_50 ?_
          refine lv_iload hx hb dX12_paper_53 (lv_at hl 0 rfl) ?_
          refine va_zald hx hb hK hP 23 22 rfl rfl (i := r9071) (vin (a := r9071.toInt) rfl (by omega)) dX12_paper_55 ?_
          refine lv_topi (fun z9078 e9079 => ?_)
          refine lv_if_eq (tgt := 63) hx hb dX12_paper_56 (by decide) (fun c9080 => ?_) (fun c9080 => ?_)
          · skip
            have t9081 := cv_eq (a := z9078.toInt) rfl (b := 0) (by decide) c9080
            refine lv_iconst (v := 0) hx hb dX12_paper_63 (by decide) ?_
            refine lv_istore (lv' := [(5, .int 0), (4, .int r9071), (0, .ref (g 0)), (1, .int p0), (2, .int p1), (3, .int p2)]) hx hb dX12_paper_64 hl (by decide) rfl (fun ls hl => ?_)
            refine lv_aload_n hx hb dX12_paper_66 rfl (lv_at hl 2 rfl) ?_
            refine va_get (D := (dC, dI)) (ci := 12) (v := .ref (g 23)) (C := RX12) (T := TX12) (N := 63) hx hb hwd inA_X12 hown hK hP 0 rfl rfl 28 (by decide) (hwd _ wk_204) (fun _ h9 => h9) rfl dX12_paper_67 ?_
            refine lv_iload hx hb dX12_paper_70 (lv_at hl 1 rfl) ?_
            refine lv_iload_n hx hb dX12_paper_72 rfl (lv_at hl 5 rfl) ?_
            refine lv_iconst (v := 1) hx hb dX12_paper_73 (by decide) ?_
            refine lv_icmp_ne (tgt := 81) hx hb dX12_paper_74 (by decide) (fun c9082 => ?_) (fun c9082 => ?_)
            · skip
              have t9083 := cv_ne (a := p2.toInt) rfl (b := 1) (by decide) c9082
              refine lv_iconst (v := 0) hx hb dX12_paper_81 (by decide) ?_
              refine va_zast hx hb hK hP (DM hg) hS 23 22 rfl rfl (i := r9071) (x := 0) (vin (a := r9071.toInt) rfl (by omega)) dX12_paper_82 (fun H locs hP _ hS => ?_)
              have hP := va_P_eq (sM_23 g c _ _ _ _) hP
              have hI := IM.store0 hI 23 (r9071 : Int32).toNatClampNeg (vp_nar .boolean 0) rfl
              have hF := frUF (k := 23) (f := upd (F 23) (r9071 : Int32).toNatClampNeg (vp_nar .boolean 0)) (by decide) hF
              have hP : va_P (dC, dI) classes (wM g c v (va_up F 23 (upd (F 23) (r9071 : Int32).toNatClampNeg (vp_nar .boolean 0))) rc) H := hP
              generalize (va_up F 23 (upd (F 23) (r9071 : Int32).toNatClampNeg (vp_nar .boolean 0))) = F9084 at hP hI hF
              refine lv_iload hx hb dX12_paper_83 (lv_at hl 0 rfl) ?_
              have hP9 : va_P (dC, dI) classes (wM g c v F9084 rc) H := hP
              exact W.iret (v := 0) hx hb hr (fun t ht hW => ⟨⟨0, (v, F9084, rc), rfl, ⟨hI, rfl, (fun _ _ => rfl), hF, trivial⟩, (by show va_P _ _ _ t.heap; rw [ht]; exact hP9)⟩, hS.F ht⟩) hS.2.2 dX12_paper_85
            · skip
              have t9085 := cv_eq (a := p2.toInt) rfl (b := 1) (by decide) c9082
              refine lv_iconst (v := 1) hx hb dX12_paper_77 (by decide) ?_
              refine lv_goto (tgt := 82) hx hb dX12_paper_78 (by decide) ?_
              refine va_zast hx hb hK hP (DM hg) hS 23 22 rfl rfl (i := r9071) (x := 1) (vin (a := r9071.toInt) rfl (by omega)) dX12_paper_82 (fun H locs hP _ hS => ?_)
              have hP := va_P_eq (sM_23 g c _ _ _ _) hP
              have hI := IM.store0 hI 23 (r9071 : Int32).toNatClampNeg (vp_nar .boolean 1) rfl
              have hF := frUF (k := 23) (f := upd (F 23) (r9071 : Int32).toNatClampNeg (vp_nar .boolean 1)) (by decide) hF
              have hP : va_P (dC, dI) classes (wM g c v (va_up F 23 (upd (F 23) (r9071 : Int32).toNatClampNeg (vp_nar .boolean 1))) rc) H := hP
              generalize (va_up F 23 (upd (F 23) (r9071 : Int32).toNatClampNeg (vp_nar .boolean 1))) = F9086 at hP hI hF
              refine lv_iload hx hb dX12_paper_83 (lv_at hl 0 rfl) ?_
              have hP9 : va_P (dC, dI) classes (wM g c v F9086 rc) H := hP
              exact W.iret (v := 0) hx hb hr (fun t ht hW => ⟨⟨0, (v, F9086, rc), rfl, ⟨hI, rfl, (fun _ _ => rfl), hF, trivial⟩, (by show va_P _ _ _ t.heap; rw [ht]; exact hP9)⟩, hS.F ht⟩) hS.2.2 dX12_paper_85
          · skip
            have t9087 := cv_ne (a := z9078.toInt) rfl (b := 0) (by decide) c9080
            refine lv_iconst (v := 1) hx hb dX12_paper_59 (by decide) ?_
            refine lv_goto (tgt := 64) hx hb dX12_paper_60 (by decide) ?_
            refine lv_istore (lv' := [(5, .int 1), (4, .int r9071), (0, .ref (g 0)), (1, .int p0), (2, .int p1), (3, .int p2)]) hx hb dX12_paper_64 hl (by decide) rfl (fun ls hl => ?_)
            refine lv_aload_n hx hb dX12_paper_66 rfl (lv_at hl 2 rfl) ?_
            refine va_get (D := (dC, dI)) (ci := 12) (v := .ref (g 23)) (C := RX12) (T := TX12) (N := 63) hx hb hwd inA_X12 hown hK hP 0 rfl rfl 28 (by decide) (hwd _ wk_204) (fun _ h9 => h9) rfl dX12_paper_67 ?_
            refine lv_iload hx hb dX12_paper_70 (lv_at hl 1 rfl) ?_
            refine lv_iload_n hx hb dX12_paper_72 rfl (lv_at hl 5 rfl) ?_
            refine lv_iconst (v := 1) hx hb dX12_paper_73 (by decide) ?_
            refine lv_icmp_ne (tgt := 81) hx hb dX12_paper_74 (by decide) (fun c9088 => ?_) (fun c9088 => ?_)
            · skip
              have t9089 := cv_ne (a := p2.toInt) rfl (b := 1) (by decide) c9088
              refine lv_iconst (v := 0) hx hb dX12_paper_81 (by decide) ?_
              refine va_zast hx hb hK hP (DM hg) hS 23 22 rfl rfl (i := r9071) (x := 0) (vin (a := r9071.toInt) rfl (by omega)) dX12_paper_82 (fun H locs hP _ hS => ?_)
              have hP := va_P_eq (sM_23 g c _ _ _ _) hP
              have hI := IM.store0 hI 23 (r9071 : Int32).toNatClampNeg (vp_nar .boolean 0) rfl
              have hF := frUF (k := 23) (f := upd (F 23) (r9071 : Int32).toNatClampNeg (vp_nar .boolean 0)) (by decide) hF
              have hP : va_P (dC, dI) classes (wM g c v (va_up F 23 (upd (F 23) (r9071 : Int32).toNatClampNeg (vp_nar .boolean 0))) rc) H := hP
              generalize (va_up F 23 (upd (F 23) (r9071 : Int32).toNatClampNeg (vp_nar .boolean 0))) = F9090 at hP hI hF
              refine lv_iload hx hb dX12_paper_83 (lv_at hl 0 rfl) ?_
              have hP9 : va_P (dC, dI) classes (wM g c v F9090 rc) H := hP
              exact W.iret (v := 1) hx hb hr (fun t ht hW => ⟨⟨1, (v, F9090, rc), rfl, ⟨hI, rfl, (fun _ _ => rfl), hF, trivial⟩, (by show va_P _ _ _ t.heap; rw [ht]; exact hP9)⟩, hS.F ht⟩) hS.2.2 dX12_paper_85
            · skip
              have t9091 := cv_eq (a := p2.toInt) rfl (b := 1) (by decide) c9088
              refine lv_iconst (v := 1) hx hb dX12_paper_77 (by decide) ?_
              refine lv_goto (tgt := 82) hx hb dX12_paper_78 (by decide) ?_
              refine va_zast hx hb hK hP (DM hg) hS 23 22 rfl rfl (i := r9071) (x := 1) (vin (a := r9071.toInt) rfl (by omega)) dX12_paper_82 (fun H locs hP _ hS => ?_)
              have hP := va_P_eq (sM_23 g c _ _ _ _) hP
              have hI := IM.store0 hI 23 (r9071 : Int32).toNatClampNeg (vp_nar .boolean 1) rfl
              have hF := frUF (k := 23) (f := upd (F 23) (r9071 : Int32).toNatClampNeg (vp_nar .boolean 1)) (by decide) hF
              have hP : va_P (dC, dI) classes (wM g c v (va_up F 23 (upd (F 23) (r9071 : Int32).toNatClampNeg (vp_nar .boolean 1))) rc) H := hP
              generalize (va_up F 23 (upd (F 23) (r9071 : Int32).toNatClampNeg (vp_nar .boolean 1))) = F9092 at hP hI hF
              refine lv_iload hx hb dX12_paper_83 (lv_at hl 0 rfl) ?_
              have hP9 : va_P (dC, dI) classes (wM g c v F9092 rc) H := hP
              exact W.iret (v := 1) hx hb hr (fun t ht hW => ⟨⟨1, (v, F9092, rc), rfl, ⟨hI, rfl, (fun _ _ => rfl), hF, trivial⟩, (by show va_P _ _ _ t.heap; rw [ht]; exact hP9)⟩, hS.F ht⟩) hS.2.2 dX12_paper_85
        · skip
          have t9093 := cv_eq (a := z9074.toInt) rfl (b := 1000000) (by decide) c9076
          refine lv_bipush (v := (-2)) hx hb dX12_paper_46 (by decide) ?_
          have hP9 : va_P (dC, dI) classes (wM g c v F rc) H := hP
          exact W.iret (v := (-2)) hx hb hr (fun t ht hW => ⟨⟨(-2), (v, F, rc), rfl, ⟨hI, rfl, (fun _ _ => rfl), hF, trivial⟩, (by show va_P _ _ _ t.heap; rw [ht]; exact hP9)⟩, hS.F ht⟩) hS.2.2 dX12_paper_48
      · skip
        have t9094 := cv_nle (a := 0) (by decide) (b := r9071.toInt) rfl c9072
        refine lv_iconst (v := (-1)) hx hb dX12_paper_32 (by decide) ?_
        have hP9 : va_P (dC, dI) classes (wM g c v F rc) H := hP
        exact W.iret (v := (-1)) hx hb hr (fun t ht hW => ⟨⟨(-1), (v, F, rc), rfl, ⟨hI, rfl, (fun _ _ => rfl), hF, trivial⟩, (by show va_P _ _ _ t.heap; rw [ht]; exact hP9)⟩, hS.F ht⟩) hS.2.2 dX12_paper_33
    · skip
      have t9095 := cv_eq (a := r9066.toInt) rfl (b := 0) (by decide) c9069
      refine lv_iconst (v := (-1)) hx hb dX12_paper_17 (by decide) ?_
      have hP9 : va_P (dC, dI) classes (wM g c v F rc) H := hP
      exact W.iret (v := (-1)) hx hb hr (fun t ht hW => ⟨⟨(-1), (v, F, rc), rfl, ⟨hI, rfl, (fun _ _ => rfl), hF, trivial⟩, (by show va_P _ _ _ t.heap; rw [ht]; exact hP9)⟩, hS.F ht⟩) hS.2.2 dX12_paper_18
set_option maxHeartbeats 8000000 in
set_option maxRecDepth 100000 in
theorem c_X12_stay (l : Launch) (dC : Nat → ClassId) (dI : Nat → Nat → Nat) (g : Nat → Nat) (c : Nat → ClassId) (adK adV : Nat → Nat) (v : Nat → Int32) (F : Nat → Nat → Int32) (rc sz : Nat) (p0 : Int32) (p1 : Int32) (p2 : Int32) (hg : injM g) (hI : IM v F) : Met l yX12_stay (Cond.code yX12_stay cX12_stay 5 (some .int) :: wA) ({ frames := 3, cells := 0, slots := 0, locals := 120 }) (va_Pc [.ref (g 0), .int p0, .int p1, .int p2] (PM dC dI g c adK adV v F rc sz)) (va_Qi (fun (r : Int32) (u : Unit) => True) (fun (_ : Unit) => BM dC dI g c (v, F, rc)) (AM g sz)) 0 0 (AM g sz) := by
  refine Met.ofW (cc := cX12_stay) (maxL := 5) (ret := (some .int)) (by decide) rfl ?_
  intro p e s m args below meth c0 s₁ B hml hv
  obtain ⟨rfl, hsz, hP, hK, hE⟩ := hv
  have hx := B.exec
  have hb := B.bytes
  have hr := B.returns
  have hts := atoms_spec (ws := Cond.code yX12_stay cX12_stay 5 (some .int) :: wA) B.pre
  have hwd : ∀ w ∈ wA, w.before _ s = true := fun w h => hts w (List.mem_cons_of_mem _ h)
  have hown : s.vm.findClass RX12 = some m.cls := findClass_of_methodNamed B.named
  have hlocks := B.notSynchronized
  subst hsz
  have hl := lv_entry ([.ref (g 0), .int p0, .int p1, .int p2]) (n := 5) (Nat.le_of_ble_eq_true rfl)
  rw [lg_entry_eq]
  generalize (lg_sl ([.ref (g 0), .int p0, .int p1, .int p2]) ++ List.replicate (5 - (lg_sl ([.ref (g 0), .int p0, .int p1, .int p2])).length) Slot.unset).toArray = ls at hl ⊢
  have hl : lv_has ls 5 [(0, .ref (g 0)), (1, .int p0), (2, .int p1), (3, .int p2)] := hl
  obtain ⟨H, eH⟩ : ∃ z, z = s.heap := ⟨_, rfl⟩
  have hP : va_P (dC, dI) classes (wM g c v F rc) H := by rw [eH]; exact hP
  have hS : va_S (AM g s.heap.size) s.heap H [] := by rw [eH]; exact va_S.rf
  refine my_heap eH ?_
  have rp0 := i32_rng p0
  have rp1 := i32_rng p1
  have rp2 := i32_rng p2
  refine lv_aload_n hx hb dX12_stay_0 rfl (lv_at hl 0 rfl) ?_
  refine lv_iload_n hx hb dX12_stay_1 rfl (lv_at hl 1 rfl) ?_
  refine va_calli (va_runV (As := [.int p0]) (rest := []) ⟨hx, hb, hml, hown, hwd⟩ (c_X12_isPart l dC dI g c adK adV v F rc H.size p0 hg hI ) (cwV 1 hwd (gV wk_631 wk_628 wk_629 wk_630 wk_5) rfl rfl rfl (by decide +kernel) ⟨Nat.le_of_ble_eq_true rfl, Nat.le_of_ble_eq_true rfl⟩) ⟨PM.blind, va_recv hK hP (ci := 12) (q0 := 0) rfl rfl, fun U hU hW => ⟨rfl, PM.at hK hE hP hS hU hW⟩⟩ rfl rfl hl.1 rfl (lv_room (Nat.le_of_ble_eq_true rfl)) dX12_stay_2 ⟨Nat.le_of_ble_eq_true rfl, Nat.le_of_ble_eq_true rfl⟩) hS (fun q _ h => (freeM hS) q h) (freeM hS) (fun r9096 u t H1 locs ht hvm hw hB hz1 hk1 hS => ?_)
  unfold BM at hB
  rw [ht] at hB
  have hP : va_P (dC, dI) classes (wM g c v F rc) H1 := hB
  have hw : (r9096.toInt = 1 ∧ 0 ≤ p0.toInt ∧ p0.toInt < (v 14).toInt) ∨ (r9096.toInt = 0 ∧ (p0.toInt < 0 ∨ (v 14).toInt ≤ p0.toInt)) := hw
  have hw_r9096 := hw
  generalize H1 = H at hP hS ⊢
  refine lv_if_eq (tgt := 18) hx hb dX12_stay_5 (by decide) (fun c9097 => ?_) (fun c9097 => ?_)
  · skip
    have t9098 := cv_eq (a := r9096.toInt) rfl (b := 0) (by decide) c9097
    refine lv_ldc (v := (-2000000000)) hx hb hown (hwd _ wk_542) dX12_stay_18 ?_
    have hP9 : va_P (dC, dI) classes (wM g c v F rc) H := hP
    exact W.iret (v := (-2000000000)) hx hb hr (fun t ht hW => ⟨⟨(-2000000000), (), rfl, trivial, (by show va_P _ _ _ t.heap; rw [ht]; exact hP9)⟩, hS.F ht⟩) hS.2.2 dX12_stay_20
  · skip
    have t9099 := cv_ne (a := r9096.toInt) rfl (b := 0) (by decide) c9097
    refine lv_iload_n hx hb dX12_stay_8 rfl (lv_at hl 3 rfl) ?_
    refine lv_iconst (v := 0) hx hb dX12_stay_9 (by decide) ?_
    refine lv_bipush (v := 7) hx hb dX12_stay_10 (by decide) ?_
    refine va_calli (va_runS (As := [.int p2, .int 0, .int 7]) (rest := []) ⟨hx, hb, hml, hown, hwd⟩ (c_X12_in l dC dI g c adK adV v F rc H.size p2 0 7 hg hI ) (va_cwS 3 hwd (gT wk_254 wk_252 wk_253 wk_5) rfl rfl rfl (by decide +kernel) ⟨Nat.le_of_ble_eq_true rfl, Nat.le_of_ble_eq_true rfl⟩) ⟨PM.blind, fun U hU hW => ⟨rfl, PM.at hK hE hP hS hU hW⟩⟩ rfl rfl hl.1 rfl (lv_room (Nat.le_of_ble_eq_true rfl)) dX12_stay_12 ⟨Nat.le_of_ble_eq_true rfl, Nat.le_of_ble_eq_true rfl⟩) hS (fun q _ h => (freeM hS) q h) (freeM hS) (fun r9100 u t H1 locs ht hvm hw hB hz1 hk1 hS => ?_)
    unfold BM at hB
    rw [ht] at hB
    have hP : va_P (dC, dI) classes (wM g c v F rc) H1 := hB
    have hw : (r9100.toInt = 1 ∧ (0 : Int32).toInt ≤ p2.toInt ∧ p2.toInt ≤ (7 : Int32).toInt) ∨ (r9100.toInt = 0 ∧ (p2.toInt < (0 : Int32).toInt ∨ (7 : Int32).toInt < p2.toInt)) := hw
    have hw_r9100 := hw
    have k9101 : (0 : Int32).toInt = 0 := by decide
    have k9102 : (7 : Int32).toInt = 7 := by decide
    generalize H1 = H at hP hS ⊢
    refine lv_if_ne (tgt := 21) hx hb dX12_stay_15 (by decide) (fun c9103 => ?_) (fun c9103 => ?_)
    · skip
      have t9104 := cv_ne (a := r9100.toInt) rfl (b := 0) (by decide) c9103
      refine lv_aload_n hx hb dX12_stay_21 rfl (lv_at hl 0 rfl) ?_
      refine lv_iload_n hx hb dX12_stay_22 rfl (lv_at hl 1 rfl) ?_
      refine lv_iload_n hx hb dX12_stay_23 rfl (lv_at hl 2 rfl) ?_
      refine va_calli (va_runV (As := [.int p0, .int p1]) (rest := []) ⟨hx, hb, hml, hown, hwd⟩ (c_X12_stayOf l dC dI g c adK adV v F rc H.size p0 p1 hg hI ) (cwV 2 hwd (gV wk_744 wk_741 wk_742 wk_743 wk_5) rfl rfl rfl (by decide +kernel) ⟨Nat.le_of_ble_eq_true rfl, Nat.le_of_ble_eq_true rfl⟩) ⟨PM.blind, va_recv hK hP (ci := 12) (q0 := 0) rfl rfl, fun U hU hW => ⟨rfl, PM.at hK hE hP hS hU hW⟩⟩ rfl rfl hl.1 rfl (lv_room (Nat.le_of_ble_eq_true rfl)) dX12_stay_24 ⟨Nat.le_of_ble_eq_true rfl, Nat.le_of_ble_eq_true rfl⟩) hS (fun q _ h => (freeM hS) q h) (freeM hS) (fun r9105 u t H1 locs ht hvm hw hB hz1 hk1 hS => ?_)
      unfold BM at hB
      rw [ht] at hB
      have hP : va_P (dC, dI) classes (wM g c v F rc) H1 := hB
      have hw : ((0 ≤ r9105.toInt ∧ r9105.toInt < (v 19).toInt) ∧ (F 15 r9105.toNatClampNeg).toInt = p0.toInt ∧ (cnt (ahP (F 15) (F 17) p0.toInt r9105.toNatClampNeg) (v 19).toNatClampNeg : Int) = p1.toInt) ∨ (r9105.toInt = -1 ∧ ∀ s : Nat, (s : Int) < (v 19).toInt → ((F 15 s).toInt = p0.toInt → (cnt (ahP (F 15) (F 17) p0.toInt s) (v 19).toNatClampNeg : Int) ≠ p1.toInt)) := hw
      have hw_r9105 := hw
      generalize H1 = H at hP hS ⊢
      refine lv_istore (lv' := [(4, .int r9105), (0, .ref (g 0)), (1, .int p0), (2, .int p1), (3, .int p2)]) hx hb dX12_stay_27 hl (by decide) rfl (fun ls hl => ?_)
      refine lv_iload hx hb dX12_stay_29 (lv_at hl 0 rfl) ?_
      refine lv_if_ge (tgt := 37) hx hb dX12_stay_31 (by decide) (fun c9106 => ?_) (fun c9106 => ?_)
      · skip
        have t9107 := cv_le (a := 0) (by decide) (b := r9105.toInt) rfl c9106
        refine lv_iload_n hx hb dX12_stay_37 rfl (lv_at hl 4 rfl) ?_
        by_cases hlo9108 : p2.toInt < 0
        · refine lv_tableOut (tgt := 151) hx hb dX12_stay_38 (Or.inl hlo9108) (by decide) ?_
          refine lv_aload_n hx hb dX12_stay_151 rfl (lv_at hl 1 rfl) ?_
          refine va_get (D := (dC, dI)) (ci := 12) (v := .ref (g 23)) (C := RX12) (T := TX12) (N := 63) hx hb hwd inA_X12 hown hK hP 0 rfl rfl 28 (by decide) (hwd _ wk_204) (fun _ h9 => h9) rfl dX12_stay_152 ?_
          refine lv_iload hx hb dX12_stay_155 (lv_at hl 0 rfl) ?_
          refine va_zald hx hb hK hP 23 22 rfl rfl (i := r9105) (vin (a := r9105.toInt) rfl (by omega)) dX12_stay_157 ?_
          refine lv_topi (fun z9110 e9111 => ?_)
          refine lv_if_eq (tgt := 165) hx hb dX12_stay_158 (by decide) (fun c9112 => ?_) (fun c9112 => ?_)
          · skip
            have t9113 := cv_eq (a := z9110.toInt) rfl (b := 0) (by decide) c9112
            refine lv_iconst (v := 0) hx hb dX12_stay_165 (by decide) ?_
            have hP9 : va_P (dC, dI) classes (wM g c v F rc) H := hP
            exact W.iret (v := 0) hx hb hr (fun t ht hW => ⟨⟨0, (), rfl, trivial, (by show va_P _ _ _ t.heap; rw [ht]; exact hP9)⟩, hS.F ht⟩) hS.2.2 dX12_stay_166
          · skip
            have t9114 := cv_ne (a := z9110.toInt) rfl (b := 0) (by decide) c9112
            refine lv_iconst (v := 1) hx hb dX12_stay_161 (by decide) ?_
            refine lv_goto (tgt := 166) hx hb dX12_stay_162 (by decide) ?_
            have hP9 : va_P (dC, dI) classes (wM g c v F rc) H := hP
            exact W.iret (v := 1) hx hb hr (fun t ht hW => ⟨⟨1, (), rfl, trivial, (by show va_P _ _ _ t.heap; rw [ht]; exact hP9)⟩, hS.F ht⟩) hS.2.2 dX12_stay_166
        by_cases hhi9109 : 6 < p2.toInt
        · refine lv_tableOut (tgt := 151) hx hb dX12_stay_38 (Or.inr hhi9109) (by decide) ?_
          refine lv_aload_n hx hb dX12_stay_151 rfl (lv_at hl 1 rfl) ?_
          refine va_get (D := (dC, dI)) (ci := 12) (v := .ref (g 23)) (C := RX12) (T := TX12) (N := 63) hx hb hwd inA_X12 hown hK hP 0 rfl rfl 28 (by decide) (hwd _ wk_204) (fun _ h9 => h9) rfl dX12_stay_152 ?_
          refine lv_iload hx hb dX12_stay_155 (lv_at hl 0 rfl) ?_
          refine va_zald hx hb hK hP 23 22 rfl rfl (i := r9105) (vin (a := r9105.toInt) rfl (by omega)) dX12_stay_157 ?_
          refine lv_topi (fun z9115 e9116 => ?_)
          refine lv_if_eq (tgt := 165) hx hb dX12_stay_158 (by decide) (fun c9117 => ?_) (fun c9117 => ?_)
          · skip
            have t9118 := cv_eq (a := z9115.toInt) rfl (b := 0) (by decide) c9117
            refine lv_iconst (v := 0) hx hb dX12_stay_165 (by decide) ?_
            have hP9 : va_P (dC, dI) classes (wM g c v F rc) H := hP
            exact W.iret (v := 0) hx hb hr (fun t ht hW => ⟨⟨0, (), rfl, trivial, (by show va_P _ _ _ t.heap; rw [ht]; exact hP9)⟩, hS.F ht⟩) hS.2.2 dX12_stay_166
          · skip
            have t9119 := cv_ne (a := z9115.toInt) rfl (b := 0) (by decide) c9117
            refine lv_iconst (v := 1) hx hb dX12_stay_161 (by decide) ?_
            refine lv_goto (tgt := 166) hx hb dX12_stay_162 (by decide) ?_
            have hP9 : va_P (dC, dI) classes (wM g c v F rc) H := hP
            exact W.iret (v := 1) hx hb hr (fun t ht hW => ⟨⟨1, (), rfl, trivial, (by show va_P _ _ _ t.heap; rw [ht]; exact hP9)⟩, hS.F ht⟩) hS.2.2 dX12_stay_166
        rcases (show p2.toInt = 0 ∨ p2.toInt = 1 ∨ p2.toInt = 2 ∨ p2.toInt = 3 ∨ p2.toInt = 4 ∨ p2.toInt = 5 ∨ p2.toInt = 6 by omega) with hk | hk | hk | hk | hk | hk | hk
        · refine lv_tableIn (off := 42) (tgt := 80) hx hb dX12_stay_38 hlo9108 hhi9109 (by rw [hk]; decide) (by decide) ?_
          refine lv_aload_n hx hb dX12_stay_80 rfl (lv_at hl 1 rfl) ?_
          refine va_get (D := (dC, dI)) (ci := 12) (v := .ref (g 16)) (C := RX12) (T := TX12) (N := 63) hx hb hwd inA_X12 hown hK hP 0 rfl rfl 21 (by decide) (hwd _ wk_197) (fun _ h9 => h9) rfl dX12_stay_81 ?_
          refine lv_iload hx hb dX12_stay_84 (lv_at hl 0 rfl) ?_
          refine va_iald hx hb hK hP 16 15 rfl rfl (i := r9105) (vin (a := r9105.toInt) rfl (by omega)) dX12_stay_86 ?_
          refine lv_topi (fun z9120 e9121 => ?_)
          have t9122 : 0 ≤ z9120.toInt ∧ z9120.toInt ≤ 11 := by rw [e9121]; exact hI.2 16 _ _ rfl _
          have hP9 : va_P (dC, dI) classes (wM g c v F rc) H := hP
          exact W.iret (v := z9120) hx hb hr (fun t ht hW => ⟨⟨z9120, (), rfl, trivial, (by show va_P _ _ _ t.heap; rw [ht]; exact hP9)⟩, hS.F ht⟩) hS.2.2 dX12_stay_87
        · refine lv_tableIn (off := 50) (tgt := 88) hx hb dX12_stay_38 hlo9108 hhi9109 (by rw [hk]; decide) (by decide) ?_
          refine lv_aload_n hx hb dX12_stay_88 rfl (lv_at hl 1 rfl) ?_
          refine va_get (D := (dC, dI)) (ci := 12) (v := .ref (g 17)) (C := RX12) (T := TX12) (N := 63) hx hb hwd inA_X12 hown hK hP 0 rfl rfl 22 (by decide) (hwd _ wk_198) (fun _ h9 => h9) rfl dX12_stay_89 ?_
          refine lv_iload hx hb dX12_stay_92 (lv_at hl 0 rfl) ?_
          refine va_iald hx hb hK hP 17 16 rfl rfl (i := r9105) (vin (a := r9105.toInt) rfl (by omega)) dX12_stay_94 ?_
          refine lv_topi (fun z9123 e9124 => ?_)
          have hP9 : va_P (dC, dI) classes (wM g c v F rc) H := hP
          exact W.iret (v := z9123) hx hb hr (fun t ht hW => ⟨⟨z9123, (), rfl, trivial, (by show va_P _ _ _ t.heap; rw [ht]; exact hP9)⟩, hS.F ht⟩) hS.2.2 dX12_stay_95
        · refine lv_tableIn (off := 58) (tgt := 96) hx hb dX12_stay_38 hlo9108 hhi9109 (by rw [hk]; decide) (by decide) ?_
          refine lv_aload_n hx hb dX12_stay_96 rfl (lv_at hl 1 rfl) ?_
          refine va_get (D := (dC, dI)) (ci := 12) (v := .ref (g 18)) (C := RX12) (T := TX12) (N := 63) hx hb hwd inA_X12 hown hK hP 0 rfl rfl 23 (by decide) (hwd _ wk_199) (fun _ h9 => h9) rfl dX12_stay_97 ?_
          refine lv_iload hx hb dX12_stay_100 (lv_at hl 0 rfl) ?_
          refine va_iald hx hb hK hP 18 17 rfl rfl (i := r9105) (vin (a := r9105.toInt) rfl (by omega)) dX12_stay_102 ?_
          refine lv_topi (fun z9125 e9126 => ?_)
          refine lv_ldc (v := 1000000) hx hb hown (hwd _ wk_500) dX12_stay_103 ?_
          refine lv_icmp_ne (tgt := 113) hx hb dX12_stay_105 (by decide) (fun c9127 => ?_) (fun c9127 => ?_)
          · skip
            have t9128 := cv_ne (a := z9125.toInt) rfl (b := 1000000) (by decide) c9127
            refine lv_aload_n hx hb dX12_stay_113 rfl (lv_at hl 1 rfl) ?_
            refine va_get (D := (dC, dI)) (ci := 12) (v := .ref (g 18)) (C := RX12) (T := TX12) (N := 63) hx hb hwd inA_X12 hown hK hP 0 rfl rfl 23 (by decide) (hwd _ wk_199) (fun _ h9 => h9) rfl dX12_stay_114 ?_
            refine lv_iload hx hb dX12_stay_117 (lv_at hl 0 rfl) ?_
            refine va_iald hx hb hK hP 18 17 rfl rfl (i := r9105) (vin (a := r9105.toInt) rfl (by omega)) dX12_stay_119 ?_
            refine lv_topi (fun z9129 e9130 => ?_)
            have hP9 : va_P (dC, dI) classes (wM g c v F rc) H := hP
            exact W.iret (v := z9129) hx hb hr (fun t ht hW => ⟨⟨z9129, (), rfl, trivial, (by show va_P _ _ _ t.heap; rw [ht]; exact hP9)⟩, hS.F ht⟩) hS.2.2 dX12_stay_120
          · skip
            have t9131 := cv_eq (a := z9125.toInt) rfl (b := 1000000) (by decide) c9127
            refine lv_ldc (v := (-2000000000)) hx hb hown (hwd _ wk_542) dX12_stay_108 ?_
            refine lv_goto (tgt := 120) hx hb dX12_stay_110 (by decide) ?_
            have hP9 : va_P (dC, dI) classes (wM g c v F rc) H := hP
            exact W.iret (v := (-2000000000)) hx hb hr (fun t ht hW => ⟨⟨(-2000000000), (), rfl, trivial, (by show va_P _ _ _ t.heap; rw [ht]; exact hP9)⟩, hS.F ht⟩) hS.2.2 dX12_stay_120
        · refine lv_tableIn (off := 83) (tgt := 121) hx hb dX12_stay_38 hlo9108 hhi9109 (by rw [hk]; decide) (by decide) ?_
          refine lv_aload_n hx hb dX12_stay_121 rfl (lv_at hl 1 rfl) ?_
          refine va_get (D := (dC, dI)) (ci := 12) (v := .ref (g 19)) (C := RX12) (T := TX12) (N := 63) hx hb hwd inA_X12 hown hK hP 0 rfl rfl 24 (by decide) (hwd _ wk_200) (fun _ h9 => h9) rfl dX12_stay_122 ?_
          refine lv_iload hx hb dX12_stay_125 (lv_at hl 0 rfl) ?_
          refine va_iald hx hb hK hP 19 18 rfl rfl (i := r9105) (vin (a := r9105.toInt) rfl (by omega)) dX12_stay_127 ?_
          refine lv_topi (fun z9132 e9133 => ?_)
          have hP9 : va_P (dC, dI) classes (wM g c v F rc) H := hP
          exact W.iret (v := z9132) hx hb hr (fun t ht hW => ⟨⟨z9132, (), rfl, trivial, (by show va_P _ _ _ t.heap; rw [ht]; exact hP9)⟩, hS.F ht⟩) hS.2.2 dX12_stay_128
        · refine lv_tableIn (off := 91) (tgt := 129) hx hb dX12_stay_38 hlo9108 hhi9109 (by rw [hk]; decide) (by decide) ?_
          refine lv_aload_n hx hb dX12_stay_129 rfl (lv_at hl 1 rfl) ?_
          refine lv_iload hx hb dX12_stay_130 (lv_at hl 0 rfl) ?_
          refine va_calli (va_runV (As := [.int r9105]) (rest := []) ⟨hx, hb, hml, hown, hwd⟩ (c_X12_hoursEnd l dC dI g c adK adV v F rc H.size r9105 hg hI (by omega)) (cwV 1 hwd (gV wk_748 wk_745 wk_746 wk_747 wk_5) rfl rfl rfl (by decide +kernel) ⟨Nat.le_of_ble_eq_true rfl, Nat.le_of_ble_eq_true rfl⟩) ⟨PM.blind, va_recv hK hP (ci := 12) (q0 := 0) rfl rfl, fun U hU hW => ⟨rfl, PM.at hK hE hP hS hU hW⟩⟩ rfl rfl hl.1 rfl (lv_room (Nat.le_of_ble_eq_true rfl)) dX12_stay_132 ⟨Nat.le_of_ble_eq_true rfl, Nat.le_of_ble_eq_true rfl⟩) hS (fun q _ h => (freeM hS) q h) (freeM hS) (fun r9134 u t H1 locs ht hvm hw hB hz1 hk1 hS => ?_)
          unfold BM at hB
          rw [ht] at hB
          have hP : va_P (dC, dI) classes (wM g c v F rc) H1 := hB
          generalize H1 = H at hP hS ⊢
          have rr_r9134 := i32_rng r9134
          have hP9 : va_P (dC, dI) classes (wM g c v F rc) H := hP
          exact W.iret (v := r9134) hx hb hr (fun t ht hW => ⟨⟨r9134, (), rfl, trivial, (by show va_P _ _ _ t.heap; rw [ht]; exact hP9)⟩, hS.F ht⟩) hS.2.2 dX12_stay_135
        · refine lv_tableIn (off := 98) (tgt := 136) hx hb dX12_stay_38 hlo9108 hhi9109 (by rw [hk]; decide) (by decide) ?_
          refine lv_aload_n hx hb dX12_stay_136 rfl (lv_at hl 1 rfl) ?_
          refine va_get (D := (dC, dI)) (ci := 12) (v := .ref (g 21)) (C := RX12) (T := TX12) (N := 63) hx hb hwd inA_X12 hown hK hP 0 rfl rfl 26 (by decide) (hwd _ wk_202) (fun _ h9 => h9) rfl dX12_stay_137 ?_
          refine lv_iload hx hb dX12_stay_140 (lv_at hl 0 rfl) ?_
          refine va_iald hx hb hK hP 21 20 rfl rfl (i := r9105) (vin (a := r9105.toInt) rfl (by omega)) dX12_stay_142 ?_
          refine lv_topi (fun z9135 e9136 => ?_)
          have hP9 : va_P (dC, dI) classes (wM g c v F rc) H := hP
          exact W.iret (v := z9135) hx hb hr (fun t ht hW => ⟨⟨z9135, (), rfl, trivial, (by show va_P _ _ _ t.heap; rw [ht]; exact hP9)⟩, hS.F ht⟩) hS.2.2 dX12_stay_143
        · refine lv_tableIn (off := 106) (tgt := 144) hx hb dX12_stay_38 hlo9108 hhi9109 (by rw [hk]; decide) (by decide) ?_
          refine lv_aload_n hx hb dX12_stay_144 rfl (lv_at hl 1 rfl) ?_
          refine lv_iload hx hb dX12_stay_145 (lv_at hl 0 rfl) ?_
          refine va_calli (va_runV (As := [.int r9105]) (rest := []) ⟨hx, hb, hml, hown, hwd⟩ (c_X12_landingsEnd l dC dI g c adK adV v F rc H.size r9105 hg hI (by omega)) (cwV 1 hwd (gV wk_752 wk_749 wk_750 wk_751 wk_5) rfl rfl rfl (by decide +kernel) ⟨Nat.le_of_ble_eq_true rfl, Nat.le_of_ble_eq_true rfl⟩) ⟨PM.blind, va_recv hK hP (ci := 12) (q0 := 0) rfl rfl, fun U hU hW => ⟨rfl, PM.at hK hE hP hS hU hW⟩⟩ rfl rfl hl.1 rfl (lv_room (Nat.le_of_ble_eq_true rfl)) dX12_stay_147 ⟨Nat.le_of_ble_eq_true rfl, Nat.le_of_ble_eq_true rfl⟩) hS (fun q _ h => (freeM hS) q h) (freeM hS) (fun r9137 u t H1 locs ht hvm hw hB hz1 hk1 hS => ?_)
          unfold BM at hB
          rw [ht] at hB
          have hP : va_P (dC, dI) classes (wM g c v F rc) H1 := hB
          generalize H1 = H at hP hS ⊢
          have rr_r9137 := i32_rng r9137
          have hP9 : va_P (dC, dI) classes (wM g c v F rc) H := hP
          exact W.iret (v := r9137) hx hb hr (fun t ht hW => ⟨⟨r9137, (), rfl, trivial, (by show va_P _ _ _ t.heap; rw [ht]; exact hP9)⟩, hS.F ht⟩) hS.2.2 dX12_stay_150
      · skip
        have t9138 := cv_nle (a := 0) (by decide) (b := r9105.toInt) rfl c9106
        refine lv_ldc (v := (-2000000000)) hx hb hown (hwd _ wk_542) dX12_stay_34 ?_
        have hP9 : va_P (dC, dI) classes (wM g c v F rc) H := hP
        exact W.iret (v := (-2000000000)) hx hb hr (fun t ht hW => ⟨⟨(-2000000000), (), rfl, trivial, (by show va_P _ _ _ t.heap; rw [ht]; exact hP9)⟩, hS.F ht⟩) hS.2.2 dX12_stay_36
    · skip
      have t9139 := cv_eq (a := r9100.toInt) rfl (b := 0) (by decide) c9103
      refine lv_ldc (v := (-2000000000)) hx hb hown (hwd _ wk_542) dX12_stay_18 ?_
      have hP9 : va_P (dC, dI) classes (wM g c v F rc) H := hP
      exact W.iret (v := (-2000000000)) hx hb hr (fun t ht hW => ⟨⟨(-2000000000), (), rfl, trivial, (by show va_P _ _ _ t.heap; rw [ht]; exact hP9)⟩, hS.F ht⟩) hS.2.2 dX12_stay_20
theorem stay_pos {P T : Nat → Int32} {i : Int} {n k r : Int32} {m : Int} (hm : m = (cnt (stP P i) n.toNatClampNeg : Int)) (h0 : 0 ≤ k.toInt) (hk : k.toInt < m) (h : ((0 ≤ r.toInt ∧ r.toInt < n.toInt) ∧ (P r.toNatClampNeg).toInt = i ∧ (cnt (ahP P T i r.toNatClampNeg) n.toNatClampNeg : Int) = k.toInt) ∨ (r.toInt = -1 ∧ ∀ s : Nat, (s : Int) < n.toInt → ((P s).toInt = i → (cnt (ahP P T i s) n.toNatClampNeg : Int) ≠ k.toInt))) : 0 ≤ r.toInt ∧ r.toInt < n.toInt := by
  rcases h with h | ⟨-, h⟩
  · exact h.1
  · exfalso
    obtain ⟨s, h1, h2, h3⟩ := rank_surj P T i n.toNatClampNeg k.toInt.toNat (by omega)
    have e : n.toNatClampNeg = n.toInt.toNat := rfl
    exact h s (by omega) h2 (by rw [h3]; omega)
set_option maxHeartbeats 8000000 in
set_option maxRecDepth 100000 in
theorem c_X12_isLess (l : Launch) (dC : Nat → ClassId) (dI : Nat → Nat → Nat) (g : Nat → Nat) (c : Nat → ClassId) (adK adV : Nat → Nat) (v : Nat → Int32) (F : Nat → Nat → Int32) (rc sz : Nat) (p0 : Int32) (hg : injM g) (hI : IM v F) : Met l yX12_isLess (Cond.code yX12_isLess cX12_isLess 6 (some .boolean) :: wA) ({ frames := 3, cells := 0, slots := 0, locals := 120 }) (va_Pc [.ref (g 0), .int p0] (PM dC dI g c adK adV v F rc sz)) (va_Qi (fun (r : Int32) (u : Unit) => 0 ≤ r.toInt ∧ r.toInt ≤ 1) (fun (_ : Unit) => BM dC dI g c (v, F, rc)) (AM g sz)) 0 0 (AM g sz) := by
  refine Met.ofW (cc := cX12_isLess) (maxL := 6) (ret := (some .boolean)) (by decide) rfl ?_
  intro p e s m args below meth c0 s₁ B hml hv
  obtain ⟨rfl, hsz, hP, hK, hE⟩ := hv
  have hx := B.exec
  have hb := B.bytes
  have hr := B.returns
  have hts := atoms_spec (ws := Cond.code yX12_isLess cX12_isLess 6 (some .boolean) :: wA) B.pre
  have hwd : ∀ w ∈ wA, w.before _ s = true := fun w h => hts w (List.mem_cons_of_mem _ h)
  have hown : s.vm.findClass RX12 = some m.cls := findClass_of_methodNamed B.named
  have hlocks := B.notSynchronized
  subst hsz
  have hl := lv_entry ([.ref (g 0), .int p0]) (n := 6) (Nat.le_of_ble_eq_true rfl)
  rw [lg_entry_eq]
  generalize (lg_sl ([.ref (g 0), .int p0]) ++ List.replicate (6 - (lg_sl ([.ref (g 0), .int p0])).length) Slot.unset).toArray = ls at hl ⊢
  have hl : lv_has ls 6 [(0, .ref (g 0)), (1, .int p0)] := hl
  obtain ⟨H, eH⟩ : ∃ z, z = s.heap := ⟨_, rfl⟩
  have hP : va_P (dC, dI) classes (wM g c v F rc) H := by rw [eH]; exact hP
  have hS : va_S (AM g s.heap.size) s.heap H [] := by rw [eH]; exact va_S.rf
  refine my_heap eH ?_
  have rp0 := i32_rng p0
  refine lv_aload_n hx hb dX12_isLess_0 rfl (lv_at hl 0 rfl) ?_
  refine lv_iload_n hx hb dX12_isLess_1 rfl (lv_at hl 1 rfl) ?_
  refine va_calli (va_runV (As := [.int p0]) (rest := []) ⟨hx, hb, hml, hown, hwd⟩ (c_X12_staysOf l dC dI g c adK adV v F rc H.size p0 hg hI ) (cwV 1 hwd (gV wk_720 wk_717 wk_718 wk_719 wk_5) rfl rfl rfl (by decide +kernel) ⟨Nat.le_of_ble_eq_true rfl, Nat.le_of_ble_eq_true rfl⟩) ⟨PM.blind, va_recv hK hP (ci := 12) (q0 := 0) rfl rfl, fun U hU hW => ⟨rfl, PM.at hK hE hP hS hU hW⟩⟩ rfl rfl hl.1 rfl (lv_room (Nat.le_of_ble_eq_true rfl)) dX12_isLess_2 ⟨Nat.le_of_ble_eq_true rfl, Nat.le_of_ble_eq_true rfl⟩) hS (fun q _ h => (freeM hS) q h) (freeM hS) (fun r9140 u t H1 locs ht hvm hw hB hz1 hk1 hS => ?_)
  unfold BM at hB
  rw [ht] at hB
  have hP : va_P (dC, dI) classes (wM g c v F rc) H1 := hB
  have hw : r9140.toInt = (cnt (stP (F 15) p0.toInt) (v 19).toNatClampNeg : Int) := hw
  have hw_r9140 := hw
  generalize H1 = H at hP hS ⊢
  refine lv_istore_n (lv' := [(2, .int r9140), (0, .ref (g 0)), (1, .int p0)]) hx hb dX12_isLess_5 rfl hl (by decide) rfl (fun ls hl => ?_)
  refine lv_iconst (v := (-1)) hx hb dX12_isLess_6 (by decide) ?_
  refine lv_istore_n (lv' := [(3, .int (-1)), (2, .int r9140), (0, .ref (g 0)), (1, .int p0)]) hx hb dX12_isLess_7 rfl hl (by decide) rfl (fun ls hl => ?_)
  refine lv_iconst (v := 0) hx hb dX12_isLess_8 (by decide) ?_
  refine lv_istore (lv' := [(4, .int 0), (3, .int (-1)), (2, .int r9140), (0, .ref (g 0)), (1, .int p0)]) hx hb dX12_isLess_9 hl (by decide) rfl (fun ls hl => ?_)
  have lp9141 : ∀ (n : Nat) (x4_lp9141 : Int32) (x3_lp9141 : Int32) (H : Heap) (locs : List Loc) (ls : Array Slot), (0 ≤ x4_lp9141.toInt) → (-1 ≤ x3_lp9141.toInt) → (x3_lp9141.toInt ≤ 499) → (2147483648 - x4_lp9141.toInt ≤ (n : Int)) → va_P (dC, dI) classes (wM g c v F rc) H → va_S (AM g s.heap.size) s.heap H locs → lv_has ls 6 [(4, .int x4_lp9141), (3, .int x3_lp9141), (2, .int r9140), (0, .ref (g 0)), (1, .int p0)] → W p l e (headSpec (Cond.code yX12_isLess cX12_isLess 6 (some .boolean) :: wA) ({ frames := 3, cells := 0, slots := 0, locals := 120 })).room s m ([.ref (g 0), .int p0] : List Value).toArray below meth c0 H locs 0 0 (MQ below (va_Qi (fun (r : Int32) (u : Unit) => 0 ≤ r.toInt ∧ r.toInt ≤ 1) (fun (_ : Unit) => BM dC dI g c (v, F, rc)) (AM g s.heap.size)) ([.ref (g 0), .int p0] : List Value).toArray s 0 0 (AM g s.heap.size)) (F0 m 11 ls []) := by
    intro n
    induction n with
    | zero =>
      intro x4_lp9141 x3_lp9141 H locs ls t9142 t9143 t9144 hm hP hS hl
      exfalso
      have := i32_rng x4_lp9141
      have := i32_rng x3_lp9141
      omega
    | succ n ih_lp9141 =>
      intro x4_lp9141 x3_lp9141 H locs ls t9142 t9143 t9144 hm hP hS hl
      have rx4_lp9141 := i32_rng x4_lp9141
      have rx3_lp9141 := i32_rng x3_lp9141
      refine lv_iload hx hb dX12_isLess_11 (lv_at hl 0 rfl) ?_
      refine lv_iload_n hx hb dX12_isLess_13 rfl (lv_at hl 2 rfl) ?_
      refine lv_icmp_ge (tgt := 140) hx hb dX12_isLess_14 (by decide) (fun c9145 => ?_) (fun c9145 => ?_)
      · skip
        have t9146 := cv_le (a := r9140.toInt) rfl (b := x4_lp9141.toInt) rfl c9145
        refine lv_iconst (v := 0) hx hb dX12_isLess_140 (by decide) ?_
        have hP9 : va_P (dC, dI) classes (wM g c v F rc) H := hP
        exact W.zret (v := 0) hx hb hr (rfl) (fun t ht hW => ⟨⟨0, (), rfl, by have : (0 : Int32).toInt = 0 := (by decide); omega, (by show va_P _ _ _ t.heap; rw [ht]; exact hP9)⟩, hS.F ht⟩) hS.2.2 dX12_isLess_141
      · skip
        have t9147 := cv_nle (a := r9140.toInt) rfl (b := x4_lp9141.toInt) rfl c9145
        refine lv_aload_n hx hb dX12_isLess_17 rfl (lv_at hl 3 rfl) ?_
        refine lv_iload_n hx hb dX12_isLess_18 rfl (lv_at hl 4 rfl) ?_
        refine lv_iload hx hb dX12_isLess_19 (lv_at hl 0 rfl) ?_
        refine va_calli (va_runV (As := [.int p0, .int x4_lp9141]) (rest := []) ⟨hx, hb, hml, hown, hwd⟩ (c_X12_stayOf l dC dI g c adK adV v F rc H.size p0 x4_lp9141 hg hI ) (cwV 2 hwd (gV wk_744 wk_741 wk_742 wk_743 wk_5) rfl rfl rfl (by decide +kernel) ⟨Nat.le_of_ble_eq_true rfl, Nat.le_of_ble_eq_true rfl⟩) ⟨PM.blind, va_recv hK hP (ci := 12) (q0 := 0) rfl rfl, fun U hU hW => ⟨rfl, PM.at hK hE hP hS hU hW⟩⟩ rfl rfl hl.1 rfl (lv_room (Nat.le_of_ble_eq_true rfl)) dX12_isLess_21 ⟨Nat.le_of_ble_eq_true rfl, Nat.le_of_ble_eq_true rfl⟩) hS (fun q _ h => (freeM hS) q h) (freeM hS) (fun r9148 u t H1 locs ht hvm hw hB hz1 hk1 hS => ?_)
        unfold BM at hB
        rw [ht] at hB
        have hP : va_P (dC, dI) classes (wM g c v F rc) H1 := hB
        have hw : ((0 ≤ r9148.toInt ∧ r9148.toInt < (v 19).toInt) ∧ (F 15 r9148.toNatClampNeg).toInt = p0.toInt ∧ (cnt (ahP (F 15) (F 17) p0.toInt r9148.toNatClampNeg) (v 19).toNatClampNeg : Int) = x4_lp9141.toInt) ∨ (r9148.toInt = -1 ∧ ∀ s : Nat, (s : Int) < (v 19).toInt → ((F 15 s).toInt = p0.toInt → (cnt (ahP (F 15) (F 17) p0.toInt s) (v 19).toNatClampNeg : Int) ≠ x4_lp9141.toInt)) := hw
        have hw_r9148 := hw
        generalize H1 = H at hP hS ⊢
        have hs_r9148 := stay_pos hw_r9140 (k := x4_lp9141) (by omega) (by omega) hw_r9148
        refine lv_istore (lv' := [(5, .int r9148), (4, .int x4_lp9141), (3, .int x3_lp9141), (2, .int r9140), (0, .ref (g 0)), (1, .int p0)]) hx hb dX12_isLess_24 hl (by decide) rfl (fun ls hl => ?_)
        refine lv_aload_n hx hb dX12_isLess_26 rfl (lv_at hl 4 rfl) ?_
        refine va_get (D := (dC, dI)) (ci := 12) (v := .ref (g 16)) (C := RX12) (T := TX12) (N := 63) hx hb hwd inA_X12 hown hK hP 0 rfl rfl 21 (by decide) (hwd _ wk_197) (fun _ h9 => h9) rfl dX12_isLess_27 ?_
        refine lv_iload hx hb dX12_isLess_30 (lv_at hl 0 rfl) ?_
        refine va_iald hx hb hK hP 16 15 rfl rfl (i := r9148) (vin (a := r9148.toInt) rfl (by omega)) dX12_isLess_32 ?_
        refine lv_topi (fun z9149 e9150 => ?_)
        have t9151 : 0 ≤ z9149.toInt ∧ z9149.toInt ≤ 11 := by rw [e9150]; exact hI.2 16 _ _ rfl _
        have tzz9149 : z9149.toInt = (F 16 (r9148 : Int32).toNatClampNeg).toInt := congrArg Int32.toInt e9150
        refine lv_bipush (v := 10) hx hb dX12_isLess_33 (by decide) ?_
        refine lv_icmp_eq (tgt := 72) hx hb dX12_isLess_35 (by decide) (fun c9152 => ?_) (fun c9152 => ?_)
        · skip
          have t9153 := cv_eq (a := z9149.toInt) rfl (b := 10) (by decide) c9152
          refine lv_iload_n hx hb dX12_isLess_72 rfl (lv_at hl 2 rfl) ?_
          refine lv_if_lt (tgt := 131) hx hb dX12_isLess_73 (by decide) (fun c9154 => ?_) (fun c9154 => ?_)
          · skip
            have t9155 := cv_lt (a := x3_lp9141.toInt) rfl (b := 0) (by decide) c9154
            refine lv_iload hx hb dX12_isLess_131 (lv_at hl 0 rfl) ?_
            refine lv_istore_n (lv' := [(3, .int r9148), (5, .int r9148), (4, .int x4_lp9141), (2, .int r9140), (0, .ref (g 0)), (1, .int p0)]) hx hb dX12_isLess_133 rfl hl (by decide) rfl (fun ls hl => ?_)
            obtain ⟨z9156, e9157⟩ : ∃ y : Int32, y = x4_lp9141 + 1 := ⟨_, rfl⟩
            try (have t9158 := tadd e9157 rfl (b := 1) (by decide) (by omega))
            refine lv_iinc (v := z9156) (lv' := [(4, .int z9156), (3, .int r9148), (5, .int r9148), (2, .int r9140), (0, .ref (g 0)), (1, .int p0)]) hx hb dX12_isLess_134 hl (k := 2) rfl (by rw [e9157]; rfl) (by decide) rfl (fun ls hl => ?_)
            refine lv_goto (tgt := 11) hx hb dX12_isLess_137 (by decide) ?_
            exact ih_lp9141 z9156 r9148  _ _ _ (by omega) (by omega) (by omega) (by omega) hP hS (lv_sub hl [0, 1, 3, 4, 5] rfl)
          · skip
            have t9159 := cv_nlt (a := x3_lp9141.toInt) rfl (b := 0) (by decide) c9154
            refine lv_aload_n hx hb dX12_isLess_76 rfl (lv_at hl 4 rfl) ?_
            refine va_get (D := (dC, dI)) (ci := 12) (v := .ref (g 16)) (C := RX12) (T := TX12) (N := 63) hx hb hwd inA_X12 hown hK hP 0 rfl rfl 21 (by decide) (hwd _ wk_197) (fun _ h9 => h9) rfl dX12_isLess_77 ?_
            refine lv_iload_n hx hb dX12_isLess_80 rfl (lv_at hl 2 rfl) ?_
            refine va_iald hx hb hK hP 16 15 rfl rfl (i := x3_lp9141) (vin (a := x3_lp9141.toInt) rfl (by omega)) dX12_isLess_81 ?_
            refine lv_topi (fun z9160 e9161 => ?_)
            have t9162 : 0 ≤ z9160.toInt ∧ z9160.toInt ≤ 11 := by rw [e9161]; exact hI.2 16 _ _ rfl _
            have tzz9160 : z9160.toInt = (F 16 (x3_lp9141 : Int32).toNatClampNeg).toInt := congrArg Int32.toInt e9161
            refine lv_bipush (v := 10) hx hb dX12_isLess_82 (by decide) ?_
            refine lv_icmp_eq (tgt := 131) hx hb dX12_isLess_84 (by decide) (fun c9163 => ?_) (fun c9163 => ?_)
            · skip
              have t9164 := cv_eq (a := z9160.toInt) rfl (b := 10) (by decide) c9163
              refine lv_iload hx hb dX12_isLess_131 (lv_at hl 0 rfl) ?_
              refine lv_istore_n (lv' := [(3, .int r9148), (5, .int r9148), (4, .int x4_lp9141), (2, .int r9140), (0, .ref (g 0)), (1, .int p0)]) hx hb dX12_isLess_133 rfl hl (by decide) rfl (fun ls hl => ?_)
              obtain ⟨z9165, e9166⟩ : ∃ y : Int32, y = x4_lp9141 + 1 := ⟨_, rfl⟩
              try (have t9167 := tadd e9166 rfl (b := 1) (by decide) (by omega))
              refine lv_iinc (v := z9165) (lv' := [(4, .int z9165), (3, .int r9148), (5, .int r9148), (2, .int r9140), (0, .ref (g 0)), (1, .int p0)]) hx hb dX12_isLess_134 hl (k := 2) rfl (by rw [e9166]; rfl) (by decide) rfl (fun ls hl => ?_)
              refine lv_goto (tgt := 11) hx hb dX12_isLess_137 (by decide) ?_
              exact ih_lp9141 z9165 r9148  _ _ _ (by omega) (by omega) (by omega) (by omega) hP hS (lv_sub hl [0, 1, 3, 4, 5] rfl)
            · skip
              have t9168 := cv_ne (a := z9160.toInt) rfl (b := 10) (by decide) c9163
              refine lv_aload_n hx hb dX12_isLess_87 rfl (lv_at hl 4 rfl) ?_
              refine va_get (D := (dC, dI)) (ci := 12) (v := .ref (g 16)) (C := RX12) (T := TX12) (N := 63) hx hb hwd inA_X12 hown hK hP 0 rfl rfl 21 (by decide) (hwd _ wk_197) (fun _ h9 => h9) rfl dX12_isLess_88 ?_
              refine lv_iload hx hb dX12_isLess_91 (lv_at hl 0 rfl) ?_
              refine va_iald hx hb hK hP 16 15 rfl rfl (i := r9148) (vin (a := r9148.toInt) rfl (by omega)) dX12_isLess_93 ?_
              refine lv_topi (fun z9169 e9170 => ?_)
              have t9171 : 0 ≤ z9169.toInt ∧ z9169.toInt ≤ 11 := by rw [e9170]; exact hI.2 16 _ _ rfl _
              have tzz9169 : z9169.toInt = (F 16 (r9148 : Int32).toNatClampNeg).toInt := congrArg Int32.toInt e9170
              refine lv_bipush (v := 10) hx hb dX12_isLess_94 (by decide) ?_
              refine lv_icmp_eq (tgt := 131) hx hb dX12_isLess_96 (by decide) (fun c9172 => ?_) (fun c9172 => ?_)
              · skip
                have t9173 := cv_eq (a := z9169.toInt) rfl (b := 10) (by decide) c9172
                refine lv_iload hx hb dX12_isLess_131 (lv_at hl 0 rfl) ?_
                refine lv_istore_n (lv' := [(3, .int r9148), (5, .int r9148), (4, .int x4_lp9141), (2, .int r9140), (0, .ref (g 0)), (1, .int p0)]) hx hb dX12_isLess_133 rfl hl (by decide) rfl (fun ls hl => ?_)
                obtain ⟨z9174, e9175⟩ : ∃ y : Int32, y = x4_lp9141 + 1 := ⟨_, rfl⟩
                try (have t9176 := tadd e9175 rfl (b := 1) (by decide) (by omega))
                refine lv_iinc (v := z9174) (lv' := [(4, .int z9174), (3, .int r9148), (5, .int r9148), (2, .int r9140), (0, .ref (g 0)), (1, .int p0)]) hx hb dX12_isLess_134 hl (k := 2) rfl (by rw [e9175]; rfl) (by decide) rfl (fun ls hl => ?_)
                refine lv_goto (tgt := 11) hx hb dX12_isLess_137 (by decide) ?_
                exact ih_lp9141 z9174 r9148  _ _ _ (by omega) (by omega) (by omega) (by omega) hP hS (lv_sub hl [0, 1, 3, 4, 5] rfl)
              · skip
                have t9177 := cv_ne (a := z9169.toInt) rfl (b := 10) (by decide) c9172
                refine lv_aload_n hx hb dX12_isLess_99 rfl (lv_at hl 4 rfl) ?_
                refine va_get (D := (dC, dI)) (ci := 12) (v := .ref (g 19)) (C := RX12) (T := TX12) (N := 63) hx hb hwd inA_X12 hown hK hP 0 rfl rfl 24 (by decide) (hwd _ wk_200) (fun _ h9 => h9) rfl dX12_isLess_100 ?_
                refine lv_iload hx hb dX12_isLess_103 (lv_at hl 0 rfl) ?_
                refine va_iald hx hb hK hP 19 18 rfl rfl (i := r9148) (vin (a := r9148.toInt) rfl (by omega)) dX12_isLess_105 ?_
                refine lv_topi (fun z9178 e9179 => ?_)
                have tzz9178 : z9178.toInt = (F 19 (r9148 : Int32).toNatClampNeg).toInt := congrArg Int32.toInt e9179
                refine lv_aload_n hx hb dX12_isLess_106 rfl (lv_at hl 4 rfl) ?_
                refine lv_iload_n hx hb dX12_isLess_107 rfl (lv_at hl 2 rfl) ?_
                refine va_calli (va_runV (As := [.int x3_lp9141]) (rest := [.int z9178]) ⟨hx, hb, hml, hown, hwd⟩ (c_X12_hoursEnd l dC dI g c adK adV v F rc H.size x3_lp9141 hg hI (by omega)) (cwV 1 hwd (gV wk_748 wk_745 wk_746 wk_747 wk_5) rfl rfl rfl (by decide +kernel) ⟨Nat.le_of_ble_eq_true rfl, Nat.le_of_ble_eq_true rfl⟩) ⟨PM.blind, va_recv hK hP (ci := 12) (q0 := 0) rfl rfl, fun U hU hW => ⟨rfl, PM.at hK hE hP hS hU hW⟩⟩ rfl rfl hl.1 rfl (lv_room (Nat.le_of_ble_eq_true rfl)) dX12_isLess_108 ⟨Nat.le_of_ble_eq_true rfl, Nat.le_of_ble_eq_true rfl⟩) hS (fun q _ h => (freeM hS) q h) (freeM hS) (fun r9180 u t H1 locs ht hvm hw hB hz1 hk1 hS => ?_)
                unfold BM at hB
                rw [ht] at hB
                have hP : va_P (dC, dI) classes (wM g c v F rc) H1 := hB
                generalize H1 = H at hP hS ⊢
                have rr_r9180 := i32_rng r9180
                refine lv_icmp_lt (tgt := 129) hx hb dX12_isLess_111 (by decide) (fun c9181 => ?_) (fun c9181 => ?_)
                · skip
                  have t9182 := cv_lt (a := z9178.toInt) rfl (b := r9180.toInt) rfl c9181
                  refine lv_iconst (v := 1) hx hb dX12_isLess_129 (by decide) ?_
                  have hP9 : va_P (dC, dI) classes (wM g c v F rc) H := hP
                  exact W.zret (v := 1) hx hb hr (rfl) (fun t ht hW => ⟨⟨1, (), rfl, by have : (1 : Int32).toInt = 1 := (by decide); omega, (by show va_P _ _ _ t.heap; rw [ht]; exact hP9)⟩, hS.F ht⟩) hS.2.2 dX12_isLess_130
                · skip
                  have t9183 := cv_nlt (a := z9178.toInt) rfl (b := r9180.toInt) rfl c9181
                  refine lv_aload_n hx hb dX12_isLess_114 rfl (lv_at hl 4 rfl) ?_
                  refine va_get (D := (dC, dI)) (ci := 12) (v := .ref (g 21)) (C := RX12) (T := TX12) (N := 63) hx hb hwd inA_X12 hown hK hP 0 rfl rfl 26 (by decide) (hwd _ wk_202) (fun _ h9 => h9) rfl dX12_isLess_115 ?_
                  refine lv_iload hx hb dX12_isLess_118 (lv_at hl 0 rfl) ?_
                  refine va_iald hx hb hK hP 21 20 rfl rfl (i := r9148) (vin (a := r9148.toInt) rfl (by omega)) dX12_isLess_120 ?_
                  refine lv_topi (fun z9184 e9185 => ?_)
                  have tzz9184 : z9184.toInt = (F 21 (r9148 : Int32).toNatClampNeg).toInt := congrArg Int32.toInt e9185
                  refine lv_aload_n hx hb dX12_isLess_121 rfl (lv_at hl 4 rfl) ?_
                  refine lv_iload_n hx hb dX12_isLess_122 rfl (lv_at hl 2 rfl) ?_
                  refine va_calli (va_runV (As := [.int x3_lp9141]) (rest := [.int z9184]) ⟨hx, hb, hml, hown, hwd⟩ (c_X12_landingsEnd l dC dI g c adK adV v F rc H.size x3_lp9141 hg hI (by omega)) (cwV 1 hwd (gV wk_752 wk_749 wk_750 wk_751 wk_5) rfl rfl rfl (by decide +kernel) ⟨Nat.le_of_ble_eq_true rfl, Nat.le_of_ble_eq_true rfl⟩) ⟨PM.blind, va_recv hK hP (ci := 12) (q0 := 0) rfl rfl, fun U hU hW => ⟨rfl, PM.at hK hE hP hS hU hW⟩⟩ rfl rfl hl.1 rfl (lv_room (Nat.le_of_ble_eq_true rfl)) dX12_isLess_123 ⟨Nat.le_of_ble_eq_true rfl, Nat.le_of_ble_eq_true rfl⟩) hS (fun q _ h => (freeM hS) q h) (freeM hS) (fun r9186 u t H1 locs ht hvm hw hB hz1 hk1 hS => ?_)
                  unfold BM at hB
                  rw [ht] at hB
                  have hP : va_P (dC, dI) classes (wM g c v F rc) H1 := hB
                  generalize H1 = H at hP hS ⊢
                  have rr_r9186 := i32_rng r9186
                  refine lv_icmp_ge (tgt := 131) hx hb dX12_isLess_126 (by decide) (fun c9187 => ?_) (fun c9187 => ?_)
                  · skip
                    have t9188 := cv_le (a := r9186.toInt) rfl (b := z9184.toInt) rfl c9187
                    refine lv_iload hx hb dX12_isLess_131 (lv_at hl 0 rfl) ?_
                    refine lv_istore_n (lv' := [(3, .int r9148), (5, .int r9148), (4, .int x4_lp9141), (2, .int r9140), (0, .ref (g 0)), (1, .int p0)]) hx hb dX12_isLess_133 rfl hl (by decide) rfl (fun ls hl => ?_)
                    obtain ⟨z9189, e9190⟩ : ∃ y : Int32, y = x4_lp9141 + 1 := ⟨_, rfl⟩
                    try (have t9191 := tadd e9190 rfl (b := 1) (by decide) (by omega))
                    refine lv_iinc (v := z9189) (lv' := [(4, .int z9189), (3, .int r9148), (5, .int r9148), (2, .int r9140), (0, .ref (g 0)), (1, .int p0)]) hx hb dX12_isLess_134 hl (k := 2) rfl (by rw [e9190]; rfl) (by decide) rfl (fun ls hl => ?_)
                    refine lv_goto (tgt := 11) hx hb dX12_isLess_137 (by decide) ?_
                    exact ih_lp9141 z9189 r9148  _ _ _ (by omega) (by omega) (by omega) (by omega) hP hS (lv_sub hl [0, 1, 3, 4, 5] rfl)
                  · skip
                    have t9192 := cv_nle (a := r9186.toInt) rfl (b := z9184.toInt) rfl c9187
                    refine lv_iconst (v := 1) hx hb dX12_isLess_129 (by decide) ?_
                    have hP9 : va_P (dC, dI) classes (wM g c v F rc) H := hP
                    exact W.zret (v := 1) hx hb hr (rfl) (fun t ht hW => ⟨⟨1, (), rfl, by have : (1 : Int32).toInt = 1 := (by decide); omega, (by show va_P _ _ _ t.heap; rw [ht]; exact hP9)⟩, hS.F ht⟩) hS.2.2 dX12_isLess_130
        · skip
          have t9193 := cv_ne (a := z9149.toInt) rfl (b := 10) (by decide) c9152
          refine lv_aload_n hx hb dX12_isLess_38 rfl (lv_at hl 4 rfl) ?_
          refine lv_iload hx hb dX12_isLess_39 (lv_at hl 0 rfl) ?_
          refine va_calli (va_runV (As := [.int r9148]) (rest := []) ⟨hx, hb, hml, hown, hwd⟩ (c_X12_hoursEnd l dC dI g c adK adV v F rc H.size r9148 hg hI (by omega)) (cwV 1 hwd (gV wk_748 wk_745 wk_746 wk_747 wk_5) rfl rfl rfl (by decide +kernel) ⟨Nat.le_of_ble_eq_true rfl, Nat.le_of_ble_eq_true rfl⟩) ⟨PM.blind, va_recv hK hP (ci := 12) (q0 := 0) rfl rfl, fun U hU hW => ⟨rfl, PM.at hK hE hP hS hU hW⟩⟩ rfl rfl hl.1 rfl (lv_room (Nat.le_of_ble_eq_true rfl)) dX12_isLess_41 ⟨Nat.le_of_ble_eq_true rfl, Nat.le_of_ble_eq_true rfl⟩) hS (fun q _ h => (freeM hS) q h) (freeM hS) (fun r9194 u t H1 locs ht hvm hw hB hz1 hk1 hS => ?_)
          unfold BM at hB
          rw [ht] at hB
          have hP : va_P (dC, dI) classes (wM g c v F rc) H1 := hB
          generalize H1 = H at hP hS ⊢
          have rr_r9194 := i32_rng r9194
          refine lv_aload_n hx hb dX12_isLess_44 rfl (lv_at hl 4 rfl) ?_
          refine va_get (D := (dC, dI)) (ci := 12) (v := .ref (g 19)) (C := RX12) (T := TX12) (N := 63) hx hb hwd inA_X12 hown hK hP 0 rfl rfl 24 (by decide) (hwd _ wk_200) (fun _ h9 => h9) rfl dX12_isLess_45 ?_
          refine lv_iload hx hb dX12_isLess_48 (lv_at hl 0 rfl) ?_
          refine va_iald hx hb hK hP 19 18 rfl rfl (i := r9148) (vin (a := r9148.toInt) rfl (by omega)) dX12_isLess_50 ?_
          refine lv_topi (fun z9195 e9196 => ?_)
          have tzz9195 : z9195.toInt = (F 19 (r9148 : Int32).toNatClampNeg).toInt := congrArg Int32.toInt e9196
          refine lv_icmp_lt (tgt := 70) hx hb dX12_isLess_51 (by decide) (fun c9197 => ?_) (fun c9197 => ?_)
          · skip
            have t9198 := cv_lt (a := r9194.toInt) rfl (b := z9195.toInt) rfl c9197
            refine lv_iconst (v := 1) hx hb dX12_isLess_70 (by decide) ?_
            have hP9 : va_P (dC, dI) classes (wM g c v F rc) H := hP
            exact W.zret (v := 1) hx hb hr (rfl) (fun t ht hW => ⟨⟨1, (), rfl, by have : (1 : Int32).toInt = 1 := (by decide); omega, (by show va_P _ _ _ t.heap; rw [ht]; exact hP9)⟩, hS.F ht⟩) hS.2.2 dX12_isLess_71
          · skip
            have t9199 := cv_nlt (a := r9194.toInt) rfl (b := z9195.toInt) rfl c9197
            refine lv_aload_n hx hb dX12_isLess_54 rfl (lv_at hl 4 rfl) ?_
            refine lv_iload hx hb dX12_isLess_55 (lv_at hl 0 rfl) ?_
            refine va_calli (va_runV (As := [.int r9148]) (rest := []) ⟨hx, hb, hml, hown, hwd⟩ (c_X12_landingsEnd l dC dI g c adK adV v F rc H.size r9148 hg hI (by omega)) (cwV 1 hwd (gV wk_752 wk_749 wk_750 wk_751 wk_5) rfl rfl rfl (by decide +kernel) ⟨Nat.le_of_ble_eq_true rfl, Nat.le_of_ble_eq_true rfl⟩) ⟨PM.blind, va_recv hK hP (ci := 12) (q0 := 0) rfl rfl, fun U hU hW => ⟨rfl, PM.at hK hE hP hS hU hW⟩⟩ rfl rfl hl.1 rfl (lv_room (Nat.le_of_ble_eq_true rfl)) dX12_isLess_57 ⟨Nat.le_of_ble_eq_true rfl, Nat.le_of_ble_eq_true rfl⟩) hS (fun q _ h => (freeM hS) q h) (freeM hS) (fun r9200 u t H1 locs ht hvm hw hB hz1 hk1 hS => ?_)
            unfold BM at hB
            rw [ht] at hB
            have hP : va_P (dC, dI) classes (wM g c v F rc) H1 := hB
            generalize H1 = H at hP hS ⊢
            have rr_r9200 := i32_rng r9200
            refine lv_aload_n hx hb dX12_isLess_60 rfl (lv_at hl 4 rfl) ?_
            refine va_get (D := (dC, dI)) (ci := 12) (v := .ref (g 21)) (C := RX12) (T := TX12) (N := 63) hx hb hwd inA_X12 hown hK hP 0 rfl rfl 26 (by decide) (hwd _ wk_202) (fun _ h9 => h9) rfl dX12_isLess_61 ?_
            refine lv_iload hx hb dX12_isLess_64 (lv_at hl 0 rfl) ?_
            refine va_iald hx hb hK hP 21 20 rfl rfl (i := r9148) (vin (a := r9148.toInt) rfl (by omega)) dX12_isLess_66 ?_
            refine lv_topi (fun z9201 e9202 => ?_)
            have tzz9201 : z9201.toInt = (F 21 (r9148 : Int32).toNatClampNeg).toInt := congrArg Int32.toInt e9202
            refine lv_icmp_ge (tgt := 72) hx hb dX12_isLess_67 (by decide) (fun c9203 => ?_) (fun c9203 => ?_)
            · skip
              have t9204 := cv_le (a := z9201.toInt) rfl (b := r9200.toInt) rfl c9203
              refine lv_iload_n hx hb dX12_isLess_72 rfl (lv_at hl 2 rfl) ?_
              refine lv_if_lt (tgt := 131) hx hb dX12_isLess_73 (by decide) (fun c9205 => ?_) (fun c9205 => ?_)
              · skip
                have t9206 := cv_lt (a := x3_lp9141.toInt) rfl (b := 0) (by decide) c9205
                refine lv_iload hx hb dX12_isLess_131 (lv_at hl 0 rfl) ?_
                refine lv_istore_n (lv' := [(3, .int r9148), (5, .int r9148), (4, .int x4_lp9141), (2, .int r9140), (0, .ref (g 0)), (1, .int p0)]) hx hb dX12_isLess_133 rfl hl (by decide) rfl (fun ls hl => ?_)
                obtain ⟨z9207, e9208⟩ : ∃ y : Int32, y = x4_lp9141 + 1 := ⟨_, rfl⟩
                try (have t9209 := tadd e9208 rfl (b := 1) (by decide) (by omega))
                refine lv_iinc (v := z9207) (lv' := [(4, .int z9207), (3, .int r9148), (5, .int r9148), (2, .int r9140), (0, .ref (g 0)), (1, .int p0)]) hx hb dX12_isLess_134 hl (k := 2) rfl (by rw [e9208]; rfl) (by decide) rfl (fun ls hl => ?_)
                refine lv_goto (tgt := 11) hx hb dX12_isLess_137 (by decide) ?_
                exact ih_lp9141 z9207 r9148  _ _ _ (by omega) (by omega) (by omega) (by omega) hP hS (lv_sub hl [0, 1, 3, 4, 5] rfl)
              · skip
                have t9210 := cv_nlt (a := x3_lp9141.toInt) rfl (b := 0) (by decide) c9205
                refine lv_aload_n hx hb dX12_isLess_76 rfl (lv_at hl 4 rfl) ?_
                refine va_get (D := (dC, dI)) (ci := 12) (v := .ref (g 16)) (C := RX12) (T := TX12) (N := 63) hx hb hwd inA_X12 hown hK hP 0 rfl rfl 21 (by decide) (hwd _ wk_197) (fun _ h9 => h9) rfl dX12_isLess_77 ?_
                refine lv_iload_n hx hb dX12_isLess_80 rfl (lv_at hl 2 rfl) ?_
                refine va_iald hx hb hK hP 16 15 rfl rfl (i := x3_lp9141) (vin (a := x3_lp9141.toInt) rfl (by omega)) dX12_isLess_81 ?_
                refine lv_topi (fun z9211 e9212 => ?_)
                have t9213 : 0 ≤ z9211.toInt ∧ z9211.toInt ≤ 11 := by rw [e9212]; exact hI.2 16 _ _ rfl _
                have tzz9211 : z9211.toInt = (F 16 (x3_lp9141 : Int32).toNatClampNeg).toInt := congrArg Int32.toInt e9212
                refine lv_bipush (v := 10) hx hb dX12_isLess_82 (by decide) ?_
                refine lv_icmp_eq (tgt := 131) hx hb dX12_isLess_84 (by decide) (fun c9214 => ?_) (fun c9214 => ?_)
                · skip
                  have t9215 := cv_eq (a := z9211.toInt) rfl (b := 10) (by decide) c9214
                  refine lv_iload hx hb dX12_isLess_131 (lv_at hl 0 rfl) ?_
                  refine lv_istore_n (lv' := [(3, .int r9148), (5, .int r9148), (4, .int x4_lp9141), (2, .int r9140), (0, .ref (g 0)), (1, .int p0)]) hx hb dX12_isLess_133 rfl hl (by decide) rfl (fun ls hl => ?_)
                  obtain ⟨z9216, e9217⟩ : ∃ y : Int32, y = x4_lp9141 + 1 := ⟨_, rfl⟩
                  try (have t9218 := tadd e9217 rfl (b := 1) (by decide) (by omega))
                  refine lv_iinc (v := z9216) (lv' := [(4, .int z9216), (3, .int r9148), (5, .int r9148), (2, .int r9140), (0, .ref (g 0)), (1, .int p0)]) hx hb dX12_isLess_134 hl (k := 2) rfl (by rw [e9217]; rfl) (by decide) rfl (fun ls hl => ?_)
                  refine lv_goto (tgt := 11) hx hb dX12_isLess_137 (by decide) ?_
                  exact ih_lp9141 z9216 r9148  _ _ _ (by omega) (by omega) (by omega) (by omega) hP hS (lv_sub hl [0, 1, 3, 4, 5] rfl)
                · skip
                  have t9219 := cv_ne (a := z9211.toInt) rfl (b := 10) (by decide) c9214
                  refine lv_aload_n hx hb dX12_isLess_87 rfl (lv_at hl 4 rfl) ?_
                  refine va_get (D := (dC, dI)) (ci := 12) (v := .ref (g 16)) (C := RX12) (T := TX12) (N := 63) hx hb hwd inA_X12 hown hK hP 0 rfl rfl 21 (by decide) (hwd _ wk_197) (fun _ h9 => h9) rfl dX12_isLess_88 ?_
                  refine lv_iload hx hb dX12_isLess_91 (lv_at hl 0 rfl) ?_
                  refine va_iald hx hb hK hP 16 15 rfl rfl (i := r9148) (vin (a := r9148.toInt) rfl (by omega)) dX12_isLess_93 ?_
                  refine lv_topi (fun z9220 e9221 => ?_)
                  have t9222 : 0 ≤ z9220.toInt ∧ z9220.toInt ≤ 11 := by rw [e9221]; exact hI.2 16 _ _ rfl _
                  have tzz9220 : z9220.toInt = (F 16 (r9148 : Int32).toNatClampNeg).toInt := congrArg Int32.toInt e9221
                  refine lv_bipush (v := 10) hx hb dX12_isLess_94 (by decide) ?_
                  refine lv_icmp_eq (tgt := 131) hx hb dX12_isLess_96 (by decide) (fun c9223 => ?_) (fun c9223 => ?_)
                  · skip
                    have t9224 := cv_eq (a := z9220.toInt) rfl (b := 10) (by decide) c9223
                    refine lv_iload hx hb dX12_isLess_131 (lv_at hl 0 rfl) ?_
                    refine lv_istore_n (lv' := [(3, .int r9148), (5, .int r9148), (4, .int x4_lp9141), (2, .int r9140), (0, .ref (g 0)), (1, .int p0)]) hx hb dX12_isLess_133 rfl hl (by decide) rfl (fun ls hl => ?_)
                    obtain ⟨z9225, e9226⟩ : ∃ y : Int32, y = x4_lp9141 + 1 := ⟨_, rfl⟩
                    try (have t9227 := tadd e9226 rfl (b := 1) (by decide) (by omega))
                    refine lv_iinc (v := z9225) (lv' := [(4, .int z9225), (3, .int r9148), (5, .int r9148), (2, .int r9140), (0, .ref (g 0)), (1, .int p0)]) hx hb dX12_isLess_134 hl (k := 2) rfl (by rw [e9226]; rfl) (by decide) rfl (fun ls hl => ?_)
                    refine lv_goto (tgt := 11) hx hb dX12_isLess_137 (by decide) ?_
                    exact ih_lp9141 z9225 r9148  _ _ _ (by omega) (by omega) (by omega) (by omega) hP hS (lv_sub hl [0, 1, 3, 4, 5] rfl)
                  · skip
                    have t9228 := cv_ne (a := z9220.toInt) rfl (b := 10) (by decide) c9223
                    refine lv_aload_n hx hb dX12_isLess_99 rfl (lv_at hl 4 rfl) ?_
                    refine va_get (D := (dC, dI)) (ci := 12) (v := .ref (g 19)) (C := RX12) (T := TX12) (N := 63) hx hb hwd inA_X12 hown hK hP 0 rfl rfl 24 (by decide) (hwd _ wk_200) (fun _ h9 => h9) rfl dX12_isLess_100 ?_
                    refine lv_iload hx hb dX12_isLess_103 (lv_at hl 0 rfl) ?_
                    refine va_iald hx hb hK hP 19 18 rfl rfl (i := r9148) (vin (a := r9148.toInt) rfl (by omega)) dX12_isLess_105 ?_
                    refine lv_topi (fun z9229 e9230 => ?_)
                    have tzz9229 : z9229.toInt = (F 19 (r9148 : Int32).toNatClampNeg).toInt := congrArg Int32.toInt e9230
                    refine lv_aload_n hx hb dX12_isLess_106 rfl (lv_at hl 4 rfl) ?_
                    refine lv_iload_n hx hb dX12_isLess_107 rfl (lv_at hl 2 rfl) ?_
                    refine va_calli (va_runV (As := [.int x3_lp9141]) (rest := [.int z9229]) ⟨hx, hb, hml, hown, hwd⟩ (c_X12_hoursEnd l dC dI g c adK adV v F rc H.size x3_lp9141 hg hI (by omega)) (cwV 1 hwd (gV wk_748 wk_745 wk_746 wk_747 wk_5) rfl rfl rfl (by decide +kernel) ⟨Nat.le_of_ble_eq_true rfl, Nat.le_of_ble_eq_true rfl⟩) ⟨PM.blind, va_recv hK hP (ci := 12) (q0 := 0) rfl rfl, fun U hU hW => ⟨rfl, PM.at hK hE hP hS hU hW⟩⟩ rfl rfl hl.1 rfl (lv_room (Nat.le_of_ble_eq_true rfl)) dX12_isLess_108 ⟨Nat.le_of_ble_eq_true rfl, Nat.le_of_ble_eq_true rfl⟩) hS (fun q _ h => (freeM hS) q h) (freeM hS) (fun r9231 u t H1 locs ht hvm hw hB hz1 hk1 hS => ?_)
                    unfold BM at hB
                    rw [ht] at hB
                    have hP : va_P (dC, dI) classes (wM g c v F rc) H1 := hB
                    generalize H1 = H at hP hS ⊢
                    have rr_r9231 := i32_rng r9231
                    refine lv_icmp_lt (tgt := 129) hx hb dX12_isLess_111 (by decide) (fun c9232 => ?_) (fun c9232 => ?_)
                    · skip
                      have t9233 := cv_lt (a := z9229.toInt) rfl (b := r9231.toInt) rfl c9232
                      refine lv_iconst (v := 1) hx hb dX12_isLess_129 (by decide) ?_
                      have hP9 : va_P (dC, dI) classes (wM g c v F rc) H := hP
                      exact W.zret (v := 1) hx hb hr (rfl) (fun t ht hW => ⟨⟨1, (), rfl, by have : (1 : Int32).toInt = 1 := (by decide); omega, (by show va_P _ _ _ t.heap; rw [ht]; exact hP9)⟩, hS.F ht⟩) hS.2.2 dX12_isLess_130
                    · skip
                      have t9234 := cv_nlt (a := z9229.toInt) rfl (b := r9231.toInt) rfl c9232
                      refine lv_aload_n hx hb dX12_isLess_114 rfl (lv_at hl 4 rfl) ?_
                      refine va_get (D := (dC, dI)) (ci := 12) (v := .ref (g 21)) (C := RX12) (T := TX12) (N := 63) hx hb hwd inA_X12 hown hK hP 0 rfl rfl 26 (by decide) (hwd _ wk_202) (fun _ h9 => h9) rfl dX12_isLess_115 ?_
                      refine lv_iload hx hb dX12_isLess_118 (lv_at hl 0 rfl) ?_
                      refine va_iald hx hb hK hP 21 20 rfl rfl (i := r9148) (vin (a := r9148.toInt) rfl (by omega)) dX12_isLess_120 ?_
                      refine lv_topi (fun z9235 e9236 => ?_)
                      have tzz9235 : z9235.toInt = (F 21 (r9148 : Int32).toNatClampNeg).toInt := congrArg Int32.toInt e9236
                      refine lv_aload_n hx hb dX12_isLess_121 rfl (lv_at hl 4 rfl) ?_
                      refine lv_iload_n hx hb dX12_isLess_122 rfl (lv_at hl 2 rfl) ?_
                      refine va_calli (va_runV (As := [.int x3_lp9141]) (rest := [.int z9235]) ⟨hx, hb, hml, hown, hwd⟩ (c_X12_landingsEnd l dC dI g c adK adV v F rc H.size x3_lp9141 hg hI (by omega)) (cwV 1 hwd (gV wk_752 wk_749 wk_750 wk_751 wk_5) rfl rfl rfl (by decide +kernel) ⟨Nat.le_of_ble_eq_true rfl, Nat.le_of_ble_eq_true rfl⟩) ⟨PM.blind, va_recv hK hP (ci := 12) (q0 := 0) rfl rfl, fun U hU hW => ⟨rfl, PM.at hK hE hP hS hU hW⟩⟩ rfl rfl hl.1 rfl (lv_room (Nat.le_of_ble_eq_true rfl)) dX12_isLess_123 ⟨Nat.le_of_ble_eq_true rfl, Nat.le_of_ble_eq_true rfl⟩) hS (fun q _ h => (freeM hS) q h) (freeM hS) (fun r9237 u t H1 locs ht hvm hw hB hz1 hk1 hS => ?_)
                      unfold BM at hB
                      rw [ht] at hB
                      have hP : va_P (dC, dI) classes (wM g c v F rc) H1 := hB
                      generalize H1 = H at hP hS ⊢
                      have rr_r9237 := i32_rng r9237
                      refine lv_icmp_ge (tgt := 131) hx hb dX12_isLess_126 (by decide) (fun c9238 => ?_) (fun c9238 => ?_)
                      · skip
                        have t9239 := cv_le (a := r9237.toInt) rfl (b := z9235.toInt) rfl c9238
                        refine lv_iload hx hb dX12_isLess_131 (lv_at hl 0 rfl) ?_
                        refine lv_istore_n (lv' := [(3, .int r9148), (5, .int r9148), (4, .int x4_lp9141), (2, .int r9140), (0, .ref (g 0)), (1, .int p0)]) hx hb dX12_isLess_133 rfl hl (by decide) rfl (fun ls hl => ?_)
                        obtain ⟨z9240, e9241⟩ : ∃ y : Int32, y = x4_lp9141 + 1 := ⟨_, rfl⟩
                        try (have t9242 := tadd e9241 rfl (b := 1) (by decide) (by omega))
                        refine lv_iinc (v := z9240) (lv' := [(4, .int z9240), (3, .int r9148), (5, .int r9148), (2, .int r9140), (0, .ref (g 0)), (1, .int p0)]) hx hb dX12_isLess_134 hl (k := 2) rfl (by rw [e9241]; rfl) (by decide) rfl (fun ls hl => ?_)
                        refine lv_goto (tgt := 11) hx hb dX12_isLess_137 (by decide) ?_
                        exact ih_lp9141 z9240 r9148  _ _ _ (by omega) (by omega) (by omega) (by omega) hP hS (lv_sub hl [0, 1, 3, 4, 5] rfl)
                      · skip
                        have t9243 := cv_nle (a := r9237.toInt) rfl (b := z9235.toInt) rfl c9238
                        refine lv_iconst (v := 1) hx hb dX12_isLess_129 (by decide) ?_
                        have hP9 : va_P (dC, dI) classes (wM g c v F rc) H := hP
                        exact W.zret (v := 1) hx hb hr (rfl) (fun t ht hW => ⟨⟨1, (), rfl, by have : (1 : Int32).toInt = 1 := (by decide); omega, (by show va_P _ _ _ t.heap; rw [ht]; exact hP9)⟩, hS.F ht⟩) hS.2.2 dX12_isLess_130
            · skip
              have t9244 := cv_nle (a := z9201.toInt) rfl (b := r9200.toInt) rfl c9203
              refine lv_iconst (v := 1) hx hb dX12_isLess_70 (by decide) ?_
              have hP9 : va_P (dC, dI) classes (wM g c v F rc) H := hP
              exact W.zret (v := 1) hx hb hr (rfl) (fun t ht hW => ⟨⟨1, (), rfl, by have : (1 : Int32).toInt = 1 := (by decide); omega, (by show va_P _ _ _ t.heap; rw [ht]; exact hP9)⟩, hS.F ht⟩) hS.2.2 dX12_isLess_71
  obtain ⟨n9, hn9⟩ : ∃ n : Nat, 2147483648 - 0 ≤ (n : Int) := ⟨((2147483648 - 0 : Int)).toNat, by omega⟩
  exact lp9141 n9 0 (-1)  H _ ls (by have : (0 : Int32).toInt = 0 := (by decide); have : ((-1) : Int32).toInt = (-1) := (by decide); omega) (by have : (0 : Int32).toInt = 0 := (by decide); have : ((-1) : Int32).toInt = (-1) := (by decide); omega) (by have : (0 : Int32).toInt = 0 := (by decide); have : ((-1) : Int32).toInt = (-1) := (by decide); omega) (by have : (0 : Int32).toInt = 0 := (by decide); have : ((-1) : Int32).toInt = (-1) := (by decide); omega) hP hS hl
set_option maxHeartbeats 8000000 in
set_option maxRecDepth 100000 in
theorem c_X12_cannot (l : Launch) (dC : Nat → ClassId) (dI : Nat → Nat → Nat) (g : Nat → Nat) (c : Nat → ClassId) (adK adV : Nat → Nat) (v : Nat → Int32) (F : Nat → Nat → Int32) (rc sz : Nat) (p0 : Int32) (hg : injM g) (hI : IM v F) (h0 : 0 ≤ p0.toInt ∧ p0.toInt ≤ 99) : Met l yX12_cannot (Cond.code yX12_cannot cX12_cannot 2 (some .int) :: wA) ({ frames := 4, cells := 0, slots := 0, locals := 160 }) (va_Pc [.ref (g 0), .int p0] (PM dC dI g c adK adV v F rc sz)) (va_Qi (fun (r : Int32) (u : Unit) => True) (fun (_ : Unit) => BM dC dI g c (v, F, rc)) (AM g sz)) 0 0 (AM g sz) := by
  refine Met.ofW (cc := cX12_cannot) (maxL := 2) (ret := (some .int)) (by decide) rfl ?_
  intro p e s m args below meth c0 s₁ B hml hv
  obtain ⟨rfl, hsz, hP, hK, hE⟩ := hv
  have hx := B.exec
  have hb := B.bytes
  have hr := B.returns
  have hts := atoms_spec (ws := Cond.code yX12_cannot cX12_cannot 2 (some .int) :: wA) B.pre
  have hwd : ∀ w ∈ wA, w.before _ s = true := fun w h => hts w (List.mem_cons_of_mem _ h)
  have hown : s.vm.findClass RX12 = some m.cls := findClass_of_methodNamed B.named
  have hlocks := B.notSynchronized
  subst hsz
  have hl := lv_entry ([.ref (g 0), .int p0]) (n := 2) (Nat.le_of_ble_eq_true rfl)
  rw [lg_entry_eq]
  generalize (lg_sl ([.ref (g 0), .int p0]) ++ List.replicate (2 - (lg_sl ([.ref (g 0), .int p0])).length) Slot.unset).toArray = ls at hl ⊢
  have hl : lv_has ls 2 [(0, .ref (g 0)), (1, .int p0)] := hl
  obtain ⟨H, eH⟩ : ∃ z, z = s.heap := ⟨_, rfl⟩
  have hP : va_P (dC, dI) classes (wM g c v F rc) H := by rw [eH]; exact hP
  have hS : va_S (AM g s.heap.size) s.heap H [] := by rw [eH]; exact va_S.rf
  refine my_heap eH ?_
  have rp0 := i32_rng p0
  refine lv_aload_n hx hb dX12_cannot_0 rfl (lv_at hl 0 rfl) ?_
  refine lv_iload_n hx hb dX12_cannot_1 rfl (lv_at hl 1 rfl) ?_
  refine va_calli (va_runV (As := [.int p0]) (rest := []) ⟨hx, hb, hml, hown, hwd⟩ (c_X12_areTwice l dC dI g c adK adV v F rc H.size p0 hg hI ) (cwV 1 hwd (gV wk_732 wk_729 wk_730 wk_731 wk_5) rfl rfl rfl (by decide +kernel) ⟨Nat.le_of_ble_eq_true rfl, Nat.le_of_ble_eq_true rfl⟩) ⟨PM.blind, va_recv hK hP (ci := 12) (q0 := 0) rfl rfl, fun U hU hW => ⟨rfl, PM.at hK hE hP hS hU hW⟩⟩ rfl rfl hl.1 rfl (lv_room (Nat.le_of_ble_eq_true rfl)) dX12_cannot_2 ⟨Nat.le_of_ble_eq_true rfl, Nat.le_of_ble_eq_true rfl⟩) hS (fun q _ h => (freeM hS) q h) (freeM hS) (fun r9245 u t H1 locs ht hvm hw hB hz1 hk1 hS => ?_)
  unfold BM at hB
  rw [ht] at hB
  have hP : va_P (dC, dI) classes (wM g c v F rc) H1 := hB
  have hw : 0 ≤ r9245.toInt ∧ r9245.toInt ≤ 1 := hw
  have hw_r9245 := hw
  generalize H1 = H at hP hS ⊢
  refine lv_if_eq (tgt := 12) hx hb dX12_cannot_5 (by decide) (fun c9246 => ?_) (fun c9246 => ?_)
  · skip
    have t9247 := cv_eq (a := r9245.toInt) rfl (b := 0) (by decide) c9246
    refine lv_aload_n hx hb dX12_cannot_12 rfl (lv_at hl 0 rfl) ?_
    refine lv_iload_n hx hb dX12_cannot_13 rfl (lv_at hl 1 rfl) ?_
    refine va_calli (va_runV (As := [.int p0]) (rest := []) ⟨hx, hb, hml, hown, hwd⟩ (c_X12_isLess l dC dI g c adK adV v F rc H.size p0 hg hI ) (cwV 1 hwd (gV wk_740 wk_737 wk_738 wk_739 wk_5) rfl rfl rfl (by decide +kernel) ⟨Nat.le_of_ble_eq_true rfl, Nat.le_of_ble_eq_true rfl⟩) ⟨PM.blind, va_recv hK hP (ci := 12) (q0 := 0) rfl rfl, fun U hU hW => ⟨rfl, PM.at hK hE hP hS hU hW⟩⟩ rfl rfl hl.1 rfl (lv_room (Nat.le_of_ble_eq_true rfl)) dX12_cannot_14 ⟨Nat.le_of_ble_eq_true rfl, Nat.le_of_ble_eq_true rfl⟩) hS (fun q _ h => (freeM hS) q h) (freeM hS) (fun r9248 u t H1 locs ht hvm hw hB hz1 hk1 hS => ?_)
    unfold BM at hB
    rw [ht] at hB
    have hP : va_P (dC, dI) classes (wM g c v F rc) H1 := hB
    have hw : 0 ≤ r9248.toInt ∧ r9248.toInt ≤ 1 := hw
    have hw_r9248 := hw
    generalize H1 = H at hP hS ⊢
    refine lv_if_eq (tgt := 24) hx hb dX12_cannot_17 (by decide) (fun c9249 => ?_) (fun c9249 => ?_)
    · skip
      have t9250 := cv_eq (a := r9248.toInt) rfl (b := 0) (by decide) c9249
      refine lv_aload_n hx hb dX12_cannot_24 rfl (lv_at hl 0 rfl) ?_
      refine lv_iload_n hx hb dX12_cannot_25 rfl (lv_at hl 1 rfl) ?_
      refine va_calli (va_runV (As := [.int p0]) (rest := []) ⟨hx, hb, hml, hown, hwd⟩ (c_X12_isDouble l dC dI g c adK adV v F rc H.size p0 hg hI (by omega)) (cwV 1 hwd (gV wk_756 wk_753 wk_754 wk_755 wk_5) rfl rfl rfl (by decide +kernel) ⟨Nat.le_of_ble_eq_true rfl, Nat.le_of_ble_eq_true rfl⟩) ⟨PM.blind, va_recv hK hP (ci := 12) (q0 := 0) rfl rfl, fun U hU hW => ⟨rfl, PM.at hK hE hP hS hU hW⟩⟩ rfl rfl hl.1 rfl (lv_room (Nat.le_of_ble_eq_true rfl)) dX12_cannot_26 ⟨Nat.le_of_ble_eq_true rfl, Nat.le_of_ble_eq_true rfl⟩) hS (fun q _ h => (freeM hS) q h) (freeM hS) (fun r9251 u t H1 locs ht hvm hw hB hz1 hk1 hS => ?_)
      unfold BM at hB
      rw [ht] at hB
      have hP : va_P (dC, dI) classes (wM g c v F rc) H1 := hB
      have hw : 0 ≤ r9251.toInt ∧ r9251.toInt ≤ 1 := hw
      have hw_r9251 := hw
      generalize H1 = H at hP hS ⊢
      refine lv_if_eq (tgt := 36) hx hb dX12_cannot_29 (by decide) (fun c9252 => ?_) (fun c9252 => ?_)
      · skip
        have t9253 := cv_eq (a := r9251.toInt) rfl (b := 0) (by decide) c9252
        refine lv_iconst (v := 0) hx hb dX12_cannot_36 (by decide) ?_
        have hP9 : va_P (dC, dI) classes (wM g c v F rc) H := hP
        exact W.iret (v := 0) hx hb hr (fun t ht hW => ⟨⟨0, (), rfl, trivial, (by show va_P _ _ _ t.heap; rw [ht]; exact hP9)⟩, hS.F ht⟩) hS.2.2 dX12_cannot_37
      · skip
        have t9254 := cv_ne (a := r9251.toInt) rfl (b := 0) (by decide) c9252
        refine lv_iconst (v := 3) hx hb dX12_cannot_32 (by decide) ?_
        refine lv_goto (tgt := 37) hx hb dX12_cannot_33 (by decide) ?_
        have hP9 : va_P (dC, dI) classes (wM g c v F rc) H := hP
        exact W.iret (v := 3) hx hb hr (fun t ht hW => ⟨⟨3, (), rfl, trivial, (by show va_P _ _ _ t.heap; rw [ht]; exact hP9)⟩, hS.F ht⟩) hS.2.2 dX12_cannot_37
    · skip
      have t9255 := cv_ne (a := r9248.toInt) rfl (b := 0) (by decide) c9249
      refine lv_iconst (v := 2) hx hb dX12_cannot_20 (by decide) ?_
      refine lv_goto (tgt := 37) hx hb dX12_cannot_21 (by decide) ?_
      have hP9 : va_P (dC, dI) classes (wM g c v F rc) H := hP
      exact W.iret (v := 2) hx hb hr (fun t ht hW => ⟨⟨2, (), rfl, trivial, (by show va_P _ _ _ t.heap; rw [ht]; exact hP9)⟩, hS.F ht⟩) hS.2.2 dX12_cannot_37
  · skip
    have t9256 := cv_ne (a := r9245.toInt) rfl (b := 0) (by decide) c9246
    refine lv_iconst (v := 1) hx hb dX12_cannot_8 (by decide) ?_
    refine lv_goto (tgt := 37) hx hb dX12_cannot_9 (by decide) ?_
    have hP9 : va_P (dC, dI) classes (wM g c v F rc) H := hP
    exact W.iret (v := 1) hx hb hr (fun t ht hW => ⟨⟨1, (), rfl, trivial, (by show va_P _ _ _ t.heap; rw [ht]; exact hP9)⟩, hS.F ht⟩) hS.2.2 dX12_cannot_37
set_option maxHeartbeats 8000000 in
set_option maxRecDepth 100000 in
theorem c_X12_ofPart (l : Launch) (dC : Nat → ClassId) (dI : Nat → Nat → Nat) (g : Nat → Nat) (c : Nat → ClassId) (adK adV : Nat → Nat) (v : Nat → Int32) (F : Nat → Nat → Int32) (rc sz : Nat) (p0 : Int32) (p1 : Int32) (hg : injM g) (hI : IM v F) : Met l yX12_ofPart (Cond.code yX12_ofPart cX12_ofPart 3 (some .int) :: wA) ({ frames := 5, cells := 0, slots := 0, locals := 200 }) (va_Pc [.ref (g 0), .int p0, .int p1] (PM dC dI g c adK adV v F rc sz)) (va_Qi (fun (r : Int32) (u : Unit) => True) (fun (_ : Unit) => BM dC dI g c (v, F, rc)) (AM g sz)) 0 0 (AM g sz) := by
  refine Met.ofW (cc := cX12_ofPart) (maxL := 3) (ret := (some .int)) (by decide) rfl ?_
  intro p e s m args below meth c0 s₁ B hml hv
  obtain ⟨rfl, hsz, hP, hK, hE⟩ := hv
  have hx := B.exec
  have hb := B.bytes
  have hr := B.returns
  have hts := atoms_spec (ws := Cond.code yX12_ofPart cX12_ofPart 3 (some .int) :: wA) B.pre
  have hwd : ∀ w ∈ wA, w.before _ s = true := fun w h => hts w (List.mem_cons_of_mem _ h)
  have hown : s.vm.findClass RX12 = some m.cls := findClass_of_methodNamed B.named
  have hlocks := B.notSynchronized
  subst hsz
  have hl := lv_entry ([.ref (g 0), .int p0, .int p1]) (n := 3) (Nat.le_of_ble_eq_true rfl)
  rw [lg_entry_eq]
  generalize (lg_sl ([.ref (g 0), .int p0, .int p1]) ++ List.replicate (3 - (lg_sl ([.ref (g 0), .int p0, .int p1])).length) Slot.unset).toArray = ls at hl ⊢
  have hl : lv_has ls 3 [(0, .ref (g 0)), (1, .int p0), (2, .int p1)] := hl
  obtain ⟨H, eH⟩ : ∃ z, z = s.heap := ⟨_, rfl⟩
  have hP : va_P (dC, dI) classes (wM g c v F rc) H := by rw [eH]; exact hP
  have hS : va_S (AM g s.heap.size) s.heap H [] := by rw [eH]; exact va_S.rf
  refine my_heap eH ?_
  have rp0 := i32_rng p0
  have rp1 := i32_rng p1
  refine lv_aload_n hx hb dX12_ofPart_0 rfl (lv_at hl 0 rfl) ?_
  refine lv_iload_n hx hb dX12_ofPart_1 rfl (lv_at hl 1 rfl) ?_
  refine va_calli (va_runV (As := [.int p0]) (rest := []) ⟨hx, hb, hml, hown, hwd⟩ (c_X12_isPart l dC dI g c adK adV v F rc H.size p0 hg hI ) (cwV 1 hwd (gV wk_631 wk_628 wk_629 wk_630 wk_5) rfl rfl rfl (by decide +kernel) ⟨Nat.le_of_ble_eq_true rfl, Nat.le_of_ble_eq_true rfl⟩) ⟨PM.blind, va_recv hK hP (ci := 12) (q0 := 0) rfl rfl, fun U hU hW => ⟨rfl, PM.at hK hE hP hS hU hW⟩⟩ rfl rfl hl.1 rfl (lv_room (Nat.le_of_ble_eq_true rfl)) dX12_ofPart_2 ⟨Nat.le_of_ble_eq_true rfl, Nat.le_of_ble_eq_true rfl⟩) hS (fun q _ h => (freeM hS) q h) (freeM hS) (fun r9257 u t H1 locs ht hvm hw hB hz1 hk1 hS => ?_)
  unfold BM at hB
  rw [ht] at hB
  have hP : va_P (dC, dI) classes (wM g c v F rc) H1 := hB
  have hw : (r9257.toInt = 1 ∧ 0 ≤ p0.toInt ∧ p0.toInt < (v 14).toInt) ∨ (r9257.toInt = 0 ∧ (p0.toInt < 0 ∨ (v 14).toInt ≤ p0.toInt)) := hw
  have hw_r9257 := hw
  generalize H1 = H at hP hS ⊢
  refine lv_if_ne (tgt := 11) hx hb dX12_ofPart_5 (by decide) (fun c9258 => ?_) (fun c9258 => ?_)
  · skip
    have t9259 := cv_ne (a := r9257.toInt) rfl (b := 0) (by decide) c9258
    refine lv_iload_n hx hb dX12_ofPart_11 rfl (lv_at hl 2 rfl) ?_
    by_cases hlo9260 : p1.toInt < 0
    · refine lv_tableOut (tgt := 134) hx hb dX12_ofPart_12 (Or.inl hlo9260) (by decide) ?_
      refine lv_ldc (v := (-2000000000)) hx hb hown (hwd _ wk_542) dX12_ofPart_134 ?_
      have hP9 : va_P (dC, dI) classes (wM g c v F rc) H := hP
      exact W.iret (v := (-2000000000)) hx hb hr (fun t ht hW => ⟨⟨(-2000000000), (), rfl, trivial, (by show va_P _ _ _ t.heap; rw [ht]; exact hP9)⟩, hS.F ht⟩) hS.2.2 dX12_ofPart_136
    by_cases hhi9261 : 8 < p1.toInt
    · refine lv_tableOut (tgt := 134) hx hb dX12_ofPart_12 (Or.inr hhi9261) (by decide) ?_
      refine lv_ldc (v := (-2000000000)) hx hb hown (hwd _ wk_542) dX12_ofPart_134 ?_
      have hP9 : va_P (dC, dI) classes (wM g c v F rc) H := hP
      exact W.iret (v := (-2000000000)) hx hb hr (fun t ht hW => ⟨⟨(-2000000000), (), rfl, trivial, (by show va_P _ _ _ t.heap; rw [ht]; exact hP9)⟩, hS.F ht⟩) hS.2.2 dX12_ofPart_136
    rcases (show p1.toInt = 0 ∨ p1.toInt = 1 ∨ p1.toInt = 2 ∨ p1.toInt = 3 ∨ p1.toInt = 4 ∨ p1.toInt = 5 ∨ p1.toInt = 6 ∨ p1.toInt = 7 ∨ p1.toInt = 8 by omega) with hk | hk | hk | hk | hk | hk | hk | hk | hk
    · refine lv_tableIn (off := 52) (tgt := 64) hx hb dX12_ofPart_12 hlo9260 hhi9261 (by rw [hk]; decide) (by decide) ?_
      refine lv_aload_n hx hb dX12_ofPart_64 rfl (lv_at hl 0 rfl) ?_
      refine va_get (D := (dC, dI)) (ci := 12) (v := .ref (g 11)) (C := RX12) (T := TX12) (N := 63) hx hb hwd inA_X12 hown hK hP 0 rfl rfl 15 (by decide) (hwd _ wk_192) (fun _ h9 => h9) rfl dX12_ofPart_65 ?_
      refine lv_iload_n hx hb dX12_ofPart_68 rfl (lv_at hl 1 rfl) ?_
      refine va_iald hx hb hK hP 11 10 rfl rfl (i := p0) (vin (a := p0.toInt) rfl (by omega)) dX12_ofPart_69 ?_
      refine lv_topi (fun z9262 e9263 => ?_)
      have t9264 : 0 ≤ z9262.toInt ∧ z9262.toInt ≤ 9 := by rw [e9263]; exact hI.2 11 _ _ rfl _
      have hP9 : va_P (dC, dI) classes (wM g c v F rc) H := hP
      exact W.iret (v := z9262) hx hb hr (fun t ht hW => ⟨⟨z9262, (), rfl, trivial, (by show va_P _ _ _ t.heap; rw [ht]; exact hP9)⟩, hS.F ht⟩) hS.2.2 dX12_ofPart_70
    · refine lv_tableIn (off := 59) (tgt := 71) hx hb dX12_ofPart_12 hlo9260 hhi9261 (by rw [hk]; decide) (by decide) ?_
      refine lv_aload_n hx hb dX12_ofPart_71 rfl (lv_at hl 0 rfl) ?_
      refine va_get (D := (dC, dI)) (ci := 12) (v := .ref (g 12)) (C := RX12) (T := TX12) (N := 63) hx hb hwd inA_X12 hown hK hP 0 rfl rfl 16 (by decide) (hwd _ wk_193) (fun _ h9 => h9) rfl dX12_ofPart_72 ?_
      refine lv_iload_n hx hb dX12_ofPart_75 rfl (lv_at hl 1 rfl) ?_
      refine va_iald hx hb hK hP 12 11 rfl rfl (i := p0) (vin (a := p0.toInt) rfl (by omega)) dX12_ofPart_76 ?_
      refine lv_topi (fun z9265 e9266 => ?_)
      have hP9 : va_P (dC, dI) classes (wM g c v F rc) H := hP
      exact W.iret (v := z9265) hx hb hr (fun t ht hW => ⟨⟨z9265, (), rfl, trivial, (by show va_P _ _ _ t.heap; rw [ht]; exact hP9)⟩, hS.F ht⟩) hS.2.2 dX12_ofPart_77
    · refine lv_tableIn (off := 66) (tgt := 78) hx hb dX12_ofPart_12 hlo9260 hhi9261 (by rw [hk]; decide) (by decide) ?_
      refine lv_aload_n hx hb dX12_ofPart_78 rfl (lv_at hl 0 rfl) ?_
      refine va_get (D := (dC, dI)) (ci := 12) (v := .ref (g 13)) (C := RX12) (T := TX12) (N := 63) hx hb hwd inA_X12 hown hK hP 0 rfl rfl 17 (by decide) (hwd _ wk_194) (fun _ h9 => h9) rfl dX12_ofPart_79 ?_
      refine lv_iload_n hx hb dX12_ofPart_82 rfl (lv_at hl 1 rfl) ?_
      refine va_iald hx hb hK hP 13 12 rfl rfl (i := p0) (vin (a := p0.toInt) rfl (by omega)) dX12_ofPart_83 ?_
      refine lv_topi (fun z9267 e9268 => ?_)
      have t9269 : 0 ≤ z9267.toInt ∧ z9267.toInt ≤ 12 := by rw [e9268]; exact hI.2 13 _ _ rfl _
      have hP9 : va_P (dC, dI) classes (wM g c v F rc) H := hP
      exact W.iret (v := z9267) hx hb hr (fun t ht hW => ⟨⟨z9267, (), rfl, trivial, (by show va_P _ _ _ t.heap; rw [ht]; exact hP9)⟩, hS.F ht⟩) hS.2.2 dX12_ofPart_84
    · refine lv_tableIn (off := 73) (tgt := 85) hx hb dX12_ofPart_12 hlo9260 hhi9261 (by rw [hk]; decide) (by decide) ?_
      refine lv_aload_n hx hb dX12_ofPart_85 rfl (lv_at hl 0 rfl) ?_
      refine va_get (D := (dC, dI)) (ci := 12) (v := .ref (g 14)) (C := RX12) (T := TX12) (N := 63) hx hb hwd inA_X12 hown hK hP 0 rfl rfl 18 (by decide) (hwd _ wk_195) (fun _ h9 => h9) rfl dX12_ofPart_86 ?_
      refine lv_iconst (v := 3) hx hb dX12_ofPart_89 (by decide) ?_
      refine lv_iload_n hx hb dX12_ofPart_90 rfl (lv_at hl 1 rfl) ?_
      refine lv_imul hx hb dX12_ofPart_91 ?_
      refine lv_topi (fun z9270 e9271 => ?_)
      try (have t9272 := tmul e9271 (a := 3) (by decide) (b := p0.toInt) rfl (by omega))
      refine va_iald hx hb hK hP 14 13 rfl rfl (i := z9270) (vin (a := z9270.toInt) rfl (by omega)) dX12_ofPart_92 ?_
      refine lv_topi (fun z9273 e9274 => ?_)
      have hP9 : va_P (dC, dI) classes (wM g c v F rc) H := hP
      exact W.iret (v := z9273) hx hb hr (fun t ht hW => ⟨⟨z9273, (), rfl, trivial, (by show va_P _ _ _ t.heap; rw [ht]; exact hP9)⟩, hS.F ht⟩) hS.2.2 dX12_ofPart_93
    · refine lv_tableIn (off := 82) (tgt := 94) hx hb dX12_ofPart_12 hlo9260 hhi9261 (by rw [hk]; decide) (by decide) ?_
      refine lv_aload_n hx hb dX12_ofPart_94 rfl (lv_at hl 0 rfl) ?_
      refine va_get (D := (dC, dI)) (ci := 12) (v := .ref (g 14)) (C := RX12) (T := TX12) (N := 63) hx hb hwd inA_X12 hown hK hP 0 rfl rfl 18 (by decide) (hwd _ wk_195) (fun _ h9 => h9) rfl dX12_ofPart_95 ?_
      refine lv_iconst (v := 3) hx hb dX12_ofPart_98 (by decide) ?_
      refine lv_iload_n hx hb dX12_ofPart_99 rfl (lv_at hl 1 rfl) ?_
      refine lv_imul hx hb dX12_ofPart_100 ?_
      refine lv_topi (fun z9275 e9276 => ?_)
      try (have t9277 := tmul e9276 (a := 3) (by decide) (b := p0.toInt) rfl (by omega))
      refine lv_iconst (v := 1) hx hb dX12_ofPart_101 (by decide) ?_
      refine lv_iadd hx hb dX12_ofPart_102 ?_
      refine lv_topi (fun z9278 e9279 => ?_)
      try (have t9280 := tadd e9279 (a := z9275.toInt) rfl (b := 1) (by decide) (by omega))
      refine va_iald hx hb hK hP 14 13 rfl rfl (i := z9278) (vin (a := z9278.toInt) rfl (by omega)) dX12_ofPart_103 ?_
      refine lv_topi (fun z9281 e9282 => ?_)
      have hP9 : va_P (dC, dI) classes (wM g c v F rc) H := hP
      exact W.iret (v := z9281) hx hb hr (fun t ht hW => ⟨⟨z9281, (), rfl, trivial, (by show va_P _ _ _ t.heap; rw [ht]; exact hP9)⟩, hS.F ht⟩) hS.2.2 dX12_ofPart_104
    · refine lv_tableIn (off := 93) (tgt := 105) hx hb dX12_ofPart_12 hlo9260 hhi9261 (by rw [hk]; decide) (by decide) ?_
      refine lv_aload_n hx hb dX12_ofPart_105 rfl (lv_at hl 0 rfl) ?_
      refine va_get (D := (dC, dI)) (ci := 12) (v := .ref (g 14)) (C := RX12) (T := TX12) (N := 63) hx hb hwd inA_X12 hown hK hP 0 rfl rfl 18 (by decide) (hwd _ wk_195) (fun _ h9 => h9) rfl dX12_ofPart_106 ?_
      refine lv_iconst (v := 3) hx hb dX12_ofPart_109 (by decide) ?_
      refine lv_iload_n hx hb dX12_ofPart_110 rfl (lv_at hl 1 rfl) ?_
      refine lv_imul hx hb dX12_ofPart_111 ?_
      refine lv_topi (fun z9283 e9284 => ?_)
      try (have t9285 := tmul e9284 (a := 3) (by decide) (b := p0.toInt) rfl (by omega))
      refine lv_iconst (v := 2) hx hb dX12_ofPart_112 (by decide) ?_
      refine lv_iadd hx hb dX12_ofPart_113 ?_
      refine lv_topi (fun z9286 e9287 => ?_)
      try (have t9288 := tadd e9287 (a := z9283.toInt) rfl (b := 2) (by decide) (by omega))
      refine va_iald hx hb hK hP 14 13 rfl rfl (i := z9286) (vin (a := z9286.toInt) rfl (by omega)) dX12_ofPart_114 ?_
      refine lv_topi (fun z9289 e9290 => ?_)
      have hP9 : va_P (dC, dI) classes (wM g c v F rc) H := hP
      exact W.iret (v := z9289) hx hb hr (fun t ht hW => ⟨⟨z9289, (), rfl, trivial, (by show va_P _ _ _ t.heap; rw [ht]; exact hP9)⟩, hS.F ht⟩) hS.2.2 dX12_ofPart_115
    · refine lv_tableIn (off := 104) (tgt := 116) hx hb dX12_ofPart_12 hlo9260 hhi9261 (by rw [hk]; decide) (by decide) ?_
      refine lv_aload_n hx hb dX12_ofPart_116 rfl (lv_at hl 0 rfl) ?_
      refine lv_iload_n hx hb dX12_ofPart_117 rfl (lv_at hl 1 rfl) ?_
      refine va_calli (va_runV (As := [.int p0]) (rest := []) ⟨hx, hb, hml, hown, hwd⟩ (c_X12_staysOf l dC dI g c adK adV v F rc H.size p0 hg hI ) (cwV 1 hwd (gV wk_720 wk_717 wk_718 wk_719 wk_5) rfl rfl rfl (by decide +kernel) ⟨Nat.le_of_ble_eq_true rfl, Nat.le_of_ble_eq_true rfl⟩) ⟨PM.blind, va_recv hK hP (ci := 12) (q0 := 0) rfl rfl, fun U hU hW => ⟨rfl, PM.at hK hE hP hS hU hW⟩⟩ rfl rfl hl.1 rfl (lv_room (Nat.le_of_ble_eq_true rfl)) dX12_ofPart_118 ⟨Nat.le_of_ble_eq_true rfl, Nat.le_of_ble_eq_true rfl⟩) hS (fun q _ h => (freeM hS) q h) (freeM hS) (fun r9291 u t H1 locs ht hvm hw hB hz1 hk1 hS => ?_)
      unfold BM at hB
      rw [ht] at hB
      have hP : va_P (dC, dI) classes (wM g c v F rc) H1 := hB
      have hw : r9291.toInt = (cnt (stP (F 15) p0.toInt) (v 19).toNatClampNeg : Int) := hw
      have hw_r9291 := hw
      generalize H1 = H at hP hS ⊢
      have hP9 : va_P (dC, dI) classes (wM g c v F rc) H := hP
      exact W.iret (v := r9291) hx hb hr (fun t ht hW => ⟨⟨r9291, (), rfl, trivial, (by show va_P _ _ _ t.heap; rw [ht]; exact hP9)⟩, hS.F ht⟩) hS.2.2 dX12_ofPart_121
    · refine lv_tableIn (off := 110) (tgt := 122) hx hb dX12_ofPart_12 hlo9260 hhi9261 (by rw [hk]; decide) (by decide) ?_
      refine lv_aload_n hx hb dX12_ofPart_122 rfl (lv_at hl 0 rfl) ?_
      refine lv_iload_n hx hb dX12_ofPart_123 rfl (lv_at hl 1 rfl) ?_
      refine va_calli (va_runV (As := [.int p0]) (rest := []) ⟨hx, hb, hml, hown, hwd⟩ (c_X12_gapsOf l dC dI g c adK adV v F rc H.size p0 hg hI ) (cwV 1 hwd (gV wk_724 wk_721 wk_722 wk_723 wk_5) rfl rfl rfl (by decide +kernel) ⟨Nat.le_of_ble_eq_true rfl, Nat.le_of_ble_eq_true rfl⟩) ⟨PM.blind, va_recv hK hP (ci := 12) (q0 := 0) rfl rfl, fun U hU hW => ⟨rfl, PM.at hK hE hP hS hU hW⟩⟩ rfl rfl hl.1 rfl (lv_room (Nat.le_of_ble_eq_true rfl)) dX12_ofPart_124 ⟨Nat.le_of_ble_eq_true rfl, Nat.le_of_ble_eq_true rfl⟩) hS (fun q _ h => (freeM hS) q h) (freeM hS) (fun r9292 u t H1 locs ht hvm hw hB hz1 hk1 hS => ?_)
      unfold BM at hB
      rw [ht] at hB
      have hP : va_P (dC, dI) classes (wM g c v F rc) H1 := hB
      generalize H1 = H at hP hS ⊢
      have rr_r9292 := i32_rng r9292
      have hP9 : va_P (dC, dI) classes (wM g c v F rc) H := hP
      exact W.iret (v := r9292) hx hb hr (fun t ht hW => ⟨⟨r9292, (), rfl, trivial, (by show va_P _ _ _ t.heap; rw [ht]; exact hP9)⟩, hS.F ht⟩) hS.2.2 dX12_ofPart_127
    · refine lv_tableIn (off := 116) (tgt := 128) hx hb dX12_ofPart_12 hlo9260 hhi9261 (by rw [hk]; decide) (by decide) ?_
      refine lv_aload_n hx hb dX12_ofPart_128 rfl (lv_at hl 0 rfl) ?_
      refine lv_iload_n hx hb dX12_ofPart_129 rfl (lv_at hl 1 rfl) ?_
      refine va_calli (va_runV (As := [.int p0]) (rest := []) ⟨hx, hb, hml, hown, hwd⟩ (c_X12_cannot l dC dI g c adK adV v F rc H.size p0 hg hI (by omega)) (cwV 1 hwd (gV wk_728 wk_725 wk_726 wk_727 wk_5) rfl rfl rfl (by decide +kernel) ⟨Nat.le_of_ble_eq_true rfl, Nat.le_of_ble_eq_true rfl⟩) ⟨PM.blind, va_recv hK hP (ci := 12) (q0 := 0) rfl rfl, fun U hU hW => ⟨rfl, PM.at hK hE hP hS hU hW⟩⟩ rfl rfl hl.1 rfl (lv_room (Nat.le_of_ble_eq_true rfl)) dX12_ofPart_130 ⟨Nat.le_of_ble_eq_true rfl, Nat.le_of_ble_eq_true rfl⟩) hS (fun q _ h => (freeM hS) q h) (freeM hS) (fun r9293 u t H1 locs ht hvm hw hB hz1 hk1 hS => ?_)
      unfold BM at hB
      rw [ht] at hB
      have hP : va_P (dC, dI) classes (wM g c v F rc) H1 := hB
      generalize H1 = H at hP hS ⊢
      have rr_r9293 := i32_rng r9293
      have hP9 : va_P (dC, dI) classes (wM g c v F rc) H := hP
      exact W.iret (v := r9293) hx hb hr (fun t ht hW => ⟨⟨r9293, (), rfl, trivial, (by show va_P _ _ _ t.heap; rw [ht]; exact hP9)⟩, hS.F ht⟩) hS.2.2 dX12_ofPart_133
  · skip
    have t9294 := cv_eq (a := r9257.toInt) rfl (b := 0) (by decide) c9258
    refine lv_ldc (v := (-2000000000)) hx hb hown (hwd _ wk_542) dX12_ofPart_8 ?_
    have hP9 : va_P (dC, dI) classes (wM g c v F rc) H := hP
    exact W.iret (v := (-2000000000)) hx hb hr (fun t ht hW => ⟨⟨(-2000000000), (), rfl, trivial, (by show va_P _ _ _ t.heap; rw [ht]; exact hP9)⟩, hS.F ht⟩) hS.2.2 dX12_ofPart_10
