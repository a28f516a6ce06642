set_option maxHeartbeats 8000000 in
set_option maxRecDepth 100000 in
theorem c_X12_openOf (l : Launch) (dC : Nat → ClassId) (dI : Nat → Nat → Nat) (g : Nat → Nat) (c : Nat → ClassId) (adK adV : Nat → Nat) (v : Nat → Int32) (F : Nat → Nat → Int32) (rc sz : Nat) (p0 : Int32) (hg : injM g) (hI : IM v F) : Met l yX12_openOf (Cond.code yX12_openOf cX12_openOf 3 (some .int) :: wA) ({ frames := 1, cells := 0, slots := 0, locals := 40 }) (va_Pc [.ref (g 0), .int p0] (PM dC dI g c adK adV v F rc sz)) (va_Qi (fun (r : Int32) (u : Unit) => ((0 ≤ r.toInt ∧ r.toInt < (v 19).toInt) ∧ ((F 15 r.toNatClampNeg).toInt = p0.toInt ∧ (F 18 r.toNatClampNeg).toInt = 1000000)) ∨ (r.toInt = -1 ∧ ∀ s : Nat, (s : Int) < (v 19).toInt → ¬ ((F 15 s).toInt = p0.toInt ∧ (F 18 s).toInt = 1000000))) (fun (_ : Unit) => BM dC dI g c (v, F, rc)) (AM g sz)) 0 0 (AM g sz) := by
  refine Met.ofW (cc := cX12_openOf) (maxL := 3) (ret := (some .int)) (by decide) rfl ?_
  intro p e s m args below meth c0 s₁ B hml hv
  obtain ⟨rfl, hsz, hP, hK, hE⟩ := hv
  have hx := B.exec
  have hb := B.bytes
  have hr := B.returns
  have hts := atoms_spec (ws := Cond.code yX12_openOf cX12_openOf 3 (some .int) :: wA) B.pre
  have hwd : ∀ w ∈ wA, w.before _ s = true := fun w h => hts w (List.mem_cons_of_mem _ h)
  have hown : s.vm.findClass RX12 = some m.cls := findClass_of_methodNamed B.named
  have hlocks := B.notSynchronized
  subst hsz
  have hl := lv_entry ([.ref (g 0), .int p0]) (n := 3) (Nat.le_of_ble_eq_true rfl)
  rw [lg_entry_eq]
  generalize (lg_sl ([.ref (g 0), .int p0]) ++ List.replicate (3 - (lg_sl ([.ref (g 0), .int p0])).length) Slot.unset).toArray = ls at hl ⊢
  have hl : lv_has ls 3 [(0, .ref (g 0)), (1, .int p0)] := hl
  obtain ⟨H, eH⟩ : ∃ z, z = s.heap := ⟨_, rfl⟩
  have hP : va_P (dC, dI) classes (wM g c v F rc) H := by rw [eH]; exact hP
  have hS : va_S (AM g s.heap.size) s.heap H [] := by rw [eH]; exact va_S.rf
  refine my_heap eH ?_
  have rp0 := i32_rng p0
  refine lv_iconst (v := 0) hx hb dX12_openOf_0 (by decide) ?_
  refine lv_istore_n (lv' := [(2, .int 0), (0, .ref (g 0)), (1, .int p0)]) hx hb dX12_openOf_1 rfl hl (by decide) rfl (fun ls hl => ?_)
  have lp5864 : ∀ (n : Nat) (x2_lp5864 : Int32) (H : Heap) (locs : List Loc) (ls : Array Slot), (0 ≤ x2_lp5864.toInt) → (∀ s : Nat, (s : Int) < x2_lp5864.toInt → ¬ ((F 15 s).toInt = p0.toInt ∧ (F 18 s).toInt = 1000000)) → (2147483648 - x2_lp5864.toInt ≤ (n : Int)) → va_P (dC, dI) classes (wM g c v F rc) H → va_S (AM g s.heap.size) s.heap H locs → lv_has ls 3 [(2, .int x2_lp5864), (0, .ref (g 0)), (1, .int p0)] → W p l e (headSpec (Cond.code yX12_openOf cX12_openOf 3 (some .int) :: wA) ({ frames := 1, cells := 0, slots := 0, locals := 40 })).room s m ([.ref (g 0), .int p0] : List Value).toArray below meth c0 H locs 0 0 (MQ below (va_Qi (fun (r : Int32) (u : Unit) => ((0 ≤ r.toInt ∧ r.toInt < (v 19).toInt) ∧ ((F 15 r.toNatClampNeg).toInt = p0.toInt ∧ (F 18 r.toNatClampNeg).toInt = 1000000)) ∨ (r.toInt = -1 ∧ ∀ s : Nat, (s : Int) < (v 19).toInt → ¬ ((F 15 s).toInt = p0.toInt ∧ (F 18 s).toInt = 1000000))) (fun (_ : Unit) => BM dC dI g c (v, F, rc)) (AM g s.heap.size)) ([.ref (g 0), .int p0] : List Value).toArray s 0 0 (AM g s.heap.size)) (F0 m 2 ls []) := by
    intro n
    induction n with
    | zero =>
      intro x2_lp5864 H locs ls t5865 t5866 hm hP hS hl
      exfalso
      have := i32_rng x2_lp5864
      omega
    | succ n ih_lp5864 =>
      intro x2_lp5864 H locs ls t5865 t5866 hm hP hS hl
      have rx2_lp5864 := i32_rng x2_lp5864
      refine lv_iload_n hx hb dX12_openOf_2 rfl (lv_at hl 0 rfl) ?_
      refine lv_aload_n hx hb dX12_openOf_3 rfl (lv_at hl 1 rfl) ?_
      refine va_get (D := (dC, dI)) (ci := 12) (v := .int (v 19)) (C := RX12) (T := TX12) (N := 63) hx hb hwd inA_X12 hown hK hP 0 rfl rfl 19 (by decide) (hwd _ wk_494) (fun _ h9 => h9) rfl dX12_openOf_4 ?_
      have t5867 : 0 ≤ (v 19).toInt ∧ (v 19).toInt ≤ 500 := hI.1 19 _ _ rfl
      refine lv_icmp_ge (tgt := 39) hx hb dX12_openOf_7 (by decide) (fun c5868 => ?_) (fun c5868 => ?_)
      · skip
        have t5869 := cv_le (a := (v 19).toInt) rfl (b := x2_lp5864.toInt) rfl c5868
        refine lv_iconst (v := (-1)) hx hb dX12_openOf_39 (by decide) ?_
        have hP9 : va_P (dC, dI) classes (wM g c v F rc) H := hP
        exact W.iret (v := (-1)) hx hb hr (fun t ht hW => ⟨⟨(-1), (), rfl, (Or.inr ⟨by decide, fun s hs => t5866 s (by omega)⟩), (by show va_P _ _ _ t.heap; rw [ht]; exact hP9)⟩, hS.F ht⟩) hS.2.2 dX12_openOf_40
      · skip
        have t5870 := cv_nle (a := (v 19).toInt) rfl (b := x2_lp5864.toInt) rfl c5868
        refine lv_aload_n hx hb dX12_openOf_10 rfl (lv_at hl 1 rfl) ?_
        refine va_get (D := (dC, dI)) (ci := 12) (v := .ref (g 15)) (C := RX12) (T := TX12) (N := 63) hx hb hwd inA_X12 hown hK hP 0 rfl rfl 20 (by decide) (hwd _ wk_196) (fun _ h9 => h9) rfl dX12_openOf_11 ?_
        refine lv_iload_n hx hb dX12_openOf_14 rfl (lv_at hl 0 rfl) ?_
        refine va_iald hx hb hK hP 15 14 rfl rfl (i := x2_lp5864) (vin (a := x2_lp5864.toInt) rfl (by omega)) dX12_openOf_15 ?_
        refine lv_topi (fun z5871 e5872 => ?_)
        have t5873 : 0 ≤ z5871.toInt ∧ z5871.toInt ≤ 99 := by rw [e5872]; exact hI.2 15 _ _ rfl _
        have tzz5871 : z5871.toInt = (F 15 (x2_lp5864 : Int32).toNatClampNeg).toInt := congrArg Int32.toInt e5872
        refine lv_iload_n hx hb dX12_openOf_16 rfl (lv_at hl 2 rfl) ?_
        refine lv_icmp_ne (tgt := 33) hx hb dX12_openOf_17 (by decide) (fun c5874 => ?_) (fun c5874 => ?_)
        · skip
          have t5875 := cv_ne (a := z5871.toInt) rfl (b := p0.toInt) rfl c5874
          obtain ⟨z5876, e5877⟩ : ∃ y : Int32, y = x2_lp5864 + 1 := ⟨_, rfl⟩
          try (have t5878 := tadd e5877 rfl (b := 1) (by decide) (by omega))
          refine lv_iinc (v := z5876) (lv' := [(2, .int z5876), (0, .ref (g 0)), (1, .int p0)]) hx hb dX12_openOf_33 hl (k := 0) rfl (by rw [e5877]; rfl) (by decide) rfl (fun ls hl => ?_)
          refine lv_goto (tgt := 2) hx hb dX12_openOf_36 (by decide) ?_
          exact ih_lp5864 z5876  _ _ _ (by omega) (all_step (x := x2_lp5864) (P := fun s => ¬ ((F 15 s).toInt = p0.toInt ∧ (F 18 s).toInt = 1000000)) (by omega) t5866 (by show ¬ ((F 15 x2_lp5864.toNatClampNeg).toInt = p0.toInt ∧ (F 18 x2_lp5864.toNatClampNeg).toInt = 1000000); omega)) (by omega) hP hS (lv_sub hl [0, 1, 2] rfl)
        · skip
          have t5879 := cv_eq (a := z5871.toInt) rfl (b := p0.toInt) rfl c5874
          refine lv_aload_n hx hb dX12_openOf_20 rfl (lv_at hl 1 rfl) ?_
          refine va_get (D := (dC, dI)) (ci := 12) (v := .ref (g 18)) (C := RX12) (T := TX12) (N := 63) hx hb hwd inA_X12 hown hK hP 0 rfl rfl 23 (by decide) (hwd _ wk_199) (fun _ h9 => h9) rfl dX12_openOf_21 ?_
          refine lv_iload_n hx hb dX12_openOf_24 rfl (lv_at hl 0 rfl) ?_
          refine va_iald hx hb hK hP 18 17 rfl rfl (i := x2_lp5864) (vin (a := x2_lp5864.toInt) rfl (by omega)) dX12_openOf_25 ?_
          refine lv_topi (fun z5880 e5881 => ?_)
          have tzz5880 : z5880.toInt = (F 18 (x2_lp5864 : Int32).toNatClampNeg).toInt := congrArg Int32.toInt e5881
          refine lv_ldc (v := 1000000) hx hb hown (hwd _ wk_500) dX12_openOf_26 ?_
          refine lv_icmp_ne (tgt := 33) hx hb dX12_openOf_28 (by decide) (fun c5882 => ?_) (fun c5882 => ?_)
          · skip
            have t5883 := cv_ne (a := z5880.toInt) rfl (b := 1000000) (by decide) c5882
            obtain ⟨z5884, e5885⟩ : ∃ y : Int32, y = x2_lp5864 + 1 := ⟨_, rfl⟩
            try (have t5886 := tadd e5885 rfl (b := 1) (by decide) (by omega))
            refine lv_iinc (v := z5884) (lv' := [(2, .int z5884), (0, .ref (g 0)), (1, .int p0)]) hx hb dX12_openOf_33 hl (k := 0) rfl (by rw [e5885]; rfl) (by decide) rfl (fun ls hl => ?_)
            refine lv_goto (tgt := 2) hx hb dX12_openOf_36 (by decide) ?_
            exact ih_lp5864 z5884  _ _ _ (by omega) (all_step (x := x2_lp5864) (P := fun s => ¬ ((F 15 s).toInt = p0.toInt ∧ (F 18 s).toInt = 1000000)) (by omega) t5866 (by show ¬ ((F 15 x2_lp5864.toNatClampNeg).toInt = p0.toInt ∧ (F 18 x2_lp5864.toNatClampNeg).toInt = 1000000); omega)) (by omega) hP hS (lv_sub hl [0, 1, 2] rfl)
          · skip
            have t5887 := cv_eq (a := z5880.toInt) rfl (b := 1000000) (by decide) c5882
            refine lv_iload_n hx hb dX12_openOf_31 rfl (lv_at hl 0 rfl) ?_
            have hP9 : va_P (dC, dI) classes (wM g c v F rc) H := hP
            exact W.iret (v := x2_lp5864) hx hb hr (fun t ht hW => ⟨⟨x2_lp5864, (), rfl, (Or.inl (by omega)), (by show va_P _ _ _ t.heap; rw [ht]; exact hP9)⟩, hS.F ht⟩) hS.2.2 dX12_openOf_32
  obtain ⟨n9, hn9⟩ : ∃ n : Nat, 2147483648 - 0 ≤ (n : Int) := ⟨((2147483648 - 0 : Int)).toNat, by omega⟩
  exact lp5864 n9 0  H _ ls (by have : (0 : Int32).toInt = 0 := (by decide); omega) (fun j h => absurd h (by have : (0 : Int32).toInt = 0 := (by decide); omega)) (by have : (0 : Int32).toInt = 0 := (by decide); omega) hP hS hl
set_option maxHeartbeats 8000000 in
set_option maxRecDepth 100000 in
theorem c_X12_endStay (l : Launch) (dC : Nat → ClassId) (dI : Nat → Nat → Nat) (g : Nat → Nat) (c : Nat → ClassId) (adK adV : Nat → Nat) (v : Nat → Int32) (F : Nat → Nat → Int32) (rc sz : Nat) (p0 : Int32) (hg : injM g) (hI : IM v F) (h0 : 0 ≤ p0.toInt ∧ p0.toInt ≤ 99) (hO : hasO (v 19) (F 15) (F 18) p0.toInt) : Met l yX12_endStay (Cond.code yX12_endStay cX12_endStay 3 none :: wA) ({ frames := 2, cells := 0, slots := 0, locals := 80 }) (va_Pc [.ref (g 0), .int p0] (PM dC dI g c adK adV v F rc sz)) (va_Qv (fun (u : StM) => IM u.1 u.2.1 ∧ u.2.2 = rc ∧ (∀ k, k ∉ ([] : List Nat) → u.1 k = v k) ∧ (∀ k, k ∉ ([18, 20, 22] : List Nat) → u.2.1 k = F k) ∧ (∀ j : Int, j ≠ p0.toInt → hasO (v 19) (F 15) (F 18) j → hasO (u.1 19) (u.2.1 15) (u.2.1 18) j)) (BM dC dI g c) (AM g sz)) 0 0 (AM g sz) := by
  refine Met.ofW (cc := cX12_endStay) (maxL := 3) (ret := none) (by decide) rfl ?_
  intro p e s m args below meth c0 s₁ B hml hv
  obtain ⟨rfl, hsz, hP, hK, hE⟩ := hv
  have hx := B.exec
  have hb := B.bytes
  have hr := B.returns
  have hts := atoms_spec (ws := Cond.code yX12_endStay cX12_endStay 3 none :: wA) B.pre
  have hwd : ∀ w ∈ wA, w.before _ s = true := fun w h => hts w (List.mem_cons_of_mem _ h)
  have hown : s.vm.findClass RX12 = some m.cls := findClass_of_methodNamed B.named
  have hlocks := B.notSynchronized
  subst hsz
  have hl := lv_entry ([.ref (g 0), .int p0]) (n := 3) (Nat.le_of_ble_eq_true rfl)
  rw [lg_entry_eq]
  generalize (lg_sl ([.ref (g 0), .int p0]) ++ List.replicate (3 - (lg_sl ([.ref (g 0), .int p0])).length) Slot.unset).toArray = ls at hl ⊢
  have hl : lv_has ls 3 [(0, .ref (g 0)), (1, .int p0)] := hl
  obtain ⟨H, eH⟩ : ∃ z, z = s.heap := ⟨_, rfl⟩
  have hP : va_P (dC, dI) classes (wM g c v F rc) H := by rw [eH]; exact hP
  have hS : va_S (AM g s.heap.size) s.heap H [] := by rw [eH]; exact va_S.rf
  refine my_heap eH ?_
  have hF : ∀ k, k ∉ ([18, 20, 22] : List Nat) → F k = F k := fun _ _ => rfl
  have rp0 := i32_rng p0
  have hb19 : 0 ≤ (v 19).toInt ∧ (v 19).toInt ≤ 500 := hI.1 19 _ _ rfl
  refine lv_aload_n hx hb dX12_endStay_0 rfl (lv_at hl 0 rfl) ?_
  refine lv_iload_n hx hb dX12_endStay_1 rfl (lv_at hl 1 rfl) ?_
  have t5913 : 0 ≤ (v 19).toInt ∧ (v 19).toInt ≤ 500 := hI.1 19 _ _ rfl
  refine va_calli (va_runV (As := [.int p0]) (rest := []) ⟨hx, hb, hml, hown, hwd⟩ (c_X12_openOf l dC dI g c adK adV v F rc H.size p0 hg hI ) (cwV 1 hwd (gV wk_639 wk_636 wk_637 wk_638 wk_5) rfl rfl rfl (by decide +kernel) ⟨Nat.le_of_ble_eq_true rfl, Nat.le_of_ble_eq_true rfl⟩) ⟨PM.blind, va_recv hK hP (ci := 12) (q0 := 0) rfl rfl, fun U hU hW => ⟨rfl, PM.at hK hE hP hS hU hW⟩⟩ rfl rfl hl.1 rfl (lv_room (Nat.le_of_ble_eq_true rfl)) dX12_endStay_2 ⟨Nat.le_of_ble_eq_true rfl, Nat.le_of_ble_eq_true rfl⟩) hS (fun q _ h => (freeM hS) q h) (freeM hS) (fun r5914 u t H1 locs ht hvm hw hB hz1 hk1 hS => ?_)
  unfold BM at hB
  rw [ht] at hB
  have hP : va_P (dC, dI) classes (wM g c v F rc) H1 := hB
  replace hw : ((0 ≤ r5914.toInt ∧ r5914.toInt < (v 19).toInt) ∧ ((F 15 r5914.toNatClampNeg).toInt = p0.toInt ∧ (F 18 r5914.toNatClampNeg).toInt = 1000000)) ∨ (r5914.toInt = -1 ∧ ∀ s : Nat, (s : Int) < (v 19).toInt → ¬ ((F 15 s).toInt = p0.toInt ∧ (F 18 s).toInt = 1000000)) := hw
  have hw_r5914 := hw
  clear hw
  clear hz1
  generalize H1 = H at hP hS ⊢
  have ho_r5914 := hw_r5914.elim id (fun h => absurd hO (no_hasO h.2))
  refine lv_istore_n (lv' := [(2, .int r5914), (0, .ref (g 0)), (1, .int p0)]) hx hb dX12_endStay_5 rfl hl (by decide) rfl (fun ls hl => ?_)
  refine lv_aload_n hx hb dX12_endStay_6 rfl (lv_at hl 1 rfl) ?_
  refine va_get (D := (dC, dI)) (ci := 12) (v := .ref (g 18)) (C := RX12) (T := TX12) (N := 63) hx hb hwd inA_X12 hown hK hP 0 rfl rfl 23 (by decide) (hwd _ wk_199) (fun _ h9 => h9) rfl dX12_endStay_7 ?_
  refine lv_iload_n hx hb dX12_endStay_10 rfl (lv_at hl 0 rfl) ?_
  refine lv_aload_n hx hb dX12_endStay_11 rfl (lv_at hl 1 rfl) ?_
  refine va_get (D := (dC, dI)) (ci := 12) (v := .int (v 1)) (C := RX12) (T := TX12) (N := 63) hx hb hwd inA_X12 hown hK hP 0 rfl rfl 1 (by decide) (hwd _ wk_332) (fun _ h9 => h9) rfl dX12_endStay_12 ?_
  have t5915 : 0 ≤ (v 1).toInt ∧ (v 1).toInt ≤ 9999 := hI.1 1 _ _ rfl
  refine va_iast hx hb hK hP (DM hg) hS 18 17 rfl rfl (i := r5914) (x := (v 1)) (vin (a := r5914.toInt) rfl (by omega)) dX12_endStay_15 (fun H locs hP _ hS => ?_)
  have hP := va_P_eq (sM_18 g c _ _ _ _) hP
  have hI := IM.store0 hI 18 (r5914 : Int32).toNatClampNeg (v 1) rfl
  have hF := frUF (k := 18) (f := upd (F 18) (r5914 : Int32).toNatClampNeg (v 1)) (by decide) hF
  have st5917 : (va_up F 18 (upd (F 18) (r5914 : Int32).toNatClampNeg (v 1))) 18 = upd (F 18) (r5914 : Int32).toNatClampNeg (v 1) := va_up_self _ _ _
  have sn5918 : ∀ k9, k9 ≠ 18 → (va_up F 18 (upd (F 18) (r5914 : Int32).toNatClampNeg (v 1))) k9 = F k9 := fun k9 h9 => va_up_ne _ _ h9
  have hP : va_P (dC, dI) classes (wM g c v (va_up F 18 (upd (F 18) (r5914 : Int32).toNatClampNeg (v 1))) rc) H := hP
  generalize (va_up F 18 (upd (F 18) (r5914 : Int32).toNatClampNeg (v 1))) = F5916 at hP hI hF st5917 sn5918
  refine lv_aload_n hx hb dX12_endStay_16 rfl (lv_at hl 1 rfl) ?_
  refine va_get (D := (dC, dI)) (ci := 12) (v := .ref (g 20)) (C := RX12) (T := TX12) (N := 63) hx hb hwd inA_X12 hown hK hP 0 rfl rfl 25 (by decide) (hwd _ wk_201) (fun _ h9 => h9) rfl dX12_endStay_17 ?_
  refine lv_iload_n hx hb dX12_endStay_20 rfl (lv_at hl 0 rfl) ?_
  refine lv_aload_n hx hb dX12_endStay_21 rfl (lv_at hl 1 rfl) ?_
  refine va_get (D := (dC, dI)) (ci := 12) (v := .ref (g 14)) (C := RX12) (T := TX12) (N := 63) hx hb hwd inA_X12 hown hK hP 0 rfl rfl 18 (by decide) (hwd _ wk_195) (fun _ h9 => h9) rfl dX12_endStay_22 ?_
  refine lv_iconst (v := 3) hx hb dX12_endStay_25 (by decide) ?_
  refine lv_iload_n hx hb dX12_endStay_26 rfl (lv_at hl 2 rfl) ?_
  refine lv_imul hx hb dX12_endStay_27 ?_
  refine lv_topi (fun z5919 e5920 => ?_)
  try (have t5921 := tmul e5920 (a := 3) (by decide) (b := p0.toInt) rfl (by omega))
  refine va_iald hx hb hK hP 14 13 rfl rfl (i := z5919) (vin (a := z5919.toInt) rfl (by omega)) dX12_endStay_28 ?_
  refine lv_topi (fun z5922 e5923 => ?_)
  have e5923 : z5922 = F 14 (z5919 : Int32).toNatClampNeg := e5923.trans (congrFun (hF 14 (by decide)) _)
  have tzz5922 : z5922.toInt = (F 14 (z5919 : Int32).toNatClampNeg).toInt := congrArg Int32.toInt e5923
  refine va_iast hx hb hK hP (DM hg) hS 20 19 rfl rfl (i := r5914) (x := z5922) (vin (a := r5914.toInt) rfl (by omega)) dX12_endStay_29 (fun H locs hP _ hS => ?_)
  have hP := va_P_eq (sM_20 g c _ _ _ _) hP
  have hI := IM.store0 hI 20 (r5914 : Int32).toNatClampNeg z5922 rfl
  have hF := frUF (k := 20) (f := upd (F5916 20) (r5914 : Int32).toNatClampNeg z5922) (by decide) hF
  have st5925 : (va_up F5916 20 (upd (F5916 20) (r5914 : Int32).toNatClampNeg z5922)) 20 = upd (F5916 20) (r5914 : Int32).toNatClampNeg z5922 := va_up_self _ _ _
  have sn5926 : ∀ k9, k9 ≠ 20 → (va_up F5916 20 (upd (F5916 20) (r5914 : Int32).toNatClampNeg z5922)) k9 = F5916 k9 := fun k9 h9 => va_up_ne _ _ h9
  have hP : va_P (dC, dI) classes (wM g c v (va_up F5916 20 (upd (F5916 20) (r5914 : Int32).toNatClampNeg z5922)) rc) H := hP
  generalize (va_up F5916 20 (upd (F5916 20) (r5914 : Int32).toNatClampNeg z5922)) = F5924 at hP hI hF st5925 sn5926
  refine lv_aload_n hx hb dX12_endStay_30 rfl (lv_at hl 1 rfl) ?_
  refine va_get (D := (dC, dI)) (ci := 12) (v := .ref (g 22)) (C := RX12) (T := TX12) (N := 63) hx hb hwd inA_X12 hown hK hP 0 rfl rfl 27 (by decide) (hwd _ wk_203) (fun _ h9 => h9) rfl dX12_endStay_31 ?_
  refine lv_iload_n hx hb dX12_endStay_34 rfl (lv_at hl 0 rfl) ?_
  refine lv_aload_n hx hb dX12_endStay_35 rfl (lv_at hl 1 rfl) ?_
  refine va_get (D := (dC, dI)) (ci := 12) (v := .ref (g 14)) (C := RX12) (T := TX12) (N := 63) hx hb hwd inA_X12 hown hK hP 0 rfl rfl 18 (by decide) (hwd _ wk_195) (fun _ h9 => h9) rfl dX12_endStay_36 ?_
  refine lv_iconst (v := 3) hx hb dX12_endStay_39 (by decide) ?_
  refine lv_iload_n hx hb dX12_endStay_40 rfl (lv_at hl 2 rfl) ?_
  refine lv_imul hx hb dX12_endStay_41 ?_
  refine lv_topi (fun z5927 e5928 => ?_)
  try (have t5929 := tmul e5928 (a := 3) (by decide) (b := p0.toInt) rfl (by omega))
  refine lv_iconst (v := 1) hx hb dX12_endStay_42 (by decide) ?_
  refine lv_iadd hx hb dX12_endStay_43 ?_
  refine lv_topi (fun z5930 e5931 => ?_)
  try (have t5932 := tadd e5931 (a := z5927.toInt) rfl (b := 1) (by decide) (by omega))
  refine va_iald hx hb hK hP 14 13 rfl rfl (i := z5930) (vin (a := z5930.toInt) rfl (by omega)) dX12_endStay_44 ?_
  refine lv_topi (fun z5933 e5934 => ?_)
  have e5934 : z5933 = F 14 (z5930 : Int32).toNatClampNeg := e5934.trans (congrFun (hF 14 (by decide)) _)
  have tzz5933 : z5933.toInt = (F 14 (z5930 : Int32).toNatClampNeg).toInt := congrArg Int32.toInt e5934
  refine va_iast hx hb hK hP (DM hg) hS 22 21 rfl rfl (i := r5914) (x := z5933) (vin (a := r5914.toInt) rfl (by omega)) dX12_endStay_45 (fun H locs hP _ hS => ?_)
  have hP := va_P_eq (sM_22 g c _ _ _ _) hP
  have hI := IM.store0 hI 22 (r5914 : Int32).toNatClampNeg z5933 rfl
  have hF := frUF (k := 22) (f := upd (F5924 22) (r5914 : Int32).toNatClampNeg z5933) (by decide) hF
  have st5936 : (va_up F5924 22 (upd (F5924 22) (r5914 : Int32).toNatClampNeg z5933)) 22 = upd (F5924 22) (r5914 : Int32).toNatClampNeg z5933 := va_up_self _ _ _
  have sn5937 : ∀ k9, k9 ≠ 22 → (va_up F5924 22 (upd (F5924 22) (r5914 : Int32).toNatClampNeg z5933)) k9 = F5924 k9 := fun k9 h9 => va_up_ne _ _ h9
  have hP : va_P (dC, dI) classes (wM g c v (va_up F5924 22 (upd (F5924 22) (r5914 : Int32).toNatClampNeg z5933)) rc) H := hP
  generalize (va_up F5924 22 (upd (F5924 22) (r5914 : Int32).toNatClampNeg z5933)) = F5935 at hP hI hF st5936 sn5937
  have hP9 : va_P (dC, dI) classes (wM g c v F5935 rc) H := hP
  exact W.vret hx hb hr (fun t ht hW => ⟨⟨(v, F5935, rc), rfl, ⟨hI, rfl, (fun _ _ => rfl), hF, (fun j hj h => end_has ho_r5914.2.1 ((sn5937 15 (by decide)).trans ((sn5926 15 (by decide)).trans (sn5918 15 (by decide)))) ((sn5937 18 (by decide)).trans ((sn5926 18 (by decide)).trans st5917)) j hj h)⟩, (by show va_P _ _ _ t.heap; rw [ht]; exact hP9)⟩, hS.F ht⟩) hS.2.2 dX12_endStay_46
set_option maxHeartbeats 8000000 in
set_option maxRecDepth 100000 in
theorem c_X12_begin (l : Launch) (dC : Nat → ClassId) (dI : Nat → Nat → Nat) (g : Nat → Nat) (c : Nat → ClassId) (adK adV : Nat → Nat) (v : Nat → Int32) (F : Nat → Nat → Int32) (rc sz : Nat) (p0 : Int32) (p1 : Int32) (hg : injM g) (hI : IM v F) (h0 : 0 ≤ p0.toInt ∧ p0.toInt ≤ 99) (h1 : 0 ≤ p1.toInt ∧ p1.toInt ≤ 11) (hq0 : (v 19).toInt ≤ 499) : Met l yX12_begin (Cond.code yX12_begin cX12_begin 3 none :: wA) ({ frames := 1, cells := 0, slots := 0, locals := 40 }) (va_Pc [.ref (g 0), .int p0, .int p1] (PM dC dI g c adK adV v F rc sz)) (va_Qv (fun (u : StM) => IM u.1 u.2.1 ∧ u.2.2 = rc ∧ (∀ k, k ∉ ([19] : List Nat) → u.1 k = v k) ∧ (∀ k, k ∉ ([13, 15, 16, 17, 18, 19, 21, 23] : List Nat) → u.2.1 k = F k) ∧ ((u.1 19).toInt = (v 19).toInt + 1 ∧ (u.2.1 13 = upd (F 13) p0.toNatClampNeg p1) ∧ (∀ j : Int, (j = p0.toInt ∨ hasO (v 19) (F 15) (F 18) j) → hasO (u.1 19) (u.2.1 15) (u.2.1 18) j))) (BM dC dI g c) (AM g sz)) 0 0 (AM g sz) := by
  refine Met.ofW (cc := cX12_begin) (maxL := 3) (ret := none) (by decide) rfl ?_
  intro p e s m args below meth c0 s₁ B hml hv
  obtain ⟨rfl, hsz, hP, hK, hE⟩ := hv
  have hx := B.exec
  have hb := B.bytes
  have hr := B.returns
  have hts := atoms_spec (ws := Cond.code yX12_begin cX12_begin 3 none :: wA) B.pre
  have hwd : ∀ w ∈ wA, w.before _ s = true := fun w h => hts w (List.mem_cons_of_mem _ h)
  have hown : s.vm.findClass RX12 = some m.cls := findClass_of_methodNamed B.named
  have hlocks := B.notSynchronized
  subst hsz
  have hl := lv_entry ([.ref (g 0), .int p0, .int p1]) (n := 3) (Nat.le_of_ble_eq_true rfl)
  rw [lg_entry_eq]
  generalize (lg_sl ([.ref (g 0), .int p0, .int p1]) ++ List.replicate (3 - (lg_sl ([.ref (g 0), .int p0, .int p1])).length) Slot.unset).toArray = ls at hl ⊢
  have hl : lv_has ls 3 [(0, .ref (g 0)), (1, .int p0), (2, .int p1)] := hl
  obtain ⟨H, eH⟩ : ∃ z, z = s.heap := ⟨_, rfl⟩
  have hP : va_P (dC, dI) classes (wM g c v F rc) H := by rw [eH]; exact hP
  have hS : va_S (AM g s.heap.size) s.heap H [] := by rw [eH]; exact va_S.rf
  refine my_heap eH ?_
  have hF : ∀ k, k ∉ ([13, 15, 16, 17, 18, 19, 21, 23] : List Nat) → F k = F k := fun _ _ => rfl
  have rp0 := i32_rng p0
  have rp1 := i32_rng p1
  refine lv_aload_n hx hb dX12_begin_0 rfl (lv_at hl 0 rfl) ?_
  refine va_get (D := (dC, dI)) (ci := 12) (v := .ref (g 15)) (C := RX12) (T := TX12) (N := 63) hx hb hwd inA_X12 hown hK hP 0 rfl rfl 20 (by decide) (hwd _ wk_196) (fun _ h9 => h9) rfl dX12_begin_1 ?_
  refine lv_aload_n hx hb dX12_begin_4 rfl (lv_at hl 0 rfl) ?_
  refine va_get (D := (dC, dI)) (ci := 12) (v := .int (v 19)) (C := RX12) (T := TX12) (N := 63) hx hb hwd inA_X12 hown hK hP 0 rfl rfl 19 (by decide) (hwd _ wk_494) (fun _ h9 => h9) rfl dX12_begin_5 ?_
  have t5987 : 0 ≤ (v 19).toInt ∧ (v 19).toInt ≤ 500 := hI.1 19 _ _ rfl
  refine lv_iload_n hx hb dX12_begin_8 rfl (lv_at hl 1 rfl) ?_
  refine va_iast hx hb hK hP (DM hg) hS 15 14 rfl rfl (i := (v 19)) (x := p0) (vin (a := (v 19).toInt) rfl (by omega)) dX12_begin_9 (fun H locs hP _ hS => ?_)
  have hP := va_P_eq (sM_15 g c _ _ _ _) hP
  have hI := IM.store hI 15 (v 19 : Int32).toNatClampNeg p0 rfl (by omega)
  have hF := frUF (k := 15) (f := upd (F 15) (v 19 : Int32).toNatClampNeg p0) (by decide) hF
  have st5989 : (va_up F 15 (upd (F 15) (v 19 : Int32).toNatClampNeg p0)) 15 = upd (F 15) (v 19 : Int32).toNatClampNeg p0 := va_up_self _ _ _
  have sn5990 : ∀ k9, k9 ≠ 15 → (va_up F 15 (upd (F 15) (v 19 : Int32).toNatClampNeg p0)) k9 = F k9 := fun k9 h9 => va_up_ne _ _ h9
  have hP : va_P (dC, dI) classes (wM g c v (va_up F 15 (upd (F 15) (v 19 : Int32).toNatClampNeg p0)) rc) H := hP
  generalize (va_up F 15 (upd (F 15) (v 19 : Int32).toNatClampNeg p0)) = F5988 at hP hI hF st5989 sn5990
  refine lv_aload_n hx hb dX12_begin_10 rfl (lv_at hl 0 rfl) ?_
  refine va_get (D := (dC, dI)) (ci := 12) (v := .ref (g 16)) (C := RX12) (T := TX12) (N := 63) hx hb hwd inA_X12 hown hK hP 0 rfl rfl 21 (by decide) (hwd _ wk_197) (fun _ h9 => h9) rfl dX12_begin_11 ?_
  refine lv_aload_n hx hb dX12_begin_14 rfl (lv_at hl 0 rfl) ?_
  refine va_get (D := (dC, dI)) (ci := 12) (v := .int (v 19)) (C := RX12) (T := TX12) (N := 63) hx hb hwd inA_X12 hown hK hP 0 rfl rfl 19 (by decide) (hwd _ wk_494) (fun _ h9 => h9) rfl dX12_begin_15 ?_
  have t5991 : 0 ≤ (v 19).toInt ∧ (v 19).toInt ≤ 500 := hI.1 19 _ _ rfl
  refine lv_iload_n hx hb dX12_begin_18 rfl (lv_at hl 2 rfl) ?_
  refine va_iast hx hb hK hP (DM hg) hS 16 15 rfl rfl (i := (v 19)) (x := p1) (vin (a := (v 19).toInt) rfl (by omega)) dX12_begin_19 (fun H locs hP _ hS => ?_)
  have hP := va_P_eq (sM_16 g c _ _ _ _) hP
  have hI := IM.store hI 16 (v 19 : Int32).toNatClampNeg p1 rfl (by omega)
  have hF := frUF (k := 16) (f := upd (F5988 16) (v 19 : Int32).toNatClampNeg p1) (by decide) hF
  have st5993 : (va_up F5988 16 (upd (F5988 16) (v 19 : Int32).toNatClampNeg p1)) 16 = upd (F5988 16) (v 19 : Int32).toNatClampNeg p1 := va_up_self _ _ _
  have sn5994 : ∀ k9, k9 ≠ 16 → (va_up F5988 16 (upd (F5988 16) (v 19 : Int32).toNatClampNeg p1)) k9 = F5988 k9 := fun k9 h9 => va_up_ne _ _ h9
  have hP : va_P (dC, dI) classes (wM g c v (va_up F5988 16 (upd (F5988 16) (v 19 : Int32).toNatClampNeg p1)) rc) H := hP
  generalize (va_up F5988 16 (upd (F5988 16) (v 19 : Int32).toNatClampNeg p1)) = F5992 at hP hI hF st5993 sn5994
  refine lv_aload_n hx hb dX12_begin_20 rfl (lv_at hl 0 rfl) ?_
  refine va_get (D := (dC, dI)) (ci := 12) (v := .ref (g 17)) (C := RX12) (T := TX12) (N := 63) hx hb hwd inA_X12 hown hK hP 0 rfl rfl 22 (by decide) (hwd _ wk_198) (fun _ h9 => h9) rfl dX12_begin_21 ?_
  refine lv_aload_n hx hb dX12_begin_24 rfl (lv_at hl 0 rfl) ?_
  refine va_get (D := (dC, dI)) (ci := 12) (v := .int (v 19)) (C := RX12) (T := TX12) (N := 63) hx hb hwd inA_X12 hown hK hP 0 rfl rfl 19 (by decide) (hwd _ wk_494) (fun _ h9 => h9) rfl dX12_begin_25 ?_
  have t5995 : 0 ≤ (v 19).toInt ∧ (v 19).toInt ≤ 500 := hI.1 19 _ _ rfl
  refine lv_aload_n hx hb dX12_begin_28 rfl (lv_at hl 0 rfl) ?_
  refine va_get (D := (dC, dI)) (ci := 12) (v := .int (v 1)) (C := RX12) (T := TX12) (N := 63) hx hb hwd inA_X12 hown hK hP 0 rfl rfl 1 (by decide) (hwd _ wk_332) (fun _ h9 => h9) rfl dX12_begin_29 ?_
  have t5996 : 0 ≤ (v 1).toInt ∧ (v 1).toInt ≤ 9999 := hI.1 1 _ _ rfl
  refine va_iast hx hb hK hP (DM hg) hS 17 16 rfl rfl (i := (v 19)) (x := (v 1)) (vin (a := (v 19).toInt) rfl (by omega)) dX12_begin_32 (fun H locs hP _ hS => ?_)
  have hP := va_P_eq (sM_17 g c _ _ _ _) hP
  have hI := IM.store0 hI 17 (v 19 : Int32).toNatClampNeg (v 1) rfl
  have hF := frUF (k := 17) (f := upd (F5992 17) (v 19 : Int32).toNatClampNeg (v 1)) (by decide) hF
  have st5998 : (va_up F5992 17 (upd (F5992 17) (v 19 : Int32).toNatClampNeg (v 1))) 17 = upd (F5992 17) (v 19 : Int32).toNatClampNeg (v 1) := va_up_self _ _ _
  have sn5999 : ∀ k9, k9 ≠ 17 → (va_up F5992 17 (upd (F5992 17) (v 19 : Int32).toNatClampNeg (v 1))) k9 = F5992 k9 := fun k9 h9 => va_up_ne _ _ h9
  have hP : va_P (dC, dI) classes (wM g c v (va_up F5992 17 (upd (F5992 17) (v 19 : Int32).toNatClampNeg (v 1))) rc) H := hP
  generalize (va_up F5992 17 (upd (F5992 17) (v 19 : Int32).toNatClampNeg (v 1))) = F5997 at hP hI hF st5998 sn5999
  refine lv_aload_n hx hb dX12_begin_33 rfl (lv_at hl 0 rfl) ?_
  refine va_get (D := (dC, dI)) (ci := 12) (v := .ref (g 18)) (C := RX12) (T := TX12) (N := 63) hx hb hwd inA_X12 hown hK hP 0 rfl rfl 23 (by decide) (hwd _ wk_199) (fun _ h9 => h9) rfl dX12_begin_34 ?_
  refine lv_aload_n hx hb dX12_begin_37 rfl (lv_at hl 0 rfl) ?_
  refine va_get (D := (dC, dI)) (ci := 12) (v := .int (v 19)) (C := RX12) (T := TX12) (N := 63) hx hb hwd inA_X12 hown hK hP 0 rfl rfl 19 (by decide) (hwd _ wk_494) (fun _ h9 => h9) rfl dX12_begin_38 ?_
  have t6000 : 0 ≤ (v 19).toInt ∧ (v 19).toInt ≤ 500 := hI.1 19 _ _ rfl
  refine lv_ldc (v := 1000000) hx hb hown (hwd _ wk_500) dX12_begin_41 ?_
  refine va_iast hx hb hK hP (DM hg) hS 18 17 rfl rfl (i := (v 19)) (x := 1000000) (vin (a := (v 19).toInt) rfl (by omega)) dX12_begin_43 (fun H locs hP _ hS => ?_)
  have hP := va_P_eq (sM_18 g c _ _ _ _) hP
  have hI := IM.store0 hI 18 (v 19 : Int32).toNatClampNeg 1000000 rfl
  have hF := frUF (k := 18) (f := upd (F5997 18) (v 19 : Int32).toNatClampNeg 1000000) (by decide) hF
  have st6002 : (va_up F5997 18 (upd (F5997 18) (v 19 : Int32).toNatClampNeg 1000000)) 18 = upd (F5997 18) (v 19 : Int32).toNatClampNeg 1000000 := va_up_self _ _ _
  have sn6003 : ∀ k9, k9 ≠ 18 → (va_up F5997 18 (upd (F5997 18) (v 19 : Int32).toNatClampNeg 1000000)) k9 = F5997 k9 := fun k9 h9 => va_up_ne _ _ h9
  have hP : va_P (dC, dI) classes (wM g c v (va_up F5997 18 (upd (F5997 18) (v 19 : Int32).toNatClampNeg 1000000)) rc) H := hP
  generalize (va_up F5997 18 (upd (F5997 18) (v 19 : Int32).toNatClampNeg 1000000)) = F6001 at hP hI hF st6002 sn6003
  refine lv_aload_n hx hb dX12_begin_44 rfl (lv_at hl 0 rfl) ?_
  refine va_get (D := (dC, dI)) (ci := 12) (v := .ref (g 19)) (C := RX12) (T := TX12) (N := 63) hx hb hwd inA_X12 hown hK hP 0 rfl rfl 24 (by decide) (hwd _ wk_200) (fun _ h9 => h9) rfl dX12_begin_45 ?_
  refine lv_aload_n hx hb dX12_begin_48 rfl (lv_at hl 0 rfl) ?_
  refine va_get (D := (dC, dI)) (ci := 12) (v := .int (v 19)) (C := RX12) (T := TX12) (N := 63) hx hb hwd inA_X12 hown hK hP 0 rfl rfl 19 (by decide) (hwd _ wk_494) (fun _ h9 => h9) rfl dX12_begin_49 ?_
  have t6004 : 0 ≤ (v 19).toInt ∧ (v 19).toInt ≤ 500 := hI.1 19 _ _ rfl
  refine lv_aload_n hx hb dX12_begin_52 rfl (lv_at hl 0 rfl) ?_
  refine va_get (D := (dC, dI)) (ci := 12) (v := .ref (g 14)) (C := RX12) (T := TX12) (N := 63) hx hb hwd inA_X12 hown hK hP 0 rfl rfl 18 (by decide) (hwd _ wk_195) (fun _ h9 => h9) rfl dX12_begin_53 ?_
  refine lv_iconst (v := 3) hx hb dX12_begin_56 (by decide) ?_
  refine lv_iload_n hx hb dX12_begin_57 rfl (lv_at hl 1 rfl) ?_
  refine lv_imul hx hb dX12_begin_58 ?_
  refine lv_topi (fun z6005 e6006 => ?_)
  try (have t6007 := tmul e6006 (a := 3) (by decide) (b := p0.toInt) rfl (by omega))
  refine va_iald hx hb hK hP 14 13 rfl rfl (i := z6005) (vin (a := z6005.toInt) rfl (by omega)) dX12_begin_59 ?_
  refine lv_topi (fun z6008 e6009 => ?_)
  have e6009 : z6008 = F 14 (z6005 : Int32).toNatClampNeg := e6009.trans (congrFun (hF 14 (by decide)) _)
  have tzz6008 : z6008.toInt = (F 14 (z6005 : Int32).toNatClampNeg).toInt := congrArg Int32.toInt e6009
  refine va_iast hx hb hK hP (DM hg) hS 19 18 rfl rfl (i := (v 19)) (x := z6008) (vin (a := (v 19).toInt) rfl (by omega)) dX12_begin_60 (fun H locs hP _ hS => ?_)
  have hP := va_P_eq (sM_19 g c _ _ _ _) hP
  have hI := IM.store0 hI 19 (v 19 : Int32).toNatClampNeg z6008 rfl
  have hF := frUF (k := 19) (f := upd (F6001 19) (v 19 : Int32).toNatClampNeg z6008) (by decide) hF
  have st6011 : (va_up F6001 19 (upd (F6001 19) (v 19 : Int32).toNatClampNeg z6008)) 19 = upd (F6001 19) (v 19 : Int32).toNatClampNeg z6008 := va_up_self _ _ _
  have sn6012 : ∀ k9, k9 ≠ 19 → (va_up F6001 19 (upd (F6001 19) (v 19 : Int32).toNatClampNeg z6008)) k9 = F6001 k9 := fun k9 h9 => va_up_ne _ _ h9
  have hP : va_P (dC, dI) classes (wM g c v (va_up F6001 19 (upd (F6001 19) (v 19 : Int32).toNatClampNeg z6008)) rc) H := hP
  generalize (va_up F6001 19 (upd (F6001 19) (v 19 : Int32).toNatClampNeg z6008)) = F6010 at hP hI hF st6011 sn6012
  refine lv_aload_n hx hb dX12_begin_61 rfl (lv_at hl 0 rfl) ?_
  refine va_get (D := (dC, dI)) (ci := 12) (v := .ref (g 21)) (C := RX12) (T := TX12) (N := 63) hx hb hwd inA_X12 hown hK hP 0 rfl rfl 26 (by decide) (hwd _ wk_202) (fun _ h9 => h9) rfl dX12_begin_62 ?_
  refine lv_aload_n hx hb dX12_begin_65 rfl (lv_at hl 0 rfl) ?_
  refine va_get (D := (dC, dI)) (ci := 12) (v := .int (v 19)) (C := RX12) (T := TX12) (N := 63) hx hb hwd inA_X12 hown hK hP 0 rfl rfl 19 (by decide) (hwd _ wk_494) (fun _ h9 => h9) rfl dX12_begin_66 ?_
  have t6013 : 0 ≤ (v 19).toInt ∧ (v 19).toInt ≤ 500 := hI.1 19 _ _ rfl
  refine lv_aload_n hx hb dX12_begin_69 rfl (lv_at hl 0 rfl) ?_
  refine va_get (D := (dC, dI)) (ci := 12) (v := .ref (g 14)) (C := RX12) (T := TX12) (N := 63) hx hb hwd inA_X12 hown hK hP 0 rfl rfl 18 (by decide) (hwd _ wk_195) (fun _ h9 => h9) rfl dX12_begin_70 ?_
  refine lv_iconst (v := 3) hx hb dX12_begin_73 (by decide) ?_
  refine lv_iload_n hx hb dX12_begin_74 rfl (lv_at hl 1 rfl) ?_
  refine lv_imul hx hb dX12_begin_75 ?_
  refine lv_topi (fun z6014 e6015 => ?_)
  try (have t6016 := tmul e6015 (a := 3) (by decide) (b := p0.toInt) rfl (by omega))
  refine lv_iconst (v := 1) hx hb dX12_begin_76 (by decide) ?_
  refine lv_iadd hx hb dX12_begin_77 ?_
  refine lv_topi (fun z6017 e6018 => ?_)
  try (have t6019 := tadd e6018 (a := z6014.toInt) rfl (b := 1) (by decide) (by omega))
  refine va_iald hx hb hK hP 14 13 rfl rfl (i := z6017) (vin (a := z6017.toInt) rfl (by omega)) dX12_begin_78 ?_
  refine lv_topi (fun z6020 e6021 => ?_)
  have e6021 : z6020 = F 14 (z6017 : Int32).toNatClampNeg := e6021.trans (congrFun (hF 14 (by decide)) _)
  have tzz6020 : z6020.toInt = (F 14 (z6017 : Int32).toNatClampNeg).toInt := congrArg Int32.toInt e6021
  refine va_iast hx hb hK hP (DM hg) hS 21 20 rfl rfl (i := (v 19)) (x := z6020) (vin (a := (v 19).toInt) rfl (by omega)) dX12_begin_79 (fun H locs hP _ hS => ?_)
  have hP := va_P_eq (sM_21 g c _ _ _ _) hP
  have hI := IM.store0 hI 21 (v 19 : Int32).toNatClampNeg z6020 rfl
  have hF := frUF (k := 21) (f := upd (F6010 21) (v 19 : Int32).toNatClampNeg z6020) (by decide) hF
  have st6023 : (va_up F6010 21 (upd (F6010 21) (v 19 : Int32).toNatClampNeg z6020)) 21 = upd (F6010 21) (v 19 : Int32).toNatClampNeg z6020 := va_up_self _ _ _
  have sn6024 : ∀ k9, k9 ≠ 21 → (va_up F6010 21 (upd (F6010 21) (v 19 : Int32).toNatClampNeg z6020)) k9 = F6010 k9 := fun k9 h9 => va_up_ne _ _ h9
  have hP : va_P (dC, dI) classes (wM g c v (va_up F6010 21 (upd (F6010 21) (v 19 : Int32).toNatClampNeg z6020)) rc) H := hP
  generalize (va_up F6010 21 (upd (F6010 21) (v 19 : Int32).toNatClampNeg z6020)) = F6022 at hP hI hF st6023 sn6024
  refine lv_aload_n hx hb dX12_begin_80 rfl (lv_at hl 0 rfl) ?_
  refine va_get (D := (dC, dI)) (ci := 12) (v := .ref (g 23)) (C := RX12) (T := TX12) (N := 63) hx hb hwd inA_X12 hown hK hP 0 rfl rfl 28 (by decide) (hwd _ wk_204) (fun _ h9 => h9) rfl dX12_begin_81 ?_
  refine lv_aload_n hx hb dX12_begin_84 rfl (lv_at hl 0 rfl) ?_
  refine va_get (D := (dC, dI)) (ci := 12) (v := .int (v 19)) (C := RX12) (T := TX12) (N := 63) hx hb hwd inA_X12 hown hK hP 0 rfl rfl 19 (by decide) (hwd _ wk_494) (fun _ h9 => h9) rfl dX12_begin_85 ?_
  have t6025 : 0 ≤ (v 19).toInt ∧ (v 19).toInt ≤ 500 := hI.1 19 _ _ rfl
  refine lv_iconst (v := 0) hx hb dX12_begin_88 (by decide) ?_
  refine va_zast hx hb hK hP (DM hg) hS 23 22 rfl rfl (i := (v 19)) (x := 0) (vin (a := (v 19).toInt) rfl (by omega)) dX12_begin_89 (fun H locs hP _ hS => ?_)
  have hP := va_P_eq (sM_23 g c _ _ _ _) hP
  have hI := IM.store0 hI 23 (v 19 : Int32).toNatClampNeg (vp_nar .boolean 0) rfl
  have hF := frUF (k := 23) (f := upd (F6022 23) (v 19 : Int32).toNatClampNeg (vp_nar .boolean 0)) (by decide) hF
  have st6027 : (va_up F6022 23 (upd (F6022 23) (v 19 : Int32).toNatClampNeg (vp_nar .boolean 0))) 23 = upd (F6022 23) (v 19 : Int32).toNatClampNeg (vp_nar .boolean 0) := va_up_self _ _ _
  have sn6028 : ∀ k9, k9 ≠ 23 → (va_up F6022 23 (upd (F6022 23) (v 19 : Int32).toNatClampNeg (vp_nar .boolean 0))) k9 = F6022 k9 := fun k9 h9 => va_up_ne _ _ h9
  have hP : va_P (dC, dI) classes (wM g c v (va_up F6022 23 (upd (F6022 23) (v 19 : Int32).toNatClampNeg (vp_nar .boolean 0))) rc) H := hP
  generalize (va_up F6022 23 (upd (F6022 23) (v 19 : Int32).toNatClampNeg (vp_nar .boolean 0))) = F6026 at hP hI hF st6027 sn6028
  refine lv_aload_n hx hb dX12_begin_90 rfl (lv_at hl 0 rfl) ?_
  refine lv_dup hx hb dX12_begin_91 rfl ?_
  refine va_get (D := (dC, dI)) (ci := 12) (v := .int (v 19)) (C := RX12) (T := TX12) (N := 63) hx hb hwd inA_X12 hown hK hP 0 rfl rfl 19 (by decide) (hwd _ wk_494) (fun _ h9 => h9) rfl dX12_begin_92 ?_
  have t6029 : 0 ≤ (v 19).toInt ∧ (v 19).toInt ≤ 500 := hI.1 19 _ _ rfl
  refine lv_iconst (v := 1) hx hb dX12_begin_95 (by decide) ?_
  refine lv_iadd hx hb dX12_begin_96 ?_
  refine lv_topi (fun z6030 e6031 => ?_)
  try (have t6032 := tadd e6031 (a := (v 19).toInt) rfl (b := 1) (by decide) (by omega))
  refine va_put (D := (dC, dI)) (ci := 12) (v := .int z6030) (ty := .int) (C := RX12) (T := TX12) (N := 63) (fs := fsM_0 g v rc) hx hb hwd inA_X12 tyX12 tyX12_ok nmX12 hown hK hP (DM hg) hS 0 rfl rfl 19 (by decide) (hwd _ wk_494) (fun _ h9 => h9) rfl (by decide +kernel) rfl rfl (Nat.le_of_ble_eq_true rfl) dX12_begin_97 (fun H locs hP _ hS => ?_)
  have hP := va_P_eq (pM_19 g c _ _ _ _) hP
  have hI := IM.put hI 19 z6030 rfl (by omega)
  refine lv_aload_n hx hb dX12_begin_100 rfl (lv_at hl 0 rfl) ?_
  refine va_get (D := (dC, dI)) (ci := 12) (v := .ref (g 13)) (C := RX12) (T := TX12) (N := 63) hx hb hwd inA_X12 hown hK hP 0 rfl rfl 17 (by decide) (hwd _ wk_194) (fun _ h9 => h9) rfl dX12_begin_101 ?_
  refine lv_iload_n hx hb dX12_begin_104 rfl (lv_at hl 1 rfl) ?_
  refine lv_iload_n hx hb dX12_begin_105 rfl (lv_at hl 2 rfl) ?_
  refine va_iast hx hb hK hP (DM hg) hS 13 12 rfl rfl (i := p0) (x := p1) (vin (a := p0.toInt) rfl (by omega)) dX12_begin_106 (fun H locs hP _ hS => ?_)
  have hP := va_P_eq (sM_13 g c _ _ _ _) hP
  have hI := IM.store hI 13 (p0 : Int32).toNatClampNeg p1 rfl (by omega)
  have hF := frUF (k := 13) (f := upd (F6026 13) (p0 : Int32).toNatClampNeg p1) (by decide) hF
  have st6034 : (va_up F6026 13 (upd (F6026 13) (p0 : Int32).toNatClampNeg p1)) 13 = upd (F6026 13) (p0 : Int32).toNatClampNeg p1 := va_up_self _ _ _
  have sn6035 : ∀ k9, k9 ≠ 13 → (va_up F6026 13 (upd (F6026 13) (p0 : Int32).toNatClampNeg p1)) k9 = F6026 k9 := fun k9 h9 => va_up_ne _ _ h9
  have hP : va_P (dC, dI) classes (wM g c (va_up v 19 z6030) (va_up F6026 13 (upd (F6026 13) (p0 : Int32).toNatClampNeg p1)) rc) H := hP
  generalize (va_up F6026 13 (upd (F6026 13) (p0 : Int32).toNatClampNeg p1)) = F6033 at hP hI hF st6034 sn6035
  have hP9 : va_P (dC, dI) classes (wM g c (va_up v 19 z6030) F6033 rc) H := hP
  exact W.vret hx hb hr (fun t ht hW => ⟨⟨((va_up v 19 z6030), F6033, rc), rfl, ⟨hI, rfl, (frU (by decide) (fun _ _ => rfl)), hF, (have hn9 : z6030.toInt = (v 19).toInt + 1 := (by omega); ⟨hn9, (st6034.trans (congrArg (fun f => upd f (p0 : Int32).toNatClampNeg p1) ((sn6028 13 (by decide)).trans ((sn6024 13 (by decide)).trans ((sn6012 13 (by decide)).trans ((sn6003 13 (by decide)).trans ((sn5999 13 (by decide)).trans ((sn5994 13 (by decide)).trans (sn5990 13 (by decide)))))))))), begin_has hn9 (by omega) ((sn6035 15 (by decide)).trans ((sn6028 15 (by decide)).trans ((sn6024 15 (by decide)).trans ((sn6012 15 (by decide)).trans ((sn6003 15 (by decide)).trans ((sn5999 15 (by decide)).trans ((sn5994 15 (by decide)).trans st5989))))))) ((sn6035 18 (by decide)).trans ((sn6028 18 (by decide)).trans ((sn6024 18 (by decide)).trans ((sn6012 18 (by decide)).trans (st6002.trans (congrArg (fun f => upd f (v 19 : Int32).toNatClampNeg 1000000) ((sn5999 18 (by decide)).trans ((sn5994 18 (by decide)).trans (sn5990 18 (by decide))))))))))⟩)⟩, (by show va_P _ _ _ t.heap; rw [ht]; exact hP9)⟩, hS.F ht⟩) hS.2.2 dX12_begin_107
