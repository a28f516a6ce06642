set_option maxHeartbeats 8000000 in
set_option maxRecDepth 100000 in
theorem c_X12_openOf (l : Launch) (dC : Nat → ClassId) (dI : Nat → Nat → Nat) (g : Nat → Nat) (c : Nat → ClassId) (adK adV : Nat → Nat) (v : Nat → Int32) (F : Nat → Nat → Int32) (rc sz : Nat) (p0 : Int32) (hg : injM g) (hI : IM v F) : Met l yX12_openOf (Cond.code yX12_openOf cX12_openOf 3 (some .int) :: wA) ({ frames := 1, cells := 0, slots := 0, locals := 40 }) (va_Pc [.ref (g 0), .int p0] (PM dC dI g c adK adV v F rc sz)) (va_Qi (fun (r : Int32) (u : Unit) => ((0 ≤ r.toInt ∧ r.toInt < (v 19).toInt) ∧ ((F 15 r.toNatClampNeg).toInt = p0.toInt ∧ (F 18 r.toNatClampNeg).toInt = 1000000)) ∨ (r.toInt = -1 ∧ ∀ s : Nat, (s : Int) < (v 19).toInt → ¬ ((F 15 s).toInt = p0.toInt ∧ (F 18 s).toInt = 1000000))) (fun (_ : Unit) => BM dC dI g c (v, F, rc)) (AM g sz)) 0 0 (AM g sz) := by
  refine Met.ofW (cc := cX12_openOf) (maxL := 3) (ret := (some .int)) (by decide) rfl ?_
  intro p e s m args below meth c0 s₁ B hml hv
  obtain ⟨rfl, hsz, hP, hK, hE⟩ := hv
  have hx := B.exec
  have hb := B.bytes
  have hr := B.returns
  have hts := atoms_spec (ws := Cond.code yX12_openOf cX12_openOf 3 (some .int) :: wA) B.pre
  have hwd : ∀ w ∈ wA, w.before _ s = true := fun w h => hts w (List.mem_cons_of_mem _ h)
  have hown : s.vm.findClass RX12 = some m.cls := findClass_of_methodNamed B.named
  have hlocks := B.notSynchronized
  subst hsz
  have hl := lv_entry ([.ref (g 0), .int p0]) (n := 3) (Nat.le_of_ble_eq_true rfl)
  rw [lg_entry_eq]
  generalize (lg_sl ([.ref (g 0), .int p0]) ++ List.replicate (3 - (lg_sl ([.ref (g 0), .int p0])).length) Slot.unset).toArray = ls at hl ⊢
  have hl : lv_has ls 3 [(0, .ref (g 0)), (1, .int p0)] := hl
  obtain ⟨H, eH⟩ : ∃ z, z = s.heap := ⟨_, rfl⟩
  have hP : va_P (dC, dI) classes (wM g c v F rc) H := by rw [eH]; exact hP
  have hS : va_S (AM g s.heap.size) s.heap H [] := by rw [eH]; exact va_S.rf
  refine my_heap eH ?_
  have rp0 := i32_rng p0
  refine lv_iconst (v := 0) hx hb dX12_openOf_0 (by decide) ?_
  refine lv_istore_n (lv' := [(2, .int 0), (0, .ref (g 0)), (1, .int p0)]) hx hb dX12_openOf_1 rfl hl (by decide) rfl (fun ls hl => ?_)
  have lp5761 : ∀ (n : Nat) (x2_lp5761 : Int32) (H : Heap) (locs : List Loc) (ls : Array Slot), (0 ≤ x2_lp5761.toInt) → (∀ s : Nat, (s : Int) < x2_lp5761.toInt → ¬ ((F 15 s).toInt = p0.toInt ∧ (F 18 s).toInt = 1000000)) → (2147483648 - x2_lp5761.toInt ≤ (n : Int)) → va_P (dC, dI) classes (wM g c v F rc) H → va_S (AM g s.heap.size) s.heap H locs → lv_has ls 3 [(2, .int x2_lp5761), (0, .ref (g 0)), (1, .int p0)] → W p l e (headSpec (Cond.code yX12_openOf cX12_openOf 3 (some .int) :: wA) ({ frames := 1, cells := 0, slots := 0, locals := 40 })).room s m ([.ref (g 0), .int p0] : List Value).toArray below meth c0 H locs 0 0 (MQ below (va_Qi (fun (r : Int32) (u : Unit) => ((0 ≤ r.toInt ∧ r.toInt < (v 19).toInt) ∧ ((F 15 r.toNatClampNeg).toInt = p0.toInt ∧ (F 18 r.toNatClampNeg).toInt = 1000000)) ∨ (r.toInt = -1 ∧ ∀ s : Nat, (s : Int) < (v 19).toInt → ¬ ((F 15 s).toInt = p0.toInt ∧ (F 18 s).toInt = 1000000))) (fun (_ : Unit) => BM dC dI g c (v, F, rc)) (AM g s.heap.size)) ([.ref (g 0), .int p0] : List Value).toArray s 0 0 (AM g s.heap.size)) (F0 m 2 ls []) := by
    intro n
    induction n with
    | zero =>
      intro x2_lp5761 H locs ls t5762 t5763 hm hP hS hl
      exfalso
      have := i32_rng x2_lp5761
      omega
    | succ n ih_lp5761 =>
      intro x2_lp5761 H locs ls t5762 t5763 hm hP hS hl
      have rx2_lp5761 := i32_rng x2_lp5761
      refine lv_iload_n hx hb dX12_openOf_2 rfl (lv_at hl 0 rfl) ?_
      refine lv_aload_n hx hb dX12_openOf_3 rfl (lv_at hl 1 rfl) ?_
      refine va_get (D := (dC, dI)) (ci := 12) (v := .int (v 19)) (C := RX12) (T := TX12) (N := 63) hx hb hwd inA_X12 hown hK hP 0 rfl rfl 19 (by decide) (hwd _ wk_494) (fun _ h9 => h9) rfl dX12_openOf_4 ?_
      have t5764 : 0 ≤ (v 19).toInt ∧ (v 19).toInt ≤ 500 := hI.1 19 _ _ rfl
      refine lv_icmp_ge (tgt := 39) hx hb dX12_openOf_7 (by decide) (fun c5765 => ?_) (fun c5765 => ?_)
      · skip
        have t5766 := cv_le (a := (v 19).toInt) rfl (b := x2_lp5761.toInt) rfl c5765
        refine lv_iconst (v := (-1)) hx hb dX12_openOf_39 (by decide) ?_
        have hP9 : va_P (dC, dI) classes (wM g c v F rc) H := hP
        exact W.iret (v := (-1)) hx hb hr (fun t ht hW => ⟨⟨(-1), (), rfl, (Or.inr ⟨by decide, fun s hs => t5763 s (by omega)⟩), (by show va_P _ _ _ t.heap; rw [ht]; exact hP9)⟩, hS.F ht⟩) hS.2.2 dX12_openOf_40
      · skip
        have t5767 := cv_nle (a := (v 19).toInt) rfl (b := x2_lp5761.toInt) rfl c5765
        refine lv_aload_n hx hb dX12_openOf_10 rfl (lv_at hl 1 rfl) ?_
        refine va_get (D := (dC, dI)) (ci := 12) (v := .ref (g 15)) (C := RX12) (T := TX12) (N := 63) hx hb hwd inA_X12 hown hK hP 0 rfl rfl 20 (by decide) (hwd _ wk_196) (fun _ h9 => h9) rfl dX12_openOf_11 ?_
        refine lv_iload_n hx hb dX12_openOf_14 rfl (lv_at hl 0 rfl) ?_
        refine va_iald hx hb hK hP 15 14 rfl rfl (i := x2_lp5761) (vin (a := x2_lp5761.toInt) rfl (by omega)) dX12_openOf_15 ?_
        refine lv_topi (fun z5768 e5769 => ?_)
        have t5770 : 0 ≤ z5768.toInt ∧ z5768.toInt ≤ 99 := by rw [e5769]; exact hI.2 15 _ _ rfl _
        have tzz5768 : z5768.toInt = (F 15 (x2_lp5761 : Int32).toNatClampNeg).toInt := congrArg Int32.toInt e5769
        refine lv_iload_n hx hb dX12_openOf_16 rfl (lv_at hl 2 rfl) ?_
        refine lv_icmp_ne (tgt := 33) hx hb dX12_openOf_17 (by decide) (fun c5771 => ?_) (fun c5771 => ?_)
        · skip
          have t5772 := cv_ne (a := z5768.toInt) rfl (b := p0.toInt) rfl c5771
          obtain ⟨z5773, e5774⟩ : ∃ y : Int32, y = x2_lp5761 + 1 := ⟨_, rfl⟩
          try (have t5775 := tadd e5774 rfl (b := 1) (by decide) (by omega))
          refine lv_iinc (v := z5773) (lv' := [(2, .int z5773), (0, .ref (g 0)), (1, .int p0)]) hx hb dX12_openOf_33 hl (k := 0) rfl (by rw [e5774]; rfl) (by decide) rfl (fun ls hl => ?_)
          refine lv_goto (tgt := 2) hx hb dX12_openOf_36 (by decide) ?_
          exact ih_lp5761 z5773  _ _ _ (by omega) (all_step (x := x2_lp5761) (P := fun s => ¬ ((F 15 s).toInt = p0.toInt ∧ (F 18 s).toInt = 1000000)) (by omega) t5763 (by show ¬ ((F 15 x2_lp5761.toNatClampNeg).toInt = p0.toInt ∧ (F 18 x2_lp5761.toNatClampNeg).toInt = 1000000); omega)) (by omega) hP hS (lv_sub hl [0, 1, 2] rfl)
        · skip
          have t5776 := cv_eq (a := z5768.toInt) rfl (b := p0.toInt) rfl c5771
          refine lv_aload_n hx hb dX12_openOf_20 rfl (lv_at hl 1 rfl) ?_
          refine va_get (D := (dC, dI)) (ci := 12) (v := .ref (g 18)) (C := RX12) (T := TX12) (N := 63) hx hb hwd inA_X12 hown hK hP 0 rfl rfl 23 (by decide) (hwd _ wk_199) (fun _ h9 => h9) rfl dX12_openOf_21 ?_
          refine lv_iload_n hx hb dX12_openOf_24 rfl (lv_at hl 0 rfl) ?_
          refine va_iald hx hb hK hP 18 17 rfl rfl (i := x2_lp5761) (vin (a := x2_lp5761.toInt) rfl (by omega)) dX12_openOf_25 ?_
          refine lv_topi (fun z5777 e5778 => ?_)
          have tzz5777 : z5777.toInt = (F 18 (x2_lp5761 : Int32).toNatClampNeg).toInt := congrArg Int32.toInt e5778
          refine lv_ldc (v := 1000000) hx hb hown (hwd _ wk_500) dX12_openOf_26 ?_
          refine lv_icmp_ne (tgt := 33) hx hb dX12_openOf_28 (by decide) (fun c5779 => ?_) (fun c5779 => ?_)
          · skip
            have t5780 := cv_ne (a := z5777.toInt) rfl (b := 1000000) (by decide) c5779
            obtain ⟨z5781, e5782⟩ : ∃ y : Int32, y = x2_lp5761 + 1 := ⟨_, rfl⟩
            try (have t5783 := tadd e5782 rfl (b := 1) (by decide) (by omega))
            refine lv_iinc (v := z5781) (lv' := [(2, .int z5781), (0, .ref (g 0)), (1, .int p0)]) hx hb dX12_openOf_33 hl (k := 0) rfl (by rw [e5782]; rfl) (by decide) rfl (fun ls hl => ?_)
            refine lv_goto (tgt := 2) hx hb dX12_openOf_36 (by decide) ?_
            exact ih_lp5761 z5781  _ _ _ (by omega) (all_step (x := x2_lp5761) (P := fun s => ¬ ((F 15 s).toInt = p0.toInt ∧ (F 18 s).toInt = 1000000)) (by omega) t5763 (by show ¬ ((F 15 x2_lp5761.toNatClampNeg).toInt = p0.toInt ∧ (F 18 x2_lp5761.toNatClampNeg).toInt = 1000000); omega)) (by omega) hP hS (lv_sub hl [0, 1, 2] rfl)
          · skip
            have t5784 := cv_eq (a := z5777.toInt) rfl (b := 1000000) (by decide) c5779
            refine lv_iload_n hx hb dX12_openOf_31 rfl (lv_at hl 0 rfl) ?_
            have hP9 : va_P (dC, dI) classes (wM g c v F rc) H := hP
            exact W.iret (v := x2_lp5761) hx hb hr (fun t ht hW => ⟨⟨x2_lp5761, (), rfl, (Or.inl (by omega)), (by show va_P _ _ _ t.heap; rw [ht]; exact hP9)⟩, hS.F ht⟩) hS.2.2 dX12_openOf_32
  obtain ⟨n9, hn9⟩ : ∃ n : Nat, 2147483648 - 0 ≤ (n : Int) := ⟨((2147483648 - 0 : Int)).toNat, by omega⟩
  exact lp5761 n9 0  H _ ls (by have : (0 : Int32).toInt = 0 := (by decide); omega) (fun j h => absurd h (by have : (0 : Int32).toInt = 0 := (by decide); omega)) (by have : (0 : Int32).toInt = 0 := (by decide); omega) hP hS hl
set_option maxHeartbeats 8000000 in
set_option maxRecDepth 100000 in
theorem c_X12_endStay (l : Launch) (dC : Nat → ClassId) (dI : Nat → Nat → Nat) (g : Nat → Nat) (c : Nat → ClassId) (adK adV : Nat → Nat) (v : Nat → Int32) (F : Nat → Nat → Int32) (rc sz : Nat) (p0 : Int32) (hg : injM g) (hI : IM v F) (h0 : 0 ≤ p0.toInt ∧ p0.toInt ≤ 99) (hO : hasO (v 19) (F 15) (F 18) p0.toInt) : Met l yX12_endStay (Cond.code yX12_endStay cX12_endStay 3 none :: wA) ({ frames := 2, cells := 0, slots := 0, locals := 80 }) (va_Pc [.ref (g 0), .int p0] (PM dC dI g c adK adV v F rc sz)) (va_Qv (fun (u : StM) => IM u.1 u.2.1 ∧ u.2.2 = rc ∧ (∀ k, k ∉ ([] : List Nat) → u.1 k = v k) ∧ (∀ k, k ∉ ([18, 20, 22] : List Nat) → u.2.1 k = F k) ∧ (∀ j : Int, j ≠ p0.toInt → hasO (v 19) (F 15) (F 18) j → hasO (u.1 19) (u.2.1 15) (u.2.1 18) j)) (BM dC dI g c) (AM g sz)) 0 0 (AM g sz) := by
  refine Met.ofW (cc := cX12_endStay) (maxL := 3) (ret := none) (by decide) rfl ?_
  intro p e s m args below meth c0 s₁ B hml hv
  obtain ⟨rfl, hsz, hP, hK, hE⟩ := hv
  have hx := B.exec
  have hb := B.bytes
  have hr := B.returns
  have hts := atoms_spec (ws := Cond.code yX12_endStay cX12_endStay 3 none :: wA) B.pre
  have hwd : ∀ w ∈ wA, w.before _ s = true := fun w h => hts w (List.mem_cons_of_mem _ h)
  have hown : s.vm.findClass RX12 = some m.cls := findClass_of_methodNamed B.named
  have hlocks := B.notSynchronized
  subst hsz
  have hl := lv_entry ([.ref (g 0), .int p0]) (n := 3) (Nat.le_of_ble_eq_true rfl)
  rw [lg_entry_eq]
  generalize (lg_sl ([.ref (g 0), .int p0]) ++ List.replicate (3 - (lg_sl ([.ref (g 0), .int p0])).length) Slot.unset).toArray = ls at hl ⊢
  have hl : lv_has ls 3 [(0, .ref (g 0)), (1, .int p0)] := hl
  obtain ⟨H, eH⟩ : ∃ z, z = s.heap := ⟨_, rfl⟩
  have hP : va_P (dC, dI) classes (wM g c v F rc) H := by rw [eH]; exact hP
  have hS : va_S (AM g s.heap.size) s.heap H [] := by rw [eH]; exact va_S.rf
  refine my_heap eH ?_
  have hF : ∀ k, k ∉ ([18, 20, 22] : List Nat) → F k = F k := fun _ _ => rfl
  have rp0 := i32_rng p0
  have hb19 : 0 ≤ (v 19).toInt ∧ (v 19).toInt ≤ 500 := hI.1 19 _ _ rfl
  refine lv_aload_n hx hb dX12_endStay_0 rfl (lv_at hl 0 rfl) ?_
  refine lv_iload_n hx hb dX12_endStay_1 rfl (lv_at hl 1 rfl) ?_
  have t5810 : 0 ≤ (v 19).toInt ∧ (v 19).toInt ≤ 500 := hI.1 19 _ _ rfl
  refine va_calli (va_runV (As := [.int p0]) (rest := []) ⟨hx, hb, hml, hown, hwd⟩ (c_X12_openOf l dC dI g c adK adV v F rc H.size p0 hg hI ) (cwV 1 hwd (gV wk_639 wk_636 wk_637 wk_638 wk_5) rfl rfl rfl (by decide +kernel) ⟨Nat.le_of_ble_eq_true rfl, Nat.le_of_ble_eq_true rfl⟩) ⟨PM.blind, va_recv hK hP (ci := 12) (q0 := 0) rfl rfl, fun U hU hW => ⟨rfl, PM.at hK hE hP hS hU hW⟩⟩ rfl rfl hl.1 rfl (lv_room (Nat.le_of_ble_eq_true rfl)) dX12_endStay_2 ⟨Nat.le_of_ble_eq_true rfl, Nat.le_of_ble_eq_true rfl⟩) hS (fun q _ h => (freeM hS) q h) (freeM hS) (fun r5811 u t H1 locs ht hvm hw hB hz1 hk1 hS => ?_)
  unfold BM at hB
  rw [ht] at hB
  have hP : va_P (dC, dI) classes (wM g c v F rc) H1 := hB
  replace hw : ((0 ≤ r5811.toInt ∧ r5811.toInt < (v 19).toInt) ∧ ((F 15 r5811.toNatClampNeg).toInt = p0.toInt ∧ (F 18 r5811.toNatClampNeg).toInt = 1000000)) ∨ (r5811.toInt = -1 ∧ ∀ s : Nat, (s : Int) < (v 19).toInt → ¬ ((F 15 s).toInt = p0.toInt ∧ (F 18 s).toInt = 1000000)) := hw
  have hw_r5811 := hw
  clear hw
  clear hz1
  generalize H1 = H at hP hS ⊢
  have ho_r5811 := hw_r5811.elim id (fun h => absurd hO (no_hasO h.2))
  refine lv_istore_n (lv' := [(2, .int r5811), (0, .ref (g 0)), (1, .int p0)]) hx hb dX12_endStay_5 rfl hl (by decide) rfl (fun ls hl => ?_)
  refine lv_aload_n hx hb dX12_endStay_6 rfl (lv_at hl 1 rfl) ?_
  refine va_get (D := (dC, dI)) (ci := 12) (v := .ref (g 18)) (C := RX12) (T := TX12) (N := 63) hx hb hwd inA_X12 hown hK hP 0 rfl rfl 23 (by decide) (hwd _ wk_199) (fun _ h9 => h9) rfl dX12_endStay_7 ?_
  refine lv_iload_n hx hb dX12_endStay_10 rfl (lv_at hl 0 rfl) ?_
  refine lv_aload_n hx hb dX12_endStay_11 rfl (lv_at hl 1 rfl) ?_
  refine va_get (D := (dC, dI)) (ci := 12) (v := .int (v 1)) (C := RX12) (T := TX12) (N := 63) hx hb hwd inA_X12 hown hK hP 0 rfl rfl 1 (by decide) (hwd _ wk_332) (fun _ h9 => h9) rfl dX12_endStay_12 ?_
  have t5812 : 0 ≤ (v 1).toInt ∧ (v 1).toInt ≤ 9999 := hI.1 1 _ _ rfl
  refine va_iast hx hb hK hP (DM hg) hS 18 17 rfl rfl (i := r5811) (x := (v 1)) (vin (a := r5811.toInt) rfl (by omega)) dX12_endStay_15 (fun H locs hP _ hS => ?_)
  have hP := va_P_eq (sM_18 g c _ _ _ _) hP
  have hI := IM.store0 hI 18 (r5811 : Int32).toNatClampNeg (v 1) rfl
  have hF := frUF (k := 18) (f := upd (F 18) (r5811 : Int32).toNatClampNeg (v 1)) (by decide) hF
  have st5814 : (va_up F 18 (upd (F 18) (r5811 : Int32).toNatClampNeg (v 1))) 18 = upd (F 18) (r5811 : Int32).toNatClampNeg (v 1) := va_up_self _ _ _
  have sn5815 : ∀ k9, k9 ≠ 18 → (va_up F 18 (upd (F 18) (r5811 : Int32).toNatClampNeg (v 1))) k9 = F k9 := fun k9 h9 => va_up_ne _ _ h9
  have hP : va_P (dC, dI) classes (wM g c v (va_up F 18 (upd (F 18) (r5811 : Int32).toNatClampNeg (v 1))) rc) H := hP
  generalize (va_up F 18 (upd (F 18) (r5811 : Int32).toNatClampNeg (v 1))) = F5813 at hP hI hF st5814 sn5815
  refine lv_aload_n hx hb dX12_endStay_16 rfl (lv_at hl 1 rfl) ?_
  refine va_get (D := (dC, dI)) (ci := 12) (v := .ref (g 20)) (C := RX12) (T := TX12) (N := 63) hx hb hwd inA_X12 hown hK hP 0 rfl rfl 25 (by decide) (hwd _ wk_201) (fun _ h9 => h9) rfl dX12_endStay_17 ?_
  refine lv_iload_n hx hb dX12_endStay_20 rfl (lv_at hl 0 rfl) ?_
  refine lv_aload_n hx hb dX12_endStay_21 rfl (lv_at hl 1 rfl) ?_
  refine va_get (D := (dC, dI)) (ci := 12) (v := .ref (g 14)) (C := RX12) (T := TX12) (N := 63) hx hb hwd inA_X12 hown hK hP 0 rfl rfl 18 (by decide) (hwd _ wk_195) (fun _ h9 => h9) rfl dX12_endStay_22 ?_
  refine lv_iconst (v := 3) hx hb dX12_endStay_25 (by decide) ?_
  refine lv_iload_n hx hb dX12_endStay_26 rfl (lv_at hl 2 rfl) ?_
  refine lv_imul hx hb dX12_endStay_27 ?_
  refine lv_topi (fun z5816 e5817 => ?_)
  try (have t5818 := tmul e5817 (a := 3) (by decide) (b := p0.toInt) rfl (by omega))
  refine va_iald hx hb hK hP 14 13 rfl rfl (i := z5816) (vin (a := z5816.toInt) rfl (by omega)) dX12_endStay_28 ?_
  refine lv_topi (fun z5819 e5820 => ?_)
  have e5820 : z5819 = F 14 (z5816 : Int32).toNatClampNeg := e5820.trans (congrFun (hF 14 (by decide)) _)
  have tzz5819 : z5819.toInt = (F 14 (z5816 : Int32).toNatClampNeg).toInt := congrArg Int32.toInt e5820
  refine va_iast hx hb hK hP (DM hg) hS 20 19 rfl rfl (i := r5811) (x := z5819) (vin (a := r5811.toInt) rfl (by omega)) dX12_endStay_29 (fun H locs hP _ hS => ?_)
  have hP := va_P_eq (sM_20 g c _ _ _ _) hP
  have hI := IM.store0 hI 20 (r5811 : Int32).toNatClampNeg z5819 rfl
  have hF := frUF (k := 20) (f := upd (F5813 20) (r5811 : Int32).toNatClampNeg z5819) (by decide) hF
  have st5822 : (va_up F5813 20 (upd (F5813 20) (r5811 : Int32).toNatClampNeg z5819)) 20 = upd (F5813 20) (r5811 : Int32).toNatClampNeg z5819 := va_up_self _ _ _
  have sn5823 : ∀ k9, k9 ≠ 20 → (va_up F5813 20 (upd (F5813 20) (r5811 : Int32).toNatClampNeg z5819)) k9 = F5813 k9 := fun k9 h9 => va_up_ne _ _ h9
  have hP : va_P (dC, dI) classes (wM g c v (va_up F5813 20 (upd (F5813 20) (r5811 : Int32).toNatClampNeg z5819)) rc) H := hP
  generalize (va_up F5813 20 (upd (F5813 20) (r5811 : Int32).toNatClampNeg z5819)) = F5821 at hP hI hF st5822 sn5823
  refine lv_aload_n hx hb dX12_endStay_30 rfl (lv_at hl 1 rfl) ?_
  refine va_get (D := (dC, dI)) (ci := 12) (v := .ref (g 22)) (C := RX12) (T := TX12) (N := 63) hx hb hwd inA_X12 hown hK hP 0 rfl rfl 27 (by decide) (hwd _ wk_203) (fun _ h9 => h9) rfl dX12_endStay_31 ?_
  refine lv_iload_n hx hb dX12_endStay_34 rfl (lv_at hl 0 rfl) ?_
  refine lv_aload_n hx hb dX12_endStay_35 rfl (lv_at hl 1 rfl) ?_
  refine va_get (D := (dC, dI)) (ci := 12) (v := .ref (g 14)) (C := RX12) (T := TX12) (N := 63) hx hb hwd inA_X12 hown hK hP 0 rfl rfl 18 (by decide) (hwd _ wk_195) (fun _ h9 => h9) rfl dX12_endStay_36 ?_
  refine lv_iconst (v := 3) hx hb dX12_endStay_39 (by decide) ?_
  refine lv_iload_n hx hb dX12_endStay_40 rfl (lv_at hl 2 rfl) ?_
  refine lv_imul hx hb dX12_endStay_41 ?_
  refine lv_topi (fun z5824 e5825 => ?_)
  try (have t5826 := tmul e5825 (a := 3) (by decide) (b := p0.toInt) rfl (by omega))
  refine lv_iconst (v := 1) hx hb dX12_endStay_42 (by decide) ?_
  refine lv_iadd hx hb dX12_endStay_43 ?_
  refine lv_topi (fun z5827 e5828 => ?_)
  try (have t5829 := tadd e5828 (a := z5824.toInt) rfl (b := 1) (by decide) (by omega))
  refine va_iald hx hb hK hP 14 13 rfl rfl (i := z5827) (vin (a := z5827.toInt) rfl (by omega)) dX12_endStay_44 ?_
  refine lv_topi (fun z5830 e5831 => ?_)
  have e5831 : z5830 = F 14 (z5827 : Int32).toNatClampNeg := e5831.trans (congrFun (hF 14 (by decide)) _)
  have tzz5830 : z5830.toInt = (F 14 (z5827 : Int32).toNatClampNeg).toInt := congrArg Int32.toInt e5831
  refine va_iast hx hb hK hP (DM hg) hS 22 21 rfl rfl (i := r5811) (x := z5830) (vin (a := r5811.toInt) rfl (by omega)) dX12_endStay_45 (fun H locs hP _ hS => ?_)
  have hP := va_P_eq (sM_22 g c _ _ _ _) hP
  have hI := IM.store0 hI 22 (r5811 : Int32).toNatClampNeg z5830 rfl
  have hF := frUF (k := 22) (f := upd (F5821 22) (r5811 : Int32).toNatClampNeg z5830) (by decide) hF
  have st5833 : (va_up F5821 22 (upd (F5821 22) (r5811 : Int32).toNatClampNeg z5830)) 22 = upd (F5821 22) (r5811 : Int32).toNatClampNeg z5830 := va_up_self _ _ _
  have sn5834 : ∀ k9, k9 ≠ 22 → (va_up F5821 22 (upd (F5821 22) (r5811 : Int32).toNatClampNeg z5830)) k9 = F5821 k9 := fun k9 h9 => va_up_ne _ _ h9
  have hP : va_P (dC, dI) classes (wM g c v (va_up F5821 22 (upd (F5821 22) (r5811 : Int32).toNatClampNeg z5830)) rc) H := hP
  generalize (va_up F5821 22 (upd (F5821 22) (r5811 : Int32).toNatClampNeg z5830)) = F5832 at hP hI hF st5833 sn5834
  have hP9 : va_P (dC, dI) classes (wM g c v F5832 rc) H := hP
  exact W.vret hx hb hr (fun t ht hW => ⟨⟨(v, F5832, rc), rfl, ⟨hI, rfl, (fun _ _ => rfl), hF, (fun j hj h => end_has ho_r5811.2.1 ((sn5834 15 (by decide)).trans ((sn5823 15 (by decide)).trans (sn5815 15 (by decide)))) ((sn5834 18 (by decide)).trans ((sn5823 18 (by decide)).trans st5814)) j hj h)⟩, (by show va_P _ _ _ t.heap; rw [ht]; exact hP9)⟩, hS.F ht⟩) hS.2.2 dX12_endStay_46
set_option maxHeartbeats 8000000 in
set_option maxRecDepth 100000 in
theorem c_X12_begin (l : Launch) (dC : Nat → ClassId) (dI : Nat → Nat → Nat) (g : Nat → Nat) (c : Nat → ClassId) (adK adV : Nat → Nat) (v : Nat → Int32) (F : Nat → Nat → Int32) (rc sz : Nat) (p0 : Int32) (p1 : Int32) (hg : injM g) (hI : IM v F) (h0 : 0 ≤ p0.toInt ∧ p0.toInt ≤ 99) (h1 : 0 ≤ p1.toInt ∧ p1.toInt ≤ 11) (hq0 : (v 19).toInt ≤ 499) : Met l yX12_begin (Cond.code yX12_begin cX12_begin 3 none :: wA) ({ frames := 1, cells := 0, slots := 0, locals := 40 }) (va_Pc [.ref (g 0), .int p0, .int p1] (PM dC dI g c adK adV v F rc sz)) (va_Qv (fun (u : StM) => IM u.1 u.2.1 ∧ u.2.2 = rc ∧ (∀ k, k ∉ ([19] : List Nat) → u.1 k = v k) ∧ (∀ k, k ∉ ([13, 15, 16, 17, 18, 19, 21, 23] : List Nat) → u.2.1 k = F k) ∧ ((u.1 19).toInt = (v 19).toInt + 1 ∧ (u.2.1 13 = upd (F 13) p0.toNatClampNeg p1) ∧ (∀ j : Int, (j = p0.toInt ∨ hasO (v 19) (F 15) (F 18) j) → hasO (u.1 19) (u.2.1 15) (u.2.1 18) j))) (BM dC dI g c) (AM g sz)) 0 0 (AM g sz) := by
  refine Met.ofW (cc := cX12_begin) (maxL := 3) (ret := none) (by decide) rfl ?_
  intro p e s m args below meth c0 s₁ B hml hv
  obtain ⟨rfl, hsz, hP, hK, hE⟩ := hv
  have hx := B.exec
  have hb := B.bytes
  have hr := B.returns
  have hts := atoms_spec (ws := Cond.code yX12_begin cX12_begin 3 none :: wA) B.pre
  have hwd : ∀ w ∈ wA, w.before _ s = true := fun w h => hts w (List.mem_cons_of_mem _ h)
  have hown : s.vm.findClass RX12 = some m.cls := findClass_of_methodNamed B.named
  have hlocks := B.notSynchronized
  subst hsz
  have hl := lv_entry ([.ref (g 0), .int p0, .int p1]) (n := 3) (Nat.le_of_ble_eq_true rfl)
  rw [lg_entry_eq]
  generalize (lg_sl ([.ref (g 0), .int p0, .int p1]) ++ List.replicate (3 - (lg_sl ([.ref (g 0), .int p0, .int p1])).length) Slot.unset).toArray = ls at hl ⊢
  have hl : lv_has ls 3 [(0, .ref (g 0)), (1, .int p0), (2, .int p1)] := hl
  obtain ⟨H, eH⟩ : ∃ z, z = s.heap := ⟨_, rfl⟩
  have hP : va_P (dC, dI) classes (wM g c v F rc) H := by rw [eH]; exact hP
  have hS : va_S (AM g s.heap.size) s.heap H [] := by rw [eH]; exact va_S.rf
  refine my_heap eH ?_
  have hF : ∀ k, k ∉ ([13, 15, 16, 17, 18, 19, 21, 23] : List Nat) → F k = F k := fun _ _ => rfl
  have rp0 := i32_rng p0
  have rp1 := i32_rng p1
  refine lv_aload_n hx hb dX12_begin_0 rfl (lv_at hl 0 rfl) ?_
  refine va_get (D := (dC, dI)) (ci := 12) (v := .ref (g 15)) (C := RX12) (T := TX12) (N := 63) hx hb hwd inA_X12 hown hK hP 0 rfl rfl 20 (by decide) (hwd _ wk_196) (fun _ h9 => h9) rfl dX12_begin_1 ?_
  refine lv_aload_n hx hb dX12_begin_4 rfl (lv_at hl 0 rfl) ?_
  refine va_get (D := (dC, dI)) (ci := 12) (v := .int (v 19)) (C := RX12) (T := TX12) (N := 63) hx hb hwd inA_X12 hown hK hP 0 rfl rfl 19 (by decide) (hwd _ wk_494) (fun _ h9 => h9) rfl dX12_begin_5 ?_
  have t5884 : 0 ≤ (v 19).toInt ∧ (v 19).toInt ≤ 500 := hI.1 19 _ _ rfl
  refine lv_iload_n hx hb dX12_begin_8 rfl (lv_at hl 1 rfl) ?_
  refine va_iast hx hb hK hP (DM hg) hS 15 14 rfl rfl (i := (v 19)) (x := p0) (vin (a := (v 19).toInt) rfl (by omega)) dX12_begin_9 (fun H locs hP _ hS => ?_)
  have hP := va_P_eq (sM_15 g c _ _ _ _) hP
  have hI := IM.store hI 15 (v 19 : Int32).toNatClampNeg p0 rfl (by omega)
  have hF := frUF (k := 15) (f := upd (F 15) (v 19 : Int32).toNatClampNeg p0) (by decide) hF
  have st5886 : (va_up F 15 (upd (F 15) (v 19 : Int32).toNatClampNeg p0)) 15 = upd (F 15) (v 19 : Int32).toNatClampNeg p0 := va_up_self _ _ _
  have sn5887 : ∀ k9, k9 ≠ 15 → (va_up F 15 (upd (F 15) (v 19 : Int32).toNatClampNeg p0)) k9 = F k9 := fun k9 h9 => va_up_ne _ _ h9
  have hP : va_P (dC, dI) classes (wM g c v (va_up F 15 (upd (F 15) (v 19 : Int32).toNatClampNeg p0)) rc) H := hP
  generalize (va_up F 15 (upd (F 15) (v 19 : Int32).toNatClampNeg p0)) = F5885 at hP hI hF st5886 sn5887
  refine lv_aload_n hx hb dX12_begin_10 rfl (lv_at hl 0 rfl) ?_
  refine va_get (D := (dC, dI)) (ci := 12) (v := .ref (g 16)) (C := RX12) (T := TX12) (N := 63) hx hb hwd inA_X12 hown hK hP 0 rfl rfl 21 (by decide) (hwd _ wk_197) (fun _ h9 => h9) rfl dX12_begin_11 ?_
  refine lv_aload_n hx hb dX12_begin_14 rfl (lv_at hl 0 rfl) ?_
  refine va_get (D := (dC, dI)) (ci := 12) (v := .int (v 19)) (C := RX12) (T := TX12) (N := 63) hx hb hwd inA_X12 hown hK hP 0 rfl rfl 19 (by decide) (hwd _ wk_494) (fun _ h9 => h9) rfl dX12_begin_15 ?_
  have t5888 : 0 ≤ (v 19).toInt ∧ (v 19).toInt ≤ 500 := hI.1 19 _ _ rfl
  refine lv_iload_n hx hb dX12_begin_18 rfl (lv_at hl 2 rfl) ?_
  refine va_iast hx hb hK hP (DM hg) hS 16 15 rfl rfl (i := (v 19)) (x := p1) (vin (a := (v 19).toInt) rfl (by omega)) dX12_begin_19 (fun H locs hP _ hS => ?_)
  have hP := va_P_eq (sM_16 g c _ _ _ _) hP
  have hI := IM.store hI 16 (v 19 : Int32).toNatClampNeg p1 rfl (by omega)
  have hF := frUF (k := 16) (f := upd (F5885 16) (v 19 : Int32).toNatClampNeg p1) (by decide) hF
  have st5890 : (va_up F5885 16 (upd (F5885 16) (v 19 : Int32).toNatClampNeg p1)) 16 = upd (F5885 16) (v 19 : Int32).toNatClampNeg p1 := va_up_self _ _ _
  have sn5891 : ∀ k9, k9 ≠ 16 → (va_up F5885 16 (upd (F5885 16) (v 19 : Int32).toNatClampNeg p1)) k9 = F5885 k9 := fun k9 h9 => va_up_ne _ _ h9
  have hP : va_P (dC, dI) classes (wM g c v (va_up F5885 16 (upd (F5885 16) (v 19 : Int32).toNatClampNeg p1)) rc) H := hP
  generalize (va_up F5885 16 (upd (F5885 16) (v 19 : Int32).toNatClampNeg p1)) = F5889 at hP hI hF st5890 sn5891
  refine lv_aload_n hx hb dX12_begin_20 rfl (lv_at hl 0 rfl) ?_
  refine va_get (D := (dC, dI)) (ci := 12) (v := .ref (g 17)) (C := RX12) (T := TX12) (N := 63) hx hb hwd inA_X12 hown hK hP 0 rfl rfl 22 (by decide) (hwd _ wk_198) (fun _ h9 => h9) rfl dX12_begin_21 ?_
  refine lv_aload_n hx hb dX12_begin_24 rfl (lv_at hl 0 rfl) ?_
  refine va_get (D := (dC, dI)) (ci := 12) (v := .int (v 19)) (C := RX12) (T := TX12) (N := 63) hx hb hwd inA_X12 hown hK hP 0 rfl rfl 19 (by decide) (hwd _ wk_494) (fun _ h9 => h9) rfl dX12_begin_25 ?_
  have t5892 : 0 ≤ (v 19).toInt ∧ (v 19).toInt ≤ 500 := hI.1 19 _ _ rfl
  refine lv_aload_n hx hb dX12_begin_28 rfl (lv_at hl 0 rfl) ?_
  refine va_get (D := (dC, dI)) (ci := 12) (v := .int (v 1)) (C := RX12) (T := TX12) (N := 63) hx hb hwd inA_X12 hown hK hP 0 rfl rfl 1 (by decide) (hwd _ wk_332) (fun _ h9 => h9) rfl dX12_begin_29 ?_
  have t5893 : 0 ≤ (v 1).toInt ∧ (v 1).toInt ≤ 9999 := hI.1 1 _ _ rfl
  refine va_iast hx hb hK hP (DM hg) hS 17 16 rfl rfl (i := (v 19)) (x := (v 1)) (vin (a := (v 19).toInt) rfl (by omega)) dX12_begin_32 (fun H locs hP _ hS => ?_)
  have hP := va_P_eq (sM_17 g c _ _ _ _) hP
  have hI := IM.store0 hI 17 (v 19 : Int32).toNatClampNeg (v 1) rfl
  have hF := frUF (k := 17) (f := upd (F5889 17) (v 19 : Int32).toNatClampNeg (v 1)) (by decide) hF
  have st5895 : (va_up F5889 17 (upd (F5889 17) (v 19 : Int32).toNatClampNeg (v 1))) 17 = upd (F5889 17) (v 19 : Int32).toNatClampNeg (v 1) := va_up_self _ _ _
  have sn5896 : ∀ k9, k9 ≠ 17 → (va_up F5889 17 (upd (F5889 17) (v 19 : Int32).toNatClampNeg (v 1))) k9 = F5889 k9 := fun k9 h9 => va_up_ne _ _ h9
  have hP : va_P (dC, dI) classes (wM g c v (va_up F5889 17 (upd (F5889 17) (v 19 : Int32).toNatClampNeg (v 1))) rc) H := hP
  generalize (va_up F5889 17 (upd (F5889 17) (v 19 : Int32).toNatClampNeg (v 1))) = F5894 at hP hI hF st5895 sn5896
  refine lv_aload_n hx hb dX12_begin_33 rfl (lv_at hl 0 rfl) ?_
  refine va_get (D := (dC, dI)) (ci := 12) (v := .ref (g 18)) (C := RX12) (T := TX12) (N := 63) hx hb hwd inA_X12 hown hK hP 0 rfl rfl 23 (by decide) (hwd _ wk_199) (fun _ h9 => h9) rfl dX12_begin_34 ?_
  refine lv_aload_n hx hb dX12_begin_37 rfl (lv_at hl 0 rfl) ?_
  refine va_get (D := (dC, dI)) (ci := 12) (v := .int (v 19)) (C := RX12) (T := TX12) (N := 63) hx hb hwd inA_X12 hown hK hP 0 rfl rfl 19 (by decide) (hwd _ wk_494) (fun _ h9 => h9) rfl dX12_begin_38 ?_
  have t5897 : 0 ≤ (v 19).toInt ∧ (v 19).toInt ≤ 500 := hI.1 19 _ _ rfl
  refine lv_ldc (v := 1000000) hx hb hown (hwd _ wk_500) dX12_begin_41 ?_
  refine va_iast hx hb hK hP (DM hg) hS 18 17 rfl rfl (i := (v 19)) (x := 1000000) (vin (a := (v 19).toInt) rfl (by omega)) dX12_begin_43 (fun H locs hP _ hS => ?_)
  have hP := va_P_eq (sM_18 g c _ _ _ _) hP
  have hI := IM.store0 hI 18 (v 19 : Int32).toNatClampNeg 1000000 rfl
  have hF := frUF (k := 18) (f := upd (F5894 18) (v 19 : Int32).toNatClampNeg 1000000) (by decide) hF
  have st5899 : (va_up F5894 18 (upd (F5894 18) (v 19 : Int32).toNatClampNeg 1000000)) 18 = upd (F5894 18) (v 19 : Int32).toNatClampNeg 1000000 := va_up_self _ _ _
  have sn5900 : ∀ k9, k9 ≠ 18 → (va_up F5894 18 (upd (F5894 18) (v 19 : Int32).toNatClampNeg 1000000)) k9 = F5894 k9 := fun k9 h9 => va_up_ne _ _ h9
  have hP : va_P (dC, dI) classes (wM g c v (va_up F5894 18 (upd (F5894 18) (v 19 : Int32).toNatClampNeg 1000000)) rc) H := hP
  generalize (va_up F5894 18 (upd (F5894 18) (v 19 : Int32).toNatClampNeg 1000000)) = F5898 at hP hI hF st5899 sn5900
  refine lv_aload_n hx hb dX12_begin_44 rfl (lv_at hl 0 rfl) ?_
  refine va_get (D := (dC, dI)) (ci := 12) (v := .ref (g 19)) (C := RX12) (T := TX12) (N := 63) hx hb hwd inA_X12 hown hK hP 0 rfl rfl 24 (by decide) (hwd _ wk_200) (fun _ h9 => h9) rfl dX12_begin_45 ?_
  refine lv_aload_n hx hb dX12_begin_48 rfl (lv_at hl 0 rfl) ?_
  refine va_get (D := (dC, dI)) (ci := 12) (v := .int (v 19)) (C := RX12) (T := TX12) (N := 63) hx hb hwd inA_X12 hown hK hP 0 rfl rfl 19 (by decide) (hwd _ wk_494) (fun _ h9 => h9) rfl dX12_begin_49 ?_
  have t5901 : 0 ≤ (v 19).toInt ∧ (v 19).toInt ≤ 500 := hI.1 19 _ _ rfl
  refine lv_aload_n hx hb dX12_begin_52 rfl (lv_at hl 0 rfl) ?_
  refine va_get (D := (dC, dI)) (ci := 12) (v := .ref (g 14)) (C := RX12) (T := TX12) (N := 63) hx hb hwd inA_X12 hown hK hP 0 rfl rfl 18 (by decide) (hwd _ wk_195) (fun _ h9 => h9) rfl dX12_begin_53 ?_
  refine lv_iconst (v := 3) hx hb dX12_begin_56 (by decide) ?_
  refine lv_iload_n hx hb dX12_begin_57 rfl (lv_at hl 1 rfl) ?_
  refine lv_imul hx hb dX12_begin_58 ?_
  refine lv_topi (fun z5902 e5903 => ?_)
  try (have t5904 := tmul e5903 (a := 3) (by decide) (b := p0.toInt) rfl (by omega))
  refine va_iald hx hb hK hP 14 13 rfl rfl (i := z5902) (vin (a := z5902.toInt) rfl (by omega)) dX12_begin_59 ?_
  refine lv_topi (fun z5905 e5906 => ?_)
  have e5906 : z5905 = F 14 (z5902 : Int32).toNatClampNeg := e5906.trans (congrFun (hF 14 (by decide)) _)
  have tzz5905 : z5905.toInt = (F 14 (z5902 : Int32).toNatClampNeg).toInt := congrArg Int32.toInt e5906
  refine va_iast hx hb hK hP (DM hg) hS 19 18 rfl rfl (i := (v 19)) (x := z5905) (vin (a := (v 19).toInt) rfl (by omega)) dX12_begin_60 (fun H locs hP _ hS => ?_)
  have hP := va_P_eq (sM_19 g c _ _ _ _) hP
  have hI := IM.store0 hI 19 (v 19 : Int32).toNatClampNeg z5905 rfl
  have hF := frUF (k := 19) (f := upd (F5898 19) (v 19 : Int32).toNatClampNeg z5905) (by decide) hF
  have st5908 : (va_up F5898 19 (upd (F5898 19) (v 19 : Int32).toNatClampNeg z5905)) 19 = upd (F5898 19) (v 19 : Int32).toNatClampNeg z5905 := va_up_self _ _ _
  have sn5909 : ∀ k9, k9 ≠ 19 → (va_up F5898 19 (upd (F5898 19) (v 19 : Int32).toNatClampNeg z5905)) k9 = F5898 k9 := fun k9 h9 => va_up_ne _ _ h9
  have hP : va_P (dC, dI) classes (wM g c v (va_up F5898 19 (upd (F5898 19) (v 19 : Int32).toNatClampNeg z5905)) rc) H := hP
  generalize (va_up F5898 19 (upd (F5898 19) (v 19 : Int32).toNatClampNeg z5905)) = F5907 at hP hI hF st5908 sn5909
  refine lv_aload_n hx hb dX12_begin_61 rfl (lv_at hl 0 rfl) ?_
  refine va_get (D := (dC, dI)) (ci := 12) (v := .ref (g 21)) (C := RX12) (T := TX12) (N := 63) hx hb hwd inA_X12 hown hK hP 0 rfl rfl 26 (by decide) (hwd _ wk_202) (fun _ h9 => h9) rfl dX12_begin_62 ?_
  refine lv_aload_n hx hb dX12_begin_65 rfl (lv_at hl 0 rfl) ?_
  refine va_get (D := (dC, dI)) (ci := 12) (v := .int (v 19)) (C := RX12) (T := TX12) (N := 63) hx hb hwd inA_X12 hown hK hP 0 rfl rfl 19 (by decide) (hwd _ wk_494) (fun _ h9 => h9) rfl dX12_begin_66 ?_
  have t5910 : 0 ≤ (v 19).toInt ∧ (v 19).toInt ≤ 500 := hI.1 19 _ _ rfl
  refine lv_aload_n hx hb dX12_begin_69 rfl (lv_at hl 0 rfl) ?_
  refine va_get (D := (dC, dI)) (ci := 12) (v := .ref (g 14)) (C := RX12) (T := TX12) (N := 63) hx hb hwd inA_X12 hown hK hP 0 rfl rfl 18 (by decide) (hwd _ wk_195) (fun _ h9 => h9) rfl dX12_begin_70 ?_
  refine lv_iconst (v := 3) hx hb dX12_begin_73 (by decide) ?_
  refine lv_iload_n hx hb dX12_begin_74 rfl (lv_at hl 1 rfl) ?_
  refine lv_imul hx hb dX12_begin_75 ?_
  refine lv_topi (fun z5911 e5912 => ?_)
  try (have t5913 := tmul e5912 (a := 3) (by decide) (b := p0.toInt) rfl (by omega))
  refine lv_iconst (v := 1) hx hb dX12_begin_76 (by decide) ?_
  refine lv_iadd hx hb dX12_begin_77 ?_
  refine lv_topi (fun z5914 e5915 => ?_)
  try (have t5916 := tadd e5915 (a := z5911.toInt) rfl (b := 1) (by decide) (by omega))
  refine va_iald hx hb hK hP 14 13 rfl rfl (i := z5914) (vin (a := z5914.toInt) rfl (by omega)) dX12_begin_78 ?_
  refine lv_topi (fun z5917 e5918 => ?_)
  have e5918 : z5917 = F 14 (z5914 : Int32).toNatClampNeg := e5918.trans (congrFun (hF 14 (by decide)) _)
  have tzz5917 : z5917.toInt = (F 14 (z5914 : Int32).toNatClampNeg).toInt := congrArg Int32.toInt e5918
  refine va_iast hx hb hK hP (DM hg) hS 21 20 rfl rfl (i := (v 19)) (x := z5917) (vin (a := (v 19).toInt) rfl (by omega)) dX12_begin_79 (fun H locs hP _ hS => ?_)
  have hP := va_P_eq (sM_21 g c _ _ _ _) hP
  have hI := IM.store0 hI 21 (v 19 : Int32).toNatClampNeg z5917 rfl
  have hF := frUF (k := 21) (f := upd (F5907 21) (v 19 : Int32).toNatClampNeg z5917) (by decide) hF
  have st5920 : (va_up F5907 21 (upd (F5907 21) (v 19 : Int32).toNatClampNeg z5917)) 21 = upd (F5907 21) (v 19 : Int32).toNatClampNeg z5917 := va_up_self _ _ _
  have sn5921 : ∀ k9, k9 ≠ 21 → (va_up F5907 21 (upd (F5907 21) (v 19 : Int32).toNatClampNeg z5917)) k9 = F5907 k9 := fun k9 h9 => va_up_ne _ _ h9
  have hP : va_P (dC, dI) classes (wM g c v (va_up F5907 21 (upd (F5907 21) (v 19 : Int32).toNatClampNeg z5917)) rc) H := hP
  generalize (va_up F5907 21 (upd (F5907 21) (v 19 : Int32).toNatClampNeg z5917)) = F5919 at hP hI hF st5920 sn5921
  refine lv_aload_n hx hb dX12_begin_80 rfl (lv_at hl 0 rfl) ?_
  refine va_get (D := (dC, dI)) (ci := 12) (v := .ref (g 23)) (C := RX12) (T := TX12) (N := 63) hx hb hwd inA_X12 hown hK hP 0 rfl rfl 28 (by decide) (hwd _ wk_204) (fun _ h9 => h9) rfl dX12_begin_81 ?_
  refine lv_aload_n hx hb dX12_begin_84 rfl (lv_at hl 0 rfl) ?_
  refine va_get (D := (dC, dI)) (ci := 12) (v := .int (v 19)) (C := RX12) (T := TX12) (N := 63) hx hb hwd inA_X12 hown hK hP 0 rfl rfl 19 (by decide) (hwd _ wk_494) (fun _ h9 => h9) rfl dX12_begin_85 ?_
  have t5922 : 0 ≤ (v 19).toInt ∧ (v 19).toInt ≤ 500 := hI.1 19 _ _ rfl
  refine lv_iconst (v := 0) hx hb dX12_begin_88 (by decide) ?_
  refine va_zast hx hb hK hP (DM hg) hS 23 22 rfl rfl (i := (v 19)) (x := 0) (vin (a := (v 19).toInt) rfl (by omega)) dX12_begin_89 (fun H locs hP _ hS => ?_)
  have hP := va_P_eq (sM_23 g c _ _ _ _) hP
  have hI := IM.store0 hI 23 (v 19 : Int32).toNatClampNeg (vp_nar .boolean 0) rfl
  have hF := frUF (k := 23) (f := upd (F5919 23) (v 19 : Int32).toNatClampNeg (vp_nar .boolean 0)) (by decide) hF
  have st5924 : (va_up F5919 23 (upd (F5919 23) (v 19 : Int32).toNatClampNeg (vp_nar .boolean 0))) 23 = upd (F5919 23) (v 19 : Int32).toNatClampNeg (vp_nar .boolean 0) := va_up_self _ _ _
  have sn5925 : ∀ k9, k9 ≠ 23 → (va_up F5919 23 (upd (F5919 23) (v 19 : Int32).toNatClampNeg (vp_nar .boolean 0))) k9 = F5919 k9 := fun k9 h9 => va_up_ne _ _ h9
  have hP : va_P (dC, dI) classes (wM g c v (va_up F5919 23 (upd (F5919 23) (v 19 : Int32).toNatClampNeg (vp_nar .boolean 0))) rc) H := hP
  generalize (va_up F5919 23 (upd (F5919 23) (v 19 : Int32).toNatClampNeg (vp_nar .boolean 0))) = F5923 at hP hI hF st5924 sn5925
  refine lv_aload_n hx hb dX12_begin_90 rfl (lv_at hl 0 rfl) ?_
  refine lv_dup hx hb dX12_begin_91 rfl ?_
  refine va_get (D := (dC, dI)) (ci := 12) (v := .int (v 19)) (C := RX12) (T := TX12) (N := 63) hx hb hwd inA_X12 hown hK hP 0 rfl rfl 19 (by decide) (hwd _ wk_494) (fun _ h9 => h9) rfl dX12_begin_92 ?_
  have t5926 : 0 ≤ (v 19).toInt ∧ (v 19).toInt ≤ 500 := hI.1 19 _ _ rfl
  refine lv_iconst (v := 1) hx hb dX12_begin_95 (by decide) ?_
  refine lv_iadd hx hb dX12_begin_96 ?_
  refine lv_topi (fun z5927 e5928 => ?_)
  try (have t5929 := tadd e5928 (a := (v 19).toInt) rfl (b := 1) (by decide) (by omega))
  refine va_put (D := (dC, dI)) (ci := 12) (v := .int z5927) (ty := .int) (C := RX12) (T := TX12) (N := 63) (fs := fsM_0 g v rc) hx hb hwd inA_X12 tyX12 tyX12_ok nmX12 hown hK hP (DM hg) hS 0 rfl rfl 19 (by decide) (hwd _ wk_494) (fun _ h9 => h9) rfl (by decide +kernel) rfl rfl (Nat.le_of_ble_eq_true rfl) dX12_begin_97 (fun H locs hP _ hS => ?_)
  have hP := va_P_eq (pM_19 g c _ _ _ _) hP
  have hI := IM.put hI 19 z5927 rfl (by omega)
  refine lv_aload_n hx hb dX12_begin_100 rfl (lv_at hl 0 rfl) ?_
  refine va_get (D := (dC, dI)) (ci := 12) (v := .ref (g 13)) (C := RX12) (T := TX12) (N := 63) hx hb hwd inA_X12 hown hK hP 0 rfl rfl 17 (by decide) (hwd _ wk_194) (fun _ h9 => h9) rfl dX12_begin_101 ?_
  refine lv_iload_n hx hb dX12_begin_104 rfl (lv_at hl 1 rfl) ?_
  refine lv_iload_n hx hb dX12_begin_105 rfl (lv_at hl 2 rfl) ?_
  refine va_iast hx hb hK hP (DM hg) hS 13 12 rfl rfl (i := p0) (x := p1) (vin (a := p0.toInt) rfl (by omega)) dX12_begin_106 (fun H locs hP _ hS => ?_)
  have hP := va_P_eq (sM_13 g c _ _ _ _) hP
  have hI := IM.store hI 13 (p0 : Int32).toNatClampNeg p1 rfl (by omega)
  have hF := frUF (k := 13) (f := upd (F5923 13) (p0 : Int32).toNatClampNeg p1) (by decide) hF
  have st5931 : (va_up F5923 13 (upd (F5923 13) (p0 : Int32).toNatClampNeg p1)) 13 = upd (F5923 13) (p0 : Int32).toNatClampNeg p1 := va_up_self _ _ _
  have sn5932 : ∀ k9, k9 ≠ 13 → (va_up F5923 13 (upd (F5923 13) (p0 : Int32).toNatClampNeg p1)) k9 = F5923 k9 := fun k9 h9 => va_up_ne _ _ h9
  have hP : va_P (dC, dI) classes (wM g c (va_up v 19 z5927) (va_up F5923 13 (upd (F5923 13) (p0 : Int32).toNatClampNeg p1)) rc) H := hP
  generalize (va_up F5923 13 (upd (F5923 13) (p0 : Int32).toNatClampNeg p1)) = F5930 at hP hI hF st5931 sn5932
  have hP9 : va_P (dC, dI) classes (wM g c (va_up v 19 z5927) F5930 rc) H := hP
  exact W.vret hx hb hr (fun t ht hW => ⟨⟨((va_up v 19 z5927), F5930, rc), rfl, ⟨hI, rfl, (frU (by decide) (fun _ _ => rfl)), hF, (have hn9 : z5927.toInt = (v 19).toInt + 1 := (by omega); ⟨hn9, (st5931.trans (congrArg (fun f => upd f (p0 : Int32).toNatClampNeg p1) ((sn5925 13 (by decide)).trans ((sn5921 13 (by decide)).trans ((sn5909 13 (by decide)).trans ((sn5900 13 (by decide)).trans ((sn5896 13 (by decide)).trans ((sn5891 13 (by decide)).trans (sn5887 13 (by decide)))))))))), begin_has hn9 (by omega) ((sn5932 15 (by decide)).trans ((sn5925 15 (by decide)).trans ((sn5921 15 (by decide)).trans ((sn5909 15 (by decide)).trans ((sn5900 15 (by decide)).trans ((sn5896 15 (by decide)).trans ((sn5891 15 (by decide)).trans st5886))))))) ((sn5932 18 (by decide)).trans ((sn5925 18 (by decide)).trans ((sn5921 18 (by decide)).trans ((sn5909 18 (by decide)).trans (st5899.trans (congrArg (fun f => upd f (v 19 : Int32).toNatClampNeg 1000000) ((sn5896 18 (by decide)).trans ((sn5891 18 (by decide)).trans (sn5887 18 (by decide))))))))))⟩)⟩, (by show va_P _ _ _ t.heap; rw [ht]; exact hP9)⟩, hS.F ht⟩) hS.2.2 dX12_begin_107
