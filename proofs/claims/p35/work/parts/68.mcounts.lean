set_option maxHeartbeats 8000000 in
set_option maxRecDepth 100000 in
theorem c_X12_kind (l : Launch) (dC : Nat → ClassId) (dI : Nat → Nat → Nat) (g : Nat → Nat) (c : Nat → ClassId) (adK adV : Nat → Nat) (v : Nat → Int32) (F : Nat → Nat → Int32) (rc sz : Nat) (p0 : Int32) (p1 : Int32) (p2 : Int32) (p3 : Int32) (hg : injM g) (hI : IM v F) : Met l yX12_kind (Cond.code yX12_kind cX12_kind 5 (some .int) :: wA) ({ frames := 2, cells := 0, slots := 0, locals := 80 }) (va_Pc [.ref (g 0), .int p0, .int p1, .int p2, .int p3] (PM dC dI g c adK adV v F rc sz)) (va_Qi (fun (r : Int32) (u : StM) => IM u.1 u.2.1 ∧ u.2.2 = rc ∧ (∀ k, k ∉ ([2] : List Nat) → u.1 k = v k) ∧ (∀ k, k ∉ ([1, 2, 3] : List Nat) → u.2.1 k = F k) ∧ ((¬ ((0 ≤ p0.toInt ∧ p0.toInt ≤ 99999) ∧ (0 ≤ p1.toInt ∧ p1.toInt ≤ 99999) ∧ (0 ≤ p2.toInt ∧ p2.toInt ≤ 99999) ∧ (0 ≤ p3.toInt ∧ p3.toInt ≤ 999999)) ∧ r.toInt = -1 ∧ (u.1 2).toInt = (v 2).toInt) ∨ (((0 ≤ p0.toInt ∧ p0.toInt ≤ 99999) ∧ (0 ≤ p1.toInt ∧ p1.toInt ≤ 99999) ∧ (0 ≤ p2.toInt ∧ p2.toInt ≤ 99999) ∧ (0 ≤ p3.toInt ∧ p3.toInt ≤ 999999)) ∧ (v 2).toInt = 10 ∧ r.toInt = -3 ∧ (u.1 2).toInt = (v 2).toInt) ∨ (((0 ≤ p0.toInt ∧ p0.toInt ≤ 99999) ∧ (0 ≤ p1.toInt ∧ p1.toInt ≤ 99999) ∧ (0 ≤ p2.toInt ∧ p2.toInt ≤ 99999) ∧ (0 ≤ p3.toInt ∧ p3.toInt ≤ 999999)) ∧ (v 2).toInt < 10 ∧ r.toInt = (v 2).toInt ∧ (u.1 2).toInt = (v 2).toInt + 1))) (BM dC dI g c) (AM g sz)) 0 0 (AM g sz) := by
  refine Met.ofW (cc := cX12_kind) (maxL := 5) (ret := (some .int)) (by decide) rfl ?_
  intro p e s m args below meth c0 s₁ B hml hv
  obtain ⟨rfl, hsz, hP, hK, hE⟩ := hv
  have hx := B.exec
  have hb := B.bytes
  have hr := B.returns
  have hts := atoms_spec (ws := Cond.code yX12_kind cX12_kind 5 (some .int) :: wA) B.pre
  have hwd : ∀ w ∈ wA, w.before _ s = true := fun w h => hts w (List.mem_cons_of_mem _ h)
  have hown : s.vm.findClass RX12 = some m.cls := findClass_of_methodNamed B.named
  have hlocks := B.notSynchronized
  subst hsz
  have hl := lv_entry ([.ref (g 0), .int p0, .int p1, .int p2, .int p3]) (n := 5) (Nat.le_of_ble_eq_true rfl)
  rw [lg_entry_eq]
  generalize (lg_sl ([.ref (g 0), .int p0, .int p1, .int p2, .int p3]) ++ List.replicate (5 - (lg_sl ([.ref (g 0), .int p0, .int p1, .int p2, .int p3])).length) Slot.unset).toArray = ls at hl ⊢
  have hl : lv_has ls 5 [(0, .ref (g 0)), (1, .int p0), (2, .int p1), (3, .int p2), (4, .int p3)] := hl
  obtain ⟨H, eH⟩ : ∃ z, z = s.heap := ⟨_, rfl⟩
  have hP : va_P (dC, dI) classes (wM g c v F rc) H := by rw [eH]; exact hP
  have hS : va_S (AM g s.heap.size) s.heap H [] := by rw [eH]; exact va_S.rf
  refine my_heap eH ?_
  have hF : ∀ k, k ∉ ([1, 2, 3] : List Nat) → F k = F k := fun _ _ => rfl
  have rp0 := i32_rng p0
  have rp1 := i32_rng p1
  have rp2 := i32_rng p2
  have rp3 := i32_rng p3
  refine lv_iload_n hx hb dX12_kind_0 rfl (lv_at hl 1 rfl) ?_
  refine lv_iconst (v := 0) hx hb dX12_kind_1 (by decide) ?_
  refine lv_ldc (v := 99999) hx hb hown (hwd _ wk_249) dX12_kind_2 ?_
  refine va_calli (va_runS (As := [.int p0, .int 0, .int 99999]) (rest := []) ⟨hx, hb, hml, hown, hwd⟩ (c_X12_in l dC dI g c adK adV v F rc H.size p0 0 99999 hg hI ) (va_cwS 3 hwd (gT wk_254 wk_252 wk_253 wk_5) rfl rfl rfl (by decide +kernel) ⟨Nat.le_of_ble_eq_true rfl, Nat.le_of_ble_eq_true rfl⟩) ⟨PM.blind, fun U hU hW => ⟨rfl, PM.at hK hE hP hS hU hW⟩⟩ rfl rfl hl.1 rfl (lv_room (Nat.le_of_ble_eq_true rfl)) dX12_kind_4 ⟨Nat.le_of_ble_eq_true rfl, Nat.le_of_ble_eq_true rfl⟩) hS (fun q _ h => (freeM hS) q h) (freeM hS) (fun r4791 u t H1 locs ht hvm hw hB hz1 hk1 hS => ?_)
  unfold BM at hB
  rw [ht] at hB
  have hP : va_P (dC, dI) classes (wM g c v F rc) H1 := hB
  have hw_r4791 : (r4791.toInt = 1 ∧ (0 : Int32).toInt ≤ p0.toInt ∧ p0.toInt ≤ (99999 : Int32).toInt) ∨ (r4791.toInt = 0 ∧ (p0.toInt < (0 : Int32).toInt ∨ (99999 : Int32).toInt < p0.toInt)) := hw
  clear hw
  have k4792 : (0 : Int32).toInt = 0 := by decide
  have k4793 : (99999 : Int32).toInt = 99999 := by decide
  clear hz1
  generalize H1 = H at hP hS ⊢
  refine lv_if_eq (tgt := 41) hx hb dX12_kind_7 (by decide) (fun c4794 => ?_) (fun c4794 => ?_)
  · skip
    have t4795 := cv_eq (a := r4791.toInt) rfl (b := 0) (by decide) c4794
    refine lv_iconst (v := (-1)) hx hb dX12_kind_41 (by decide) ?_
    have hP9 : va_P (dC, dI) classes (wM g c v F rc) H := hP
    exact W.iret (v := (-1)) hx hb hr (fun t ht hW => ⟨⟨(-1), (v, F, rc), rfl, ⟨hI, rfl, (fun _ _ => rfl), hF, (by show (¬ ((0 ≤ p0.toInt ∧ p0.toInt ≤ 99999) ∧ (0 ≤ p1.toInt ∧ p1.toInt ≤ 99999) ∧ (0 ≤ p2.toInt ∧ p2.toInt ≤ 99999) ∧ (0 ≤ p3.toInt ∧ p3.toInt ≤ 999999)) ∧ ((-1) : Int32).toInt = -1 ∧ (v 2).toInt = (v 2).toInt) ∨ (((0 ≤ p0.toInt ∧ p0.toInt ≤ 99999) ∧ (0 ≤ p1.toInt ∧ p1.toInt ≤ 99999) ∧ (0 ≤ p2.toInt ∧ p2.toInt ≤ 99999) ∧ (0 ≤ p3.toInt ∧ p3.toInt ≤ 999999)) ∧ (v 2).toInt = 10 ∧ ((-1) : Int32).toInt = -3 ∧ (v 2).toInt = (v 2).toInt) ∨ (((0 ≤ p0.toInt ∧ p0.toInt ≤ 99999) ∧ (0 ≤ p1.toInt ∧ p1.toInt ≤ 99999) ∧ (0 ≤ p2.toInt ∧ p2.toInt ≤ 99999) ∧ (0 ≤ p3.toInt ∧ p3.toInt ≤ 999999)) ∧ (v 2).toInt < 10 ∧ ((-1) : Int32).toInt = (v 2).toInt ∧ (v 2).toInt = (v 2).toInt + 1); have : ((-1) : Int32).toInt = (-1) := (by decide); omega)⟩, (by show va_P _ _ _ t.heap; rw [ht]; exact hP9)⟩, hS.F ht⟩) hS.2.2 dX12_kind_42
  · skip
    have t4796 := cv_ne (a := r4791.toInt) rfl (b := 0) (by decide) c4794
    refine lv_iload_n hx hb dX12_kind_10 rfl (lv_at hl 2 rfl) ?_
    refine lv_iconst (v := 0) hx hb dX12_kind_11 (by decide) ?_
    refine lv_ldc (v := 99999) hx hb hown (hwd _ wk_249) dX12_kind_12 ?_
    refine va_calli (va_runS (As := [.int p1, .int 0, .int 99999]) (rest := []) ⟨hx, hb, hml, hown, hwd⟩ (c_X12_in l dC dI g c adK adV v F rc H.size p1 0 99999 hg hI ) (va_cwS 3 hwd (gT wk_254 wk_252 wk_253 wk_5) rfl rfl rfl (by decide +kernel) ⟨Nat.le_of_ble_eq_true rfl, Nat.le_of_ble_eq_true rfl⟩) ⟨PM.blind, fun U hU hW => ⟨rfl, PM.at hK hE hP hS hU hW⟩⟩ rfl rfl hl.1 rfl (lv_room (Nat.le_of_ble_eq_true rfl)) dX12_kind_14 ⟨Nat.le_of_ble_eq_true rfl, Nat.le_of_ble_eq_true rfl⟩) hS (fun q _ h => (freeM hS) q h) (freeM hS) (fun r4797 u t H1 locs ht hvm hw hB hz1 hk1 hS => ?_)
    unfold BM at hB
    rw [ht] at hB
    have hP : va_P (dC, dI) classes (wM g c v F rc) H1 := hB
    have hw_r4797 : (r4797.toInt = 1 ∧ (0 : Int32).toInt ≤ p1.toInt ∧ p1.toInt ≤ (99999 : Int32).toInt) ∨ (r4797.toInt = 0 ∧ (p1.toInt < (0 : Int32).toInt ∨ (99999 : Int32).toInt < p1.toInt)) := hw
    clear hw
    have k4798 : (0 : Int32).toInt = 0 := by decide
    have k4799 : (99999 : Int32).toInt = 99999 := by decide
    clear hz1
    generalize H1 = H at hP hS ⊢
    refine lv_if_eq (tgt := 41) hx hb dX12_kind_17 (by decide) (fun c4800 => ?_) (fun c4800 => ?_)
    · skip
      have t4801 := cv_eq (a := r4797.toInt) rfl (b := 0) (by decide) c4800
      refine lv_iconst (v := (-1)) hx hb dX12_kind_41 (by decide) ?_
      have hP9 : va_P (dC, dI) classes (wM g c v F rc) H := hP
      exact W.iret (v := (-1)) hx hb hr (fun t ht hW => ⟨⟨(-1), (v, F, rc), rfl, ⟨hI, rfl, (fun _ _ => rfl), hF, (by show (¬ ((0 ≤ p0.toInt ∧ p0.toInt ≤ 99999) ∧ (0 ≤ p1.toInt ∧ p1.toInt ≤ 99999) ∧ (0 ≤ p2.toInt ∧ p2.toInt ≤ 99999) ∧ (0 ≤ p3.toInt ∧ p3.toInt ≤ 999999)) ∧ ((-1) : Int32).toInt = -1 ∧ (v 2).toInt = (v 2).toInt) ∨ (((0 ≤ p0.toInt ∧ p0.toInt ≤ 99999) ∧ (0 ≤ p1.toInt ∧ p1.toInt ≤ 99999) ∧ (0 ≤ p2.toInt ∧ p2.toInt ≤ 99999) ∧ (0 ≤ p3.toInt ∧ p3.toInt ≤ 999999)) ∧ (v 2).toInt = 10 ∧ ((-1) : Int32).toInt = -3 ∧ (v 2).toInt = (v 2).toInt) ∨ (((0 ≤ p0.toInt ∧ p0.toInt ≤ 99999) ∧ (0 ≤ p1.toInt ∧ p1.toInt ≤ 99999) ∧ (0 ≤ p2.toInt ∧ p2.toInt ≤ 99999) ∧ (0 ≤ p3.toInt ∧ p3.toInt ≤ 999999)) ∧ (v 2).toInt < 10 ∧ ((-1) : Int32).toInt = (v 2).toInt ∧ (v 2).toInt = (v 2).toInt + 1); have : ((-1) : Int32).toInt = (-1) := (by decide); omega)⟩, (by show va_P _ _ _ t.heap; rw [ht]; exact hP9)⟩, hS.F ht⟩) hS.2.2 dX12_kind_42
    · skip
      have t4802 := cv_ne (a := r4797.toInt) rfl (b := 0) (by decide) c4800
      refine lv_iload_n hx hb dX12_kind_20 rfl (lv_at hl 3 rfl) ?_
      refine lv_iconst (v := 0) hx hb dX12_kind_21 (by decide) ?_
      refine lv_ldc (v := 99999) hx hb hown (hwd _ wk_249) dX12_kind_22 ?_
      refine va_calli (va_runS (As := [.int p2, .int 0, .int 99999]) (rest := []) ⟨hx, hb, hml, hown, hwd⟩ (c_X12_in l dC dI g c adK adV v F rc H.size p2 0 99999 hg hI ) (va_cwS 3 hwd (gT wk_254 wk_252 wk_253 wk_5) rfl rfl rfl (by decide +kernel) ⟨Nat.le_of_ble_eq_true rfl, Nat.le_of_ble_eq_true rfl⟩) ⟨PM.blind, fun U hU hW => ⟨rfl, PM.at hK hE hP hS hU hW⟩⟩ rfl rfl hl.1 rfl (lv_room (Nat.le_of_ble_eq_true rfl)) dX12_kind_24 ⟨Nat.le_of_ble_eq_true rfl, Nat.le_of_ble_eq_true rfl⟩) hS (fun q _ h => (freeM hS) q h) (freeM hS) (fun r4803 u t H1 locs ht hvm hw hB hz1 hk1 hS => ?_)
      unfold BM at hB
      rw [ht] at hB
      have hP : va_P (dC, dI) classes (wM g c v F rc) H1 := hB
      have hw_r4803 : (r4803.toInt = 1 ∧ (0 : Int32).toInt ≤ p2.toInt ∧ p2.toInt ≤ (99999 : Int32).toInt) ∨ (r4803.toInt = 0 ∧ (p2.toInt < (0 : Int32).toInt ∨ (99999 : Int32).toInt < p2.toInt)) := hw
      clear hw
      have k4804 : (0 : Int32).toInt = 0 := by decide
      have k4805 : (99999 : Int32).toInt = 99999 := by decide
      clear hz1
      generalize H1 = H at hP hS ⊢
      refine lv_if_eq (tgt := 41) hx hb dX12_kind_27 (by decide) (fun c4806 => ?_) (fun c4806 => ?_)
      · skip
        have t4807 := cv_eq (a := r4803.toInt) rfl (b := 0) (by decide) c4806
        refine lv_iconst (v := (-1)) hx hb dX12_kind_41 (by decide) ?_
        have hP9 : va_P (dC, dI) classes (wM g c v F rc) H := hP
        exact W.iret (v := (-1)) hx hb hr (fun t ht hW => ⟨⟨(-1), (v, F, rc), rfl, ⟨hI, rfl, (fun _ _ => rfl), hF, (by show (¬ ((0 ≤ p0.toInt ∧ p0.toInt ≤ 99999) ∧ (0 ≤ p1.toInt ∧ p1.toInt ≤ 99999) ∧ (0 ≤ p2.toInt ∧ p2.toInt ≤ 99999) ∧ (0 ≤ p3.toInt ∧ p3.toInt ≤ 999999)) ∧ ((-1) : Int32).toInt = -1 ∧ (v 2).toInt = (v 2).toInt) ∨ (((0 ≤ p0.toInt ∧ p0.toInt ≤ 99999) ∧ (0 ≤ p1.toInt ∧ p1.toInt ≤ 99999) ∧ (0 ≤ p2.toInt ∧ p2.toInt ≤ 99999) ∧ (0 ≤ p3.toInt ∧ p3.toInt ≤ 999999)) ∧ (v 2).toInt = 10 ∧ ((-1) : Int32).toInt = -3 ∧ (v 2).toInt = (v 2).toInt) ∨ (((0 ≤ p0.toInt ∧ p0.toInt ≤ 99999) ∧ (0 ≤ p1.toInt ∧ p1.toInt ≤ 99999) ∧ (0 ≤ p2.toInt ∧ p2.toInt ≤ 99999) ∧ (0 ≤ p3.toInt ∧ p3.toInt ≤ 999999)) ∧ (v 2).toInt < 10 ∧ ((-1) : Int32).toInt = (v 2).toInt ∧ (v 2).toInt = (v 2).toInt + 1); have : ((-1) : Int32).toInt = (-1) := (by decide); omega)⟩, (by show va_P _ _ _ t.heap; rw [ht]; exact hP9)⟩, hS.F ht⟩) hS.2.2 dX12_kind_42
      · skip
        have t4808 := cv_ne (a := r4803.toInt) rfl (b := 0) (by decide) c4806
        refine lv_iload hx hb dX12_kind_30 (lv_at hl 4 rfl) ?_
        refine lv_iconst (v := 0) hx hb dX12_kind_32 (by decide) ?_
        refine lv_ldc (v := 999999) hx hb hown (hwd _ wk_250) dX12_kind_33 ?_
        refine va_calli (va_runS (As := [.int p3, .int 0, .int 999999]) (rest := []) ⟨hx, hb, hml, hown, hwd⟩ (c_X12_in l dC dI g c adK adV v F rc H.size p3 0 999999 hg hI ) (va_cwS 3 hwd (gT wk_254 wk_252 wk_253 wk_5) rfl rfl rfl (by decide +kernel) ⟨Nat.le_of_ble_eq_true rfl, Nat.le_of_ble_eq_true rfl⟩) ⟨PM.blind, fun U hU hW => ⟨rfl, PM.at hK hE hP hS hU hW⟩⟩ rfl rfl hl.1 rfl (lv_room (Nat.le_of_ble_eq_true rfl)) dX12_kind_35 ⟨Nat.le_of_ble_eq_true rfl, Nat.le_of_ble_eq_true rfl⟩) hS (fun q _ h => (freeM hS) q h) (freeM hS) (fun r4809 u t H1 locs ht hvm hw hB hz1 hk1 hS => ?_)
        unfold BM at hB
        rw [ht] at hB
        have hP : va_P (dC, dI) classes (wM g c v F rc) H1 := hB
        have hw_r4809 : (r4809.toInt = 1 ∧ (0 : Int32).toInt ≤ p3.toInt ∧ p3.toInt ≤ (999999 : Int32).toInt) ∨ (r4809.toInt = 0 ∧ (p3.toInt < (0 : Int32).toInt ∨ (999999 : Int32).toInt < p3.toInt)) := hw
        clear hw
        have k4810 : (0 : Int32).toInt = 0 := by decide
        have k4811 : (999999 : Int32).toInt = 999999 := by decide
        clear hz1
        generalize H1 = H at hP hS ⊢
        refine lv_if_ne (tgt := 43) hx hb dX12_kind_38 (by decide) (fun c4812 => ?_) (fun c4812 => ?_)
        · skip
          have t4813 := cv_ne (a := r4809.toInt) rfl (b := 0) (by decide) c4812
          refine lv_aload_n hx hb dX12_kind_43 rfl (lv_at hl 0 rfl) ?_
          refine va_get (D := (dC, dI)) (ci := 12) (v := .int (v 2)) (C := RX12) (T := TX12) (N := 63) hx hb hwd inA_X12 hown hK hP 0 rfl rfl 2 (by decide) (hwd _ wk_251) (fun _ h9 => h9) rfl dX12_kind_44 ?_
          have t4814 : 0 ≤ (v 2).toInt ∧ (v 2).toInt ≤ 10 := hI.1 2 _ _ rfl
          refine lv_bipush (v := 10) hx hb dX12_kind_47 (by decide) ?_
          refine lv_icmp_ne (tgt := 55) hx hb dX12_kind_49 (by decide) (fun c4815 => ?_) (fun c4815 => ?_)
          · skip
            have t4816 := cv_ne (a := (v 2).toInt) rfl (b := 10) (by decide) c4815
            refine lv_aload_n hx hb dX12_kind_55 rfl (lv_at hl 0 rfl) ?_
            refine va_get (D := (dC, dI)) (ci := 12) (v := .ref (g 1)) (C := RX12) (T := TX12) (N := 63) hx hb hwd inA_X12 hown hK hP 0 rfl rfl 3 (by decide) (hwd _ wk_182) (fun _ h9 => h9) rfl dX12_kind_56 ?_
            refine lv_iconst (v := 3) hx hb dX12_kind_59 (by decide) ?_
            refine lv_aload_n hx hb dX12_kind_60 rfl (lv_at hl 0 rfl) ?_
            refine va_get (D := (dC, dI)) (ci := 12) (v := .int (v 2)) (C := RX12) (T := TX12) (N := 63) hx hb hwd inA_X12 hown hK hP 0 rfl rfl 2 (by decide) (hwd _ wk_251) (fun _ h9 => h9) rfl dX12_kind_61 ?_
            have t4817 : 0 ≤ (v 2).toInt ∧ (v 2).toInt ≤ 10 := hI.1 2 _ _ rfl
            refine lv_imul hx hb dX12_kind_64 ?_
            refine lv_topi (fun z4818 e4819 => ?_)
            try (have t4820 := tmul e4819 (a := 3) (by decide) (b := (v 2).toInt) rfl (by omega))
            refine lv_iload_n hx hb dX12_kind_65 rfl (lv_at hl 1 rfl) ?_
            refine va_iast hx hb hK hP (DM hg) hS 1 0 rfl rfl (i := z4818) (x := p0) (vin (a := z4818.toInt) rfl (by omega)) dX12_kind_66 (fun H locs hP _ hS => ?_)
            have hP := va_P_eq (sM_1 g c _ _ _ _) hP
            have hI := IM.store0 hI 1 (z4818 : Int32).toNatClampNeg p0 rfl
            have hF := frUF (k := 1) (f := upd (F 1) (z4818 : Int32).toNatClampNeg p0) (by decide) hF
            have hP : va_P (dC, dI) classes (wM g c v (va_up F 1 (upd (F 1) (z4818 : Int32).toNatClampNeg p0)) rc) H := hP
            generalize (va_up F 1 (upd (F 1) (z4818 : Int32).toNatClampNeg p0)) = F4821 at hP hI hF
            refine lv_aload_n hx hb dX12_kind_67 rfl (lv_at hl 0 rfl) ?_
            refine va_get (D := (dC, dI)) (ci := 12) (v := .ref (g 1)) (C := RX12) (T := TX12) (N := 63) hx hb hwd inA_X12 hown hK hP 0 rfl rfl 3 (by decide) (hwd _ wk_182) (fun _ h9 => h9) rfl dX12_kind_68 ?_
            refine lv_iconst (v := 3) hx hb dX12_kind_71 (by decide) ?_
            refine lv_aload_n hx hb dX12_kind_72 rfl (lv_at hl 0 rfl) ?_
            refine va_get (D := (dC, dI)) (ci := 12) (v := .int (v 2)) (C := RX12) (T := TX12) (N := 63) hx hb hwd inA_X12 hown hK hP 0 rfl rfl 2 (by decide) (hwd _ wk_251) (fun _ h9 => h9) rfl dX12_kind_73 ?_
            have t4822 : 0 ≤ (v 2).toInt ∧ (v 2).toInt ≤ 10 := hI.1 2 _ _ rfl
            refine lv_imul hx hb dX12_kind_76 ?_
            refine lv_topi (fun z4823 e4824 => ?_)
            try (have t4825 := tmul e4824 (a := 3) (by decide) (b := (v 2).toInt) rfl (by omega))
            refine lv_iconst (v := 1) hx hb dX12_kind_77 (by decide) ?_
            refine lv_iadd hx hb dX12_kind_78 ?_
            refine lv_topi (fun z4826 e4827 => ?_)
            try (have t4828 := tadd e4827 (a := z4823.toInt) rfl (b := 1) (by decide) (by omega))
            refine lv_iload_n hx hb dX12_kind_79 rfl (lv_at hl 2 rfl) ?_
            refine va_iast hx hb hK hP (DM hg) hS 1 0 rfl rfl (i := z4826) (x := p1) (vin (a := z4826.toInt) rfl (by omega)) dX12_kind_80 (fun H locs hP _ hS => ?_)
            have hP := va_P_eq (sM_1 g c _ _ _ _) hP
            have hI := IM.store0 hI 1 (z4826 : Int32).toNatClampNeg p1 rfl
            have hF := frUF (k := 1) (f := upd (F4821 1) (z4826 : Int32).toNatClampNeg p1) (by decide) hF
            have hP : va_P (dC, dI) classes (wM g c v (va_up F4821 1 (upd (F4821 1) (z4826 : Int32).toNatClampNeg p1)) rc) H := hP
            generalize (va_up F4821 1 (upd (F4821 1) (z4826 : Int32).toNatClampNeg p1)) = F4829 at hP hI hF
            refine lv_aload_n hx hb dX12_kind_81 rfl (lv_at hl 0 rfl) ?_
            refine va_get (D := (dC, dI)) (ci := 12) (v := .ref (g 1)) (C := RX12) (T := TX12) (N := 63) hx hb hwd inA_X12 hown hK hP 0 rfl rfl 3 (by decide) (hwd _ wk_182) (fun _ h9 => h9) rfl dX12_kind_82 ?_
            refine lv_iconst (v := 3) hx hb dX12_kind_85 (by decide) ?_
            refine lv_aload_n hx hb dX12_kind_86 rfl (lv_at hl 0 rfl) ?_
            refine va_get (D := (dC, dI)) (ci := 12) (v := .int (v 2)) (C := RX12) (T := TX12) (N := 63) hx hb hwd inA_X12 hown hK hP 0 rfl rfl 2 (by decide) (hwd _ wk_251) (fun _ h9 => h9) rfl dX12_kind_87 ?_
            have t4830 : 0 ≤ (v 2).toInt ∧ (v 2).toInt ≤ 10 := hI.1 2 _ _ rfl
            refine lv_imul hx hb dX12_kind_90 ?_
            refine lv_topi (fun z4831 e4832 => ?_)
            try (have t4833 := tmul e4832 (a := 3) (by decide) (b := (v 2).toInt) rfl (by omega))
            refine lv_iconst (v := 2) hx hb dX12_kind_91 (by decide) ?_
            refine lv_iadd hx hb dX12_kind_92 ?_
            refine lv_topi (fun z4834 e4835 => ?_)
            try (have t4836 := tadd e4835 (a := z4831.toInt) rfl (b := 2) (by decide) (by omega))
            refine lv_iload_n hx hb dX12_kind_93 rfl (lv_at hl 3 rfl) ?_
            refine va_iast hx hb hK hP (DM hg) hS 1 0 rfl rfl (i := z4834) (x := p2) (vin (a := z4834.toInt) rfl (by omega)) dX12_kind_94 (fun H locs hP _ hS => ?_)
            have hP := va_P_eq (sM_1 g c _ _ _ _) hP
            have hI := IM.store0 hI 1 (z4834 : Int32).toNatClampNeg p2 rfl
            have hF := frUF (k := 1) (f := upd (F4829 1) (z4834 : Int32).toNatClampNeg p2) (by decide) hF
            have hP : va_P (dC, dI) classes (wM g c v (va_up F4829 1 (upd (F4829 1) (z4834 : Int32).toNatClampNeg p2)) rc) H := hP
            generalize (va_up F4829 1 (upd (F4829 1) (z4834 : Int32).toNatClampNeg p2)) = F4837 at hP hI hF
            refine lv_aload_n hx hb dX12_kind_95 rfl (lv_at hl 0 rfl) ?_
            refine va_get (D := (dC, dI)) (ci := 12) (v := .ref (g 2)) (C := RX12) (T := TX12) (N := 63) hx hb hwd inA_X12 hown hK hP 0 rfl rfl 4 (by decide) (hwd _ wk_183) (fun _ h9 => h9) rfl dX12_kind_96 ?_
            refine lv_aload_n hx hb dX12_kind_99 rfl (lv_at hl 0 rfl) ?_
            refine va_get (D := (dC, dI)) (ci := 12) (v := .int (v 2)) (C := RX12) (T := TX12) (N := 63) hx hb hwd inA_X12 hown hK hP 0 rfl rfl 2 (by decide) (hwd _ wk_251) (fun _ h9 => h9) rfl dX12_kind_100 ?_
            have t4838 : 0 ≤ (v 2).toInt ∧ (v 2).toInt ≤ 10 := hI.1 2 _ _ rfl
            refine lv_iload hx hb dX12_kind_103 (lv_at hl 4 rfl) ?_
            refine lv_sipush (v := 1000) hx hb dX12_kind_105 (by decide) ?_
            refine lv_idiv hx hb dX12_kind_108 (by decide) ?_
            refine lv_topi (fun z4839 e4840 => ?_)
            refine va_iast hx hb hK hP (DM hg) hS 2 1 rfl rfl (i := (v 2)) (x := z4839) (vin (a := (v 2).toInt) rfl (by omega)) dX12_kind_109 (fun H locs hP _ hS => ?_)
            have hP := va_P_eq (sM_2 g c _ _ _ _) hP
            have hI := IM.store0 hI 2 (v 2 : Int32).toNatClampNeg z4839 rfl
            have hF := frUF (k := 2) (f := upd (F4837 2) (v 2 : Int32).toNatClampNeg z4839) (by decide) hF
            have hP : va_P (dC, dI) classes (wM g c v (va_up F4837 2 (upd (F4837 2) (v 2 : Int32).toNatClampNeg z4839)) rc) H := hP
            generalize (va_up F4837 2 (upd (F4837 2) (v 2 : Int32).toNatClampNeg z4839)) = F4842 at hP hI hF
            refine lv_aload_n hx hb dX12_kind_110 rfl (lv_at hl 0 rfl) ?_
            refine va_get (D := (dC, dI)) (ci := 12) (v := .ref (g 3)) (C := RX12) (T := TX12) (N := 63) hx hb hwd inA_X12 hown hK hP 0 rfl rfl 5 (by decide) (hwd _ wk_184) (fun _ h9 => h9) rfl dX12_kind_111 ?_
            refine lv_aload_n hx hb dX12_kind_114 rfl (lv_at hl 0 rfl) ?_
            refine va_get (D := (dC, dI)) (ci := 12) (v := .int (v 2)) (C := RX12) (T := TX12) (N := 63) hx hb hwd inA_X12 hown hK hP 0 rfl rfl 2 (by decide) (hwd _ wk_251) (fun _ h9 => h9) rfl dX12_kind_115 ?_
            have t4843 : 0 ≤ (v 2).toInt ∧ (v 2).toInt ≤ 10 := hI.1 2 _ _ rfl
            refine lv_iload hx hb dX12_kind_118 (lv_at hl 4 rfl) ?_
            refine lv_sipush (v := 1000) hx hb dX12_kind_120 (by decide) ?_
            refine lv_irem hx hb dX12_kind_123 (by decide) ?_
            refine lv_topi (fun z4844 e4845 => ?_)
            refine va_iast hx hb hK hP (DM hg) hS 3 2 rfl rfl (i := (v 2)) (x := z4844) (vin (a := (v 2).toInt) rfl (by omega)) dX12_kind_124 (fun H locs hP _ hS => ?_)
            have hP := va_P_eq (sM_3 g c _ _ _ _) hP
            have hI := IM.store0 hI 3 (v 2 : Int32).toNatClampNeg z4844 rfl
            have hF := frUF (k := 3) (f := upd (F4842 3) (v 2 : Int32).toNatClampNeg z4844) (by decide) hF
            have hP : va_P (dC, dI) classes (wM g c v (va_up F4842 3 (upd (F4842 3) (v 2 : Int32).toNatClampNeg z4844)) rc) H := hP
            generalize (va_up F4842 3 (upd (F4842 3) (v 2 : Int32).toNatClampNeg z4844)) = F4847 at hP hI hF
            refine lv_aload_n hx hb dX12_kind_125 rfl (lv_at hl 0 rfl) ?_
            refine lv_dup hx hb dX12_kind_126 rfl ?_
            refine va_get (D := (dC, dI)) (ci := 12) (v := .int (v 2)) (C := RX12) (T := TX12) (N := 63) hx hb hwd inA_X12 hown hK hP 0 rfl rfl 2 (by decide) (hwd _ wk_251) (fun _ h9 => h9) rfl dX12_kind_127 ?_
            have t4848 : 0 ≤ (v 2).toInt ∧ (v 2).toInt ≤ 10 := hI.1 2 _ _ rfl
            refine lv_iconst (v := 1) hx hb dX12_kind_130 (by decide) ?_
            refine lv_iadd hx hb dX12_kind_131 ?_
            refine lv_topi (fun z4849 e4850 => ?_)
            try (have t4851 := tadd e4850 (a := (v 2).toInt) rfl (b := 1) (by decide) (by omega))
            refine va_put (D := (dC, dI)) (ci := 12) (v := .int z4849) (ty := .int) (C := RX12) (T := TX12) (N := 63) (fs := fsM_0 g v rc) hx hb hwd inA_X12 tyX12 tyX12_ok nmX12 hown hK hP (DM hg) hS 0 rfl rfl 2 (by decide) (hwd _ wk_251) (fun _ h9 => h9) rfl (by decide +kernel) rfl rfl (Nat.le_of_ble_eq_true rfl) dX12_kind_132 (fun H locs hP _ hS => ?_)
            have hP := va_P_eq (pM_2 g c _ _ _ _) hP
            have hI := IM.put hI 2 z4849 rfl (by omega)
            refine lv_aload_n hx hb dX12_kind_135 rfl (lv_at hl 0 rfl) ?_
            refine va_get (D := (dC, dI)) (ci := 12) (v := .int z4849) (C := RX12) (T := TX12) (N := 63) hx hb hwd inA_X12 hown hK hP 0 rfl rfl 2 (by decide) (hwd _ wk_251) (fun _ h9 => h9) rfl dX12_kind_136 ?_
            have t4852 : 0 ≤ z4849.toInt ∧ z4849.toInt ≤ 10 := hI.1 2 _ _ rfl
            refine lv_iconst (v := 1) hx hb dX12_kind_139 (by decide) ?_
            refine lv_isub hx hb dX12_kind_140 ?_
            refine lv_topi (fun z4853 e4854 => ?_)
            try (have t4855 := tsub e4854 (a := z4849.toInt) rfl (b := 1) (by decide) (by omega))
            have hP9 : va_P (dC, dI) classes (wM g c (va_up v 2 z4849) F4847 rc) H := hP
            exact W.iret (v := z4853) hx hb hr (fun t ht hW => ⟨⟨z4853, ((va_up v 2 z4849), F4847, rc), rfl, ⟨hI, rfl, (frU (by decide) (fun _ _ => rfl)), hF, (by show (¬ ((0 ≤ p0.toInt ∧ p0.toInt ≤ 99999) ∧ (0 ≤ p1.toInt ∧ p1.toInt ≤ 99999) ∧ (0 ≤ p2.toInt ∧ p2.toInt ≤ 99999) ∧ (0 ≤ p3.toInt ∧ p3.toInt ≤ 999999)) ∧ z4853.toInt = -1 ∧ z4849.toInt = (v 2).toInt) ∨ (((0 ≤ p0.toInt ∧ p0.toInt ≤ 99999) ∧ (0 ≤ p1.toInt ∧ p1.toInt ≤ 99999) ∧ (0 ≤ p2.toInt ∧ p2.toInt ≤ 99999) ∧ (0 ≤ p3.toInt ∧ p3.toInt ≤ 999999)) ∧ (v 2).toInt = 10 ∧ z4853.toInt = -3 ∧ z4849.toInt = (v 2).toInt) ∨ (((0 ≤ p0.toInt ∧ p0.toInt ≤ 99999) ∧ (0 ≤ p1.toInt ∧ p1.toInt ≤ 99999) ∧ (0 ≤ p2.toInt ∧ p2.toInt ≤ 99999) ∧ (0 ≤ p3.toInt ∧ p3.toInt ≤ 999999)) ∧ (v 2).toInt < 10 ∧ z4853.toInt = (v 2).toInt ∧ z4849.toInt = (v 2).toInt + 1); omega)⟩, (by show va_P _ _ _ t.heap; rw [ht]; exact hP9)⟩, hS.F ht⟩) hS.2.2 dX12_kind_141
          · skip
            have t4856 := cv_eq (a := (v 2).toInt) rfl (b := 10) (by decide) c4815
            refine lv_bipush (v := (-3)) hx hb dX12_kind_52 (by decide) ?_
            have hP9 : va_P (dC, dI) classes (wM g c v F rc) H := hP
            exact W.iret (v := (-3)) hx hb hr (fun t ht hW => ⟨⟨(-3), (v, F, rc), rfl, ⟨hI, rfl, (fun _ _ => rfl), hF, (by show (¬ ((0 ≤ p0.toInt ∧ p0.toInt ≤ 99999) ∧ (0 ≤ p1.toInt ∧ p1.toInt ≤ 99999) ∧ (0 ≤ p2.toInt ∧ p2.toInt ≤ 99999) ∧ (0 ≤ p3.toInt ∧ p3.toInt ≤ 999999)) ∧ ((-3) : Int32).toInt = -1 ∧ (v 2).toInt = (v 2).toInt) ∨ (((0 ≤ p0.toInt ∧ p0.toInt ≤ 99999) ∧ (0 ≤ p1.toInt ∧ p1.toInt ≤ 99999) ∧ (0 ≤ p2.toInt ∧ p2.toInt ≤ 99999) ∧ (0 ≤ p3.toInt ∧ p3.toInt ≤ 999999)) ∧ (v 2).toInt = 10 ∧ ((-3) : Int32).toInt = -3 ∧ (v 2).toInt = (v 2).toInt) ∨ (((0 ≤ p0.toInt ∧ p0.toInt ≤ 99999) ∧ (0 ≤ p1.toInt ∧ p1.toInt ≤ 99999) ∧ (0 ≤ p2.toInt ∧ p2.toInt ≤ 99999) ∧ (0 ≤ p3.toInt ∧ p3.toInt ≤ 999999)) ∧ (v 2).toInt < 10 ∧ ((-3) : Int32).toInt = (v 2).toInt ∧ (v 2).toInt = (v 2).toInt + 1); have : ((-3) : Int32).toInt = (-3) := (by decide); omega)⟩, (by show va_P _ _ _ t.heap; rw [ht]; exact hP9)⟩, hS.F ht⟩) hS.2.2 dX12_kind_54
        · skip
          have t4857 := cv_eq (a := r4809.toInt) rfl (b := 0) (by decide) c4812
          refine lv_iconst (v := (-1)) hx hb dX12_kind_41 (by decide) ?_
          have hP9 : va_P (dC, dI) classes (wM g c v F rc) H := hP
          exact W.iret (v := (-1)) hx hb hr (fun t ht hW => ⟨⟨(-1), (v, F, rc), rfl, ⟨hI, rfl, (fun _ _ => rfl), hF, (by show (¬ ((0 ≤ p0.toInt ∧ p0.toInt ≤ 99999) ∧ (0 ≤ p1.toInt ∧ p1.toInt ≤ 99999) ∧ (0 ≤ p2.toInt ∧ p2.toInt ≤ 99999) ∧ (0 ≤ p3.toInt ∧ p3.toInt ≤ 999999)) ∧ ((-1) : Int32).toInt = -1 ∧ (v 2).toInt = (v 2).toInt) ∨ (((0 ≤ p0.toInt ∧ p0.toInt ≤ 99999) ∧ (0 ≤ p1.toInt ∧ p1.toInt ≤ 99999) ∧ (0 ≤ p2.toInt ∧ p2.toInt ≤ 99999) ∧ (0 ≤ p3.toInt ∧ p3.toInt ≤ 999999)) ∧ (v 2).toInt = 10 ∧ ((-1) : Int32).toInt = -3 ∧ (v 2).toInt = (v 2).toInt) ∨ (((0 ≤ p0.toInt ∧ p0.toInt ≤ 99999) ∧ (0 ≤ p1.toInt ∧ p1.toInt ≤ 99999) ∧ (0 ≤ p2.toInt ∧ p2.toInt ≤ 99999) ∧ (0 ≤ p3.toInt ∧ p3.toInt ≤ 999999)) ∧ (v 2).toInt < 10 ∧ ((-1) : Int32).toInt = (v 2).toInt ∧ (v 2).toInt = (v 2).toInt + 1); have : ((-1) : Int32).toInt = (-1) := (by decide); omega)⟩, (by show va_P _ _ _ t.heap; rw [ht]; exact hP9)⟩, hS.F ht⟩) hS.2.2 dX12_kind_42
set_option maxHeartbeats 8000000 in
set_option maxRecDepth 100000 in
theorem c_X12_plane (l : Launch) (dC : Nat → ClassId) (dI : Nat → Nat → Nat) (g : Nat → Nat) (c : Nat → ClassId) (adK adV : Nat → Nat) (v : Nat → Int32) (F : Nat → Nat → Int32) (rc sz : Nat) (p0 : Int32) (hg : injM g) (hI : IM v F) : Met l yX12_plane (Cond.code yX12_plane cX12_plane 2 (some .int) :: wA) ({ frames := 2, cells := 0, slots := 0, locals := 80 }) (va_Pc [.ref (g 0), .int p0] (PM dC dI g c adK adV v F rc sz)) (va_Qi (fun (r : Int32) (u : StM) => IM u.1 u.2.1 ∧ u.2.2 = rc ∧ (∀ k, k ∉ ([6] : List Nat) → u.1 k = v k) ∧ (∀ k, k ∉ ([4, 7, 8, 35] : List Nat) → u.2.1 k = F k) ∧ ((¬ ((0 ≤ p0.toInt ∧ p0.toInt ≤ 999999)) ∧ r.toInt = -1 ∧ (u.1 6).toInt = (v 6).toInt) ∨ (((0 ≤ p0.toInt ∧ p0.toInt ≤ 999999)) ∧ (v 6).toInt = 10 ∧ r.toInt = -3 ∧ (u.1 6).toInt = (v 6).toInt) ∨ (((0 ≤ p0.toInt ∧ p0.toInt ≤ 999999)) ∧ (v 6).toInt < 10 ∧ r.toInt = (v 6).toInt ∧ (u.1 6).toInt = (v 6).toInt + 1))) (BM dC dI g c) (AM g sz)) 0 0 (AM g sz) := by
  refine Met.ofW (cc := cX12_plane) (maxL := 2) (ret := (some .int)) (by decide) rfl ?_
  intro p e s m args below meth c0 s₁ B hml hv
  obtain ⟨rfl, hsz, hP, hK, hE⟩ := hv
  have hx := B.exec
  have hb := B.bytes
  have hr := B.returns
  have hts := atoms_spec (ws := Cond.code yX12_plane cX12_plane 2 (some .int) :: wA) B.pre
  have hwd : ∀ w ∈ wA, w.before _ s = true := fun w h => hts w (List.mem_cons_of_mem _ h)
  have hown : s.vm.findClass RX12 = some m.cls := findClass_of_methodNamed B.named
  have hlocks := B.notSynchronized
  subst hsz
  have hl := lv_entry ([.ref (g 0), .int p0]) (n := 2) (Nat.le_of_ble_eq_true rfl)
  rw [lg_entry_eq]
  generalize (lg_sl ([.ref (g 0), .int p0]) ++ List.replicate (2 - (lg_sl ([.ref (g 0), .int p0])).length) Slot.unset).toArray = ls at hl ⊢
  have hl : lv_has ls 2 [(0, .ref (g 0)), (1, .int p0)] := hl
  obtain ⟨H, eH⟩ : ∃ z, z = s.heap := ⟨_, rfl⟩
  have hP : va_P (dC, dI) classes (wM g c v F rc) H := by rw [eH]; exact hP
  have hS : va_S (AM g s.heap.size) s.heap H [] := by rw [eH]; exact va_S.rf
  refine my_heap eH ?_
  have hF : ∀ k, k ∉ ([4, 7, 8, 35] : List Nat) → F k = F k := fun _ _ => rfl
  have rp0 := i32_rng p0
  refine lv_iload_n hx hb dX12_plane_0 rfl (lv_at hl 1 rfl) ?_
  refine lv_iconst (v := 0) hx hb dX12_plane_1 (by decide) ?_
  refine lv_ldc (v := 999999) hx hb hown (hwd _ wk_250) dX12_plane_2 ?_
  refine va_calli (va_runS (As := [.int p0, .int 0, .int 999999]) (rest := []) ⟨hx, hb, hml, hown, hwd⟩ (c_X12_in l dC dI g c adK adV v F rc H.size p0 0 999999 hg hI ) (va_cwS 3 hwd (gT wk_254 wk_252 wk_253 wk_5) rfl rfl rfl (by decide +kernel) ⟨Nat.le_of_ble_eq_true rfl, Nat.le_of_ble_eq_true rfl⟩) ⟨PM.blind, fun U hU hW => ⟨rfl, PM.at hK hE hP hS hU hW⟩⟩ rfl rfl hl.1 rfl (lv_room (Nat.le_of_ble_eq_true rfl)) dX12_plane_4 ⟨Nat.le_of_ble_eq_true rfl, Nat.le_of_ble_eq_true rfl⟩) hS (fun q _ h => (freeM hS) q h) (freeM hS) (fun r4884 u t H1 locs ht hvm hw hB hz1 hk1 hS => ?_)
  unfold BM at hB
  rw [ht] at hB
  have hP : va_P (dC, dI) classes (wM g c v F rc) H1 := hB
  have hw_r4884 : (r4884.toInt = 1 ∧ (0 : Int32).toInt ≤ p0.toInt ∧ p0.toInt ≤ (999999 : Int32).toInt) ∨ (r4884.toInt = 0 ∧ (p0.toInt < (0 : Int32).toInt ∨ (999999 : Int32).toInt < p0.toInt)) := hw
  clear hw
  have k4885 : (0 : Int32).toInt = 0 := by decide
  have k4886 : (999999 : Int32).toInt = 999999 := by decide
  clear hz1
  generalize H1 = H at hP hS ⊢
  refine lv_if_ne (tgt := 12) hx hb dX12_plane_7 (by decide) (fun c4887 => ?_) (fun c4887 => ?_)
  · skip
    have t4888 := cv_ne (a := r4884.toInt) rfl (b := 0) (by decide) c4887
    refine lv_aload_n hx hb dX12_plane_12 rfl (lv_at hl 0 rfl) ?_
    refine va_get (D := (dC, dI)) (ci := 12) (v := .int (v 6)) (C := RX12) (T := TX12) (N := 63) hx hb hwd inA_X12 hown hK hP 0 rfl rfl 6 (by decide) (hwd _ wk_268) (fun _ h9 => h9) rfl dX12_plane_13 ?_
    have t4889 : 0 ≤ (v 6).toInt ∧ (v 6).toInt ≤ 10 := hI.1 6 _ _ rfl
    refine lv_bipush (v := 10) hx hb dX12_plane_16 (by decide) ?_
    refine lv_icmp_ne (tgt := 24) hx hb dX12_plane_18 (by decide) (fun c4890 => ?_) (fun c4890 => ?_)
    · skip
      have t4891 := cv_ne (a := (v 6).toInt) rfl (b := 10) (by decide) c4890
      refine lv_aload_n hx hb dX12_plane_24 rfl (lv_at hl 0 rfl) ?_
      refine va_get (D := (dC, dI)) (ci := 12) (v := .ref (g 4)) (C := RX12) (T := TX12) (N := 63) hx hb hwd inA_X12 hown hK hP 0 rfl rfl 7 (by decide) (hwd _ wk_185) (fun _ h9 => h9) rfl dX12_plane_25 ?_
      refine lv_aload_n hx hb dX12_plane_28 rfl (lv_at hl 0 rfl) ?_
      refine va_get (D := (dC, dI)) (ci := 12) (v := .int (v 6)) (C := RX12) (T := TX12) (N := 63) hx hb hwd inA_X12 hown hK hP 0 rfl rfl 6 (by decide) (hwd _ wk_268) (fun _ h9 => h9) rfl dX12_plane_29 ?_
      have t4892 : 0 ≤ (v 6).toInt ∧ (v 6).toInt ≤ 10 := hI.1 6 _ _ rfl
      refine lv_iload_n hx hb dX12_plane_32 rfl (lv_at hl 1 rfl) ?_
      refine va_iast hx hb hK hP (DM hg) hS 4 3 rfl rfl (i := (v 6)) (x := p0) (vin (a := (v 6).toInt) rfl (by omega)) dX12_plane_33 (fun H locs hP _ hS => ?_)
      have hP := va_P_eq (sM_4 g c _ _ _ _) hP
      have hI := IM.store0 hI 4 (v 6 : Int32).toNatClampNeg p0 rfl
      have hF := frUF (k := 4) (f := upd (F 4) (v 6 : Int32).toNatClampNeg p0) (by decide) hF
      have hP : va_P (dC, dI) classes (wM g c v (va_up F 4 (upd (F 4) (v 6 : Int32).toNatClampNeg p0)) rc) H := hP
      generalize (va_up F 4 (upd (F 4) (v 6 : Int32).toNatClampNeg p0)) = F4893 at hP hI hF
      refine lv_aload_n hx hb dX12_plane_34 rfl (lv_at hl 0 rfl) ?_
      refine va_get (D := (dC, dI)) (ci := 12) (v := .ref (g 7)) (C := RX12) (T := TX12) (N := 63) hx hb hwd inA_X12 hown hK hP 0 rfl rfl 10 (by decide) (hwd _ wk_188) (fun _ h9 => h9) rfl dX12_plane_35 ?_
      refine lv_aload_n hx hb dX12_plane_38 rfl (lv_at hl 0 rfl) ?_
      refine va_get (D := (dC, dI)) (ci := 12) (v := .int (v 6)) (C := RX12) (T := TX12) (N := 63) hx hb hwd inA_X12 hown hK hP 0 rfl rfl 6 (by decide) (hwd _ wk_268) (fun _ h9 => h9) rfl dX12_plane_39 ?_
      have t4894 : 0 ≤ (v 6).toInt ∧ (v 6).toInt ≤ 10 := hI.1 6 _ _ rfl
      refine lv_iconst (v := (-1)) hx hb dX12_plane_42 (by decide) ?_
      refine va_iast hx hb hK hP (DM hg) hS 7 6 rfl rfl (i := (v 6)) (x := (-1)) (vin (a := (v 6).toInt) rfl (by omega)) dX12_plane_43 (fun H locs hP _ hS => ?_)
      have hP := va_P_eq (sM_7 g c _ _ _ _) hP
      have hI := IM.store0 hI 7 (v 6 : Int32).toNatClampNeg (-1) rfl
      have hF := frUF (k := 7) (f := upd (F4893 7) (v 6 : Int32).toNatClampNeg (-1)) (by decide) hF
      have hP : va_P (dC, dI) classes (wM g c v (va_up F4893 7 (upd (F4893 7) (v 6 : Int32).toNatClampNeg (-1))) rc) H := hP
      generalize (va_up F4893 7 (upd (F4893 7) (v 6 : Int32).toNatClampNeg (-1))) = F4895 at hP hI hF
      refine lv_aload_n hx hb dX12_plane_44 rfl (lv_at hl 0 rfl) ?_
      refine va_get (D := (dC, dI)) (ci := 12) (v := .ref (g 8)) (C := RX12) (T := TX12) (N := 63) hx hb hwd inA_X12 hown hK hP 0 rfl rfl 11 (by decide) (hwd _ wk_189) (fun _ h9 => h9) rfl dX12_plane_45 ?_
      refine lv_aload_n hx hb dX12_plane_48 rfl (lv_at hl 0 rfl) ?_
      refine va_get (D := (dC, dI)) (ci := 12) (v := .int (v 6)) (C := RX12) (T := TX12) (N := 63) hx hb hwd inA_X12 hown hK hP 0 rfl rfl 6 (by decide) (hwd _ wk_268) (fun _ h9 => h9) rfl dX12_plane_49 ?_
      have t4896 : 0 ≤ (v 6).toInt ∧ (v 6).toInt ≤ 10 := hI.1 6 _ _ rfl
      refine lv_iconst (v := (-1)) hx hb dX12_plane_52 (by decide) ?_
      refine va_iast hx hb hK hP (DM hg) hS 8 7 rfl rfl (i := (v 6)) (x := (-1)) (vin (a := (v 6).toInt) rfl (by omega)) dX12_plane_53 (fun H locs hP _ hS => ?_)
      have hP := va_P_eq (sM_8 g c _ _ _ _) hP
      have hI := IM.store0 hI 8 (v 6 : Int32).toNatClampNeg (-1) rfl
      have hF := frUF (k := 8) (f := upd (F4895 8) (v 6 : Int32).toNatClampNeg (-1)) (by decide) hF
      have hP : va_P (dC, dI) classes (wM g c v (va_up F4895 8 (upd (F4895 8) (v 6 : Int32).toNatClampNeg (-1))) rc) H := hP
      generalize (va_up F4895 8 (upd (F4895 8) (v 6 : Int32).toNatClampNeg (-1))) = F4897 at hP hI hF
      refine lv_aload_n hx hb dX12_plane_54 rfl (lv_at hl 0 rfl) ?_
      refine va_get (D := (dC, dI)) (ci := 12) (v := .ref (g 35)) (C := RX12) (T := TX12) (N := 63) hx hb hwd inA_X12 hown hK hP 0 rfl rfl 49 (by decide) (hwd _ wk_217) (fun _ h9 => h9) rfl dX12_plane_55 ?_
      refine lv_aload_n hx hb dX12_plane_58 rfl (lv_at hl 0 rfl) ?_
      refine va_get (D := (dC, dI)) (ci := 12) (v := .int (v 6)) (C := RX12) (T := TX12) (N := 63) hx hb hwd inA_X12 hown hK hP 0 rfl rfl 6 (by decide) (hwd _ wk_268) (fun _ h9 => h9) rfl dX12_plane_59 ?_
      have t4898 : 0 ≤ (v 6).toInt ∧ (v 6).toInt ≤ 10 := hI.1 6 _ _ rfl
      refine lv_iconst (v := (-1)) hx hb dX12_plane_62 (by decide) ?_
      refine va_iast hx hb hK hP (DM hg) hS 35 34 rfl rfl (i := (v 6)) (x := (-1)) (vin (a := (v 6).toInt) rfl (by omega)) dX12_plane_63 (fun H locs hP _ hS => ?_)
      have hP := va_P_eq (sM_35 g c _ _ _ _) hP
      have hI := IM.store0 hI 35 (v 6 : Int32).toNatClampNeg (-1) rfl
      have hF := frUF (k := 35) (f := upd (F4897 35) (v 6 : Int32).toNatClampNeg (-1)) (by decide) hF
      have hP : va_P (dC, dI) classes (wM g c v (va_up F4897 35 (upd (F4897 35) (v 6 : Int32).toNatClampNeg (-1))) rc) H := hP
      generalize (va_up F4897 35 (upd (F4897 35) (v 6 : Int32).toNatClampNeg (-1))) = F4899 at hP hI hF
      refine lv_aload_n hx hb dX12_plane_64 rfl (lv_at hl 0 rfl) ?_
      refine lv_dup hx hb dX12_plane_65 rfl ?_
      refine va_get (D := (dC, dI)) (ci := 12) (v := .int (v 6)) (C := RX12) (T := TX12) (N := 63) hx hb hwd inA_X12 hown hK hP 0 rfl rfl 6 (by decide) (hwd _ wk_268) (fun _ h9 => h9) rfl dX12_plane_66 ?_
      have t4900 : 0 ≤ (v 6).toInt ∧ (v 6).toInt ≤ 10 := hI.1 6 _ _ rfl
      refine lv_iconst (v := 1) hx hb dX12_plane_69 (by decide) ?_
      refine lv_iadd hx hb dX12_plane_70 ?_
      refine lv_topi (fun z4901 e4902 => ?_)
      try (have t4903 := tadd e4902 (a := (v 6).toInt) rfl (b := 1) (by decide) (by omega))
      refine va_put (D := (dC, dI)) (ci := 12) (v := .int z4901) (ty := .int) (C := RX12) (T := TX12) (N := 63) (fs := fsM_0 g v rc) hx hb hwd inA_X12 tyX12 tyX12_ok nmX12 hown hK hP (DM hg) hS 0 rfl rfl 6 (by decide) (hwd _ wk_268) (fun _ h9 => h9) rfl (by decide +kernel) rfl rfl (Nat.le_of_ble_eq_true rfl) dX12_plane_71 (fun H locs hP _ hS => ?_)
      have hP := va_P_eq (pM_6 g c _ _ _ _) hP
      have hI := IM.put hI 6 z4901 rfl (by omega)
      refine lv_aload_n hx hb dX12_plane_74 rfl (lv_at hl 0 rfl) ?_
      refine va_get (D := (dC, dI)) (ci := 12) (v := .int z4901) (C := RX12) (T := TX12) (N := 63) hx hb hwd inA_X12 hown hK hP 0 rfl rfl 6 (by decide) (hwd _ wk_268) (fun _ h9 => h9) rfl dX12_plane_75 ?_
      have t4904 : 0 ≤ z4901.toInt ∧ z4901.toInt ≤ 10 := hI.1 6 _ _ rfl
      refine lv_iconst (v := 1) hx hb dX12_plane_78 (by decide) ?_
      refine lv_isub hx hb dX12_plane_79 ?_
      refine lv_topi (fun z4905 e4906 => ?_)
      try (have t4907 := tsub e4906 (a := z4901.toInt) rfl (b := 1) (by decide) (by omega))
      have hP9 : va_P (dC, dI) classes (wM g c (va_up v 6 z4901) F4899 rc) H := hP
      exact W.iret (v := z4905) hx hb hr (fun t ht hW => ⟨⟨z4905, ((va_up v 6 z4901), F4899, rc), rfl, ⟨hI, rfl, (frU (by decide) (fun _ _ => rfl)), hF, (by show (¬ ((0 ≤ p0.toInt ∧ p0.toInt ≤ 999999)) ∧ z4905.toInt = -1 ∧ z4901.toInt = (v 6).toInt) ∨ (((0 ≤ p0.toInt ∧ p0.toInt ≤ 999999)) ∧ (v 6).toInt = 10 ∧ z4905.toInt = -3 ∧ z4901.toInt = (v 6).toInt) ∨ (((0 ≤ p0.toInt ∧ p0.toInt ≤ 999999)) ∧ (v 6).toInt < 10 ∧ z4905.toInt = (v 6).toInt ∧ z4901.toInt = (v 6).toInt + 1); omega)⟩, (by show va_P _ _ _ t.heap; rw [ht]; exact hP9)⟩, hS.F ht⟩) hS.2.2 dX12_plane_80
    · skip
      have t4908 := cv_eq (a := (v 6).toInt) rfl (b := 10) (by decide) c4890
      refine lv_bipush (v := (-3)) hx hb dX12_plane_21 (by decide) ?_
      have hP9 : va_P (dC, dI) classes (wM g c v F rc) H := hP
      exact W.iret (v := (-3)) hx hb hr (fun t ht hW => ⟨⟨(-3), (v, F, rc), rfl, ⟨hI, rfl, (fun _ _ => rfl), hF, (by show (¬ ((0 ≤ p0.toInt ∧ p0.toInt ≤ 999999)) ∧ ((-3) : Int32).toInt = -1 ∧ (v 6).toInt = (v 6).toInt) ∨ (((0 ≤ p0.toInt ∧ p0.toInt ≤ 999999)) ∧ (v 6).toInt = 10 ∧ ((-3) : Int32).toInt = -3 ∧ (v 6).toInt = (v 6).toInt) ∨ (((0 ≤ p0.toInt ∧ p0.toInt ≤ 999999)) ∧ (v 6).toInt < 10 ∧ ((-3) : Int32).toInt = (v 6).toInt ∧ (v 6).toInt = (v 6).toInt + 1); have : ((-3) : Int32).toInt = (-3) := (by decide); omega)⟩, (by show va_P _ _ _ t.heap; rw [ht]; exact hP9)⟩, hS.F ht⟩) hS.2.2 dX12_plane_23
  · skip
    have t4909 := cv_eq (a := r4884.toInt) rfl (b := 0) (by decide) c4887
    refine lv_iconst (v := (-1)) hx hb dX12_plane_10 (by decide) ?_
    have hP9 : va_P (dC, dI) classes (wM g c v F rc) H := hP
    exact W.iret (v := (-1)) hx hb hr (fun t ht hW => ⟨⟨(-1), (v, F, rc), rfl, ⟨hI, rfl, (fun _ _ => rfl), hF, (by show (¬ ((0 ≤ p0.toInt ∧ p0.toInt ≤ 999999)) ∧ ((-1) : Int32).toInt = -1 ∧ (v 6).toInt = (v 6).toInt) ∨ (((0 ≤ p0.toInt ∧ p0.toInt ≤ 999999)) ∧ (v 6).toInt = 10 ∧ ((-1) : Int32).toInt = -3 ∧ (v 6).toInt = (v 6).toInt) ∨ (((0 ≤ p0.toInt ∧ p0.toInt ≤ 999999)) ∧ (v 6).toInt < 10 ∧ ((-1) : Int32).toInt = (v 6).toInt ∧ (v 6).toInt = (v 6).toInt + 1); have : ((-1) : Int32).toInt = (-1) := (by decide); omega)⟩, (by show va_P _ _ _ t.heap; rw [ht]; exact hP9)⟩, hS.F ht⟩) hS.2.2 dX12_plane_11
set_option maxHeartbeats 8000000 in
set_option maxRecDepth 100000 in
theorem c_X12_days (l : Launch) (dC : Nat → ClassId) (dI : Nat → Nat → Nat) (g : Nat → Nat) (c : Nat → ClassId) (adK adV : Nat → Nat) (v : Nat → Int32) (F : Nat → Nat → Int32) (rc sz : Nat) (p0 : Int32) (hg : injM g) (hI : IM v F) : Met l yX12_days (Cond.code yX12_days cX12_days 3 (some .int) :: wA) ({ frames := 2, cells := 0, slots := 0, locals := 80 }) (va_Pc [.ref (g 0), .int p0] (PM dC dI g c adK adV v F rc sz)) (va_Qi (fun (r : Int32) (u : StM) => IM u.1 u.2.1 ∧ u.2.2 = rc ∧ (∀ k, k ∉ ([1] : List Nat) → u.1 k = v k) ∧ (∀ k, k ∉ ([14] : List Nat) → u.2.1 k = F k) ∧ ((¬ (1 ≤ p0.toInt ∧ p0.toInt ≤ 400 ∧ (v 1).toInt + p0.toInt ≤ 9999) ∧ r.toInt = -1 ∧ (u.1 1).toInt = (v 1).toInt) ∨ ((1 ≤ p0.toInt ∧ p0.toInt ≤ 400 ∧ (v 1).toInt + p0.toInt ≤ 9999) ∧ r.toInt = (v 1).toInt + p0.toInt ∧ (u.1 1).toInt = (v 1).toInt + p0.toInt))) (BM dC dI g c) (AM g sz)) 0 0 (AM g sz) := by
  refine Met.ofW (cc := cX12_days) (maxL := 3) (ret := (some .int)) (by decide) rfl ?_
  intro p e s m args below meth c0 s₁ B hml hv
  obtain ⟨rfl, hsz, hP, hK, hE⟩ := hv
  have hx := B.exec
  have hb := B.bytes
  have hr := B.returns
  have hts := atoms_spec (ws := Cond.code yX12_days cX12_days 3 (some .int) :: wA) B.pre
  have hwd : ∀ w ∈ wA, w.before _ s = true := fun w h => hts w (List.mem_cons_of_mem _ h)
  have hown : s.vm.findClass RX12 = some m.cls := findClass_of_methodNamed B.named
  have hlocks := B.notSynchronized
  subst hsz
  have hl := lv_entry ([.ref (g 0), .int p0]) (n := 3) (Nat.le_of_ble_eq_true rfl)
  rw [lg_entry_eq]
  generalize (lg_sl ([.ref (g 0), .int p0]) ++ List.replicate (3 - (lg_sl ([.ref (g 0), .int p0])).length) Slot.unset).toArray = ls at hl ⊢
  have hl : lv_has ls 3 [(0, .ref (g 0)), (1, .int p0)] := hl
  obtain ⟨H, eH⟩ : ∃ z, z = s.heap := ⟨_, rfl⟩
  have hP : va_P (dC, dI) classes (wM g c v F rc) H := by rw [eH]; exact hP
  have hS : va_S (AM g s.heap.size) s.heap H [] := by rw [eH]; exact va_S.rf
  refine my_heap eH ?_
  have hF : ∀ k, k ∉ ([14] : List Nat) → F k = F k := fun _ _ => rfl
  have rp0 := i32_rng p0
  refine lv_iload_n hx hb dX12_days_0 rfl (lv_at hl 1 rfl) ?_
  refine lv_iconst (v := 1) hx hb dX12_days_1 (by decide) ?_
  refine lv_sipush (v := 400) hx hb dX12_days_2 (by decide) ?_
  refine va_calli (va_runS (As := [.int p0, .int 1, .int 400]) (rest := []) ⟨hx, hb, hml, hown, hwd⟩ (c_X12_in l dC dI g c adK adV v F rc H.size p0 1 400 hg hI ) (va_cwS 3 hwd (gT wk_254 wk_252 wk_253 wk_5) rfl rfl rfl (by decide +kernel) ⟨Nat.le_of_ble_eq_true rfl, Nat.le_of_ble_eq_true rfl⟩) ⟨PM.blind, fun U hU hW => ⟨rfl, PM.at hK hE hP hS hU hW⟩⟩ rfl rfl hl.1 rfl (lv_room (Nat.le_of_ble_eq_true rfl)) dX12_days_5 ⟨Nat.le_of_ble_eq_true rfl, Nat.le_of_ble_eq_true rfl⟩) hS (fun q _ h => (freeM hS) q h) (freeM hS) (fun r4958 u t H1 locs ht hvm hw hB hz1 hk1 hS => ?_)
  unfold BM at hB
  rw [ht] at hB
  have hP : va_P (dC, dI) classes (wM g c v F rc) H1 := hB
  have hw_r4958 : (r4958.toInt = 1 ∧ (1 : Int32).toInt ≤ p0.toInt ∧ p0.toInt ≤ (400 : Int32).toInt) ∨ (r4958.toInt = 0 ∧ (p0.toInt < (1 : Int32).toInt ∨ (400 : Int32).toInt < p0.toInt)) := hw
  clear hw
  have k4959 : (1 : Int32).toInt = 1 := by decide
  have k4960 : (400 : Int32).toInt = 400 := by decide
  clear hz1
  generalize H1 = H at hP hS ⊢
  refine lv_if_eq (tgt := 23) hx hb dX12_days_8 (by decide) (fun c4961 => ?_) (fun c4961 => ?_)
  · skip
    have t4962 := cv_eq (a := r4958.toInt) rfl (b := 0) (by decide) c4961
    refine lv_iconst (v := (-1)) hx hb dX12_days_23 (by decide) ?_
    have hP9 : va_P (dC, dI) classes (wM g c v F rc) H := hP
    exact W.iret (v := (-1)) hx hb hr (fun t ht hW => ⟨⟨(-1), (v, F, rc), rfl, ⟨hI, rfl, (fun _ _ => rfl), hF, (by show (¬ (1 ≤ p0.toInt ∧ p0.toInt ≤ 400 ∧ (v 1).toInt + p0.toInt ≤ 9999) ∧ ((-1) : Int32).toInt = -1 ∧ (v 1).toInt = (v 1).toInt) ∨ ((1 ≤ p0.toInt ∧ p0.toInt ≤ 400 ∧ (v 1).toInt + p0.toInt ≤ 9999) ∧ ((-1) : Int32).toInt = (v 1).toInt + p0.toInt ∧ (v 1).toInt = (v 1).toInt + p0.toInt); have : ((-1) : Int32).toInt = (-1) := (by decide); omega)⟩, (by show va_P _ _ _ t.heap; rw [ht]; exact hP9)⟩, hS.F ht⟩) hS.2.2 dX12_days_24
  · skip
    have t4963 := cv_ne (a := r4958.toInt) rfl (b := 0) (by decide) c4961
    refine lv_aload_n hx hb dX12_days_11 rfl (lv_at hl 0 rfl) ?_
    refine va_get (D := (dC, dI)) (ci := 12) (v := .int (v 1)) (C := RX12) (T := TX12) (N := 63) hx hb hwd inA_X12 hown hK hP 0 rfl rfl 1 (by decide) (hwd _ wk_332) (fun _ h9 => h9) rfl dX12_days_12 ?_
    have t4964 : 0 ≤ (v 1).toInt ∧ (v 1).toInt ≤ 9999 := hI.1 1 _ _ rfl
    refine lv_iload_n hx hb dX12_days_15 rfl (lv_at hl 1 rfl) ?_
    refine lv_iadd hx hb dX12_days_16 ?_
    refine lv_topi (fun z4965 e4966 => ?_)
    try (have t4967 := tadd e4966 (a := (v 1).toInt) rfl (b := p0.toInt) rfl (by omega))
    refine lv_sipush (v := 9999) hx hb dX12_days_17 (by decide) ?_
    refine lv_icmp_le (tgt := 25) hx hb dX12_days_20 (by decide) (fun c4968 => ?_) (fun c4968 => ?_)
    · skip
      have t4969 := cv_le (a := z4965.toInt) rfl (b := 9999) (by decide) c4968
      refine lv_aload_n hx hb dX12_days_25 rfl (lv_at hl 0 rfl) ?_
      refine lv_dup hx hb dX12_days_26 rfl ?_
      refine va_get (D := (dC, dI)) (ci := 12) (v := .int (v 1)) (C := RX12) (T := TX12) (N := 63) hx hb hwd inA_X12 hown hK hP 0 rfl rfl 1 (by decide) (hwd _ wk_332) (fun _ h9 => h9) rfl dX12_days_27 ?_
      have t4970 : 0 ≤ (v 1).toInt ∧ (v 1).toInt ≤ 9999 := hI.1 1 _ _ rfl
      refine lv_iload_n hx hb dX12_days_30 rfl (lv_at hl 1 rfl) ?_
      refine lv_iadd hx hb dX12_days_31 ?_
      refine lv_topi (fun z4971 e4972 => ?_)
      try (have t4973 := tadd e4972 (a := (v 1).toInt) rfl (b := p0.toInt) rfl (by omega))
      refine va_put (D := (dC, dI)) (ci := 12) (v := .int z4971) (ty := .int) (C := RX12) (T := TX12) (N := 63) (fs := fsM_0 g v rc) hx hb hwd inA_X12 tyX12 tyX12_ok nmX12 hown hK hP (DM hg) hS 0 rfl rfl 1 (by decide) (hwd _ wk_332) (fun _ h9 => h9) rfl (by decide +kernel) rfl rfl (Nat.le_of_ble_eq_true rfl) dX12_days_32 (fun H locs hP _ hS => ?_)
      have hP := va_P_eq (pM_1 g c _ _ _ _) hP
      have hI := IM.put hI 1 z4971 rfl (by omega)
      refine lv_iconst (v := 0) hx hb dX12_days_35 (by decide) ?_
      refine lv_istore_n (lv' := [(2, .int 0), (0, .ref (g 0)), (1, .int p0)]) hx hb dX12_days_36 rfl hl (by decide) rfl (fun ls hl => ?_)
      have lp4974 : ∀ (n : Nat) (x2_lp4974 : Int32) (v_lp4974 : Nat → Int32) (F_lp4974 : Nat → Nat → Int32) (H : Heap) (locs : List Loc) (ls : Array Slot), (0 ≤ x2_lp4974.toInt) → (2147483648 - x2_lp4974.toInt ≤ (n : Int)) → (∀ k, k ∉ ([] : List Nat) → v_lp4974 k = (va_up v 1 z4971) k) → IM v_lp4974 F_lp4974 → (∀ k, k ∉ ([14] : List Nat) → F_lp4974 k = F k) → va_P (dC, dI) classes (wM g c v_lp4974 F_lp4974 rc) H → va_S (AM g s.heap.size) s.heap H locs → lv_has ls 3 [(2, .int x2_lp4974), (0, .ref (g 0)), (1, .int p0)] → W p l e (headSpec (Cond.code yX12_days cX12_days 3 (some .int) :: wA) ({ frames := 2, cells := 0, slots := 0, locals := 80 })).room s m ([.ref (g 0), .int p0] : List Value).toArray below meth c0 H locs 0 0 (MQ below (va_Qi (fun (r : Int32) (u : StM) => IM u.1 u.2.1 ∧ u.2.2 = rc ∧ (∀ k, k ∉ ([1] : List Nat) → u.1 k = v k) ∧ (∀ k, k ∉ ([14] : List Nat) → u.2.1 k = F k) ∧ ((¬ (1 ≤ p0.toInt ∧ p0.toInt ≤ 400 ∧ (v 1).toInt + p0.toInt ≤ 9999) ∧ r.toInt = -1 ∧ (u.1 1).toInt = (v 1).toInt) ∨ ((1 ≤ p0.toInt ∧ p0.toInt ≤ 400 ∧ (v 1).toInt + p0.toInt ≤ 9999) ∧ r.toInt = (v 1).toInt + p0.toInt ∧ (u.1 1).toInt = (v 1).toInt + p0.toInt))) (BM dC dI g c) (AM g s.heap.size)) ([.ref (g 0), .int p0] : List Value).toArray s 0 0 (AM g s.heap.size)) (F0 m 37 ls []) := by
        intro n
        induction n with
        | zero =>
          intro x2_lp4974 v_lp4974 F_lp4974 H locs ls t4975 hm hf_lp4974 hI hF hP hS hl
          exfalso
          have := i32_rng x2_lp4974
          have hI1 := hI.1
          omega
        | succ n ih_lp4974 =>
          intro x2_lp4974 v_lp4974 F_lp4974 H locs ls t4975 hm hf_lp4974 hI hF hP hS hl
          have rx2_lp4974 := i32_rng x2_lp4974
          refine lv_iload_n hx hb dX12_days_37 rfl (lv_at hl 0 rfl) ?_
          refine lv_aload_n hx hb dX12_days_38 rfl (lv_at hl 1 rfl) ?_
          refine va_get (D := (dC, dI)) (ci := 12) (v := .int (v_lp4974 14)) (C := RX12) (T := TX12) (N := 63) hx hb hwd inA_X12 hown hK hP 0 rfl rfl 14 (by decide) (hwd _ wk_318) (fun _ h9 => h9) rfl dX12_days_39 ?_
          refine my_top (v := v 14) (hf_lp4974 14 (by decide)) ?_
          have t4976 : 0 ≤ (v 14).toInt ∧ (v 14).toInt ≤ 100 := by have h9 := hI.1 14 _ _ rfl; rw [show v_lp4974 14 = v 14 from hf_lp4974 14 (by decide)] at h9; exact h9
          refine lv_icmp_ge (tgt := 76) hx hb dX12_days_42 (by decide) (fun c4977 => ?_) (fun c4977 => ?_)
          · skip
            have t4978 := cv_le (a := (v 14).toInt) rfl (b := x2_lp4974.toInt) rfl c4977
            refine lv_aload_n hx hb dX12_days_76 rfl (lv_at hl 1 rfl) ?_
            refine va_get (D := (dC, dI)) (ci := 12) (v := .int (v_lp4974 1)) (C := RX12) (T := TX12) (N := 63) hx hb hwd inA_X12 hown hK hP 0 rfl rfl 1 (by decide) (hwd _ wk_332) (fun _ h9 => h9) rfl dX12_days_77 ?_
            refine my_top (v := z4971) (hf_lp4974 1 (by decide)) ?_
            have t4979 : 0 ≤ z4971.toInt ∧ z4971.toInt ≤ 9999 := by have h9 := hI.1 1 _ _ rfl; rw [show v_lp4974 1 = z4971 from hf_lp4974 1 (by decide)] at h9; exact h9
            have hP9 : va_P (dC, dI) classes (wM g c v_lp4974 F_lp4974 rc) H := hP
            exact W.iret (v := z4971) hx hb hr (fun t ht hW => ⟨⟨z4971, (v_lp4974, F_lp4974, rc), rfl, ⟨hI, rfl, (frC (by decide) hf_lp4974 (frU (by decide) (fun _ _ => rfl))), hF, (by show (¬ (1 ≤ p0.toInt ∧ p0.toInt ≤ 400 ∧ (v 1).toInt + p0.toInt ≤ 9999) ∧ z4971.toInt = -1 ∧ (v_lp4974 1).toInt = (v 1).toInt) ∨ ((1 ≤ p0.toInt ∧ p0.toInt ≤ 400 ∧ (v 1).toInt + p0.toInt ≤ 9999) ∧ z4971.toInt = (v 1).toInt + p0.toInt ∧ (v_lp4974 1).toInt = (v 1).toInt + p0.toInt); rw [show v_lp4974 1 = z4971 from hf_lp4974 1 (by decide)]; omega)⟩, (by show va_P _ _ _ t.heap; rw [ht]; exact hP9)⟩, hS.F ht⟩) hS.2.2 dX12_days_80
          · skip
            have t4980 := cv_nle (a := (v 14).toInt) rfl (b := x2_lp4974.toInt) rfl c4977
            refine lv_aload_n hx hb dX12_days_45 rfl (lv_at hl 1 rfl) ?_
            refine va_get (D := (dC, dI)) (ci := 12) (v := .ref (g 13)) (C := RX12) (T := TX12) (N := 63) hx hb hwd inA_X12 hown hK hP 0 rfl rfl 17 (by decide) (hwd _ wk_194) (fun _ h9 => h9) rfl dX12_days_46 ?_
            refine lv_iload_n hx hb dX12_days_49 rfl (lv_at hl 0 rfl) ?_
            refine va_iald hx hb hK hP 13 12 rfl rfl (i := x2_lp4974) (vin (a := x2_lp4974.toInt) rfl (by omega)) dX12_days_50 ?_
            refine lv_topi (fun z4981 e4982 => ?_)
            have t4983 : 0 ≤ z4981.toInt ∧ z4981.toInt ≤ 12 := by rw [e4982]; exact hI.2 13 _ _ rfl _
            have e4982 : z4981 = F 13 (x2_lp4974 : Int32).toNatClampNeg := e4982.trans (congrFun (hF 13 (by decide)) _)
            refine lv_bipush (v := 12) hx hb dX12_days_51 (by decide) ?_
            refine lv_icmp_eq (tgt := 70) hx hb dX12_days_53 (by decide) (fun c4984 => ?_) (fun c4984 => ?_)
            · skip
              have t4985 := cv_eq (a := z4981.toInt) rfl (b := 12) (by decide) c4984
              obtain ⟨z4986, e4987⟩ : ∃ y : Int32, y = x2_lp4974 + 1 := ⟨_, rfl⟩
              try (have t4988 := tadd e4987 rfl (b := 1) (by decide) (by omega))
              refine lv_iinc (v := z4986) (lv' := [(2, .int z4986), (0, .ref (g 0)), (1, .int p0)]) hx hb dX12_days_70 hl (k := 0) rfl (by rw [e4987]; rfl) (by decide) rfl (fun ls hl => ?_)
              refine lv_goto (tgt := 37) hx hb dX12_days_73 (by decide) ?_
              exact ih_lp4974 z4986 v_lp4974 F_lp4974 _ _ _ (by omega) (by omega) hf_lp4974 hI hF hP hS (lv_sub hl [0, 1, 2] rfl)
            · skip
              have t4989 := cv_ne (a := z4981.toInt) rfl (b := 12) (by decide) c4984
              refine lv_aload_n hx hb dX12_days_56 rfl (lv_at hl 1 rfl) ?_
              refine va_get (D := (dC, dI)) (ci := 12) (v := .ref (g 14)) (C := RX12) (T := TX12) (N := 63) hx hb hwd inA_X12 hown hK hP 0 rfl rfl 18 (by decide) (hwd _ wk_195) (fun _ h9 => h9) rfl dX12_days_57 ?_
              refine lv_iconst (v := 3) hx hb dX12_days_60 (by decide) ?_
              refine lv_iload_n hx hb dX12_days_61 rfl (lv_at hl 0 rfl) ?_
              refine lv_imul hx hb dX12_days_62 ?_
              refine lv_topi (fun z4990 e4991 => ?_)
              try (have t4992 := tmul e4991 (a := 3) (by decide) (b := x2_lp4974.toInt) rfl (by omega))
              refine lv_iconst (v := 2) hx hb dX12_days_63 (by decide) ?_
              refine lv_iadd hx hb dX12_days_64 ?_
              refine lv_topi (fun z4993 e4994 => ?_)
              try (have t4995 := tadd e4994 (a := z4990.toInt) rfl (b := 2) (by decide) (by omega))
              refine lv_dup2_11 hx hb dX12_days_65 rfl rfl ?_
              refine va_iald hx hb hK hP 14 13 rfl rfl (i := z4993) (vin (a := z4993.toInt) rfl (by omega)) dX12_days_66 ?_
              refine lv_topi (fun z4996 e4997 => ?_)
              refine lv_iload_n hx hb dX12_days_67 rfl (lv_at hl 2 rfl) ?_
              refine lv_iadd hx hb dX12_days_68 ?_
              refine lv_topi (fun z4998 e4999 => ?_)
              try (have t5000 := tadd e4999 (a := z4996.toInt) rfl (b := p0.toInt) rfl (by omega))
              refine va_iast hx hb hK hP (DM hg) hS 14 13 rfl rfl (i := z4993) (x := z4998) (vin (a := z4993.toInt) rfl (by omega)) dX12_days_69 (fun H locs hP _ hS => ?_)
              have hP := va_P_eq (sM_14 g c _ _ _ _) hP
              have hI := IM.store0 hI 14 (z4993 : Int32).toNatClampNeg z4998 rfl
              have hF := frUF (k := 14) (f := upd (F_lp4974 14) (z4993 : Int32).toNatClampNeg z4998) (by decide) hF
              have hP : va_P (dC, dI) classes (wM g c v_lp4974 (va_up F_lp4974 14 (upd (F_lp4974 14) (z4993 : Int32).toNatClampNeg z4998)) rc) H := hP
              generalize (va_up F_lp4974 14 (upd (F_lp4974 14) (z4993 : Int32).toNatClampNeg z4998)) = F5001 at hP hI hF
              obtain ⟨z5002, e5003⟩ : ∃ y : Int32, y = x2_lp4974 + 1 := ⟨_, rfl⟩
              try (have t5004 := tadd e5003 rfl (b := 1) (by decide) (by omega))
              refine lv_iinc (v := z5002) (lv' := [(2, .int z5002), (0, .ref (g 0)), (1, .int p0)]) hx hb dX12_days_70 hl (k := 0) rfl (by rw [e5003]; rfl) (by decide) rfl (fun ls hl => ?_)
              refine lv_goto (tgt := 37) hx hb dX12_days_73 (by decide) ?_
              exact ih_lp4974 z5002 v_lp4974 F5001 _ _ _ (by omega) (by omega) hf_lp4974 hI hF hP hS (lv_sub hl [0, 1, 2] rfl)
      obtain ⟨n9, hn9⟩ : ∃ n : Nat, 2147483648 - 0 ≤ (n : Int) := ⟨((2147483648 - 0 : Int)).toNat, by omega⟩
      exact lp4974 n9 0 (va_up v 1 z4971) F H _ ls (by have : (0 : Int32).toInt = 0 := (by decide); omega) (by have : (0 : Int32).toInt = 0 := (by decide); omega) (fun _ _ => rfl) hI hF hP hS hl
    · skip
      have t5005 := cv_nle (a := z4965.toInt) rfl (b := 9999) (by decide) c4968
      refine lv_iconst (v := (-1)) hx hb dX12_days_23 (by decide) ?_
      have hP9 : va_P (dC, dI) classes (wM g c v F rc) H := hP
      exact W.iret (v := (-1)) hx hb hr (fun t ht hW => ⟨⟨(-1), (v, F, rc), rfl, ⟨hI, rfl, (fun _ _ => rfl), hF, (by show (¬ (1 ≤ p0.toInt ∧ p0.toInt ≤ 400 ∧ (v 1).toInt + p0.toInt ≤ 9999) ∧ ((-1) : Int32).toInt = -1 ∧ (v 1).toInt = (v 1).toInt) ∨ ((1 ≤ p0.toInt ∧ p0.toInt ≤ 400 ∧ (v 1).toInt + p0.toInt ≤ 9999) ∧ ((-1) : Int32).toInt = (v 1).toInt + p0.toInt ∧ (v 1).toInt = (v 1).toInt + p0.toInt); have : ((-1) : Int32).toInt = (-1) := (by decide); omega)⟩, (by show va_P _ _ _ t.heap; rw [ht]; exact hP9)⟩, hS.F ht⟩) hS.2.2 dX12_days_24
set_option maxHeartbeats 8000000 in
set_option maxRecDepth 100000 in
theorem c_X12_order (l : Launch) (dC : Nat → ClassId) (dI : Nat → Nat → Nat) (g : Nat → Nat) (c : Nat → ClassId) (adK adV : Nat → Nat) (v : Nat → Int32) (F : Nat → Nat → Int32) (rc sz : Nat) (p0 : Int32) (p1 : Int32) (hg : injM g) (hI : IM v F) : Met l yX12_order (Cond.code yX12_order cX12_order 3 (some .int) :: wA) ({ frames := 3, cells := 0, slots := 0, locals := 120 }) (va_Pc [.ref (g 0), .int p0, .int p1] (PM dC dI g c adK adV v F rc sz)) (va_Qi (fun (r : Int32) (u : StM) => IM u.1 u.2.1 ∧ u.2.2 = rc ∧ (∀ k, k ∉ ([45] : List Nat) → u.1 k = v k) ∧ (∀ k, k ∉ ([32, 33] : List Nat) → u.2.1 k = F k) ∧ ((¬ ((0 ≤ p0.toInt ∧ p0.toInt < (v 2).toInt) ∧ (0 ≤ p1.toInt ∧ p1.toInt ≤ 9999)) ∧ r.toInt = -1 ∧ (u.1 45).toInt = (v 45).toInt) ∨ (((0 ≤ p0.toInt ∧ p0.toInt < (v 2).toInt) ∧ (0 ≤ p1.toInt ∧ p1.toInt ≤ 9999)) ∧ (v 45).toInt = 20 ∧ r.toInt = -3 ∧ (u.1 45).toInt = (v 45).toInt) ∨ (((0 ≤ p0.toInt ∧ p0.toInt < (v 2).toInt) ∧ (0 ≤ p1.toInt ∧ p1.toInt ≤ 9999)) ∧ (v 45).toInt < 20 ∧ r.toInt = (v 45).toInt ∧ (u.1 45).toInt = (v 45).toInt + 1))) (BM dC dI g c) (AM g sz)) 0 0 (AM g sz) := by
  refine Met.ofW (cc := cX12_order) (maxL := 3) (ret := (some .int)) (by decide) rfl ?_
  intro p e s m args below meth c0 s₁ B hml hv
  obtain ⟨rfl, hsz, hP, hK, hE⟩ := hv
  have hx := B.exec
  have hb := B.bytes
  have hr := B.returns
  have hts := atoms_spec (ws := Cond.code yX12_order cX12_order 3 (some .int) :: wA) B.pre
  have hwd : ∀ w ∈ wA, w.before _ s = true := fun w h => hts w (List.mem_cons_of_mem _ h)
  have hown : s.vm.findClass RX12 = some m.cls := findClass_of_methodNamed B.named
  have hlocks := B.notSynchronized
  subst hsz
  have hl := lv_entry ([.ref (g 0), .int p0, .int p1]) (n := 3) (Nat.le_of_ble_eq_true rfl)
  rw [lg_entry_eq]
  generalize (lg_sl ([.ref (g 0), .int p0, .int p1]) ++ List.replicate (3 - (lg_sl ([.ref (g 0), .int p0, .int p1])).length) Slot.unset).toArray = ls at hl ⊢
  have hl : lv_has ls 3 [(0, .ref (g 0)), (1, .int p0), (2, .int p1)] := hl
  obtain ⟨H, eH⟩ : ∃ z, z = s.heap := ⟨_, rfl⟩
  have hP : va_P (dC, dI) classes (wM g c v F rc) H := by rw [eH]; exact hP
  have hS : va_S (AM g s.heap.size) s.heap H [] := by rw [eH]; exact va_S.rf
  refine my_heap eH ?_
  have hF : ∀ k, k ∉ ([32, 33] : List Nat) → F k = F k := fun _ _ => rfl
  have rp0 := i32_rng p0
  have rp1 := i32_rng p1
  refine lv_aload_n hx hb dX12_order_0 rfl (lv_at hl 0 rfl) ?_
  refine lv_iload_n hx hb dX12_order_1 rfl (lv_at hl 1 rfl) ?_
  have t5031 : 0 ≤ (v 2).toInt ∧ (v 2).toInt ≤ 10 := hI.1 2 _ _ rfl
  refine va_calli (va_runV (As := [.int p0]) (rest := []) ⟨hx, hb, hml, hown, hwd⟩ (c_X12_isKind l dC dI g c adK adV v F rc H.size p0 hg hI ) (cwV 1 hwd (gV wk_309 wk_306 wk_307 wk_308 wk_5) rfl rfl rfl (by decide +kernel) ⟨Nat.le_of_ble_eq_true rfl, Nat.le_of_ble_eq_true rfl⟩) ⟨PM.blind, va_recv hK hP (ci := 12) (q0 := 0) rfl rfl, fun U hU hW => ⟨rfl, PM.at hK hE hP hS hU hW⟩⟩ rfl rfl hl.1 rfl (lv_room (Nat.le_of_ble_eq_true rfl)) dX12_order_2 ⟨Nat.le_of_ble_eq_true rfl, Nat.le_of_ble_eq_true rfl⟩) hS (fun q _ h => (freeM hS) q h) (freeM hS) (fun r5032 u t H1 locs ht hvm hw hB hz1 hk1 hS => ?_)
  unfold BM at hB
  rw [ht] at hB
  have hP : va_P (dC, dI) classes (wM g c v F rc) H1 := hB
  replace hw : (r5032.toInt = 1 ∧ 0 ≤ p0.toInt ∧ p0.toInt < (v 2).toInt) ∨ (r5032.toInt = 0 ∧ (p0.toInt < 0 ∨ (v 2).toInt ≤ p0.toInt)) := hw
  have hw_r5032 := hw
  clear hw
  clear hz1
  generalize H1 = H at hP hS ⊢
  refine lv_if_eq (tgt := 15) hx hb dX12_order_5 (by decide) (fun c5033 => ?_) (fun c5033 => ?_)
  · skip
    have t5034 := cv_eq (a := r5032.toInt) rfl (b := 0) (by decide) c5033
    refine lv_iconst (v := (-1)) hx hb dX12_order_15 (by decide) ?_
    have hP9 : va_P (dC, dI) classes (wM g c v F rc) H := hP
    exact W.iret (v := (-1)) hx hb hr (fun t ht hW => ⟨⟨(-1), (v, F, rc), rfl, ⟨hI, rfl, (fun _ _ => rfl), hF, (by show (¬ ((0 ≤ p0.toInt ∧ p0.toInt < (v 2).toInt) ∧ (0 ≤ p1.toInt ∧ p1.toInt ≤ 9999)) ∧ ((-1) : Int32).toInt = -1 ∧ (v 45).toInt = (v 45).toInt) ∨ (((0 ≤ p0.toInt ∧ p0.toInt < (v 2).toInt) ∧ (0 ≤ p1.toInt ∧ p1.toInt ≤ 9999)) ∧ (v 45).toInt = 20 ∧ ((-1) : Int32).toInt = -3 ∧ (v 45).toInt = (v 45).toInt) ∨ (((0 ≤ p0.toInt ∧ p0.toInt < (v 2).toInt) ∧ (0 ≤ p1.toInt ∧ p1.toInt ≤ 9999)) ∧ (v 45).toInt < 20 ∧ ((-1) : Int32).toInt = (v 45).toInt ∧ (v 45).toInt = (v 45).toInt + 1); have : ((-1) : Int32).toInt = (-1) := (by decide); omega)⟩, (by show va_P _ _ _ t.heap; rw [ht]; exact hP9)⟩, hS.F ht⟩) hS.2.2 dX12_order_16
  · skip
    have t5035 := cv_ne (a := r5032.toInt) rfl (b := 0) (by decide) c5033
    refine lv_iload_n hx hb dX12_order_8 rfl (lv_at hl 2 rfl) ?_
    refine va_calli (va_runS (As := [.int p1]) (rest := []) ⟨hx, hb, hml, hown, hwd⟩ (c_X12_isDay l dC dI g c adK adV v F rc H.size p1 hg hI ) (va_cwS 1 hwd (gT wk_556 wk_554 wk_555 wk_5) rfl rfl rfl (by decide +kernel) ⟨Nat.le_of_ble_eq_true rfl, Nat.le_of_ble_eq_true rfl⟩) ⟨PM.blind, fun U hU hW => ⟨rfl, PM.at hK hE hP hS hU hW⟩⟩ rfl rfl hl.1 rfl (lv_room (Nat.le_of_ble_eq_true rfl)) dX12_order_9 ⟨Nat.le_of_ble_eq_true rfl, Nat.le_of_ble_eq_true rfl⟩) hS (fun q _ h => (freeM hS) q h) (freeM hS) (fun r5036 u t H1 locs ht hvm hw hB hz1 hk1 hS => ?_)
    unfold BM at hB
    rw [ht] at hB
    have hP : va_P (dC, dI) classes (wM g c v F rc) H1 := hB
    have hw_r5036 : (r5036.toInt = 1 ∧ 0 ≤ p1.toInt ∧ p1.toInt ≤ 9999) ∨ (r5036.toInt = 0 ∧ (p1.toInt < 0 ∨ 9999 < p1.toInt)) := hw
    clear hw
    clear hz1
    generalize H1 = H at hP hS ⊢
    refine lv_if_ne (tgt := 17) hx hb dX12_order_12 (by decide) (fun c5037 => ?_) (fun c5037 => ?_)
    · skip
      have t5038 := cv_ne (a := r5036.toInt) rfl (b := 0) (by decide) c5037
      refine lv_aload_n hx hb dX12_order_17 rfl (lv_at hl 0 rfl) ?_
      refine va_get (D := (dC, dI)) (ci := 12) (v := .int (v 45)) (C := RX12) (T := TX12) (N := 63) hx hb hwd inA_X12 hown hK hP 0 rfl rfl 45 (by decide) (hwd _ wk_485) (fun _ h9 => h9) rfl dX12_order_18 ?_
      have t5039 : 0 ≤ (v 45).toInt ∧ (v 45).toInt ≤ 20 := hI.1 45 _ _ rfl
      refine lv_bipush (v := 20) hx hb dX12_order_21 (by decide) ?_
      refine lv_icmp_ne (tgt := 29) hx hb dX12_order_23 (by decide) (fun c5040 => ?_) (fun c5040 => ?_)
      · skip
        have t5041 := cv_ne (a := (v 45).toInt) rfl (b := 20) (by decide) c5040
        refine lv_aload_n hx hb dX12_order_29 rfl (lv_at hl 0 rfl) ?_
        refine va_get (D := (dC, dI)) (ci := 12) (v := .ref (g 32)) (C := RX12) (T := TX12) (N := 63) hx hb hwd inA_X12 hown hK hP 0 rfl rfl 46 (by decide) (hwd _ wk_214) (fun _ h9 => h9) rfl dX12_order_30 ?_
        refine lv_aload_n hx hb dX12_order_33 rfl (lv_at hl 0 rfl) ?_
        refine va_get (D := (dC, dI)) (ci := 12) (v := .int (v 45)) (C := RX12) (T := TX12) (N := 63) hx hb hwd inA_X12 hown hK hP 0 rfl rfl 45 (by decide) (hwd _ wk_485) (fun _ h9 => h9) rfl dX12_order_34 ?_
        have t5042 : 0 ≤ (v 45).toInt ∧ (v 45).toInt ≤ 20 := hI.1 45 _ _ rfl
        refine lv_iload_n hx hb dX12_order_37 rfl (lv_at hl 1 rfl) ?_
        refine va_iast hx hb hK hP (DM hg) hS 32 31 rfl rfl (i := (v 45)) (x := p0) (vin (a := (v 45).toInt) rfl (by omega)) dX12_order_38 (fun H locs hP _ hS => ?_)
        have hP := va_P_eq (sM_32 g c _ _ _ _) hP
        have hI := IM.store hI 32 (v 45 : Int32).toNatClampNeg p0 rfl (by omega)
        have hF := frUF (k := 32) (f := upd (F 32) (v 45 : Int32).toNatClampNeg p0) (by decide) hF
        have hP : va_P (dC, dI) classes (wM g c v (va_up F 32 (upd (F 32) (v 45 : Int32).toNatClampNeg p0)) rc) H := hP
        generalize (va_up F 32 (upd (F 32) (v 45 : Int32).toNatClampNeg p0)) = F5043 at hP hI hF
        refine lv_aload_n hx hb dX12_order_39 rfl (lv_at hl 0 rfl) ?_
        refine va_get (D := (dC, dI)) (ci := 12) (v := .ref (g 33)) (C := RX12) (T := TX12) (N := 63) hx hb hwd inA_X12 hown hK hP 0 rfl rfl 47 (by decide) (hwd _ wk_215) (fun _ h9 => h9) rfl dX12_order_40 ?_
        refine lv_aload_n hx hb dX12_order_43 rfl (lv_at hl 0 rfl) ?_
        refine va_get (D := (dC, dI)) (ci := 12) (v := .int (v 45)) (C := RX12) (T := TX12) (N := 63) hx hb hwd inA_X12 hown hK hP 0 rfl rfl 45 (by decide) (hwd _ wk_485) (fun _ h9 => h9) rfl dX12_order_44 ?_
        have t5044 : 0 ≤ (v 45).toInt ∧ (v 45).toInt ≤ 20 := hI.1 45 _ _ rfl
        refine lv_iload_n hx hb dX12_order_47 rfl (lv_at hl 2 rfl) ?_
        refine va_iast hx hb hK hP (DM hg) hS 33 32 rfl rfl (i := (v 45)) (x := p1) (vin (a := (v 45).toInt) rfl (by omega)) dX12_order_48 (fun H locs hP _ hS => ?_)
        have hP := va_P_eq (sM_33 g c _ _ _ _) hP
        have hI := IM.store0 hI 33 (v 45 : Int32).toNatClampNeg p1 rfl
        have hF := frUF (k := 33) (f := upd (F5043 33) (v 45 : Int32).toNatClampNeg p1) (by decide) hF
        have hP : va_P (dC, dI) classes (wM g c v (va_up F5043 33 (upd (F5043 33) (v 45 : Int32).toNatClampNeg p1)) rc) H := hP
        generalize (va_up F5043 33 (upd (F5043 33) (v 45 : Int32).toNatClampNeg p1)) = F5045 at hP hI hF
        refine lv_aload_n hx hb dX12_order_49 rfl (lv_at hl 0 rfl) ?_
        refine lv_dup hx hb dX12_order_50 rfl ?_
        refine va_get (D := (dC, dI)) (ci := 12) (v := .int (v 45)) (C := RX12) (T := TX12) (N := 63) hx hb hwd inA_X12 hown hK hP 0 rfl rfl 45 (by decide) (hwd _ wk_485) (fun _ h9 => h9) rfl dX12_order_51 ?_
        have t5046 : 0 ≤ (v 45).toInt ∧ (v 45).toInt ≤ 20 := hI.1 45 _ _ rfl
        refine lv_iconst (v := 1) hx hb dX12_order_54 (by decide) ?_
        refine lv_iadd hx hb dX12_order_55 ?_
        refine lv_topi (fun z5047 e5048 => ?_)
        try (have t5049 := tadd e5048 (a := (v 45).toInt) rfl (b := 1) (by decide) (by omega))
        refine va_put (D := (dC, dI)) (ci := 12) (v := .int z5047) (ty := .int) (C := RX12) (T := TX12) (N := 63) (fs := fsM_0 g v rc) hx hb hwd inA_X12 tyX12 tyX12_ok nmX12 hown hK hP (DM hg) hS 0 rfl rfl 45 (by decide) (hwd _ wk_485) (fun _ h9 => h9) rfl (by decide +kernel) rfl rfl (Nat.le_of_ble_eq_true rfl) dX12_order_56 (fun H locs hP _ hS => ?_)
        have hP := va_P_eq (pM_45 g c _ _ _ _) hP
        have hI := IM.put hI 45 z5047 rfl (by omega)
        refine lv_aload_n hx hb dX12_order_59 rfl (lv_at hl 0 rfl) ?_
        refine va_get (D := (dC, dI)) (ci := 12) (v := .int z5047) (C := RX12) (T := TX12) (N := 63) hx hb hwd inA_X12 hown hK hP 0 rfl rfl 45 (by decide) (hwd _ wk_485) (fun _ h9 => h9) rfl dX12_order_60 ?_
        have t5050 : 0 ≤ z5047.toInt ∧ z5047.toInt ≤ 20 := hI.1 45 _ _ rfl
        refine lv_iconst (v := 1) hx hb dX12_order_63 (by decide) ?_
        refine lv_isub hx hb dX12_order_64 ?_
        refine lv_topi (fun z5051 e5052 => ?_)
        try (have t5053 := tsub e5052 (a := z5047.toInt) rfl (b := 1) (by decide) (by omega))
        have hP9 : va_P (dC, dI) classes (wM g c (va_up v 45 z5047) F5045 rc) H := hP
        exact W.iret (v := z5051) hx hb hr (fun t ht hW => ⟨⟨z5051, ((va_up v 45 z5047), F5045, rc), rfl, ⟨hI, rfl, (frU (by decide) (fun _ _ => rfl)), hF, (by show (¬ ((0 ≤ p0.toInt ∧ p0.toInt < (v 2).toInt) ∧ (0 ≤ p1.toInt ∧ p1.toInt ≤ 9999)) ∧ z5051.toInt = -1 ∧ z5047.toInt = (v 45).toInt) ∨ (((0 ≤ p0.toInt ∧ p0.toInt < (v 2).toInt) ∧ (0 ≤ p1.toInt ∧ p1.toInt ≤ 9999)) ∧ (v 45).toInt = 20 ∧ z5051.toInt = -3 ∧ z5047.toInt = (v 45).toInt) ∨ (((0 ≤ p0.toInt ∧ p0.toInt < (v 2).toInt) ∧ (0 ≤ p1.toInt ∧ p1.toInt ≤ 9999)) ∧ (v 45).toInt < 20 ∧ z5051.toInt = (v 45).toInt ∧ z5047.toInt = (v 45).toInt + 1); omega)⟩, (by show va_P _ _ _ t.heap; rw [ht]; exact hP9)⟩, hS.F ht⟩) hS.2.2 dX12_order_65
      · skip
        have t5054 := cv_eq (a := (v 45).toInt) rfl (b := 20) (by decide) c5040
        refine lv_bipush (v := (-3)) hx hb dX12_order_26 (by decide) ?_
        have hP9 : va_P (dC, dI) classes (wM g c v F rc) H := hP
        exact W.iret (v := (-3)) hx hb hr (fun t ht hW => ⟨⟨(-3), (v, F, rc), rfl, ⟨hI, rfl, (fun _ _ => rfl), hF, (by show (¬ ((0 ≤ p0.toInt ∧ p0.toInt < (v 2).toInt) ∧ (0 ≤ p1.toInt ∧ p1.toInt ≤ 9999)) ∧ ((-3) : Int32).toInt = -1 ∧ (v 45).toInt = (v 45).toInt) ∨ (((0 ≤ p0.toInt ∧ p0.toInt < (v 2).toInt) ∧ (0 ≤ p1.toInt ∧ p1.toInt ≤ 9999)) ∧ (v 45).toInt = 20 ∧ ((-3) : Int32).toInt = -3 ∧ (v 45).toInt = (v 45).toInt) ∨ (((0 ≤ p0.toInt ∧ p0.toInt < (v 2).toInt) ∧ (0 ≤ p1.toInt ∧ p1.toInt ≤ 9999)) ∧ (v 45).toInt < 20 ∧ ((-3) : Int32).toInt = (v 45).toInt ∧ (v 45).toInt = (v 45).toInt + 1); have : ((-3) : Int32).toInt = (-3) := (by decide); omega)⟩, (by show va_P _ _ _ t.heap; rw [ht]; exact hP9)⟩, hS.F ht⟩) hS.2.2 dX12_order_28
    · skip
      have t5055 := cv_eq (a := r5036.toInt) rfl (b := 0) (by decide) c5037
      refine lv_iconst (v := (-1)) hx hb dX12_order_15 (by decide) ?_
      have hP9 : va_P (dC, dI) classes (wM g c v F rc) H := hP
      exact W.iret (v := (-1)) hx hb hr (fun t ht hW => ⟨⟨(-1), (v, F, rc), rfl, ⟨hI, rfl, (fun _ _ => rfl), hF, (by show (¬ ((0 ≤ p0.toInt ∧ p0.toInt < (v 2).toInt) ∧ (0 ≤ p1.toInt ∧ p1.toInt ≤ 9999)) ∧ ((-1) : Int32).toInt = -1 ∧ (v 45).toInt = (v 45).toInt) ∨ (((0 ≤ p0.toInt ∧ p0.toInt < (v 2).toInt) ∧ (0 ≤ p1.toInt ∧ p1.toInt ≤ 9999)) ∧ (v 45).toInt = 20 ∧ ((-1) : Int32).toInt = -3 ∧ (v 45).toInt = (v 45).toInt) ∨ (((0 ≤ p0.toInt ∧ p0.toInt < (v 2).toInt) ∧ (0 ≤ p1.toInt ∧ p1.toInt ≤ 9999)) ∧ (v 45).toInt < 20 ∧ ((-1) : Int32).toInt = (v 45).toInt ∧ (v 45).toInt = (v 45).toInt + 1); have : ((-1) : Int32).toInt = (-1) := (by decide); omega)⟩, (by show va_P _ _ _ t.heap; rw [ht]; exact hP9)⟩, hS.F ht⟩) hS.2.2 dX12_order_16
set_option maxHeartbeats 8000000 in
set_option maxRecDepth 100000 in
theorem c_X12_need (l : Launch) (dC : Nat → ClassId) (dI : Nat → Nat → Nat) (g : Nat → Nat) (c : Nat → ClassId) (adK adV : Nat → Nat) (v : Nat → Int32) (F : Nat → Nat → Int32) (rc sz : Nat) (p0 : Int32) (p1 : Int32) (p2 : Int32) (hg : injM g) (hI : IM v F) : Met l yX12_need (Cond.code yX12_need cX12_need 5 (some .int) :: wA) ({ frames := 3, cells := 0, slots := 0, locals := 120 }) (va_Pc [.ref (g 0), .int p0, .int p1, .int p2] (PM dC dI g c adK adV v F rc sz)) (va_Qi (fun (r : Int32) (u : StM) => IM u.1 u.2.1 ∧ u.2.2 = rc ∧ (∀ k, k ∉ ([] : List Nat) → u.1 k = v k) ∧ (∀ k, k ∉ ([9] : List Nat) → u.2.1 k = F k) ∧ True) (BM dC dI g c) (AM g sz)) 0 0 (AM g sz) := by
  refine Met.ofW (cc := cX12_need) (maxL := 5) (ret := (some .int)) (by decide) rfl ?_
  intro p e s m args below meth c0 s₁ B hml hv
  obtain ⟨rfl, hsz, hP, hK, hE⟩ := hv
  have hx := B.exec
  have hb := B.bytes
  have hr := B.returns
  have hts := atoms_spec (ws := Cond.code yX12_need cX12_need 5 (some .int) :: wA) B.pre
  have hwd : ∀ w ∈ wA, w.before _ s = true := fun w h => hts w (List.mem_cons_of_mem _ h)
  have hown : s.vm.findClass RX12 = some m.cls := findClass_of_methodNamed B.named
  have hlocks := B.notSynchronized
  subst hsz
  have hl := lv_entry ([.ref (g 0), .int p0, .int p1, .int p2]) (n := 5) (Nat.le_of_ble_eq_true rfl)
  rw [lg_entry_eq]
  generalize (lg_sl ([.ref (g 0), .int p0, .int p1, .int p2]) ++ List.replicate (5 - (lg_sl ([.ref (g 0), .int p0, .int p1, .int p2])).length) Slot.unset).toArray = ls at hl ⊢
  have hl : lv_has ls 5 [(0, .ref (g 0)), (1, .int p0), (2, .int p1), (3, .int p2)] := hl
  obtain ⟨H, eH⟩ : ∃ z, z = s.heap := ⟨_, rfl⟩
  have hP : va_P (dC, dI) classes (wM g c v F rc) H := by rw [eH]; exact hP
  have hS : va_S (AM g s.heap.size) s.heap H [] := by rw [eH]; exact va_S.rf
  refine my_heap eH ?_
  have hF : ∀ k, k ∉ ([9] : List Nat) → F k = F k := fun _ _ => rfl
  have rp0 := i32_rng p0
  have rp1 := i32_rng p1
  have rp2 := i32_rng p2
  refine lv_aload_n hx hb dX12_need_0 rfl (lv_at hl 0 rfl) ?_
  refine lv_iload_n hx hb dX12_need_1 rfl (lv_at hl 1 rfl) ?_
  have t5095 : 0 ≤ (v 6).toInt ∧ (v 6).toInt ≤ 10 := hI.1 6 _ _ rfl
  refine va_calli (va_runV (As := [.int p0]) (rest := []) ⟨hx, hb, hml, hown, hwd⟩ (c_X12_isPlane l dC dI g c adK adV v F rc H.size p0 hg hI ) (cwV 1 hwd (gV wk_305 wk_302 wk_303 wk_304 wk_5) rfl rfl rfl (by decide +kernel) ⟨Nat.le_of_ble_eq_true rfl, Nat.le_of_ble_eq_true rfl⟩) ⟨PM.blind, va_recv hK hP (ci := 12) (q0 := 0) rfl rfl, fun U hU hW => ⟨rfl, PM.at hK hE hP hS hU hW⟩⟩ rfl rfl hl.1 rfl (lv_room (Nat.le_of_ble_eq_true rfl)) dX12_need_2 ⟨Nat.le_of_ble_eq_true rfl, Nat.le_of_ble_eq_true rfl⟩) hS (fun q _ h => (freeM hS) q h) (freeM hS) (fun r5096 u t H1 locs ht hvm hw hB hz1 hk1 hS => ?_)
  unfold BM at hB
  rw [ht] at hB
  have hP : va_P (dC, dI) classes (wM g c v F rc) H1 := hB
  replace hw : (r5096.toInt = 1 ∧ 0 ≤ p0.toInt ∧ p0.toInt < (v 6).toInt) ∨ (r5096.toInt = 0 ∧ (p0.toInt < 0 ∨ (v 6).toInt ≤ p0.toInt)) := hw
  have hw_r5096 := hw
  clear hw
  clear hz1
  generalize H1 = H at hP hS ⊢
  refine lv_if_eq (tgt := 25) hx hb dX12_need_5 (by decide) (fun c5097 => ?_) (fun c5097 => ?_)
  · skip
    have t5098 := cv_eq (a := r5096.toInt) rfl (b := 0) (by decide) c5097
    refine lv_iconst (v := (-1)) hx hb dX12_need_25 (by decide) ?_
    have hP9 : va_P (dC, dI) classes (wM g c v F rc) H := hP
    exact W.iret (v := (-1)) hx hb hr (fun t ht hW => ⟨⟨(-1), (v, F, rc), rfl, ⟨hI, rfl, (fun _ _ => rfl), hF, trivial⟩, (by show va_P _ _ _ t.heap; rw [ht]; exact hP9)⟩, hS.F ht⟩) hS.2.2 dX12_need_26
  · skip
    have t5099 := cv_ne (a := r5096.toInt) rfl (b := 0) (by decide) c5097
    refine lv_aload_n hx hb dX12_need_8 rfl (lv_at hl 0 rfl) ?_
    refine lv_iload_n hx hb dX12_need_9 rfl (lv_at hl 2 rfl) ?_
    have t5100 : 0 ≤ (v 2).toInt ∧ (v 2).toInt ≤ 10 := hI.1 2 _ _ rfl
    refine va_calli (va_runV (As := [.int p1]) (rest := []) ⟨hx, hb, hml, hown, hwd⟩ (c_X12_isKind l dC dI g c adK adV v F rc H.size p1 hg hI ) (cwV 1 hwd (gV wk_309 wk_306 wk_307 wk_308 wk_5) rfl rfl rfl (by decide +kernel) ⟨Nat.le_of_ble_eq_true rfl, Nat.le_of_ble_eq_true rfl⟩) ⟨PM.blind, va_recv hK hP (ci := 12) (q0 := 0) rfl rfl, fun U hU hW => ⟨rfl, PM.at hK hE hP hS hU hW⟩⟩ rfl rfl hl.1 rfl (lv_room (Nat.le_of_ble_eq_true rfl)) dX12_need_10 ⟨Nat.le_of_ble_eq_true rfl, Nat.le_of_ble_eq_true rfl⟩) hS (fun q _ h => (freeM hS) q h) (freeM hS) (fun r5101 u t H1 locs ht hvm hw hB hz1 hk1 hS => ?_)
    unfold BM at hB
    rw [ht] at hB
    have hP : va_P (dC, dI) classes (wM g c v F rc) H1 := hB
    replace hw : (r5101.toInt = 1 ∧ 0 ≤ p1.toInt ∧ p1.toInt < (v 2).toInt) ∨ (r5101.toInt = 0 ∧ (p1.toInt < 0 ∨ (v 2).toInt ≤ p1.toInt)) := hw
    have hw_r5101 := hw
    clear hw
    clear hz1
    generalize H1 = H at hP hS ⊢
    refine lv_if_eq (tgt := 25) hx hb dX12_need_13 (by decide) (fun c5102 => ?_) (fun c5102 => ?_)
    · skip
      have t5103 := cv_eq (a := r5101.toInt) rfl (b := 0) (by decide) c5102
      refine lv_iconst (v := (-1)) hx hb dX12_need_25 (by decide) ?_
      have hP9 : va_P (dC, dI) classes (wM g c v F rc) H := hP
      exact W.iret (v := (-1)) hx hb hr (fun t ht hW => ⟨⟨(-1), (v, F, rc), rfl, ⟨hI, rfl, (fun _ _ => rfl), hF, trivial⟩, (by show va_P _ _ _ t.heap; rw [ht]; exact hP9)⟩, hS.F ht⟩) hS.2.2 dX12_need_26
    · skip
      have t5104 := cv_ne (a := r5101.toInt) rfl (b := 0) (by decide) c5102
      refine lv_iload_n hx hb dX12_need_16 rfl (lv_at hl 3 rfl) ?_
      refine lv_iconst (v := 0) hx hb dX12_need_17 (by decide) ?_
      refine lv_iconst (v := 3) hx hb dX12_need_18 (by decide) ?_
      refine va_calli (va_runS (As := [.int p2, .int 0, .int 3]) (rest := []) ⟨hx, hb, hml, hown, hwd⟩ (c_X12_in l dC dI g c adK adV v F rc H.size p2 0 3 hg hI ) (va_cwS 3 hwd (gT wk_254 wk_252 wk_253 wk_5) rfl rfl rfl (by decide +kernel) ⟨Nat.le_of_ble_eq_true rfl, Nat.le_of_ble_eq_true rfl⟩) ⟨PM.blind, fun U hU hW => ⟨rfl, PM.at hK hE hP hS hU hW⟩⟩ rfl rfl hl.1 rfl (lv_room (Nat.le_of_ble_eq_true rfl)) dX12_need_19 ⟨Nat.le_of_ble_eq_true rfl, Nat.le_of_ble_eq_true rfl⟩) hS (fun q _ h => (freeM hS) q h) (freeM hS) (fun r5105 u t H1 locs ht hvm hw hB hz1 hk1 hS => ?_)
      unfold BM at hB
      rw [ht] at hB
      have hP : va_P (dC, dI) classes (wM g c v F rc) H1 := hB
      have hw_r5105 : (r5105.toInt = 1 ∧ (0 : Int32).toInt ≤ p2.toInt ∧ p2.toInt ≤ (3 : Int32).toInt) ∨ (r5105.toInt = 0 ∧ (p2.toInt < (0 : Int32).toInt ∨ (3 : Int32).toInt < p2.toInt)) := hw
      clear hw
      have k5106 : (0 : Int32).toInt = 0 := by decide
      have k5107 : (3 : Int32).toInt = 3 := by decide
      clear hz1
      generalize H1 = H at hP hS ⊢
      refine lv_if_ne (tgt := 27) hx hb dX12_need_22 (by decide) (fun c5108 => ?_) (fun c5108 => ?_)
      · skip
        have t5109 := cv_ne (a := r5105.toInt) rfl (b := 0) (by decide) c5108
        refine lv_aload_n hx hb dX12_need_27 rfl (lv_at hl 0 rfl) ?_
        refine lv_iload_n hx hb dX12_need_28 rfl (lv_at hl 1 rfl) ?_
        refine va_calli (va_runV (As := [.int p0]) (rest := []) ⟨hx, hb, hml, hown, hwd⟩ (c_X12_isReturned l dC dI g c adK adV v F rc H.size p0 hg hI (by omega)) (cwV 1 hwd (gV wk_313 wk_310 wk_311 wk_312 wk_5) rfl rfl rfl (by decide +kernel) ⟨Nat.le_of_ble_eq_true rfl, Nat.le_of_ble_eq_true rfl⟩) ⟨PM.blind, va_recv hK hP (ci := 12) (q0 := 0) rfl rfl, fun U hU hW => ⟨rfl, PM.at hK hE hP hS hU hW⟩⟩ rfl rfl hl.1 rfl (lv_room (Nat.le_of_ble_eq_true rfl)) dX12_need_29 ⟨Nat.le_of_ble_eq_true rfl, Nat.le_of_ble_eq_true rfl⟩) hS (fun q _ h => (freeM hS) q h) (freeM hS) (fun r5110 u t H1 locs ht hvm hw hB hz1 hk1 hS => ?_)
        unfold BM at hB
        rw [ht] at hB
        have hP : va_P (dC, dI) classes (wM g c v F rc) H1 := hB
        have hw_r5110 : 0 ≤ r5110.toInt ∧ r5110.toInt ≤ 1 := hw
        clear hw
        clear hz1
        generalize H1 = H at hP hS ⊢
        refine lv_if_ne (tgt := 45) hx hb dX12_need_32 (by decide) (fun c5111 => ?_) (fun c5111 => ?_)
        · skip
          have t5112 := cv_ne (a := r5110.toInt) rfl (b := 0) (by decide) c5111
          refine lv_bipush (v := (-2)) hx hb dX12_need_45 (by decide) ?_
          have hP9 : va_P (dC, dI) classes (wM g c v F rc) H := hP
          exact W.iret (v := (-2)) hx hb hr (fun t ht hW => ⟨⟨(-2), (v, F, rc), rfl, ⟨hI, rfl, (fun _ _ => rfl), hF, trivial⟩, (by show va_P _ _ _ t.heap; rw [ht]; exact hP9)⟩, hS.F ht⟩) hS.2.2 dX12_need_47
        · skip
          have t5113 := cv_eq (a := r5110.toInt) rfl (b := 0) (by decide) c5111
          refine lv_aload_n hx hb dX12_need_35 rfl (lv_at hl 0 rfl) ?_
          refine lv_iload_n hx hb dX12_need_36 rfl (lv_at hl 1 rfl) ?_
          refine lv_iload_n hx hb dX12_need_37 rfl (lv_at hl 2 rfl) ?_
          refine va_calli (va_runV (As := [.int p0, .int p1]) (rest := []) ⟨hx, hb, hml, hown, hwd⟩ (c_X12_onIt l dC dI g c adK adV v F rc H.size p0 p1 hg hI ) (cwV 2 hwd (gV wk_317 wk_314 wk_315 wk_316 wk_5) rfl rfl rfl (by decide +kernel) ⟨Nat.le_of_ble_eq_true rfl, Nat.le_of_ble_eq_true rfl⟩) ⟨PM.blind, va_recv hK hP (ci := 12) (q0 := 0) rfl rfl, fun U hU hW => ⟨rfl, PM.at hK hE hP hS hU hW⟩⟩ rfl rfl hl.1 rfl (lv_room (Nat.le_of_ble_eq_true rfl)) dX12_need_38 ⟨Nat.le_of_ble_eq_true rfl, Nat.le_of_ble_eq_true rfl⟩) hS (fun q _ h => (freeM hS) q h) (freeM hS) (fun r5114 u t H1 locs ht hvm hw hB hz1 hk1 hS => ?_)
          unfold BM at hB
          rw [ht] at hB
          have hP : va_P (dC, dI) classes (wM g c v F rc) H1 := hB
          clear hz1
          generalize H1 = H at hP hS ⊢
          have rr_r5114 := i32_rng r5114
          refine lv_iload_n hx hb dX12_need_41 rfl (lv_at hl 3 rfl) ?_
          refine lv_icmp_le (tgt := 48) hx hb dX12_need_42 (by decide) (fun c5115 => ?_) (fun c5115 => ?_)
          · skip
            have t5116 := cv_le (a := r5114.toInt) rfl (b := p2.toInt) rfl c5115
            refine lv_aload_n hx hb dX12_need_48 rfl (lv_at hl 0 rfl) ?_
            refine va_get (D := (dC, dI)) (ci := 12) (v := .ref (g 9)) (C := RX12) (T := TX12) (N := 63) hx hb hwd inA_X12 hown hK hP 0 rfl rfl 12 (by decide) (hwd _ wk_190) (fun _ h9 => h9) rfl dX12_need_49 ?_
            refine lv_bipush (v := 10) hx hb dX12_need_52 (by decide) ?_
            refine lv_iload_n hx hb dX12_need_54 rfl (lv_at hl 1 rfl) ?_
            refine lv_imul hx hb dX12_need_55 ?_
            refine lv_topi (fun z5117 e5118 => ?_)
            try (have t5119 := tmul e5118 (a := 10) (by decide) (b := p0.toInt) rfl (by omega))
            refine lv_iload_n hx hb dX12_need_56 rfl (lv_at hl 2 rfl) ?_
            refine lv_iadd hx hb dX12_need_57 ?_
            refine lv_topi (fun z5120 e5121 => ?_)
            try (have t5122 := tadd e5121 (a := z5117.toInt) rfl (b := p1.toInt) rfl (by omega))
            refine va_iald hx hb hK hP 9 8 rfl rfl (i := z5120) (vin (a := z5120.toInt) rfl (by omega)) dX12_need_58 ?_
            refine lv_topi (fun z5123 e5124 => ?_)
            refine lv_istore (lv' := [(4, .int z5123), (0, .ref (g 0)), (1, .int p0), (2, .int p1), (3, .int p2)]) hx hb dX12_need_59 hl (by decide) rfl (fun ls hl => ?_)
            refine lv_aload_n hx hb dX12_need_61 rfl (lv_at hl 1 rfl) ?_
            refine va_get (D := (dC, dI)) (ci := 12) (v := .ref (g 9)) (C := RX12) (T := TX12) (N := 63) hx hb hwd inA_X12 hown hK hP 0 rfl rfl 12 (by decide) (hwd _ wk_190) (fun _ h9 => h9) rfl dX12_need_62 ?_
            refine lv_bipush (v := 10) hx hb dX12_need_65 (by decide) ?_
            refine lv_iload_n hx hb dX12_need_67 rfl (lv_at hl 2 rfl) ?_
            refine lv_imul hx hb dX12_need_68 ?_
            refine lv_topi (fun z5125 e5126 => ?_)
            try (have t5127 := tmul e5126 (a := 10) (by decide) (b := p0.toInt) rfl (by omega))
            refine lv_iload_n hx hb dX12_need_69 rfl (lv_at hl 3 rfl) ?_
            refine lv_iadd hx hb dX12_need_70 ?_
            refine lv_topi (fun z5128 e5129 => ?_)
            try (have t5130 := tadd e5129 (a := z5125.toInt) rfl (b := p1.toInt) rfl (by omega))
            refine lv_iload_n hx hb dX12_need_71 rfl (lv_at hl 4 rfl) ?_
            refine va_iast hx hb hK hP (DM hg) hS 9 8 rfl rfl (i := z5128) (x := p2) (vin (a := z5128.toInt) rfl (by omega)) dX12_need_72 (fun H locs hP _ hS => ?_)
            have hP := va_P_eq (sM_9 g c _ _ _ _) hP
            have hI := IM.store0 hI 9 (z5128 : Int32).toNatClampNeg p2 rfl
            have hF := frUF (k := 9) (f := upd (F 9) (z5128 : Int32).toNatClampNeg p2) (by decide) hF
            have hP : va_P (dC, dI) classes (wM g c v (va_up F 9 (upd (F 9) (z5128 : Int32).toNatClampNeg p2)) rc) H := hP
            generalize (va_up F 9 (upd (F 9) (z5128 : Int32).toNatClampNeg p2)) = F5131 at hP hI hF
            refine lv_iload hx hb dX12_need_73 (lv_at hl 0 rfl) ?_
            have hP9 : va_P (dC, dI) classes (wM g c v F5131 rc) H := hP
            exact W.iret (v := z5123) hx hb hr (fun t ht hW => ⟨⟨z5123, (v, F5131, rc), rfl, ⟨hI, rfl, (fun _ _ => rfl), hF, trivial⟩, (by show va_P _ _ _ t.heap; rw [ht]; exact hP9)⟩, hS.F ht⟩) hS.2.2 dX12_need_75
          · skip
            have t5132 := cv_nle (a := r5114.toInt) rfl (b := p2.toInt) rfl c5115
            refine lv_bipush (v := (-2)) hx hb dX12_need_45 (by decide) ?_
            have hP9 : va_P (dC, dI) classes (wM g c v F rc) H := hP
            exact W.iret (v := (-2)) hx hb hr (fun t ht hW => ⟨⟨(-2), (v, F, rc), rfl, ⟨hI, rfl, (fun _ _ => rfl), hF, trivial⟩, (by show va_P _ _ _ t.heap; rw [ht]; exact hP9)⟩, hS.F ht⟩) hS.2.2 dX12_need_47
      · skip
        have t5133 := cv_eq (a := r5105.toInt) rfl (b := 0) (by decide) c5108
        refine lv_iconst (v := (-1)) hx hb dX12_need_25 (by decide) ?_
        have hP9 : va_P (dC, dI) classes (wM g c v F rc) H := hP
        exact W.iret (v := (-1)) hx hb hr (fun t ht hW => ⟨⟨(-1), (v, F, rc), rfl, ⟨hI, rfl, (fun _ _ => rfl), hF, trivial⟩, (by show va_P _ _ _ t.heap; rw [ht]; exact hP9)⟩, hS.F ht⟩) hS.2.2 dX12_need_26
set_option maxHeartbeats 8000000 in
set_option maxRecDepth 100000 in
theorem c_X12_reserve (l : Launch) (dC : Nat → ClassId) (dI : Nat → Nat → Nat) (g : Nat → Nat) (c : Nat → ClassId) (adK adV : Nat → Nat) (v : Nat → Int32) (F : Nat → Nat → Int32) (rc sz : Nat) (p0 : Int32) (p1 : Int32) (hg : injM g) (hI : IM v F) : Met l yX12_reserve (Cond.code yX12_reserve cX12_reserve 3 (some .int) :: wA) ({ frames := 3, cells := 0, slots := 0, locals := 120 }) (va_Pc [.ref (g 0), .int p0, .int p1] (PM dC dI g c adK adV v F rc sz)) (va_Qi (fun (r : Int32) (u : Unit) => True) (fun (_ : Unit) => BM dC dI g c (v, F, rc)) (AM g sz)) 0 0 (AM g sz) := by
  refine Met.ofW (cc := cX12_reserve) (maxL := 3) (ret := (some .int)) (by decide) rfl ?_
  intro p e s m args below meth c0 s₁ B hml hv
  obtain ⟨rfl, hsz, hP, hK, hE⟩ := hv
  have hx := B.exec
  have hb := B.bytes
  have hr := B.returns
  have hts := atoms_spec (ws := Cond.code yX12_reserve cX12_reserve 3 (some .int) :: wA) B.pre
  have hwd : ∀ w ∈ wA, w.before _ s = true := fun w h => hts w (List.mem_cons_of_mem _ h)
  have hown : s.vm.findClass RX12 = some m.cls := findClass_of_methodNamed B.named
  have hlocks := B.notSynchronized
  subst hsz
  have hl := lv_entry ([.ref (g 0), .int p0, .int p1]) (n := 3) (Nat.le_of_ble_eq_true rfl)
  rw [lg_entry_eq]
  generalize (lg_sl ([.ref (g 0), .int p0, .int p1]) ++ List.replicate (3 - (lg_sl ([.ref (g 0), .int p0, .int p1])).length) Slot.unset).toArray = ls at hl ⊢
  have hl : lv_has ls 3 [(0, .ref (g 0)), (1, .int p0), (2, .int p1)] := hl
  obtain ⟨H, eH⟩ : ∃ z, z = s.heap := ⟨_, rfl⟩
  have hP : va_P (dC, dI) classes (wM g c v F rc) H := by rw [eH]; exact hP
  have hS : va_S (AM g s.heap.size) s.heap H [] := by rw [eH]; exact va_S.rf
  refine my_heap eH ?_
  have rp0 := i32_rng p0
  have rp1 := i32_rng p1
  refine lv_aload_n hx hb dX12_reserve_0 rfl (lv_at hl 0 rfl) ?_
  refine lv_iload_n hx hb dX12_reserve_1 rfl (lv_at hl 1 rfl) ?_
  have t5134 : 0 ≤ (v 6).toInt ∧ (v 6).toInt ≤ 10 := hI.1 6 _ _ rfl
  refine va_calli (va_runV (As := [.int p0]) (rest := []) ⟨hx, hb, hml, hown, hwd⟩ (c_X12_isPlane l dC dI g c adK adV v F rc H.size p0 hg hI ) (cwV 1 hwd (gV wk_305 wk_302 wk_303 wk_304 wk_5) rfl rfl rfl (by decide +kernel) ⟨Nat.le_of_ble_eq_true rfl, Nat.le_of_ble_eq_true rfl⟩) ⟨PM.blind, va_recv hK hP (ci := 12) (q0 := 0) rfl rfl, fun U hU hW => ⟨rfl, PM.at hK hE hP hS hU hW⟩⟩ rfl rfl hl.1 rfl (lv_room (Nat.le_of_ble_eq_true rfl)) dX12_reserve_2 ⟨Nat.le_of_ble_eq_true rfl, Nat.le_of_ble_eq_true rfl⟩) hS (fun q _ h => (freeM hS) q h) (freeM hS) (fun r5135 u t H1 locs ht hvm hw hB hz1 hk1 hS => ?_)
  unfold BM at hB
  rw [ht] at hB
  have hP : va_P (dC, dI) classes (wM g c v F rc) H1 := hB
  replace hw : (r5135.toInt = 1 ∧ 0 ≤ p0.toInt ∧ p0.toInt < (v 6).toInt) ∨ (r5135.toInt = 0 ∧ (p0.toInt < 0 ∨ (v 6).toInt ≤ p0.toInt)) := hw
  have hw_r5135 := hw
  clear hw
  clear hz1
  generalize H1 = H at hP hS ⊢
  refine lv_if_eq (tgt := 30) hx hb dX12_reserve_5 (by decide) (fun c5136 => ?_) (fun c5136 => ?_)
  · skip
    have t5137 := cv_eq (a := r5135.toInt) rfl (b := 0) (by decide) c5136
    refine lv_iconst (v := (-1)) hx hb dX12_reserve_30 (by decide) ?_
    have hP9 : va_P (dC, dI) classes (wM g c v F rc) H := hP
    exact W.iret (v := (-1)) hx hb hr (fun t ht hW => ⟨⟨(-1), (), rfl, trivial, (by show va_P _ _ _ t.heap; rw [ht]; exact hP9)⟩, hS.F ht⟩) hS.2.2 dX12_reserve_31
  · skip
    have t5138 := cv_ne (a := r5135.toInt) rfl (b := 0) (by decide) c5136
    refine lv_aload_n hx hb dX12_reserve_8 rfl (lv_at hl 0 rfl) ?_
    refine lv_iload_n hx hb dX12_reserve_9 rfl (lv_at hl 2 rfl) ?_
    have t5139 : 0 ≤ (v 2).toInt ∧ (v 2).toInt ≤ 10 := hI.1 2 _ _ rfl
    refine va_calli (va_runV (As := [.int p1]) (rest := []) ⟨hx, hb, hml, hown, hwd⟩ (c_X12_isKind l dC dI g c adK adV v F rc H.size p1 hg hI ) (cwV 1 hwd (gV wk_309 wk_306 wk_307 wk_308 wk_5) rfl rfl rfl (by decide +kernel) ⟨Nat.le_of_ble_eq_true rfl, Nat.le_of_ble_eq_true rfl⟩) ⟨PM.blind, va_recv hK hP (ci := 12) (q0 := 0) rfl rfl, fun U hU hW => ⟨rfl, PM.at hK hE hP hS hU hW⟩⟩ rfl rfl hl.1 rfl (lv_room (Nat.le_of_ble_eq_true rfl)) dX12_reserve_10 ⟨Nat.le_of_ble_eq_true rfl, Nat.le_of_ble_eq_true rfl⟩) hS (fun q _ h => (freeM hS) q h) (freeM hS) (fun r5140 u t H1 locs ht hvm hw hB hz1 hk1 hS => ?_)
    unfold BM at hB
    rw [ht] at hB
    have hP : va_P (dC, dI) classes (wM g c v F rc) H1 := hB
    replace hw : (r5140.toInt = 1 ∧ 0 ≤ p1.toInt ∧ p1.toInt < (v 2).toInt) ∨ (r5140.toInt = 0 ∧ (p1.toInt < 0 ∨ (v 2).toInt ≤ p1.toInt)) := hw
    have hw_r5140 := hw
    clear hw
    clear hz1
    generalize H1 = H at hP hS ⊢
    refine lv_if_eq (tgt := 30) hx hb dX12_reserve_13 (by decide) (fun c5141 => ?_) (fun c5141 => ?_)
    · skip
      have t5142 := cv_eq (a := r5140.toInt) rfl (b := 0) (by decide) c5141
      refine lv_iconst (v := (-1)) hx hb dX12_reserve_30 (by decide) ?_
      have hP9 : va_P (dC, dI) classes (wM g c v F rc) H := hP
      exact W.iret (v := (-1)) hx hb hr (fun t ht hW => ⟨⟨(-1), (), rfl, trivial, (by show va_P _ _ _ t.heap; rw [ht]; exact hP9)⟩, hS.F ht⟩) hS.2.2 dX12_reserve_31
    · skip
      have t5143 := cv_ne (a := r5140.toInt) rfl (b := 0) (by decide) c5141
      refine lv_aload_n hx hb dX12_reserve_16 rfl (lv_at hl 0 rfl) ?_
      refine va_get (D := (dC, dI)) (ci := 12) (v := .ref (g 10)) (C := RX12) (T := TX12) (N := 63) hx hb hwd inA_X12 hown hK hP 0 rfl rfl 13 (by decide) (hwd _ wk_191) (fun _ h9 => h9) rfl dX12_reserve_17 ?_
      refine lv_bipush (v := 10) hx hb dX12_reserve_20 (by decide) ?_
      refine lv_iload_n hx hb dX12_reserve_22 rfl (lv_at hl 1 rfl) ?_
      refine lv_imul hx hb dX12_reserve_23 ?_
      refine lv_topi (fun z5144 e5145 => ?_)
      try (have t5146 := tmul e5145 (a := 10) (by decide) (b := p0.toInt) rfl (by omega))
      refine lv_iload_n hx hb dX12_reserve_24 rfl (lv_at hl 2 rfl) ?_
      refine lv_iadd hx hb dX12_reserve_25 ?_
      refine lv_topi (fun z5147 e5148 => ?_)
      try (have t5149 := tadd e5148 (a := z5144.toInt) rfl (b := p1.toInt) rfl (by omega))
      refine va_iald hx hb hK hP 10 9 rfl rfl (i := z5147) (vin (a := z5147.toInt) rfl (by omega)) dX12_reserve_26 ?_
      refine lv_topi (fun z5150 e5151 => ?_)
      refine lv_goto (tgt := 31) hx hb dX12_reserve_27 (by decide) ?_
      have hP9 : va_P (dC, dI) classes (wM g c v F rc) H := hP
      exact W.iret (v := z5150) hx hb hr (fun t ht hW => ⟨⟨z5150, (), rfl, trivial, (by show va_P _ _ _ t.heap; rw [ht]; exact hP9)⟩, hS.F ht⟩) hS.2.2 dX12_reserve_31
set_option maxHeartbeats 8000000 in
set_option maxRecDepth 100000 in
theorem c_X12_link (l : Launch) (dC : Nat → ClassId) (dI : Nat → Nat → Nat) (g : Nat → Nat) (c : Nat → ClassId) (adK adV : Nat → Nat) (v : Nat → Int32) (F : Nat → Nat → Int32) (rc sz : Nat) (p0 : Int32) (p1 : Int32) (p2 : Int32) (hg : injM g) (hI : IM v F) : Met l yX12_link (Cond.code yX12_link cX12_link 4 (some .int) :: wA) ({ frames := 3, cells := 0, slots := 0, locals := 120 }) (va_Pc [.ref (g 0), .int p0, .int p1, .int p2] (PM dC dI g c adK adV v F rc sz)) (va_Qi (fun (r : Int32) (u : StM) => IM u.1 u.2.1 ∧ u.2.2 = rc ∧ (∀ k, k ∉ ([] : List Nat) → u.1 k = v k) ∧ (∀ k, k ∉ ([44, 45] : List Nat) → u.2.1 k = F k) ∧ ((¬ ((0 ≤ p0.toInt ∧ p0.toInt < (v 6).toInt) ∧ (0 ≤ p1.toInt ∧ p1.toInt ≤ 9) ∧ (0 ≤ p2.toInt ∧ p2.toInt ≤ 99999)) ∧ r.toInt = -1 ∧ u.2.1 44 = F 44 ∧ u.2.1 45 = F 45) ∨ (((0 ≤ p0.toInt ∧ p0.toInt < (v 6).toInt) ∧ (0 ≤ p1.toInt ∧ p1.toInt ≤ 9) ∧ (0 ≤ p2.toInt ∧ p2.toInt ≤ 99999)) ∧ (F 44 p0.toNatClampNeg).toInt = 4 ∧ r.toInt = -3 ∧ u.2.1 44 = F 44 ∧ u.2.1 45 = F 45) ∨ (((0 ≤ p0.toInt ∧ p0.toInt < (v 6).toInt) ∧ (0 ≤ p1.toInt ∧ p1.toInt ≤ 9) ∧ (0 ≤ p2.toInt ∧ p2.toInt ≤ 99999)) ∧ (F 44 p0.toNatClampNeg).toInt < 4 ∧ r.toInt = (F 44 p0.toNatClampNeg).toInt + 1 ∧ exL (fun (j : Nat) (x : Int32) => (j : Int) = 4 * p0.toInt + (F 44 p0.toNatClampNeg).toInt ∧ x.toInt = (F 44 p0.toNatClampNeg).toInt + 1 ∧ u.2.1 45 = upd (F 45) j p2 ∧ u.2.1 44 = upd (F 44) p0.toNatClampNeg x)))) (BM dC dI g c) (AM g sz)) 0 0 (AM g sz) := by
  refine Met.ofW (cc := cX12_link) (maxL := 4) (ret := (some .int)) (by decide) rfl ?_
  intro p e s m args below meth c0 s₁ B hml hv
  obtain ⟨rfl, hsz, hP, hK, hE⟩ := hv
  have hx := B.exec
  have hb := B.bytes
  have hr := B.returns
  have hts := atoms_spec (ws := Cond.code yX12_link cX12_link 4 (some .int) :: wA) B.pre
  have hwd : ∀ w ∈ wA, w.before _ s = true := fun w h => hts w (List.mem_cons_of_mem _ h)
  have hown : s.vm.findClass RX12 = some m.cls := findClass_of_methodNamed B.named
  have hlocks := B.notSynchronized
  subst hsz
  have hl := lv_entry ([.ref (g 0), .int p0, .int p1, .int p2]) (n := 4) (Nat.le_of_ble_eq_true rfl)
  rw [lg_entry_eq]
  generalize (lg_sl ([.ref (g 0), .int p0, .int p1, .int p2]) ++ List.replicate (4 - (lg_sl ([.ref (g 0), .int p0, .int p1, .int p2])).length) Slot.unset).toArray = ls at hl ⊢
  have hl : lv_has ls 4 [(0, .ref (g 0)), (1, .int p0), (2, .int p1), (3, .int p2)] := hl
  obtain ⟨H, eH⟩ : ∃ z, z = s.heap := ⟨_, rfl⟩
  have hP : va_P (dC, dI) classes (wM g c v F rc) H := by rw [eH]; exact hP
  have hS : va_S (AM g s.heap.size) s.heap H [] := by rw [eH]; exact va_S.rf
  refine my_heap eH ?_
  have hF : ∀ k, k ∉ ([44, 45] : List Nat) → F k = F k := fun _ _ => rfl
  have rp0 := i32_rng p0
  have rp1 := i32_rng p1
  have rp2 := i32_rng p2
  refine lv_aload_n hx hb dX12_link_0 rfl (lv_at hl 0 rfl) ?_
  refine lv_iload_n hx hb dX12_link_1 rfl (lv_at hl 1 rfl) ?_
  have t5199 : 0 ≤ (v 6).toInt ∧ (v 6).toInt ≤ 10 := hI.1 6 _ _ rfl
  refine va_calli (va_runV (As := [.int p0]) (rest := []) ⟨hx, hb, hml, hown, hwd⟩ (c_X12_isPlane l dC dI g c adK adV v F rc H.size p0 hg hI ) (cwV 1 hwd (gV wk_305 wk_302 wk_303 wk_304 wk_5) rfl rfl rfl (by decide +kernel) ⟨Nat.le_of_ble_eq_true rfl, Nat.le_of_ble_eq_true rfl⟩) ⟨PM.blind, va_recv hK hP (ci := 12) (q0 := 0) rfl rfl, fun U hU hW => ⟨rfl, PM.at hK hE hP hS hU hW⟩⟩ rfl rfl hl.1 rfl (lv_room (Nat.le_of_ble_eq_true rfl)) dX12_link_2 ⟨Nat.le_of_ble_eq_true rfl, Nat.le_of_ble_eq_true rfl⟩) hS (fun q _ h => (freeM hS) q h) (freeM hS) (fun r5200 u t H1 locs ht hvm hw hB hz1 hk1 hS => ?_)
  unfold BM at hB
  rw [ht] at hB
  have hP : va_P (dC, dI) classes (wM g c v F rc) H1 := hB
  replace hw : (r5200.toInt = 1 ∧ 0 ≤ p0.toInt ∧ p0.toInt < (v 6).toInt) ∨ (r5200.toInt = 0 ∧ (p0.toInt < 0 ∨ (v 6).toInt ≤ p0.toInt)) := hw
  have hw_r5200 := hw
  clear hw
  clear hz1
  generalize H1 = H at hP hS ⊢
  refine lv_if_eq (tgt := 28) hx hb dX12_link_5 (by decide) (fun c5201 => ?_) (fun c5201 => ?_)
  · skip
    have t5202 := cv_eq (a := r5200.toInt) rfl (b := 0) (by decide) c5201
    refine lv_iconst (v := (-1)) hx hb dX12_link_28 (by decide) ?_
    have hP9 : va_P (dC, dI) classes (wM g c v F rc) H := hP
    exact W.iret (v := (-1)) hx hb hr (fun t ht hW => ⟨⟨(-1), (v, F, rc), rfl, ⟨hI, rfl, (fun _ _ => rfl), hF, (Or.inl ⟨by omega, by decide, rfl, rfl⟩)⟩, (by show va_P _ _ _ t.heap; rw [ht]; exact hP9)⟩, hS.F ht⟩) hS.2.2 dX12_link_29
  · skip
    have t5203 := cv_ne (a := r5200.toInt) rfl (b := 0) (by decide) c5201
    refine lv_iload_n hx hb dX12_link_8 rfl (lv_at hl 2 rfl) ?_
    refine lv_iconst (v := 0) hx hb dX12_link_9 (by decide) ?_
    refine lv_bipush (v := 9) hx hb dX12_link_10 (by decide) ?_
    refine va_calli (va_runS (As := [.int p1, .int 0, .int 9]) (rest := []) ⟨hx, hb, hml, hown, hwd⟩ (c_X12_in l dC dI g c adK adV v F rc H.size p1 0 9 hg hI ) (va_cwS 3 hwd (gT wk_254 wk_252 wk_253 wk_5) rfl rfl rfl (by decide +kernel) ⟨Nat.le_of_ble_eq_true rfl, Nat.le_of_ble_eq_true rfl⟩) ⟨PM.blind, fun U hU hW => ⟨rfl, PM.at hK hE hP hS hU hW⟩⟩ rfl rfl hl.1 rfl (lv_room (Nat.le_of_ble_eq_true rfl)) dX12_link_12 ⟨Nat.le_of_ble_eq_true rfl, Nat.le_of_ble_eq_true rfl⟩) hS (fun q _ h => (freeM hS) q h) (freeM hS) (fun r5204 u t H1 locs ht hvm hw hB hz1 hk1 hS => ?_)
    unfold BM at hB
    rw [ht] at hB
    have hP : va_P (dC, dI) classes (wM g c v F rc) H1 := hB
    have hw_r5204 : (r5204.toInt = 1 ∧ (0 : Int32).toInt ≤ p1.toInt ∧ p1.toInt ≤ (9 : Int32).toInt) ∨ (r5204.toInt = 0 ∧ (p1.toInt < (0 : Int32).toInt ∨ (9 : Int32).toInt < p1.toInt)) := hw
    clear hw
    have k5205 : (0 : Int32).toInt = 0 := by decide
    have k5206 : (9 : Int32).toInt = 9 := by decide
    clear hz1
    generalize H1 = H at hP hS ⊢
    refine lv_if_eq (tgt := 28) hx hb dX12_link_15 (by decide) (fun c5207 => ?_) (fun c5207 => ?_)
    · skip
      have t5208 := cv_eq (a := r5204.toInt) rfl (b := 0) (by decide) c5207
      refine lv_iconst (v := (-1)) hx hb dX12_link_28 (by decide) ?_
      have hP9 : va_P (dC, dI) classes (wM g c v F rc) H := hP
      exact W.iret (v := (-1)) hx hb hr (fun t ht hW => ⟨⟨(-1), (v, F, rc), rfl, ⟨hI, rfl, (fun _ _ => rfl), hF, (Or.inl ⟨by omega, by decide, rfl, rfl⟩)⟩, (by show va_P _ _ _ t.heap; rw [ht]; exact hP9)⟩, hS.F ht⟩) hS.2.2 dX12_link_29
    · skip
      have t5209 := cv_ne (a := r5204.toInt) rfl (b := 0) (by decide) c5207
      refine lv_iload_n hx hb dX12_link_18 rfl (lv_at hl 3 rfl) ?_
      refine lv_iconst (v := 0) hx hb dX12_link_19 (by decide) ?_
      refine lv_ldc (v := 99999) hx hb hown (hwd _ wk_249) dX12_link_20 ?_
      refine va_calli (va_runS (As := [.int p2, .int 0, .int 99999]) (rest := []) ⟨hx, hb, hml, hown, hwd⟩ (c_X12_in l dC dI g c adK adV v F rc H.size p2 0 99999 hg hI ) (va_cwS 3 hwd (gT wk_254 wk_252 wk_253 wk_5) rfl rfl rfl (by decide +kernel) ⟨Nat.le_of_ble_eq_true rfl, Nat.le_of_ble_eq_true rfl⟩) ⟨PM.blind, fun U hU hW => ⟨rfl, PM.at hK hE hP hS hU hW⟩⟩ rfl rfl hl.1 rfl (lv_room (Nat.le_of_ble_eq_true rfl)) dX12_link_22 ⟨Nat.le_of_ble_eq_true rfl, Nat.le_of_ble_eq_true rfl⟩) hS (fun q _ h => (freeM hS) q h) (freeM hS) (fun r5210 u t H1 locs ht hvm hw hB hz1 hk1 hS => ?_)
      unfold BM at hB
      rw [ht] at hB
      have hP : va_P (dC, dI) classes (wM g c v F rc) H1 := hB
      have hw_r5210 : (r5210.toInt = 1 ∧ (0 : Int32).toInt ≤ p2.toInt ∧ p2.toInt ≤ (99999 : Int32).toInt) ∨ (r5210.toInt = 0 ∧ (p2.toInt < (0 : Int32).toInt ∨ (99999 : Int32).toInt < p2.toInt)) := hw
      clear hw
      have k5211 : (0 : Int32).toInt = 0 := by decide
      have k5212 : (99999 : Int32).toInt = 99999 := by decide
      clear hz1
      generalize H1 = H at hP hS ⊢
      refine lv_if_ne (tgt := 30) hx hb dX12_link_25 (by decide) (fun c5213 => ?_) (fun c5213 => ?_)
      · skip
        have t5214 := cv_ne (a := r5210.toInt) rfl (b := 0) (by decide) c5213
        refine lv_aload_n hx hb dX12_link_30 rfl (lv_at hl 0 rfl) ?_
        refine va_get (D := (dC, dI)) (ci := 12) (v := .ref (g 44)) (C := RX12) (T := TX12) (N := 63) hx hb hwd inA_X12 hown hK hP 0 rfl rfl 61 (by decide) (hwd _ wk_226) (fun _ h9 => h9) rfl dX12_link_31 ?_
        refine lv_iload_n hx hb dX12_link_34 rfl (lv_at hl 1 rfl) ?_
        refine va_iald hx hb hK hP 44 43 rfl rfl (i := p0) (vin (a := p0.toInt) rfl (by omega)) dX12_link_35 ?_
        refine lv_topi (fun z5215 e5216 => ?_)
        have t5217 : 0 ≤ z5215.toInt ∧ z5215.toInt ≤ 4 := by rw [e5216]; exact hI.2 44 _ _ rfl _
        have tzz5215 : z5215.toInt = (F 44 (p0 : Int32).toNatClampNeg).toInt := congrArg Int32.toInt e5216
        refine lv_iconst (v := 4) hx hb dX12_link_36 (by decide) ?_
        refine lv_icmp_ne (tgt := 43) hx hb dX12_link_37 (by decide) (fun c5218 => ?_) (fun c5218 => ?_)
        · skip
          have t5219 := cv_ne (a := z5215.toInt) rfl (b := 4) (by decide) c5218
          refine lv_aload_n hx hb dX12_link_43 rfl (lv_at hl 0 rfl) ?_
          refine va_get (D := (dC, dI)) (ci := 12) (v := .ref (g 45)) (C := RX12) (T := TX12) (N := 63) hx hb hwd inA_X12 hown hK hP 0 rfl rfl 62 (by decide) (hwd _ wk_227) (fun _ h9 => h9) rfl dX12_link_44 ?_
          refine lv_iconst (v := 4) hx hb dX12_link_47 (by decide) ?_
          refine lv_iload_n hx hb dX12_link_48 rfl (lv_at hl 1 rfl) ?_
          refine lv_imul hx hb dX12_link_49 ?_
          refine lv_topi (fun z5220 e5221 => ?_)
          try (have t5222 := tmul e5221 (a := 4) (by decide) (b := p0.toInt) rfl (by omega))
          refine lv_aload_n hx hb dX12_link_50 rfl (lv_at hl 0 rfl) ?_
          refine va_get (D := (dC, dI)) (ci := 12) (v := .ref (g 44)) (C := RX12) (T := TX12) (N := 63) hx hb hwd inA_X12 hown hK hP 0 rfl rfl 61 (by decide) (hwd _ wk_226) (fun _ h9 => h9) rfl dX12_link_51 ?_
          refine lv_iload_n hx hb dX12_link_54 rfl (lv_at hl 1 rfl) ?_
          refine va_iald hx hb hK hP 44 43 rfl rfl (i := p0) (vin (a := p0.toInt) rfl (by omega)) dX12_link_55 ?_
          refine lv_topi (fun z5223 e5224 => ?_)
          have t5225 : 0 ≤ z5223.toInt ∧ z5223.toInt ≤ 4 := by rw [e5224]; exact hI.2 44 _ _ rfl _
          have tzz5223 : z5223.toInt = (F 44 (p0 : Int32).toNatClampNeg).toInt := congrArg Int32.toInt e5224
          refine lv_iadd hx hb dX12_link_56 ?_
          refine lv_topi (fun z5226 e5227 => ?_)
          try (have t5228 := tadd e5227 (a := z5220.toInt) rfl (b := z5223.toInt) rfl (by omega))
          refine lv_iload_n hx hb dX12_link_57 rfl (lv_at hl 3 rfl) ?_
          refine va_iast hx hb hK hP (DM hg) hS 45 44 rfl rfl (i := z5226) (x := p2) (vin (a := z5226.toInt) rfl (by omega)) dX12_link_58 (fun H locs hP _ hS => ?_)
          have hP := va_P_eq (sM_45 g c _ _ _ _) hP
          have hI := IM.store0 hI 45 (z5226 : Int32).toNatClampNeg p2 rfl
          have hF := frUF (k := 45) (f := upd (F 45) (z5226 : Int32).toNatClampNeg p2) (by decide) hF
          have st5230 : (va_up F 45 (upd (F 45) (z5226 : Int32).toNatClampNeg p2)) 45 = upd (F 45) (z5226 : Int32).toNatClampNeg p2 := va_up_self _ _ _
          have sn5231 : ∀ k9, k9 ≠ 45 → (va_up F 45 (upd (F 45) (z5226 : Int32).toNatClampNeg p2)) k9 = F k9 := fun k9 h9 => va_up_ne _ _ h9
          have hP : va_P (dC, dI) classes (wM g c v (va_up F 45 (upd (F 45) (z5226 : Int32).toNatClampNeg p2)) rc) H := hP
          generalize (va_up F 45 (upd (F 45) (z5226 : Int32).toNatClampNeg p2)) = F5229 at hP hI hF st5230 sn5231
          refine lv_aload_n hx hb dX12_link_59 rfl (lv_at hl 0 rfl) ?_
          refine va_get (D := (dC, dI)) (ci := 12) (v := .ref (g 44)) (C := RX12) (T := TX12) (N := 63) hx hb hwd inA_X12 hown hK hP 0 rfl rfl 61 (by decide) (hwd _ wk_226) (fun _ h9 => h9) rfl dX12_link_60 ?_
          refine lv_iload_n hx hb dX12_link_63 rfl (lv_at hl 1 rfl) ?_
          refine lv_dup2_11 hx hb dX12_link_64 rfl rfl ?_
          refine va_iald hx hb hK hP 44 43 rfl rfl (i := p0) (vin (a := p0.toInt) rfl (by omega)) dX12_link_65 ?_
          refine lv_topi (fun z5232 e5233 => ?_)
          have t5234 : 0 ≤ z5232.toInt ∧ z5232.toInt ≤ 4 := by rw [e5233]; exact hI.2 44 _ _ rfl _
          have tzz5232 : z5232.toInt = (F 44 (p0 : Int32).toNatClampNeg).toInt := congrArg Int32.toInt (e5233.trans (congrFun (sn5231 44 (by decide)) _))
          refine lv_iconst (v := 1) hx hb dX12_link_66 (by decide) ?_
          refine lv_iadd hx hb dX12_link_67 ?_
          refine lv_topi (fun z5235 e5236 => ?_)
          try (have t5237 := tadd e5236 (a := z5232.toInt) rfl (b := 1) (by decide) (by omega))
          refine va_iast hx hb hK hP (DM hg) hS 44 43 rfl rfl (i := p0) (x := z5235) (vin (a := p0.toInt) rfl (by omega)) dX12_link_68 (fun H locs hP _ hS => ?_)
          have hP := va_P_eq (sM_44 g c _ _ _ _) hP
          have hI := IM.store hI 44 (p0 : Int32).toNatClampNeg z5235 rfl (by omega)
          have hF := frUF (k := 44) (f := upd (F5229 44) (p0 : Int32).toNatClampNeg z5235) (by decide) hF
          have st5239 : (va_up F5229 44 (upd (F5229 44) (p0 : Int32).toNatClampNeg z5235)) 44 = upd (F5229 44) (p0 : Int32).toNatClampNeg z5235 := va_up_self _ _ _
          have sn5240 : ∀ k9, k9 ≠ 44 → (va_up F5229 44 (upd (F5229 44) (p0 : Int32).toNatClampNeg z5235)) k9 = F5229 k9 := fun k9 h9 => va_up_ne _ _ h9
          have hP : va_P (dC, dI) classes (wM g c v (va_up F5229 44 (upd (F5229 44) (p0 : Int32).toNatClampNeg z5235)) rc) H := hP
          generalize (va_up F5229 44 (upd (F5229 44) (p0 : Int32).toNatClampNeg z5235)) = F5238 at hP hI hF st5239 sn5240
          refine lv_aload_n hx hb dX12_link_69 rfl (lv_at hl 0 rfl) ?_
          refine va_get (D := (dC, dI)) (ci := 12) (v := .ref (g 44)) (C := RX12) (T := TX12) (N := 63) hx hb hwd inA_X12 hown hK hP 0 rfl rfl 61 (by decide) (hwd _ wk_226) (fun _ h9 => h9) rfl dX12_link_70 ?_
          refine lv_iload_n hx hb dX12_link_73 rfl (lv_at hl 1 rfl) ?_
          refine va_iald hx hb hK hP 44 43 rfl rfl (i := p0) (vin (a := p0.toInt) rfl (by omega)) dX12_link_74 ?_
          refine lv_topi (fun z5241 e5242 => ?_)
          have t5243 : 0 ≤ z5241.toInt ∧ z5241.toInt ≤ 4 := by rw [e5242]; exact hI.2 44 _ _ rfl _
          have tzz5241 : z5241.toInt = (F5238 44 (p0 : Int32).toNatClampNeg).toInt := congrArg Int32.toInt e5242
          have hP9 : va_P (dC, dI) classes (wM g c v F5238 rc) H := hP
          exact W.iret (v := z5241) hx hb hr (fun t ht hW => ⟨⟨z5241, (v, F5238, rc), rfl, ⟨hI, rfl, (fun _ _ => rfl), hF, (Or.inr (Or.inr ⟨by omega, by omega, by have a4 : z5241 = z5235 := e5242.trans ((congrFun (st5239.trans (congrArg (fun f => upd f (p0 : Int32).toNatClampNeg z5235) (sn5231 44 (by decide)))) _).trans (mu_at _ _ _)); rw [a4]; omega, z5226.toNatClampNeg, z5235, by have a9 := ncl_i (x := z5226) (by omega); omega, by omega, ((sn5240 45 (by decide)).trans st5230), (st5239.trans (congrArg (fun f => upd f (p0 : Int32).toNatClampNeg z5235) (sn5231 44 (by decide))))⟩))⟩, (by show va_P _ _ _ t.heap; rw [ht]; exact hP9)⟩, hS.F ht⟩) hS.2.2 dX12_link_75
        · skip
          have t5244 := cv_eq (a := z5215.toInt) rfl (b := 4) (by decide) c5218
          refine lv_bipush (v := (-3)) hx hb dX12_link_40 (by decide) ?_
          have hP9 : va_P (dC, dI) classes (wM g c v F rc) H := hP
          exact W.iret (v := (-3)) hx hb hr (fun t ht hW => ⟨⟨(-3), (v, F, rc), rfl, ⟨hI, rfl, (fun _ _ => rfl), hF, (Or.inr (Or.inl ⟨by omega, by omega, by decide, rfl, rfl⟩))⟩, (by show va_P _ _ _ t.heap; rw [ht]; exact hP9)⟩, hS.F ht⟩) hS.2.2 dX12_link_42
      · skip
        have t5245 := cv_eq (a := r5210.toInt) rfl (b := 0) (by decide) c5213
        refine lv_iconst (v := (-1)) hx hb dX12_link_28 (by decide) ?_
        have hP9 : va_P (dC, dI) classes (wM g c v F rc) H := hP
        exact W.iret (v := (-1)) hx hb hr (fun t ht hW => ⟨⟨(-1), (v, F, rc), rfl, ⟨hI, rfl, (fun _ _ => rfl), hF, (Or.inl ⟨by omega, by decide, rfl, rfl⟩)⟩, (by show va_P _ _ _ t.heap; rw [ht]; exact hP9)⟩, hS.F ht⟩) hS.2.2 dX12_link_29
set_option maxHeartbeats 8000000 in
set_option maxRecDepth 100000 in
theorem c_X12_net (l : Launch) (dC : Nat → ClassId) (dI : Nat → Nat → Nat) (g : Nat → Nat) (c : Nat → ClassId) (adK adV : Nat → Nat) (v : Nat → Int32) (F : Nat → Nat → Int32) (rc sz : Nat) (p0 : Int32) (p1 : Int32) (p2 : Int32) (hg : injM g) (hI : IM v F) : Met l yX12_net (Cond.code yX12_net cX12_net 5 (some .int) :: wA) ({ frames := 3, cells := 0, slots := 0, locals := 120 }) (va_Pc [.ref (g 0), .int p0, .int p1, .int p2] (PM dC dI g c adK adV v F rc sz)) (va_Qi (fun (r : Int32) (u : Unit) => r = netF (F 44) (F 45) (v 6) p0 p1 p2) (fun (_ : Unit) => BM dC dI g c (v, F, rc)) (AM g sz)) 0 0 (AM g sz) := by
  refine Met.ofW (cc := cX12_net) (maxL := 5) (ret := (some .int)) (by decide) rfl ?_
  intro p e s m args below meth c0 s₁ B hml hv
  obtain ⟨rfl, hsz, hP, hK, hE⟩ := hv
  have hx := B.exec
  have hb := B.bytes
  have hr := B.returns
  have hts := atoms_spec (ws := Cond.code yX12_net cX12_net 5 (some .int) :: wA) B.pre
  have hwd : ∀ w ∈ wA, w.before _ s = true := fun w h => hts w (List.mem_cons_of_mem _ h)
  have hown : s.vm.findClass RX12 = some m.cls := findClass_of_methodNamed B.named
  have hlocks := B.notSynchronized
  subst hsz
  have hl := lv_entry ([.ref (g 0), .int p0, .int p1, .int p2]) (n := 5) (Nat.le_of_ble_eq_true rfl)
  rw [lg_entry_eq]
  generalize (lg_sl ([.ref (g 0), .int p0, .int p1, .int p2]) ++ List.replicate (5 - (lg_sl ([.ref (g 0), .int p0, .int p1, .int p2])).length) Slot.unset).toArray = ls at hl ⊢
  have hl : lv_has ls 5 [(0, .ref (g 0)), (1, .int p0), (2, .int p1), (3, .int p2)] := hl
  obtain ⟨H, eH⟩ : ∃ z, z = s.heap := ⟨_, rfl⟩
  have hP : va_P (dC, dI) classes (wM g c v F rc) H := by rw [eH]; exact hP
  have hS : va_S (AM g s.heap.size) s.heap H [] := by rw [eH]; exact va_S.rf
  refine my_heap eH ?_
  have rp0 := i32_rng p0
  have rp1 := i32_rng p1
  have rp2 := i32_rng p2
  refine lv_aload_n hx hb dX12_net_0 rfl (lv_at hl 0 rfl) ?_
  refine lv_iload_n hx hb dX12_net_1 rfl (lv_at hl 1 rfl) ?_
  have t5246 : 0 ≤ (v 6).toInt ∧ (v 6).toInt ≤ 10 := hI.1 6 _ _ rfl
  refine va_calli (va_runV (As := [.int p0]) (rest := []) ⟨hx, hb, hml, hown, hwd⟩ (c_X12_isPlane l dC dI g c adK adV v F rc H.size p0 hg hI ) (cwV 1 hwd (gV wk_305 wk_302 wk_303 wk_304 wk_5) rfl rfl rfl (by decide +kernel) ⟨Nat.le_of_ble_eq_true rfl, Nat.le_of_ble_eq_true rfl⟩) ⟨PM.blind, va_recv hK hP (ci := 12) (q0 := 0) rfl rfl, fun U hU hW => ⟨rfl, PM.at hK hE hP hS hU hW⟩⟩ rfl rfl hl.1 rfl (lv_room (Nat.le_of_ble_eq_true rfl)) dX12_net_2 ⟨Nat.le_of_ble_eq_true rfl, Nat.le_of_ble_eq_true rfl⟩) hS (fun q _ h => (freeM hS) q h) (freeM hS) (fun r5247 u t H1 locs ht hvm hw hB hz1 hk1 hS => ?_)
  unfold BM at hB
  rw [ht] at hB
  have hP : va_P (dC, dI) classes (wM g c v F rc) H1 := hB
  replace hw : (r5247.toInt = 1 ∧ 0 ≤ p0.toInt ∧ p0.toInt < (v 6).toInt) ∨ (r5247.toInt = 0 ∧ (p0.toInt < 0 ∨ (v 6).toInt ≤ p0.toInt)) := hw
  have hw_r5247 := hw
  clear hw
  clear hz1
  generalize H1 = H at hP hS ⊢
  refine lv_if_eq (tgt := 35) hx hb dX12_net_5 (by decide) (fun c5248 => ?_) (fun c5248 => ?_)
  · skip
    have t5249 := cv_eq (a := r5247.toInt) rfl (b := 0) (by decide) c5248
    refine lv_ldc (v := (-2000000000)) hx hb hown (hwd _ wk_542) dX12_net_35 ?_
    have hP9 : va_P (dC, dI) classes (wM g c v F rc) H := hP
    exact W.iret (v := (-2000000000)) hx hb hr (fun t ht hW => ⟨⟨(-2000000000), (), rfl, (by unfold netF; rw [if_neg (by omega)]), (by show va_P _ _ _ t.heap; rw [ht]; exact hP9)⟩, hS.F ht⟩) hS.2.2 dX12_net_37
  · skip
    have t5250 := cv_ne (a := r5247.toInt) rfl (b := 0) (by decide) c5248
    refine lv_iload_n hx hb dX12_net_8 rfl (lv_at hl 2 rfl) ?_
    refine lv_iconst (v := 0) hx hb dX12_net_9 (by decide) ?_
    refine lv_aload_n hx hb dX12_net_10 rfl (lv_at hl 0 rfl) ?_
    refine va_get (D := (dC, dI)) (ci := 12) (v := .ref (g 44)) (C := RX12) (T := TX12) (N := 63) hx hb hwd inA_X12 hown hK hP 0 rfl rfl 61 (by decide) (hwd _ wk_226) (fun _ h9 => h9) rfl dX12_net_11 ?_
    refine lv_iload_n hx hb dX12_net_14 rfl (lv_at hl 1 rfl) ?_
    refine va_iald hx hb hK hP 44 43 rfl rfl (i := p0) (vin (a := p0.toInt) rfl (by omega)) dX12_net_15 ?_
    refine lv_topi (fun z5251 e5252 => ?_)
    have t5253 : 0 ≤ z5251.toInt ∧ z5251.toInt ≤ 4 := by rw [e5252]; exact hI.2 44 _ _ rfl _
    have tzz5251 : z5251.toInt = (F 44 (p0 : Int32).toNatClampNeg).toInt := congrArg Int32.toInt e5252
    refine lv_iconst (v := 1) hx hb dX12_net_16 (by decide) ?_
    refine lv_isub hx hb dX12_net_17 ?_
    refine lv_topi (fun z5254 e5255 => ?_)
    try (have t5256 := tsub e5255 (a := z5251.toInt) rfl (b := 1) (by decide) (by omega))
    refine va_calli (va_runS (As := [.int p1, .int 0, .int z5254]) (rest := []) ⟨hx, hb, hml, hown, hwd⟩ (c_X12_in l dC dI g c adK adV v F rc H.size p1 0 z5254 hg hI ) (va_cwS 3 hwd (gT wk_254 wk_252 wk_253 wk_5) rfl rfl rfl (by decide +kernel) ⟨Nat.le_of_ble_eq_true rfl, Nat.le_of_ble_eq_true rfl⟩) ⟨PM.blind, fun U hU hW => ⟨rfl, PM.at hK hE hP hS hU hW⟩⟩ rfl rfl hl.1 rfl (lv_room (Nat.le_of_ble_eq_true rfl)) dX12_net_18 ⟨Nat.le_of_ble_eq_true rfl, Nat.le_of_ble_eq_true rfl⟩) hS (fun q _ h => (freeM hS) q h) (freeM hS) (fun r5257 u t H1 locs ht hvm hw hB hz1 hk1 hS => ?_)
    unfold BM at hB
    rw [ht] at hB
    have hP : va_P (dC, dI) classes (wM g c v F rc) H1 := hB
    have hw_r5257 : (r5257.toInt = 1 ∧ (0 : Int32).toInt ≤ p1.toInt ∧ p1.toInt ≤ z5254.toInt) ∨ (r5257.toInt = 0 ∧ (p1.toInt < (0 : Int32).toInt ∨ z5254.toInt < p1.toInt)) := hw
    clear hw
    have k5258 : (0 : Int32).toInt = 0 := by decide
    clear hz1
    generalize H1 = H at hP hS ⊢
    refine lv_if_eq (tgt := 35) hx hb dX12_net_21 (by decide) (fun c5259 => ?_) (fun c5259 => ?_)
    · skip
      have t5260 := cv_eq (a := r5257.toInt) rfl (b := 0) (by decide) c5259
      refine lv_ldc (v := (-2000000000)) hx hb hown (hwd _ wk_542) dX12_net_35 ?_
      have hP9 : va_P (dC, dI) classes (wM g c v F rc) H := hP
      exact W.iret (v := (-2000000000)) hx hb hr (fun t ht hW => ⟨⟨(-2000000000), (), rfl, (by unfold netF; rw [if_neg (by omega)]), (by show va_P _ _ _ t.heap; rw [ht]; exact hP9)⟩, hS.F ht⟩) hS.2.2 dX12_net_37
    · skip
      have t5261 := cv_ne (a := r5257.toInt) rfl (b := 0) (by decide) c5259
      refine lv_iload_n hx hb dX12_net_24 rfl (lv_at hl 3 rfl) ?_
      refine lv_iconst (v := 1) hx hb dX12_net_25 (by decide) ?_
      refine lv_sipush (v := 999) hx hb dX12_net_26 (by decide) ?_
      refine va_calli (va_runS (As := [.int p2, .int 1, .int 999]) (rest := []) ⟨hx, hb, hml, hown, hwd⟩ (c_X12_in l dC dI g c adK adV v F rc H.size p2 1 999 hg hI ) (va_cwS 3 hwd (gT wk_254 wk_252 wk_253 wk_5) rfl rfl rfl (by decide +kernel) ⟨Nat.le_of_ble_eq_true rfl, Nat.le_of_ble_eq_true rfl⟩) ⟨PM.blind, fun U hU hW => ⟨rfl, PM.at hK hE hP hS hU hW⟩⟩ rfl rfl hl.1 rfl (lv_room (Nat.le_of_ble_eq_true rfl)) dX12_net_29 ⟨Nat.le_of_ble_eq_true rfl, Nat.le_of_ble_eq_true rfl⟩) hS (fun q _ h => (freeM hS) q h) (freeM hS) (fun r5262 u t H1 locs ht hvm hw hB hz1 hk1 hS => ?_)
      unfold BM at hB
      rw [ht] at hB
      have hP : va_P (dC, dI) classes (wM g c v F rc) H1 := hB
      have hw_r5262 : (r5262.toInt = 1 ∧ (1 : Int32).toInt ≤ p2.toInt ∧ p2.toInt ≤ (999 : Int32).toInt) ∨ (r5262.toInt = 0 ∧ (p2.toInt < (1 : Int32).toInt ∨ (999 : Int32).toInt < p2.toInt)) := hw
      clear hw
      have k5263 : (1 : Int32).toInt = 1 := by decide
      have k5264 : (999 : Int32).toInt = 999 := by decide
      clear hz1
      generalize H1 = H at hP hS ⊢
      refine lv_if_ne (tgt := 38) hx hb dX12_net_32 (by decide) (fun c5265 => ?_) (fun c5265 => ?_)
      · skip
        have t5266 := cv_ne (a := r5262.toInt) rfl (b := 0) (by decide) c5265
        refine lv_iload_n hx hb dX12_net_38 rfl (lv_at hl 2 rfl) ?_
        refine lv_iconst (v := 1) hx hb dX12_net_39 (by decide) ?_
        refine lv_iadd hx hb dX12_net_40 ?_
        refine lv_topi (fun z5267 e5268 => ?_)
        try (have t5269 := tadd e5268 (a := p1.toInt) rfl (b := 1) (by decide) (by omega))
        refine lv_aload_n hx hb dX12_net_41 rfl (lv_at hl 0 rfl) ?_
        refine va_get (D := (dC, dI)) (ci := 12) (v := .ref (g 44)) (C := RX12) (T := TX12) (N := 63) hx hb hwd inA_X12 hown hK hP 0 rfl rfl 61 (by decide) (hwd _ wk_226) (fun _ h9 => h9) rfl dX12_net_42 ?_
        refine lv_iload_n hx hb dX12_net_45 rfl (lv_at hl 1 rfl) ?_
        refine va_iald hx hb hK hP 44 43 rfl rfl (i := p0) (vin (a := p0.toInt) rfl (by omega)) dX12_net_46 ?_
        refine lv_topi (fun z5270 e5271 => ?_)
        have t5272 : 0 ≤ z5270.toInt ∧ z5270.toInt ≤ 4 := by rw [e5271]; exact hI.2 44 _ _ rfl _
        have tzz5270 : z5270.toInt = (F 44 (p0 : Int32).toNatClampNeg).toInt := congrArg Int32.toInt e5271
        refine lv_icmp_ge (tgt := 65) hx hb dX12_net_47 (by decide) (fun c5273 => ?_) (fun c5273 => ?_)
        · skip
          have t5274 := cv_le (a := z5270.toInt) rfl (b := z5267.toInt) rfl c5273
          refine lv_iconst (v := 0) hx hb dX12_net_65 (by decide) ?_
          refine lv_istore (lv' := [(4, .int 0), (0, .ref (g 0)), (1, .int p0), (2, .int p1), (3, .int p2)]) hx hb dX12_net_66 hl (by decide) rfl (fun ls hl => ?_)
          refine lv_aload_n hx hb dX12_net_68 rfl (lv_at hl 1 rfl) ?_
          refine va_get (D := (dC, dI)) (ci := 12) (v := .ref (g 45)) (C := RX12) (T := TX12) (N := 63) hx hb hwd inA_X12 hown hK hP 0 rfl rfl 62 (by decide) (hwd _ wk_227) (fun _ h9 => h9) rfl dX12_net_69 ?_
          refine lv_iconst (v := 4) hx hb dX12_net_72 (by decide) ?_
          refine lv_iload_n hx hb dX12_net_73 rfl (lv_at hl 2 rfl) ?_
          refine lv_imul hx hb dX12_net_74 ?_
          refine lv_topi (fun z5275 e5276 => ?_)
          try (have t5277 := tmul e5276 (a := 4) (by decide) (b := p0.toInt) rfl (by omega))
          refine lv_iload_n hx hb dX12_net_75 rfl (lv_at hl 3 rfl) ?_
          refine lv_iadd hx hb dX12_net_76 ?_
          refine lv_topi (fun z5278 e5279 => ?_)
          try (have t5280 := tadd e5279 (a := z5275.toInt) rfl (b := p1.toInt) rfl (by omega))
          refine va_iald hx hb hK hP 45 44 rfl rfl (i := z5278) (vin (a := z5278.toInt) rfl (by omega)) dX12_net_77 ?_
          refine lv_topi (fun z5281 e5282 => ?_)
          have tzz5281 : z5281.toInt = (F 45 (z5278 : Int32).toNatClampNeg).toInt := congrArg Int32.toInt e5282
          refine lv_iload hx hb dX12_net_78 (lv_at hl 0 rfl) ?_
          refine lv_isub hx hb dX12_net_80 ?_
          refine lv_topi (fun z5283 e5284 => ?_)
          try (have t5285 := tsub e5284 (a := z5281.toInt) rfl (b := 0) (by decide) (by omega))
          refine lv_iload_n hx hb dX12_net_81 rfl (lv_at hl 4 rfl) ?_
          refine lv_imul hx hb dX12_net_82 ?_
          refine lv_topi (fun z5286 e5287 => ?_)
          try (have t5288 := tmul e5287 (a := z5283.toInt) rfl (b := p2.toInt) rfl (by omega))
          have hP9 : va_P (dC, dI) classes (wM g c v F rc) H := hP
          exact W.iret (v := z5286) hx hb hr (fun t ht hW => ⟨⟨z5286, (), rfl, (by have b9 : lrF (F 44) (F 45) p0 p1 = z5281 := lr_in (by omega) e5282 (by omega); have e1 : (p1 + 1).toInt = p1.toInt + 1 := tadd rfl rfl (b := 1) (by decide) (by omega); have n9 : lrF (F 44) (F 45) p0 (p1 + 1) = 0 := lr_out (by omega); unfold netF; rw [if_pos (by omega), b9, n9, e5287, e5284]), (by show va_P _ _ _ t.heap; rw [ht]; exact hP9)⟩, hS.F ht⟩) hS.2.2 dX12_net_83
        · skip
          have t5289 := cv_nle (a := z5270.toInt) rfl (b := z5267.toInt) rfl c5273
          refine lv_aload_n hx hb dX12_net_50 rfl (lv_at hl 0 rfl) ?_
          refine va_get (D := (dC, dI)) (ci := 12) (v := .ref (g 45)) (C := RX12) (T := TX12) (N := 63) hx hb hwd inA_X12 hown hK hP 0 rfl rfl 62 (by decide) (hwd _ wk_227) (fun _ h9 => h9) rfl dX12_net_51 ?_
          refine lv_iconst (v := 4) hx hb dX12_net_54 (by decide) ?_
          refine lv_iload_n hx hb dX12_net_55 rfl (lv_at hl 1 rfl) ?_
          refine lv_imul hx hb dX12_net_56 ?_
          refine lv_topi (fun z5290 e5291 => ?_)
          try (have t5292 := tmul e5291 (a := 4) (by decide) (b := p0.toInt) rfl (by omega))
          refine lv_iload_n hx hb dX12_net_57 rfl (lv_at hl 2 rfl) ?_
          refine lv_iadd hx hb dX12_net_58 ?_
          refine lv_topi (fun z5293 e5294 => ?_)
          try (have t5295 := tadd e5294 (a := z5290.toInt) rfl (b := p1.toInt) rfl (by omega))
          refine lv_iconst (v := 1) hx hb dX12_net_59 (by decide) ?_
          refine lv_iadd hx hb dX12_net_60 ?_
          refine lv_topi (fun z5296 e5297 => ?_)
          try (have t5298 := tadd e5297 (a := z5293.toInt) rfl (b := 1) (by decide) (by omega))
          refine va_iald hx hb hK hP 45 44 rfl rfl (i := z5296) (vin (a := z5296.toInt) rfl (by omega)) dX12_net_61 ?_
          refine lv_topi (fun z5299 e5300 => ?_)
          have tzz5299 : z5299.toInt = (F 45 (z5296 : Int32).toNatClampNeg).toInt := congrArg Int32.toInt e5300
          refine lv_goto (tgt := 66) hx hb dX12_net_62 (by decide) ?_
          refine lv_istore (lv' := [(4, .int z5299), (0, .ref (g 0)), (1, .int p0), (2, .int p1), (3, .int p2)]) hx hb dX12_net_66 hl (by decide) rfl (fun ls hl => ?_)
          refine lv_aload_n hx hb dX12_net_68 rfl (lv_at hl 1 rfl) ?_
          refine va_get (D := (dC, dI)) (ci := 12) (v := .ref (g 45)) (C := RX12) (T := TX12) (N := 63) hx hb hwd inA_X12 hown hK hP 0 rfl rfl 62 (by decide) (hwd _ wk_227) (fun _ h9 => h9) rfl dX12_net_69 ?_
          refine lv_iconst (v := 4) hx hb dX12_net_72 (by decide) ?_
          refine lv_iload_n hx hb dX12_net_73 rfl (lv_at hl 2 rfl) ?_
          refine lv_imul hx hb dX12_net_74 ?_
          refine lv_topi (fun z5301 e5302 => ?_)
          try (have t5303 := tmul e5302 (a := 4) (by decide) (b := p0.toInt) rfl (by omega))
          refine lv_iload_n hx hb dX12_net_75 rfl (lv_at hl 3 rfl) ?_
          refine lv_iadd hx hb dX12_net_76 ?_
          refine lv_topi (fun z5304 e5305 => ?_)
          try (have t5306 := tadd e5305 (a := z5301.toInt) rfl (b := p1.toInt) rfl (by omega))
          refine va_iald hx hb hK hP 45 44 rfl rfl (i := z5304) (vin (a := z5304.toInt) rfl (by omega)) dX12_net_77 ?_
          refine lv_topi (fun z5307 e5308 => ?_)
          have tzz5307 : z5307.toInt = (F 45 (z5304 : Int32).toNatClampNeg).toInt := congrArg Int32.toInt e5308
          refine lv_iload hx hb dX12_net_78 (lv_at hl 0 rfl) ?_
          refine lv_isub hx hb dX12_net_80 ?_
          refine lv_topi (fun z5309 e5310 => ?_)
          try (have t5311 := tsub e5310 (a := z5307.toInt) rfl (b := z5299.toInt) rfl (by omega))
          refine lv_iload_n hx hb dX12_net_81 rfl (lv_at hl 4 rfl) ?_
          refine lv_imul hx hb dX12_net_82 ?_
          refine lv_topi (fun z5312 e5313 => ?_)
          try (have t5314 := tmul e5313 (a := z5309.toInt) rfl (b := p2.toInt) rfl (by omega))
          have hP9 : va_P (dC, dI) classes (wM g c v F rc) H := hP
          exact W.iret (v := z5312) hx hb hr (fun t ht hW => ⟨⟨z5312, (), rfl, (by have b9 : lrF (F 44) (F 45) p0 p1 = z5307 := lr_in (by omega) e5308 (by omega); have e1 : (p1 + 1).toInt = p1.toInt + 1 := tadd rfl rfl (b := 1) (by decide) (by omega); have n9 : lrF (F 44) (F 45) p0 (p1 + 1) = z5299 := lr_in (by omega) e5300 (by omega); unfold netF; rw [if_pos (by omega), b9, n9, e5313, e5310]), (by show va_P _ _ _ t.heap; rw [ht]; exact hP9)⟩, hS.F ht⟩) hS.2.2 dX12_net_83
      · skip
        have t5315 := cv_eq (a := r5262.toInt) rfl (b := 0) (by decide) c5265
        refine lv_ldc (v := (-2000000000)) hx hb hown (hwd _ wk_542) dX12_net_35 ?_
        have hP9 : va_P (dC, dI) classes (wM g c v F rc) H := hP
        exact W.iret (v := (-2000000000)) hx hb hr (fun t ht hW => ⟨⟨(-2000000000), (), rfl, (by unfold netF; rw [if_neg (by omega)]), (by show va_P _ _ _ t.heap; rw [ht]; exact hP9)⟩, hS.F ht⟩) hS.2.2 dX12_net_37
set_option maxHeartbeats 8000000 in
set_option maxRecDepth 100000 in
theorem c_X12_bestCost (l : Launch) (dC : Nat → ClassId) (dI : Nat → Nat → Nat) (g : Nat → Nat) (c : Nat → ClassId) (adK adV : Nat → Nat) (v : Nat → Int32) (F : Nat → Nat → Int32) (rc sz : Nat) (hg : injM g) (hI : IM v F) : Met l yX12_bestCost (Cond.code yX12_bestCost cX12_bestCost 1 (some .int) :: wA) ({ frames := 1, cells := 0, slots := 0, locals := 40 }) (va_Pc [.ref (g 0)] (PM dC dI g c adK adV v F rc sz)) (va_Qi (fun (r : Int32) (u : Unit) => True) (fun (_ : Unit) => BM dC dI g c (v, F, rc)) (AM g sz)) 0 0 (AM g sz) := by
  refine Met.ofW (cc := cX12_bestCost) (maxL := 1) (ret := (some .int)) (by decide) rfl ?_
  intro p e s m args below meth c0 s₁ B hml hv
  obtain ⟨rfl, hsz, hP, hK, hE⟩ := hv
  have hx := B.exec
  have hb := B.bytes
  have hr := B.returns
  have hts := atoms_spec (ws := Cond.code yX12_bestCost cX12_bestCost 1 (some .int) :: wA) B.pre
  have hwd : ∀ w ∈ wA, w.before _ s = true := fun w h => hts w (List.mem_cons_of_mem _ h)
  have hown : s.vm.findClass RX12 = some m.cls := findClass_of_methodNamed B.named
  have hlocks := B.notSynchronized
  subst hsz
  have hl := lv_entry ([.ref (g 0)]) (n := 1) (Nat.le_of_ble_eq_true rfl)
  rw [lg_entry_eq]
  generalize (lg_sl ([.ref (g 0)]) ++ List.replicate (1 - (lg_sl ([.ref (g 0)])).length) Slot.unset).toArray = ls at hl ⊢
  have hl : lv_has ls 1 [(0, .ref (g 0))] := hl
  obtain ⟨H, eH⟩ : ∃ z, z = s.heap := ⟨_, rfl⟩
  have hP : va_P (dC, dI) classes (wM g c v F rc) H := by rw [eH]; exact hP
  have hS : va_S (AM g s.heap.size) s.heap H [] := by rw [eH]; exact va_S.rf
  refine my_heap eH ?_
  refine lv_aload_n hx hb dX12_bestCost_0 rfl (lv_at hl 0 rfl) ?_
  refine va_get (D := (dC, dI)) (ci := 12) (v := .int (v 57)) (C := RX12) (T := TX12) (N := 63) hx hb hwd inA_X12 hown hK hP 0 rfl rfl 57 (by decide) (hwd _ wk_1304) (fun _ h9 => h9) rfl dX12_bestCost_1 ?_
  refine lv_if_eq (tgt := 14) hx hb dX12_bestCost_4 (by decide) (fun c5316 => ?_) (fun c5316 => ?_)
  · skip
    have t5317 := cv_eq (a := (v 57).toInt) rfl (b := 0) (by decide) c5316
    refine lv_ldc (v := (-2000000000)) hx hb hown (hwd _ wk_542) dX12_bestCost_14 ?_
    have hP9 : va_P (dC, dI) classes (wM g c v F rc) H := hP
    exact W.iret (v := (-2000000000)) hx hb hr (fun t ht hW => ⟨⟨(-2000000000), (), rfl, trivial, (by show va_P _ _ _ t.heap; rw [ht]; exact hP9)⟩, hS.F ht⟩) hS.2.2 dX12_bestCost_16
  · skip
    have t5318 := cv_ne (a := (v 57).toInt) rfl (b := 0) (by decide) c5316
    refine lv_aload_n hx hb dX12_bestCost_7 rfl (lv_at hl 0 rfl) ?_
    refine va_get (D := (dC, dI)) (ci := 12) (v := .int (v 58)) (C := RX12) (T := TX12) (N := 63) hx hb hwd inA_X12 hown hK hP 0 rfl rfl 58 (by decide) (hwd _ wk_1305) (fun _ h9 => h9) rfl dX12_bestCost_8 ?_
    refine lv_goto (tgt := 16) hx hb dX12_bestCost_11 (by decide) ?_
    have hP9 : va_P (dC, dI) classes (wM g c v F rc) H := hP
    exact W.iret (v := v 58) hx hb hr (fun t ht hW => ⟨⟨(v 58), (), rfl, trivial, (by show va_P _ _ _ t.heap; rw [ht]; exact hP9)⟩, hS.F ht⟩) hS.2.2 dX12_bestCost_16
