set_option maxHeartbeats 8000000 in
set_option maxRecDepth 100000 in
theorem c_X12_kind (l : Launch) (dC : Nat → ClassId) (dI : Nat → Nat → Nat) (g : Nat → Nat) (c : Nat → ClassId) (adK adV : Nat → Nat) (v : Nat → Int32) (F : Nat → Nat → Int32) (rc sz : Nat) (p0 : Int32) (p1 : Int32) (p2 : Int32) (p3 : Int32) (hg : injM g) (hI : IM v F) : Met l yX12_kind (Cond.code yX12_kind cX12_kind 5 (some .int) :: wA) ({ frames := 2, cells := 0, slots := 0, locals := 80 }) (va_Pc [.ref (g 0), .int p0, .int p1, .int p2, .int p3] (PM dC dI g c adK adV v F rc sz)) (va_Qi (fun (r : Int32) (u : StM) => IM u.1 u.2.1 ∧ u.2.2 = rc ∧ (∀ k, k ∉ ([2] : List Nat) → u.1 k = v k) ∧ (∀ k, k ∉ ([1, 2, 3] : List Nat) → u.2.1 k = F k) ∧ ((¬ ((0 ≤ p0.toInt ∧ p0.toInt ≤ 99999) ∧ (0 ≤ p1.toInt ∧ p1.toInt ≤ 99999) ∧ (0 ≤ p2.toInt ∧ p2.toInt ≤ 99999) ∧ (0 ≤ p3.toInt ∧ p3.toInt ≤ 999999)) ∧ r.toInt = -1 ∧ (u.1 2).toInt = (v 2).toInt) ∨ (((0 ≤ p0.toInt ∧ p0.toInt ≤ 99999) ∧ (0 ≤ p1.toInt ∧ p1.toInt ≤ 99999) ∧ (0 ≤ p2.toInt ∧ p2.toInt ≤ 99999) ∧ (0 ≤ p3.toInt ∧ p3.toInt ≤ 999999)) ∧ (v 2).toInt = 10 ∧ r.toInt = -3 ∧ (u.1 2).toInt = (v 2).toInt) ∨ (((0 ≤ p0.toInt ∧ p0.toInt ≤ 99999) ∧ (0 ≤ p1.toInt ∧ p1.toInt ≤ 99999) ∧ (0 ≤ p2.toInt ∧ p2.toInt ≤ 99999) ∧ (0 ≤ p3.toInt ∧ p3.toInt ≤ 999999)) ∧ (v 2).toInt < 10 ∧ r.toInt = (v 2).toInt ∧ (u.1 2).toInt = (v 2).toInt + 1))) (BM dC dI g c) (AM g sz)) 0 0 (AM g sz) := by
  refine Met.ofW (cc := cX12_kind) (maxL := 5) (ret := (some .int)) (by decide) rfl ?_
  intro p e s m args below meth c0 s₁ B hml hv
  obtain ⟨rfl, hsz, hP, hK, hE⟩ := hv
  have hx := B.exec
  have hb := B.bytes
  have hr := B.returns
  have hts := atoms_spec (ws := Cond.code yX12_kind cX12_kind 5 (some .int) :: wA) B.pre
  have hwd : ∀ w ∈ wA, w.before _ s = true := fun w h => hts w (List.mem_cons_of_mem _ h)
  have hown : s.vm.findClass RX12 = some m.cls := findClass_of_methodNamed B.named
  have hlocks := B.notSynchronized
  subst hsz
  have hl := lv_entry ([.ref (g 0), .int p0, .int p1, .int p2, .int p3]) (n := 5) (Nat.le_of_ble_eq_true rfl)
  rw [lg_entry_eq]
  generalize (lg_sl ([.ref (g 0), .int p0, .int p1, .int p2, .int p3]) ++ List.replicate (5 - (lg_sl ([.ref (g 0), .int p0, .int p1, .int p2, .int p3])).length) Slot.unset).toArray = ls at hl ⊢
  have hl : lv_has ls 5 [(0, .ref (g 0)), (1, .int p0), (2, .int p1), (3, .int p2), (4, .int p3)] := hl
  obtain ⟨H, eH⟩ : ∃ z, z = s.heap := ⟨_, rfl⟩
  have hP : va_P (dC, dI) classes (wM g c v F rc) H := by rw [eH]; exact hP
  have hS : va_S (AM g s.heap.size) s.heap H [] := by rw [eH]; exact va_S.rf
  refine my_heap eH ?_
  have hF : ∀ k, k ∉ ([1, 2, 3] : List Nat) → F k = F k := fun _ _ => rfl
  have rp0 := i32_rng p0
  have rp1 := i32_rng p1
  have rp2 := i32_rng p2
  have rp3 := i32_rng p3
  refine lv_iload_n hx hb dX12_kind_0 rfl (lv_at hl 1 rfl) ?_
  refine lv_iconst (v := 0) hx hb dX12_kind_1 (by decide) ?_
  refine lv_ldc (v := 99999) hx hb hown (hwd _ wk_249) dX12_kind_2 ?_
  refine va_calli (va_runS (As := [.int p0, .int 0, .int 99999]) (rest := []) ⟨hx, hb, hml, hown, hwd⟩ (c_X12_in l dC dI g c adK adV v F rc H.size p0 0 99999 hg hI ) (va_cwS 3 hwd (gT wk_254 wk_252 wk_253 wk_5) rfl rfl rfl (by decide +kernel) ⟨Nat.le_of_ble_eq_true rfl, Nat.le_of_ble_eq_true rfl⟩) ⟨PM.blind, fun U hU hW => ⟨rfl, PM.at hK hE hP hS hU hW⟩⟩ rfl rfl hl.1 rfl (lv_room (Nat.le_of_ble_eq_true rfl)) dX12_kind_4 ⟨Nat.le_of_ble_eq_true rfl, Nat.le_of_ble_eq_true rfl⟩) hS (fun q _ h => (freeM hS) q h) (freeM hS) (fun r4878 u t H1 locs ht hvm hw hB hz1 hk1 hS => ?_)
  unfold BM at hB
  rw [ht] at hB
  have hP : va_P (dC, dI) classes (wM g c v F rc) H1 := hB
  have hw_r4878 : (r4878.toInt = 1 ∧ (0 : Int32).toInt ≤ p0.toInt ∧ p0.toInt ≤ (99999 : Int32).toInt) ∨ (r4878.toInt = 0 ∧ (p0.toInt < (0 : Int32).toInt ∨ (99999 : Int32).toInt < p0.toInt)) := hw
  clear hw
  have k4879 : (0 : Int32).toInt = 0 := by decide
  have k4880 : (99999 : Int32).toInt = 99999 := by decide
  clear hz1
  generalize H1 = H at hP hS ⊢
  refine lv_if_eq (tgt := 41) hx hb dX12_kind_7 (by decide) (fun c4881 => ?_) (fun c4881 => ?_)
  · skip
    have t4882 := cv_eq (a := r4878.toInt) rfl (b := 0) (by decide) c4881
    refine lv_iconst (v := (-1)) hx hb dX12_kind_41 (by decide) ?_
    have hP9 : va_P (dC, dI) classes (wM g c v F rc) H := hP
    exact W.iret (v := (-1)) hx hb hr (fun t ht hW => ⟨⟨(-1), (v, F, rc), rfl, ⟨hI, rfl, (fun _ _ => rfl), hF, (by show (¬ ((0 ≤ p0.toInt ∧ p0.toInt ≤ 99999) ∧ (0 ≤ p1.toInt ∧ p1.toInt ≤ 99999) ∧ (0 ≤ p2.toInt ∧ p2.toInt ≤ 99999) ∧ (0 ≤ p3.toInt ∧ p3.toInt ≤ 999999)) ∧ ((-1) : Int32).toInt = -1 ∧ (v 2).toInt = (v 2).toInt) ∨ (((0 ≤ p0.toInt ∧ p0.toInt ≤ 99999) ∧ (0 ≤ p1.toInt ∧ p1.toInt ≤ 99999) ∧ (0 ≤ p2.toInt ∧ p2.toInt ≤ 99999) ∧ (0 ≤ p3.toInt ∧ p3.toInt ≤ 999999)) ∧ (v 2).toInt = 10 ∧ ((-1) : Int32).toInt = -3 ∧ (v 2).toInt = (v 2).toInt) ∨ (((0 ≤ p0.toInt ∧ p0.toInt ≤ 99999) ∧ (0 ≤ p1.toInt ∧ p1.toInt ≤ 99999) ∧ (0 ≤ p2.toInt ∧ p2.toInt ≤ 99999) ∧ (0 ≤ p3.toInt ∧ p3.toInt ≤ 999999)) ∧ (v 2).toInt < 10 ∧ ((-1) : Int32).toInt = (v 2).toInt ∧ (v 2).toInt = (v 2).toInt + 1); have : ((-1) : Int32).toInt = (-1) := (by decide); omega)⟩, (by show va_P _ _ _ t.heap; rw [ht]; exact hP9)⟩, hS.F ht⟩) hS.2.2 dX12_kind_42
  · skip
    have t4883 := cv_ne (a := r4878.toInt) rfl (b := 0) (by decide) c4881
    refine lv_iload_n hx hb dX12_kind_10 rfl (lv_at hl 2 rfl) ?_
    refine lv_iconst (v := 0) hx hb dX12_kind_11 (by decide) ?_
    refine lv_ldc (v := 99999) hx hb hown (hwd _ wk_249) dX12_kind_12 ?_
    refine va_calli (va_runS (As := [.int p1, .int 0, .int 99999]) (rest := []) ⟨hx, hb, hml, hown, hwd⟩ (c_X12_in l dC dI g c adK adV v F rc H.size p1 0 99999 hg hI ) (va_cwS 3 hwd (gT wk_254 wk_252 wk_253 wk_5) rfl rfl rfl (by decide +kernel) ⟨Nat.le_of_ble_eq_true rfl, Nat.le_of_ble_eq_true rfl⟩) ⟨PM.blind, fun U hU hW => ⟨rfl, PM.at hK hE hP hS hU hW⟩⟩ rfl rfl hl.1 rfl (lv_room (Nat.le_of_ble_eq_true rfl)) dX12_kind_14 ⟨Nat.le_of_ble_eq_true rfl, Nat.le_of_ble_eq_true rfl⟩) hS (fun q _ h => (freeM hS) q h) (freeM hS) (fun r4884 u t H1 locs ht hvm hw hB hz1 hk1 hS => ?_)
    unfold BM at hB
    rw [ht] at hB
    have hP : va_P (dC, dI) classes (wM g c v F rc) H1 := hB
    have hw_r4884 : (r4884.toInt = 1 ∧ (0 : Int32).toInt ≤ p1.toInt ∧ p1.toInt ≤ (99999 : Int32).toInt) ∨ (r4884.toInt = 0 ∧ (p1.toInt < (0 : Int32).toInt ∨ (99999 : Int32).toInt < p1.toInt)) := hw
    clear hw
    have k4885 : (0 : Int32).toInt = 0 := by decide
    have k4886 : (99999 : Int32).toInt = 99999 := by decide
    clear hz1
    generalize H1 = H at hP hS ⊢
    refine lv_if_eq (tgt := 41) hx hb dX12_kind_17 (by decide) (fun c4887 => ?_) (fun c4887 => ?_)
    · skip
      have t4888 := cv_eq (a := r4884.toInt) rfl (b := 0) (by decide) c4887
      refine lv_iconst (v := (-1)) hx hb dX12_kind_41 (by decide) ?_
      have hP9 : va_P (dC, dI) classes (wM g c v F rc) H := hP
      exact W.iret (v := (-1)) hx hb hr (fun t ht hW => ⟨⟨(-1), (v, F, rc), rfl, ⟨hI, rfl, (fun _ _ => rfl), hF, (by show (¬ ((0 ≤ p0.toInt ∧ p0.toInt ≤ 99999) ∧ (0 ≤ p1.toInt ∧ p1.toInt ≤ 99999) ∧ (0 ≤ p2.toInt ∧ p2.toInt ≤ 99999) ∧ (0 ≤ p3.toInt ∧ p3.toInt ≤ 999999)) ∧ ((-1) : Int32).toInt = -1 ∧ (v 2).toInt = (v 2).toInt) ∨ (((0 ≤ p0.toInt ∧ p0.toInt ≤ 99999) ∧ (0 ≤ p1.toInt ∧ p1.toInt ≤ 99999) ∧ (0 ≤ p2.toInt ∧ p2.toInt ≤ 99999) ∧ (0 ≤ p3.toInt ∧ p3.toInt ≤ 999999)) ∧ (v 2).toInt = 10 ∧ ((-1) : Int32).toInt = -3 ∧ (v 2).toInt = (v 2).toInt) ∨ (((0 ≤ p0.toInt ∧ p0.toInt ≤ 99999) ∧ (0 ≤ p1.toInt ∧ p1.toInt ≤ 99999) ∧ (0 ≤ p2.toInt ∧ p2.toInt ≤ 99999) ∧ (0 ≤ p3.toInt ∧ p3.toInt ≤ 999999)) ∧ (v 2).toInt < 10 ∧ ((-1) : Int32).toInt = (v 2).toInt ∧ (v 2).toInt = (v 2).toInt + 1); have : ((-1) : Int32).toInt = (-1) := (by decide); omega)⟩, (by show va_P _ _ _ t.heap; rw [ht]; exact hP9)⟩, hS.F ht⟩) hS.2.2 dX12_kind_42
    · skip
      have t4889 := cv_ne (a := r4884.toInt) rfl (b := 0) (by decide) c4887
      refine lv_iload_n hx hb dX12_kind_20 rfl (lv_at hl 3 rfl) ?_
      refine lv_iconst (v := 0) hx hb dX12_kind_21 (by decide) ?_
      refine lv_ldc (v := 99999) hx hb hown (hwd _ wk_249) dX12_kind_22 ?_
      refine va_calli (va_runS (As := [.int p2, .int 0, .int 99999]) (rest := []) ⟨hx, hb, hml, hown, hwd⟩ (c_X12_in l dC dI g c adK adV v F rc H.size p2 0 99999 hg hI ) (va_cwS 3 hwd (gT wk_254 wk_252 wk_253 wk_5) rfl rfl rfl (by decide +kernel) ⟨Nat.le_of_ble_eq_true rfl, Nat.le_of_ble_eq_true rfl⟩) ⟨PM.blind, fun U hU hW => ⟨rfl, PM.at hK hE hP hS hU hW⟩⟩ rfl rfl hl.1 rfl (lv_room (Nat.le_of_ble_eq_true rfl)) dX12_kind_24 ⟨Nat.le_of_ble_eq_true rfl, Nat.le_of_ble_eq_true rfl⟩) hS (fun q _ h => (freeM hS) q h) (freeM hS) (fun r4890 u t H1 locs ht hvm hw hB hz1 hk1 hS => ?_)
      unfold BM at hB
      rw [ht] at hB
      have hP : va_P (dC, dI) classes (wM g c v F rc) H1 := hB
      have hw_r4890 : (r4890.toInt = 1 ∧ (0 : Int32).toInt ≤ p2.toInt ∧ p2.toInt ≤ (99999 : Int32).toInt) ∨ (r4890.toInt = 0 ∧ (p2.toInt < (0 : Int32).toInt ∨ (99999 : Int32).toInt < p2.toInt)) := hw
      clear hw
      have k4891 : (0 : Int32).toInt = 0 := by decide
      have k4892 : (99999 : Int32).toInt = 99999 := by decide
      clear hz1
      generalize H1 = H at hP hS ⊢
      refine lv_if_eq (tgt := 41) hx hb dX12_kind_27 (by decide) (fun c4893 => ?_) (fun c4893 => ?_)
      · skip
        have t4894 := cv_eq (a := r4890.toInt) rfl (b := 0) (by decide) c4893
        refine lv_iconst (v := (-1)) hx hb dX12_kind_41 (by decide) ?_
        have hP9 : va_P (dC, dI) classes (wM g c v F rc) H := hP
        exact W.iret (v := (-1)) hx hb hr (fun t ht hW => ⟨⟨(-1), (v, F, rc), rfl, ⟨hI, rfl, (fun _ _ => rfl), hF, (by show (¬ ((0 ≤ p0.toInt ∧ p0.toInt ≤ 99999) ∧ (0 ≤ p1.toInt ∧ p1.toInt ≤ 99999) ∧ (0 ≤ p2.toInt ∧ p2.toInt ≤ 99999) ∧ (0 ≤ p3.toInt ∧ p3.toInt ≤ 999999)) ∧ ((-1) : Int32).toInt = -1 ∧ (v 2).toInt = (v 2).toInt) ∨ (((0 ≤ p0.toInt ∧ p0.toInt ≤ 99999) ∧ (0 ≤ p1.toInt ∧ p1.toInt ≤ 99999) ∧ (0 ≤ p2.toInt ∧ p2.toInt ≤ 99999) ∧ (0 ≤ p3.toInt ∧ p3.toInt ≤ 999999)) ∧ (v 2).toInt = 10 ∧ ((-1) : Int32).toInt = -3 ∧ (v 2).toInt = (v 2).toInt) ∨ (((0 ≤ p0.toInt ∧ p0.toInt ≤ 99999) ∧ (0 ≤ p1.toInt ∧ p1.toInt ≤ 99999) ∧ (0 ≤ p2.toInt ∧ p2.toInt ≤ 99999) ∧ (0 ≤ p3.toInt ∧ p3.toInt ≤ 999999)) ∧ (v 2).toInt < 10 ∧ ((-1) : Int32).toInt = (v 2).toInt ∧ (v 2).toInt = (v 2).toInt + 1); have : ((-1) : Int32).toInt = (-1) := (by decide); omega)⟩, (by show va_P _ _ _ t.heap; rw [ht]; exact hP9)⟩, hS.F ht⟩) hS.2.2 dX12_kind_42
      · skip
        have t4895 := cv_ne (a := r4890.toInt) rfl (b := 0) (by decide) c4893
        refine lv_iload hx hb dX12_kind_30 (lv_at hl 4 rfl) ?_
        refine lv_iconst (v := 0) hx hb dX12_kind_32 (by decide) ?_
        refine lv_ldc (v := 999999) hx hb hown (hwd _ wk_250) dX12_kind_33 ?_
        refine va_calli (va_runS (As := [.int p3, .int 0, .int 999999]) (rest := []) ⟨hx, hb, hml, hown, hwd⟩ (c_X12_in l dC dI g c adK adV v F rc H.size p3 0 999999 hg hI ) (va_cwS 3 hwd (gT wk_254 wk_252 wk_253 wk_5) rfl rfl rfl (by decide +kernel) ⟨Nat.le_of_ble_eq_true rfl, Nat.le_of_ble_eq_true rfl⟩) ⟨PM.blind, fun U hU hW => ⟨rfl, PM.at hK hE hP hS hU hW⟩⟩ rfl rfl hl.1 rfl (lv_room (Nat.le_of_ble_eq_true rfl)) dX12_kind_35 ⟨Nat.le_of_ble_eq_true rfl, Nat.le_of_ble_eq_true rfl⟩) hS (fun q _ h => (freeM hS) q h) (freeM hS) (fun r4896 u t H1 locs ht hvm hw hB hz1 hk1 hS => ?_)
        unfold BM at hB
        rw [ht] at hB
        have hP : va_P (dC, dI) classes (wM g c v F rc) H1 := hB
        have hw_r4896 : (r4896.toInt = 1 ∧ (0 : Int32).toInt ≤ p3.toInt ∧ p3.toInt ≤ (999999 : Int32).toInt) ∨ (r4896.toInt = 0 ∧ (p3.toInt < (0 : Int32).toInt ∨ (999999 : Int32).toInt < p3.toInt)) := hw
        clear hw
        have k4897 : (0 : Int32).toInt = 0 := by decide
        have k4898 : (999999 : Int32).toInt = 999999 := by decide
        clear hz1
        generalize H1 = H at hP hS ⊢
        refine lv_if_ne (tgt := 43) hx hb dX12_kind_38 (by decide) (fun c4899 => ?_) (fun c4899 => ?_)
        · skip
          have t4900 := cv_ne (a := r4896.toInt) rfl (b := 0) (by decide) c4899
          refine lv_aload_n hx hb dX12_kind_43 rfl (lv_at hl 0 rfl) ?_
          refine va_get (D := (dC, dI)) (ci := 12) (v := .int (v 2)) (C := RX12) (T := TX12) (N := 63) hx hb hwd inA_X12 hown hK hP 0 rfl rfl 2 (by decide) (hwd _ wk_251) (fun _ h9 => h9) rfl dX12_kind_44 ?_
          have t4901 : 0 ≤ (v 2).toInt ∧ (v 2).toInt ≤ 10 := hI.1 2 _ _ rfl
          refine lv_bipush (v := 10) hx hb dX12_kind_47 (by decide) ?_
          refine lv_icmp_ne (tgt := 55) hx hb dX12_kind_49 (by decide) (fun c4902 => ?_) (fun c4902 => ?_)
          · skip
            have t4903 := cv_ne (a := (v 2).toInt) rfl (b := 10) (by decide) c4902
            refine lv_aload_n hx hb dX12_kind_55 rfl (lv_at hl 0 rfl) ?_
            refine va_get (D := (dC, dI)) (ci := 12) (v := .ref (g 1)) (C := RX12) (T := TX12) (N := 63) hx hb hwd inA_X12 hown hK hP 0 rfl rfl 3 (by decide) (hwd _ wk_182) (fun _ h9 => h9) rfl dX12_kind_56 ?_
            refine lv_iconst (v := 3) hx hb dX12_kind_59 (by decide) ?_
            refine lv_aload_n hx hb dX12_kind_60 rfl (lv_at hl 0 rfl) ?_
            refine va_get (D := (dC, dI)) (ci := 12) (v := .int (v 2)) (C := RX12) (T := TX12) (N := 63) hx hb hwd inA_X12 hown hK hP 0 rfl rfl 2 (by decide) (hwd _ wk_251) (fun _ h9 => h9) rfl dX12_kind_61 ?_
            have t4904 : 0 ≤ (v 2).toInt ∧ (v 2).toInt ≤ 10 := hI.1 2 _ _ rfl
            refine lv_imul hx hb dX12_kind_64 ?_
            refine lv_topi (fun z4905 e4906 => ?_)
            try (have t4907 := tmul e4906 (a := 3) (by decide) (b := (v 2).toInt) rfl (by omega))
            refine lv_iload_n hx hb dX12_kind_65 rfl (lv_at hl 1 rfl) ?_
            refine va_iast hx hb hK hP (DM hg) hS 1 0 rfl rfl (i := z4905) (x := p0) (vin (a := z4905.toInt) rfl (by omega)) dX12_kind_66 (fun H locs hP _ hS => ?_)
            have hP := va_P_eq (sM_1 g c _ _ _ _) hP
            have hI := IM.store0 hI 1 (z4905 : Int32).toNatClampNeg p0 rfl
            have hF := frUF (k := 1) (f := upd (F 1) (z4905 : Int32).toNatClampNeg p0) (by decide) hF
            have hP : va_P (dC, dI) classes (wM g c v (va_up F 1 (upd (F 1) (z4905 : Int32).toNatClampNeg p0)) rc) H := hP
            generalize (va_up F 1 (upd (F 1) (z4905 : Int32).toNatClampNeg p0)) = F4908 at hP hI hF
            refine lv_aload_n hx hb dX12_kind_67 rfl (lv_at hl 0 rfl) ?_
            refine va_get (D := (dC, dI)) (ci := 12) (v := .ref (g 1)) (C := RX12) (T := TX12) (N := 63) hx hb hwd inA_X12 hown hK hP 0 rfl rfl 3 (by decide) (hwd _ wk_182) (fun _ h9 => h9) rfl dX12_kind_68 ?_
            refine lv_iconst (v := 3) hx hb dX12_kind_71 (by decide) ?_
            refine lv_aload_n hx hb dX12_kind_72 rfl (lv_at hl 0 rfl) ?_
            refine va_get (D := (dC, dI)) (ci := 12) (v := .int (v 2)) (C := RX12) (T := TX12) (N := 63) hx hb hwd inA_X12 hown hK hP 0 rfl rfl 2 (by decide) (hwd _ wk_251) (fun _ h9 => h9) rfl dX12_kind_73 ?_
            have t4909 : 0 ≤ (v 2).toInt ∧ (v 2).toInt ≤ 10 := hI.1 2 _ _ rfl
            refine lv_imul hx hb dX12_kind_76 ?_
            refine lv_topi (fun z4910 e4911 => ?_)
            try (have t4912 := tmul e4911 (a := 3) (by decide) (b := (v 2).toInt) rfl (by omega))
            refine lv_iconst (v := 1) hx hb dX12_kind_77 (by decide) ?_
            refine lv_iadd hx hb dX12_kind_78 ?_
            refine lv_topi (fun z4913 e4914 => ?_)
            try (have t4915 := tadd e4914 (a := z4910.toInt) rfl (b := 1) (by decide) (by omega))
            refine lv_iload_n hx hb dX12_kind_79 rfl (lv_at hl 2 rfl) ?_
            refine va_iast hx hb hK hP (DM hg) hS 1 0 rfl rfl (i := z4913) (x := p1) (vin (a := z4913.toInt) rfl (by omega)) dX12_kind_80 (fun H locs hP _ hS => ?_)
            have hP := va_P_eq (sM_1 g c _ _ _ _) hP
            have hI := IM.store0 hI 1 (z4913 : Int32).toNatClampNeg p1 rfl
            have hF := frUF (k := 1) (f := upd (F4908 1) (z4913 : Int32).toNatClampNeg p1) (by decide) hF
            have hP : va_P (dC, dI) classes (wM g c v (va_up F4908 1 (upd (F4908 1) (z4913 : Int32).toNatClampNeg p1)) rc) H := hP
            generalize (va_up F4908 1 (upd (F4908 1) (z4913 : Int32).toNatClampNeg p1)) = F4916 at hP hI hF
            refine lv_aload_n hx hb dX12_kind_81 rfl (lv_at hl 0 rfl) ?_
            refine va_get (D := (dC, dI)) (ci := 12) (v := .ref (g 1)) (C := RX12) (T := TX12) (N := 63) hx hb hwd inA_X12 hown hK hP 0 rfl rfl 3 (by decide) (hwd _ wk_182) (fun _ h9 => h9) rfl dX12_kind_82 ?_
            refine lv_iconst (v := 3) hx hb dX12_kind_85 (by decide) ?_
            refine lv_aload_n hx hb dX12_kind_86 rfl (lv_at hl 0 rfl) ?_
            refine va_get (D := (dC, dI)) (ci := 12) (v := .int (v 2)) (C := RX12) (T := TX12) (N := 63) hx hb hwd inA_X12 hown hK hP 0 rfl rfl 2 (by decide) (hwd _ wk_251) (fun _ h9 => h9) rfl dX12_kind_87 ?_
            have t4917 : 0 ≤ (v 2).toInt ∧ (v 2).toInt ≤ 10 := hI.1 2 _ _ rfl
            refine lv_imul hx hb dX12_kind_90 ?_
            refine lv_topi (fun z4918 e4919 => ?_)
            try (have t4920 := tmul e4919 (a := 3) (by decide) (b := (v 2).toInt) rfl (by omega))
            refine lv_iconst (v := 2) hx hb dX12_kind_91 (by decide) ?_
            refine lv_iadd hx hb dX12_kind_92 ?_
            refine lv_topi (fun z4921 e4922 => ?_)
            try (have t4923 := tadd e4922 (a := z4918.toInt) rfl (b := 2) (by decide) (by omega))
            refine lv_iload_n hx hb dX12_kind_93 rfl (lv_at hl 3 rfl) ?_
            refine va_iast hx hb hK hP (DM hg) hS 1 0 rfl rfl (i := z4921) (x := p2) (vin (a := z4921.toInt) rfl (by omega)) dX12_kind_94 (fun H locs hP _ hS => ?_)
            have hP := va_P_eq (sM_1 g c _ _ _ _) hP
            have hI := IM.store0 hI 1 (z4921 : Int32).toNatClampNeg p2 rfl
            have hF := frUF (k := 1) (f := upd (F4916 1) (z4921 : Int32).toNatClampNeg p2) (by decide) hF
            have hP : va_P (dC, dI) classes (wM g c v (va_up F4916 1 (upd (F4916 1) (z4921 : Int32).toNatClampNeg p2)) rc) H := hP
            generalize (va_up F4916 1 (upd (F4916 1) (z4921 : Int32).toNatClampNeg p2)) = F4924 at hP hI hF
            refine lv_aload_n hx hb dX12_kind_95 rfl (lv_at hl 0 rfl) ?_
            refine va_get (D := (dC, dI)) (ci := 12) (v := .ref (g 2)) (C := RX12) (T := TX12) (N := 63) hx hb hwd inA_X12 hown hK hP 0 rfl rfl 4 (by decide) (hwd _ wk_183) (fun _ h9 => h9) rfl dX12_kind_96 ?_
            refine lv_aload_n hx hb dX12_kind_99 rfl (lv_at hl 0 rfl) ?_
            refine va_get (D := (dC, dI)) (ci := 12) (v := .int (v 2)) (C := RX12) (T := TX12) (N := 63) hx hb hwd inA_X12 hown hK hP 0 rfl rfl 2 (by decide) (hwd _ wk_251) (fun _ h9 => h9) rfl dX12_kind_100 ?_
            have t4925 : 0 ≤ (v 2).toInt ∧ (v 2).toInt ≤ 10 := hI.1 2 _ _ rfl
            refine lv_iload hx hb dX12_kind_103 (lv_at hl 4 rfl) ?_
            refine lv_sipush (v := 1000) hx hb dX12_kind_105 (by decide) ?_
            refine lv_idiv hx hb dX12_kind_108 (by decide) ?_
            refine lv_topi (fun z4926 e4927 => ?_)
            refine va_iast hx hb hK hP (DM hg) hS 2 1 rfl rfl (i := (v 2)) (x := z4926) (vin (a := (v 2).toInt) rfl (by omega)) dX12_kind_109 (fun H locs hP _ hS => ?_)
            have hP := va_P_eq (sM_2 g c _ _ _ _) hP
            have hI := IM.store0 hI 2 (v 2 : Int32).toNatClampNeg z4926 rfl
            have hF := frUF (k := 2) (f := upd (F4924 2) (v 2 : Int32).toNatClampNeg z4926) (by decide) hF
            have hP : va_P (dC, dI) classes (wM g c v (va_up F4924 2 (upd (F4924 2) (v 2 : Int32).toNatClampNeg z4926)) rc) H := hP
            generalize (va_up F4924 2 (upd (F4924 2) (v 2 : Int32).toNatClampNeg z4926)) = F4929 at hP hI hF
            refine lv_aload_n hx hb dX12_kind_110 rfl (lv_at hl 0 rfl) ?_
            refine va_get (D := (dC, dI)) (ci := 12) (v := .ref (g 3)) (C := RX12) (T := TX12) (N := 63) hx hb hwd inA_X12 hown hK hP 0 rfl rfl 5 (by decide) (hwd _ wk_184) (fun _ h9 => h9) rfl dX12_kind_111 ?_
            refine lv_aload_n hx hb dX12_kind_114 rfl (lv_at hl 0 rfl) ?_
            refine va_get (D := (dC, dI)) (ci := 12) (v := .int (v 2)) (C := RX12) (T := TX12) (N := 63) hx hb hwd inA_X12 hown hK hP 0 rfl rfl 2 (by decide) (hwd _ wk_251) (fun _ h9 => h9) rfl dX12_kind_115 ?_
            have t4930 : 0 ≤ (v 2).toInt ∧ (v 2).toInt ≤ 10 := hI.1 2 _ _ rfl
            refine lv_iload hx hb dX12_kind_118 (lv_at hl 4 rfl) ?_
            refine lv_sipush (v := 1000) hx hb dX12_kind_120 (by decide) ?_
            refine lv_irem hx hb dX12_kind_123 (by decide) ?_
            refine lv_topi (fun z4931 e4932 => ?_)
            refine va_iast hx hb hK hP (DM hg) hS 3 2 rfl rfl (i := (v 2)) (x := z4931) (vin (a := (v 2).toInt) rfl (by omega)) dX12_kind_124 (fun H locs hP _ hS => ?_)
            have hP := va_P_eq (sM_3 g c _ _ _ _) hP
            have hI := IM.store0 hI 3 (v 2 : Int32).toNatClampNeg z4931 rfl
            have hF := frUF (k := 3) (f := upd (F4929 3) (v 2 : Int32).toNatClampNeg z4931) (by decide) hF
            have hP : va_P (dC, dI) classes (wM g c v (va_up F4929 3 (upd (F4929 3) (v 2 : Int32).toNatClampNeg z4931)) rc) H := hP
            generalize (va_up F4929 3 (upd (F4929 3) (v 2 : Int32).toNatClampNeg z4931)) = F4934 at hP hI hF
            refine lv_aload_n hx hb dX12_kind_125 rfl (lv_at hl 0 rfl) ?_
            refine lv_dup hx hb dX12_kind_126 rfl ?_
            refine va_get (D := (dC, dI)) (ci := 12) (v := .int (v 2)) (C := RX12) (T := TX12) (N := 63) hx hb hwd inA_X12 hown hK hP 0 rfl rfl 2 (by decide) (hwd _ wk_251) (fun _ h9 => h9) rfl dX12_kind_127 ?_
            have t4935 : 0 ≤ (v 2).toInt ∧ (v 2).toInt ≤ 10 := hI.1 2 _ _ rfl
            refine lv_iconst (v := 1) hx hb dX12_kind_130 (by decide) ?_
            refine lv_iadd hx hb dX12_kind_131 ?_
            refine lv_topi (fun z4936 e4937 => ?_)
            try (have t4938 := tadd e4937 (a := (v 2).toInt) rfl (b := 1) (by decide) (by omega))
            refine va_put (D := (dC, dI)) (ci := 12) (v := .int z4936) (ty := .int) (C := RX12) (T := TX12) (N := 63) (fs := fsM_0 g v rc) hx hb hwd inA_X12 tyX12 tyX12_ok nmX12 hown hK hP (DM hg) hS 0 rfl rfl 2 (by decide) (hwd _ wk_251) (fun _ h9 => h9) rfl (by decide +kernel) rfl rfl (Nat.le_of_ble_eq_true rfl) dX12_kind_132 (fun H locs hP _ hS => ?_)
            have hP := va_P_eq (pM_2 g c _ _ _ _) hP
            have hI := IM.put hI 2 z4936 rfl (by omega)
            refine lv_aload_n hx hb dX12_kind_135 rfl (lv_at hl 0 rfl) ?_
            refine va_get (D := (dC, dI)) (ci := 12) (v := .int z4936) (C := RX12) (T := TX12) (N := 63) hx hb hwd inA_X12 hown hK hP 0 rfl rfl 2 (by decide) (hwd _ wk_251) (fun _ h9 => h9) rfl dX12_kind_136 ?_
            have t4939 : 0 ≤ z4936.toInt ∧ z4936.toInt ≤ 10 := hI.1 2 _ _ rfl
            refine lv_iconst (v := 1) hx hb dX12_kind_139 (by decide) ?_
            refine lv_isub hx hb dX12_kind_140 ?_
            refine lv_topi (fun z4940 e4941 => ?_)
            try (have t4942 := tsub e4941 (a := z4936.toInt) rfl (b := 1) (by decide) (by omega))
            have hP9 : va_P (dC, dI) classes (wM g c (va_up v 2 z4936) F4934 rc) H := hP
            exact W.iret (v := z4940) hx hb hr (fun t ht hW => ⟨⟨z4940, ((va_up v 2 z4936), F4934, rc), rfl, ⟨hI, rfl, (frU (by decide) (fun _ _ => rfl)), hF, (by show (¬ ((0 ≤ p0.toInt ∧ p0.toInt ≤ 99999) ∧ (0 ≤ p1.toInt ∧ p1.toInt ≤ 99999) ∧ (0 ≤ p2.toInt ∧ p2.toInt ≤ 99999) ∧ (0 ≤ p3.toInt ∧ p3.toInt ≤ 999999)) ∧ z4940.toInt = -1 ∧ z4936.toInt = (v 2).toInt) ∨ (((0 ≤ p0.toInt ∧ p0.toInt ≤ 99999) ∧ (0 ≤ p1.toInt ∧ p1.toInt ≤ 99999) ∧ (0 ≤ p2.toInt ∧ p2.toInt ≤ 99999) ∧ (0 ≤ p3.toInt ∧ p3.toInt ≤ 999999)) ∧ (v 2).toInt = 10 ∧ z4940.toInt = -3 ∧ z4936.toInt = (v 2).toInt) ∨ (((0 ≤ p0.toInt ∧ p0.toInt ≤ 99999) ∧ (0 ≤ p1.toInt ∧ p1.toInt ≤ 99999) ∧ (0 ≤ p2.toInt ∧ p2.toInt ≤ 99999) ∧ (0 ≤ p3.toInt ∧ p3.toInt ≤ 999999)) ∧ (v 2).toInt < 10 ∧ z4940.toInt = (v 2).toInt ∧ z4936.toInt = (v 2).toInt + 1); omega)⟩, (by show va_P _ _ _ t.heap; rw [ht]; exact hP9)⟩, hS.F ht⟩) hS.2.2 dX12_kind_141
          · skip
            have t4943 := cv_eq (a := (v 2).toInt) rfl (b := 10) (by decide) c4902
            refine lv_bipush (v := (-3)) hx hb dX12_kind_52 (by decide) ?_
            have hP9 : va_P (dC, dI) classes (wM g c v F rc) H := hP
            exact W.iret (v := (-3)) hx hb hr (fun t ht hW => ⟨⟨(-3), (v, F, rc), rfl, ⟨hI, rfl, (fun _ _ => rfl), hF, (by show (¬ ((0 ≤ p0.toInt ∧ p0.toInt ≤ 99999) ∧ (0 ≤ p1.toInt ∧ p1.toInt ≤ 99999) ∧ (0 ≤ p2.toInt ∧ p2.toInt ≤ 99999) ∧ (0 ≤ p3.toInt ∧ p3.toInt ≤ 999999)) ∧ ((-3) : Int32).toInt = -1 ∧ (v 2).toInt = (v 2).toInt) ∨ (((0 ≤ p0.toInt ∧ p0.toInt ≤ 99999) ∧ (0 ≤ p1.toInt ∧ p1.toInt ≤ 99999) ∧ (0 ≤ p2.toInt ∧ p2.toInt ≤ 99999) ∧ (0 ≤ p3.toInt ∧ p3.toInt ≤ 999999)) ∧ (v 2).toInt = 10 ∧ ((-3) : Int32).toInt = -3 ∧ (v 2).toInt = (v 2).toInt) ∨ (((0 ≤ p0.toInt ∧ p0.toInt ≤ 99999) ∧ (0 ≤ p1.toInt ∧ p1.toInt ≤ 99999) ∧ (0 ≤ p2.toInt ∧ p2.toInt ≤ 99999) ∧ (0 ≤ p3.toInt ∧ p3.toInt ≤ 999999)) ∧ (v 2).toInt < 10 ∧ ((-3) : Int32).toInt = (v 2).toInt ∧ (v 2).toInt = (v 2).toInt + 1); have : ((-3) : Int32).toInt = (-3) := (by decide); omega)⟩, (by show va_P _ _ _ t.heap; rw [ht]; exact hP9)⟩, hS.F ht⟩) hS.2.2 dX12_kind_54
        · skip
          have t4944 := cv_eq (a := r4896.toInt) rfl (b := 0) (by decide) c4899
          refine lv_iconst (v := (-1)) hx hb dX12_kind_41 (by decide) ?_
          have hP9 : va_P (dC, dI) classes (wM g c v F rc) H := hP
          exact W.iret (v := (-1)) hx hb hr (fun t ht hW => ⟨⟨(-1), (v, F, rc), rfl, ⟨hI, rfl, (fun _ _ => rfl), hF, (by show (¬ ((0 ≤ p0.toInt ∧ p0.toInt ≤ 99999) ∧ (0 ≤ p1.toInt ∧ p1.toInt ≤ 99999) ∧ (0 ≤ p2.toInt ∧ p2.toInt ≤ 99999) ∧ (0 ≤ p3.toInt ∧ p3.toInt ≤ 999999)) ∧ ((-1) : Int32).toInt = -1 ∧ (v 2).toInt = (v 2).toInt) ∨ (((0 ≤ p0.toInt ∧ p0.toInt ≤ 99999) ∧ (0 ≤ p1.toInt ∧ p1.toInt ≤ 99999) ∧ (0 ≤ p2.toInt ∧ p2.toInt ≤ 99999) ∧ (0 ≤ p3.toInt ∧ p3.toInt ≤ 999999)) ∧ (v 2).toInt = 10 ∧ ((-1) : Int32).toInt = -3 ∧ (v 2).toInt = (v 2).toInt) ∨ (((0 ≤ p0.toInt ∧ p0.toInt ≤ 99999) ∧ (0 ≤ p1.toInt ∧ p1.toInt ≤ 99999) ∧ (0 ≤ p2.toInt ∧ p2.toInt ≤ 99999) ∧ (0 ≤ p3.toInt ∧ p3.toInt ≤ 999999)) ∧ (v 2).toInt < 10 ∧ ((-1) : Int32).toInt = (v 2).toInt ∧ (v 2).toInt = (v 2).toInt + 1); have : ((-1) : Int32).toInt = (-1) := (by decide); omega)⟩, (by show va_P _ _ _ t.heap; rw [ht]; exact hP9)⟩, hS.F ht⟩) hS.2.2 dX12_kind_42
set_option maxHeartbeats 8000000 in
set_option maxRecDepth 100000 in
theorem c_X12_plane (l : Launch) (dC : Nat → ClassId) (dI : Nat → Nat → Nat) (g : Nat → Nat) (c : Nat → ClassId) (adK adV : Nat → Nat) (v : Nat → Int32) (F : Nat → Nat → Int32) (rc sz : Nat) (p0 : Int32) (hg : injM g) (hI : IM v F) : Met l yX12_plane (Cond.code yX12_plane cX12_plane 2 (some .int) :: wA) ({ frames := 2, cells := 0, slots := 0, locals := 80 }) (va_Pc [.ref (g 0), .int p0] (PM dC dI g c adK adV v F rc sz)) (va_Qi (fun (r : Int32) (u : StM) => IM u.1 u.2.1 ∧ u.2.2 = rc ∧ (∀ k, k ∉ ([6] : List Nat) → u.1 k = v k) ∧ (∀ k, k ∉ ([4, 7, 8, 35] : List Nat) → u.2.1 k = F k) ∧ (((¬ ((0 ≤ p0.toInt ∧ p0.toInt ≤ 999999)) ∧ r.toInt = -1 ∧ (u.1 6).toInt = (v 6).toInt) ∨ (((0 ≤ p0.toInt ∧ p0.toInt ≤ 999999)) ∧ (v 6).toInt = 10 ∧ r.toInt = -3 ∧ (u.1 6).toInt = (v 6).toInt) ∨ (((0 ≤ p0.toInt ∧ p0.toInt ≤ 999999)) ∧ (v 6).toInt < 10 ∧ r.toInt = (v 6).toInt ∧ (u.1 6).toInt = (v 6).toInt + 1)) ∧ ((r.toInt < 0 ∧ u.2.1 8 = F 8 ∧ u.2.1 35 = F 35) ∨ (0 ≤ r.toInt ∧ u.2.1 8 = upd (F 8) (v 6).toNatClampNeg (-1) ∧ u.2.1 35 = upd (F 35) (v 6).toNatClampNeg (-1))))) (BM dC dI g c) (AM g sz)) 0 0 (AM g sz) := by
  refine Met.ofW (cc := cX12_plane) (maxL := 2) (ret := (some .int)) (by decide) rfl ?_
  intro p e s m args below meth c0 s₁ B hml hv
  obtain ⟨rfl, hsz, hP, hK, hE⟩ := hv
  have hx := B.exec
  have hb := B.bytes
  have hr := B.returns
  have hts := atoms_spec (ws := Cond.code yX12_plane cX12_plane 2 (some .int) :: wA) B.pre
  have hwd : ∀ w ∈ wA, w.before _ s = true := fun w h => hts w (List.mem_cons_of_mem _ h)
  have hown : s.vm.findClass RX12 = some m.cls := findClass_of_methodNamed B.named
  have hlocks := B.notSynchronized
  subst hsz
  have hl := lv_entry ([.ref (g 0), .int p0]) (n := 2) (Nat.le_of_ble_eq_true rfl)
  rw [lg_entry_eq]
  generalize (lg_sl ([.ref (g 0), .int p0]) ++ List.replicate (2 - (lg_sl ([.ref (g 0), .int p0])).length) Slot.unset).toArray = ls at hl ⊢
  have hl : lv_has ls 2 [(0, .ref (g 0)), (1, .int p0)] := hl
  obtain ⟨H, eH⟩ : ∃ z, z = s.heap := ⟨_, rfl⟩
  have hP : va_P (dC, dI) classes (wM g c v F rc) H := by rw [eH]; exact hP
  have hS : va_S (AM g s.heap.size) s.heap H [] := by rw [eH]; exact va_S.rf
  refine my_heap eH ?_
  have hF : ∀ k, k ∉ ([4, 7, 8, 35] : List Nat) → F k = F k := fun _ _ => rfl
  have rp0 := i32_rng p0
  refine lv_iload_n hx hb dX12_plane_0 rfl (lv_at hl 1 rfl) ?_
  refine lv_iconst (v := 0) hx hb dX12_plane_1 (by decide) ?_
  refine lv_ldc (v := 999999) hx hb hown (hwd _ wk_250) dX12_plane_2 ?_
  refine va_calli (va_runS (As := [.int p0, .int 0, .int 999999]) (rest := []) ⟨hx, hb, hml, hown, hwd⟩ (c_X12_in l dC dI g c adK adV v F rc H.size p0 0 999999 hg hI ) (va_cwS 3 hwd (gT wk_254 wk_252 wk_253 wk_5) rfl rfl rfl (by decide +kernel) ⟨Nat.le_of_ble_eq_true rfl, Nat.le_of_ble_eq_true rfl⟩) ⟨PM.blind, fun U hU hW => ⟨rfl, PM.at hK hE hP hS hU hW⟩⟩ rfl rfl hl.1 rfl (lv_room (Nat.le_of_ble_eq_true rfl)) dX12_plane_4 ⟨Nat.le_of_ble_eq_true rfl, Nat.le_of_ble_eq_true rfl⟩) hS (fun q _ h => (freeM hS) q h) (freeM hS) (fun r4979 u t H1 locs ht hvm hw hB hz1 hk1 hS => ?_)
  unfold BM at hB
  rw [ht] at hB
  have hP : va_P (dC, dI) classes (wM g c v F rc) H1 := hB
  have hw_r4979 : (r4979.toInt = 1 ∧ (0 : Int32).toInt ≤ p0.toInt ∧ p0.toInt ≤ (999999 : Int32).toInt) ∨ (r4979.toInt = 0 ∧ (p0.toInt < (0 : Int32).toInt ∨ (999999 : Int32).toInt < p0.toInt)) := hw
  clear hw
  have k4980 : (0 : Int32).toInt = 0 := by decide
  have k4981 : (999999 : Int32).toInt = 999999 := by decide
  clear hz1
  generalize H1 = H at hP hS ⊢
  refine lv_if_ne (tgt := 12) hx hb dX12_plane_7 (by decide) (fun c4982 => ?_) (fun c4982 => ?_)
  · skip
    have t4983 := cv_ne (a := r4979.toInt) rfl (b := 0) (by decide) c4982
    refine lv_aload_n hx hb dX12_plane_12 rfl (lv_at hl 0 rfl) ?_
    refine va_get (D := (dC, dI)) (ci := 12) (v := .int (v 6)) (C := RX12) (T := TX12) (N := 63) hx hb hwd inA_X12 hown hK hP 0 rfl rfl 6 (by decide) (hwd _ wk_268) (fun _ h9 => h9) rfl dX12_plane_13 ?_
    have t4984 : 0 ≤ (v 6).toInt ∧ (v 6).toInt ≤ 10 := hI.1 6 _ _ rfl
    refine lv_bipush (v := 10) hx hb dX12_plane_16 (by decide) ?_
    refine lv_icmp_ne (tgt := 24) hx hb dX12_plane_18 (by decide) (fun c4985 => ?_) (fun c4985 => ?_)
    · skip
      have t4986 := cv_ne (a := (v 6).toInt) rfl (b := 10) (by decide) c4985
      refine lv_aload_n hx hb dX12_plane_24 rfl (lv_at hl 0 rfl) ?_
      refine va_get (D := (dC, dI)) (ci := 12) (v := .ref (g 4)) (C := RX12) (T := TX12) (N := 63) hx hb hwd inA_X12 hown hK hP 0 rfl rfl 7 (by decide) (hwd _ wk_185) (fun _ h9 => h9) rfl dX12_plane_25 ?_
      refine lv_aload_n hx hb dX12_plane_28 rfl (lv_at hl 0 rfl) ?_
      refine va_get (D := (dC, dI)) (ci := 12) (v := .int (v 6)) (C := RX12) (T := TX12) (N := 63) hx hb hwd inA_X12 hown hK hP 0 rfl rfl 6 (by decide) (hwd _ wk_268) (fun _ h9 => h9) rfl dX12_plane_29 ?_
      have t4987 : 0 ≤ (v 6).toInt ∧ (v 6).toInt ≤ 10 := hI.1 6 _ _ rfl
      refine lv_iload_n hx hb dX12_plane_32 rfl (lv_at hl 1 rfl) ?_
      refine va_iast hx hb hK hP (DM hg) hS 4 3 rfl rfl (i := (v 6)) (x := p0) (vin (a := (v 6).toInt) rfl (by omega)) dX12_plane_33 (fun H locs hP _ hS => ?_)
      have hP := va_P_eq (sM_4 g c _ _ _ _) hP
      have hI := IM.store0 hI 4 (v 6 : Int32).toNatClampNeg p0 rfl
      have hF := frUF (k := 4) (f := upd (F 4) (v 6 : Int32).toNatClampNeg p0) (by decide) hF
      have st4989 : (va_up F 4 (upd (F 4) (v 6 : Int32).toNatClampNeg p0)) 4 = upd (F 4) (v 6 : Int32).toNatClampNeg p0 := va_up_self _ _ _
      have sn4990 : ∀ k9, k9 ≠ 4 → (va_up F 4 (upd (F 4) (v 6 : Int32).toNatClampNeg p0)) k9 = F k9 := fun k9 h9 => va_up_ne _ _ h9
      have hP : va_P (dC, dI) classes (wM g c v (va_up F 4 (upd (F 4) (v 6 : Int32).toNatClampNeg p0)) rc) H := hP
      generalize (va_up F 4 (upd (F 4) (v 6 : Int32).toNatClampNeg p0)) = F4988 at hP hI hF st4989 sn4990
      refine lv_aload_n hx hb dX12_plane_34 rfl (lv_at hl 0 rfl) ?_
      refine va_get (D := (dC, dI)) (ci := 12) (v := .ref (g 7)) (C := RX12) (T := TX12) (N := 63) hx hb hwd inA_X12 hown hK hP 0 rfl rfl 10 (by decide) (hwd _ wk_188) (fun _ h9 => h9) rfl dX12_plane_35 ?_
      refine lv_aload_n hx hb dX12_plane_38 rfl (lv_at hl 0 rfl) ?_
      refine va_get (D := (dC, dI)) (ci := 12) (v := .int (v 6)) (C := RX12) (T := TX12) (N := 63) hx hb hwd inA_X12 hown hK hP 0 rfl rfl 6 (by decide) (hwd _ wk_268) (fun _ h9 => h9) rfl dX12_plane_39 ?_
      have t4991 : 0 ≤ (v 6).toInt ∧ (v 6).toInt ≤ 10 := hI.1 6 _ _ rfl
      refine lv_iconst (v := (-1)) hx hb dX12_plane_42 (by decide) ?_
      refine va_iast hx hb hK hP (DM hg) hS 7 6 rfl rfl (i := (v 6)) (x := (-1)) (vin (a := (v 6).toInt) rfl (by omega)) dX12_plane_43 (fun H locs hP _ hS => ?_)
      have hP := va_P_eq (sM_7 g c _ _ _ _) hP
      have hI := IM.store0 hI 7 (v 6 : Int32).toNatClampNeg (-1) rfl
      have hF := frUF (k := 7) (f := upd (F4988 7) (v 6 : Int32).toNatClampNeg (-1)) (by decide) hF
      have st4993 : (va_up F4988 7 (upd (F4988 7) (v 6 : Int32).toNatClampNeg (-1))) 7 = upd (F4988 7) (v 6 : Int32).toNatClampNeg (-1) := va_up_self _ _ _
      have sn4994 : ∀ k9, k9 ≠ 7 → (va_up F4988 7 (upd (F4988 7) (v 6 : Int32).toNatClampNeg (-1))) k9 = F4988 k9 := fun k9 h9 => va_up_ne _ _ h9
      have hP : va_P (dC, dI) classes (wM g c v (va_up F4988 7 (upd (F4988 7) (v 6 : Int32).toNatClampNeg (-1))) rc) H := hP
      generalize (va_up F4988 7 (upd (F4988 7) (v 6 : Int32).toNatClampNeg (-1))) = F4992 at hP hI hF st4993 sn4994
      refine lv_aload_n hx hb dX12_plane_44 rfl (lv_at hl 0 rfl) ?_
      refine va_get (D := (dC, dI)) (ci := 12) (v := .ref (g 8)) (C := RX12) (T := TX12) (N := 63) hx hb hwd inA_X12 hown hK hP 0 rfl rfl 11 (by decide) (hwd _ wk_189) (fun _ h9 => h9) rfl dX12_plane_45 ?_
      refine lv_aload_n hx hb dX12_plane_48 rfl (lv_at hl 0 rfl) ?_
      refine va_get (D := (dC, dI)) (ci := 12) (v := .int (v 6)) (C := RX12) (T := TX12) (N := 63) hx hb hwd inA_X12 hown hK hP 0 rfl rfl 6 (by decide) (hwd _ wk_268) (fun _ h9 => h9) rfl dX12_plane_49 ?_
      have t4995 : 0 ≤ (v 6).toInt ∧ (v 6).toInt ≤ 10 := hI.1 6 _ _ rfl
      refine lv_iconst (v := (-1)) hx hb dX12_plane_52 (by decide) ?_
      refine va_iast hx hb hK hP (DM hg) hS 8 7 rfl rfl (i := (v 6)) (x := (-1)) (vin (a := (v 6).toInt) rfl (by omega)) dX12_plane_53 (fun H locs hP _ hS => ?_)
      have hP := va_P_eq (sM_8 g c _ _ _ _) hP
      have hI := IM.store0 hI 8 (v 6 : Int32).toNatClampNeg (-1) rfl
      have hF := frUF (k := 8) (f := upd (F4992 8) (v 6 : Int32).toNatClampNeg (-1)) (by decide) hF
      have st4997 : (va_up F4992 8 (upd (F4992 8) (v 6 : Int32).toNatClampNeg (-1))) 8 = upd (F4992 8) (v 6 : Int32).toNatClampNeg (-1) := va_up_self _ _ _
      have sn4998 : ∀ k9, k9 ≠ 8 → (va_up F4992 8 (upd (F4992 8) (v 6 : Int32).toNatClampNeg (-1))) k9 = F4992 k9 := fun k9 h9 => va_up_ne _ _ h9
      have hP : va_P (dC, dI) classes (wM g c v (va_up F4992 8 (upd (F4992 8) (v 6 : Int32).toNatClampNeg (-1))) rc) H := hP
      generalize (va_up F4992 8 (upd (F4992 8) (v 6 : Int32).toNatClampNeg (-1))) = F4996 at hP hI hF st4997 sn4998
      refine lv_aload_n hx hb dX12_plane_54 rfl (lv_at hl 0 rfl) ?_
      refine va_get (D := (dC, dI)) (ci := 12) (v := .ref (g 35)) (C := RX12) (T := TX12) (N := 63) hx hb hwd inA_X12 hown hK hP 0 rfl rfl 49 (by decide) (hwd _ wk_217) (fun _ h9 => h9) rfl dX12_plane_55 ?_
      refine lv_aload_n hx hb dX12_plane_58 rfl (lv_at hl 0 rfl) ?_
      refine va_get (D := (dC, dI)) (ci := 12) (v := .int (v 6)) (C := RX12) (T := TX12) (N := 63) hx hb hwd inA_X12 hown hK hP 0 rfl rfl 6 (by decide) (hwd _ wk_268) (fun _ h9 => h9) rfl dX12_plane_59 ?_
      have t4999 : 0 ≤ (v 6).toInt ∧ (v 6).toInt ≤ 10 := hI.1 6 _ _ rfl
      refine lv_iconst (v := (-1)) hx hb dX12_plane_62 (by decide) ?_
      refine va_iast hx hb hK hP (DM hg) hS 35 34 rfl rfl (i := (v 6)) (x := (-1)) (vin (a := (v 6).toInt) rfl (by omega)) dX12_plane_63 (fun H locs hP _ hS => ?_)
      have hP := va_P_eq (sM_35 g c _ _ _ _) hP
      have hI := IM.store0 hI 35 (v 6 : Int32).toNatClampNeg (-1) rfl
      have hF := frUF (k := 35) (f := upd (F4996 35) (v 6 : Int32).toNatClampNeg (-1)) (by decide) hF
      have st5001 : (va_up F4996 35 (upd (F4996 35) (v 6 : Int32).toNatClampNeg (-1))) 35 = upd (F4996 35) (v 6 : Int32).toNatClampNeg (-1) := va_up_self _ _ _
      have sn5002 : ∀ k9, k9 ≠ 35 → (va_up F4996 35 (upd (F4996 35) (v 6 : Int32).toNatClampNeg (-1))) k9 = F4996 k9 := fun k9 h9 => va_up_ne _ _ h9
      have hP : va_P (dC, dI) classes (wM g c v (va_up F4996 35 (upd (F4996 35) (v 6 : Int32).toNatClampNeg (-1))) rc) H := hP
      generalize (va_up F4996 35 (upd (F4996 35) (v 6 : Int32).toNatClampNeg (-1))) = F5000 at hP hI hF st5001 sn5002
      refine lv_aload_n hx hb dX12_plane_64 rfl (lv_at hl 0 rfl) ?_
      refine lv_dup hx hb dX12_plane_65 rfl ?_
      refine va_get (D := (dC, dI)) (ci := 12) (v := .int (v 6)) (C := RX12) (T := TX12) (N := 63) hx hb hwd inA_X12 hown hK hP 0 rfl rfl 6 (by decide) (hwd _ wk_268) (fun _ h9 => h9) rfl dX12_plane_66 ?_
      have t5003 : 0 ≤ (v 6).toInt ∧ (v 6).toInt ≤ 10 := hI.1 6 _ _ rfl
      refine lv_iconst (v := 1) hx hb dX12_plane_69 (by decide) ?_
      refine lv_iadd hx hb dX12_plane_70 ?_
      refine lv_topi (fun z5004 e5005 => ?_)
      try (have t5006 := tadd e5005 (a := (v 6).toInt) rfl (b := 1) (by decide) (by omega))
      refine va_put (D := (dC, dI)) (ci := 12) (v := .int z5004) (ty := .int) (C := RX12) (T := TX12) (N := 63) (fs := fsM_0 g v rc) hx hb hwd inA_X12 tyX12 tyX12_ok nmX12 hown hK hP (DM hg) hS 0 rfl rfl 6 (by decide) (hwd _ wk_268) (fun _ h9 => h9) rfl (by decide +kernel) rfl rfl (Nat.le_of_ble_eq_true rfl) dX12_plane_71 (fun H locs hP _ hS => ?_)
      have hP := va_P_eq (pM_6 g c _ _ _ _) hP
      have hI := IM.put hI 6 z5004 rfl (by omega)
      refine lv_aload_n hx hb dX12_plane_74 rfl (lv_at hl 0 rfl) ?_
      refine va_get (D := (dC, dI)) (ci := 12) (v := .int z5004) (C := RX12) (T := TX12) (N := 63) hx hb hwd inA_X12 hown hK hP 0 rfl rfl 6 (by decide) (hwd _ wk_268) (fun _ h9 => h9) rfl dX12_plane_75 ?_
      have t5007 : 0 ≤ z5004.toInt ∧ z5004.toInt ≤ 10 := hI.1 6 _ _ rfl
      refine lv_iconst (v := 1) hx hb dX12_plane_78 (by decide) ?_
      refine lv_isub hx hb dX12_plane_79 ?_
      refine lv_topi (fun z5008 e5009 => ?_)
      try (have t5010 := tsub e5009 (a := z5004.toInt) rfl (b := 1) (by decide) (by omega))
      have hP9 : va_P (dC, dI) classes (wM g c (va_up v 6 z5004) F5000 rc) H := hP
      exact W.iret (v := z5008) hx hb hr (fun t ht hW => ⟨⟨z5008, ((va_up v 6 z5004), F5000, rc), rfl, ⟨hI, rfl, (frU (by decide) (fun _ _ => rfl)), hF, (by show ((¬ ((0 ≤ p0.toInt ∧ p0.toInt ≤ 999999)) ∧ z5008.toInt = -1 ∧ z5004.toInt = (v 6).toInt) ∨ (((0 ≤ p0.toInt ∧ p0.toInt ≤ 999999)) ∧ (v 6).toInt = 10 ∧ z5008.toInt = -3 ∧ z5004.toInt = (v 6).toInt) ∨ (((0 ≤ p0.toInt ∧ p0.toInt ≤ 999999)) ∧ (v 6).toInt < 10 ∧ z5008.toInt = (v 6).toInt ∧ z5004.toInt = (v 6).toInt + 1)) ∧ ((z5008.toInt < 0 ∧ F5000 8 = F 8 ∧ F5000 35 = F 35) ∨ (0 ≤ z5008.toInt ∧ F5000 8 = upd (F 8) (v 6).toNatClampNeg (-1) ∧ F5000 35 = upd (F 35) (v 6).toNatClampNeg (-1))); exact ⟨by omega, Or.inr ⟨by omega, ((sn5002 8 (by decide)).trans (st4997.trans (congrArg (fun f => upd f (v 6 : Int32).toNatClampNeg (-1)) ((sn4994 8 (by decide)).trans (sn4990 8 (by decide)))))), (st5001.trans (congrArg (fun f => upd f (v 6 : Int32).toNatClampNeg (-1)) ((sn4998 35 (by decide)).trans ((sn4994 35 (by decide)).trans (sn4990 35 (by decide))))))⟩⟩)⟩, (by show va_P _ _ _ t.heap; rw [ht]; exact hP9)⟩, hS.F ht⟩) hS.2.2 dX12_plane_80
    · skip
      have t5011 := cv_eq (a := (v 6).toInt) rfl (b := 10) (by decide) c4985
      refine lv_bipush (v := (-3)) hx hb dX12_plane_21 (by decide) ?_
      have hP9 : va_P (dC, dI) classes (wM g c v F rc) H := hP
      exact W.iret (v := (-3)) hx hb hr (fun t ht hW => ⟨⟨(-3), (v, F, rc), rfl, ⟨hI, rfl, (fun _ _ => rfl), hF, (by show ((¬ ((0 ≤ p0.toInt ∧ p0.toInt ≤ 999999)) ∧ ((-3) : Int32).toInt = -1 ∧ (v 6).toInt = (v 6).toInt) ∨ (((0 ≤ p0.toInt ∧ p0.toInt ≤ 999999)) ∧ (v 6).toInt = 10 ∧ ((-3) : Int32).toInt = -3 ∧ (v 6).toInt = (v 6).toInt) ∨ (((0 ≤ p0.toInt ∧ p0.toInt ≤ 999999)) ∧ (v 6).toInt < 10 ∧ ((-3) : Int32).toInt = (v 6).toInt ∧ (v 6).toInt = (v 6).toInt + 1)) ∧ ((((-3) : Int32).toInt < 0 ∧ F 8 = F 8 ∧ F 35 = F 35) ∨ (0 ≤ ((-3) : Int32).toInt ∧ F 8 = upd (F 8) (v 6).toNatClampNeg (-1) ∧ F 35 = upd (F 35) (v 6).toNatClampNeg (-1))); have : ((-3) : Int32).toInt = (-3) := (by decide); exact ⟨by omega, Or.inl ⟨by omega, rfl, rfl⟩⟩)⟩, (by show va_P _ _ _ t.heap; rw [ht]; exact hP9)⟩, hS.F ht⟩) hS.2.2 dX12_plane_23
  · skip
    have t5012 := cv_eq (a := r4979.toInt) rfl (b := 0) (by decide) c4982
    refine lv_iconst (v := (-1)) hx hb dX12_plane_10 (by decide) ?_
    have hP9 : va_P (dC, dI) classes (wM g c v F rc) H := hP
    exact W.iret (v := (-1)) hx hb hr (fun t ht hW => ⟨⟨(-1), (v, F, rc), rfl, ⟨hI, rfl, (fun _ _ => rfl), hF, (by show ((¬ ((0 ≤ p0.toInt ∧ p0.toInt ≤ 999999)) ∧ ((-1) : Int32).toInt = -1 ∧ (v 6).toInt = (v 6).toInt) ∨ (((0 ≤ p0.toInt ∧ p0.toInt ≤ 999999)) ∧ (v 6).toInt = 10 ∧ ((-1) : Int32).toInt = -3 ∧ (v 6).toInt = (v 6).toInt) ∨ (((0 ≤ p0.toInt ∧ p0.toInt ≤ 999999)) ∧ (v 6).toInt < 10 ∧ ((-1) : Int32).toInt = (v 6).toInt ∧ (v 6).toInt = (v 6).toInt + 1)) ∧ ((((-1) : Int32).toInt < 0 ∧ F 8 = F 8 ∧ F 35 = F 35) ∨ (0 ≤ ((-1) : Int32).toInt ∧ F 8 = upd (F 8) (v 6).toNatClampNeg (-1) ∧ F 35 = upd (F 35) (v 6).toNatClampNeg (-1))); have : ((-1) : Int32).toInt = (-1) := (by decide); exact ⟨by omega, Or.inl ⟨by omega, rfl, rfl⟩⟩)⟩, (by show va_P _ _ _ t.heap; rw [ht]; exact hP9)⟩, hS.F ht⟩) hS.2.2 dX12_plane_11
set_option maxHeartbeats 8000000 in
set_option maxRecDepth 100000 in
theorem c_X12_days (l : Launch) (dC : Nat → ClassId) (dI : Nat → Nat → Nat) (g : Nat → Nat) (c : Nat → ClassId) (adK adV : Nat → Nat) (v : Nat → Int32) (F : Nat → Nat → Int32) (rc sz : Nat) (p0 : Int32) (hg : injM g) (hI : IM v F) : Met l yX12_days (Cond.code yX12_days cX12_days 3 (some .int) :: wA) ({ frames := 2, cells := 0, slots := 0, locals := 80 }) (va_Pc [.ref (g 0), .int p0] (PM dC dI g c adK adV v F rc sz)) (va_Qi (fun (r : Int32) (u : StM) => IM u.1 u.2.1 ∧ u.2.2 = rc ∧ (∀ k, k ∉ ([1] : List Nat) → u.1 k = v k) ∧ (∀ k, k ∉ ([14] : List Nat) → u.2.1 k = F k) ∧ ((¬ (1 ≤ p0.toInt ∧ p0.toInt ≤ 400 ∧ (v 1).toInt + p0.toInt ≤ 9999) ∧ r.toInt = -1 ∧ (u.1 1).toInt = (v 1).toInt) ∨ ((1 ≤ p0.toInt ∧ p0.toInt ≤ 400 ∧ (v 1).toInt + p0.toInt ≤ 9999) ∧ r.toInt = (v 1).toInt + p0.toInt ∧ (u.1 1).toInt = (v 1).toInt + p0.toInt))) (BM dC dI g c) (AM g sz)) 0 0 (AM g sz) := by
  refine Met.ofW (cc := cX12_days) (maxL := 3) (ret := (some .int)) (by decide) rfl ?_
  intro p e s m args below meth c0 s₁ B hml hv
  obtain ⟨rfl, hsz, hP, hK, hE⟩ := hv
  have hx := B.exec
  have hb := B.bytes
  have hr := B.returns
  have hts := atoms_spec (ws := Cond.code yX12_days cX12_days 3 (some .int) :: wA) B.pre
  have hwd : ∀ w ∈ wA, w.before _ s = true := fun w h => hts w (List.mem_cons_of_mem _ h)
  have hown : s.vm.findClass RX12 = some m.cls := findClass_of_methodNamed B.named
  have hlocks := B.notSynchronized
  subst hsz
  have hl := lv_entry ([.ref (g 0), .int p0]) (n := 3) (Nat.le_of_ble_eq_true rfl)
  rw [lg_entry_eq]
  generalize (lg_sl ([.ref (g 0), .int p0]) ++ List.replicate (3 - (lg_sl ([.ref (g 0), .int p0])).length) Slot.unset).toArray = ls at hl ⊢
  have hl : lv_has ls 3 [(0, .ref (g 0)), (1, .int p0)] := hl
  obtain ⟨H, eH⟩ : ∃ z, z = s.heap := ⟨_, rfl⟩
  have hP : va_P (dC, dI) classes (wM g c v F rc) H := by rw [eH]; exact hP
  have hS : va_S (AM g s.heap.size) s.heap H [] := by rw [eH]; exact va_S.rf
  refine my_heap eH ?_
  have hF : ∀ k, k ∉ ([14] : List Nat) → F k = F k := fun _ _ => rfl
  have rp0 := i32_rng p0
  refine lv_iload_n hx hb dX12_days_0 rfl (lv_at hl 1 rfl) ?_
  refine lv_iconst (v := 1) hx hb dX12_days_1 (by decide) ?_
  refine lv_sipush (v := 400) hx hb dX12_days_2 (by decide) ?_
  refine va_calli (va_runS (As := [.int p0, .int 1, .int 400]) (rest := []) ⟨hx, hb, hml, hown, hwd⟩ (c_X12_in l dC dI g c adK adV v F rc H.size p0 1 400 hg hI ) (va_cwS 3 hwd (gT wk_254 wk_252 wk_253 wk_5) rfl rfl rfl (by decide +kernel) ⟨Nat.le_of_ble_eq_true rfl, Nat.le_of_ble_eq_true rfl⟩) ⟨PM.blind, fun U hU hW => ⟨rfl, PM.at hK hE hP hS hU hW⟩⟩ rfl rfl hl.1 rfl (lv_room (Nat.le_of_ble_eq_true rfl)) dX12_days_5 ⟨Nat.le_of_ble_eq_true rfl, Nat.le_of_ble_eq_true rfl⟩) hS (fun q _ h => (freeM hS) q h) (freeM hS) (fun r5061 u t H1 locs ht hvm hw hB hz1 hk1 hS => ?_)
  unfold BM at hB
  rw [ht] at hB
  have hP : va_P (dC, dI) classes (wM g c v F rc) H1 := hB
  have hw_r5061 : (r5061.toInt = 1 ∧ (1 : Int32).toInt ≤ p0.toInt ∧ p0.toInt ≤ (400 : Int32).toInt) ∨ (r5061.toInt = 0 ∧ (p0.toInt < (1 : Int32).toInt ∨ (400 : Int32).toInt < p0.toInt)) := hw
  clear hw
  have k5062 : (1 : Int32).toInt = 1 := by decide
  have k5063 : (400 : Int32).toInt = 400 := by decide
  clear hz1
  generalize H1 = H at hP hS ⊢
  refine lv_if_eq (tgt := 23) hx hb dX12_days_8 (by decide) (fun c5064 => ?_) (fun c5064 => ?_)
  · skip
    have t5065 := cv_eq (a := r5061.toInt) rfl (b := 0) (by decide) c5064
    refine lv_iconst (v := (-1)) hx hb dX12_days_23 (by decide) ?_
    have hP9 : va_P (dC, dI) classes (wM g c v F rc) H := hP
    exact W.iret (v := (-1)) hx hb hr (fun t ht hW => ⟨⟨(-1), (v, F, rc), rfl, ⟨hI, rfl, (fun _ _ => rfl), hF, (by show (¬ (1 ≤ p0.toInt ∧ p0.toInt ≤ 400 ∧ (v 1).toInt + p0.toInt ≤ 9999) ∧ ((-1) : Int32).toInt = -1 ∧ (v 1).toInt = (v 1).toInt) ∨ ((1 ≤ p0.toInt ∧ p0.toInt ≤ 400 ∧ (v 1).toInt + p0.toInt ≤ 9999) ∧ ((-1) : Int32).toInt = (v 1).toInt + p0.toInt ∧ (v 1).toInt = (v 1).toInt + p0.toInt); have : ((-1) : Int32).toInt = (-1) := (by decide); omega)⟩, (by show va_P _ _ _ t.heap; rw [ht]; exact hP9)⟩, hS.F ht⟩) hS.2.2 dX12_days_24
  · skip
    have t5066 := cv_ne (a := r5061.toInt) rfl (b := 0) (by decide) c5064
    refine lv_aload_n hx hb dX12_days_11 rfl (lv_at hl 0 rfl) ?_
    refine va_get (D := (dC, dI)) (ci := 12) (v := .int (v 1)) (C := RX12) (T := TX12) (N := 63) hx hb hwd inA_X12 hown hK hP 0 rfl rfl 1 (by decide) (hwd _ wk_332) (fun _ h9 => h9) rfl dX12_days_12 ?_
    have t5067 : 0 ≤ (v 1).toInt ∧ (v 1).toInt ≤ 9999 := hI.1 1 _ _ rfl
    refine lv_iload_n hx hb dX12_days_15 rfl (lv_at hl 1 rfl) ?_
    refine lv_iadd hx hb dX12_days_16 ?_
    refine lv_topi (fun z5068 e5069 => ?_)
    try (have t5070 := tadd e5069 (a := (v 1).toInt) rfl (b := p0.toInt) rfl (by omega))
    refine lv_sipush (v := 9999) hx hb dX12_days_17 (by decide) ?_
    refine lv_icmp_le (tgt := 25) hx hb dX12_days_20 (by decide) (fun c5071 => ?_) (fun c5071 => ?_)
    · skip
      have t5072 := cv_le (a := z5068.toInt) rfl (b := 9999) (by decide) c5071
      refine lv_aload_n hx hb dX12_days_25 rfl (lv_at hl 0 rfl) ?_
      refine lv_dup hx hb dX12_days_26 rfl ?_
      refine va_get (D := (dC, dI)) (ci := 12) (v := .int (v 1)) (C := RX12) (T := TX12) (N := 63) hx hb hwd inA_X12 hown hK hP 0 rfl rfl 1 (by decide) (hwd _ wk_332) (fun _ h9 => h9) rfl dX12_days_27 ?_
      have t5073 : 0 ≤ (v 1).toInt ∧ (v 1).toInt ≤ 9999 := hI.1 1 _ _ rfl
      refine lv_iload_n hx hb dX12_days_30 rfl (lv_at hl 1 rfl) ?_
      refine lv_iadd hx hb dX12_days_31 ?_
      refine lv_topi (fun z5074 e5075 => ?_)
      try (have t5076 := tadd e5075 (a := (v 1).toInt) rfl (b := p0.toInt) rfl (by omega))
      refine va_put (D := (dC, dI)) (ci := 12) (v := .int z5074) (ty := .int) (C := RX12) (T := TX12) (N := 63) (fs := fsM_0 g v rc) hx hb hwd inA_X12 tyX12 tyX12_ok nmX12 hown hK hP (DM hg) hS 0 rfl rfl 1 (by decide) (hwd _ wk_332) (fun _ h9 => h9) rfl (by decide +kernel) rfl rfl (Nat.le_of_ble_eq_true rfl) dX12_days_32 (fun H locs hP _ hS => ?_)
      have hP := va_P_eq (pM_1 g c _ _ _ _) hP
      have hI := IM.put hI 1 z5074 rfl (by omega)
      refine lv_iconst (v := 0) hx hb dX12_days_35 (by decide) ?_
      refine lv_istore_n (lv' := [(2, .int 0), (0, .ref (g 0)), (1, .int p0)]) hx hb dX12_days_36 rfl hl (by decide) rfl (fun ls hl => ?_)
      have lp5077 : ∀ (n : Nat) (x2_lp5077 : Int32) (v_lp5077 : Nat → Int32) (F_lp5077 : Nat → Nat → Int32) (H : Heap) (locs : List Loc) (ls : Array Slot), (0 ≤ x2_lp5077.toInt) → (2147483648 - x2_lp5077.toInt ≤ (n : Int)) → (∀ k, k ∉ ([] : List Nat) → v_lp5077 k = (va_up v 1 z5074) k) → IM v_lp5077 F_lp5077 → (∀ k, k ∉ ([14] : List Nat) → F_lp5077 k = F k) → va_P (dC, dI) classes (wM g c v_lp5077 F_lp5077 rc) H → va_S (AM g s.heap.size) s.heap H locs → lv_has ls 3 [(2, .int x2_lp5077), (0, .ref (g 0)), (1, .int p0)] → W p l e (headSpec (Cond.code yX12_days cX12_days 3 (some .int) :: wA) ({ frames := 2, cells := 0, slots := 0, locals := 80 })).room s m ([.ref (g 0), .int p0] : List Value).toArray below meth c0 H locs 0 0 (MQ below (va_Qi (fun (r : Int32) (u : StM) => IM u.1 u.2.1 ∧ u.2.2 = rc ∧ (∀ k, k ∉ ([1] : List Nat) → u.1 k = v k) ∧ (∀ k, k ∉ ([14] : List Nat) → u.2.1 k = F k) ∧ ((¬ (1 ≤ p0.toInt ∧ p0.toInt ≤ 400 ∧ (v 1).toInt + p0.toInt ≤ 9999) ∧ r.toInt = -1 ∧ (u.1 1).toInt = (v 1).toInt) ∨ ((1 ≤ p0.toInt ∧ p0.toInt ≤ 400 ∧ (v 1).toInt + p0.toInt ≤ 9999) ∧ r.toInt = (v 1).toInt + p0.toInt ∧ (u.1 1).toInt = (v 1).toInt + p0.toInt))) (BM dC dI g c) (AM g s.heap.size)) ([.ref (g 0), .int p0] : List Value).toArray s 0 0 (AM g s.heap.size)) (F0 m 37 ls []) := by
        intro n
        induction n with
        | zero =>
          intro x2_lp5077 v_lp5077 F_lp5077 H locs ls t5078 hm hf_lp5077 hI hF hP hS hl
          exfalso
          have := i32_rng x2_lp5077
          have hI1 := hI.1
          omega
        | succ n ih_lp5077 =>
          intro x2_lp5077 v_lp5077 F_lp5077 H locs ls t5078 hm hf_lp5077 hI hF hP hS hl
          have rx2_lp5077 := i32_rng x2_lp5077
          refine lv_iload_n hx hb dX12_days_37 rfl (lv_at hl 0 rfl) ?_
          refine lv_aload_n hx hb dX12_days_38 rfl (lv_at hl 1 rfl) ?_
          refine va_get (D := (dC, dI)) (ci := 12) (v := .int (v_lp5077 14)) (C := RX12) (T := TX12) (N := 63) hx hb hwd inA_X12 hown hK hP 0 rfl rfl 14 (by decide) (hwd _ wk_318) (fun _ h9 => h9) rfl dX12_days_39 ?_
          refine my_top (v := v 14) (hf_lp5077 14 (by decide)) ?_
          have t5079 : 0 ≤ (v 14).toInt ∧ (v 14).toInt ≤ 100 := by have h9 := hI.1 14 _ _ rfl; rw [show v_lp5077 14 = v 14 from hf_lp5077 14 (by decide)] at h9; exact h9
          refine lv_icmp_ge (tgt := 76) hx hb dX12_days_42 (by decide) (fun c5080 => ?_) (fun c5080 => ?_)
          · skip
            have t5081 := cv_le (a := (v 14).toInt) rfl (b := x2_lp5077.toInt) rfl c5080
            refine lv_aload_n hx hb dX12_days_76 rfl (lv_at hl 1 rfl) ?_
            refine va_get (D := (dC, dI)) (ci := 12) (v := .int (v_lp5077 1)) (C := RX12) (T := TX12) (N := 63) hx hb hwd inA_X12 hown hK hP 0 rfl rfl 1 (by decide) (hwd _ wk_332) (fun _ h9 => h9) rfl dX12_days_77 ?_
            refine my_top (v := z5074) (hf_lp5077 1 (by decide)) ?_
            have t5082 : 0 ≤ z5074.toInt ∧ z5074.toInt ≤ 9999 := by have h9 := hI.1 1 _ _ rfl; rw [show v_lp5077 1 = z5074 from hf_lp5077 1 (by decide)] at h9; exact h9
            have hP9 : va_P (dC, dI) classes (wM g c v_lp5077 F_lp5077 rc) H := hP
            exact W.iret (v := z5074) hx hb hr (fun t ht hW => ⟨⟨z5074, (v_lp5077, F_lp5077, rc), rfl, ⟨hI, rfl, (frC (by decide) hf_lp5077 (frU (by decide) (fun _ _ => rfl))), hF, (by show (¬ (1 ≤ p0.toInt ∧ p0.toInt ≤ 400 ∧ (v 1).toInt + p0.toInt ≤ 9999) ∧ z5074.toInt = -1 ∧ (v_lp5077 1).toInt = (v 1).toInt) ∨ ((1 ≤ p0.toInt ∧ p0.toInt ≤ 400 ∧ (v 1).toInt + p0.toInt ≤ 9999) ∧ z5074.toInt = (v 1).toInt + p0.toInt ∧ (v_lp5077 1).toInt = (v 1).toInt + p0.toInt); rw [show v_lp5077 1 = z5074 from hf_lp5077 1 (by decide)]; omega)⟩, (by show va_P _ _ _ t.heap; rw [ht]; exact hP9)⟩, hS.F ht⟩) hS.2.2 dX12_days_80
          · skip
            have t5083 := cv_nle (a := (v 14).toInt) rfl (b := x2_lp5077.toInt) rfl c5080
            refine lv_aload_n hx hb dX12_days_45 rfl (lv_at hl 1 rfl) ?_
            refine va_get (D := (dC, dI)) (ci := 12) (v := .ref (g 13)) (C := RX12) (T := TX12) (N := 63) hx hb hwd inA_X12 hown hK hP 0 rfl rfl 17 (by decide) (hwd _ wk_194) (fun _ h9 => h9) rfl dX12_days_46 ?_
            refine lv_iload_n hx hb dX12_days_49 rfl (lv_at hl 0 rfl) ?_
            refine va_iald hx hb hK hP 13 12 rfl rfl (i := x2_lp5077) (vin (a := x2_lp5077.toInt) rfl (by omega)) dX12_days_50 ?_
            refine lv_topi (fun z5084 e5085 => ?_)
            have t5086 : 0 ≤ z5084.toInt ∧ z5084.toInt ≤ 12 := by rw [e5085]; exact hI.2 13 _ _ rfl _
            have e5085 : z5084 = F 13 (x2_lp5077 : Int32).toNatClampNeg := e5085.trans (congrFun (hF 13 (by decide)) _)
            refine lv_bipush (v := 12) hx hb dX12_days_51 (by decide) ?_
            refine lv_icmp_eq (tgt := 70) hx hb dX12_days_53 (by decide) (fun c5087 => ?_) (fun c5087 => ?_)
            · skip
              have t5088 := cv_eq (a := z5084.toInt) rfl (b := 12) (by decide) c5087
              obtain ⟨z5089, e5090⟩ : ∃ y : Int32, y = x2_lp5077 + 1 := ⟨_, rfl⟩
              try (have t5091 := tadd e5090 rfl (b := 1) (by decide) (by omega))
              refine lv_iinc (v := z5089) (lv' := [(2, .int z5089), (0, .ref (g 0)), (1, .int p0)]) hx hb dX12_days_70 hl (k := 0) rfl (by rw [e5090]; rfl) (by decide) rfl (fun ls hl => ?_)
              refine lv_goto (tgt := 37) hx hb dX12_days_73 (by decide) ?_
              exact ih_lp5077 z5089 v_lp5077 F_lp5077 _ _ _ (by omega) (by omega) hf_lp5077 hI hF hP hS (lv_sub hl [0, 1, 2] rfl)
            · skip
              have t5092 := cv_ne (a := z5084.toInt) rfl (b := 12) (by decide) c5087
              refine lv_aload_n hx hb dX12_days_56 rfl (lv_at hl 1 rfl) ?_
              refine va_get (D := (dC, dI)) (ci := 12) (v := .ref (g 14)) (C := RX12) (T := TX12) (N := 63) hx hb hwd inA_X12 hown hK hP 0 rfl rfl 18 (by decide) (hwd _ wk_195) (fun _ h9 => h9) rfl dX12_days_57 ?_
              refine lv_iconst (v := 3) hx hb dX12_days_60 (by decide) ?_
              refine lv_iload_n hx hb dX12_days_61 rfl (lv_at hl 0 rfl) ?_
              refine lv_imul hx hb dX12_days_62 ?_
              refine lv_topi (fun z5093 e5094 => ?_)
              try (have t5095 := tmul e5094 (a := 3) (by decide) (b := x2_lp5077.toInt) rfl (by omega))
              refine lv_iconst (v := 2) hx hb dX12_days_63 (by decide) ?_
              refine lv_iadd hx hb dX12_days_64 ?_
              refine lv_topi (fun z5096 e5097 => ?_)
              try (have t5098 := tadd e5097 (a := z5093.toInt) rfl (b := 2) (by decide) (by omega))
              refine lv_dup2_11 hx hb dX12_days_65 rfl rfl ?_
              refine va_iald hx hb hK hP 14 13 rfl rfl (i := z5096) (vin (a := z5096.toInt) rfl (by omega)) dX12_days_66 ?_
              refine lv_topi (fun z5099 e5100 => ?_)
              refine lv_iload_n hx hb dX12_days_67 rfl (lv_at hl 2 rfl) ?_
              refine lv_iadd hx hb dX12_days_68 ?_
              refine lv_topi (fun z5101 e5102 => ?_)
              try (have t5103 := tadd e5102 (a := z5099.toInt) rfl (b := p0.toInt) rfl (by omega))
              refine va_iast hx hb hK hP (DM hg) hS 14 13 rfl rfl (i := z5096) (x := z5101) (vin (a := z5096.toInt) rfl (by omega)) dX12_days_69 (fun H locs hP _ hS => ?_)
              have hP := va_P_eq (sM_14 g c _ _ _ _) hP
              have hI := IM.store0 hI 14 (z5096 : Int32).toNatClampNeg z5101 rfl
              have hF := frUF (k := 14) (f := upd (F_lp5077 14) (z5096 : Int32).toNatClampNeg z5101) (by decide) hF
              have hP : va_P (dC, dI) classes (wM g c v_lp5077 (va_up F_lp5077 14 (upd (F_lp5077 14) (z5096 : Int32).toNatClampNeg z5101)) rc) H := hP
              generalize (va_up F_lp5077 14 (upd (F_lp5077 14) (z5096 : Int32).toNatClampNeg z5101)) = F5104 at hP hI hF
              obtain ⟨z5105, e5106⟩ : ∃ y : Int32, y = x2_lp5077 + 1 := ⟨_, rfl⟩
              try (have t5107 := tadd e5106 rfl (b := 1) (by decide) (by omega))
              refine lv_iinc (v := z5105) (lv' := [(2, .int z5105), (0, .ref (g 0)), (1, .int p0)]) hx hb dX12_days_70 hl (k := 0) rfl (by rw [e5106]; rfl) (by decide) rfl (fun ls hl => ?_)
              refine lv_goto (tgt := 37) hx hb dX12_days_73 (by decide) ?_
              exact ih_lp5077 z5105 v_lp5077 F5104 _ _ _ (by omega) (by omega) hf_lp5077 hI hF hP hS (lv_sub hl [0, 1, 2] rfl)
      obtain ⟨n9, hn9⟩ : ∃ n : Nat, 2147483648 - 0 ≤ (n : Int) := ⟨((2147483648 - 0 : Int)).toNat, by omega⟩
      exact lp5077 n9 0 (va_up v 1 z5074) F H _ ls (by have : (0 : Int32).toInt = 0 := (by decide); omega) (by have : (0 : Int32).toInt = 0 := (by decide); omega) (fun _ _ => rfl) hI hF hP hS hl
    · skip
      have t5108 := cv_nle (a := z5068.toInt) rfl (b := 9999) (by decide) c5071
      refine lv_iconst (v := (-1)) hx hb dX12_days_23 (by decide) ?_
      have hP9 : va_P (dC, dI) classes (wM g c v F rc) H := hP
      exact W.iret (v := (-1)) hx hb hr (fun t ht hW => ⟨⟨(-1), (v, F, rc), rfl, ⟨hI, rfl, (fun _ _ => rfl), hF, (by show (¬ (1 ≤ p0.toInt ∧ p0.toInt ≤ 400 ∧ (v 1).toInt + p0.toInt ≤ 9999) ∧ ((-1) : Int32).toInt = -1 ∧ (v 1).toInt = (v 1).toInt) ∨ ((1 ≤ p0.toInt ∧ p0.toInt ≤ 400 ∧ (v 1).toInt + p0.toInt ≤ 9999) ∧ ((-1) : Int32).toInt = (v 1).toInt + p0.toInt ∧ (v 1).toInt = (v 1).toInt + p0.toInt); have : ((-1) : Int32).toInt = (-1) := (by decide); omega)⟩, (by show va_P _ _ _ t.heap; rw [ht]; exact hP9)⟩, hS.F ht⟩) hS.2.2 dX12_days_24
set_option maxHeartbeats 8000000 in
set_option maxRecDepth 100000 in
theorem c_X12_order (l : Launch) (dC : Nat → ClassId) (dI : Nat → Nat → Nat) (g : Nat → Nat) (c : Nat → ClassId) (adK adV : Nat → Nat) (v : Nat → Int32) (F : Nat → Nat → Int32) (rc sz : Nat) (p0 : Int32) (p1 : Int32) (hg : injM g) (hI : IM v F) : Met l yX12_order (Cond.code yX12_order cX12_order 3 (some .int) :: wA) ({ frames := 3, cells := 0, slots := 0, locals := 120 }) (va_Pc [.ref (g 0), .int p0, .int p1] (PM dC dI g c adK adV v F rc sz)) (va_Qi (fun (r : Int32) (u : StM) => IM u.1 u.2.1 ∧ u.2.2 = rc ∧ (∀ k, k ∉ ([45] : List Nat) → u.1 k = v k) ∧ (∀ k, k ∉ ([32, 33] : List Nat) → u.2.1 k = F k) ∧ ((¬ ((0 ≤ p0.toInt ∧ p0.toInt < (v 2).toInt) ∧ (0 ≤ p1.toInt ∧ p1.toInt ≤ 9999)) ∧ r.toInt = -1 ∧ (u.1 45).toInt = (v 45).toInt) ∨ (((0 ≤ p0.toInt ∧ p0.toInt < (v 2).toInt) ∧ (0 ≤ p1.toInt ∧ p1.toInt ≤ 9999)) ∧ (v 45).toInt = 20 ∧ r.toInt = -3 ∧ (u.1 45).toInt = (v 45).toInt) ∨ (((0 ≤ p0.toInt ∧ p0.toInt < (v 2).toInt) ∧ (0 ≤ p1.toInt ∧ p1.toInt ≤ 9999)) ∧ (v 45).toInt < 20 ∧ r.toInt = (v 45).toInt ∧ (u.1 45).toInt = (v 45).toInt + 1))) (BM dC dI g c) (AM g sz)) 0 0 (AM g sz) := by
  refine Met.ofW (cc := cX12_order) (maxL := 3) (ret := (some .int)) (by decide) rfl ?_
  intro p e s m args below meth c0 s₁ B hml hv
  obtain ⟨rfl, hsz, hP, hK, hE⟩ := hv
  have hx := B.exec
  have hb := B.bytes
  have hr := B.returns
  have hts := atoms_spec (ws := Cond.code yX12_order cX12_order 3 (some .int) :: wA) B.pre
  have hwd : ∀ w ∈ wA, w.before _ s = true := fun w h => hts w (List.mem_cons_of_mem _ h)
  have hown : s.vm.findClass RX12 = some m.cls := findClass_of_methodNamed B.named
  have hlocks := B.notSynchronized
  subst hsz
  have hl := lv_entry ([.ref (g 0), .int p0, .int p1]) (n := 3) (Nat.le_of_ble_eq_true rfl)
  rw [lg_entry_eq]
  generalize (lg_sl ([.ref (g 0), .int p0, .int p1]) ++ List.replicate (3 - (lg_sl ([.ref (g 0), .int p0, .int p1])).length) Slot.unset).toArray = ls at hl ⊢
  have hl : lv_has ls 3 [(0, .ref (g 0)), (1, .int p0), (2, .int p1)] := hl
  obtain ⟨H, eH⟩ : ∃ z, z = s.heap := ⟨_, rfl⟩
  have hP : va_P (dC, dI) classes (wM g c v F rc) H := by rw [eH]; exact hP
  have hS : va_S (AM g s.heap.size) s.heap H [] := by rw [eH]; exact va_S.rf
  refine my_heap eH ?_
  have hF : ∀ k, k ∉ ([32, 33] : List Nat) → F k = F k := fun _ _ => rfl
  have rp0 := i32_rng p0
  have rp1 := i32_rng p1
  refine lv_aload_n hx hb dX12_order_0 rfl (lv_at hl 0 rfl) ?_
  refine lv_iload_n hx hb dX12_order_1 rfl (lv_at hl 1 rfl) ?_
  have t5134 : 0 ≤ (v 2).toInt ∧ (v 2).toInt ≤ 10 := hI.1 2 _ _ rfl
  refine va_calli (va_runV (As := [.int p0]) (rest := []) ⟨hx, hb, hml, hown, hwd⟩ (c_X12_isKind l dC dI g c adK adV v F rc H.size p0 hg hI ) (cwV 1 hwd (gV wk_309 wk_306 wk_307 wk_308 wk_5) rfl rfl rfl (by decide +kernel) ⟨Nat.le_of_ble_eq_true rfl, Nat.le_of_ble_eq_true rfl⟩) ⟨PM.blind, va_recv hK hP (ci := 12) (q0 := 0) rfl rfl, fun U hU hW => ⟨rfl, PM.at hK hE hP hS hU hW⟩⟩ rfl rfl hl.1 rfl (lv_room (Nat.le_of_ble_eq_true rfl)) dX12_order_2 ⟨Nat.le_of_ble_eq_true rfl, Nat.le_of_ble_eq_true rfl⟩) hS (fun q _ h => (freeM hS) q h) (freeM hS) (fun r5135 u t H1 locs ht hvm hw hB hz1 hk1 hS => ?_)
  unfold BM at hB
  rw [ht] at hB
  have hP : va_P (dC, dI) classes (wM g c v F rc) H1 := hB
  replace hw : (r5135.toInt = 1 ∧ 0 ≤ p0.toInt ∧ p0.toInt < (v 2).toInt) ∨ (r5135.toInt = 0 ∧ (p0.toInt < 0 ∨ (v 2).toInt ≤ p0.toInt)) := hw
  have hw_r5135 := hw
  clear hw
  clear hz1
  generalize H1 = H at hP hS ⊢
  refine lv_if_eq (tgt := 15) hx hb dX12_order_5 (by decide) (fun c5136 => ?_) (fun c5136 => ?_)
  · skip
    have t5137 := cv_eq (a := r5135.toInt) rfl (b := 0) (by decide) c5136
    refine lv_iconst (v := (-1)) hx hb dX12_order_15 (by decide) ?_
    have hP9 : va_P (dC, dI) classes (wM g c v F rc) H := hP
    exact W.iret (v := (-1)) hx hb hr (fun t ht hW => ⟨⟨(-1), (v, F, rc), rfl, ⟨hI, rfl, (fun _ _ => rfl), hF, (by show (¬ ((0 ≤ p0.toInt ∧ p0.toInt < (v 2).toInt) ∧ (0 ≤ p1.toInt ∧ p1.toInt ≤ 9999)) ∧ ((-1) : Int32).toInt = -1 ∧ (v 45).toInt = (v 45).toInt) ∨ (((0 ≤ p0.toInt ∧ p0.toInt < (v 2).toInt) ∧ (0 ≤ p1.toInt ∧ p1.toInt ≤ 9999)) ∧ (v 45).toInt = 20 ∧ ((-1) : Int32).toInt = -3 ∧ (v 45).toInt = (v 45).toInt) ∨ (((0 ≤ p0.toInt ∧ p0.toInt < (v 2).toInt) ∧ (0 ≤ p1.toInt ∧ p1.toInt ≤ 9999)) ∧ (v 45).toInt < 20 ∧ ((-1) : Int32).toInt = (v 45).toInt ∧ (v 45).toInt = (v 45).toInt + 1); have : ((-1) : Int32).toInt = (-1) := (by decide); omega)⟩, (by show va_P _ _ _ t.heap; rw [ht]; exact hP9)⟩, hS.F ht⟩) hS.2.2 dX12_order_16
  · skip
    have t5138 := cv_ne (a := r5135.toInt) rfl (b := 0) (by decide) c5136
    refine lv_iload_n hx hb dX12_order_8 rfl (lv_at hl 2 rfl) ?_
    refine va_calli (va_runS (As := [.int p1]) (rest := []) ⟨hx, hb, hml, hown, hwd⟩ (c_X12_isDay l dC dI g c adK adV v F rc H.size p1 hg hI ) (va_cwS 1 hwd (gT wk_556 wk_554 wk_555 wk_5) rfl rfl rfl (by decide +kernel) ⟨Nat.le_of_ble_eq_true rfl, Nat.le_of_ble_eq_true rfl⟩) ⟨PM.blind, fun U hU hW => ⟨rfl, PM.at hK hE hP hS hU hW⟩⟩ rfl rfl hl.1 rfl (lv_room (Nat.le_of_ble_eq_true rfl)) dX12_order_9 ⟨Nat.le_of_ble_eq_true rfl, Nat.le_of_ble_eq_true rfl⟩) hS (fun q _ h => (freeM hS) q h) (freeM hS) (fun r5139 u t H1 locs ht hvm hw hB hz1 hk1 hS => ?_)
    unfold BM at hB
    rw [ht] at hB
    have hP : va_P (dC, dI) classes (wM g c v F rc) H1 := hB
    have hw_r5139 : (r5139.toInt = 1 ∧ 0 ≤ p1.toInt ∧ p1.toInt ≤ 9999) ∨ (r5139.toInt = 0 ∧ (p1.toInt < 0 ∨ 9999 < p1.toInt)) := hw
    clear hw
    clear hz1
    generalize H1 = H at hP hS ⊢
    refine lv_if_ne (tgt := 17) hx hb dX12_order_12 (by decide) (fun c5140 => ?_) (fun c5140 => ?_)
    · skip
      have t5141 := cv_ne (a := r5139.toInt) rfl (b := 0) (by decide) c5140
      refine lv_aload_n hx hb dX12_order_17 rfl (lv_at hl 0 rfl) ?_
      refine va_get (D := (dC, dI)) (ci := 12) (v := .int (v 45)) (C := RX12) (T := TX12) (N := 63) hx hb hwd inA_X12 hown hK hP 0 rfl rfl 45 (by decide) (hwd _ wk_485) (fun _ h9 => h9) rfl dX12_order_18 ?_
      have t5142 : 0 ≤ (v 45).toInt ∧ (v 45).toInt ≤ 20 := hI.1 45 _ _ rfl
      refine lv_bipush (v := 20) hx hb dX12_order_21 (by decide) ?_
      refine lv_icmp_ne (tgt := 29) hx hb dX12_order_23 (by decide) (fun c5143 => ?_) (fun c5143 => ?_)
      · skip
        have t5144 := cv_ne (a := (v 45).toInt) rfl (b := 20) (by decide) c5143
        refine lv_aload_n hx hb dX12_order_29 rfl (lv_at hl 0 rfl) ?_
        refine va_get (D := (dC, dI)) (ci := 12) (v := .ref (g 32)) (C := RX12) (T := TX12) (N := 63) hx hb hwd inA_X12 hown hK hP 0 rfl rfl 46 (by decide) (hwd _ wk_214) (fun _ h9 => h9) rfl dX12_order_30 ?_
        refine lv_aload_n hx hb dX12_order_33 rfl (lv_at hl 0 rfl) ?_
        refine va_get (D := (dC, dI)) (ci := 12) (v := .int (v 45)) (C := RX12) (T := TX12) (N := 63) hx hb hwd inA_X12 hown hK hP 0 rfl rfl 45 (by decide) (hwd _ wk_485) (fun _ h9 => h9) rfl dX12_order_34 ?_
        have t5145 : 0 ≤ (v 45).toInt ∧ (v 45).toInt ≤ 20 := hI.1 45 _ _ rfl
        refine lv_iload_n hx hb dX12_order_37 rfl (lv_at hl 1 rfl) ?_
        refine va_iast hx hb hK hP (DM hg) hS 32 31 rfl rfl (i := (v 45)) (x := p0) (vin (a := (v 45).toInt) rfl (by omega)) dX12_order_38 (fun H locs hP _ hS => ?_)
        have hP := va_P_eq (sM_32 g c _ _ _ _) hP
        have hI := IM.store hI 32 (v 45 : Int32).toNatClampNeg p0 rfl (by omega)
        have hF := frUF (k := 32) (f := upd (F 32) (v 45 : Int32).toNatClampNeg p0) (by decide) hF
        have hP : va_P (dC, dI) classes (wM g c v (va_up F 32 (upd (F 32) (v 45 : Int32).toNatClampNeg p0)) rc) H := hP
        generalize (va_up F 32 (upd (F 32) (v 45 : Int32).toNatClampNeg p0)) = F5146 at hP hI hF
        refine lv_aload_n hx hb dX12_order_39 rfl (lv_at hl 0 rfl) ?_
        refine va_get (D := (dC, dI)) (ci := 12) (v := .ref (g 33)) (C := RX12) (T := TX12) (N := 63) hx hb hwd inA_X12 hown hK hP 0 rfl rfl 47 (by decide) (hwd _ wk_215) (fun _ h9 => h9) rfl dX12_order_40 ?_
        refine lv_aload_n hx hb dX12_order_43 rfl (lv_at hl 0 rfl) ?_
        refine va_get (D := (dC, dI)) (ci := 12) (v := .int (v 45)) (C := RX12) (T := TX12) (N := 63) hx hb hwd inA_X12 hown hK hP 0 rfl rfl 45 (by decide) (hwd _ wk_485) (fun _ h9 => h9) rfl dX12_order_44 ?_
        have t5147 : 0 ≤ (v 45).toInt ∧ (v 45).toInt ≤ 20 := hI.1 45 _ _ rfl
        refine lv_iload_n hx hb dX12_order_47 rfl (lv_at hl 2 rfl) ?_
        refine va_iast hx hb hK hP (DM hg) hS 33 32 rfl rfl (i := (v 45)) (x := p1) (vin (a := (v 45).toInt) rfl (by omega)) dX12_order_48 (fun H locs hP _ hS => ?_)
        have hP := va_P_eq (sM_33 g c _ _ _ _) hP
        have hI := IM.store0 hI 33 (v 45 : Int32).toNatClampNeg p1 rfl
        have hF := frUF (k := 33) (f := upd (F5146 33) (v 45 : Int32).toNatClampNeg p1) (by decide) hF
        have hP : va_P (dC, dI) classes (wM g c v (va_up F5146 33 (upd (F5146 33) (v 45 : Int32).toNatClampNeg p1)) rc) H := hP
        generalize (va_up F5146 33 (upd (F5146 33) (v 45 : Int32).toNatClampNeg p1)) = F5148 at hP hI hF
        refine lv_aload_n hx hb dX12_order_49 rfl (lv_at hl 0 rfl) ?_
        refine lv_dup hx hb dX12_order_50 rfl ?_
        refine va_get (D := (dC, dI)) (ci := 12) (v := .int (v 45)) (C := RX12) (T := TX12) (N := 63) hx hb hwd inA_X12 hown hK hP 0 rfl rfl 45 (by decide) (hwd _ wk_485) (fun _ h9 => h9) rfl dX12_order_51 ?_
        have t5149 : 0 ≤ (v 45).toInt ∧ (v 45).toInt ≤ 20 := hI.1 45 _ _ rfl
        refine lv_iconst (v := 1) hx hb dX12_order_54 (by decide) ?_
        refine lv_iadd hx hb dX12_order_55 ?_
        refine lv_topi (fun z5150 e5151 => ?_)
        try (have t5152 := tadd e5151 (a := (v 45).toInt) rfl (b := 1) (by decide) (by omega))
        refine va_put (D := (dC, dI)) (ci := 12) (v := .int z5150) (ty := .int) (C := RX12) (T := TX12) (N := 63) (fs := fsM_0 g v rc) hx hb hwd inA_X12 tyX12 tyX12_ok nmX12 hown hK hP (DM hg) hS 0 rfl rfl 45 (by decide) (hwd _ wk_485) (fun _ h9 => h9) rfl (by decide +kernel) rfl rfl (Nat.le_of_ble_eq_true rfl) dX12_order_56 (fun H locs hP _ hS => ?_)
        have hP := va_P_eq (pM_45 g c _ _ _ _) hP
        have hI := IM.put hI 45 z5150 rfl (by omega)
        refine lv_aload_n hx hb dX12_order_59 rfl (lv_at hl 0 rfl) ?_
        refine va_get (D := (dC, dI)) (ci := 12) (v := .int z5150) (C := RX12) (T := TX12) (N := 63) hx hb hwd inA_X12 hown hK hP 0 rfl rfl 45 (by decide) (hwd _ wk_485) (fun _ h9 => h9) rfl dX12_order_60 ?_
        have t5153 : 0 ≤ z5150.toInt ∧ z5150.toInt ≤ 20 := hI.1 45 _ _ rfl
        refine lv_iconst (v := 1) hx hb dX12_order_63 (by decide) ?_
        refine lv_isub hx hb dX12_order_64 ?_
        refine lv_topi (fun z5154 e5155 => ?_)
        try (have t5156 := tsub e5155 (a := z5150.toInt) rfl (b := 1) (by decide) (by omega))
        have hP9 : va_P (dC, dI) classes (wM g c (va_up v 45 z5150) F5148 rc) H := hP
        exact W.iret (v := z5154) hx hb hr (fun t ht hW => ⟨⟨z5154, ((va_up v 45 z5150), F5148, rc), rfl, ⟨hI, rfl, (frU (by decide) (fun _ _ => rfl)), hF, (by show (¬ ((0 ≤ p0.toInt ∧ p0.toInt < (v 2).toInt) ∧ (0 ≤ p1.toInt ∧ p1.toInt ≤ 9999)) ∧ z5154.toInt = -1 ∧ z5150.toInt = (v 45).toInt) ∨ (((0 ≤ p0.toInt ∧ p0.toInt < (v 2).toInt) ∧ (0 ≤ p1.toInt ∧ p1.toInt ≤ 9999)) ∧ (v 45).toInt = 20 ∧ z5154.toInt = -3 ∧ z5150.toInt = (v 45).toInt) ∨ (((0 ≤ p0.toInt ∧ p0.toInt < (v 2).toInt) ∧ (0 ≤ p1.toInt ∧ p1.toInt ≤ 9999)) ∧ (v 45).toInt < 20 ∧ z5154.toInt = (v 45).toInt ∧ z5150.toInt = (v 45).toInt + 1); omega)⟩, (by show va_P _ _ _ t.heap; rw [ht]; exact hP9)⟩, hS.F ht⟩) hS.2.2 dX12_order_65
      · skip
        have t5157 := cv_eq (a := (v 45).toInt) rfl (b := 20) (by decide) c5143
        refine lv_bipush (v := (-3)) hx hb dX12_order_26 (by decide) ?_
        have hP9 : va_P (dC, dI) classes (wM g c v F rc) H := hP
        exact W.iret (v := (-3)) hx hb hr (fun t ht hW => ⟨⟨(-3), (v, F, rc), rfl, ⟨hI, rfl, (fun _ _ => rfl), hF, (by show (¬ ((0 ≤ p0.toInt ∧ p0.toInt < (v 2).toInt) ∧ (0 ≤ p1.toInt ∧ p1.toInt ≤ 9999)) ∧ ((-3) : Int32).toInt = -1 ∧ (v 45).toInt = (v 45).toInt) ∨ (((0 ≤ p0.toInt ∧ p0.toInt < (v 2).toInt) ∧ (0 ≤ p1.toInt ∧ p1.toInt ≤ 9999)) ∧ (v 45).toInt = 20 ∧ ((-3) : Int32).toInt = -3 ∧ (v 45).toInt = (v 45).toInt) ∨ (((0 ≤ p0.toInt ∧ p0.toInt < (v 2).toInt) ∧ (0 ≤ p1.toInt ∧ p1.toInt ≤ 9999)) ∧ (v 45).toInt < 20 ∧ ((-3) : Int32).toInt = (v 45).toInt ∧ (v 45).toInt = (v 45).toInt + 1); have : ((-3) : Int32).toInt = (-3) := (by decide); omega)⟩, (by show va_P _ _ _ t.heap; rw [ht]; exact hP9)⟩, hS.F ht⟩) hS.2.2 dX12_order_28
    · skip
      have t5158 := cv_eq (a := r5139.toInt) rfl (b := 0) (by decide) c5140
      refine lv_iconst (v := (-1)) hx hb dX12_order_15 (by decide) ?_
      have hP9 : va_P (dC, dI) classes (wM g c v F rc) H := hP
      exact W.iret (v := (-1)) hx hb hr (fun t ht hW => ⟨⟨(-1), (v, F, rc), rfl, ⟨hI, rfl, (fun _ _ => rfl), hF, (by show (¬ ((0 ≤ p0.toInt ∧ p0.toInt < (v 2).toInt) ∧ (0 ≤ p1.toInt ∧ p1.toInt ≤ 9999)) ∧ ((-1) : Int32).toInt = -1 ∧ (v 45).toInt = (v 45).toInt) ∨ (((0 ≤ p0.toInt ∧ p0.toInt < (v 2).toInt) ∧ (0 ≤ p1.toInt ∧ p1.toInt ≤ 9999)) ∧ (v 45).toInt = 20 ∧ ((-1) : Int32).toInt = -3 ∧ (v 45).toInt = (v 45).toInt) ∨ (((0 ≤ p0.toInt ∧ p0.toInt < (v 2).toInt) ∧ (0 ≤ p1.toInt ∧ p1.toInt ≤ 9999)) ∧ (v 45).toInt < 20 ∧ ((-1) : Int32).toInt = (v 45).toInt ∧ (v 45).toInt = (v 45).toInt + 1); have : ((-1) : Int32).toInt = (-1) := (by decide); omega)⟩, (by show va_P _ _ _ t.heap; rw [ht]; exact hP9)⟩, hS.F ht⟩) hS.2.2 dX12_order_16
set_option maxHeartbeats 8000000 in
set_option maxRecDepth 100000 in
theorem c_X12_need (l : Launch) (dC : Nat → ClassId) (dI : Nat → Nat → Nat) (g : Nat → Nat) (c : Nat → ClassId) (adK adV : Nat → Nat) (v : Nat → Int32) (F : Nat → Nat → Int32) (rc sz : Nat) (p0 : Int32) (p1 : Int32) (p2 : Int32) (hg : injM g) (hI : IM v F) : Met l yX12_need (Cond.code yX12_need cX12_need 5 (some .int) :: wA) ({ frames := 3, cells := 0, slots := 0, locals := 120 }) (va_Pc [.ref (g 0), .int p0, .int p1, .int p2] (PM dC dI g c adK adV v F rc sz)) (va_Qi (fun (r : Int32) (u : StM) => IM u.1 u.2.1 ∧ u.2.2 = rc ∧ (∀ k, k ∉ ([] : List Nat) → u.1 k = v k) ∧ (∀ k, k ∉ ([9] : List Nat) → u.2.1 k = F k) ∧ True) (BM dC dI g c) (AM g sz)) 0 0 (AM g sz) := by
  refine Met.ofW (cc := cX12_need) (maxL := 5) (ret := (some .int)) (by decide) rfl ?_
  intro p e s m args below meth c0 s₁ B hml hv
  obtain ⟨rfl, hsz, hP, hK, hE⟩ := hv
  have hx := B.exec
  have hb := B.bytes
  have hr := B.returns
  have hts := atoms_spec (ws := Cond.code yX12_need cX12_need 5 (some .int) :: wA) B.pre
  have hwd : ∀ w ∈ wA, w.before _ s = true := fun w h => hts w (List.mem_cons_of_mem _ h)
  have hown : s.vm.findClass RX12 = some m.cls := findClass_of_methodNamed B.named
  have hlocks := B.notSynchronized
  subst hsz
  have hl := lv_entry ([.ref (g 0), .int p0, .int p1, .int p2]) (n := 5) (Nat.le_of_ble_eq_true rfl)
  rw [lg_entry_eq]
  generalize (lg_sl ([.ref (g 0), .int p0, .int p1, .int p2]) ++ List.replicate (5 - (lg_sl ([.ref (g 0), .int p0, .int p1, .int p2])).length) Slot.unset).toArray = ls at hl ⊢
  have hl : lv_has ls 5 [(0, .ref (g 0)), (1, .int p0), (2, .int p1), (3, .int p2)] := hl
  obtain ⟨H, eH⟩ : ∃ z, z = s.heap := ⟨_, rfl⟩
  have hP : va_P (dC, dI) classes (wM g c v F rc) H := by rw [eH]; exact hP
  have hS : va_S (AM g s.heap.size) s.heap H [] := by rw [eH]; exact va_S.rf
  refine my_heap eH ?_
  have hF : ∀ k, k ∉ ([9] : List Nat) → F k = F k := fun _ _ => rfl
  have rp0 := i32_rng p0
  have rp1 := i32_rng p1
  have rp2 := i32_rng p2
  refine lv_aload_n hx hb dX12_need_0 rfl (lv_at hl 0 rfl) ?_
  refine lv_iload_n hx hb dX12_need_1 rfl (lv_at hl 1 rfl) ?_
  have t5198 : 0 ≤ (v 6).toInt ∧ (v 6).toInt ≤ 10 := hI.1 6 _ _ rfl
  refine va_calli (va_runV (As := [.int p0]) (rest := []) ⟨hx, hb, hml, hown, hwd⟩ (c_X12_isPlane l dC dI g c adK adV v F rc H.size p0 hg hI ) (cwV 1 hwd (gV wk_305 wk_302 wk_303 wk_304 wk_5) rfl rfl rfl (by decide +kernel) ⟨Nat.le_of_ble_eq_true rfl, Nat.le_of_ble_eq_true rfl⟩) ⟨PM.blind, va_recv hK hP (ci := 12) (q0 := 0) rfl rfl, fun U hU hW => ⟨rfl, PM.at hK hE hP hS hU hW⟩⟩ rfl rfl hl.1 rfl (lv_room (Nat.le_of_ble_eq_true rfl)) dX12_need_2 ⟨Nat.le_of_ble_eq_true rfl, Nat.le_of_ble_eq_true rfl⟩) hS (fun q _ h => (freeM hS) q h) (freeM hS) (fun r5199 u t H1 locs ht hvm hw hB hz1 hk1 hS => ?_)
  unfold BM at hB
  rw [ht] at hB
  have hP : va_P (dC, dI) classes (wM g c v F rc) H1 := hB
  replace hw : (r5199.toInt = 1 ∧ 0 ≤ p0.toInt ∧ p0.toInt < (v 6).toInt) ∨ (r5199.toInt = 0 ∧ (p0.toInt < 0 ∨ (v 6).toInt ≤ p0.toInt)) := hw
  have hw_r5199 := hw
  clear hw
  clear hz1
  generalize H1 = H at hP hS ⊢
  refine lv_if_eq (tgt := 25) hx hb dX12_need_5 (by decide) (fun c5200 => ?_) (fun c5200 => ?_)
  · skip
    have t5201 := cv_eq (a := r5199.toInt) rfl (b := 0) (by decide) c5200
    refine lv_iconst (v := (-1)) hx hb dX12_need_25 (by decide) ?_
    have hP9 : va_P (dC, dI) classes (wM g c v F rc) H := hP
    exact W.iret (v := (-1)) hx hb hr (fun t ht hW => ⟨⟨(-1), (v, F, rc), rfl, ⟨hI, rfl, (fun _ _ => rfl), hF, trivial⟩, (by show va_P _ _ _ t.heap; rw [ht]; exact hP9)⟩, hS.F ht⟩) hS.2.2 dX12_need_26
  · skip
    have t5202 := cv_ne (a := r5199.toInt) rfl (b := 0) (by decide) c5200
    refine lv_aload_n hx hb dX12_need_8 rfl (lv_at hl 0 rfl) ?_
    refine lv_iload_n hx hb dX12_need_9 rfl (lv_at hl 2 rfl) ?_
    have t5203 : 0 ≤ (v 2).toInt ∧ (v 2).toInt ≤ 10 := hI.1 2 _ _ rfl
    refine va_calli (va_runV (As := [.int p1]) (rest := []) ⟨hx, hb, hml, hown, hwd⟩ (c_X12_isKind l dC dI g c adK adV v F rc H.size p1 hg hI ) (cwV 1 hwd (gV wk_309 wk_306 wk_307 wk_308 wk_5) rfl rfl rfl (by decide +kernel) ⟨Nat.le_of_ble_eq_true rfl, Nat.le_of_ble_eq_true rfl⟩) ⟨PM.blind, va_recv hK hP (ci := 12) (q0 := 0) rfl rfl, fun U hU hW => ⟨rfl, PM.at hK hE hP hS hU hW⟩⟩ rfl rfl hl.1 rfl (lv_room (Nat.le_of_ble_eq_true rfl)) dX12_need_10 ⟨Nat.le_of_ble_eq_true rfl, Nat.le_of_ble_eq_true rfl⟩) hS (fun q _ h => (freeM hS) q h) (freeM hS) (fun r5204 u t H1 locs ht hvm hw hB hz1 hk1 hS => ?_)
    unfold BM at hB
    rw [ht] at hB
    have hP : va_P (dC, dI) classes (wM g c v F rc) H1 := hB
    replace hw : (r5204.toInt = 1 ∧ 0 ≤ p1.toInt ∧ p1.toInt < (v 2).toInt) ∨ (r5204.toInt = 0 ∧ (p1.toInt < 0 ∨ (v 2).toInt ≤ p1.toInt)) := hw
    have hw_r5204 := hw
    clear hw
    clear hz1
    generalize H1 = H at hP hS ⊢
    refine lv_if_eq (tgt := 25) hx hb dX12_need_13 (by decide) (fun c5205 => ?_) (fun c5205 => ?_)
    · skip
      have t5206 := cv_eq (a := r5204.toInt) rfl (b := 0) (by decide) c5205
      refine lv_iconst (v := (-1)) hx hb dX12_need_25 (by decide) ?_
      have hP9 : va_P (dC, dI) classes (wM g c v F rc) H := hP
      exact W.iret (v := (-1)) hx hb hr (fun t ht hW => ⟨⟨(-1), (v, F, rc), rfl, ⟨hI, rfl, (fun _ _ => rfl), hF, trivial⟩, (by show va_P _ _ _ t.heap; rw [ht]; exact hP9)⟩, hS.F ht⟩) hS.2.2 dX12_need_26
    · skip
      have t5207 := cv_ne (a := r5204.toInt) rfl (b := 0) (by decide) c5205
      refine lv_iload_n hx hb dX12_need_16 rfl (lv_at hl 3 rfl) ?_
      refine lv_iconst (v := 0) hx hb dX12_need_17 (by decide) ?_
      refine lv_iconst (v := 3) hx hb dX12_need_18 (by decide) ?_
      refine va_calli (va_runS (As := [.int p2, .int 0, .int 3]) (rest := []) ⟨hx, hb, hml, hown, hwd⟩ (c_X12_in l dC dI g c adK adV v F rc H.size p2 0 3 hg hI ) (va_cwS 3 hwd (gT wk_254 wk_252 wk_253 wk_5) rfl rfl rfl (by decide +kernel) ⟨Nat.le_of_ble_eq_true rfl, Nat.le_of_ble_eq_true rfl⟩) ⟨PM.blind, fun U hU hW => ⟨rfl, PM.at hK hE hP hS hU hW⟩⟩ rfl rfl hl.1 rfl (lv_room (Nat.le_of_ble_eq_true rfl)) dX12_need_19 ⟨Nat.le_of_ble_eq_true rfl, Nat.le_of_ble_eq_true rfl⟩) hS (fun q _ h => (freeM hS) q h) (freeM hS) (fun r5208 u t H1 locs ht hvm hw hB hz1 hk1 hS => ?_)
      unfold BM at hB
      rw [ht] at hB
      have hP : va_P (dC, dI) classes (wM g c v F rc) H1 := hB
      have hw_r5208 : (r5208.toInt = 1 ∧ (0 : Int32).toInt ≤ p2.toInt ∧ p2.toInt ≤ (3 : Int32).toInt) ∨ (r5208.toInt = 0 ∧ (p2.toInt < (0 : Int32).toInt ∨ (3 : Int32).toInt < p2.toInt)) := hw
      clear hw
      have k5209 : (0 : Int32).toInt = 0 := by decide
      have k5210 : (3 : Int32).toInt = 3 := by decide
      clear hz1
      generalize H1 = H at hP hS ⊢
      refine lv_if_ne (tgt := 27) hx hb dX12_need_22 (by decide) (fun c5211 => ?_) (fun c5211 => ?_)
      · skip
        have t5212 := cv_ne (a := r5208.toInt) rfl (b := 0) (by decide) c5211
        refine lv_aload_n hx hb dX12_need_27 rfl (lv_at hl 0 rfl) ?_
        refine lv_iload_n hx hb dX12_need_28 rfl (lv_at hl 1 rfl) ?_
        refine va_calli (va_runV (As := [.int p0]) (rest := []) ⟨hx, hb, hml, hown, hwd⟩ (c_X12_isReturned l dC dI g c adK adV v F rc H.size p0 hg hI (by omega)) (cwV 1 hwd (gV wk_313 wk_310 wk_311 wk_312 wk_5) rfl rfl rfl (by decide +kernel) ⟨Nat.le_of_ble_eq_true rfl, Nat.le_of_ble_eq_true rfl⟩) ⟨PM.blind, va_recv hK hP (ci := 12) (q0 := 0) rfl rfl, fun U hU hW => ⟨rfl, PM.at hK hE hP hS hU hW⟩⟩ rfl rfl hl.1 rfl (lv_room (Nat.le_of_ble_eq_true rfl)) dX12_need_29 ⟨Nat.le_of_ble_eq_true rfl, Nat.le_of_ble_eq_true rfl⟩) hS (fun q _ h => (freeM hS) q h) (freeM hS) (fun r5213 u t H1 locs ht hvm hw hB hz1 hk1 hS => ?_)
        unfold BM at hB
        rw [ht] at hB
        have hP : va_P (dC, dI) classes (wM g c v F rc) H1 := hB
        replace hw : (r5213.toInt = 1 ∧ 0 ≤ (F 8 p0.toNatClampNeg).toInt) ∨ (r5213.toInt = 0 ∧ (F 8 p0.toNatClampNeg).toInt < 0) := hw
        have hw_r5213 := hw
        clear hw
        clear hz1
        generalize H1 = H at hP hS ⊢
        refine lv_if_ne (tgt := 45) hx hb dX12_need_32 (by decide) (fun c5214 => ?_) (fun c5214 => ?_)
        · skip
          have t5215 := cv_ne (a := r5213.toInt) rfl (b := 0) (by decide) c5214
          refine lv_bipush (v := (-2)) hx hb dX12_need_45 (by decide) ?_
          have hP9 : va_P (dC, dI) classes (wM g c v F rc) H := hP
          exact W.iret (v := (-2)) hx hb hr (fun t ht hW => ⟨⟨(-2), (v, F, rc), rfl, ⟨hI, rfl, (fun _ _ => rfl), hF, trivial⟩, (by show va_P _ _ _ t.heap; rw [ht]; exact hP9)⟩, hS.F ht⟩) hS.2.2 dX12_need_47
        · skip
          have t5216 := cv_eq (a := r5213.toInt) rfl (b := 0) (by decide) c5214
          refine lv_aload_n hx hb dX12_need_35 rfl (lv_at hl 0 rfl) ?_
          refine lv_iload_n hx hb dX12_need_36 rfl (lv_at hl 1 rfl) ?_
          refine lv_iload_n hx hb dX12_need_37 rfl (lv_at hl 2 rfl) ?_
          refine va_calli (va_runV (As := [.int p0, .int p1]) (rest := []) ⟨hx, hb, hml, hown, hwd⟩ (c_X12_onIt l dC dI g c adK adV v F rc H.size p0 p1 hg hI ) (cwV 2 hwd (gV wk_317 wk_314 wk_315 wk_316 wk_5) rfl rfl rfl (by decide +kernel) ⟨Nat.le_of_ble_eq_true rfl, Nat.le_of_ble_eq_true rfl⟩) ⟨PM.blind, va_recv hK hP (ci := 12) (q0 := 0) rfl rfl, fun U hU hW => ⟨rfl, PM.at hK hE hP hS hU hW⟩⟩ rfl rfl hl.1 rfl (lv_room (Nat.le_of_ble_eq_true rfl)) dX12_need_38 ⟨Nat.le_of_ble_eq_true rfl, Nat.le_of_ble_eq_true rfl⟩) hS (fun q _ h => (freeM hS) q h) (freeM hS) (fun r5217 u t H1 locs ht hvm hw hB hz1 hk1 hS => ?_)
          unfold BM at hB
          rw [ht] at hB
          have hP : va_P (dC, dI) classes (wM g c v F rc) H1 := hB
          clear hz1
          generalize H1 = H at hP hS ⊢
          have rr_r5217 := i32_rng r5217
          refine lv_iload_n hx hb dX12_need_41 rfl (lv_at hl 3 rfl) ?_
          refine lv_icmp_le (tgt := 48) hx hb dX12_need_42 (by decide) (fun c5218 => ?_) (fun c5218 => ?_)
          · skip
            have t5219 := cv_le (a := r5217.toInt) rfl (b := p2.toInt) rfl c5218
            refine lv_aload_n hx hb dX12_need_48 rfl (lv_at hl 0 rfl) ?_
            refine va_get (D := (dC, dI)) (ci := 12) (v := .ref (g 9)) (C := RX12) (T := TX12) (N := 63) hx hb hwd inA_X12 hown hK hP 0 rfl rfl 12 (by decide) (hwd _ wk_190) (fun _ h9 => h9) rfl dX12_need_49 ?_
            refine lv_bipush (v := 10) hx hb dX12_need_52 (by decide) ?_
            refine lv_iload_n hx hb dX12_need_54 rfl (lv_at hl 1 rfl) ?_
            refine lv_imul hx hb dX12_need_55 ?_
            refine lv_topi (fun z5220 e5221 => ?_)
            try (have t5222 := tmul e5221 (a := 10) (by decide) (b := p0.toInt) rfl (by omega))
            refine lv_iload_n hx hb dX12_need_56 rfl (lv_at hl 2 rfl) ?_
            refine lv_iadd hx hb dX12_need_57 ?_
            refine lv_topi (fun z5223 e5224 => ?_)
            try (have t5225 := tadd e5224 (a := z5220.toInt) rfl (b := p1.toInt) rfl (by omega))
            refine va_iald hx hb hK hP 9 8 rfl rfl (i := z5223) (vin (a := z5223.toInt) rfl (by omega)) dX12_need_58 ?_
            refine lv_topi (fun z5226 e5227 => ?_)
            refine lv_istore (lv' := [(4, .int z5226), (0, .ref (g 0)), (1, .int p0), (2, .int p1), (3, .int p2)]) hx hb dX12_need_59 hl (by decide) rfl (fun ls hl => ?_)
            refine lv_aload_n hx hb dX12_need_61 rfl (lv_at hl 1 rfl) ?_
            refine va_get (D := (dC, dI)) (ci := 12) (v := .ref (g 9)) (C := RX12) (T := TX12) (N := 63) hx hb hwd inA_X12 hown hK hP 0 rfl rfl 12 (by decide) (hwd _ wk_190) (fun _ h9 => h9) rfl dX12_need_62 ?_
            refine lv_bipush (v := 10) hx hb dX12_need_65 (by decide) ?_
            refine lv_iload_n hx hb dX12_need_67 rfl (lv_at hl 2 rfl) ?_
            refine lv_imul hx hb dX12_need_68 ?_
            refine lv_topi (fun z5228 e5229 => ?_)
            try (have t5230 := tmul e5229 (a := 10) (by decide) (b := p0.toInt) rfl (by omega))
            refine lv_iload_n hx hb dX12_need_69 rfl (lv_at hl 3 rfl) ?_
            refine lv_iadd hx hb dX12_need_70 ?_
            refine lv_topi (fun z5231 e5232 => ?_)
            try (have t5233 := tadd e5232 (a := z5228.toInt) rfl (b := p1.toInt) rfl (by omega))
            refine lv_iload_n hx hb dX12_need_71 rfl (lv_at hl 4 rfl) ?_
            refine va_iast hx hb hK hP (DM hg) hS 9 8 rfl rfl (i := z5231) (x := p2) (vin (a := z5231.toInt) rfl (by omega)) dX12_need_72 (fun H locs hP _ hS => ?_)
            have hP := va_P_eq (sM_9 g c _ _ _ _) hP
            have hI := IM.store0 hI 9 (z5231 : Int32).toNatClampNeg p2 rfl
            have hF := frUF (k := 9) (f := upd (F 9) (z5231 : Int32).toNatClampNeg p2) (by decide) hF
            have hP : va_P (dC, dI) classes (wM g c v (va_up F 9 (upd (F 9) (z5231 : Int32).toNatClampNeg p2)) rc) H := hP
            generalize (va_up F 9 (upd (F 9) (z5231 : Int32).toNatClampNeg p2)) = F5234 at hP hI hF
            refine lv_iload hx hb dX12_need_73 (lv_at hl 0 rfl) ?_
            have hP9 : va_P (dC, dI) classes (wM g c v F5234 rc) H := hP
            exact W.iret (v := z5226) hx hb hr (fun t ht hW => ⟨⟨z5226, (v, F5234, rc), rfl, ⟨hI, rfl, (fun _ _ => rfl), hF, trivial⟩, (by show va_P _ _ _ t.heap; rw [ht]; exact hP9)⟩, hS.F ht⟩) hS.2.2 dX12_need_75
          · skip
            have t5235 := cv_nle (a := r5217.toInt) rfl (b := p2.toInt) rfl c5218
            refine lv_bipush (v := (-2)) hx hb dX12_need_45 (by decide) ?_
            have hP9 : va_P (dC, dI) classes (wM g c v F rc) H := hP
            exact W.iret (v := (-2)) hx hb hr (fun t ht hW => ⟨⟨(-2), (v, F, rc), rfl, ⟨hI, rfl, (fun _ _ => rfl), hF, trivial⟩, (by show va_P _ _ _ t.heap; rw [ht]; exact hP9)⟩, hS.F ht⟩) hS.2.2 dX12_need_47
      · skip
        have t5236 := cv_eq (a := r5208.toInt) rfl (b := 0) (by decide) c5211
        refine lv_iconst (v := (-1)) hx hb dX12_need_25 (by decide) ?_
        have hP9 : va_P (dC, dI) classes (wM g c v F rc) H := hP
        exact W.iret (v := (-1)) hx hb hr (fun t ht hW => ⟨⟨(-1), (v, F, rc), rfl, ⟨hI, rfl, (fun _ _ => rfl), hF, trivial⟩, (by show va_P _ _ _ t.heap; rw [ht]; exact hP9)⟩, hS.F ht⟩) hS.2.2 dX12_need_26
set_option maxHeartbeats 8000000 in
set_option maxRecDepth 100000 in
theorem c_X12_reserve (l : Launch) (dC : Nat → ClassId) (dI : Nat → Nat → Nat) (g : Nat → Nat) (c : Nat → ClassId) (adK adV : Nat → Nat) (v : Nat → Int32) (F : Nat → Nat → Int32) (rc sz : Nat) (p0 : Int32) (p1 : Int32) (hg : injM g) (hI : IM v F) : Met l yX12_reserve (Cond.code yX12_reserve cX12_reserve 3 (some .int) :: wA) ({ frames := 3, cells := 0, slots := 0, locals := 120 }) (va_Pc [.ref (g 0), .int p0, .int p1] (PM dC dI g c adK adV v F rc sz)) (va_Qi (fun (r : Int32) (u : Unit) => True) (fun (_ : Unit) => BM dC dI g c (v, F, rc)) (AM g sz)) 0 0 (AM g sz) := by
  refine Met.ofW (cc := cX12_reserve) (maxL := 3) (ret := (some .int)) (by decide) rfl ?_
  intro p e s m args below meth c0 s₁ B hml hv
  obtain ⟨rfl, hsz, hP, hK, hE⟩ := hv
  have hx := B.exec
  have hb := B.bytes
  have hr := B.returns
  have hts := atoms_spec (ws := Cond.code yX12_reserve cX12_reserve 3 (some .int) :: wA) B.pre
  have hwd : ∀ w ∈ wA, w.before _ s = true := fun w h => hts w (List.mem_cons_of_mem _ h)
  have hown : s.vm.findClass RX12 = some m.cls := findClass_of_methodNamed B.named
  have hlocks := B.notSynchronized
  subst hsz
  have hl := lv_entry ([.ref (g 0), .int p0, .int p1]) (n := 3) (Nat.le_of_ble_eq_true rfl)
  rw [lg_entry_eq]
  generalize (lg_sl ([.ref (g 0), .int p0, .int p1]) ++ List.replicate (3 - (lg_sl ([.ref (g 0), .int p0, .int p1])).length) Slot.unset).toArray = ls at hl ⊢
  have hl : lv_has ls 3 [(0, .ref (g 0)), (1, .int p0), (2, .int p1)] := hl
  obtain ⟨H, eH⟩ : ∃ z, z = s.heap := ⟨_, rfl⟩
  have hP : va_P (dC, dI) classes (wM g c v F rc) H := by rw [eH]; exact hP
  have hS : va_S (AM g s.heap.size) s.heap H [] := by rw [eH]; exact va_S.rf
  refine my_heap eH ?_
  have rp0 := i32_rng p0
  have rp1 := i32_rng p1
  refine lv_aload_n hx hb dX12_reserve_0 rfl (lv_at hl 0 rfl) ?_
  refine lv_iload_n hx hb dX12_reserve_1 rfl (lv_at hl 1 rfl) ?_
  have t5237 : 0 ≤ (v 6).toInt ∧ (v 6).toInt ≤ 10 := hI.1 6 _ _ rfl
  refine va_calli (va_runV (As := [.int p0]) (rest := []) ⟨hx, hb, hml, hown, hwd⟩ (c_X12_isPlane l dC dI g c adK adV v F rc H.size p0 hg hI ) (cwV 1 hwd (gV wk_305 wk_302 wk_303 wk_304 wk_5) rfl rfl rfl (by decide +kernel) ⟨Nat.le_of_ble_eq_true rfl, Nat.le_of_ble_eq_true rfl⟩) ⟨PM.blind, va_recv hK hP (ci := 12) (q0 := 0) rfl rfl, fun U hU hW => ⟨rfl, PM.at hK hE hP hS hU hW⟩⟩ rfl rfl hl.1 rfl (lv_room (Nat.le_of_ble_eq_true rfl)) dX12_reserve_2 ⟨Nat.le_of_ble_eq_true rfl, Nat.le_of_ble_eq_true rfl⟩) hS (fun q _ h => (freeM hS) q h) (freeM hS) (fun r5238 u t H1 locs ht hvm hw hB hz1 hk1 hS => ?_)
  unfold BM at hB
  rw [ht] at hB
  have hP : va_P (dC, dI) classes (wM g c v F rc) H1 := hB
  replace hw : (r5238.toInt = 1 ∧ 0 ≤ p0.toInt ∧ p0.toInt < (v 6).toInt) ∨ (r5238.toInt = 0 ∧ (p0.toInt < 0 ∨ (v 6).toInt ≤ p0.toInt)) := hw
  have hw_r5238 := hw
  clear hw
  clear hz1
  generalize H1 = H at hP hS ⊢
  refine lv_if_eq (tgt := 30) hx hb dX12_reserve_5 (by decide) (fun c5239 => ?_) (fun c5239 => ?_)
  · skip
    have t5240 := cv_eq (a := r5238.toInt) rfl (b := 0) (by decide) c5239
    refine lv_iconst (v := (-1)) hx hb dX12_reserve_30 (by decide) ?_
    have hP9 : va_P (dC, dI) classes (wM g c v F rc) H := hP
    exact W.iret (v := (-1)) hx hb hr (fun t ht hW => ⟨⟨(-1), (), rfl, trivial, (by show va_P _ _ _ t.heap; rw [ht]; exact hP9)⟩, hS.F ht⟩) hS.2.2 dX12_reserve_31
  · skip
    have t5241 := cv_ne (a := r5238.toInt) rfl (b := 0) (by decide) c5239
    refine lv_aload_n hx hb dX12_reserve_8 rfl (lv_at hl 0 rfl) ?_
    refine lv_iload_n hx hb dX12_reserve_9 rfl (lv_at hl 2 rfl) ?_
    have t5242 : 0 ≤ (v 2).toInt ∧ (v 2).toInt ≤ 10 := hI.1 2 _ _ rfl
    refine va_calli (va_runV (As := [.int p1]) (rest := []) ⟨hx, hb, hml, hown, hwd⟩ (c_X12_isKind l dC dI g c adK adV v F rc H.size p1 hg hI ) (cwV 1 hwd (gV wk_309 wk_306 wk_307 wk_308 wk_5) rfl rfl rfl (by decide +kernel) ⟨Nat.le_of_ble_eq_true rfl, Nat.le_of_ble_eq_true rfl⟩) ⟨PM.blind, va_recv hK hP (ci := 12) (q0 := 0) rfl rfl, fun U hU hW => ⟨rfl, PM.at hK hE hP hS hU hW⟩⟩ rfl rfl hl.1 rfl (lv_room (Nat.le_of_ble_eq_true rfl)) dX12_reserve_10 ⟨Nat.le_of_ble_eq_true rfl, Nat.le_of_ble_eq_true rfl⟩) hS (fun q _ h => (freeM hS) q h) (freeM hS) (fun r5243 u t H1 locs ht hvm hw hB hz1 hk1 hS => ?_)
    unfold BM at hB
    rw [ht] at hB
    have hP : va_P (dC, dI) classes (wM g c v F rc) H1 := hB
    replace hw : (r5243.toInt = 1 ∧ 0 ≤ p1.toInt ∧ p1.toInt < (v 2).toInt) ∨ (r5243.toInt = 0 ∧ (p1.toInt < 0 ∨ (v 2).toInt ≤ p1.toInt)) := hw
    have hw_r5243 := hw
    clear hw
    clear hz1
    generalize H1 = H at hP hS ⊢
    refine lv_if_eq (tgt := 30) hx hb dX12_reserve_13 (by decide) (fun c5244 => ?_) (fun c5244 => ?_)
    · skip
      have t5245 := cv_eq (a := r5243.toInt) rfl (b := 0) (by decide) c5244
      refine lv_iconst (v := (-1)) hx hb dX12_reserve_30 (by decide) ?_
      have hP9 : va_P (dC, dI) classes (wM g c v F rc) H := hP
      exact W.iret (v := (-1)) hx hb hr (fun t ht hW => ⟨⟨(-1), (), rfl, trivial, (by show va_P _ _ _ t.heap; rw [ht]; exact hP9)⟩, hS.F ht⟩) hS.2.2 dX12_reserve_31
    · skip
      have t5246 := cv_ne (a := r5243.toInt) rfl (b := 0) (by decide) c5244
      refine lv_aload_n hx hb dX12_reserve_16 rfl (lv_at hl 0 rfl) ?_
      refine va_get (D := (dC, dI)) (ci := 12) (v := .ref (g 10)) (C := RX12) (T := TX12) (N := 63) hx hb hwd inA_X12 hown hK hP 0 rfl rfl 13 (by decide) (hwd _ wk_191) (fun _ h9 => h9) rfl dX12_reserve_17 ?_
      refine lv_bipush (v := 10) hx hb dX12_reserve_20 (by decide) ?_
      refine lv_iload_n hx hb dX12_reserve_22 rfl (lv_at hl 1 rfl) ?_
      refine lv_imul hx hb dX12_reserve_23 ?_
      refine lv_topi (fun z5247 e5248 => ?_)
      try (have t5249 := tmul e5248 (a := 10) (by decide) (b := p0.toInt) rfl (by omega))
      refine lv_iload_n hx hb dX12_reserve_24 rfl (lv_at hl 2 rfl) ?_
      refine lv_iadd hx hb dX12_reserve_25 ?_
      refine lv_topi (fun z5250 e5251 => ?_)
      try (have t5252 := tadd e5251 (a := z5247.toInt) rfl (b := p1.toInt) rfl (by omega))
      refine va_iald hx hb hK hP 10 9 rfl rfl (i := z5250) (vin (a := z5250.toInt) rfl (by omega)) dX12_reserve_26 ?_
      refine lv_topi (fun z5253 e5254 => ?_)
      refine lv_goto (tgt := 31) hx hb dX12_reserve_27 (by decide) ?_
      have hP9 : va_P (dC, dI) classes (wM g c v F rc) H := hP
      exact W.iret (v := z5253) hx hb hr (fun t ht hW => ⟨⟨z5253, (), rfl, trivial, (by show va_P _ _ _ t.heap; rw [ht]; exact hP9)⟩, hS.F ht⟩) hS.2.2 dX12_reserve_31
set_option maxHeartbeats 8000000 in
set_option maxRecDepth 100000 in
theorem c_X12_link (l : Launch) (dC : Nat → ClassId) (dI : Nat → Nat → Nat) (g : Nat → Nat) (c : Nat → ClassId) (adK adV : Nat → Nat) (v : Nat → Int32) (F : Nat → Nat → Int32) (rc sz : Nat) (p0 : Int32) (p1 : Int32) (p2 : Int32) (hg : injM g) (hI : IM v F) : Met l yX12_link (Cond.code yX12_link cX12_link 4 (some .int) :: wA) ({ frames := 3, cells := 0, slots := 0, locals := 120 }) (va_Pc [.ref (g 0), .int p0, .int p1, .int p2] (PM dC dI g c adK adV v F rc sz)) (va_Qi (fun (r : Int32) (u : StM) => IM u.1 u.2.1 ∧ u.2.2 = rc ∧ (∀ k, k ∉ ([] : List Nat) → u.1 k = v k) ∧ (∀ k, k ∉ ([44, 45] : List Nat) → u.2.1 k = F k) ∧ ((¬ ((0 ≤ p0.toInt ∧ p0.toInt < (v 6).toInt) ∧ (0 ≤ p1.toInt ∧ p1.toInt ≤ 9) ∧ (0 ≤ p2.toInt ∧ p2.toInt ≤ 99999)) ∧ r.toInt = -1 ∧ u.2.1 44 = F 44 ∧ u.2.1 45 = F 45) ∨ (((0 ≤ p0.toInt ∧ p0.toInt < (v 6).toInt) ∧ (0 ≤ p1.toInt ∧ p1.toInt ≤ 9) ∧ (0 ≤ p2.toInt ∧ p2.toInt ≤ 99999)) ∧ (F 44 p0.toNatClampNeg).toInt = 4 ∧ r.toInt = -3 ∧ u.2.1 44 = F 44 ∧ u.2.1 45 = F 45) ∨ (((0 ≤ p0.toInt ∧ p0.toInt < (v 6).toInt) ∧ (0 ≤ p1.toInt ∧ p1.toInt ≤ 9) ∧ (0 ≤ p2.toInt ∧ p2.toInt ≤ 99999)) ∧ (F 44 p0.toNatClampNeg).toInt < 4 ∧ r.toInt = (F 44 p0.toNatClampNeg).toInt + 1 ∧ exL (fun (j : Nat) (x : Int32) => (j : Int) = 4 * p0.toInt + (F 44 p0.toNatClampNeg).toInt ∧ x.toInt = (F 44 p0.toNatClampNeg).toInt + 1 ∧ u.2.1 45 = upd (F 45) j p2 ∧ u.2.1 44 = upd (F 44) p0.toNatClampNeg x)))) (BM dC dI g c) (AM g sz)) 0 0 (AM g sz) := by
  refine Met.ofW (cc := cX12_link) (maxL := 4) (ret := (some .int)) (by decide) rfl ?_
  intro p e s m args below meth c0 s₁ B hml hv
  obtain ⟨rfl, hsz, hP, hK, hE⟩ := hv
  have hx := B.exec
  have hb := B.bytes
  have hr := B.returns
  have hts := atoms_spec (ws := Cond.code yX12_link cX12_link 4 (some .int) :: wA) B.pre
  have hwd : ∀ w ∈ wA, w.before _ s = true := fun w h => hts w (List.mem_cons_of_mem _ h)
  have hown : s.vm.findClass RX12 = some m.cls := findClass_of_methodNamed B.named
  have hlocks := B.notSynchronized
  subst hsz
  have hl := lv_entry ([.ref (g 0), .int p0, .int p1, .int p2]) (n := 4) (Nat.le_of_ble_eq_true rfl)
  rw [lg_entry_eq]
  generalize (lg_sl ([.ref (g 0), .int p0, .int p1, .int p2]) ++ List.replicate (4 - (lg_sl ([.ref (g 0), .int p0, .int p1, .int p2])).length) Slot.unset).toArray = ls at hl ⊢
  have hl : lv_has ls 4 [(0, .ref (g 0)), (1, .int p0), (2, .int p1), (3, .int p2)] := hl
  obtain ⟨H, eH⟩ : ∃ z, z = s.heap := ⟨_, rfl⟩
  have hP : va_P (dC, dI) classes (wM g c v F rc) H := by rw [eH]; exact hP
  have hS : va_S (AM g s.heap.size) s.heap H [] := by rw [eH]; exact va_S.rf
  refine my_heap eH ?_
  have hF : ∀ k, k ∉ ([44, 45] : List Nat) → F k = F k := fun _ _ => rfl
  have rp0 := i32_rng p0
  have rp1 := i32_rng p1
  have rp2 := i32_rng p2
  refine lv_aload_n hx hb dX12_link_0 rfl (lv_at hl 0 rfl) ?_
  refine lv_iload_n hx hb dX12_link_1 rfl (lv_at hl 1 rfl) ?_
  have t5302 : 0 ≤ (v 6).toInt ∧ (v 6).toInt ≤ 10 := hI.1 6 _ _ rfl
  refine va_calli (va_runV (As := [.int p0]) (rest := []) ⟨hx, hb, hml, hown, hwd⟩ (c_X12_isPlane l dC dI g c adK adV v F rc H.size p0 hg hI ) (cwV 1 hwd (gV wk_305 wk_302 wk_303 wk_304 wk_5) rfl rfl rfl (by decide +kernel) ⟨Nat.le_of_ble_eq_true rfl, Nat.le_of_ble_eq_true rfl⟩) ⟨PM.blind, va_recv hK hP (ci := 12) (q0 := 0) rfl rfl, fun U hU hW => ⟨rfl, PM.at hK hE hP hS hU hW⟩⟩ rfl rfl hl.1 rfl (lv_room (Nat.le_of_ble_eq_true rfl)) dX12_link_2 ⟨Nat.le_of_ble_eq_true rfl, Nat.le_of_ble_eq_true rfl⟩) hS (fun q _ h => (freeM hS) q h) (freeM hS) (fun r5303 u t H1 locs ht hvm hw hB hz1 hk1 hS => ?_)
  unfold BM at hB
  rw [ht] at hB
  have hP : va_P (dC, dI) classes (wM g c v F rc) H1 := hB
  replace hw : (r5303.toInt = 1 ∧ 0 ≤ p0.toInt ∧ p0.toInt < (v 6).toInt) ∨ (r5303.toInt = 0 ∧ (p0.toInt < 0 ∨ (v 6).toInt ≤ p0.toInt)) := hw
  have hw_r5303 := hw
  clear hw
  clear hz1
  generalize H1 = H at hP hS ⊢
  refine lv_if_eq (tgt := 28) hx hb dX12_link_5 (by decide) (fun c5304 => ?_) (fun c5304 => ?_)
  · skip
    have t5305 := cv_eq (a := r5303.toInt) rfl (b := 0) (by decide) c5304
    refine lv_iconst (v := (-1)) hx hb dX12_link_28 (by decide) ?_
    have hP9 : va_P (dC, dI) classes (wM g c v F rc) H := hP
    exact W.iret (v := (-1)) hx hb hr (fun t ht hW => ⟨⟨(-1), (v, F, rc), rfl, ⟨hI, rfl, (fun _ _ => rfl), hF, (Or.inl ⟨by omega, by decide, rfl, rfl⟩)⟩, (by show va_P _ _ _ t.heap; rw [ht]; exact hP9)⟩, hS.F ht⟩) hS.2.2 dX12_link_29
  · skip
    have t5306 := cv_ne (a := r5303.toInt) rfl (b := 0) (by decide) c5304
    refine lv_iload_n hx hb dX12_link_8 rfl (lv_at hl 2 rfl) ?_
    refine lv_iconst (v := 0) hx hb dX12_link_9 (by decide) ?_
    refine lv_bipush (v := 9) hx hb dX12_link_10 (by decide) ?_
    refine va_calli (va_runS (As := [.int p1, .int 0, .int 9]) (rest := []) ⟨hx, hb, hml, hown, hwd⟩ (c_X12_in l dC dI g c adK adV v F rc H.size p1 0 9 hg hI ) (va_cwS 3 hwd (gT wk_254 wk_252 wk_253 wk_5) rfl rfl rfl (by decide +kernel) ⟨Nat.le_of_ble_eq_true rfl, Nat.le_of_ble_eq_true rfl⟩) ⟨PM.blind, fun U hU hW => ⟨rfl, PM.at hK hE hP hS hU hW⟩⟩ rfl rfl hl.1 rfl (lv_room (Nat.le_of_ble_eq_true rfl)) dX12_link_12 ⟨Nat.le_of_ble_eq_true rfl, Nat.le_of_ble_eq_true rfl⟩) hS (fun q _ h => (freeM hS) q h) (freeM hS) (fun r5307 u t H1 locs ht hvm hw hB hz1 hk1 hS => ?_)
    unfold BM at hB
    rw [ht] at hB
    have hP : va_P (dC, dI) classes (wM g c v F rc) H1 := hB
    have hw_r5307 : (r5307.toInt = 1 ∧ (0 : Int32).toInt ≤ p1.toInt ∧ p1.toInt ≤ (9 : Int32).toInt) ∨ (r5307.toInt = 0 ∧ (p1.toInt < (0 : Int32).toInt ∨ (9 : Int32).toInt < p1.toInt)) := hw
    clear hw
    have k5308 : (0 : Int32).toInt = 0 := by decide
    have k5309 : (9 : Int32).toInt = 9 := by decide
    clear hz1
    generalize H1 = H at hP hS ⊢
    refine lv_if_eq (tgt := 28) hx hb dX12_link_15 (by decide) (fun c5310 => ?_) (fun c5310 => ?_)
    · skip
      have t5311 := cv_eq (a := r5307.toInt) rfl (b := 0) (by decide) c5310
      refine lv_iconst (v := (-1)) hx hb dX12_link_28 (by decide) ?_
      have hP9 : va_P (dC, dI) classes (wM g c v F rc) H := hP
      exact W.iret (v := (-1)) hx hb hr (fun t ht hW => ⟨⟨(-1), (v, F, rc), rfl, ⟨hI, rfl, (fun _ _ => rfl), hF, (Or.inl ⟨by omega, by decide, rfl, rfl⟩)⟩, (by show va_P _ _ _ t.heap; rw [ht]; exact hP9)⟩, hS.F ht⟩) hS.2.2 dX12_link_29
    · skip
      have t5312 := cv_ne (a := r5307.toInt) rfl (b := 0) (by decide) c5310
      refine lv_iload_n hx hb dX12_link_18 rfl (lv_at hl 3 rfl) ?_
      refine lv_iconst (v := 0) hx hb dX12_link_19 (by decide) ?_
      refine lv_ldc (v := 99999) hx hb hown (hwd _ wk_249) dX12_link_20 ?_
      refine va_calli (va_runS (As := [.int p2, .int 0, .int 99999]) (rest := []) ⟨hx, hb, hml, hown, hwd⟩ (c_X12_in l dC dI g c adK adV v F rc H.size p2 0 99999 hg hI ) (va_cwS 3 hwd (gT wk_254 wk_252 wk_253 wk_5) rfl rfl rfl (by decide +kernel) ⟨Nat.le_of_ble_eq_true rfl, Nat.le_of_ble_eq_true rfl⟩) ⟨PM.blind, fun U hU hW => ⟨rfl, PM.at hK hE hP hS hU hW⟩⟩ rfl rfl hl.1 rfl (lv_room (Nat.le_of_ble_eq_true rfl)) dX12_link_22 ⟨Nat.le_of_ble_eq_true rfl, Nat.le_of_ble_eq_true rfl⟩) hS (fun q _ h => (freeM hS) q h) (freeM hS) (fun r5313 u t H1 locs ht hvm hw hB hz1 hk1 hS => ?_)
      unfold BM at hB
      rw [ht] at hB
      have hP : va_P (dC, dI) classes (wM g c v F rc) H1 := hB
      have hw_r5313 : (r5313.toInt = 1 ∧ (0 : Int32).toInt ≤ p2.toInt ∧ p2.toInt ≤ (99999 : Int32).toInt) ∨ (r5313.toInt = 0 ∧ (p2.toInt < (0 : Int32).toInt ∨ (99999 : Int32).toInt < p2.toInt)) := hw
      clear hw
      have k5314 : (0 : Int32).toInt = 0 := by decide
      have k5315 : (99999 : Int32).toInt = 99999 := by decide
      clear hz1
      generalize H1 = H at hP hS ⊢
      refine lv_if_ne (tgt := 30) hx hb dX12_link_25 (by decide) (fun c5316 => ?_) (fun c5316 => ?_)
      · skip
        have t5317 := cv_ne (a := r5313.toInt) rfl (b := 0) (by decide) c5316
        refine lv_aload_n hx hb dX12_link_30 rfl (lv_at hl 0 rfl) ?_
        refine va_get (D := (dC, dI)) (ci := 12) (v := .ref (g 44)) (C := RX12) (T := TX12) (N := 63) hx hb hwd inA_X12 hown hK hP 0 rfl rfl 61 (by decide) (hwd _ wk_226) (fun _ h9 => h9) rfl dX12_link_31 ?_
        refine lv_iload_n hx hb dX12_link_34 rfl (lv_at hl 1 rfl) ?_
        refine va_iald hx hb hK hP 44 43 rfl rfl (i := p0) (vin (a := p0.toInt) rfl (by omega)) dX12_link_35 ?_
        refine lv_topi (fun z5318 e5319 => ?_)
        have t5320 : 0 ≤ z5318.toInt ∧ z5318.toInt ≤ 4 := by rw [e5319]; exact hI.2 44 _ _ rfl _
        have tzz5318 : z5318.toInt = (F 44 (p0 : Int32).toNatClampNeg).toInt := congrArg Int32.toInt e5319
        refine lv_iconst (v := 4) hx hb dX12_link_36 (by decide) ?_
        refine lv_icmp_ne (tgt := 43) hx hb dX12_link_37 (by decide) (fun c5321 => ?_) (fun c5321 => ?_)
        · skip
          have t5322 := cv_ne (a := z5318.toInt) rfl (b := 4) (by decide) c5321
          refine lv_aload_n hx hb dX12_link_43 rfl (lv_at hl 0 rfl) ?_
          refine va_get (D := (dC, dI)) (ci := 12) (v := .ref (g 45)) (C := RX12) (T := TX12) (N := 63) hx hb hwd inA_X12 hown hK hP 0 rfl rfl 62 (by decide) (hwd _ wk_227) (fun _ h9 => h9) rfl dX12_link_44 ?_
          refine lv_iconst (v := 4) hx hb dX12_link_47 (by decide) ?_
          refine lv_iload_n hx hb dX12_link_48 rfl (lv_at hl 1 rfl) ?_
          refine lv_imul hx hb dX12_link_49 ?_
          refine lv_topi (fun z5323 e5324 => ?_)
          try (have t5325 := tmul e5324 (a := 4) (by decide) (b := p0.toInt) rfl (by omega))
          refine lv_aload_n hx hb dX12_link_50 rfl (lv_at hl 0 rfl) ?_
          refine va_get (D := (dC, dI)) (ci := 12) (v := .ref (g 44)) (C := RX12) (T := TX12) (N := 63) hx hb hwd inA_X12 hown hK hP 0 rfl rfl 61 (by decide) (hwd _ wk_226) (fun _ h9 => h9) rfl dX12_link_51 ?_
          refine lv_iload_n hx hb dX12_link_54 rfl (lv_at hl 1 rfl) ?_
          refine va_iald hx hb hK hP 44 43 rfl rfl (i := p0) (vin (a := p0.toInt) rfl (by omega)) dX12_link_55 ?_
          refine lv_topi (fun z5326 e5327 => ?_)
          have t5328 : 0 ≤ z5326.toInt ∧ z5326.toInt ≤ 4 := by rw [e5327]; exact hI.2 44 _ _ rfl _
          have tzz5326 : z5326.toInt = (F 44 (p0 : Int32).toNatClampNeg).toInt := congrArg Int32.toInt e5327
          refine lv_iadd hx hb dX12_link_56 ?_
          refine lv_topi (fun z5329 e5330 => ?_)
          try (have t5331 := tadd e5330 (a := z5323.toInt) rfl (b := z5326.toInt) rfl (by omega))
          refine lv_iload_n hx hb dX12_link_57 rfl (lv_at hl 3 rfl) ?_
          refine va_iast hx hb hK hP (DM hg) hS 45 44 rfl rfl (i := z5329) (x := p2) (vin (a := z5329.toInt) rfl (by omega)) dX12_link_58 (fun H locs hP _ hS => ?_)
          have hP := va_P_eq (sM_45 g c _ _ _ _) hP
          have hI := IM.store0 hI 45 (z5329 : Int32).toNatClampNeg p2 rfl
          have hF := frUF (k := 45) (f := upd (F 45) (z5329 : Int32).toNatClampNeg p2) (by decide) hF
          have st5333 : (va_up F 45 (upd (F 45) (z5329 : Int32).toNatClampNeg p2)) 45 = upd (F 45) (z5329 : Int32).toNatClampNeg p2 := va_up_self _ _ _
          have sn5334 : ∀ k9, k9 ≠ 45 → (va_up F 45 (upd (F 45) (z5329 : Int32).toNatClampNeg p2)) k9 = F k9 := fun k9 h9 => va_up_ne _ _ h9
          have hP : va_P (dC, dI) classes (wM g c v (va_up F 45 (upd (F 45) (z5329 : Int32).toNatClampNeg p2)) rc) H := hP
          generalize (va_up F 45 (upd (F 45) (z5329 : Int32).toNatClampNeg p2)) = F5332 at hP hI hF st5333 sn5334
          refine lv_aload_n hx hb dX12_link_59 rfl (lv_at hl 0 rfl) ?_
          refine va_get (D := (dC, dI)) (ci := 12) (v := .ref (g 44)) (C := RX12) (T := TX12) (N := 63) hx hb hwd inA_X12 hown hK hP 0 rfl rfl 61 (by decide) (hwd _ wk_226) (fun _ h9 => h9) rfl dX12_link_60 ?_
          refine lv_iload_n hx hb dX12_link_63 rfl (lv_at hl 1 rfl) ?_
          refine lv_dup2_11 hx hb dX12_link_64 rfl rfl ?_
          refine va_iald hx hb hK hP 44 43 rfl rfl (i := p0) (vin (a := p0.toInt) rfl (by omega)) dX12_link_65 ?_
          refine lv_topi (fun z5335 e5336 => ?_)
          have t5337 : 0 ≤ z5335.toInt ∧ z5335.toInt ≤ 4 := by rw [e5336]; exact hI.2 44 _ _ rfl _
          have tzz5335 : z5335.toInt = (F 44 (p0 : Int32).toNatClampNeg).toInt := congrArg Int32.toInt (e5336.trans (congrFun (sn5334 44 (by decide)) _))
          refine lv_iconst (v := 1) hx hb dX12_link_66 (by decide) ?_
          refine lv_iadd hx hb dX12_link_67 ?_
          refine lv_topi (fun z5338 e5339 => ?_)
          try (have t5340 := tadd e5339 (a := z5335.toInt) rfl (b := 1) (by decide) (by omega))
          refine va_iast hx hb hK hP (DM hg) hS 44 43 rfl rfl (i := p0) (x := z5338) (vin (a := p0.toInt) rfl (by omega)) dX12_link_68 (fun H locs hP _ hS => ?_)
          have hP := va_P_eq (sM_44 g c _ _ _ _) hP
          have hI := IM.store hI 44 (p0 : Int32).toNatClampNeg z5338 rfl (by omega)
          have hF := frUF (k := 44) (f := upd (F5332 44) (p0 : Int32).toNatClampNeg z5338) (by decide) hF
          have st5342 : (va_up F5332 44 (upd (F5332 44) (p0 : Int32).toNatClampNeg z5338)) 44 = upd (F5332 44) (p0 : Int32).toNatClampNeg z5338 := va_up_self _ _ _
          have sn5343 : ∀ k9, k9 ≠ 44 → (va_up F5332 44 (upd (F5332 44) (p0 : Int32).toNatClampNeg z5338)) k9 = F5332 k9 := fun k9 h9 => va_up_ne _ _ h9
          have hP : va_P (dC, dI) classes (wM g c v (va_up F5332 44 (upd (F5332 44) (p0 : Int32).toNatClampNeg z5338)) rc) H := hP
          generalize (va_up F5332 44 (upd (F5332 44) (p0 : Int32).toNatClampNeg z5338)) = F5341 at hP hI hF st5342 sn5343
          refine lv_aload_n hx hb dX12_link_69 rfl (lv_at hl 0 rfl) ?_
          refine va_get (D := (dC, dI)) (ci := 12) (v := .ref (g 44)) (C := RX12) (T := TX12) (N := 63) hx hb hwd inA_X12 hown hK hP 0 rfl rfl 61 (by decide) (hwd _ wk_226) (fun _ h9 => h9) rfl dX12_link_70 ?_
          refine lv_iload_n hx hb dX12_link_73 rfl (lv_at hl 1 rfl) ?_
          refine va_iald hx hb hK hP 44 43 rfl rfl (i := p0) (vin (a := p0.toInt) rfl (by omega)) dX12_link_74 ?_
          refine lv_topi (fun z5344 e5345 => ?_)
          have t5346 : 0 ≤ z5344.toInt ∧ z5344.toInt ≤ 4 := by rw [e5345]; exact hI.2 44 _ _ rfl _
          have tzz5344 : z5344.toInt = (F5341 44 (p0 : Int32).toNatClampNeg).toInt := congrArg Int32.toInt e5345
          have hP9 : va_P (dC, dI) classes (wM g c v F5341 rc) H := hP
          exact W.iret (v := z5344) hx hb hr (fun t ht hW => ⟨⟨z5344, (v, F5341, rc), rfl, ⟨hI, rfl, (fun _ _ => rfl), hF, (Or.inr (Or.inr ⟨by omega, by omega, by have a4 : z5344 = z5338 := e5345.trans ((congrFun (st5342.trans (congrArg (fun f => upd f (p0 : Int32).toNatClampNeg z5338) (sn5334 44 (by decide)))) _).trans (mu_at _ _ _)); rw [a4]; omega, z5329.toNatClampNeg, z5338, by have a9 := ncl_i (x := z5329) (by omega); omega, by omega, ((sn5343 45 (by decide)).trans st5333), (st5342.trans (congrArg (fun f => upd f (p0 : Int32).toNatClampNeg z5338) (sn5334 44 (by decide))))⟩))⟩, (by show va_P _ _ _ t.heap; rw [ht]; exact hP9)⟩, hS.F ht⟩) hS.2.2 dX12_link_75
        · skip
          have t5347 := cv_eq (a := z5318.toInt) rfl (b := 4) (by decide) c5321
          refine lv_bipush (v := (-3)) hx hb dX12_link_40 (by decide) ?_
          have hP9 : va_P (dC, dI) classes (wM g c v F rc) H := hP
          exact W.iret (v := (-3)) hx hb hr (fun t ht hW => ⟨⟨(-3), (v, F, rc), rfl, ⟨hI, rfl, (fun _ _ => rfl), hF, (Or.inr (Or.inl ⟨by omega, by omega, by decide, rfl, rfl⟩))⟩, (by show va_P _ _ _ t.heap; rw [ht]; exact hP9)⟩, hS.F ht⟩) hS.2.2 dX12_link_42
      · skip
        have t5348 := cv_eq (a := r5313.toInt) rfl (b := 0) (by decide) c5316
        refine lv_iconst (v := (-1)) hx hb dX12_link_28 (by decide) ?_
        have hP9 : va_P (dC, dI) classes (wM g c v F rc) H := hP
        exact W.iret (v := (-1)) hx hb hr (fun t ht hW => ⟨⟨(-1), (v, F, rc), rfl, ⟨hI, rfl, (fun _ _ => rfl), hF, (Or.inl ⟨by omega, by decide, rfl, rfl⟩)⟩, (by show va_P _ _ _ t.heap; rw [ht]; exact hP9)⟩, hS.F ht⟩) hS.2.2 dX12_link_29
set_option maxHeartbeats 8000000 in
set_option maxRecDepth 100000 in
theorem c_X12_net (l : Launch) (dC : Nat → ClassId) (dI : Nat → Nat → Nat) (g : Nat → Nat) (c : Nat → ClassId) (adK adV : Nat → Nat) (v : Nat → Int32) (F : Nat → Nat → Int32) (rc sz : Nat) (p0 : Int32) (p1 : Int32) (p2 : Int32) (hg : injM g) (hI : IM v F) : Met l yX12_net (Cond.code yX12_net cX12_net 5 (some .int) :: wA) ({ frames := 3, cells := 0, slots := 0, locals := 120 }) (va_Pc [.ref (g 0), .int p0, .int p1, .int p2] (PM dC dI g c adK adV v F rc sz)) (va_Qi (fun (r : Int32) (u : Unit) => r = netF (F 44) (F 45) (v 6) p0 p1 p2) (fun (_ : Unit) => BM dC dI g c (v, F, rc)) (AM g sz)) 0 0 (AM g sz) := by
  refine Met.ofW (cc := cX12_net) (maxL := 5) (ret := (some .int)) (by decide) rfl ?_
  intro p e s m args below meth c0 s₁ B hml hv
  obtain ⟨rfl, hsz, hP, hK, hE⟩ := hv
  have hx := B.exec
  have hb := B.bytes
  have hr := B.returns
  have hts := atoms_spec (ws := Cond.code yX12_net cX12_net 5 (some .int) :: wA) B.pre
  have hwd : ∀ w ∈ wA, w.before _ s = true := fun w h => hts w (List.mem_cons_of_mem _ h)
  have hown : s.vm.findClass RX12 = some m.cls := findClass_of_methodNamed B.named
  have hlocks := B.notSynchronized
  subst hsz
  have hl := lv_entry ([.ref (g 0), .int p0, .int p1, .int p2]) (n := 5) (Nat.le_of_ble_eq_true rfl)
  rw [lg_entry_eq]
  generalize (lg_sl ([.ref (g 0), .int p0, .int p1, .int p2]) ++ List.replicate (5 - (lg_sl ([.ref (g 0), .int p0, .int p1, .int p2])).length) Slot.unset).toArray = ls at hl ⊢
  have hl : lv_has ls 5 [(0, .ref (g 0)), (1, .int p0), (2, .int p1), (3, .int p2)] := hl
  obtain ⟨H, eH⟩ : ∃ z, z = s.heap := ⟨_, rfl⟩
  have hP : va_P (dC, dI) classes (wM g c v F rc) H := by rw [eH]; exact hP
  have hS : va_S (AM g s.heap.size) s.heap H [] := by rw [eH]; exact va_S.rf
  refine my_heap eH ?_
  have rp0 := i32_rng p0
  have rp1 := i32_rng p1
  have rp2 := i32_rng p2
  refine lv_aload_n hx hb dX12_net_0 rfl (lv_at hl 0 rfl) ?_
  refine lv_iload_n hx hb dX12_net_1 rfl (lv_at hl 1 rfl) ?_
  have t5349 : 0 ≤ (v 6).toInt ∧ (v 6).toInt ≤ 10 := hI.1 6 _ _ rfl
  refine va_calli (va_runV (As := [.int p0]) (rest := []) ⟨hx, hb, hml, hown, hwd⟩ (c_X12_isPlane l dC dI g c adK adV v F rc H.size p0 hg hI ) (cwV 1 hwd (gV wk_305 wk_302 wk_303 wk_304 wk_5) rfl rfl rfl (by decide +kernel) ⟨Nat.le_of_ble_eq_true rfl, Nat.le_of_ble_eq_true rfl⟩) ⟨PM.blind, va_recv hK hP (ci := 12) (q0 := 0) rfl rfl, fun U hU hW => ⟨rfl, PM.at hK hE hP hS hU hW⟩⟩ rfl rfl hl.1 rfl (lv_room (Nat.le_of_ble_eq_true rfl)) dX12_net_2 ⟨Nat.le_of_ble_eq_true rfl, Nat.le_of_ble_eq_true rfl⟩) hS (fun q _ h => (freeM hS) q h) (freeM hS) (fun r5350 u t H1 locs ht hvm hw hB hz1 hk1 hS => ?_)
  unfold BM at hB
  rw [ht] at hB
  have hP : va_P (dC, dI) classes (wM g c v F rc) H1 := hB
  replace hw : (r5350.toInt = 1 ∧ 0 ≤ p0.toInt ∧ p0.toInt < (v 6).toInt) ∨ (r5350.toInt = 0 ∧ (p0.toInt < 0 ∨ (v 6).toInt ≤ p0.toInt)) := hw
  have hw_r5350 := hw
  clear hw
  clear hz1
  generalize H1 = H at hP hS ⊢
  refine lv_if_eq (tgt := 35) hx hb dX12_net_5 (by decide) (fun c5351 => ?_) (fun c5351 => ?_)
  · skip
    have t5352 := cv_eq (a := r5350.toInt) rfl (b := 0) (by decide) c5351
    refine lv_ldc (v := (-2000000000)) hx hb hown (hwd _ wk_542) dX12_net_35 ?_
    have hP9 : va_P (dC, dI) classes (wM g c v F rc) H := hP
    exact W.iret (v := (-2000000000)) hx hb hr (fun t ht hW => ⟨⟨(-2000000000), (), rfl, (by unfold netF; rw [if_neg (by omega)]), (by show va_P _ _ _ t.heap; rw [ht]; exact hP9)⟩, hS.F ht⟩) hS.2.2 dX12_net_37
  · skip
    have t5353 := cv_ne (a := r5350.toInt) rfl (b := 0) (by decide) c5351
    refine lv_iload_n hx hb dX12_net_8 rfl (lv_at hl 2 rfl) ?_
    refine lv_iconst (v := 0) hx hb dX12_net_9 (by decide) ?_
    refine lv_aload_n hx hb dX12_net_10 rfl (lv_at hl 0 rfl) ?_
    refine va_get (D := (dC, dI)) (ci := 12) (v := .ref (g 44)) (C := RX12) (T := TX12) (N := 63) hx hb hwd inA_X12 hown hK hP 0 rfl rfl 61 (by decide) (hwd _ wk_226) (fun _ h9 => h9) rfl dX12_net_11 ?_
    refine lv_iload_n hx hb dX12_net_14 rfl (lv_at hl 1 rfl) ?_
    refine va_iald hx hb hK hP 44 43 rfl rfl (i := p0) (vin (a := p0.toInt) rfl (by omega)) dX12_net_15 ?_
    refine lv_topi (fun z5354 e5355 => ?_)
    have t5356 : 0 ≤ z5354.toInt ∧ z5354.toInt ≤ 4 := by rw [e5355]; exact hI.2 44 _ _ rfl _
    have tzz5354 : z5354.toInt = (F 44 (p0 : Int32).toNatClampNeg).toInt := congrArg Int32.toInt e5355
    refine lv_iconst (v := 1) hx hb dX12_net_16 (by decide) ?_
    refine lv_isub hx hb dX12_net_17 ?_
    refine lv_topi (fun z5357 e5358 => ?_)
    try (have t5359 := tsub e5358 (a := z5354.toInt) rfl (b := 1) (by decide) (by omega))
    refine va_calli (va_runS (As := [.int p1, .int 0, .int z5357]) (rest := []) ⟨hx, hb, hml, hown, hwd⟩ (c_X12_in l dC dI g c adK adV v F rc H.size p1 0 z5357 hg hI ) (va_cwS 3 hwd (gT wk_254 wk_252 wk_253 wk_5) rfl rfl rfl (by decide +kernel) ⟨Nat.le_of_ble_eq_true rfl, Nat.le_of_ble_eq_true rfl⟩) ⟨PM.blind, fun U hU hW => ⟨rfl, PM.at hK hE hP hS hU hW⟩⟩ rfl rfl hl.1 rfl (lv_room (Nat.le_of_ble_eq_true rfl)) dX12_net_18 ⟨Nat.le_of_ble_eq_true rfl, Nat.le_of_ble_eq_true rfl⟩) hS (fun q _ h => (freeM hS) q h) (freeM hS) (fun r5360 u t H1 locs ht hvm hw hB hz1 hk1 hS => ?_)
    unfold BM at hB
    rw [ht] at hB
    have hP : va_P (dC, dI) classes (wM g c v F rc) H1 := hB
    have hw_r5360 : (r5360.toInt = 1 ∧ (0 : Int32).toInt ≤ p1.toInt ∧ p1.toInt ≤ z5357.toInt) ∨ (r5360.toInt = 0 ∧ (p1.toInt < (0 : Int32).toInt ∨ z5357.toInt < p1.toInt)) := hw
    clear hw
    have k5361 : (0 : Int32).toInt = 0 := by decide
    clear hz1
    generalize H1 = H at hP hS ⊢
    refine lv_if_eq (tgt := 35) hx hb dX12_net_21 (by decide) (fun c5362 => ?_) (fun c5362 => ?_)
    · skip
      have t5363 := cv_eq (a := r5360.toInt) rfl (b := 0) (by decide) c5362
      refine lv_ldc (v := (-2000000000)) hx hb hown (hwd _ wk_542) dX12_net_35 ?_
      have hP9 : va_P (dC, dI) classes (wM g c v F rc) H := hP
      exact W.iret (v := (-2000000000)) hx hb hr (fun t ht hW => ⟨⟨(-2000000000), (), rfl, (by unfold netF; rw [if_neg (by omega)]), (by show va_P _ _ _ t.heap; rw [ht]; exact hP9)⟩, hS.F ht⟩) hS.2.2 dX12_net_37
    · skip
      have t5364 := cv_ne (a := r5360.toInt) rfl (b := 0) (by decide) c5362
      refine lv_iload_n hx hb dX12_net_24 rfl (lv_at hl 3 rfl) ?_
      refine lv_iconst (v := 1) hx hb dX12_net_25 (by decide) ?_
      refine lv_sipush (v := 999) hx hb dX12_net_26 (by decide) ?_
      refine va_calli (va_runS (As := [.int p2, .int 1, .int 999]) (rest := []) ⟨hx, hb, hml, hown, hwd⟩ (c_X12_in l dC dI g c adK adV v F rc H.size p2 1 999 hg hI ) (va_cwS 3 hwd (gT wk_254 wk_252 wk_253 wk_5) rfl rfl rfl (by decide +kernel) ⟨Nat.le_of_ble_eq_true rfl, Nat.le_of_ble_eq_true rfl⟩) ⟨PM.blind, fun U hU hW => ⟨rfl, PM.at hK hE hP hS hU hW⟩⟩ rfl rfl hl.1 rfl (lv_room (Nat.le_of_ble_eq_true rfl)) dX12_net_29 ⟨Nat.le_of_ble_eq_true rfl, Nat.le_of_ble_eq_true rfl⟩) hS (fun q _ h => (freeM hS) q h) (freeM hS) (fun r5365 u t H1 locs ht hvm hw hB hz1 hk1 hS => ?_)
      unfold BM at hB
      rw [ht] at hB
      have hP : va_P (dC, dI) classes (wM g c v F rc) H1 := hB
      have hw_r5365 : (r5365.toInt = 1 ∧ (1 : Int32).toInt ≤ p2.toInt ∧ p2.toInt ≤ (999 : Int32).toInt) ∨ (r5365.toInt = 0 ∧ (p2.toInt < (1 : Int32).toInt ∨ (999 : Int32).toInt < p2.toInt)) := hw
      clear hw
      have k5366 : (1 : Int32).toInt = 1 := by decide
      have k5367 : (999 : Int32).toInt = 999 := by decide
      clear hz1
      generalize H1 = H at hP hS ⊢
      refine lv_if_ne (tgt := 38) hx hb dX12_net_32 (by decide) (fun c5368 => ?_) (fun c5368 => ?_)
      · skip
        have t5369 := cv_ne (a := r5365.toInt) rfl (b := 0) (by decide) c5368
        refine lv_iload_n hx hb dX12_net_38 rfl (lv_at hl 2 rfl) ?_
        refine lv_iconst (v := 1) hx hb dX12_net_39 (by decide) ?_
        refine lv_iadd hx hb dX12_net_40 ?_
        refine lv_topi (fun z5370 e5371 => ?_)
        try (have t5372 := tadd e5371 (a := p1.toInt) rfl (b := 1) (by decide) (by omega))
        refine lv_aload_n hx hb dX12_net_41 rfl (lv_at hl 0 rfl) ?_
        refine va_get (D := (dC, dI)) (ci := 12) (v := .ref (g 44)) (C := RX12) (T := TX12) (N := 63) hx hb hwd inA_X12 hown hK hP 0 rfl rfl 61 (by decide) (hwd _ wk_226) (fun _ h9 => h9) rfl dX12_net_42 ?_
        refine lv_iload_n hx hb dX12_net_45 rfl (lv_at hl 1 rfl) ?_
        refine va_iald hx hb hK hP 44 43 rfl rfl (i := p0) (vin (a := p0.toInt) rfl (by omega)) dX12_net_46 ?_
        refine lv_topi (fun z5373 e5374 => ?_)
        have t5375 : 0 ≤ z5373.toInt ∧ z5373.toInt ≤ 4 := by rw [e5374]; exact hI.2 44 _ _ rfl _
        have tzz5373 : z5373.toInt = (F 44 (p0 : Int32).toNatClampNeg).toInt := congrArg Int32.toInt e5374
        refine lv_icmp_ge (tgt := 65) hx hb dX12_net_47 (by decide) (fun c5376 => ?_) (fun c5376 => ?_)
        · skip
          have t5377 := cv_le (a := z5373.toInt) rfl (b := z5370.toInt) rfl c5376
          refine lv_iconst (v := 0) hx hb dX12_net_65 (by decide) ?_
          refine lv_istore (lv' := [(4, .int 0), (0, .ref (g 0)), (1, .int p0), (2, .int p1), (3, .int p2)]) hx hb dX12_net_66 hl (by decide) rfl (fun ls hl => ?_)
          refine lv_aload_n hx hb dX12_net_68 rfl (lv_at hl 1 rfl) ?_
          refine va_get (D := (dC, dI)) (ci := 12) (v := .ref (g 45)) (C := RX12) (T := TX12) (N := 63) hx hb hwd inA_X12 hown hK hP 0 rfl rfl 62 (by decide) (hwd _ wk_227) (fun _ h9 => h9) rfl dX12_net_69 ?_
          refine lv_iconst (v := 4) hx hb dX12_net_72 (by decide) ?_
          refine lv_iload_n hx hb dX12_net_73 rfl (lv_at hl 2 rfl) ?_
          refine lv_imul hx hb dX12_net_74 ?_
          refine lv_topi (fun z5378 e5379 => ?_)
          try (have t5380 := tmul e5379 (a := 4) (by decide) (b := p0.toInt) rfl (by omega))
          refine lv_iload_n hx hb dX12_net_75 rfl (lv_at hl 3 rfl) ?_
          refine lv_iadd hx hb dX12_net_76 ?_
          refine lv_topi (fun z5381 e5382 => ?_)
          try (have t5383 := tadd e5382 (a := z5378.toInt) rfl (b := p1.toInt) rfl (by omega))
          refine va_iald hx hb hK hP 45 44 rfl rfl (i := z5381) (vin (a := z5381.toInt) rfl (by omega)) dX12_net_77 ?_
          refine lv_topi (fun z5384 e5385 => ?_)
          have tzz5384 : z5384.toInt = (F 45 (z5381 : Int32).toNatClampNeg).toInt := congrArg Int32.toInt e5385
          refine lv_iload hx hb dX12_net_78 (lv_at hl 0 rfl) ?_
          refine lv_isub hx hb dX12_net_80 ?_
          refine lv_topi (fun z5386 e5387 => ?_)
          try (have t5388 := tsub e5387 (a := z5384.toInt) rfl (b := 0) (by decide) (by omega))
          refine lv_iload_n hx hb dX12_net_81 rfl (lv_at hl 4 rfl) ?_
          refine lv_imul hx hb dX12_net_82 ?_
          refine lv_topi (fun z5389 e5390 => ?_)
          try (have t5391 := tmul e5390 (a := z5386.toInt) rfl (b := p2.toInt) rfl (by omega))
          have hP9 : va_P (dC, dI) classes (wM g c v F rc) H := hP
          exact W.iret (v := z5389) hx hb hr (fun t ht hW => ⟨⟨z5389, (), rfl, (by have b9 : lrF (F 44) (F 45) p0 p1 = z5384 := lr_in (by omega) e5385 (by omega); have e1 : (p1 + 1).toInt = p1.toInt + 1 := tadd rfl rfl (b := 1) (by decide) (by omega); have n9 : lrF (F 44) (F 45) p0 (p1 + 1) = 0 := lr_out (by omega); unfold netF; rw [if_pos (by omega), b9, n9, e5390, e5387]), (by show va_P _ _ _ t.heap; rw [ht]; exact hP9)⟩, hS.F ht⟩) hS.2.2 dX12_net_83
        · skip
          have t5392 := cv_nle (a := z5373.toInt) rfl (b := z5370.toInt) rfl c5376
          refine lv_aload_n hx hb dX12_net_50 rfl (lv_at hl 0 rfl) ?_
          refine va_get (D := (dC, dI)) (ci := 12) (v := .ref (g 45)) (C := RX12) (T := TX12) (N := 63) hx hb hwd inA_X12 hown hK hP 0 rfl rfl 62 (by decide) (hwd _ wk_227) (fun _ h9 => h9) rfl dX12_net_51 ?_
          refine lv_iconst (v := 4) hx hb dX12_net_54 (by decide) ?_
          refine lv_iload_n hx hb dX12_net_55 rfl (lv_at hl 1 rfl) ?_
          refine lv_imul hx hb dX12_net_56 ?_
          refine lv_topi (fun z5393 e5394 => ?_)
          try (have t5395 := tmul e5394 (a := 4) (by decide) (b := p0.toInt) rfl (by omega))
          refine lv_iload_n hx hb dX12_net_57 rfl (lv_at hl 2 rfl) ?_
          refine lv_iadd hx hb dX12_net_58 ?_
          refine lv_topi (fun z5396 e5397 => ?_)
          try (have t5398 := tadd e5397 (a := z5393.toInt) rfl (b := p1.toInt) rfl (by omega))
          refine lv_iconst (v := 1) hx hb dX12_net_59 (by decide) ?_
          refine lv_iadd hx hb dX12_net_60 ?_
          refine lv_topi (fun z5399 e5400 => ?_)
          try (have t5401 := tadd e5400 (a := z5396.toInt) rfl (b := 1) (by decide) (by omega))
          refine va_iald hx hb hK hP 45 44 rfl rfl (i := z5399) (vin (a := z5399.toInt) rfl (by omega)) dX12_net_61 ?_
          refine lv_topi (fun z5402 e5403 => ?_)
          have tzz5402 : z5402.toInt = (F 45 (z5399 : Int32).toNatClampNeg).toInt := congrArg Int32.toInt e5403
          refine lv_goto (tgt := 66) hx hb dX12_net_62 (by decide) ?_
          refine lv_istore (lv' := [(4, .int z5402), (0, .ref (g 0)), (1, .int p0), (2, .int p1), (3, .int p2)]) hx hb dX12_net_66 hl (by decide) rfl (fun ls hl => ?_)
          refine lv_aload_n hx hb dX12_net_68 rfl (lv_at hl 1 rfl) ?_
          refine va_get (D := (dC, dI)) (ci := 12) (v := .ref (g 45)) (C := RX12) (T := TX12) (N := 63) hx hb hwd inA_X12 hown hK hP 0 rfl rfl 62 (by decide) (hwd _ wk_227) (fun _ h9 => h9) rfl dX12_net_69 ?_
          refine lv_iconst (v := 4) hx hb dX12_net_72 (by decide) ?_
          refine lv_iload_n hx hb dX12_net_73 rfl (lv_at hl 2 rfl) ?_
          refine lv_imul hx hb dX12_net_74 ?_
          refine lv_topi (fun z5404 e5405 => ?_)
          try (have t5406 := tmul e5405 (a := 4) (by decide) (b := p0.toInt) rfl (by omega))
          refine lv_iload_n hx hb dX12_net_75 rfl (lv_at hl 3 rfl) ?_
          refine lv_iadd hx hb dX12_net_76 ?_
          refine lv_topi (fun z5407 e5408 => ?_)
          try (have t5409 := tadd e5408 (a := z5404.toInt) rfl (b := p1.toInt) rfl (by omega))
          refine va_iald hx hb hK hP 45 44 rfl rfl (i := z5407) (vin (a := z5407.toInt) rfl (by omega)) dX12_net_77 ?_
          refine lv_topi (fun z5410 e5411 => ?_)
          have tzz5410 : z5410.toInt = (F 45 (z5407 : Int32).toNatClampNeg).toInt := congrArg Int32.toInt e5411
          refine lv_iload hx hb dX12_net_78 (lv_at hl 0 rfl) ?_
          refine lv_isub hx hb dX12_net_80 ?_
          refine lv_topi (fun z5412 e5413 => ?_)
          try (have t5414 := tsub e5413 (a := z5410.toInt) rfl (b := z5402.toInt) rfl (by omega))
          refine lv_iload_n hx hb dX12_net_81 rfl (lv_at hl 4 rfl) ?_
          refine lv_imul hx hb dX12_net_82 ?_
          refine lv_topi (fun z5415 e5416 => ?_)
          try (have t5417 := tmul e5416 (a := z5412.toInt) rfl (b := p2.toInt) rfl (by omega))
          have hP9 : va_P (dC, dI) classes (wM g c v F rc) H := hP
          exact W.iret (v := z5415) hx hb hr (fun t ht hW => ⟨⟨z5415, (), rfl, (by have b9 : lrF (F 44) (F 45) p0 p1 = z5410 := lr_in (by omega) e5411 (by omega); have e1 : (p1 + 1).toInt = p1.toInt + 1 := tadd rfl rfl (b := 1) (by decide) (by omega); have n9 : lrF (F 44) (F 45) p0 (p1 + 1) = z5402 := lr_in (by omega) e5403 (by omega); unfold netF; rw [if_pos (by omega), b9, n9, e5416, e5413]), (by show va_P _ _ _ t.heap; rw [ht]; exact hP9)⟩, hS.F ht⟩) hS.2.2 dX12_net_83
      · skip
        have t5418 := cv_eq (a := r5365.toInt) rfl (b := 0) (by decide) c5368
        refine lv_ldc (v := (-2000000000)) hx hb hown (hwd _ wk_542) dX12_net_35 ?_
        have hP9 : va_P (dC, dI) classes (wM g c v F rc) H := hP
        exact W.iret (v := (-2000000000)) hx hb hr (fun t ht hW => ⟨⟨(-2000000000), (), rfl, (by unfold netF; rw [if_neg (by omega)]), (by show va_P _ _ _ t.heap; rw [ht]; exact hP9)⟩, hS.F ht⟩) hS.2.2 dX12_net_37
set_option maxHeartbeats 8000000 in
set_option maxRecDepth 100000 in
theorem c_X12_bestCost (l : Launch) (dC : Nat → ClassId) (dI : Nat → Nat → Nat) (g : Nat → Nat) (c : Nat → ClassId) (adK adV : Nat → Nat) (v : Nat → Int32) (F : Nat → Nat → Int32) (rc sz : Nat) (hg : injM g) (hI : IM v F) : Met l yX12_bestCost (Cond.code yX12_bestCost cX12_bestCost 1 (some .int) :: wA) ({ frames := 1, cells := 0, slots := 0, locals := 40 }) (va_Pc [.ref (g 0)] (PM dC dI g c adK adV v F rc sz)) (va_Qi (fun (r : Int32) (u : Unit) => True) (fun (_ : Unit) => BM dC dI g c (v, F, rc)) (AM g sz)) 0 0 (AM g sz) := by
  refine Met.ofW (cc := cX12_bestCost) (maxL := 1) (ret := (some .int)) (by decide) rfl ?_
  intro p e s m args below meth c0 s₁ B hml hv
  obtain ⟨rfl, hsz, hP, hK, hE⟩ := hv
  have hx := B.exec
  have hb := B.bytes
  have hr := B.returns
  have hts := atoms_spec (ws := Cond.code yX12_bestCost cX12_bestCost 1 (some .int) :: wA) B.pre
  have hwd : ∀ w ∈ wA, w.before _ s = true := fun w h => hts w (List.mem_cons_of_mem _ h)
  have hown : s.vm.findClass RX12 = some m.cls := findClass_of_methodNamed B.named
  have hlocks := B.notSynchronized
  subst hsz
  have hl := lv_entry ([.ref (g 0)]) (n := 1) (Nat.le_of_ble_eq_true rfl)
  rw [lg_entry_eq]
  generalize (lg_sl ([.ref (g 0)]) ++ List.replicate (1 - (lg_sl ([.ref (g 0)])).length) Slot.unset).toArray = ls at hl ⊢
  have hl : lv_has ls 1 [(0, .ref (g 0))] := hl
  obtain ⟨H, eH⟩ : ∃ z, z = s.heap := ⟨_, rfl⟩
  have hP : va_P (dC, dI) classes (wM g c v F rc) H := by rw [eH]; exact hP
  have hS : va_S (AM g s.heap.size) s.heap H [] := by rw [eH]; exact va_S.rf
  refine my_heap eH ?_
  refine lv_aload_n hx hb dX12_bestCost_0 rfl (lv_at hl 0 rfl) ?_
  refine va_get (D := (dC, dI)) (ci := 12) (v := .int (v 57)) (C := RX12) (T := TX12) (N := 63) hx hb hwd inA_X12 hown hK hP 0 rfl rfl 57 (by decide) (hwd _ wk_1304) (fun _ h9 => h9) rfl dX12_bestCost_1 ?_
  refine lv_if_eq (tgt := 14) hx hb dX12_bestCost_4 (by decide) (fun c5419 => ?_) (fun c5419 => ?_)
  · skip
    have t5420 := cv_eq (a := (v 57).toInt) rfl (b := 0) (by decide) c5419
    refine lv_ldc (v := (-2000000000)) hx hb hown (hwd _ wk_542) dX12_bestCost_14 ?_
    have hP9 : va_P (dC, dI) classes (wM g c v F rc) H := hP
    exact W.iret (v := (-2000000000)) hx hb hr (fun t ht hW => ⟨⟨(-2000000000), (), rfl, trivial, (by show va_P _ _ _ t.heap; rw [ht]; exact hP9)⟩, hS.F ht⟩) hS.2.2 dX12_bestCost_16
  · skip
    have t5421 := cv_ne (a := (v 57).toInt) rfl (b := 0) (by decide) c5419
    refine lv_aload_n hx hb dX12_bestCost_7 rfl (lv_at hl 0 rfl) ?_
    refine va_get (D := (dC, dI)) (ci := 12) (v := .int (v 58)) (C := RX12) (T := TX12) (N := 63) hx hb hwd inA_X12 hown hK hP 0 rfl rfl 58 (by decide) (hwd _ wk_1305) (fun _ h9 => h9) rfl dX12_bestCost_8 ?_
    refine lv_goto (tgt := 16) hx hb dX12_bestCost_11 (by decide) ?_
    have hP9 : va_P (dC, dI) classes (wM g c v F rc) H := hP
    exact W.iret (v := v 58) hx hb hr (fun t ht hW => ⟨⟨(v 58), (), rfl, trivial, (by show va_P _ _ _ t.heap; rw [ht]; exact hP9)⟩, hS.F ht⟩) hS.2.2 dX12_bestCost_16
