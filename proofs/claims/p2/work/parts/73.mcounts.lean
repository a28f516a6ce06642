set_option maxHeartbeats 8000000 in
set_option maxRecDepth 100000 in
theorem c_X12_kind (l : Launch) (dC : Nat → ClassId) (dI : Nat → Nat → Nat) (g : Nat → Nat) (c : Nat → ClassId) (adK adV : Nat → Nat) (v : Nat → Int32) (F : Nat → Nat → Int32) (rc sz : Nat) (p0 : Int32) (p1 : Int32) (p2 : Int32) (p3 : Int32) (hg : injM g) (hI : IM v F) : Met l yX12_kind (Cond.code yX12_kind cX12_kind 5 (some .int) :: wA) ({ frames := 2, cells := 0, slots := 0, locals := 80 }) (va_Pc [.ref (g 0), .int p0, .int p1, .int p2, .int p3] (PM dC dI g c adK adV v F rc sz)) (va_Qi (fun (r : Int32) (u : StM) => IM u.1 u.2.1 ∧ u.2.2 = rc ∧ (∀ k, k ∉ ([2] : List Nat) → u.1 k = v k) ∧ (∀ k, k ∉ ([1, 2, 3] : List Nat) → u.2.1 k = F k) ∧ ((¬ ((0 ≤ p0.toInt ∧ p0.toInt ≤ 99999) ∧ (0 ≤ p1.toInt ∧ p1.toInt ≤ 99999) ∧ (0 ≤ p2.toInt ∧ p2.toInt ≤ 99999) ∧ (0 ≤ p3.toInt ∧ p3.toInt ≤ 999999)) ∧ r.toInt = -1 ∧ (u.1 2).toInt = (v 2).toInt) ∨ (((0 ≤ p0.toInt ∧ p0.toInt ≤ 99999) ∧ (0 ≤ p1.toInt ∧ p1.toInt ≤ 99999) ∧ (0 ≤ p2.toInt ∧ p2.toInt ≤ 99999) ∧ (0 ≤ p3.toInt ∧ p3.toInt ≤ 999999)) ∧ (v 2).toInt = 10 ∧ r.toInt = -3 ∧ (u.1 2).toInt = (v 2).toInt) ∨ (((0 ≤ p0.toInt ∧ p0.toInt ≤ 99999) ∧ (0 ≤ p1.toInt ∧ p1.toInt ≤ 99999) ∧ (0 ≤ p2.toInt ∧ p2.toInt ≤ 99999) ∧ (0 ≤ p3.toInt ∧ p3.toInt ≤ 999999)) ∧ (v 2).toInt < 10 ∧ r.toInt = (v 2).toInt ∧ (u.1 2).toInt = (v 2).toInt + 1))) (BM dC dI g c) (AM g sz)) 0 0 (AM g sz) := by
  refine Met.ofW (cc := cX12_kind) (maxL := 5) (ret := (some .int)) (by decide) rfl ?_
  intro p e s m args below meth c0 s₁ B hml hv
  obtain ⟨rfl, hsz, hP, hK, hE⟩ := hv
  have hx := B.exec
  have hb := B.bytes
  have hr := B.returns
  have hts := atoms_spec (ws := Cond.code yX12_kind cX12_kind 5 (some .int) :: wA) B.pre
  have hwd : ∀ w ∈ wA, w.before _ s = true := fun w h => hts w (List.mem_cons_of_mem _ h)
  have hown : s.vm.findClass RX12 = some m.cls := findClass_of_methodNamed B.named
  have hlocks := B.notSynchronized
  subst hsz
  have hl := lv_entry ([.ref (g 0), .int p0, .int p1, .int p2, .int p3]) (n := 5) (Nat.le_of_ble_eq_true rfl)
  rw [lg_entry_eq]
  generalize (lg_sl ([.ref (g 0), .int p0, .int p1, .int p2, .int p3]) ++ List.replicate (5 - (lg_sl ([.ref (g 0), .int p0, .int p1, .int p2, .int p3])).length) Slot.unset).toArray = ls at hl ⊢
  have hl : lv_has ls 5 [(0, .ref (g 0)), (1, .int p0), (2, .int p1), (3, .int p2), (4, .int p3)] := hl
  obtain ⟨H, eH⟩ : ∃ z, z = s.heap := ⟨_, rfl⟩
  have hP : va_P (dC, dI) classes (wM g c v F rc) H := by rw [eH]; exact hP
  have hS : va_S (AM g s.heap.size) s.heap H [] := by rw [eH]; exact va_S.rf
  refine my_heap eH ?_
  have hF : ∀ k, k ∉ ([1, 2, 3] : List Nat) → F k = F k := fun _ _ => rfl
  have rp0 := i32_rng p0
  have rp1 := i32_rng p1
  have rp2 := i32_rng p2
  have rp3 := i32_rng p3
  refine lv_iload_n hx hb dX12_kind_0 rfl (lv_at hl 1 rfl) ?_
  refine lv_iconst (v := 0) hx hb dX12_kind_1 (by decide) ?_
  refine lv_ldc (v := 99999) hx hb hown (hwd _ wk_249) dX12_kind_2 ?_
  refine va_calli (va_runS (As := [.int p0, .int 0, .int 99999]) (rest := []) ⟨hx, hb, hml, hown, hwd⟩ (c_X12_in l dC dI g c adK adV v F rc H.size p0 0 99999 hg hI ) (va_cwS 3 hwd (gT wk_254 wk_252 wk_253 wk_5) rfl rfl rfl (by decide +kernel) ⟨Nat.le_of_ble_eq_true rfl, Nat.le_of_ble_eq_true rfl⟩) ⟨PM.blind, fun U hU hW => ⟨rfl, PM.at hK hE hP hS hU hW⟩⟩ rfl rfl hl.1 rfl (lv_room (Nat.le_of_ble_eq_true rfl)) dX12_kind_4 ⟨Nat.le_of_ble_eq_true rfl, Nat.le_of_ble_eq_true rfl⟩) hS (fun q _ h => (freeM hS) q h) (freeM hS) (fun r7248 u t H1 locs ht hvm hw hB hz1 hk1 hS => ?_)
  unfold BM at hB
  rw [ht] at hB
  have hP : va_P (dC, dI) classes (wM g c v F rc) H1 := hB
  have hw_r7248 : (r7248.toInt = 1 ∧ (0 : Int32).toInt ≤ p0.toInt ∧ p0.toInt ≤ (99999 : Int32).toInt) ∨ (r7248.toInt = 0 ∧ (p0.toInt < (0 : Int32).toInt ∨ (99999 : Int32).toInt < p0.toInt)) := hw
  clear hw
  have k7249 : (0 : Int32).toInt = 0 := by decide
  have k7250 : (99999 : Int32).toInt = 99999 := by decide
  clear hz1
  generalize H1 = H at hP hS ⊢
  refine lv_if_eq (tgt := 41) hx hb dX12_kind_7 (by decide) (fun c7251 => ?_) (fun c7251 => ?_)
  · skip
    have t7252 := cv_eq (a := r7248.toInt) rfl (b := 0) (by decide) c7251
    refine lv_iconst (v := (-1)) hx hb dX12_kind_41 (by decide) ?_
    have hP9 : va_P (dC, dI) classes (wM g c v F rc) H := hP
    exact W.iret (v := (-1)) hx hb hr (fun t ht hW => ⟨⟨(-1), (v, F, rc), rfl, ⟨hI, rfl, (fun _ _ => rfl), hF, (by show (¬ ((0 ≤ p0.toInt ∧ p0.toInt ≤ 99999) ∧ (0 ≤ p1.toInt ∧ p1.toInt ≤ 99999) ∧ (0 ≤ p2.toInt ∧ p2.toInt ≤ 99999) ∧ (0 ≤ p3.toInt ∧ p3.toInt ≤ 999999)) ∧ ((-1) : Int32).toInt = -1 ∧ (v 2).toInt = (v 2).toInt) ∨ (((0 ≤ p0.toInt ∧ p0.toInt ≤ 99999) ∧ (0 ≤ p1.toInt ∧ p1.toInt ≤ 99999) ∧ (0 ≤ p2.toInt ∧ p2.toInt ≤ 99999) ∧ (0 ≤ p3.toInt ∧ p3.toInt ≤ 999999)) ∧ (v 2).toInt = 10 ∧ ((-1) : Int32).toInt = -3 ∧ (v 2).toInt = (v 2).toInt) ∨ (((0 ≤ p0.toInt ∧ p0.toInt ≤ 99999) ∧ (0 ≤ p1.toInt ∧ p1.toInt ≤ 99999) ∧ (0 ≤ p2.toInt ∧ p2.toInt ≤ 99999) ∧ (0 ≤ p3.toInt ∧ p3.toInt ≤ 999999)) ∧ (v 2).toInt < 10 ∧ ((-1) : Int32).toInt = (v 2).toInt ∧ (v 2).toInt = (v 2).toInt + 1); have : ((-1) : Int32).toInt = (-1) := (by decide); omega)⟩, (by show va_P _ _ _ t.heap; rw [ht]; exact hP9)⟩, hS.F ht⟩) hS.2.2 dX12_kind_42
  · skip
    have t7253 := cv_ne (a := r7248.toInt) rfl (b := 0) (by decide) c7251
    refine lv_iload_n hx hb dX12_kind_10 rfl (lv_at hl 2 rfl) ?_
    refine lv_iconst (v := 0) hx hb dX12_kind_11 (by decide) ?_
    refine lv_ldc (v := 99999) hx hb hown (hwd _ wk_249) dX12_kind_12 ?_
    refine va_calli (va_runS (As := [.int p1, .int 0, .int 99999]) (rest := []) ⟨hx, hb, hml, hown, hwd⟩ (c_X12_in l dC dI g c adK adV v F rc H.size p1 0 99999 hg hI ) (va_cwS 3 hwd (gT wk_254 wk_252 wk_253 wk_5) rfl rfl rfl (by decide +kernel) ⟨Nat.le_of_ble_eq_true rfl, Nat.le_of_ble_eq_true rfl⟩) ⟨PM.blind, fun U hU hW => ⟨rfl, PM.at hK hE hP hS hU hW⟩⟩ rfl rfl hl.1 rfl (lv_room (Nat.le_of_ble_eq_true rfl)) dX12_kind_14 ⟨Nat.le_of_ble_eq_true rfl, Nat.le_of_ble_eq_true rfl⟩) hS (fun q _ h => (freeM hS) q h) (freeM hS) (fun r7254 u t H1 locs ht hvm hw hB hz1 hk1 hS => ?_)
    unfold BM at hB
    rw [ht] at hB
    have hP : va_P (dC, dI) classes (wM g c v F rc) H1 := hB
    have hw_r7254 : (r7254.toInt = 1 ∧ (0 : Int32).toInt ≤ p1.toInt ∧ p1.toInt ≤ (99999 : Int32).toInt) ∨ (r7254.toInt = 0 ∧ (p1.toInt < (0 : Int32).toInt ∨ (99999 : Int32).toInt < p1.toInt)) := hw
    clear hw
    have k7255 : (0 : Int32).toInt = 0 := by decide
    have k7256 : (99999 : Int32).toInt = 99999 := by decide
    clear hz1
    generalize H1 = H at hP hS ⊢
    refine lv_if_eq (tgt := 41) hx hb dX12_kind_17 (by decide) (fun c7257 => ?_) (fun c7257 => ?_)
    · skip
      have t7258 := cv_eq (a := r7254.toInt) rfl (b := 0) (by decide) c7257
      refine lv_iconst (v := (-1)) hx hb dX12_kind_41 (by decide) ?_
      have hP9 : va_P (dC, dI) classes (wM g c v F rc) H := hP
      exact W.iret (v := (-1)) hx hb hr (fun t ht hW => ⟨⟨(-1), (v, F, rc), rfl, ⟨hI, rfl, (fun _ _ => rfl), hF, (by show (¬ ((0 ≤ p0.toInt ∧ p0.toInt ≤ 99999) ∧ (0 ≤ p1.toInt ∧ p1.toInt ≤ 99999) ∧ (0 ≤ p2.toInt ∧ p2.toInt ≤ 99999) ∧ (0 ≤ p3.toInt ∧ p3.toInt ≤ 999999)) ∧ ((-1) : Int32).toInt = -1 ∧ (v 2).toInt = (v 2).toInt) ∨ (((0 ≤ p0.toInt ∧ p0.toInt ≤ 99999) ∧ (0 ≤ p1.toInt ∧ p1.toInt ≤ 99999) ∧ (0 ≤ p2.toInt ∧ p2.toInt ≤ 99999) ∧ (0 ≤ p3.toInt ∧ p3.toInt ≤ 999999)) ∧ (v 2).toInt = 10 ∧ ((-1) : Int32).toInt = -3 ∧ (v 2).toInt = (v 2).toInt) ∨ (((0 ≤ p0.toInt ∧ p0.toInt ≤ 99999) ∧ (0 ≤ p1.toInt ∧ p1.toInt ≤ 99999) ∧ (0 ≤ p2.toInt ∧ p2.toInt ≤ 99999) ∧ (0 ≤ p3.toInt ∧ p3.toInt ≤ 999999)) ∧ (v 2).toInt < 10 ∧ ((-1) : Int32).toInt = (v 2).toInt ∧ (v 2).toInt = (v 2).toInt + 1); have : ((-1) : Int32).toInt = (-1) := (by decide); omega)⟩, (by show va_P _ _ _ t.heap; rw [ht]; exact hP9)⟩, hS.F ht⟩) hS.2.2 dX12_kind_42
    · skip
      have t7259 := cv_ne (a := r7254.toInt) rfl (b := 0) (by decide) c7257
      refine lv_iload_n hx hb dX12_kind_20 rfl (lv_at hl 3 rfl) ?_
      refine lv_iconst (v := 0) hx hb dX12_kind_21 (by decide) ?_
      refine lv_ldc (v := 99999) hx hb hown (hwd _ wk_249) dX12_kind_22 ?_
      refine va_calli (va_runS (As := [.int p2, .int 0, .int 99999]) (rest := []) ⟨hx, hb, hml, hown, hwd⟩ (c_X12_in l dC dI g c adK adV v F rc H.size p2 0 99999 hg hI ) (va_cwS 3 hwd (gT wk_254 wk_252 wk_253 wk_5) rfl rfl rfl (by decide +kernel) ⟨Nat.le_of_ble_eq_true rfl, Nat.le_of_ble_eq_true rfl⟩) ⟨PM.blind, fun U hU hW => ⟨rfl, PM.at hK hE hP hS hU hW⟩⟩ rfl rfl hl.1 rfl (lv_room (Nat.le_of_ble_eq_true rfl)) dX12_kind_24 ⟨Nat.le_of_ble_eq_true rfl, Nat.le_of_ble_eq_true rfl⟩) hS (fun q _ h => (freeM hS) q h) (freeM hS) (fun r7260 u t H1 locs ht hvm hw hB hz1 hk1 hS => ?_)
      unfold BM at hB
      rw [ht] at hB
      have hP : va_P (dC, dI) classes (wM g c v F rc) H1 := hB
      have hw_r7260 : (r7260.toInt = 1 ∧ (0 : Int32).toInt ≤ p2.toInt ∧ p2.toInt ≤ (99999 : Int32).toInt) ∨ (r7260.toInt = 0 ∧ (p2.toInt < (0 : Int32).toInt ∨ (99999 : Int32).toInt < p2.toInt)) := hw
      clear hw
      have k7261 : (0 : Int32).toInt = 0 := by decide
      have k7262 : (99999 : Int32).toInt = 99999 := by decide
      clear hz1
      generalize H1 = H at hP hS ⊢
      refine lv_if_eq (tgt := 41) hx hb dX12_kind_27 (by decide) (fun c7263 => ?_) (fun c7263 => ?_)
      · skip
        have t7264 := cv_eq (a := r7260.toInt) rfl (b := 0) (by decide) c7263
        refine lv_iconst (v := (-1)) hx hb dX12_kind_41 (by decide) ?_
        have hP9 : va_P (dC, dI) classes (wM g c v F rc) H := hP
        exact W.iret (v := (-1)) hx hb hr (fun t ht hW => ⟨⟨(-1), (v, F, rc), rfl, ⟨hI, rfl, (fun _ _ => rfl), hF, (by show (¬ ((0 ≤ p0.toInt ∧ p0.toInt ≤ 99999) ∧ (0 ≤ p1.toInt ∧ p1.toInt ≤ 99999) ∧ (0 ≤ p2.toInt ∧ p2.toInt ≤ 99999) ∧ (0 ≤ p3.toInt ∧ p3.toInt ≤ 999999)) ∧ ((-1) : Int32).toInt = -1 ∧ (v 2).toInt = (v 2).toInt) ∨ (((0 ≤ p0.toInt ∧ p0.toInt ≤ 99999) ∧ (0 ≤ p1.toInt ∧ p1.toInt ≤ 99999) ∧ (0 ≤ p2.toInt ∧ p2.toInt ≤ 99999) ∧ (0 ≤ p3.toInt ∧ p3.toInt ≤ 999999)) ∧ (v 2).toInt = 10 ∧ ((-1) : Int32).toInt = -3 ∧ (v 2).toInt = (v 2).toInt) ∨ (((0 ≤ p0.toInt ∧ p0.toInt ≤ 99999) ∧ (0 ≤ p1.toInt ∧ p1.toInt ≤ 99999) ∧ (0 ≤ p2.toInt ∧ p2.toInt ≤ 99999) ∧ (0 ≤ p3.toInt ∧ p3.toInt ≤ 999999)) ∧ (v 2).toInt < 10 ∧ ((-1) : Int32).toInt = (v 2).toInt ∧ (v 2).toInt = (v 2).toInt + 1); have : ((-1) : Int32).toInt = (-1) := (by decide); omega)⟩, (by show va_P _ _ _ t.heap; rw [ht]; exact hP9)⟩, hS.F ht⟩) hS.2.2 dX12_kind_42
      · skip
        have t7265 := cv_ne (a := r7260.toInt) rfl (b := 0) (by decide) c7263
        refine lv_iload hx hb dX12_kind_30 (lv_at hl 4 rfl) ?_
        refine lv_iconst (v := 0) hx hb dX12_kind_32 (by decide) ?_
        refine lv_ldc (v := 999999) hx hb hown (hwd _ wk_250) dX12_kind_33 ?_
        refine va_calli (va_runS (As := [.int p3, .int 0, .int 999999]) (rest := []) ⟨hx, hb, hml, hown, hwd⟩ (c_X12_in l dC dI g c adK adV v F rc H.size p3 0 999999 hg hI ) (va_cwS 3 hwd (gT wk_254 wk_252 wk_253 wk_5) rfl rfl rfl (by decide +kernel) ⟨Nat.le_of_ble_eq_true rfl, Nat.le_of_ble_eq_true rfl⟩) ⟨PM.blind, fun U hU hW => ⟨rfl, PM.at hK hE hP hS hU hW⟩⟩ rfl rfl hl.1 rfl (lv_room (Nat.le_of_ble_eq_true rfl)) dX12_kind_35 ⟨Nat.le_of_ble_eq_true rfl, Nat.le_of_ble_eq_true rfl⟩) hS (fun q _ h => (freeM hS) q h) (freeM hS) (fun r7266 u t H1 locs ht hvm hw hB hz1 hk1 hS => ?_)
        unfold BM at hB
        rw [ht] at hB
        have hP : va_P (dC, dI) classes (wM g c v F rc) H1 := hB
        have hw_r7266 : (r7266.toInt = 1 ∧ (0 : Int32).toInt ≤ p3.toInt ∧ p3.toInt ≤ (999999 : Int32).toInt) ∨ (r7266.toInt = 0 ∧ (p3.toInt < (0 : Int32).toInt ∨ (999999 : Int32).toInt < p3.toInt)) := hw
        clear hw
        have k7267 : (0 : Int32).toInt = 0 := by decide
        have k7268 : (999999 : Int32).toInt = 999999 := by decide
        clear hz1
        generalize H1 = H at hP hS ⊢
        refine lv_if_ne (tgt := 43) hx hb dX12_kind_38 (by decide) (fun c7269 => ?_) (fun c7269 => ?_)
        · skip
          have t7270 := cv_ne (a := r7266.toInt) rfl (b := 0) (by decide) c7269
          refine lv_aload_n hx hb dX12_kind_43 rfl (lv_at hl 0 rfl) ?_
          refine va_get (D := (dC, dI)) (ci := 12) (v := .int (v 2)) (C := RX12) (T := TX12) (N := 63) hx hb hwd inA_X12 hown hK hP 0 rfl rfl 2 (by decide) (hwd _ wk_251) (fun _ h9 => h9) rfl dX12_kind_44 ?_
          have t7271 : 0 ≤ (v 2).toInt ∧ (v 2).toInt ≤ 10 := hI.1 2 _ _ rfl
          refine lv_bipush (v := 10) hx hb dX12_kind_47 (by decide) ?_
          refine lv_icmp_ne (tgt := 55) hx hb dX12_kind_49 (by decide) (fun c7272 => ?_) (fun c7272 => ?_)
          · skip
            have t7273 := cv_ne (a := (v 2).toInt) rfl (b := 10) (by decide) c7272
            refine lv_aload_n hx hb dX12_kind_55 rfl (lv_at hl 0 rfl) ?_
            refine va_get (D := (dC, dI)) (ci := 12) (v := .ref (g 1)) (C := RX12) (T := TX12) (N := 63) hx hb hwd inA_X12 hown hK hP 0 rfl rfl 3 (by decide) (hwd _ wk_182) (fun _ h9 => h9) rfl dX12_kind_56 ?_
            refine lv_iconst (v := 3) hx hb dX12_kind_59 (by decide) ?_
            refine lv_aload_n hx hb dX12_kind_60 rfl (lv_at hl 0 rfl) ?_
            refine va_get (D := (dC, dI)) (ci := 12) (v := .int (v 2)) (C := RX12) (T := TX12) (N := 63) hx hb hwd inA_X12 hown hK hP 0 rfl rfl 2 (by decide) (hwd _ wk_251) (fun _ h9 => h9) rfl dX12_kind_61 ?_
            have t7274 : 0 ≤ (v 2).toInt ∧ (v 2).toInt ≤ 10 := hI.1 2 _ _ rfl
            refine lv_imul hx hb dX12_kind_64 ?_
            refine lv_topi (fun z7275 e7276 => ?_)
            try (have t7277 := tmul e7276 (a := 3) (by decide) (b := (v 2).toInt) rfl (by omega))
            refine lv_iload_n hx hb dX12_kind_65 rfl (lv_at hl 1 rfl) ?_
            refine va_iast hx hb hK hP (DM hg) hS 1 0 rfl rfl (i := z7275) (x := p0) (vin (a := z7275.toInt) rfl (by omega)) dX12_kind_66 (fun H locs hP _ hS => ?_)
            have hP := va_P_eq (sM_1 g c _ _ _ _) hP
            have hI := IM.store0 hI 1 (z7275 : Int32).toNatClampNeg p0 rfl
            have hF := frUF (k := 1) (f := upd (F 1) (z7275 : Int32).toNatClampNeg p0) (by decide) hF
            have hP : va_P (dC, dI) classes (wM g c v (va_up F 1 (upd (F 1) (z7275 : Int32).toNatClampNeg p0)) rc) H := hP
            generalize (va_up F 1 (upd (F 1) (z7275 : Int32).toNatClampNeg p0)) = F7278 at hP hI hF
            refine lv_aload_n hx hb dX12_kind_67 rfl (lv_at hl 0 rfl) ?_
            refine va_get (D := (dC, dI)) (ci := 12) (v := .ref (g 1)) (C := RX12) (T := TX12) (N := 63) hx hb hwd inA_X12 hown hK hP 0 rfl rfl 3 (by decide) (hwd _ wk_182) (fun _ h9 => h9) rfl dX12_kind_68 ?_
            refine lv_iconst (v := 3) hx hb dX12_kind_71 (by decide) ?_
            refine lv_aload_n hx hb dX12_kind_72 rfl (lv_at hl 0 rfl) ?_
            refine va_get (D := (dC, dI)) (ci := 12) (v := .int (v 2)) (C := RX12) (T := TX12) (N := 63) hx hb hwd inA_X12 hown hK hP 0 rfl rfl 2 (by decide) (hwd _ wk_251) (fun _ h9 => h9) rfl dX12_kind_73 ?_
            have t7279 : 0 ≤ (v 2).toInt ∧ (v 2).toInt ≤ 10 := hI.1 2 _ _ rfl
            refine lv_imul hx hb dX12_kind_76 ?_
            refine lv_topi (fun z7280 e7281 => ?_)
            try (have t7282 := tmul e7281 (a := 3) (by decide) (b := (v 2).toInt) rfl (by omega))
            refine lv_iconst (v := 1) hx hb dX12_kind_77 (by decide) ?_
            refine lv_iadd hx hb dX12_kind_78 ?_
            refine lv_topi (fun z7283 e7284 => ?_)
            try (have t7285 := tadd e7284 (a := z7280.toInt) rfl (b := 1) (by decide) (by omega))
            refine lv_iload_n hx hb dX12_kind_79 rfl (lv_at hl 2 rfl) ?_
            refine va_iast hx hb hK hP (DM hg) hS 1 0 rfl rfl (i := z7283) (x := p1) (vin (a := z7283.toInt) rfl (by omega)) dX12_kind_80 (fun H locs hP _ hS => ?_)
            have hP := va_P_eq (sM_1 g c _ _ _ _) hP
            have hI := IM.store0 hI 1 (z7283 : Int32).toNatClampNeg p1 rfl
            have hF := frUF (k := 1) (f := upd (F7278 1) (z7283 : Int32).toNatClampNeg p1) (by decide) hF
            have hP : va_P (dC, dI) classes (wM g c v (va_up F7278 1 (upd (F7278 1) (z7283 : Int32).toNatClampNeg p1)) rc) H := hP
            generalize (va_up F7278 1 (upd (F7278 1) (z7283 : Int32).toNatClampNeg p1)) = F7286 at hP hI hF
            refine lv_aload_n hx hb dX12_kind_81 rfl (lv_at hl 0 rfl) ?_
            refine va_get (D := (dC, dI)) (ci := 12) (v := .ref (g 1)) (C := RX12) (T := TX12) (N := 63) hx hb hwd inA_X12 hown hK hP 0 rfl rfl 3 (by decide) (hwd _ wk_182) (fun _ h9 => h9) rfl dX12_kind_82 ?_
            refine lv_iconst (v := 3) hx hb dX12_kind_85 (by decide) ?_
            refine lv_aload_n hx hb dX12_kind_86 rfl (lv_at hl 0 rfl) ?_
            refine va_get (D := (dC, dI)) (ci := 12) (v := .int (v 2)) (C := RX12) (T := TX12) (N := 63) hx hb hwd inA_X12 hown hK hP 0 rfl rfl 2 (by decide) (hwd _ wk_251) (fun _ h9 => h9) rfl dX12_kind_87 ?_
            have t7287 : 0 ≤ (v 2).toInt ∧ (v 2).toInt ≤ 10 := hI.1 2 _ _ rfl
            refine lv_imul hx hb dX12_kind_90 ?_
            refine lv_topi (fun z7288 e7289 => ?_)
            try (have t7290 := tmul e7289 (a := 3) (by decide) (b := (v 2).toInt) rfl (by omega))
            refine lv_iconst (v := 2) hx hb dX12_kind_91 (by decide) ?_
            refine lv_iadd hx hb dX12_kind_92 ?_
            refine lv_topi (fun z7291 e7292 => ?_)
            try (have t7293 := tadd e7292 (a := z7288.toInt) rfl (b := 2) (by decide) (by omega))
            refine lv_iload_n hx hb dX12_kind_93 rfl (lv_at hl 3 rfl) ?_
            refine va_iast hx hb hK hP (DM hg) hS 1 0 rfl rfl (i := z7291) (x := p2) (vin (a := z7291.toInt) rfl (by omega)) dX12_kind_94 (fun H locs hP _ hS => ?_)
            have hP := va_P_eq (sM_1 g c _ _ _ _) hP
            have hI := IM.store0 hI 1 (z7291 : Int32).toNatClampNeg p2 rfl
            have hF := frUF (k := 1) (f := upd (F7286 1) (z7291 : Int32).toNatClampNeg p2) (by decide) hF
            have hP : va_P (dC, dI) classes (wM g c v (va_up F7286 1 (upd (F7286 1) (z7291 : Int32).toNatClampNeg p2)) rc) H := hP
            generalize (va_up F7286 1 (upd (F7286 1) (z7291 : Int32).toNatClampNeg p2)) = F7294 at hP hI hF
            refine lv_aload_n hx hb dX12_kind_95 rfl (lv_at hl 0 rfl) ?_
            refine va_get (D := (dC, dI)) (ci := 12) (v := .ref (g 2)) (C := RX12) (T := TX12) (N := 63) hx hb hwd inA_X12 hown hK hP 0 rfl rfl 4 (by decide) (hwd _ wk_183) (fun _ h9 => h9) rfl dX12_kind_96 ?_
            refine lv_aload_n hx hb dX12_kind_99 rfl (lv_at hl 0 rfl) ?_
            refine va_get (D := (dC, dI)) (ci := 12) (v := .int (v 2)) (C := RX12) (T := TX12) (N := 63) hx hb hwd inA_X12 hown hK hP 0 rfl rfl 2 (by decide) (hwd _ wk_251) (fun _ h9 => h9) rfl dX12_kind_100 ?_
            have t7295 : 0 ≤ (v 2).toInt ∧ (v 2).toInt ≤ 10 := hI.1 2 _ _ rfl
            refine lv_iload hx hb dX12_kind_103 (lv_at hl 4 rfl) ?_
            refine lv_sipush (v := 1000) hx hb dX12_kind_105 (by decide) ?_
            refine lv_idiv hx hb dX12_kind_108 (by decide) ?_
            refine lv_topi (fun z7296 e7297 => ?_)
            refine va_iast hx hb hK hP (DM hg) hS 2 1 rfl rfl (i := (v 2)) (x := z7296) (vin (a := (v 2).toInt) rfl (by omega)) dX12_kind_109 (fun H locs hP _ hS => ?_)
            have hP := va_P_eq (sM_2 g c _ _ _ _) hP
            have hI := IM.store0 hI 2 (v 2 : Int32).toNatClampNeg z7296 rfl
            have hF := frUF (k := 2) (f := upd (F7294 2) (v 2 : Int32).toNatClampNeg z7296) (by decide) hF
            have hP : va_P (dC, dI) classes (wM g c v (va_up F7294 2 (upd (F7294 2) (v 2 : Int32).toNatClampNeg z7296)) rc) H := hP
            generalize (va_up F7294 2 (upd (F7294 2) (v 2 : Int32).toNatClampNeg z7296)) = F7299 at hP hI hF
            refine lv_aload_n hx hb dX12_kind_110 rfl (lv_at hl 0 rfl) ?_
            refine va_get (D := (dC, dI)) (ci := 12) (v := .ref (g 3)) (C := RX12) (T := TX12) (N := 63) hx hb hwd inA_X12 hown hK hP 0 rfl rfl 5 (by decide) (hwd _ wk_184) (fun _ h9 => h9) rfl dX12_kind_111 ?_
            refine lv_aload_n hx hb dX12_kind_114 rfl (lv_at hl 0 rfl) ?_
            refine va_get (D := (dC, dI)) (ci := 12) (v := .int (v 2)) (C := RX12) (T := TX12) (N := 63) hx hb hwd inA_X12 hown hK hP 0 rfl rfl 2 (by decide) (hwd _ wk_251) (fun _ h9 => h9) rfl dX12_kind_115 ?_
            have t7300 : 0 ≤ (v 2).toInt ∧ (v 2).toInt ≤ 10 := hI.1 2 _ _ rfl
            refine lv_iload hx hb dX12_kind_118 (lv_at hl 4 rfl) ?_
            refine lv_sipush (v := 1000) hx hb dX12_kind_120 (by decide) ?_
            refine lv_irem hx hb dX12_kind_123 (by decide) ?_
            refine lv_topi (fun z7301 e7302 => ?_)
            refine va_iast hx hb hK hP (DM hg) hS 3 2 rfl rfl (i := (v 2)) (x := z7301) (vin (a := (v 2).toInt) rfl (by omega)) dX12_kind_124 (fun H locs hP _ hS => ?_)
            have hP := va_P_eq (sM_3 g c _ _ _ _) hP
            have hI := IM.store0 hI 3 (v 2 : Int32).toNatClampNeg z7301 rfl
            have hF := frUF (k := 3) (f := upd (F7299 3) (v 2 : Int32).toNatClampNeg z7301) (by decide) hF
            have hP : va_P (dC, dI) classes (wM g c v (va_up F7299 3 (upd (F7299 3) (v 2 : Int32).toNatClampNeg z7301)) rc) H := hP
            generalize (va_up F7299 3 (upd (F7299 3) (v 2 : Int32).toNatClampNeg z7301)) = F7304 at hP hI hF
            refine lv_aload_n hx hb dX12_kind_125 rfl (lv_at hl 0 rfl) ?_
            refine lv_dup hx hb dX12_kind_126 rfl ?_
            refine va_get (D := (dC, dI)) (ci := 12) (v := .int (v 2)) (C := RX12) (T := TX12) (N := 63) hx hb hwd inA_X12 hown hK hP 0 rfl rfl 2 (by decide) (hwd _ wk_251) (fun _ h9 => h9) rfl dX12_kind_127 ?_
            have t7305 : 0 ≤ (v 2).toInt ∧ (v 2).toInt ≤ 10 := hI.1 2 _ _ rfl
            refine lv_iconst (v := 1) hx hb dX12_kind_130 (by decide) ?_
            refine lv_iadd hx hb dX12_kind_131 ?_
            refine lv_topi (fun z7306 e7307 => ?_)
            try (have t7308 := tadd e7307 (a := (v 2).toInt) rfl (b := 1) (by decide) (by omega))
            refine va_put (D := (dC, dI)) (ci := 12) (v := .int z7306) (ty := .int) (C := RX12) (T := TX12) (N := 63) (fs := fsM_0 g v rc) hx hb hwd inA_X12 tyX12 tyX12_ok nmX12 hown hK hP (DM hg) hS 0 rfl rfl 2 (by decide) (hwd _ wk_251) (fun _ h9 => h9) rfl (by decide +kernel) rfl rfl (Nat.le_of_ble_eq_true rfl) dX12_kind_132 (fun H locs hP _ hS => ?_)
            have hP := va_P_eq (pM_2 g c _ _ _ _) hP
            have hI := IM.put hI 2 z7306 rfl (by omega)
            refine lv_aload_n hx hb dX12_kind_135 rfl (lv_at hl 0 rfl) ?_
            refine va_get (D := (dC, dI)) (ci := 12) (v := .int z7306) (C := RX12) (T := TX12) (N := 63) hx hb hwd inA_X12 hown hK hP 0 rfl rfl 2 (by decide) (hwd _ wk_251) (fun _ h9 => h9) rfl dX12_kind_136 ?_
            have t7309 : 0 ≤ z7306.toInt ∧ z7306.toInt ≤ 10 := hI.1 2 _ _ rfl
            refine lv_iconst (v := 1) hx hb dX12_kind_139 (by decide) ?_
            refine lv_isub hx hb dX12_kind_140 ?_
            refine lv_topi (fun z7310 e7311 => ?_)
            try (have t7312 := tsub e7311 (a := z7306.toInt) rfl (b := 1) (by decide) (by omega))
            have hP9 : va_P (dC, dI) classes (wM g c (va_up v 2 z7306) F7304 rc) H := hP
            exact W.iret (v := z7310) hx hb hr (fun t ht hW => ⟨⟨z7310, ((va_up v 2 z7306), F7304, rc), rfl, ⟨hI, rfl, (frU (by decide) (fun _ _ => rfl)), hF, (by show (¬ ((0 ≤ p0.toInt ∧ p0.toInt ≤ 99999) ∧ (0 ≤ p1.toInt ∧ p1.toInt ≤ 99999) ∧ (0 ≤ p2.toInt ∧ p2.toInt ≤ 99999) ∧ (0 ≤ p3.toInt ∧ p3.toInt ≤ 999999)) ∧ z7310.toInt = -1 ∧ z7306.toInt = (v 2).toInt) ∨ (((0 ≤ p0.toInt ∧ p0.toInt ≤ 99999) ∧ (0 ≤ p1.toInt ∧ p1.toInt ≤ 99999) ∧ (0 ≤ p2.toInt ∧ p2.toInt ≤ 99999) ∧ (0 ≤ p3.toInt ∧ p3.toInt ≤ 999999)) ∧ (v 2).toInt = 10 ∧ z7310.toInt = -3 ∧ z7306.toInt = (v 2).toInt) ∨ (((0 ≤ p0.toInt ∧ p0.toInt ≤ 99999) ∧ (0 ≤ p1.toInt ∧ p1.toInt ≤ 99999) ∧ (0 ≤ p2.toInt ∧ p2.toInt ≤ 99999) ∧ (0 ≤ p3.toInt ∧ p3.toInt ≤ 999999)) ∧ (v 2).toInt < 10 ∧ z7310.toInt = (v 2).toInt ∧ z7306.toInt = (v 2).toInt + 1); omega)⟩, (by show va_P _ _ _ t.heap; rw [ht]; exact hP9)⟩, hS.F ht⟩) hS.2.2 dX12_kind_141
          · skip
            have t7313 := cv_eq (a := (v 2).toInt) rfl (b := 10) (by decide) c7272
            refine lv_bipush (v := (-3)) hx hb dX12_kind_52 (by decide) ?_
            have hP9 : va_P (dC, dI) classes (wM g c v F rc) H := hP
            exact W.iret (v := (-3)) hx hb hr (fun t ht hW => ⟨⟨(-3), (v, F, rc), rfl, ⟨hI, rfl, (fun _ _ => rfl), hF, (by show (¬ ((0 ≤ p0.toInt ∧ p0.toInt ≤ 99999) ∧ (0 ≤ p1.toInt ∧ p1.toInt ≤ 99999) ∧ (0 ≤ p2.toInt ∧ p2.toInt ≤ 99999) ∧ (0 ≤ p3.toInt ∧ p3.toInt ≤ 999999)) ∧ ((-3) : Int32).toInt = -1 ∧ (v 2).toInt = (v 2).toInt) ∨ (((0 ≤ p0.toInt ∧ p0.toInt ≤ 99999) ∧ (0 ≤ p1.toInt ∧ p1.toInt ≤ 99999) ∧ (0 ≤ p2.toInt ∧ p2.toInt ≤ 99999) ∧ (0 ≤ p3.toInt ∧ p3.toInt ≤ 999999)) ∧ (v 2).toInt = 10 ∧ ((-3) : Int32).toInt = -3 ∧ (v 2).toInt = (v 2).toInt) ∨ (((0 ≤ p0.toInt ∧ p0.toInt ≤ 99999) ∧ (0 ≤ p1.toInt ∧ p1.toInt ≤ 99999) ∧ (0 ≤ p2.toInt ∧ p2.toInt ≤ 99999) ∧ (0 ≤ p3.toInt ∧ p3.toInt ≤ 999999)) ∧ (v 2).toInt < 10 ∧ ((-3) : Int32).toInt = (v 2).toInt ∧ (v 2).toInt = (v 2).toInt + 1); have : ((-3) : Int32).toInt = (-3) := (by decide); omega)⟩, (by show va_P _ _ _ t.heap; rw [ht]; exact hP9)⟩, hS.F ht⟩) hS.2.2 dX12_kind_54
        · skip
          have t7314 := cv_eq (a := r7266.toInt) rfl (b := 0) (by decide) c7269
          refine lv_iconst (v := (-1)) hx hb dX12_kind_41 (by decide) ?_
          have hP9 : va_P (dC, dI) classes (wM g c v F rc) H := hP
          exact W.iret (v := (-1)) hx hb hr (fun t ht hW => ⟨⟨(-1), (v, F, rc), rfl, ⟨hI, rfl, (fun _ _ => rfl), hF, (by show (¬ ((0 ≤ p0.toInt ∧ p0.toInt ≤ 99999) ∧ (0 ≤ p1.toInt ∧ p1.toInt ≤ 99999) ∧ (0 ≤ p2.toInt ∧ p2.toInt ≤ 99999) ∧ (0 ≤ p3.toInt ∧ p3.toInt ≤ 999999)) ∧ ((-1) : Int32).toInt = -1 ∧ (v 2).toInt = (v 2).toInt) ∨ (((0 ≤ p0.toInt ∧ p0.toInt ≤ 99999) ∧ (0 ≤ p1.toInt ∧ p1.toInt ≤ 99999) ∧ (0 ≤ p2.toInt ∧ p2.toInt ≤ 99999) ∧ (0 ≤ p3.toInt ∧ p3.toInt ≤ 999999)) ∧ (v 2).toInt = 10 ∧ ((-1) : Int32).toInt = -3 ∧ (v 2).toInt = (v 2).toInt) ∨ (((0 ≤ p0.toInt ∧ p0.toInt ≤ 99999) ∧ (0 ≤ p1.toInt ∧ p1.toInt ≤ 99999) ∧ (0 ≤ p2.toInt ∧ p2.toInt ≤ 99999) ∧ (0 ≤ p3.toInt ∧ p3.toInt ≤ 999999)) ∧ (v 2).toInt < 10 ∧ ((-1) : Int32).toInt = (v 2).toInt ∧ (v 2).toInt = (v 2).toInt + 1); have : ((-1) : Int32).toInt = (-1) := (by decide); omega)⟩, (by show va_P _ _ _ t.heap; rw [ht]; exact hP9)⟩, hS.F ht⟩) hS.2.2 dX12_kind_42
set_option maxHeartbeats 8000000 in
set_option maxRecDepth 100000 in
theorem c_X12_plane (l : Launch) (dC : Nat → ClassId) (dI : Nat → Nat → Nat) (g : Nat → Nat) (c : Nat → ClassId) (adK adV : Nat → Nat) (v : Nat → Int32) (F : Nat → Nat → Int32) (rc sz : Nat) (p0 : Int32) (hg : injM g) (hI : IM v F) : Met l yX12_plane (Cond.code yX12_plane cX12_plane 2 (some .int) :: wA) ({ frames := 2, cells := 0, slots := 0, locals := 80 }) (va_Pc [.ref (g 0), .int p0] (PM dC dI g c adK adV v F rc sz)) (va_Qi (fun (r : Int32) (u : StM) => IM u.1 u.2.1 ∧ u.2.2 = rc ∧ (∀ k, k ∉ ([6] : List Nat) → u.1 k = v k) ∧ (∀ k, k ∉ ([4, 7, 8, 35] : List Nat) → u.2.1 k = F k) ∧ ((¬ ((0 ≤ p0.toInt ∧ p0.toInt ≤ 999999)) ∧ r.toInt = -1 ∧ (u.1 6).toInt = (v 6).toInt) ∨ (((0 ≤ p0.toInt ∧ p0.toInt ≤ 999999)) ∧ (v 6).toInt = 10 ∧ r.toInt = -3 ∧ (u.1 6).toInt = (v 6).toInt) ∨ (((0 ≤ p0.toInt ∧ p0.toInt ≤ 999999)) ∧ (v 6).toInt < 10 ∧ r.toInt = (v 6).toInt ∧ (u.1 6).toInt = (v 6).toInt + 1))) (BM dC dI g c) (AM g sz)) 0 0 (AM g sz) := by
  refine Met.ofW (cc := cX12_plane) (maxL := 2) (ret := (some .int)) (by decide) rfl ?_
  intro p e s m args below meth c0 s₁ B hml hv
  obtain ⟨rfl, hsz, hP, hK, hE⟩ := hv
  have hx := B.exec
  have hb := B.bytes
  have hr := B.returns
  have hts := atoms_spec (ws := Cond.code yX12_plane cX12_plane 2 (some .int) :: wA) B.pre
  have hwd : ∀ w ∈ wA, w.before _ s = true := fun w h => hts w (List.mem_cons_of_mem _ h)
  have hown : s.vm.findClass RX12 = some m.cls := findClass_of_methodNamed B.named
  have hlocks := B.notSynchronized
  subst hsz
  have hl := lv_entry ([.ref (g 0), .int p0]) (n := 2) (Nat.le_of_ble_eq_true rfl)
  rw [lg_entry_eq]
  generalize (lg_sl ([.ref (g 0), .int p0]) ++ List.replicate (2 - (lg_sl ([.ref (g 0), .int p0])).length) Slot.unset).toArray = ls at hl ⊢
  have hl : lv_has ls 2 [(0, .ref (g 0)), (1, .int p0)] := hl
  obtain ⟨H, eH⟩ : ∃ z, z = s.heap := ⟨_, rfl⟩
  have hP : va_P (dC, dI) classes (wM g c v F rc) H := by rw [eH]; exact hP
  have hS : va_S (AM g s.heap.size) s.heap H [] := by rw [eH]; exact va_S.rf
  refine my_heap eH ?_
  have hF : ∀ k, k ∉ ([4, 7, 8, 35] : List Nat) → F k = F k := fun _ _ => rfl
  have rp0 := i32_rng p0
  refine lv_iload_n hx hb dX12_plane_0 rfl (lv_at hl 1 rfl) ?_
  refine lv_iconst (v := 0) hx hb dX12_plane_1 (by decide) ?_
  refine lv_ldc (v := 999999) hx hb hown (hwd _ wk_250) dX12_plane_2 ?_
  refine va_calli (va_runS (As := [.int p0, .int 0, .int 999999]) (rest := []) ⟨hx, hb, hml, hown, hwd⟩ (c_X12_in l dC dI g c adK adV v F rc H.size p0 0 999999 hg hI ) (va_cwS 3 hwd (gT wk_254 wk_252 wk_253 wk_5) rfl rfl rfl (by decide +kernel) ⟨Nat.le_of_ble_eq_true rfl, Nat.le_of_ble_eq_true rfl⟩) ⟨PM.blind, fun U hU hW => ⟨rfl, PM.at hK hE hP hS hU hW⟩⟩ rfl rfl hl.1 rfl (lv_room (Nat.le_of_ble_eq_true rfl)) dX12_plane_4 ⟨Nat.le_of_ble_eq_true rfl, Nat.le_of_ble_eq_true rfl⟩) hS (fun q _ h => (freeM hS) q h) (freeM hS) (fun r7341 u t H1 locs ht hvm hw hB hz1 hk1 hS => ?_)
  unfold BM at hB
  rw [ht] at hB
  have hP : va_P (dC, dI) classes (wM g c v F rc) H1 := hB
  have hw_r7341 : (r7341.toInt = 1 ∧ (0 : Int32).toInt ≤ p0.toInt ∧ p0.toInt ≤ (999999 : Int32).toInt) ∨ (r7341.toInt = 0 ∧ (p0.toInt < (0 : Int32).toInt ∨ (999999 : Int32).toInt < p0.toInt)) := hw
  clear hw
  have k7342 : (0 : Int32).toInt = 0 := by decide
  have k7343 : (999999 : Int32).toInt = 999999 := by decide
  clear hz1
  generalize H1 = H at hP hS ⊢
  refine lv_if_ne (tgt := 12) hx hb dX12_plane_7 (by decide) (fun c7344 => ?_) (fun c7344 => ?_)
  · skip
    have t7345 := cv_ne (a := r7341.toInt) rfl (b := 0) (by decide) c7344
    refine lv_aload_n hx hb dX12_plane_12 rfl (lv_at hl 0 rfl) ?_
    refine va_get (D := (dC, dI)) (ci := 12) (v := .int (v 6)) (C := RX12) (T := TX12) (N := 63) hx hb hwd inA_X12 hown hK hP 0 rfl rfl 6 (by decide) (hwd _ wk_268) (fun _ h9 => h9) rfl dX12_plane_13 ?_
    have t7346 : 0 ≤ (v 6).toInt ∧ (v 6).toInt ≤ 10 := hI.1 6 _ _ rfl
    refine lv_bipush (v := 10) hx hb dX12_plane_16 (by decide) ?_
    refine lv_icmp_ne (tgt := 24) hx hb dX12_plane_18 (by decide) (fun c7347 => ?_) (fun c7347 => ?_)
    · skip
      have t7348 := cv_ne (a := (v 6).toInt) rfl (b := 10) (by decide) c7347
      refine lv_aload_n hx hb dX12_plane_24 rfl (lv_at hl 0 rfl) ?_
      refine va_get (D := (dC, dI)) (ci := 12) (v := .ref (g 4)) (C := RX12) (T := TX12) (N := 63) hx hb hwd inA_X12 hown hK hP 0 rfl rfl 7 (by decide) (hwd _ wk_185) (fun _ h9 => h9) rfl dX12_plane_25 ?_
      refine lv_aload_n hx hb dX12_plane_28 rfl (lv_at hl 0 rfl) ?_
      refine va_get (D := (dC, dI)) (ci := 12) (v := .int (v 6)) (C := RX12) (T := TX12) (N := 63) hx hb hwd inA_X12 hown hK hP 0 rfl rfl 6 (by decide) (hwd _ wk_268) (fun _ h9 => h9) rfl dX12_plane_29 ?_
      have t7349 : 0 ≤ (v 6).toInt ∧ (v 6).toInt ≤ 10 := hI.1 6 _ _ rfl
      refine lv_iload_n hx hb dX12_plane_32 rfl (lv_at hl 1 rfl) ?_
      refine va_iast hx hb hK hP (DM hg) hS 4 3 rfl rfl (i := (v 6)) (x := p0) (vin (a := (v 6).toInt) rfl (by omega)) dX12_plane_33 (fun H locs hP _ hS => ?_)
      have hP := va_P_eq (sM_4 g c _ _ _ _) hP
      have hI := IM.store0 hI 4 (v 6 : Int32).toNatClampNeg p0 rfl
      have hF := frUF (k := 4) (f := upd (F 4) (v 6 : Int32).toNatClampNeg p0) (by decide) hF
      have hP : va_P (dC, dI) classes (wM g c v (va_up F 4 (upd (F 4) (v 6 : Int32).toNatClampNeg p0)) rc) H := hP
      generalize (va_up F 4 (upd (F 4) (v 6 : Int32).toNatClampNeg p0)) = F7350 at hP hI hF
      refine lv_aload_n hx hb dX12_plane_34 rfl (lv_at hl 0 rfl) ?_
      refine va_get (D := (dC, dI)) (ci := 12) (v := .ref (g 7)) (C := RX12) (T := TX12) (N := 63) hx hb hwd inA_X12 hown hK hP 0 rfl rfl 10 (by decide) (hwd _ wk_188) (fun _ h9 => h9) rfl dX12_plane_35 ?_
      refine lv_aload_n hx hb dX12_plane_38 rfl (lv_at hl 0 rfl) ?_
      refine va_get (D := (dC, dI)) (ci := 12) (v := .int (v 6)) (C := RX12) (T := TX12) (N := 63) hx hb hwd inA_X12 hown hK hP 0 rfl rfl 6 (by decide) (hwd _ wk_268) (fun _ h9 => h9) rfl dX12_plane_39 ?_
      have t7351 : 0 ≤ (v 6).toInt ∧ (v 6).toInt ≤ 10 := hI.1 6 _ _ rfl
      refine lv_iconst (v := (-1)) hx hb dX12_plane_42 (by decide) ?_
      refine va_iast hx hb hK hP (DM hg) hS 7 6 rfl rfl (i := (v 6)) (x := (-1)) (vin (a := (v 6).toInt) rfl (by omega)) dX12_plane_43 (fun H locs hP _ hS => ?_)
      have hP := va_P_eq (sM_7 g c _ _ _ _) hP
      have hI := IM.store0 hI 7 (v 6 : Int32).toNatClampNeg (-1) rfl
      have hF := frUF (k := 7) (f := upd (F7350 7) (v 6 : Int32).toNatClampNeg (-1)) (by decide) hF
      have hP : va_P (dC, dI) classes (wM g c v (va_up F7350 7 (upd (F7350 7) (v 6 : Int32).toNatClampNeg (-1))) rc) H := hP
      generalize (va_up F7350 7 (upd (F7350 7) (v 6 : Int32).toNatClampNeg (-1))) = F7352 at hP hI hF
      refine lv_aload_n hx hb dX12_plane_44 rfl (lv_at hl 0 rfl) ?_
      refine va_get (D := (dC, dI)) (ci := 12) (v := .ref (g 8)) (C := RX12) (T := TX12) (N := 63) hx hb hwd inA_X12 hown hK hP 0 rfl rfl 11 (by decide) (hwd _ wk_189) (fun _ h9 => h9) rfl dX12_plane_45 ?_
      refine lv_aload_n hx hb dX12_plane_48 rfl (lv_at hl 0 rfl) ?_
      refine va_get (D := (dC, dI)) (ci := 12) (v := .int (v 6)) (C := RX12) (T := TX12) (N := 63) hx hb hwd inA_X12 hown hK hP 0 rfl rfl 6 (by decide) (hwd _ wk_268) (fun _ h9 => h9) rfl dX12_plane_49 ?_
      have t7353 : 0 ≤ (v 6).toInt ∧ (v 6).toInt ≤ 10 := hI.1 6 _ _ rfl
      refine lv_iconst (v := (-1)) hx hb dX12_plane_52 (by decide) ?_
      refine va_iast hx hb hK hP (DM hg) hS 8 7 rfl rfl (i := (v 6)) (x := (-1)) (vin (a := (v 6).toInt) rfl (by omega)) dX12_plane_53 (fun H locs hP _ hS => ?_)
      have hP := va_P_eq (sM_8 g c _ _ _ _) hP
      have hI := IM.store0 hI 8 (v 6 : Int32).toNatClampNeg (-1) rfl
      have hF := frUF (k := 8) (f := upd (F7352 8) (v 6 : Int32).toNatClampNeg (-1)) (by decide) hF
      have hP : va_P (dC, dI) classes (wM g c v (va_up F7352 8 (upd (F7352 8) (v 6 : Int32).toNatClampNeg (-1))) rc) H := hP
      generalize (va_up F7352 8 (upd (F7352 8) (v 6 : Int32).toNatClampNeg (-1))) = F7354 at hP hI hF
      refine lv_aload_n hx hb dX12_plane_54 rfl (lv_at hl 0 rfl) ?_
      refine va_get (D := (dC, dI)) (ci := 12) (v := .ref (g 35)) (C := RX12) (T := TX12) (N := 63) hx hb hwd inA_X12 hown hK hP 0 rfl rfl 49 (by decide) (hwd _ wk_217) (fun _ h9 => h9) rfl dX12_plane_55 ?_
      refine lv_aload_n hx hb dX12_plane_58 rfl (lv_at hl 0 rfl) ?_
      refine va_get (D := (dC, dI)) (ci := 12) (v := .int (v 6)) (C := RX12) (T := TX12) (N := 63) hx hb hwd inA_X12 hown hK hP 0 rfl rfl 6 (by decide) (hwd _ wk_268) (fun _ h9 => h9) rfl dX12_plane_59 ?_
      have t7355 : 0 ≤ (v 6).toInt ∧ (v 6).toInt ≤ 10 := hI.1 6 _ _ rfl
      refine lv_iconst (v := (-1)) hx hb dX12_plane_62 (by decide) ?_
      refine va_iast hx hb hK hP (DM hg) hS 35 34 rfl rfl (i := (v 6)) (x := (-1)) (vin (a := (v 6).toInt) rfl (by omega)) dX12_plane_63 (fun H locs hP _ hS => ?_)
      have hP := va_P_eq (sM_35 g c _ _ _ _) hP
      have hI := IM.store0 hI 35 (v 6 : Int32).toNatClampNeg (-1) rfl
      have hF := frUF (k := 35) (f := upd (F7354 35) (v 6 : Int32).toNatClampNeg (-1)) (by decide) hF
      have hP : va_P (dC, dI) classes (wM g c v (va_up F7354 35 (upd (F7354 35) (v 6 : Int32).toNatClampNeg (-1))) rc) H := hP
      generalize (va_up F7354 35 (upd (F7354 35) (v 6 : Int32).toNatClampNeg (-1))) = F7356 at hP hI hF
      refine lv_aload_n hx hb dX12_plane_64 rfl (lv_at hl 0 rfl) ?_
      refine lv_dup hx hb dX12_plane_65 rfl ?_
      refine va_get (D := (dC, dI)) (ci := 12) (v := .int (v 6)) (C := RX12) (T := TX12) (N := 63) hx hb hwd inA_X12 hown hK hP 0 rfl rfl 6 (by decide) (hwd _ wk_268) (fun _ h9 => h9) rfl dX12_plane_66 ?_
      have t7357 : 0 ≤ (v 6).toInt ∧ (v 6).toInt ≤ 10 := hI.1 6 _ _ rfl
      refine lv_iconst (v := 1) hx hb dX12_plane_69 (by decide) ?_
      refine lv_iadd hx hb dX12_plane_70 ?_
      refine lv_topi (fun z7358 e7359 => ?_)
      try (have t7360 := tadd e7359 (a := (v 6).toInt) rfl (b := 1) (by decide) (by omega))
      refine va_put (D := (dC, dI)) (ci := 12) (v := .int z7358) (ty := .int) (C := RX12) (T := TX12) (N := 63) (fs := fsM_0 g v rc) hx hb hwd inA_X12 tyX12 tyX12_ok nmX12 hown hK hP (DM hg) hS 0 rfl rfl 6 (by decide) (hwd _ wk_268) (fun _ h9 => h9) rfl (by decide +kernel) rfl rfl (Nat.le_of_ble_eq_true rfl) dX12_plane_71 (fun H locs hP _ hS => ?_)
      have hP := va_P_eq (pM_6 g c _ _ _ _) hP
      have hI := IM.put hI 6 z7358 rfl (by omega)
      refine lv_aload_n hx hb dX12_plane_74 rfl (lv_at hl 0 rfl) ?_
      refine va_get (D := (dC, dI)) (ci := 12) (v := .int z7358) (C := RX12) (T := TX12) (N := 63) hx hb hwd inA_X12 hown hK hP 0 rfl rfl 6 (by decide) (hwd _ wk_268) (fun _ h9 => h9) rfl dX12_plane_75 ?_
      have t7361 : 0 ≤ z7358.toInt ∧ z7358.toInt ≤ 10 := hI.1 6 _ _ rfl
      refine lv_iconst (v := 1) hx hb dX12_plane_78 (by decide) ?_
      refine lv_isub hx hb dX12_plane_79 ?_
      refine lv_topi (fun z7362 e7363 => ?_)
      try (have t7364 := tsub e7363 (a := z7358.toInt) rfl (b := 1) (by decide) (by omega))
      have hP9 : va_P (dC, dI) classes (wM g c (va_up v 6 z7358) F7356 rc) H := hP
      exact W.iret (v := z7362) hx hb hr (fun t ht hW => ⟨⟨z7362, ((va_up v 6 z7358), F7356, rc), rfl, ⟨hI, rfl, (frU (by decide) (fun _ _ => rfl)), hF, (by show (¬ ((0 ≤ p0.toInt ∧ p0.toInt ≤ 999999)) ∧ z7362.toInt = -1 ∧ z7358.toInt = (v 6).toInt) ∨ (((0 ≤ p0.toInt ∧ p0.toInt ≤ 999999)) ∧ (v 6).toInt = 10 ∧ z7362.toInt = -3 ∧ z7358.toInt = (v 6).toInt) ∨ (((0 ≤ p0.toInt ∧ p0.toInt ≤ 999999)) ∧ (v 6).toInt < 10 ∧ z7362.toInt = (v 6).toInt ∧ z7358.toInt = (v 6).toInt + 1); omega)⟩, (by show va_P _ _ _ t.heap; rw [ht]; exact hP9)⟩, hS.F ht⟩) hS.2.2 dX12_plane_80
    · skip
      have t7365 := cv_eq (a := (v 6).toInt) rfl (b := 10) (by decide) c7347
      refine lv_bipush (v := (-3)) hx hb dX12_plane_21 (by decide) ?_
      have hP9 : va_P (dC, dI) classes (wM g c v F rc) H := hP
      exact W.iret (v := (-3)) hx hb hr (fun t ht hW => ⟨⟨(-3), (v, F, rc), rfl, ⟨hI, rfl, (fun _ _ => rfl), hF, (by show (¬ ((0 ≤ p0.toInt ∧ p0.toInt ≤ 999999)) ∧ ((-3) : Int32).toInt = -1 ∧ (v 6).toInt = (v 6).toInt) ∨ (((0 ≤ p0.toInt ∧ p0.toInt ≤ 999999)) ∧ (v 6).toInt = 10 ∧ ((-3) : Int32).toInt = -3 ∧ (v 6).toInt = (v 6).toInt) ∨ (((0 ≤ p0.toInt ∧ p0.toInt ≤ 999999)) ∧ (v 6).toInt < 10 ∧ ((-3) : Int32).toInt = (v 6).toInt ∧ (v 6).toInt = (v 6).toInt + 1); have : ((-3) : Int32).toInt = (-3) := (by decide); omega)⟩, (by show va_P _ _ _ t.heap; rw [ht]; exact hP9)⟩, hS.F ht⟩) hS.2.2 dX12_plane_23
  · skip
    have t7366 := cv_eq (a := r7341.toInt) rfl (b := 0) (by decide) c7344
    refine lv_iconst (v := (-1)) hx hb dX12_plane_10 (by decide) ?_
    have hP9 : va_P (dC, dI) classes (wM g c v F rc) H := hP
    exact W.iret (v := (-1)) hx hb hr (fun t ht hW => ⟨⟨(-1), (v, F, rc), rfl, ⟨hI, rfl, (fun _ _ => rfl), hF, (by show (¬ ((0 ≤ p0.toInt ∧ p0.toInt ≤ 999999)) ∧ ((-1) : Int32).toInt = -1 ∧ (v 6).toInt = (v 6).toInt) ∨ (((0 ≤ p0.toInt ∧ p0.toInt ≤ 999999)) ∧ (v 6).toInt = 10 ∧ ((-1) : Int32).toInt = -3 ∧ (v 6).toInt = (v 6).toInt) ∨ (((0 ≤ p0.toInt ∧ p0.toInt ≤ 999999)) ∧ (v 6).toInt < 10 ∧ ((-1) : Int32).toInt = (v 6).toInt ∧ (v 6).toInt = (v 6).toInt + 1); have : ((-1) : Int32).toInt = (-1) := (by decide); omega)⟩, (by show va_P _ _ _ t.heap; rw [ht]; exact hP9)⟩, hS.F ht⟩) hS.2.2 dX12_plane_11
set_option maxHeartbeats 8000000 in
set_option maxRecDepth 100000 in
theorem c_X12_days (l : Launch) (dC : Nat → ClassId) (dI : Nat → Nat → Nat) (g : Nat → Nat) (c : Nat → ClassId) (adK adV : Nat → Nat) (v : Nat → Int32) (F : Nat → Nat → Int32) (rc sz : Nat) (p0 : Int32) (hg : injM g) (hI : IM v F) : Met l yX12_days (Cond.code yX12_days cX12_days 3 (some .int) :: wA) ({ frames := 2, cells := 0, slots := 0, locals := 80 }) (va_Pc [.ref (g 0), .int p0] (PM dC dI g c adK adV v F rc sz)) (va_Qi (fun (r : Int32) (u : StM) => IM u.1 u.2.1 ∧ u.2.2 = rc ∧ (∀ k, k ∉ ([1] : List Nat) → u.1 k = v k) ∧ (∀ k, k ∉ ([14] : List Nat) → u.2.1 k = F k) ∧ ((¬ (1 ≤ p0.toInt ∧ p0.toInt ≤ 400 ∧ (v 1).toInt + p0.toInt ≤ 9999) ∧ r.toInt = -1 ∧ (u.1 1).toInt = (v 1).toInt) ∨ ((1 ≤ p0.toInt ∧ p0.toInt ≤ 400 ∧ (v 1).toInt + p0.toInt ≤ 9999) ∧ r.toInt = (v 1).toInt + p0.toInt ∧ (u.1 1).toInt = (v 1).toInt + p0.toInt))) (BM dC dI g c) (AM g sz)) 0 0 (AM g sz) := by
  refine Met.ofW (cc := cX12_days) (maxL := 3) (ret := (some .int)) (by decide) rfl ?_
  intro p e s m args below meth c0 s₁ B hml hv
  obtain ⟨rfl, hsz, hP, hK, hE⟩ := hv
  have hx := B.exec
  have hb := B.bytes
  have hr := B.returns
  have hts := atoms_spec (ws := Cond.code yX12_days cX12_days 3 (some .int) :: wA) B.pre
  have hwd : ∀ w ∈ wA, w.before _ s = true := fun w h => hts w (List.mem_cons_of_mem _ h)
  have hown : s.vm.findClass RX12 = some m.cls := findClass_of_methodNamed B.named
  have hlocks := B.notSynchronized
  subst hsz
  have hl := lv_entry ([.ref (g 0), .int p0]) (n := 3) (Nat.le_of_ble_eq_true rfl)
  rw [lg_entry_eq]
  generalize (lg_sl ([.ref (g 0), .int p0]) ++ List.replicate (3 - (lg_sl ([.ref (g 0), .int p0])).length) Slot.unset).toArray = ls at hl ⊢
  have hl : lv_has ls 3 [(0, .ref (g 0)), (1, .int p0)] := hl
  obtain ⟨H, eH⟩ : ∃ z, z = s.heap := ⟨_, rfl⟩
  have hP : va_P (dC, dI) classes (wM g c v F rc) H := by rw [eH]; exact hP
  have hS : va_S (AM g s.heap.size) s.heap H [] := by rw [eH]; exact va_S.rf
  refine my_heap eH ?_
  have hF : ∀ k, k ∉ ([14] : List Nat) → F k = F k := fun _ _ => rfl
  have rp0 := i32_rng p0
  refine lv_iload_n hx hb dX12_days_0 rfl (lv_at hl 1 rfl) ?_
  refine lv_iconst (v := 1) hx hb dX12_days_1 (by decide) ?_
  refine lv_sipush (v := 400) hx hb dX12_days_2 (by decide) ?_
  refine va_calli (va_runS (As := [.int p0, .int 1, .int 400]) (rest := []) ⟨hx, hb, hml, hown, hwd⟩ (c_X12_in l dC dI g c adK adV v F rc H.size p0 1 400 hg hI ) (va_cwS 3 hwd (gT wk_254 wk_252 wk_253 wk_5) rfl rfl rfl (by decide +kernel) ⟨Nat.le_of_ble_eq_true rfl, Nat.le_of_ble_eq_true rfl⟩) ⟨PM.blind, fun U hU hW => ⟨rfl, PM.at hK hE hP hS hU hW⟩⟩ rfl rfl hl.1 rfl (lv_room (Nat.le_of_ble_eq_true rfl)) dX12_days_5 ⟨Nat.le_of_ble_eq_true rfl, Nat.le_of_ble_eq_true rfl⟩) hS (fun q _ h => (freeM hS) q h) (freeM hS) (fun r7415 u t H1 locs ht hvm hw hB hz1 hk1 hS => ?_)
  unfold BM at hB
  rw [ht] at hB
  have hP : va_P (dC, dI) classes (wM g c v F rc) H1 := hB
  have hw_r7415 : (r7415.toInt = 1 ∧ (1 : Int32).toInt ≤ p0.toInt ∧ p0.toInt ≤ (400 : Int32).toInt) ∨ (r7415.toInt = 0 ∧ (p0.toInt < (1 : Int32).toInt ∨ (400 : Int32).toInt < p0.toInt)) := hw
  clear hw
  have k7416 : (1 : Int32).toInt = 1 := by decide
  have k7417 : (400 : Int32).toInt = 400 := by decide
  clear hz1
  generalize H1 = H at hP hS ⊢
  refine lv_if_eq (tgt := 23) hx hb dX12_days_8 (by decide) (fun c7418 => ?_) (fun c7418 => ?_)
  · skip
    have t7419 := cv_eq (a := r7415.toInt) rfl (b := 0) (by decide) c7418
    refine lv_iconst (v := (-1)) hx hb dX12_days_23 (by decide) ?_
    have hP9 : va_P (dC, dI) classes (wM g c v F rc) H := hP
    exact W.iret (v := (-1)) hx hb hr (fun t ht hW => ⟨⟨(-1), (v, F, rc), rfl, ⟨hI, rfl, (fun _ _ => rfl), hF, (by show (¬ (1 ≤ p0.toInt ∧ p0.toInt ≤ 400 ∧ (v 1).toInt + p0.toInt ≤ 9999) ∧ ((-1) : Int32).toInt = -1 ∧ (v 1).toInt = (v 1).toInt) ∨ ((1 ≤ p0.toInt ∧ p0.toInt ≤ 400 ∧ (v 1).toInt + p0.toInt ≤ 9999) ∧ ((-1) : Int32).toInt = (v 1).toInt + p0.toInt ∧ (v 1).toInt = (v 1).toInt + p0.toInt); have : ((-1) : Int32).toInt = (-1) := (by decide); omega)⟩, (by show va_P _ _ _ t.heap; rw [ht]; exact hP9)⟩, hS.F ht⟩) hS.2.2 dX12_days_24
  · skip
    have t7420 := cv_ne (a := r7415.toInt) rfl (b := 0) (by decide) c7418
    refine lv_aload_n hx hb dX12_days_11 rfl (lv_at hl 0 rfl) ?_
    refine va_get (D := (dC, dI)) (ci := 12) (v := .int (v 1)) (C := RX12) (T := TX12) (N := 63) hx hb hwd inA_X12 hown hK hP 0 rfl rfl 1 (by decide) (hwd _ wk_332) (fun _ h9 => h9) rfl dX12_days_12 ?_
    have t7421 : 0 ≤ (v 1).toInt ∧ (v 1).toInt ≤ 9999 := hI.1 1 _ _ rfl
    refine lv_iload_n hx hb dX12_days_15 rfl (lv_at hl 1 rfl) ?_
    refine lv_iadd hx hb dX12_days_16 ?_
    refine lv_topi (fun z7422 e7423 => ?_)
    try (have t7424 := tadd e7423 (a := (v 1).toInt) rfl (b := p0.toInt) rfl (by omega))
    refine lv_sipush (v := 9999) hx hb dX12_days_17 (by decide) ?_
    refine lv_icmp_le (tgt := 25) hx hb dX12_days_20 (by decide) (fun c7425 => ?_) (fun c7425 => ?_)
    · skip
      have t7426 := cv_le (a := z7422.toInt) rfl (b := 9999) (by decide) c7425
      refine lv_aload_n hx hb dX12_days_25 rfl (lv_at hl 0 rfl) ?_
      refine lv_dup hx hb dX12_days_26 rfl ?_
      refine va_get (D := (dC, dI)) (ci := 12) (v := .int (v 1)) (C := RX12) (T := TX12) (N := 63) hx hb hwd inA_X12 hown hK hP 0 rfl rfl 1 (by decide) (hwd _ wk_332) (fun _ h9 => h9) rfl dX12_days_27 ?_
      have t7427 : 0 ≤ (v 1).toInt ∧ (v 1).toInt ≤ 9999 := hI.1 1 _ _ rfl
      refine lv_iload_n hx hb dX12_days_30 rfl (lv_at hl 1 rfl) ?_
      refine lv_iadd hx hb dX12_days_31 ?_
      refine lv_topi (fun z7428 e7429 => ?_)
      try (have t7430 := tadd e7429 (a := (v 1).toInt) rfl (b := p0.toInt) rfl (by omega))
      refine va_put (D := (dC, dI)) (ci := 12) (v := .int z7428) (ty := .int) (C := RX12) (T := TX12) (N := 63) (fs := fsM_0 g v rc) hx hb hwd inA_X12 tyX12 tyX12_ok nmX12 hown hK hP (DM hg) hS 0 rfl rfl 1 (by decide) (hwd _ wk_332) (fun _ h9 => h9) rfl (by decide +kernel) rfl rfl (Nat.le_of_ble_eq_true rfl) dX12_days_32 (fun H locs hP _ hS => ?_)
      have hP := va_P_eq (pM_1 g c _ _ _ _) hP
      have hI := IM.put hI 1 z7428 rfl (by omega)
      refine lv_iconst (v := 0) hx hb dX12_days_35 (by decide) ?_
      refine lv_istore_n (lv' := [(2, .int 0), (0, .ref (g 0)), (1, .int p0)]) hx hb dX12_days_36 rfl hl (by decide) rfl (fun ls hl => ?_)
      have lp7431 : ∀ (n : Nat) (x2_lp7431 : Int32) (v_lp7431 : Nat → Int32) (F_lp7431 : Nat → Nat → Int32) (H : Heap) (locs : List Loc) (ls : Array Slot), (0 ≤ x2_lp7431.toInt) → (2147483648 - x2_lp7431.toInt ≤ (n : Int)) → (∀ k, k ∉ ([] : List Nat) → v_lp7431 k = (va_up v 1 z7428) k) → IM v_lp7431 F_lp7431 → (∀ k, k ∉ ([14] : List Nat) → F_lp7431 k = F k) → va_P (dC, dI) classes (wM g c v_lp7431 F_lp7431 rc) H → va_S (AM g s.heap.size) s.heap H locs → lv_has ls 3 [(2, .int x2_lp7431), (0, .ref (g 0)), (1, .int p0)] → W p l e (headSpec (Cond.code yX12_days cX12_days 3 (some .int) :: wA) ({ frames := 2, cells := 0, slots := 0, locals := 80 })).room s m ([.ref (g 0), .int p0] : List Value).toArray below meth c0 H locs 0 0 (MQ below (va_Qi (fun (r : Int32) (u : StM) => IM u.1 u.2.1 ∧ u.2.2 = rc ∧ (∀ k, k ∉ ([1] : List Nat) → u.1 k = v k) ∧ (∀ k, k ∉ ([14] : List Nat) → u.2.1 k = F k) ∧ ((¬ (1 ≤ p0.toInt ∧ p0.toInt ≤ 400 ∧ (v 1).toInt + p0.toInt ≤ 9999) ∧ r.toInt = -1 ∧ (u.1 1).toInt = (v 1).toInt) ∨ ((1 ≤ p0.toInt ∧ p0.toInt ≤ 400 ∧ (v 1).toInt + p0.toInt ≤ 9999) ∧ r.toInt = (v 1).toInt + p0.toInt ∧ (u.1 1).toInt = (v 1).toInt + p0.toInt))) (BM dC dI g c) (AM g s.heap.size)) ([.ref (g 0), .int p0] : List Value).toArray s 0 0 (AM g s.heap.size)) (F0 m 37 ls []) := by
        intro n
        induction n with
        | zero =>
          intro x2_lp7431 v_lp7431 F_lp7431 H locs ls t7432 hm hf_lp7431 hI hF hP hS hl
          exfalso
          have := i32_rng x2_lp7431
          have hI1 := hI.1
          omega
        | succ n ih_lp7431 =>
          intro x2_lp7431 v_lp7431 F_lp7431 H locs ls t7432 hm hf_lp7431 hI hF hP hS hl
          have rx2_lp7431 := i32_rng x2_lp7431
          refine lv_iload_n hx hb dX12_days_37 rfl (lv_at hl 0 rfl) ?_
          refine lv_aload_n hx hb dX12_days_38 rfl (lv_at hl 1 rfl) ?_
          refine va_get (D := (dC, dI)) (ci := 12) (v := .int (v_lp7431 14)) (C := RX12) (T := TX12) (N := 63) hx hb hwd inA_X12 hown hK hP 0 rfl rfl 14 (by decide) (hwd _ wk_318) (fun _ h9 => h9) rfl dX12_days_39 ?_
          refine my_top (v := v 14) (hf_lp7431 14 (by decide)) ?_
          have t7433 : 0 ≤ (v 14).toInt ∧ (v 14).toInt ≤ 100 := by have h9 := hI.1 14 _ _ rfl; rw [show v_lp7431 14 = v 14 from hf_lp7431 14 (by decide)] at h9; exact h9
          refine lv_icmp_ge (tgt := 76) hx hb dX12_days_42 (by decide) (fun c7434 => ?_) (fun c7434 => ?_)
          · skip
            have t7435 := cv_le (a := (v 14).toInt) rfl (b := x2_lp7431.toInt) rfl c7434
            refine lv_aload_n hx hb dX12_days_76 rfl (lv_at hl 1 rfl) ?_
            refine va_get (D := (dC, dI)) (ci := 12) (v := .int (v_lp7431 1)) (C := RX12) (T := TX12) (N := 63) hx hb hwd inA_X12 hown hK hP 0 rfl rfl 1 (by decide) (hwd _ wk_332) (fun _ h9 => h9) rfl dX12_days_77 ?_
            refine my_top (v := z7428) (hf_lp7431 1 (by decide)) ?_
            have t7436 : 0 ≤ z7428.toInt ∧ z7428.toInt ≤ 9999 := by have h9 := hI.1 1 _ _ rfl; rw [show v_lp7431 1 = z7428 from hf_lp7431 1 (by decide)] at h9; exact h9
            have hP9 : va_P (dC, dI) classes (wM g c v_lp7431 F_lp7431 rc) H := hP
            exact W.iret (v := z7428) hx hb hr (fun t ht hW => ⟨⟨z7428, (v_lp7431, F_lp7431, rc), rfl, ⟨hI, rfl, (frC (by decide) hf_lp7431 (frU (by decide) (fun _ _ => rfl))), hF, (by show (¬ (1 ≤ p0.toInt ∧ p0.toInt ≤ 400 ∧ (v 1).toInt + p0.toInt ≤ 9999) ∧ z7428.toInt = -1 ∧ (v_lp7431 1).toInt = (v 1).toInt) ∨ ((1 ≤ p0.toInt ∧ p0.toInt ≤ 400 ∧ (v 1).toInt + p0.toInt ≤ 9999) ∧ z7428.toInt = (v 1).toInt + p0.toInt ∧ (v_lp7431 1).toInt = (v 1).toInt + p0.toInt); rw [show v_lp7431 1 = z7428 from hf_lp7431 1 (by decide)]; omega)⟩, (by show va_P _ _ _ t.heap; rw [ht]; exact hP9)⟩, hS.F ht⟩) hS.2.2 dX12_days_80
          · skip
            have t7437 := cv_nle (a := (v 14).toInt) rfl (b := x2_lp7431.toInt) rfl c7434
            refine lv_aload_n hx hb dX12_days_45 rfl (lv_at hl 1 rfl) ?_
            refine va_get (D := (dC, dI)) (ci := 12) (v := .ref (g 13)) (C := RX12) (T := TX12) (N := 63) hx hb hwd inA_X12 hown hK hP 0 rfl rfl 17 (by decide) (hwd _ wk_194) (fun _ h9 => h9) rfl dX12_days_46 ?_
            refine lv_iload_n hx hb dX12_days_49 rfl (lv_at hl 0 rfl) ?_
            refine va_iald hx hb hK hP 13 12 rfl rfl (i := x2_lp7431) (vin (a := x2_lp7431.toInt) rfl (by omega)) dX12_days_50 ?_
            refine lv_topi (fun z7438 e7439 => ?_)
            have t7440 : 0 ≤ z7438.toInt ∧ z7438.toInt ≤ 12 := by rw [e7439]; exact hI.2 13 _ _ rfl _
            have e7439 : z7438 = F 13 (x2_lp7431 : Int32).toNatClampNeg := e7439.trans (congrFun (hF 13 (by decide)) _)
            refine lv_bipush (v := 12) hx hb dX12_days_51 (by decide) ?_
            refine lv_icmp_eq (tgt := 70) hx hb dX12_days_53 (by decide) (fun c7441 => ?_) (fun c7441 => ?_)
            · skip
              have t7442 := cv_eq (a := z7438.toInt) rfl (b := 12) (by decide) c7441
              obtain ⟨z7443, e7444⟩ : ∃ y : Int32, y = x2_lp7431 + 1 := ⟨_, rfl⟩
              try (have t7445 := tadd e7444 rfl (b := 1) (by decide) (by omega))
              refine lv_iinc (v := z7443) (lv' := [(2, .int z7443), (0, .ref (g 0)), (1, .int p0)]) hx hb dX12_days_70 hl (k := 0) rfl (by rw [e7444]; rfl) (by decide) rfl (fun ls hl => ?_)
              refine lv_goto (tgt := 37) hx hb dX12_days_73 (by decide) ?_
              exact ih_lp7431 z7443 v_lp7431 F_lp7431 _ _ _ (by omega) (by omega) hf_lp7431 hI hF hP hS (lv_sub hl [0, 1, 2] rfl)
            · skip
              have t7446 := cv_ne (a := z7438.toInt) rfl (b := 12) (by decide) c7441
              refine lv_aload_n hx hb dX12_days_56 rfl (lv_at hl 1 rfl) ?_
              refine va_get (D := (dC, dI)) (ci := 12) (v := .ref (g 14)) (C := RX12) (T := TX12) (N := 63) hx hb hwd inA_X12 hown hK hP 0 rfl rfl 18 (by decide) (hwd _ wk_195) (fun _ h9 => h9) rfl dX12_days_57 ?_
              refine lv_iconst (v := 3) hx hb dX12_days_60 (by decide) ?_
              refine lv_iload_n hx hb dX12_days_61 rfl (lv_at hl 0 rfl) ?_
              refine lv_imul hx hb dX12_days_62 ?_
              refine lv_topi (fun z7447 e7448 => ?_)
              try (have t7449 := tmul e7448 (a := 3) (by decide) (b := x2_lp7431.toInt) rfl (by omega))
              refine lv_iconst (v := 2) hx hb dX12_days_63 (by decide) ?_
              refine lv_iadd hx hb dX12_days_64 ?_
              refine lv_topi (fun z7450 e7451 => ?_)
              try (have t7452 := tadd e7451 (a := z7447.toInt) rfl (b := 2) (by decide) (by omega))
              refine lv_dup2_11 hx hb dX12_days_65 rfl rfl ?_
              refine va_iald hx hb hK hP 14 13 rfl rfl (i := z7450) (vin (a := z7450.toInt) rfl (by omega)) dX12_days_66 ?_
              refine lv_topi (fun z7453 e7454 => ?_)
              refine lv_iload_n hx hb dX12_days_67 rfl (lv_at hl 2 rfl) ?_
              refine lv_iadd hx hb dX12_days_68 ?_
              refine lv_topi (fun z7455 e7456 => ?_)
              try (have t7457 := tadd e7456 (a := z7453.toInt) rfl (b := p0.toInt) rfl (by omega))
              refine va_iast hx hb hK hP (DM hg) hS 14 13 rfl rfl (i := z7450) (x := z7455) (vin (a := z7450.toInt) rfl (by omega)) dX12_days_69 (fun H locs hP _ hS => ?_)
              have hP := va_P_eq (sM_14 g c _ _ _ _) hP
              have hI := IM.store0 hI 14 (z7450 : Int32).toNatClampNeg z7455 rfl
              have hF := frUF (k := 14) (f := upd (F_lp7431 14) (z7450 : Int32).toNatClampNeg z7455) (by decide) hF
              have hP : va_P (dC, dI) classes (wM g c v_lp7431 (va_up F_lp7431 14 (upd (F_lp7431 14) (z7450 : Int32).toNatClampNeg z7455)) rc) H := hP
              generalize (va_up F_lp7431 14 (upd (F_lp7431 14) (z7450 : Int32).toNatClampNeg z7455)) = F7458 at hP hI hF
              obtain ⟨z7459, e7460⟩ : ∃ y : Int32, y = x2_lp7431 + 1 := ⟨_, rfl⟩
              try (have t7461 := tadd e7460 rfl (b := 1) (by decide) (by omega))
              refine lv_iinc (v := z7459) (lv' := [(2, .int z7459), (0, .ref (g 0)), (1, .int p0)]) hx hb dX12_days_70 hl (k := 0) rfl (by rw [e7460]; rfl) (by decide) rfl (fun ls hl => ?_)
              refine lv_goto (tgt := 37) hx hb dX12_days_73 (by decide) ?_
              exact ih_lp7431 z7459 v_lp7431 F7458 _ _ _ (by omega) (by omega) hf_lp7431 hI hF hP hS (lv_sub hl [0, 1, 2] rfl)
      obtain ⟨n9, hn9⟩ : ∃ n : Nat, 2147483648 - 0 ≤ (n : Int) := ⟨((2147483648 - 0 : Int)).toNat, by omega⟩
      exact lp7431 n9 0 (va_up v 1 z7428) F H _ ls (by have : (0 : Int32).toInt = 0 := (by decide); omega) (by have : (0 : Int32).toInt = 0 := (by decide); omega) (fun _ _ => rfl) hI hF hP hS hl
    · skip
      have t7462 := cv_nle (a := z7422.toInt) rfl (b := 9999) (by decide) c7425
      refine lv_iconst (v := (-1)) hx hb dX12_days_23 (by decide) ?_
      have hP9 : va_P (dC, dI) classes (wM g c v F rc) H := hP
      exact W.iret (v := (-1)) hx hb hr (fun t ht hW => ⟨⟨(-1), (v, F, rc), rfl, ⟨hI, rfl, (fun _ _ => rfl), hF, (by show (¬ (1 ≤ p0.toInt ∧ p0.toInt ≤ 400 ∧ (v 1).toInt + p0.toInt ≤ 9999) ∧ ((-1) : Int32).toInt = -1 ∧ (v 1).toInt = (v 1).toInt) ∨ ((1 ≤ p0.toInt ∧ p0.toInt ≤ 400 ∧ (v 1).toInt + p0.toInt ≤ 9999) ∧ ((-1) : Int32).toInt = (v 1).toInt + p0.toInt ∧ (v 1).toInt = (v 1).toInt + p0.toInt); have : ((-1) : Int32).toInt = (-1) := (by decide); omega)⟩, (by show va_P _ _ _ t.heap; rw [ht]; exact hP9)⟩, hS.F ht⟩) hS.2.2 dX12_days_24
set_option maxHeartbeats 8000000 in
set_option maxRecDepth 100000 in
theorem c_X12_order (l : Launch) (dC : Nat → ClassId) (dI : Nat → Nat → Nat) (g : Nat → Nat) (c : Nat → ClassId) (adK adV : Nat → Nat) (v : Nat → Int32) (F : Nat → Nat → Int32) (rc sz : Nat) (p0 : Int32) (p1 : Int32) (hg : injM g) (hI : IM v F) : Met l yX12_order (Cond.code yX12_order cX12_order 3 (some .int) :: wA) ({ frames := 3, cells := 0, slots := 0, locals := 120 }) (va_Pc [.ref (g 0), .int p0, .int p1] (PM dC dI g c adK adV v F rc sz)) (va_Qi (fun (r : Int32) (u : StM) => IM u.1 u.2.1 ∧ u.2.2 = rc ∧ (∀ k, k ∉ ([45] : List Nat) → u.1 k = v k) ∧ (∀ k, k ∉ ([32, 33] : List Nat) → u.2.1 k = F k) ∧ True) (BM dC dI g c) (AM g sz)) 0 0 (AM g sz) := by
  refine Met.ofW (cc := cX12_order) (maxL := 3) (ret := (some .int)) (by decide) rfl ?_
  intro p e s m args below meth c0 s₁ B hml hv
  obtain ⟨rfl, hsz, hP, hK, hE⟩ := hv
  have hx := B.exec
  have hb := B.bytes
  have hr := B.returns
  have hts := atoms_spec (ws := Cond.code yX12_order cX12_order 3 (some .int) :: wA) B.pre
  have hwd : ∀ w ∈ wA, w.before _ s = true := fun w h => hts w (List.mem_cons_of_mem _ h)
  have hown : s.vm.findClass RX12 = some m.cls := findClass_of_methodNamed B.named
  have hlocks := B.notSynchronized
  subst hsz
  have hl := lv_entry ([.ref (g 0), .int p0, .int p1]) (n := 3) (Nat.le_of_ble_eq_true rfl)
  rw [lg_entry_eq]
  generalize (lg_sl ([.ref (g 0), .int p0, .int p1]) ++ List.replicate (3 - (lg_sl ([.ref (g 0), .int p0, .int p1])).length) Slot.unset).toArray = ls at hl ⊢
  have hl : lv_has ls 3 [(0, .ref (g 0)), (1, .int p0), (2, .int p1)] := hl
  obtain ⟨H, eH⟩ : ∃ z, z = s.heap := ⟨_, rfl⟩
  have hP : va_P (dC, dI) classes (wM g c v F rc) H := by rw [eH]; exact hP
  have hS : va_S (AM g s.heap.size) s.heap H [] := by rw [eH]; exact va_S.rf
  refine my_heap eH ?_
  have hF : ∀ k, k ∉ ([32, 33] : List Nat) → F k = F k := fun _ _ => rfl
  have rp0 := i32_rng p0
  have rp1 := i32_rng p1
  refine lv_aload_n hx hb dX12_order_0 rfl (lv_at hl 0 rfl) ?_
  refine lv_iload_n hx hb dX12_order_1 rfl (lv_at hl 1 rfl) ?_
  have t7488 : 0 ≤ (v 2).toInt ∧ (v 2).toInt ≤ 10 := hI.1 2 _ _ rfl
  refine va_calli (va_runV (As := [.int p0]) (rest := []) ⟨hx, hb, hml, hown, hwd⟩ (c_X12_isKind l dC dI g c adK adV v F rc H.size p0 hg hI ) (cwV 1 hwd (gV wk_309 wk_306 wk_307 wk_308 wk_5) rfl rfl rfl (by decide +kernel) ⟨Nat.le_of_ble_eq_true rfl, Nat.le_of_ble_eq_true rfl⟩) ⟨PM.blind, va_recv hK hP (ci := 12) (q0 := 0) rfl rfl, fun U hU hW => ⟨rfl, PM.at hK hE hP hS hU hW⟩⟩ rfl rfl hl.1 rfl (lv_room (Nat.le_of_ble_eq_true rfl)) dX12_order_2 ⟨Nat.le_of_ble_eq_true rfl, Nat.le_of_ble_eq_true rfl⟩) hS (fun q _ h => (freeM hS) q h) (freeM hS) (fun r7489 u t H1 locs ht hvm hw hB hz1 hk1 hS => ?_)
  unfold BM at hB
  rw [ht] at hB
  have hP : va_P (dC, dI) classes (wM g c v F rc) H1 := hB
  replace hw : (r7489.toInt = 1 ∧ 0 ≤ p0.toInt ∧ p0.toInt < (v 2).toInt) ∨ (r7489.toInt = 0 ∧ (p0.toInt < 0 ∨ (v 2).toInt ≤ p0.toInt)) := hw
  have hw_r7489 := hw
  clear hw
  clear hz1
  generalize H1 = H at hP hS ⊢
  refine lv_if_eq (tgt := 15) hx hb dX12_order_5 (by decide) (fun c7490 => ?_) (fun c7490 => ?_)
  · skip
    have t7491 := cv_eq (a := r7489.toInt) rfl (b := 0) (by decide) c7490
    refine lv_iconst (v := (-1)) hx hb dX12_order_15 (by decide) ?_
    have hP9 : va_P (dC, dI) classes (wM g c v F rc) H := hP
    exact W.iret (v := (-1)) hx hb hr (fun t ht hW => ⟨⟨(-1), (v, F, rc), rfl, ⟨hI, rfl, (fun _ _ => rfl), hF, trivial⟩, (by show va_P _ _ _ t.heap; rw [ht]; exact hP9)⟩, hS.F ht⟩) hS.2.2 dX12_order_16
  · skip
    have t7492 := cv_ne (a := r7489.toInt) rfl (b := 0) (by decide) c7490
    refine lv_iload_n hx hb dX12_order_8 rfl (lv_at hl 2 rfl) ?_
    refine va_calli (va_runS (As := [.int p1]) (rest := []) ⟨hx, hb, hml, hown, hwd⟩ (c_X12_isDay l dC dI g c adK adV v F rc H.size p1 hg hI ) (va_cwS 1 hwd (gT wk_556 wk_554 wk_555 wk_5) rfl rfl rfl (by decide +kernel) ⟨Nat.le_of_ble_eq_true rfl, Nat.le_of_ble_eq_true rfl⟩) ⟨PM.blind, fun U hU hW => ⟨rfl, PM.at hK hE hP hS hU hW⟩⟩ rfl rfl hl.1 rfl (lv_room (Nat.le_of_ble_eq_true rfl)) dX12_order_9 ⟨Nat.le_of_ble_eq_true rfl, Nat.le_of_ble_eq_true rfl⟩) hS (fun q _ h => (freeM hS) q h) (freeM hS) (fun r7493 u t H1 locs ht hvm hw hB hz1 hk1 hS => ?_)
    unfold BM at hB
    rw [ht] at hB
    have hP : va_P (dC, dI) classes (wM g c v F rc) H1 := hB
    have hw_r7493 : (r7493.toInt = 1 ∧ 0 ≤ p1.toInt ∧ p1.toInt ≤ 9999) ∨ (r7493.toInt = 0 ∧ (p1.toInt < 0 ∨ 9999 < p1.toInt)) := hw
    clear hw
    clear hz1
    generalize H1 = H at hP hS ⊢
    refine lv_if_ne (tgt := 17) hx hb dX12_order_12 (by decide) (fun c7494 => ?_) (fun c7494 => ?_)
    · skip
      have t7495 := cv_ne (a := r7493.toInt) rfl (b := 0) (by decide) c7494
      refine lv_aload_n hx hb dX12_order_17 rfl (lv_at hl 0 rfl) ?_
      refine va_get (D := (dC, dI)) (ci := 12) (v := .int (v 45)) (C := RX12) (T := TX12) (N := 63) hx hb hwd inA_X12 hown hK hP 0 rfl rfl 45 (by decide) (hwd _ wk_485) (fun _ h9 => h9) rfl dX12_order_18 ?_
      have t7496 : 0 ≤ (v 45).toInt ∧ (v 45).toInt ≤ 20 := hI.1 45 _ _ rfl
      refine lv_bipush (v := 20) hx hb dX12_order_21 (by decide) ?_
      refine lv_icmp_ne (tgt := 29) hx hb dX12_order_23 (by decide) (fun c7497 => ?_) (fun c7497 => ?_)
      · skip
        have t7498 := cv_ne (a := (v 45).toInt) rfl (b := 20) (by decide) c7497
        refine lv_aload_n hx hb dX12_order_29 rfl (lv_at hl 0 rfl) ?_
        refine va_get (D := (dC, dI)) (ci := 12) (v := .ref (g 32)) (C := RX12) (T := TX12) (N := 63) hx hb hwd inA_X12 hown hK hP 0 rfl rfl 46 (by decide) (hwd _ wk_214) (fun _ h9 => h9) rfl dX12_order_30 ?_
        refine lv_aload_n hx hb dX12_order_33 rfl (lv_at hl 0 rfl) ?_
        refine va_get (D := (dC, dI)) (ci := 12) (v := .int (v 45)) (C := RX12) (T := TX12) (N := 63) hx hb hwd inA_X12 hown hK hP 0 rfl rfl 45 (by decide) (hwd _ wk_485) (fun _ h9 => h9) rfl dX12_order_34 ?_
        have t7499 : 0 ≤ (v 45).toInt ∧ (v 45).toInt ≤ 20 := hI.1 45 _ _ rfl
        refine lv_iload_n hx hb dX12_order_37 rfl (lv_at hl 1 rfl) ?_
        refine va_iast hx hb hK hP (DM hg) hS 32 31 rfl rfl (i := (v 45)) (x := p0) (vin (a := (v 45).toInt) rfl (by omega)) dX12_order_38 (fun H locs hP _ hS => ?_)
        have hP := va_P_eq (sM_32 g c _ _ _ _) hP
        have hI := IM.store hI 32 (v 45 : Int32).toNatClampNeg p0 rfl (by omega)
        have hF := frUF (k := 32) (f := upd (F 32) (v 45 : Int32).toNatClampNeg p0) (by decide) hF
        have hP : va_P (dC, dI) classes (wM g c v (va_up F 32 (upd (F 32) (v 45 : Int32).toNatClampNeg p0)) rc) H := hP
        generalize (va_up F 32 (upd (F 32) (v 45 : Int32).toNatClampNeg p0)) = F7500 at hP hI hF
        refine lv_aload_n hx hb dX12_order_39 rfl (lv_at hl 0 rfl) ?_
        refine va_get (D := (dC, dI)) (ci := 12) (v := .ref (g 33)) (C := RX12) (T := TX12) (N := 63) hx hb hwd inA_X12 hown hK hP 0 rfl rfl 47 (by decide) (hwd _ wk_215) (fun _ h9 => h9) rfl dX12_order_40 ?_
        refine lv_aload_n hx hb dX12_order_43 rfl (lv_at hl 0 rfl) ?_
        refine va_get (D := (dC, dI)) (ci := 12) (v := .int (v 45)) (C := RX12) (T := TX12) (N := 63) hx hb hwd inA_X12 hown hK hP 0 rfl rfl 45 (by decide) (hwd _ wk_485) (fun _ h9 => h9) rfl dX12_order_44 ?_
        have t7501 : 0 ≤ (v 45).toInt ∧ (v 45).toInt ≤ 20 := hI.1 45 _ _ rfl
        refine lv_iload_n hx hb dX12_order_47 rfl (lv_at hl 2 rfl) ?_
        refine va_iast hx hb hK hP (DM hg) hS 33 32 rfl rfl (i := (v 45)) (x := p1) (vin (a := (v 45).toInt) rfl (by omega)) dX12_order_48 (fun H locs hP _ hS => ?_)
        have hP := va_P_eq (sM_33 g c _ _ _ _) hP
        have hI := IM.store0 hI 33 (v 45 : Int32).toNatClampNeg p1 rfl
        have hF := frUF (k := 33) (f := upd (F7500 33) (v 45 : Int32).toNatClampNeg p1) (by decide) hF
        have hP : va_P (dC, dI) classes (wM g c v (va_up F7500 33 (upd (F7500 33) (v 45 : Int32).toNatClampNeg p1)) rc) H := hP
        generalize (va_up F7500 33 (upd (F7500 33) (v 45 : Int32).toNatClampNeg p1)) = F7502 at hP hI hF
        refine lv_aload_n hx hb dX12_order_49 rfl (lv_at hl 0 rfl) ?_
        refine lv_dup hx hb dX12_order_50 rfl ?_
        refine va_get (D := (dC, dI)) (ci := 12) (v := .int (v 45)) (C := RX12) (T := TX12) (N := 63) hx hb hwd inA_X12 hown hK hP 0 rfl rfl 45 (by decide) (hwd _ wk_485) (fun _ h9 => h9) rfl dX12_order_51 ?_
        have t7503 : 0 ≤ (v 45).toInt ∧ (v 45).toInt ≤ 20 := hI.1 45 _ _ rfl
        refine lv_iconst (v := 1) hx hb dX12_order_54 (by decide) ?_
        refine lv_iadd hx hb dX12_order_55 ?_
        refine lv_topi (fun z7504 e7505 => ?_)
        try (have t7506 := tadd e7505 (a := (v 45).toInt) rfl (b := 1) (by decide) (by omega))
        refine va_put (D := (dC, dI)) (ci := 12) (v := .int z7504) (ty := .int) (C := RX12) (T := TX12) (N := 63) (fs := fsM_0 g v rc) hx hb hwd inA_X12 tyX12 tyX12_ok nmX12 hown hK hP (DM hg) hS 0 rfl rfl 45 (by decide) (hwd _ wk_485) (fun _ h9 => h9) rfl (by decide +kernel) rfl rfl (Nat.le_of_ble_eq_true rfl) dX12_order_56 (fun H locs hP _ hS => ?_)
        have hP := va_P_eq (pM_45 g c _ _ _ _) hP
        have hI := IM.put hI 45 z7504 rfl (by omega)
        refine lv_aload_n hx hb dX12_order_59 rfl (lv_at hl 0 rfl) ?_
        refine va_get (D := (dC, dI)) (ci := 12) (v := .int z7504) (C := RX12) (T := TX12) (N := 63) hx hb hwd inA_X12 hown hK hP 0 rfl rfl 45 (by decide) (hwd _ wk_485) (fun _ h9 => h9) rfl dX12_order_60 ?_
        have t7507 : 0 ≤ z7504.toInt ∧ z7504.toInt ≤ 20 := hI.1 45 _ _ rfl
        refine lv_iconst (v := 1) hx hb dX12_order_63 (by decide) ?_
        refine lv_isub hx hb dX12_order_64 ?_
        refine lv_topi (fun z7508 e7509 => ?_)
        try (have t7510 := tsub e7509 (a := z7504.toInt) rfl (b := 1) (by decide) (by omega))
        have hP9 : va_P (dC, dI) classes (wM g c (va_up v 45 z7504) F7502 rc) H := hP
        exact W.iret (v := z7508) hx hb hr (fun t ht hW => ⟨⟨z7508, ((va_up v 45 z7504), F7502, rc), rfl, ⟨hI, rfl, (frU (by decide) (fun _ _ => rfl)), hF, trivial⟩, (by show va_P _ _ _ t.heap; rw [ht]; exact hP9)⟩, hS.F ht⟩) hS.2.2 dX12_order_65
      · skip
        have t7511 := cv_eq (a := (v 45).toInt) rfl (b := 20) (by decide) c7497
        refine lv_bipush (v := (-3)) hx hb dX12_order_26 (by decide) ?_
        have hP9 : va_P (dC, dI) classes (wM g c v F rc) H := hP
        exact W.iret (v := (-3)) hx hb hr (fun t ht hW => ⟨⟨(-3), (v, F, rc), rfl, ⟨hI, rfl, (fun _ _ => rfl), hF, trivial⟩, (by show va_P _ _ _ t.heap; rw [ht]; exact hP9)⟩, hS.F ht⟩) hS.2.2 dX12_order_28
    · skip
      have t7512 := cv_eq (a := r7493.toInt) rfl (b := 0) (by decide) c7494
      refine lv_iconst (v := (-1)) hx hb dX12_order_15 (by decide) ?_
      have hP9 : va_P (dC, dI) classes (wM g c v F rc) H := hP
      exact W.iret (v := (-1)) hx hb hr (fun t ht hW => ⟨⟨(-1), (v, F, rc), rfl, ⟨hI, rfl, (fun _ _ => rfl), hF, trivial⟩, (by show va_P _ _ _ t.heap; rw [ht]; exact hP9)⟩, hS.F ht⟩) hS.2.2 dX12_order_16
set_option maxHeartbeats 8000000 in
set_option maxRecDepth 100000 in
theorem c_X12_need (l : Launch) (dC : Nat → ClassId) (dI : Nat → Nat → Nat) (g : Nat → Nat) (c : Nat → ClassId) (adK adV : Nat → Nat) (v : Nat → Int32) (F : Nat → Nat → Int32) (rc sz : Nat) (p0 : Int32) (p1 : Int32) (p2 : Int32) (hg : injM g) (hI : IM v F) : Met l yX12_need (Cond.code yX12_need cX12_need 5 (some .int) :: wA) ({ frames := 3, cells := 0, slots := 0, locals := 120 }) (va_Pc [.ref (g 0), .int p0, .int p1, .int p2] (PM dC dI g c adK adV v F rc sz)) (va_Qi (fun (r : Int32) (u : StM) => IM u.1 u.2.1 ∧ u.2.2 = rc ∧ (∀ k, k ∉ ([] : List Nat) → u.1 k = v k) ∧ (∀ k, k ∉ ([9] : List Nat) → u.2.1 k = F k) ∧ True) (BM dC dI g c) (AM g sz)) 0 0 (AM g sz) := by
  refine Met.ofW (cc := cX12_need) (maxL := 5) (ret := (some .int)) (by decide) rfl ?_
  intro p e s m args below meth c0 s₁ B hml hv
  obtain ⟨rfl, hsz, hP, hK, hE⟩ := hv
  have hx := B.exec
  have hb := B.bytes
  have hr := B.returns
  have hts := atoms_spec (ws := Cond.code yX12_need cX12_need 5 (some .int) :: wA) B.pre
  have hwd : ∀ w ∈ wA, w.before _ s = true := fun w h => hts w (List.mem_cons_of_mem _ h)
  have hown : s.vm.findClass RX12 = some m.cls := findClass_of_methodNamed B.named
  have hlocks := B.notSynchronized
  subst hsz
  have hl := lv_entry ([.ref (g 0), .int p0, .int p1, .int p2]) (n := 5) (Nat.le_of_ble_eq_true rfl)
  rw [lg_entry_eq]
  generalize (lg_sl ([.ref (g 0), .int p0, .int p1, .int p2]) ++ List.replicate (5 - (lg_sl ([.ref (g 0), .int p0, .int p1, .int p2])).length) Slot.unset).toArray = ls at hl ⊢
  have hl : lv_has ls 5 [(0, .ref (g 0)), (1, .int p0), (2, .int p1), (3, .int p2)] := hl
  obtain ⟨H, eH⟩ : ∃ z, z = s.heap := ⟨_, rfl⟩
  have hP : va_P (dC, dI) classes (wM g c v F rc) H := by rw [eH]; exact hP
  have hS : va_S (AM g s.heap.size) s.heap H [] := by rw [eH]; exact va_S.rf
  refine my_heap eH ?_
  have hF : ∀ k, k ∉ ([9] : List Nat) → F k = F k := fun _ _ => rfl
  have rp0 := i32_rng p0
  have rp1 := i32_rng p1
  have rp2 := i32_rng p2
  refine lv_aload_n hx hb dX12_need_0 rfl (lv_at hl 0 rfl) ?_
  refine lv_iload_n hx hb dX12_need_1 rfl (lv_at hl 1 rfl) ?_
  have t7552 : 0 ≤ (v 6).toInt ∧ (v 6).toInt ≤ 10 := hI.1 6 _ _ rfl
  refine va_calli (va_runV (As := [.int p0]) (rest := []) ⟨hx, hb, hml, hown, hwd⟩ (c_X12_isPlane l dC dI g c adK adV v F rc H.size p0 hg hI ) (cwV 1 hwd (gV wk_305 wk_302 wk_303 wk_304 wk_5) rfl rfl rfl (by decide +kernel) ⟨Nat.le_of_ble_eq_true rfl, Nat.le_of_ble_eq_true rfl⟩) ⟨PM.blind, va_recv hK hP (ci := 12) (q0 := 0) rfl rfl, fun U hU hW => ⟨rfl, PM.at hK hE hP hS hU hW⟩⟩ rfl rfl hl.1 rfl (lv_room (Nat.le_of_ble_eq_true rfl)) dX12_need_2 ⟨Nat.le_of_ble_eq_true rfl, Nat.le_of_ble_eq_true rfl⟩) hS (fun q _ h => (freeM hS) q h) (freeM hS) (fun r7553 u t H1 locs ht hvm hw hB hz1 hk1 hS => ?_)
  unfold BM at hB
  rw [ht] at hB
  have hP : va_P (dC, dI) classes (wM g c v F rc) H1 := hB
  replace hw : (r7553.toInt = 1 ∧ 0 ≤ p0.toInt ∧ p0.toInt < (v 6).toInt) ∨ (r7553.toInt = 0 ∧ (p0.toInt < 0 ∨ (v 6).toInt ≤ p0.toInt)) := hw
  have hw_r7553 := hw
  clear hw
  clear hz1
  generalize H1 = H at hP hS ⊢
  refine lv_if_eq (tgt := 25) hx hb dX12_need_5 (by decide) (fun c7554 => ?_) (fun c7554 => ?_)
  · skip
    have t7555 := cv_eq (a := r7553.toInt) rfl (b := 0) (by decide) c7554
    refine lv_iconst (v := (-1)) hx hb dX12_need_25 (by decide) ?_
    have hP9 : va_P (dC, dI) classes (wM g c v F rc) H := hP
    exact W.iret (v := (-1)) hx hb hr (fun t ht hW => ⟨⟨(-1), (v, F, rc), rfl, ⟨hI, rfl, (fun _ _ => rfl), hF, trivial⟩, (by show va_P _ _ _ t.heap; rw [ht]; exact hP9)⟩, hS.F ht⟩) hS.2.2 dX12_need_26
  · skip
    have t7556 := cv_ne (a := r7553.toInt) rfl (b := 0) (by decide) c7554
    refine lv_aload_n hx hb dX12_need_8 rfl (lv_at hl 0 rfl) ?_
    refine lv_iload_n hx hb dX12_need_9 rfl (lv_at hl 2 rfl) ?_
    have t7557 : 0 ≤ (v 2).toInt ∧ (v 2).toInt ≤ 10 := hI.1 2 _ _ rfl
    refine va_calli (va_runV (As := [.int p1]) (rest := []) ⟨hx, hb, hml, hown, hwd⟩ (c_X12_isKind l dC dI g c adK adV v F rc H.size p1 hg hI ) (cwV 1 hwd (gV wk_309 wk_306 wk_307 wk_308 wk_5) rfl rfl rfl (by decide +kernel) ⟨Nat.le_of_ble_eq_true rfl, Nat.le_of_ble_eq_true rfl⟩) ⟨PM.blind, va_recv hK hP (ci := 12) (q0 := 0) rfl rfl, fun U hU hW => ⟨rfl, PM.at hK hE hP hS hU hW⟩⟩ rfl rfl hl.1 rfl (lv_room (Nat.le_of_ble_eq_true rfl)) dX12_need_10 ⟨Nat.le_of_ble_eq_true rfl, Nat.le_of_ble_eq_true rfl⟩) hS (fun q _ h => (freeM hS) q h) (freeM hS) (fun r7558 u t H1 locs ht hvm hw hB hz1 hk1 hS => ?_)
    unfold BM at hB
    rw [ht] at hB
    have hP : va_P (dC, dI) classes (wM g c v F rc) H1 := hB
    replace hw : (r7558.toInt = 1 ∧ 0 ≤ p1.toInt ∧ p1.toInt < (v 2).toInt) ∨ (r7558.toInt = 0 ∧ (p1.toInt < 0 ∨ (v 2).toInt ≤ p1.toInt)) := hw
    have hw_r7558 := hw
    clear hw
    clear hz1
    generalize H1 = H at hP hS ⊢
    refine lv_if_eq (tgt := 25) hx hb dX12_need_13 (by decide) (fun c7559 => ?_) (fun c7559 => ?_)
    · skip
      have t7560 := cv_eq (a := r7558.toInt) rfl (b := 0) (by decide) c7559
      refine lv_iconst (v := (-1)) hx hb dX12_need_25 (by decide) ?_
      have hP9 : va_P (dC, dI) classes (wM g c v F rc) H := hP
      exact W.iret (v := (-1)) hx hb hr (fun t ht hW => ⟨⟨(-1), (v, F, rc), rfl, ⟨hI, rfl, (fun _ _ => rfl), hF, trivial⟩, (by show va_P _ _ _ t.heap; rw [ht]; exact hP9)⟩, hS.F ht⟩) hS.2.2 dX12_need_26
    · skip
      have t7561 := cv_ne (a := r7558.toInt) rfl (b := 0) (by decide) c7559
      refine lv_iload_n hx hb dX12_need_16 rfl (lv_at hl 3 rfl) ?_
      refine lv_iconst (v := 0) hx hb dX12_need_17 (by decide) ?_
      refine lv_iconst (v := 3) hx hb dX12_need_18 (by decide) ?_
      refine va_calli (va_runS (As := [.int p2, .int 0, .int 3]) (rest := []) ⟨hx, hb, hml, hown, hwd⟩ (c_X12_in l dC dI g c adK adV v F rc H.size p2 0 3 hg hI ) (va_cwS 3 hwd (gT wk_254 wk_252 wk_253 wk_5) rfl rfl rfl (by decide +kernel) ⟨Nat.le_of_ble_eq_true rfl, Nat.le_of_ble_eq_true rfl⟩) ⟨PM.blind, fun U hU hW => ⟨rfl, PM.at hK hE hP hS hU hW⟩⟩ rfl rfl hl.1 rfl (lv_room (Nat.le_of_ble_eq_true rfl)) dX12_need_19 ⟨Nat.le_of_ble_eq_true rfl, Nat.le_of_ble_eq_true rfl⟩) hS (fun q _ h => (freeM hS) q h) (freeM hS) (fun r7562 u t H1 locs ht hvm hw hB hz1 hk1 hS => ?_)
      unfold BM at hB
      rw [ht] at hB
      have hP : va_P (dC, dI) classes (wM g c v F rc) H1 := hB
      have hw_r7562 : (r7562.toInt = 1 ∧ (0 : Int32).toInt ≤ p2.toInt ∧ p2.toInt ≤ (3 : Int32).toInt) ∨ (r7562.toInt = 0 ∧ (p2.toInt < (0 : Int32).toInt ∨ (3 : Int32).toInt < p2.toInt)) := hw
      clear hw
      have k7563 : (0 : Int32).toInt = 0 := by decide
      have k7564 : (3 : Int32).toInt = 3 := by decide
      clear hz1
      generalize H1 = H at hP hS ⊢
      refine lv_if_ne (tgt := 27) hx hb dX12_need_22 (by decide) (fun c7565 => ?_) (fun c7565 => ?_)
      · skip
        have t7566 := cv_ne (a := r7562.toInt) rfl (b := 0) (by decide) c7565
        refine lv_aload_n hx hb dX12_need_27 rfl (lv_at hl 0 rfl) ?_
        refine lv_iload_n hx hb dX12_need_28 rfl (lv_at hl 1 rfl) ?_
        refine va_calli (va_runV (As := [.int p0]) (rest := []) ⟨hx, hb, hml, hown, hwd⟩ (c_X12_isReturned l dC dI g c adK adV v F rc H.size p0 hg hI (by omega)) (cwV 1 hwd (gV wk_313 wk_310 wk_311 wk_312 wk_5) rfl rfl rfl (by decide +kernel) ⟨Nat.le_of_ble_eq_true rfl, Nat.le_of_ble_eq_true rfl⟩) ⟨PM.blind, va_recv hK hP (ci := 12) (q0 := 0) rfl rfl, fun U hU hW => ⟨rfl, PM.at hK hE hP hS hU hW⟩⟩ rfl rfl hl.1 rfl (lv_room (Nat.le_of_ble_eq_true rfl)) dX12_need_29 ⟨Nat.le_of_ble_eq_true rfl, Nat.le_of_ble_eq_true rfl⟩) hS (fun q _ h => (freeM hS) q h) (freeM hS) (fun r7567 u t H1 locs ht hvm hw hB hz1 hk1 hS => ?_)
        unfold BM at hB
        rw [ht] at hB
        have hP : va_P (dC, dI) classes (wM g c v F rc) H1 := hB
        have hw_r7567 : 0 ≤ r7567.toInt ∧ r7567.toInt ≤ 1 := hw
        clear hw
        clear hz1
        generalize H1 = H at hP hS ⊢
        refine lv_if_ne (tgt := 45) hx hb dX12_need_32 (by decide) (fun c7568 => ?_) (fun c7568 => ?_)
        · skip
          have t7569 := cv_ne (a := r7567.toInt) rfl (b := 0) (by decide) c7568
          refine lv_bipush (v := (-2)) hx hb dX12_need_45 (by decide) ?_
          have hP9 : va_P (dC, dI) classes (wM g c v F rc) H := hP
          exact W.iret (v := (-2)) hx hb hr (fun t ht hW => ⟨⟨(-2), (v, F, rc), rfl, ⟨hI, rfl, (fun _ _ => rfl), hF, trivial⟩, (by show va_P _ _ _ t.heap; rw [ht]; exact hP9)⟩, hS.F ht⟩) hS.2.2 dX12_need_47
        · skip
          have t7570 := cv_eq (a := r7567.toInt) rfl (b := 0) (by decide) c7568
          refine lv_aload_n hx hb dX12_need_35 rfl (lv_at hl 0 rfl) ?_
          refine lv_iload_n hx hb dX12_need_36 rfl (lv_at hl 1 rfl) ?_
          refine lv_iload_n hx hb dX12_need_37 rfl (lv_at hl 2 rfl) ?_
          refine va_calli (va_runV (As := [.int p0, .int p1]) (rest := []) ⟨hx, hb, hml, hown, hwd⟩ (c_X12_onIt l dC dI g c adK adV v F rc H.size p0 p1 hg hI ) (cwV 2 hwd (gV wk_317 wk_314 wk_315 wk_316 wk_5) rfl rfl rfl (by decide +kernel) ⟨Nat.le_of_ble_eq_true rfl, Nat.le_of_ble_eq_true rfl⟩) ⟨PM.blind, va_recv hK hP (ci := 12) (q0 := 0) rfl rfl, fun U hU hW => ⟨rfl, PM.at hK hE hP hS hU hW⟩⟩ rfl rfl hl.1 rfl (lv_room (Nat.le_of_ble_eq_true rfl)) dX12_need_38 ⟨Nat.le_of_ble_eq_true rfl, Nat.le_of_ble_eq_true rfl⟩) hS (fun q _ h => (freeM hS) q h) (freeM hS) (fun r7571 u t H1 locs ht hvm hw hB hz1 hk1 hS => ?_)
          unfold BM at hB
          rw [ht] at hB
          have hP : va_P (dC, dI) classes (wM g c v F rc) H1 := hB
          clear hz1
          generalize H1 = H at hP hS ⊢
          have rr_r7571 := i32_rng r7571
          refine lv_iload_n hx hb dX12_need_41 rfl (lv_at hl 3 rfl) ?_
          refine lv_icmp_le (tgt := 48) hx hb dX12_need_42 (by decide) (fun c7572 => ?_) (fun c7572 => ?_)
          · skip
            have t7573 := cv_le (a := r7571.toInt) rfl (b := p2.toInt) rfl c7572
            refine lv_aload_n hx hb dX12_need_48 rfl (lv_at hl 0 rfl) ?_
            refine va_get (D := (dC, dI)) (ci := 12) (v := .ref (g 9)) (C := RX12) (T := TX12) (N := 63) hx hb hwd inA_X12 hown hK hP 0 rfl rfl 12 (by decide) (hwd _ wk_190) (fun _ h9 => h9) rfl dX12_need_49 ?_
            refine lv_bipush (v := 10) hx hb dX12_need_52 (by decide) ?_
            refine lv_iload_n hx hb dX12_need_54 rfl (lv_at hl 1 rfl) ?_
            refine lv_imul hx hb dX12_need_55 ?_
            refine lv_topi (fun z7574 e7575 => ?_)
            try (have t7576 := tmul e7575 (a := 10) (by decide) (b := p0.toInt) rfl (by omega))
            refine lv_iload_n hx hb dX12_need_56 rfl (lv_at hl 2 rfl) ?_
            refine lv_iadd hx hb dX12_need_57 ?_
            refine lv_topi (fun z7577 e7578 => ?_)
            try (have t7579 := tadd e7578 (a := z7574.toInt) rfl (b := p1.toInt) rfl (by omega))
            refine va_iald hx hb hK hP 9 8 rfl rfl (i := z7577) (vin (a := z7577.toInt) rfl (by omega)) dX12_need_58 ?_
            refine lv_topi (fun z7580 e7581 => ?_)
            refine lv_istore (lv' := [(4, .int z7580), (0, .ref (g 0)), (1, .int p0), (2, .int p1), (3, .int p2)]) hx hb dX12_need_59 hl (by decide) rfl (fun ls hl => ?_)
            refine lv_aload_n hx hb dX12_need_61 rfl (lv_at hl 1 rfl) ?_
            refine va_get (D := (dC, dI)) (ci := 12) (v := .ref (g 9)) (C := RX12) (T := TX12) (N := 63) hx hb hwd inA_X12 hown hK hP 0 rfl rfl 12 (by decide) (hwd _ wk_190) (fun _ h9 => h9) rfl dX12_need_62 ?_
            refine lv_bipush (v := 10) hx hb dX12_need_65 (by decide) ?_
            refine lv_iload_n hx hb dX12_need_67 rfl (lv_at hl 2 rfl) ?_
            refine lv_imul hx hb dX12_need_68 ?_
            refine lv_topi (fun z7582 e7583 => ?_)
            try (have t7584 := tmul e7583 (a := 10) (by decide) (b := p0.toInt) rfl (by omega))
            refine lv_iload_n hx hb dX12_need_69 rfl (lv_at hl 3 rfl) ?_
            refine lv_iadd hx hb dX12_need_70 ?_
            refine lv_topi (fun z7585 e7586 => ?_)
            try (have t7587 := tadd e7586 (a := z7582.toInt) rfl (b := p1.toInt) rfl (by omega))
            refine lv_iload_n hx hb dX12_need_71 rfl (lv_at hl 4 rfl) ?_
            refine va_iast hx hb hK hP (DM hg) hS 9 8 rfl rfl (i := z7585) (x := p2) (vin (a := z7585.toInt) rfl (by omega)) dX12_need_72 (fun H locs hP _ hS => ?_)
            have hP := va_P_eq (sM_9 g c _ _ _ _) hP
            have hI := IM.store0 hI 9 (z7585 : Int32).toNatClampNeg p2 rfl
            have hF := frUF (k := 9) (f := upd (F 9) (z7585 : Int32).toNatClampNeg p2) (by decide) hF
            have hP : va_P (dC, dI) classes (wM g c v (va_up F 9 (upd (F 9) (z7585 : Int32).toNatClampNeg p2)) rc) H := hP
            generalize (va_up F 9 (upd (F 9) (z7585 : Int32).toNatClampNeg p2)) = F7588 at hP hI hF
            refine lv_iload hx hb dX12_need_73 (lv_at hl 0 rfl) ?_
            have hP9 : va_P (dC, dI) classes (wM g c v F7588 rc) H := hP
            exact W.iret (v := z7580) hx hb hr (fun t ht hW => ⟨⟨z7580, (v, F7588, rc), rfl, ⟨hI, rfl, (fun _ _ => rfl), hF, trivial⟩, (by show va_P _ _ _ t.heap; rw [ht]; exact hP9)⟩, hS.F ht⟩) hS.2.2 dX12_need_75
          · skip
            have t7589 := cv_nle (a := r7571.toInt) rfl (b := p2.toInt) rfl c7572
            refine lv_bipush (v := (-2)) hx hb dX12_need_45 (by decide) ?_
            have hP9 : va_P (dC, dI) classes (wM g c v F rc) H := hP
            exact W.iret (v := (-2)) hx hb hr (fun t ht hW => ⟨⟨(-2), (v, F, rc), rfl, ⟨hI, rfl, (fun _ _ => rfl), hF, trivial⟩, (by show va_P _ _ _ t.heap; rw [ht]; exact hP9)⟩, hS.F ht⟩) hS.2.2 dX12_need_47
      · skip
        have t7590 := cv_eq (a := r7562.toInt) rfl (b := 0) (by decide) c7565
        refine lv_iconst (v := (-1)) hx hb dX12_need_25 (by decide) ?_
        have hP9 : va_P (dC, dI) classes (wM g c v F rc) H := hP
        exact W.iret (v := (-1)) hx hb hr (fun t ht hW => ⟨⟨(-1), (v, F, rc), rfl, ⟨hI, rfl, (fun _ _ => rfl), hF, trivial⟩, (by show va_P _ _ _ t.heap; rw [ht]; exact hP9)⟩, hS.F ht⟩) hS.2.2 dX12_need_26
set_option maxHeartbeats 8000000 in
set_option maxRecDepth 100000 in
theorem c_X12_link (l : Launch) (dC : Nat → ClassId) (dI : Nat → Nat → Nat) (g : Nat → Nat) (c : Nat → ClassId) (adK adV : Nat → Nat) (v : Nat → Int32) (F : Nat → Nat → Int32) (rc sz : Nat) (p0 : Int32) (p1 : Int32) (p2 : Int32) (hg : injM g) (hI : IM v F) : Met l yX12_link (Cond.code yX12_link cX12_link 4 (some .int) :: wA) ({ frames := 3, cells := 0, slots := 0, locals := 120 }) (va_Pc [.ref (g 0), .int p0, .int p1, .int p2] (PM dC dI g c adK adV v F rc sz)) (va_Qi (fun (r : Int32) (u : StM) => IM u.1 u.2.1 ∧ u.2.2 = rc ∧ (∀ k, k ∉ ([] : List Nat) → u.1 k = v k) ∧ (∀ k, k ∉ ([44, 45] : List Nat) → u.2.1 k = F k) ∧ True) (BM dC dI g c) (AM g sz)) 0 0 (AM g sz) := by
  refine Met.ofW (cc := cX12_link) (maxL := 4) (ret := (some .int)) (by decide) rfl ?_
  intro p e s m args below meth c0 s₁ B hml hv
  obtain ⟨rfl, hsz, hP, hK, hE⟩ := hv
  have hx := B.exec
  have hb := B.bytes
  have hr := B.returns
  have hts := atoms_spec (ws := Cond.code yX12_link cX12_link 4 (some .int) :: wA) B.pre
  have hwd : ∀ w ∈ wA, w.before _ s = true := fun w h => hts w (List.mem_cons_of_mem _ h)
  have hown : s.vm.findClass RX12 = some m.cls := findClass_of_methodNamed B.named
  have hlocks := B.notSynchronized
  subst hsz
  have hl := lv_entry ([.ref (g 0), .int p0, .int p1, .int p2]) (n := 4) (Nat.le_of_ble_eq_true rfl)
  rw [lg_entry_eq]
  generalize (lg_sl ([.ref (g 0), .int p0, .int p1, .int p2]) ++ List.replicate (4 - (lg_sl ([.ref (g 0), .int p0, .int p1, .int p2])).length) Slot.unset).toArray = ls at hl ⊢
  have hl : lv_has ls 4 [(0, .ref (g 0)), (1, .int p0), (2, .int p1), (3, .int p2)] := hl
  obtain ⟨H, eH⟩ : ∃ z, z = s.heap := ⟨_, rfl⟩
  have hP : va_P (dC, dI) classes (wM g c v F rc) H := by rw [eH]; exact hP
  have hS : va_S (AM g s.heap.size) s.heap H [] := by rw [eH]; exact va_S.rf
  refine my_heap eH ?_
  have hF : ∀ k, k ∉ ([44, 45] : List Nat) → F k = F k := fun _ _ => rfl
  have rp0 := i32_rng p0
  have rp1 := i32_rng p1
  have rp2 := i32_rng p2
  refine lv_aload_n hx hb dX12_link_0 rfl (lv_at hl 0 rfl) ?_
  refine lv_iload_n hx hb dX12_link_1 rfl (lv_at hl 1 rfl) ?_
  have t7638 : 0 ≤ (v 6).toInt ∧ (v 6).toInt ≤ 10 := hI.1 6 _ _ rfl
  refine va_calli (va_runV (As := [.int p0]) (rest := []) ⟨hx, hb, hml, hown, hwd⟩ (c_X12_isPlane l dC dI g c adK adV v F rc H.size p0 hg hI ) (cwV 1 hwd (gV wk_305 wk_302 wk_303 wk_304 wk_5) rfl rfl rfl (by decide +kernel) ⟨Nat.le_of_ble_eq_true rfl, Nat.le_of_ble_eq_true rfl⟩) ⟨PM.blind, va_recv hK hP (ci := 12) (q0 := 0) rfl rfl, fun U hU hW => ⟨rfl, PM.at hK hE hP hS hU hW⟩⟩ rfl rfl hl.1 rfl (lv_room (Nat.le_of_ble_eq_true rfl)) dX12_link_2 ⟨Nat.le_of_ble_eq_true rfl, Nat.le_of_ble_eq_true rfl⟩) hS (fun q _ h => (freeM hS) q h) (freeM hS) (fun r7639 u t H1 locs ht hvm hw hB hz1 hk1 hS => ?_)
  unfold BM at hB
  rw [ht] at hB
  have hP : va_P (dC, dI) classes (wM g c v F rc) H1 := hB
  replace hw : (r7639.toInt = 1 ∧ 0 ≤ p0.toInt ∧ p0.toInt < (v 6).toInt) ∨ (r7639.toInt = 0 ∧ (p0.toInt < 0 ∨ (v 6).toInt ≤ p0.toInt)) := hw
  have hw_r7639 := hw
  clear hw
  clear hz1
  generalize H1 = H at hP hS ⊢
  refine lv_if_eq (tgt := 28) hx hb dX12_link_5 (by decide) (fun c7640 => ?_) (fun c7640 => ?_)
  · skip
    have t7641 := cv_eq (a := r7639.toInt) rfl (b := 0) (by decide) c7640
    refine lv_iconst (v := (-1)) hx hb dX12_link_28 (by decide) ?_
    have hP9 : va_P (dC, dI) classes (wM g c v F rc) H := hP
    exact W.iret (v := (-1)) hx hb hr (fun t ht hW => ⟨⟨(-1), (v, F, rc), rfl, ⟨hI, rfl, (fun _ _ => rfl), hF, trivial⟩, (by show va_P _ _ _ t.heap; rw [ht]; exact hP9)⟩, hS.F ht⟩) hS.2.2 dX12_link_29
  · skip
    have t7642 := cv_ne (a := r7639.toInt) rfl (b := 0) (by decide) c7640
    refine lv_iload_n hx hb dX12_link_8 rfl (lv_at hl 2 rfl) ?_
    refine lv_iconst (v := 0) hx hb dX12_link_9 (by decide) ?_
    refine lv_bipush (v := 9) hx hb dX12_link_10 (by decide) ?_
    refine va_calli (va_runS (As := [.int p1, .int 0, .int 9]) (rest := []) ⟨hx, hb, hml, hown, hwd⟩ (c_X12_in l dC dI g c adK adV v F rc H.size p1 0 9 hg hI ) (va_cwS 3 hwd (gT wk_254 wk_252 wk_253 wk_5) rfl rfl rfl (by decide +kernel) ⟨Nat.le_of_ble_eq_true rfl, Nat.le_of_ble_eq_true rfl⟩) ⟨PM.blind, fun U hU hW => ⟨rfl, PM.at hK hE hP hS hU hW⟩⟩ rfl rfl hl.1 rfl (lv_room (Nat.le_of_ble_eq_true rfl)) dX12_link_12 ⟨Nat.le_of_ble_eq_true rfl, Nat.le_of_ble_eq_true rfl⟩) hS (fun q _ h => (freeM hS) q h) (freeM hS) (fun r7643 u t H1 locs ht hvm hw hB hz1 hk1 hS => ?_)
    unfold BM at hB
    rw [ht] at hB
    have hP : va_P (dC, dI) classes (wM g c v F rc) H1 := hB
    have hw_r7643 : (r7643.toInt = 1 ∧ (0 : Int32).toInt ≤ p1.toInt ∧ p1.toInt ≤ (9 : Int32).toInt) ∨ (r7643.toInt = 0 ∧ (p1.toInt < (0 : Int32).toInt ∨ (9 : Int32).toInt < p1.toInt)) := hw
    clear hw
    have k7644 : (0 : Int32).toInt = 0 := by decide
    have k7645 : (9 : Int32).toInt = 9 := by decide
    clear hz1
    generalize H1 = H at hP hS ⊢
    refine lv_if_eq (tgt := 28) hx hb dX12_link_15 (by decide) (fun c7646 => ?_) (fun c7646 => ?_)
    · skip
      have t7647 := cv_eq (a := r7643.toInt) rfl (b := 0) (by decide) c7646
      refine lv_iconst (v := (-1)) hx hb dX12_link_28 (by decide) ?_
      have hP9 : va_P (dC, dI) classes (wM g c v F rc) H := hP
      exact W.iret (v := (-1)) hx hb hr (fun t ht hW => ⟨⟨(-1), (v, F, rc), rfl, ⟨hI, rfl, (fun _ _ => rfl), hF, trivial⟩, (by show va_P _ _ _ t.heap; rw [ht]; exact hP9)⟩, hS.F ht⟩) hS.2.2 dX12_link_29
    · skip
      have t7648 := cv_ne (a := r7643.toInt) rfl (b := 0) (by decide) c7646
      refine lv_iload_n hx hb dX12_link_18 rfl (lv_at hl 3 rfl) ?_
      refine lv_iconst (v := 0) hx hb dX12_link_19 (by decide) ?_
      refine lv_ldc (v := 99999) hx hb hown (hwd _ wk_249) dX12_link_20 ?_
      refine va_calli (va_runS (As := [.int p2, .int 0, .int 99999]) (rest := []) ⟨hx, hb, hml, hown, hwd⟩ (c_X12_in l dC dI g c adK adV v F rc H.size p2 0 99999 hg hI ) (va_cwS 3 hwd (gT wk_254 wk_252 wk_253 wk_5) rfl rfl rfl (by decide +kernel) ⟨Nat.le_of_ble_eq_true rfl, Nat.le_of_ble_eq_true rfl⟩) ⟨PM.blind, fun U hU hW => ⟨rfl, PM.at hK hE hP hS hU hW⟩⟩ rfl rfl hl.1 rfl (lv_room (Nat.le_of_ble_eq_true rfl)) dX12_link_22 ⟨Nat.le_of_ble_eq_true rfl, Nat.le_of_ble_eq_true rfl⟩) hS (fun q _ h => (freeM hS) q h) (freeM hS) (fun r7649 u t H1 locs ht hvm hw hB hz1 hk1 hS => ?_)
      unfold BM at hB
      rw [ht] at hB
      have hP : va_P (dC, dI) classes (wM g c v F rc) H1 := hB
      have hw_r7649 : (r7649.toInt = 1 ∧ (0 : Int32).toInt ≤ p2.toInt ∧ p2.toInt ≤ (99999 : Int32).toInt) ∨ (r7649.toInt = 0 ∧ (p2.toInt < (0 : Int32).toInt ∨ (99999 : Int32).toInt < p2.toInt)) := hw
      clear hw
      have k7650 : (0 : Int32).toInt = 0 := by decide
      have k7651 : (99999 : Int32).toInt = 99999 := by decide
      clear hz1
      generalize H1 = H at hP hS ⊢
      refine lv_if_ne (tgt := 30) hx hb dX12_link_25 (by decide) (fun c7652 => ?_) (fun c7652 => ?_)
      · skip
        have t7653 := cv_ne (a := r7649.toInt) rfl (b := 0) (by decide) c7652
        refine lv_aload_n hx hb dX12_link_30 rfl (lv_at hl 0 rfl) ?_
        refine va_get (D := (dC, dI)) (ci := 12) (v := .ref (g 44)) (C := RX12) (T := TX12) (N := 63) hx hb hwd inA_X12 hown hK hP 0 rfl rfl 61 (by decide) (hwd _ wk_226) (fun _ h9 => h9) rfl dX12_link_31 ?_
        refine lv_iload_n hx hb dX12_link_34 rfl (lv_at hl 1 rfl) ?_
        refine va_iald hx hb hK hP 44 43 rfl rfl (i := p0) (vin (a := p0.toInt) rfl (by omega)) dX12_link_35 ?_
        refine lv_topi (fun z7654 e7655 => ?_)
        have t7656 : 0 ≤ z7654.toInt ∧ z7654.toInt ≤ 4 := by rw [e7655]; exact hI.2 44 _ _ rfl _
        have tzz7654 : z7654.toInt = (F 44 (p0 : Int32).toNatClampNeg).toInt := congrArg Int32.toInt e7655
        refine lv_iconst (v := 4) hx hb dX12_link_36 (by decide) ?_
        refine lv_icmp_ne (tgt := 43) hx hb dX12_link_37 (by decide) (fun c7657 => ?_) (fun c7657 => ?_)
        · skip
          have t7658 := cv_ne (a := z7654.toInt) rfl (b := 4) (by decide) c7657
          refine lv_aload_n hx hb dX12_link_43 rfl (lv_at hl 0 rfl) ?_
          refine va_get (D := (dC, dI)) (ci := 12) (v := .ref (g 45)) (C := RX12) (T := TX12) (N := 63) hx hb hwd inA_X12 hown hK hP 0 rfl rfl 62 (by decide) (hwd _ wk_227) (fun _ h9 => h9) rfl dX12_link_44 ?_
          refine lv_iconst (v := 4) hx hb dX12_link_47 (by decide) ?_
          refine lv_iload_n hx hb dX12_link_48 rfl (lv_at hl 1 rfl) ?_
          refine lv_imul hx hb dX12_link_49 ?_
          refine lv_topi (fun z7659 e7660 => ?_)
          try (have t7661 := tmul e7660 (a := 4) (by decide) (b := p0.toInt) rfl (by omega))
          refine lv_aload_n hx hb dX12_link_50 rfl (lv_at hl 0 rfl) ?_
          refine va_get (D := (dC, dI)) (ci := 12) (v := .ref (g 44)) (C := RX12) (T := TX12) (N := 63) hx hb hwd inA_X12 hown hK hP 0 rfl rfl 61 (by decide) (hwd _ wk_226) (fun _ h9 => h9) rfl dX12_link_51 ?_
          refine lv_iload_n hx hb dX12_link_54 rfl (lv_at hl 1 rfl) ?_
          refine va_iald hx hb hK hP 44 43 rfl rfl (i := p0) (vin (a := p0.toInt) rfl (by omega)) dX12_link_55 ?_
          refine lv_topi (fun z7662 e7663 => ?_)
          have t7664 : 0 ≤ z7662.toInt ∧ z7662.toInt ≤ 4 := by rw [e7663]; exact hI.2 44 _ _ rfl _
          have tzz7662 : z7662.toInt = (F 44 (p0 : Int32).toNatClampNeg).toInt := congrArg Int32.toInt e7663
          refine lv_iadd hx hb dX12_link_56 ?_
          refine lv_topi (fun z7665 e7666 => ?_)
          try (have t7667 := tadd e7666 (a := z7659.toInt) rfl (b := z7662.toInt) rfl (by omega))
          refine lv_iload_n hx hb dX12_link_57 rfl (lv_at hl 3 rfl) ?_
          refine va_iast hx hb hK hP (DM hg) hS 45 44 rfl rfl (i := z7665) (x := p2) (vin (a := z7665.toInt) rfl (by omega)) dX12_link_58 (fun H locs hP _ hS => ?_)
          have hP := va_P_eq (sM_45 g c _ _ _ _) hP
          have hI := IM.store0 hI 45 (z7665 : Int32).toNatClampNeg p2 rfl
          have hF := frUF (k := 45) (f := upd (F 45) (z7665 : Int32).toNatClampNeg p2) (by decide) hF
          have st7669 : (va_up F 45 (upd (F 45) (z7665 : Int32).toNatClampNeg p2)) 45 = upd (F 45) (z7665 : Int32).toNatClampNeg p2 := va_up_self _ _ _
          have sn7670 : ∀ k9, k9 ≠ 45 → (va_up F 45 (upd (F 45) (z7665 : Int32).toNatClampNeg p2)) k9 = F k9 := fun k9 h9 => va_up_ne _ _ h9
          have hP : va_P (dC, dI) classes (wM g c v (va_up F 45 (upd (F 45) (z7665 : Int32).toNatClampNeg p2)) rc) H := hP
          generalize (va_up F 45 (upd (F 45) (z7665 : Int32).toNatClampNeg p2)) = F7668 at hP hI hF st7669 sn7670
          refine lv_aload_n hx hb dX12_link_59 rfl (lv_at hl 0 rfl) ?_
          refine va_get (D := (dC, dI)) (ci := 12) (v := .ref (g 44)) (C := RX12) (T := TX12) (N := 63) hx hb hwd inA_X12 hown hK hP 0 rfl rfl 61 (by decide) (hwd _ wk_226) (fun _ h9 => h9) rfl dX12_link_60 ?_
          refine lv_iload_n hx hb dX12_link_63 rfl (lv_at hl 1 rfl) ?_
          refine lv_dup2_11 hx hb dX12_link_64 rfl rfl ?_
          refine va_iald hx hb hK hP 44 43 rfl rfl (i := p0) (vin (a := p0.toInt) rfl (by omega)) dX12_link_65 ?_
          refine lv_topi (fun z7671 e7672 => ?_)
          have t7673 : 0 ≤ z7671.toInt ∧ z7671.toInt ≤ 4 := by rw [e7672]; exact hI.2 44 _ _ rfl _
          have tzz7671 : z7671.toInt = (F 44 (p0 : Int32).toNatClampNeg).toInt := congrArg Int32.toInt (e7672.trans (congrFun (sn7670 44 (by decide)) _))
          refine lv_iconst (v := 1) hx hb dX12_link_66 (by decide) ?_
          refine lv_iadd hx hb dX12_link_67 ?_
          refine lv_topi (fun z7674 e7675 => ?_)
          try (have t7676 := tadd e7675 (a := z7671.toInt) rfl (b := 1) (by decide) (by omega))
          refine va_iast hx hb hK hP (DM hg) hS 44 43 rfl rfl (i := p0) (x := z7674) (vin (a := p0.toInt) rfl (by omega)) dX12_link_68 (fun H locs hP _ hS => ?_)
          have hP := va_P_eq (sM_44 g c _ _ _ _) hP
          have hI := IM.store hI 44 (p0 : Int32).toNatClampNeg z7674 rfl (by omega)
          have hF := frUF (k := 44) (f := upd (F7668 44) (p0 : Int32).toNatClampNeg z7674) (by decide) hF
          have st7678 : (va_up F7668 44 (upd (F7668 44) (p0 : Int32).toNatClampNeg z7674)) 44 = upd (F7668 44) (p0 : Int32).toNatClampNeg z7674 := va_up_self _ _ _
          have sn7679 : ∀ k9, k9 ≠ 44 → (va_up F7668 44 (upd (F7668 44) (p0 : Int32).toNatClampNeg z7674)) k9 = F7668 k9 := fun k9 h9 => va_up_ne _ _ h9
          have hP : va_P (dC, dI) classes (wM g c v (va_up F7668 44 (upd (F7668 44) (p0 : Int32).toNatClampNeg z7674)) rc) H := hP
          generalize (va_up F7668 44 (upd (F7668 44) (p0 : Int32).toNatClampNeg z7674)) = F7677 at hP hI hF st7678 sn7679
          refine lv_aload_n hx hb dX12_link_69 rfl (lv_at hl 0 rfl) ?_
          refine va_get (D := (dC, dI)) (ci := 12) (v := .ref (g 44)) (C := RX12) (T := TX12) (N := 63) hx hb hwd inA_X12 hown hK hP 0 rfl rfl 61 (by decide) (hwd _ wk_226) (fun _ h9 => h9) rfl dX12_link_70 ?_
          refine lv_iload_n hx hb dX12_link_73 rfl (lv_at hl 1 rfl) ?_
          refine va_iald hx hb hK hP 44 43 rfl rfl (i := p0) (vin (a := p0.toInt) rfl (by omega)) dX12_link_74 ?_
          refine lv_topi (fun z7680 e7681 => ?_)
          have t7682 : 0 ≤ z7680.toInt ∧ z7680.toInt ≤ 4 := by rw [e7681]; exact hI.2 44 _ _ rfl _
          have tzz7680 : z7680.toInt = (F7677 44 (p0 : Int32).toNatClampNeg).toInt := congrArg Int32.toInt e7681
          have hP9 : va_P (dC, dI) classes (wM g c v F7677 rc) H := hP
          exact W.iret (v := z7680) hx hb hr (fun t ht hW => ⟨⟨z7680, (v, F7677, rc), rfl, ⟨hI, rfl, (fun _ _ => rfl), hF, trivial⟩, (by show va_P _ _ _ t.heap; rw [ht]; exact hP9)⟩, hS.F ht⟩) hS.2.2 dX12_link_75
        · skip
          have t7683 := cv_eq (a := z7654.toInt) rfl (b := 4) (by decide) c7657
          refine lv_bipush (v := (-3)) hx hb dX12_link_40 (by decide) ?_
          have hP9 : va_P (dC, dI) classes (wM g c v F rc) H := hP
          exact W.iret (v := (-3)) hx hb hr (fun t ht hW => ⟨⟨(-3), (v, F, rc), rfl, ⟨hI, rfl, (fun _ _ => rfl), hF, trivial⟩, (by show va_P _ _ _ t.heap; rw [ht]; exact hP9)⟩, hS.F ht⟩) hS.2.2 dX12_link_42
      · skip
        have t7684 := cv_eq (a := r7649.toInt) rfl (b := 0) (by decide) c7652
        refine lv_iconst (v := (-1)) hx hb dX12_link_28 (by decide) ?_
        have hP9 : va_P (dC, dI) classes (wM g c v F rc) H := hP
        exact W.iret (v := (-1)) hx hb hr (fun t ht hW => ⟨⟨(-1), (v, F, rc), rfl, ⟨hI, rfl, (fun _ _ => rfl), hF, trivial⟩, (by show va_P _ _ _ t.heap; rw [ht]; exact hP9)⟩, hS.F ht⟩) hS.2.2 dX12_link_29
set_option maxHeartbeats 8000000 in
set_option maxRecDepth 100000 in
theorem c_X12_net (l : Launch) (dC : Nat → ClassId) (dI : Nat → Nat → Nat) (g : Nat → Nat) (c : Nat → ClassId) (adK adV : Nat → Nat) (v : Nat → Int32) (F : Nat → Nat → Int32) (rc sz : Nat) (p0 : Int32) (p1 : Int32) (p2 : Int32) (hg : injM g) (hI : IM v F) : Met l yX12_net (Cond.code yX12_net cX12_net 5 (some .int) :: wA) ({ frames := 3, cells := 0, slots := 0, locals := 120 }) (va_Pc [.ref (g 0), .int p0, .int p1, .int p2] (PM dC dI g c adK adV v F rc sz)) (va_Qi (fun (r : Int32) (u : Unit) => True) (fun (_ : Unit) => BM dC dI g c (v, F, rc)) (AM g sz)) 0 0 (AM g sz) := by
  refine Met.ofW (cc := cX12_net) (maxL := 5) (ret := (some .int)) (by decide) rfl ?_
  intro p e s m args below meth c0 s₁ B hml hv
  obtain ⟨rfl, hsz, hP, hK, hE⟩ := hv
  have hx := B.exec
  have hb := B.bytes
  have hr := B.returns
  have hts := atoms_spec (ws := Cond.code yX12_net cX12_net 5 (some .int) :: wA) B.pre
  have hwd : ∀ w ∈ wA, w.before _ s = true := fun w h => hts w (List.mem_cons_of_mem _ h)
  have hown : s.vm.findClass RX12 = some m.cls := findClass_of_methodNamed B.named
  have hlocks := B.notSynchronized
  subst hsz
  have hl := lv_entry ([.ref (g 0), .int p0, .int p1, .int p2]) (n := 5) (Nat.le_of_ble_eq_true rfl)
  rw [lg_entry_eq]
  generalize (lg_sl ([.ref (g 0), .int p0, .int p1, .int p2]) ++ List.replicate (5 - (lg_sl ([.ref (g 0), .int p0, .int p1, .int p2])).length) Slot.unset).toArray = ls at hl ⊢
  have hl : lv_has ls 5 [(0, .ref (g 0)), (1, .int p0), (2, .int p1), (3, .int p2)] := hl
  obtain ⟨H, eH⟩ : ∃ z, z = s.heap := ⟨_, rfl⟩
  have hP : va_P (dC, dI) classes (wM g c v F rc) H := by rw [eH]; exact hP
  have hS : va_S (AM g s.heap.size) s.heap H [] := by rw [eH]; exact va_S.rf
  refine my_heap eH ?_
  have rp0 := i32_rng p0
  have rp1 := i32_rng p1
  have rp2 := i32_rng p2
  refine lv_aload_n hx hb dX12_net_0 rfl (lv_at hl 0 rfl) ?_
  refine lv_iload_n hx hb dX12_net_1 rfl (lv_at hl 1 rfl) ?_
  have t7685 : 0 ≤ (v 6).toInt ∧ (v 6).toInt ≤ 10 := hI.1 6 _ _ rfl
  refine va_calli (va_runV (As := [.int p0]) (rest := []) ⟨hx, hb, hml, hown, hwd⟩ (c_X12_isPlane l dC dI g c adK adV v F rc H.size p0 hg hI ) (cwV 1 hwd (gV wk_305 wk_302 wk_303 wk_304 wk_5) rfl rfl rfl (by decide +kernel) ⟨Nat.le_of_ble_eq_true rfl, Nat.le_of_ble_eq_true rfl⟩) ⟨PM.blind, va_recv hK hP (ci := 12) (q0 := 0) rfl rfl, fun U hU hW => ⟨rfl, PM.at hK hE hP hS hU hW⟩⟩ rfl rfl hl.1 rfl (lv_room (Nat.le_of_ble_eq_true rfl)) dX12_net_2 ⟨Nat.le_of_ble_eq_true rfl, Nat.le_of_ble_eq_true rfl⟩) hS (fun q _ h => (freeM hS) q h) (freeM hS) (fun r7686 u t H1 locs ht hvm hw hB hz1 hk1 hS => ?_)
  unfold BM at hB
  rw [ht] at hB
  have hP : va_P (dC, dI) classes (wM g c v F rc) H1 := hB
  replace hw : (r7686.toInt = 1 ∧ 0 ≤ p0.toInt ∧ p0.toInt < (v 6).toInt) ∨ (r7686.toInt = 0 ∧ (p0.toInt < 0 ∨ (v 6).toInt ≤ p0.toInt)) := hw
  have hw_r7686 := hw
  clear hw
  clear hz1
  generalize H1 = H at hP hS ⊢
  refine lv_if_eq (tgt := 35) hx hb dX12_net_5 (by decide) (fun c7687 => ?_) (fun c7687 => ?_)
  · skip
    have t7688 := cv_eq (a := r7686.toInt) rfl (b := 0) (by decide) c7687
    refine lv_ldc (v := (-2000000000)) hx hb hown (hwd _ wk_542) dX12_net_35 ?_
    have hP9 : va_P (dC, dI) classes (wM g c v F rc) H := hP
    exact W.iret (v := (-2000000000)) hx hb hr (fun t ht hW => ⟨⟨(-2000000000), (), rfl, trivial, (by show va_P _ _ _ t.heap; rw [ht]; exact hP9)⟩, hS.F ht⟩) hS.2.2 dX12_net_37
  · skip
    have t7689 := cv_ne (a := r7686.toInt) rfl (b := 0) (by decide) c7687
    refine lv_iload_n hx hb dX12_net_8 rfl (lv_at hl 2 rfl) ?_
    refine lv_iconst (v := 0) hx hb dX12_net_9 (by decide) ?_
    refine lv_aload_n hx hb dX12_net_10 rfl (lv_at hl 0 rfl) ?_
    refine va_get (D := (dC, dI)) (ci := 12) (v := .ref (g 44)) (C := RX12) (T := TX12) (N := 63) hx hb hwd inA_X12 hown hK hP 0 rfl rfl 61 (by decide) (hwd _ wk_226) (fun _ h9 => h9) rfl dX12_net_11 ?_
    refine lv_iload_n hx hb dX12_net_14 rfl (lv_at hl 1 rfl) ?_
    refine va_iald hx hb hK hP 44 43 rfl rfl (i := p0) (vin (a := p0.toInt) rfl (by omega)) dX12_net_15 ?_
    refine lv_topi (fun z7690 e7691 => ?_)
    have t7692 : 0 ≤ z7690.toInt ∧ z7690.toInt ≤ 4 := by rw [e7691]; exact hI.2 44 _ _ rfl _
    refine lv_iconst (v := 1) hx hb dX12_net_16 (by decide) ?_
    refine lv_isub hx hb dX12_net_17 ?_
    refine lv_topi (fun z7693 e7694 => ?_)
    try (have t7695 := tsub e7694 (a := z7690.toInt) rfl (b := 1) (by decide) (by omega))
    refine va_calli (va_runS (As := [.int p1, .int 0, .int z7693]) (rest := []) ⟨hx, hb, hml, hown, hwd⟩ (c_X12_in l dC dI g c adK adV v F rc H.size p1 0 z7693 hg hI ) (va_cwS 3 hwd (gT wk_254 wk_252 wk_253 wk_5) rfl rfl rfl (by decide +kernel) ⟨Nat.le_of_ble_eq_true rfl, Nat.le_of_ble_eq_true rfl⟩) ⟨PM.blind, fun U hU hW => ⟨rfl, PM.at hK hE hP hS hU hW⟩⟩ rfl rfl hl.1 rfl (lv_room (Nat.le_of_ble_eq_true rfl)) dX12_net_18 ⟨Nat.le_of_ble_eq_true rfl, Nat.le_of_ble_eq_true rfl⟩) hS (fun q _ h => (freeM hS) q h) (freeM hS) (fun r7696 u t H1 locs ht hvm hw hB hz1 hk1 hS => ?_)
    unfold BM at hB
    rw [ht] at hB
    have hP : va_P (dC, dI) classes (wM g c v F rc) H1 := hB
    have hw_r7696 : (r7696.toInt = 1 ∧ (0 : Int32).toInt ≤ p1.toInt ∧ p1.toInt ≤ z7693.toInt) ∨ (r7696.toInt = 0 ∧ (p1.toInt < (0 : Int32).toInt ∨ z7693.toInt < p1.toInt)) := hw
    clear hw
    have k7697 : (0 : Int32).toInt = 0 := by decide
    clear hz1
    generalize H1 = H at hP hS ⊢
    refine lv_if_eq (tgt := 35) hx hb dX12_net_21 (by decide) (fun c7698 => ?_) (fun c7698 => ?_)
    · skip
      have t7699 := cv_eq (a := r7696.toInt) rfl (b := 0) (by decide) c7698
      refine lv_ldc (v := (-2000000000)) hx hb hown (hwd _ wk_542) dX12_net_35 ?_
      have hP9 : va_P (dC, dI) classes (wM g c v F rc) H := hP
      exact W.iret (v := (-2000000000)) hx hb hr (fun t ht hW => ⟨⟨(-2000000000), (), rfl, trivial, (by show va_P _ _ _ t.heap; rw [ht]; exact hP9)⟩, hS.F ht⟩) hS.2.2 dX12_net_37
    · skip
      have t7700 := cv_ne (a := r7696.toInt) rfl (b := 0) (by decide) c7698
      refine lv_iload_n hx hb dX12_net_24 rfl (lv_at hl 3 rfl) ?_
      refine lv_iconst (v := 1) hx hb dX12_net_25 (by decide) ?_
      refine lv_sipush (v := 999) hx hb dX12_net_26 (by decide) ?_
      refine va_calli (va_runS (As := [.int p2, .int 1, .int 999]) (rest := []) ⟨hx, hb, hml, hown, hwd⟩ (c_X12_in l dC dI g c adK adV v F rc H.size p2 1 999 hg hI ) (va_cwS 3 hwd (gT wk_254 wk_252 wk_253 wk_5) rfl rfl rfl (by decide +kernel) ⟨Nat.le_of_ble_eq_true rfl, Nat.le_of_ble_eq_true rfl⟩) ⟨PM.blind, fun U hU hW => ⟨rfl, PM.at hK hE hP hS hU hW⟩⟩ rfl rfl hl.1 rfl (lv_room (Nat.le_of_ble_eq_true rfl)) dX12_net_29 ⟨Nat.le_of_ble_eq_true rfl, Nat.le_of_ble_eq_true rfl⟩) hS (fun q _ h => (freeM hS) q h) (freeM hS) (fun r7701 u t H1 locs ht hvm hw hB hz1 hk1 hS => ?_)
      unfold BM at hB
      rw [ht] at hB
      have hP : va_P (dC, dI) classes (wM g c v F rc) H1 := hB
      have hw_r7701 : (r7701.toInt = 1 ∧ (1 : Int32).toInt ≤ p2.toInt ∧ p2.toInt ≤ (999 : Int32).toInt) ∨ (r7701.toInt = 0 ∧ (p2.toInt < (1 : Int32).toInt ∨ (999 : Int32).toInt < p2.toInt)) := hw
      clear hw
      have k7702 : (1 : Int32).toInt = 1 := by decide
      have k7703 : (999 : Int32).toInt = 999 := by decide
      clear hz1
      generalize H1 = H at hP hS ⊢
      refine lv_if_ne (tgt := 38) hx hb dX12_net_32 (by decide) (fun c7704 => ?_) (fun c7704 => ?_)
      · skip
        have t7705 := cv_ne (a := r7701.toInt) rfl (b := 0) (by decide) c7704
        refine lv_iload_n hx hb dX12_net_38 rfl (lv_at hl 2 rfl) ?_
        refine lv_iconst (v := 1) hx hb dX12_net_39 (by decide) ?_
        refine lv_iadd hx hb dX12_net_40 ?_
        refine lv_topi (fun z7706 e7707 => ?_)
        try (have t7708 := tadd e7707 (a := p1.toInt) rfl (b := 1) (by decide) (by omega))
        refine lv_aload_n hx hb dX12_net_41 rfl (lv_at hl 0 rfl) ?_
        refine va_get (D := (dC, dI)) (ci := 12) (v := .ref (g 44)) (C := RX12) (T := TX12) (N := 63) hx hb hwd inA_X12 hown hK hP 0 rfl rfl 61 (by decide) (hwd _ wk_226) (fun _ h9 => h9) rfl dX12_net_42 ?_
        refine lv_iload_n hx hb dX12_net_45 rfl (lv_at hl 1 rfl) ?_
        refine va_iald hx hb hK hP 44 43 rfl rfl (i := p0) (vin (a := p0.toInt) rfl (by omega)) dX12_net_46 ?_
        refine lv_topi (fun z7709 e7710 => ?_)
        have t7711 : 0 ≤ z7709.toInt ∧ z7709.toInt ≤ 4 := by rw [e7710]; exact hI.2 44 _ _ rfl _
        refine lv_icmp_ge (tgt := 65) hx hb dX12_net_47 (by decide) (fun c7712 => ?_) (fun c7712 => ?_)
        · skip
          have t7713 := cv_le (a := z7709.toInt) rfl (b := z7706.toInt) rfl c7712
          refine lv_iconst (v := 0) hx hb dX12_net_65 (by decide) ?_
          refine lv_istore (lv' := [(4, .int 0), (0, .ref (g 0)), (1, .int p0), (2, .int p1), (3, .int p2)]) hx hb dX12_net_66 hl (by decide) rfl (fun ls hl => ?_)
          refine lv_aload_n hx hb dX12_net_68 rfl (lv_at hl 1 rfl) ?_
          refine va_get (D := (dC, dI)) (ci := 12) (v := .ref (g 45)) (C := RX12) (T := TX12) (N := 63) hx hb hwd inA_X12 hown hK hP 0 rfl rfl 62 (by decide) (hwd _ wk_227) (fun _ h9 => h9) rfl dX12_net_69 ?_
          refine lv_iconst (v := 4) hx hb dX12_net_72 (by decide) ?_
          refine lv_iload_n hx hb dX12_net_73 rfl (lv_at hl 2 rfl) ?_
          refine lv_imul hx hb dX12_net_74 ?_
          refine lv_topi (fun z7714 e7715 => ?_)
          try (have t7716 := tmul e7715 (a := 4) (by decide) (b := p0.toInt) rfl (by omega))
          refine lv_iload_n hx hb dX12_net_75 rfl (lv_at hl 3 rfl) ?_
          refine lv_iadd hx hb dX12_net_76 ?_
          refine lv_topi (fun z7717 e7718 => ?_)
          try (have t7719 := tadd e7718 (a := z7714.toInt) rfl (b := p1.toInt) rfl (by omega))
          refine va_iald hx hb hK hP 45 44 rfl rfl (i := z7717) (vin (a := z7717.toInt) rfl (by omega)) dX12_net_77 ?_
          refine lv_topi (fun z7720 e7721 => ?_)
          refine lv_iload hx hb dX12_net_78 (lv_at hl 0 rfl) ?_
          refine lv_isub hx hb dX12_net_80 ?_
          refine lv_topi (fun z7722 e7723 => ?_)
          try (have t7724 := tsub e7723 (a := z7720.toInt) rfl (b := 0) (by decide) (by omega))
          refine lv_iload_n hx hb dX12_net_81 rfl (lv_at hl 4 rfl) ?_
          refine lv_imul hx hb dX12_net_82 ?_
          refine lv_topi (fun z7725 e7726 => ?_)
          try (have t7727 := tmul e7726 (a := z7722.toInt) rfl (b := p2.toInt) rfl (by omega))
          have hP9 : va_P (dC, dI) classes (wM g c v F rc) H := hP
          exact W.iret (v := z7725) hx hb hr (fun t ht hW => ⟨⟨z7725, (), rfl, trivial, (by show va_P _ _ _ t.heap; rw [ht]; exact hP9)⟩, hS.F ht⟩) hS.2.2 dX12_net_83
        · skip
          have t7728 := cv_nle (a := z7709.toInt) rfl (b := z7706.toInt) rfl c7712
          refine lv_aload_n hx hb dX12_net_50 rfl (lv_at hl 0 rfl) ?_
          refine va_get (D := (dC, dI)) (ci := 12) (v := .ref (g 45)) (C := RX12) (T := TX12) (N := 63) hx hb hwd inA_X12 hown hK hP 0 rfl rfl 62 (by decide) (hwd _ wk_227) (fun _ h9 => h9) rfl dX12_net_51 ?_
          refine lv_iconst (v := 4) hx hb dX12_net_54 (by decide) ?_
          refine lv_iload_n hx hb dX12_net_55 rfl (lv_at hl 1 rfl) ?_
          refine lv_imul hx hb dX12_net_56 ?_
          refine lv_topi (fun z7729 e7730 => ?_)
          try (have t7731 := tmul e7730 (a := 4) (by decide) (b := p0.toInt) rfl (by omega))
          refine lv_iload_n hx hb dX12_net_57 rfl (lv_at hl 2 rfl) ?_
          refine lv_iadd hx hb dX12_net_58 ?_
          refine lv_topi (fun z7732 e7733 => ?_)
          try (have t7734 := tadd e7733 (a := z7729.toInt) rfl (b := p1.toInt) rfl (by omega))
          refine lv_iconst (v := 1) hx hb dX12_net_59 (by decide) ?_
          refine lv_iadd hx hb dX12_net_60 ?_
          refine lv_topi (fun z7735 e7736 => ?_)
          try (have t7737 := tadd e7736 (a := z7732.toInt) rfl (b := 1) (by decide) (by omega))
          refine va_iald hx hb hK hP 45 44 rfl rfl (i := z7735) (vin (a := z7735.toInt) rfl (by omega)) dX12_net_61 ?_
          refine lv_topi (fun z7738 e7739 => ?_)
          refine lv_goto (tgt := 66) hx hb dX12_net_62 (by decide) ?_
          refine lv_istore (lv' := [(4, .int z7738), (0, .ref (g 0)), (1, .int p0), (2, .int p1), (3, .int p2)]) hx hb dX12_net_66 hl (by decide) rfl (fun ls hl => ?_)
          refine lv_aload_n hx hb dX12_net_68 rfl (lv_at hl 1 rfl) ?_
          refine va_get (D := (dC, dI)) (ci := 12) (v := .ref (g 45)) (C := RX12) (T := TX12) (N := 63) hx hb hwd inA_X12 hown hK hP 0 rfl rfl 62 (by decide) (hwd _ wk_227) (fun _ h9 => h9) rfl dX12_net_69 ?_
          refine lv_iconst (v := 4) hx hb dX12_net_72 (by decide) ?_
          refine lv_iload_n hx hb dX12_net_73 rfl (lv_at hl 2 rfl) ?_
          refine lv_imul hx hb dX12_net_74 ?_
          refine lv_topi (fun z7740 e7741 => ?_)
          try (have t7742 := tmul e7741 (a := 4) (by decide) (b := p0.toInt) rfl (by omega))
          refine lv_iload_n hx hb dX12_net_75 rfl (lv_at hl 3 rfl) ?_
          refine lv_iadd hx hb dX12_net_76 ?_
          refine lv_topi (fun z7743 e7744 => ?_)
          try (have t7745 := tadd e7744 (a := z7740.toInt) rfl (b := p1.toInt) rfl (by omega))
          refine va_iald hx hb hK hP 45 44 rfl rfl (i := z7743) (vin (a := z7743.toInt) rfl (by omega)) dX12_net_77 ?_
          refine lv_topi (fun z7746 e7747 => ?_)
          refine lv_iload hx hb dX12_net_78 (lv_at hl 0 rfl) ?_
          refine lv_isub hx hb dX12_net_80 ?_
          refine lv_topi (fun z7748 e7749 => ?_)
          try (have t7750 := tsub e7749 (a := z7746.toInt) rfl (b := z7738.toInt) rfl (by omega))
          refine lv_iload_n hx hb dX12_net_81 rfl (lv_at hl 4 rfl) ?_
          refine lv_imul hx hb dX12_net_82 ?_
          refine lv_topi (fun z7751 e7752 => ?_)
          try (have t7753 := tmul e7752 (a := z7748.toInt) rfl (b := p2.toInt) rfl (by omega))
          have hP9 : va_P (dC, dI) classes (wM g c v F rc) H := hP
          exact W.iret (v := z7751) hx hb hr (fun t ht hW => ⟨⟨z7751, (), rfl, trivial, (by show va_P _ _ _ t.heap; rw [ht]; exact hP9)⟩, hS.F ht⟩) hS.2.2 dX12_net_83
      · skip
        have t7754 := cv_eq (a := r7701.toInt) rfl (b := 0) (by decide) c7704
        refine lv_ldc (v := (-2000000000)) hx hb hown (hwd _ wk_542) dX12_net_35 ?_
        have hP9 : va_P (dC, dI) classes (wM g c v F rc) H := hP
        exact W.iret (v := (-2000000000)) hx hb hr (fun t ht hW => ⟨⟨(-2000000000), (), rfl, trivial, (by show va_P _ _ _ t.heap; rw [ht]; exact hP9)⟩, hS.F ht⟩) hS.2.2 dX12_net_37
set_option maxHeartbeats 8000000 in
set_option maxRecDepth 100000 in
theorem c_X12_reserve (l : Launch) (dC : Nat → ClassId) (dI : Nat → Nat → Nat) (g : Nat → Nat) (c : Nat → ClassId) (adK adV : Nat → Nat) (v : Nat → Int32) (F : Nat → Nat → Int32) (rc sz : Nat) (p0 : Int32) (p1 : Int32) (hg : injM g) (hI : IM v F) : Met l yX12_reserve (Cond.code yX12_reserve cX12_reserve 3 (some .int) :: wA) ({ frames := 3, cells := 0, slots := 0, locals := 120 }) (va_Pc [.ref (g 0), .int p0, .int p1] (PM dC dI g c adK adV v F rc sz)) (va_Qi (fun (r : Int32) (u : Unit) => True) (fun (_ : Unit) => BM dC dI g c (v, F, rc)) (AM g sz)) 0 0 (AM g sz) := by
  refine Met.ofW (cc := cX12_reserve) (maxL := 3) (ret := (some .int)) (by decide) rfl ?_
  intro p e s m args below meth c0 s₁ B hml hv
  obtain ⟨rfl, hsz, hP, hK, hE⟩ := hv
  have hx := B.exec
  have hb := B.bytes
  have hr := B.returns
  have hts := atoms_spec (ws := Cond.code yX12_reserve cX12_reserve 3 (some .int) :: wA) B.pre
  have hwd : ∀ w ∈ wA, w.before _ s = true := fun w h => hts w (List.mem_cons_of_mem _ h)
  have hown : s.vm.findClass RX12 = some m.cls := findClass_of_methodNamed B.named
  have hlocks := B.notSynchronized
  subst hsz
  have hl := lv_entry ([.ref (g 0), .int p0, .int p1]) (n := 3) (Nat.le_of_ble_eq_true rfl)
  rw [lg_entry_eq]
  generalize (lg_sl ([.ref (g 0), .int p0, .int p1]) ++ List.replicate (3 - (lg_sl ([.ref (g 0), .int p0, .int p1])).length) Slot.unset).toArray = ls at hl ⊢
  have hl : lv_has ls 3 [(0, .ref (g 0)), (1, .int p0), (2, .int p1)] := hl
  obtain ⟨H, eH⟩ : ∃ z, z = s.heap := ⟨_, rfl⟩
  have hP : va_P (dC, dI) classes (wM g c v F rc) H := by rw [eH]; exact hP
  have hS : va_S (AM g s.heap.size) s.heap H [] := by rw [eH]; exact va_S.rf
  refine my_heap eH ?_
  have rp0 := i32_rng p0
  have rp1 := i32_rng p1
  refine lv_aload_n hx hb dX12_reserve_0 rfl (lv_at hl 0 rfl) ?_
  refine lv_iload_n hx hb dX12_reserve_1 rfl (lv_at hl 1 rfl) ?_
  have t7755 : 0 ≤ (v 6).toInt ∧ (v 6).toInt ≤ 10 := hI.1 6 _ _ rfl
  refine va_calli (va_runV (As := [.int p0]) (rest := []) ⟨hx, hb, hml, hown, hwd⟩ (c_X12_isPlane l dC dI g c adK adV v F rc H.size p0 hg hI ) (cwV 1 hwd (gV wk_305 wk_302 wk_303 wk_304 wk_5) rfl rfl rfl (by decide +kernel) ⟨Nat.le_of_ble_eq_true rfl, Nat.le_of_ble_eq_true rfl⟩) ⟨PM.blind, va_recv hK hP (ci := 12) (q0 := 0) rfl rfl, fun U hU hW => ⟨rfl, PM.at hK hE hP hS hU hW⟩⟩ rfl rfl hl.1 rfl (lv_room (Nat.le_of_ble_eq_true rfl)) dX12_reserve_2 ⟨Nat.le_of_ble_eq_true rfl, Nat.le_of_ble_eq_true rfl⟩) hS (fun q _ h => (freeM hS) q h) (freeM hS) (fun r7756 u t H1 locs ht hvm hw hB hz1 hk1 hS => ?_)
  unfold BM at hB
  rw [ht] at hB
  have hP : va_P (dC, dI) classes (wM g c v F rc) H1 := hB
  replace hw : (r7756.toInt = 1 ∧ 0 ≤ p0.toInt ∧ p0.toInt < (v 6).toInt) ∨ (r7756.toInt = 0 ∧ (p0.toInt < 0 ∨ (v 6).toInt ≤ p0.toInt)) := hw
  have hw_r7756 := hw
  clear hw
  clear hz1
  generalize H1 = H at hP hS ⊢
  refine lv_if_eq (tgt := 30) hx hb dX12_reserve_5 (by decide) (fun c7757 => ?_) (fun c7757 => ?_)
  · skip
    have t7758 := cv_eq (a := r7756.toInt) rfl (b := 0) (by decide) c7757
    refine lv_iconst (v := (-1)) hx hb dX12_reserve_30 (by decide) ?_
    have hP9 : va_P (dC, dI) classes (wM g c v F rc) H := hP
    exact W.iret (v := (-1)) hx hb hr (fun t ht hW => ⟨⟨(-1), (), rfl, trivial, (by show va_P _ _ _ t.heap; rw [ht]; exact hP9)⟩, hS.F ht⟩) hS.2.2 dX12_reserve_31
  · skip
    have t7759 := cv_ne (a := r7756.toInt) rfl (b := 0) (by decide) c7757
    refine lv_aload_n hx hb dX12_reserve_8 rfl (lv_at hl 0 rfl) ?_
    refine lv_iload_n hx hb dX12_reserve_9 rfl (lv_at hl 2 rfl) ?_
    have t7760 : 0 ≤ (v 2).toInt ∧ (v 2).toInt ≤ 10 := hI.1 2 _ _ rfl
    refine va_calli (va_runV (As := [.int p1]) (rest := []) ⟨hx, hb, hml, hown, hwd⟩ (c_X12_isKind l dC dI g c adK adV v F rc H.size p1 hg hI ) (cwV 1 hwd (gV wk_309 wk_306 wk_307 wk_308 wk_5) rfl rfl rfl (by decide +kernel) ⟨Nat.le_of_ble_eq_true rfl, Nat.le_of_ble_eq_true rfl⟩) ⟨PM.blind, va_recv hK hP (ci := 12) (q0 := 0) rfl rfl, fun U hU hW => ⟨rfl, PM.at hK hE hP hS hU hW⟩⟩ rfl rfl hl.1 rfl (lv_room (Nat.le_of_ble_eq_true rfl)) dX12_reserve_10 ⟨Nat.le_of_ble_eq_true rfl, Nat.le_of_ble_eq_true rfl⟩) hS (fun q _ h => (freeM hS) q h) (freeM hS) (fun r7761 u t H1 locs ht hvm hw hB hz1 hk1 hS => ?_)
    unfold BM at hB
    rw [ht] at hB
    have hP : va_P (dC, dI) classes (wM g c v F rc) H1 := hB
    replace hw : (r7761.toInt = 1 ∧ 0 ≤ p1.toInt ∧ p1.toInt < (v 2).toInt) ∨ (r7761.toInt = 0 ∧ (p1.toInt < 0 ∨ (v 2).toInt ≤ p1.toInt)) := hw
    have hw_r7761 := hw
    clear hw
    clear hz1
    generalize H1 = H at hP hS ⊢
    refine lv_if_eq (tgt := 30) hx hb dX12_reserve_13 (by decide) (fun c7762 => ?_) (fun c7762 => ?_)
    · skip
      have t7763 := cv_eq (a := r7761.toInt) rfl (b := 0) (by decide) c7762
      refine lv_iconst (v := (-1)) hx hb dX12_reserve_30 (by decide) ?_
      have hP9 : va_P (dC, dI) classes (wM g c v F rc) H := hP
      exact W.iret (v := (-1)) hx hb hr (fun t ht hW => ⟨⟨(-1), (), rfl, trivial, (by show va_P _ _ _ t.heap; rw [ht]; exact hP9)⟩, hS.F ht⟩) hS.2.2 dX12_reserve_31
    · skip
      have t7764 := cv_ne (a := r7761.toInt) rfl (b := 0) (by decide) c7762
      refine lv_aload_n hx hb dX12_reserve_16 rfl (lv_at hl 0 rfl) ?_
      refine va_get (D := (dC, dI)) (ci := 12) (v := .ref (g 10)) (C := RX12) (T := TX12) (N := 63) hx hb hwd inA_X12 hown hK hP 0 rfl rfl 13 (by decide) (hwd _ wk_191) (fun _ h9 => h9) rfl dX12_reserve_17 ?_
      refine lv_bipush (v := 10) hx hb dX12_reserve_20 (by decide) ?_
      refine lv_iload_n hx hb dX12_reserve_22 rfl (lv_at hl 1 rfl) ?_
      refine lv_imul hx hb dX12_reserve_23 ?_
      refine lv_topi (fun z7765 e7766 => ?_)
      try (have t7767 := tmul e7766 (a := 10) (by decide) (b := p0.toInt) rfl (by omega))
      refine lv_iload_n hx hb dX12_reserve_24 rfl (lv_at hl 2 rfl) ?_
      refine lv_iadd hx hb dX12_reserve_25 ?_
      refine lv_topi (fun z7768 e7769 => ?_)
      try (have t7770 := tadd e7769 (a := z7765.toInt) rfl (b := p1.toInt) rfl (by omega))
      refine va_iald hx hb hK hP 10 9 rfl rfl (i := z7768) (vin (a := z7768.toInt) rfl (by omega)) dX12_reserve_26 ?_
      refine lv_topi (fun z7771 e7772 => ?_)
      refine lv_goto (tgt := 31) hx hb dX12_reserve_27 (by decide) ?_
      have hP9 : va_P (dC, dI) classes (wM g c v F rc) H := hP
      exact W.iret (v := z7771) hx hb hr (fun t ht hW => ⟨⟨z7771, (), rfl, trivial, (by show va_P _ _ _ t.heap; rw [ht]; exact hP9)⟩, hS.F ht⟩) hS.2.2 dX12_reserve_31
set_option maxHeartbeats 8000000 in
set_option maxRecDepth 100000 in
theorem c_X12_bestCost (l : Launch) (dC : Nat → ClassId) (dI : Nat → Nat → Nat) (g : Nat → Nat) (c : Nat → ClassId) (adK adV : Nat → Nat) (v : Nat → Int32) (F : Nat → Nat → Int32) (rc sz : Nat) (hg : injM g) (hI : IM v F) : Met l yX12_bestCost (Cond.code yX12_bestCost cX12_bestCost 1 (some .int) :: wA) ({ frames := 1, cells := 0, slots := 0, locals := 40 }) (va_Pc [.ref (g 0)] (PM dC dI g c adK adV v F rc sz)) (va_Qi (fun (r : Int32) (u : Unit) => True) (fun (_ : Unit) => BM dC dI g c (v, F, rc)) (AM g sz)) 0 0 (AM g sz) := by
  refine Met.ofW (cc := cX12_bestCost) (maxL := 1) (ret := (some .int)) (by decide) rfl ?_
  intro p e s m args below meth c0 s₁ B hml hv
  obtain ⟨rfl, hsz, hP, hK, hE⟩ := hv
  have hx := B.exec
  have hb := B.bytes
  have hr := B.returns
  have hts := atoms_spec (ws := Cond.code yX12_bestCost cX12_bestCost 1 (some .int) :: wA) B.pre
  have hwd : ∀ w ∈ wA, w.before _ s = true := fun w h => hts w (List.mem_cons_of_mem _ h)
  have hown : s.vm.findClass RX12 = some m.cls := findClass_of_methodNamed B.named
  have hlocks := B.notSynchronized
  subst hsz
  have hl := lv_entry ([.ref (g 0)]) (n := 1) (Nat.le_of_ble_eq_true rfl)
  rw [lg_entry_eq]
  generalize (lg_sl ([.ref (g 0)]) ++ List.replicate (1 - (lg_sl ([.ref (g 0)])).length) Slot.unset).toArray = ls at hl ⊢
  have hl : lv_has ls 1 [(0, .ref (g 0))] := hl
  obtain ⟨H, eH⟩ : ∃ z, z = s.heap := ⟨_, rfl⟩
  have hP : va_P (dC, dI) classes (wM g c v F rc) H := by rw [eH]; exact hP
  have hS : va_S (AM g s.heap.size) s.heap H [] := by rw [eH]; exact va_S.rf
  refine my_heap eH ?_
  refine lv_aload_n hx hb dX12_bestCost_0 rfl (lv_at hl 0 rfl) ?_
  refine va_get (D := (dC, dI)) (ci := 12) (v := .int (v 57)) (C := RX12) (T := TX12) (N := 63) hx hb hwd inA_X12 hown hK hP 0 rfl rfl 57 (by decide) (hwd _ wk_1304) (fun _ h9 => h9) rfl dX12_bestCost_1 ?_
  refine lv_if_eq (tgt := 14) hx hb dX12_bestCost_4 (by decide) (fun c7773 => ?_) (fun c7773 => ?_)
  · skip
    have t7774 := cv_eq (a := (v 57).toInt) rfl (b := 0) (by decide) c7773
    refine lv_ldc (v := (-2000000000)) hx hb hown (hwd _ wk_542) dX12_bestCost_14 ?_
    have hP9 : va_P (dC, dI) classes (wM g c v F rc) H := hP
    exact W.iret (v := (-2000000000)) hx hb hr (fun t ht hW => ⟨⟨(-2000000000), (), rfl, trivial, (by show va_P _ _ _ t.heap; rw [ht]; exact hP9)⟩, hS.F ht⟩) hS.2.2 dX12_bestCost_16
  · skip
    have t7775 := cv_ne (a := (v 57).toInt) rfl (b := 0) (by decide) c7773
    refine lv_aload_n hx hb dX12_bestCost_7 rfl (lv_at hl 0 rfl) ?_
    refine va_get (D := (dC, dI)) (ci := 12) (v := .int (v 58)) (C := RX12) (T := TX12) (N := 63) hx hb hwd inA_X12 hown hK hP 0 rfl rfl 58 (by decide) (hwd _ wk_1305) (fun _ h9 => h9) rfl dX12_bestCost_8 ?_
    refine lv_goto (tgt := 16) hx hb dX12_bestCost_11 (by decide) ?_
    have hP9 : va_P (dC, dI) classes (wM g c v F rc) H := hP
    exact W.iret (v := v 58) hx hb hr (fun t ht hW => ⟨⟨(v 58), (), rfl, trivial, (by show va_P _ _ _ t.heap; rw [ht]; exact hP9)⟩, hS.F ht⟩) hS.2.2 dX12_bestCost_16
