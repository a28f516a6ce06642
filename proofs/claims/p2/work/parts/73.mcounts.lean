set_option maxHeartbeats 8000000 in
set_option maxRecDepth 100000 in
theorem c_X12_kind (l : Launch) (dC : Nat → ClassId) (dI : Nat → Nat → Nat) (g : Nat → Nat) (c : Nat → ClassId) (adK adV : Nat → Nat) (v : Nat → Int32) (F : Nat → Nat → Int32) (rc sz : Nat) (p0 : Int32) (p1 : Int32) (p2 : Int32) (p3 : Int32) (hg : injM g) (hI : IM v F) : Met l yX12_kind (Cond.code yX12_kind cX12_kind 5 (some .int) :: wA) ({ frames := 2, cells := 0, slots := 0, locals := 80 }) (va_Pc [.ref (g 0), .int p0, .int p1, .int p2, .int p3] (PM dC dI g c adK adV v F rc sz)) (va_Qi (fun (r : Int32) (u : StM) => IM u.1 u.2.1 ∧ u.2.2 = rc ∧ (∀ k, k ∉ ([2] : List Nat) → u.1 k = v k) ∧ (∀ k, k ∉ ([1, 2, 3] : List Nat) → u.2.1 k = F k) ∧ ((¬ ((0 ≤ p0.toInt ∧ p0.toInt ≤ 99999) ∧ (0 ≤ p1.toInt ∧ p1.toInt ≤ 99999) ∧ (0 ≤ p2.toInt ∧ p2.toInt ≤ 99999) ∧ (0 ≤ p3.toInt ∧ p3.toInt ≤ 999999)) ∧ r.toInt = -1 ∧ (u.1 2).toInt = (v 2).toInt) ∨ (((0 ≤ p0.toInt ∧ p0.toInt ≤ 99999) ∧ (0 ≤ p1.toInt ∧ p1.toInt ≤ 99999) ∧ (0 ≤ p2.toInt ∧ p2.toInt ≤ 99999) ∧ (0 ≤ p3.toInt ∧ p3.toInt ≤ 999999)) ∧ (v 2).toInt = 10 ∧ r.toInt = -3 ∧ (u.1 2).toInt = (v 2).toInt) ∨ (((0 ≤ p0.toInt ∧ p0.toInt ≤ 99999) ∧ (0 ≤ p1.toInt ∧ p1.toInt ≤ 99999) ∧ (0 ≤ p2.toInt ∧ p2.toInt ≤ 99999) ∧ (0 ≤ p3.toInt ∧ p3.toInt ≤ 999999)) ∧ (v 2).toInt < 10 ∧ r.toInt = (v 2).toInt ∧ (u.1 2).toInt = (v 2).toInt + 1))) (BM dC dI g c) (AM g sz)) 0 0 (AM g sz) := by
  refine Met.ofW (cc := cX12_kind) (maxL := 5) (ret := (some .int)) (by decide) rfl ?_
  intro p e s m args below meth c0 s₁ B hml hv
  obtain ⟨rfl, hsz, hP, hK, hE⟩ := hv
  have hx := B.exec
  have hb := B.bytes
  have hr := B.returns
  have hts := atoms_spec (ws := Cond.code yX12_kind cX12_kind 5 (some .int) :: wA) B.pre
  have hwd : ∀ w ∈ wA, w.before _ s = true := fun w h => hts w (List.mem_cons_of_mem _ h)
  have hown : s.vm.findClass RX12 = some m.cls := findClass_of_methodNamed B.named
  have hlocks := B.notSynchronized
  subst hsz
  have hl := lv_entry ([.ref (g 0), .int p0, .int p1, .int p2, .int p3]) (n := 5) (Nat.le_of_ble_eq_true rfl)
  rw [lg_entry_eq]
  generalize (lg_sl ([.ref (g 0), .int p0, .int p1, .int p2, .int p3]) ++ List.replicate (5 - (lg_sl ([.ref (g 0), .int p0, .int p1, .int p2, .int p3])).length) Slot.unset).toArray = ls at hl ⊢
  have hl : lv_has ls 5 [(0, .ref (g 0)), (1, .int p0), (2, .int p1), (3, .int p2), (4, .int p3)] := hl
  obtain ⟨H, eH⟩ : ∃ z, z = s.heap := ⟨_, rfl⟩
  have hP : va_P (dC, dI) classes (wM g c v F rc) H := by rw [eH]; exact hP
  have hS : va_S (AM g s.heap.size) s.heap H [] := by rw [eH]; exact va_S.rf
  refine my_heap eH ?_
  have hF : ∀ k, k ∉ ([1, 2, 3] : List Nat) → F k = F k := fun _ _ => rfl
  have rp0 := i32_rng p0
  have rp1 := i32_rng p1
  have rp2 := i32_rng p2
  have rp3 := i32_rng p3
  refine lv_iload_n hx hb dX12_kind_0 rfl (lv_at hl 1 rfl) ?_
  refine lv_iconst (v := 0) hx hb dX12_kind_1 (by decide) ?_
  refine lv_ldc (v := 99999) hx hb hown (hwd _ wk_249) dX12_kind_2 ?_
  refine va_calli (va_runS (As := [.int p0, .int 0, .int 99999]) (rest := []) ⟨hx, hb, hml, hown, hwd⟩ (c_X12_in l dC dI g c adK adV v F rc H.size p0 0 99999 hg hI ) (va_cwS 3 hwd (gT wk_254 wk_252 wk_253 wk_5) rfl rfl rfl (by decide +kernel) ⟨Nat.le_of_ble_eq_true rfl, Nat.le_of_ble_eq_true rfl⟩) ⟨PM.blind, fun U hU hW => ⟨rfl, PM.at hK hE hP hS hU hW⟩⟩ rfl rfl hl.1 rfl (lv_room (Nat.le_of_ble_eq_true rfl)) dX12_kind_4 ⟨Nat.le_of_ble_eq_true rfl, Nat.le_of_ble_eq_true rfl⟩) hS (fun q _ h => (freeM hS) q h) (freeM hS) (fun r7249 u t H1 locs ht hvm hw hB hz1 hk1 hS => ?_)
  unfold BM at hB
  rw [ht] at hB
  have hP : va_P (dC, dI) classes (wM g c v F rc) H1 := hB
  have hw : (r7249.toInt = 1 ∧ (0 : Int32).toInt ≤ p0.toInt ∧ p0.toInt ≤ (99999 : Int32).toInt) ∨ (r7249.toInt = 0 ∧ (p0.toInt < (0 : Int32).toInt ∨ (99999 : Int32).toInt < p0.toInt)) := hw
  have hw_r7249 := hw
  have k7250 : (0 : Int32).toInt = 0 := by decide
  have k7251 : (99999 : Int32).toInt = 99999 := by decide
  generalize H1 = H at hP hS ⊢
  refine lv_if_eq (tgt := 41) hx hb dX12_kind_7 (by decide) (fun c7252 => ?_) (fun c7252 => ?_)
  · skip
    have t7253 := cv_eq (a := r7249.toInt) rfl (b := 0) (by decide) c7252
    refine lv_iconst (v := (-1)) hx hb dX12_kind_41 (by decide) ?_
    have hP9 : va_P (dC, dI) classes (wM g c v F rc) H := hP
    exact W.iret (v := (-1)) hx hb hr (fun t ht hW => ⟨⟨(-1), (v, F, rc), rfl, ⟨hI, rfl, (fun _ _ => rfl), hF, (by show (¬ ((0 ≤ p0.toInt ∧ p0.toInt ≤ 99999) ∧ (0 ≤ p1.toInt ∧ p1.toInt ≤ 99999) ∧ (0 ≤ p2.toInt ∧ p2.toInt ≤ 99999) ∧ (0 ≤ p3.toInt ∧ p3.toInt ≤ 999999)) ∧ ((-1) : Int32).toInt = -1 ∧ (v 2).toInt = (v 2).toInt) ∨ (((0 ≤ p0.toInt ∧ p0.toInt ≤ 99999) ∧ (0 ≤ p1.toInt ∧ p1.toInt ≤ 99999) ∧ (0 ≤ p2.toInt ∧ p2.toInt ≤ 99999) ∧ (0 ≤ p3.toInt ∧ p3.toInt ≤ 999999)) ∧ (v 2).toInt = 10 ∧ ((-1) : Int32).toInt = -3 ∧ (v 2).toInt = (v 2).toInt) ∨ (((0 ≤ p0.toInt ∧ p0.toInt ≤ 99999) ∧ (0 ≤ p1.toInt ∧ p1.toInt ≤ 99999) ∧ (0 ≤ p2.toInt ∧ p2.toInt ≤ 99999) ∧ (0 ≤ p3.toInt ∧ p3.toInt ≤ 999999)) ∧ (v 2).toInt < 10 ∧ ((-1) : Int32).toInt = (v 2).toInt ∧ (v 2).toInt = (v 2).toInt + 1); have : ((-1) : Int32).toInt = (-1) := (by decide); omega)⟩, (by show va_P _ _ _ t.heap; rw [ht]; exact hP9)⟩, hS.F ht⟩) hS.2.2 dX12_kind_42
  · skip
    have t7254 := cv_ne (a := r7249.toInt) rfl (b := 0) (by decide) c7252
    refine lv_iload_n hx hb dX12_kind_10 rfl (lv_at hl 2 rfl) ?_
    refine lv_iconst (v := 0) hx hb dX12_kind_11 (by decide) ?_
    refine lv_ldc (v := 99999) hx hb hown (hwd _ wk_249) dX12_kind_12 ?_
    refine va_calli (va_runS (As := [.int p1, .int 0, .int 99999]) (rest := []) ⟨hx, hb, hml, hown, hwd⟩ (c_X12_in l dC dI g c adK adV v F rc H.size p1 0 99999 hg hI ) (va_cwS 3 hwd (gT wk_254 wk_252 wk_253 wk_5) rfl rfl rfl (by decide +kernel) ⟨Nat.le_of_ble_eq_true rfl, Nat.le_of_ble_eq_true rfl⟩) ⟨PM.blind, fun U hU hW => ⟨rfl, PM.at hK hE hP hS hU hW⟩⟩ rfl rfl hl.1 rfl (lv_room (Nat.le_of_ble_eq_true rfl)) dX12_kind_14 ⟨Nat.le_of_ble_eq_true rfl, Nat.le_of_ble_eq_true rfl⟩) hS (fun q _ h => (freeM hS) q h) (freeM hS) (fun r7255 u t H1 locs ht hvm hw hB hz1 hk1 hS => ?_)
    unfold BM at hB
    rw [ht] at hB
    have hP : va_P (dC, dI) classes (wM g c v F rc) H1 := hB
    have hw : (r7255.toInt = 1 ∧ (0 : Int32).toInt ≤ p1.toInt ∧ p1.toInt ≤ (99999 : Int32).toInt) ∨ (r7255.toInt = 0 ∧ (p1.toInt < (0 : Int32).toInt ∨ (99999 : Int32).toInt < p1.toInt)) := hw
    have hw_r7255 := hw
    have k7256 : (0 : Int32).toInt = 0 := by decide
    have k7257 : (99999 : Int32).toInt = 99999 := by decide
    generalize H1 = H at hP hS ⊢
    refine lv_if_eq (tgt := 41) hx hb dX12_kind_17 (by decide) (fun c7258 => ?_) (fun c7258 => ?_)
    · skip
      have t7259 := cv_eq (a := r7255.toInt) rfl (b := 0) (by decide) c7258
      refine lv_iconst (v := (-1)) hx hb dX12_kind_41 (by decide) ?_
      have hP9 : va_P (dC, dI) classes (wM g c v F rc) H := hP
      exact W.iret (v := (-1)) hx hb hr (fun t ht hW => ⟨⟨(-1), (v, F, rc), rfl, ⟨hI, rfl, (fun _ _ => rfl), hF, (by show (¬ ((0 ≤ p0.toInt ∧ p0.toInt ≤ 99999) ∧ (0 ≤ p1.toInt ∧ p1.toInt ≤ 99999) ∧ (0 ≤ p2.toInt ∧ p2.toInt ≤ 99999) ∧ (0 ≤ p3.toInt ∧ p3.toInt ≤ 999999)) ∧ ((-1) : Int32).toInt = -1 ∧ (v 2).toInt = (v 2).toInt) ∨ (((0 ≤ p0.toInt ∧ p0.toInt ≤ 99999) ∧ (0 ≤ p1.toInt ∧ p1.toInt ≤ 99999) ∧ (0 ≤ p2.toInt ∧ p2.toInt ≤ 99999) ∧ (0 ≤ p3.toInt ∧ p3.toInt ≤ 999999)) ∧ (v 2).toInt = 10 ∧ ((-1) : Int32).toInt = -3 ∧ (v 2).toInt = (v 2).toInt) ∨ (((0 ≤ p0.toInt ∧ p0.toInt ≤ 99999) ∧ (0 ≤ p1.toInt ∧ p1.toInt ≤ 99999) ∧ (0 ≤ p2.toInt ∧ p2.toInt ≤ 99999) ∧ (0 ≤ p3.toInt ∧ p3.toInt ≤ 999999)) ∧ (v 2).toInt < 10 ∧ ((-1) : Int32).toInt = (v 2).toInt ∧ (v 2).toInt = (v 2).toInt + 1); have : ((-1) : Int32).toInt = (-1) := (by decide); omega)⟩, (by show va_P _ _ _ t.heap; rw [ht]; exact hP9)⟩, hS.F ht⟩) hS.2.2 dX12_kind_42
    · skip
      have t7260 := cv_ne (a := r7255.toInt) rfl (b := 0) (by decide) c7258
      refine lv_iload_n hx hb dX12_kind_20 rfl (lv_at hl 3 rfl) ?_
      refine lv_iconst (v := 0) hx hb dX12_kind_21 (by decide) ?_
      refine lv_ldc (v := 99999) hx hb hown (hwd _ wk_249) dX12_kind_22 ?_
      refine va_calli (va_runS (As := [.int p2, .int 0, .int 99999]) (rest := []) ⟨hx, hb, hml, hown, hwd⟩ (c_X12_in l dC dI g c adK adV v F rc H.size p2 0 99999 hg hI ) (va_cwS 3 hwd (gT wk_254 wk_252 wk_253 wk_5) rfl rfl rfl (by decide +kernel) ⟨Nat.le_of_ble_eq_true rfl, Nat.le_of_ble_eq_true rfl⟩) ⟨PM.blind, fun U hU hW => ⟨rfl, PM.at hK hE hP hS hU hW⟩⟩ rfl rfl hl.1 rfl (lv_room (Nat.le_of_ble_eq_true rfl)) dX12_kind_24 ⟨Nat.le_of_ble_eq_true rfl, Nat.le_of_ble_eq_true rfl⟩) hS (fun q _ h => (freeM hS) q h) (freeM hS) (fun r7261 u t H1 locs ht hvm hw hB hz1 hk1 hS => ?_)
      unfold BM at hB
      rw [ht] at hB
      have hP : va_P (dC, dI) classes (wM g c v F rc) H1 := hB
      have hw : (r7261.toInt = 1 ∧ (0 : Int32).toInt ≤ p2.toInt ∧ p2.toInt ≤ (99999 : Int32).toInt) ∨ (r7261.toInt = 0 ∧ (p2.toInt < (0 : Int32).toInt ∨ (99999 : Int32).toInt < p2.toInt)) := hw
      have hw_r7261 := hw
      have k7262 : (0 : Int32).toInt = 0 := by decide
      have k7263 : (99999 : Int32).toInt = 99999 := by decide
      generalize H1 = H at hP hS ⊢
      refine lv_if_eq (tgt := 41) hx hb dX12_kind_27 (by decide) (fun c7264 => ?_) (fun c7264 => ?_)
      · skip
        have t7265 := cv_eq (a := r7261.toInt) rfl (b := 0) (by decide) c7264
        refine lv_iconst (v := (-1)) hx hb dX12_kind_41 (by decide) ?_
        have hP9 : va_P (dC, dI) classes (wM g c v F rc) H := hP
        exact W.iret (v := (-1)) hx hb hr (fun t ht hW => ⟨⟨(-1), (v, F, rc), rfl, ⟨hI, rfl, (fun _ _ => rfl), hF, (by show (¬ ((0 ≤ p0.toInt ∧ p0.toInt ≤ 99999) ∧ (0 ≤ p1.toInt ∧ p1.toInt ≤ 99999) ∧ (0 ≤ p2.toInt ∧ p2.toInt ≤ 99999) ∧ (0 ≤ p3.toInt ∧ p3.toInt ≤ 999999)) ∧ ((-1) : Int32).toInt = -1 ∧ (v 2).toInt = (v 2).toInt) ∨ (((0 ≤ p0.toInt ∧ p0.toInt ≤ 99999) ∧ (0 ≤ p1.toInt ∧ p1.toInt ≤ 99999) ∧ (0 ≤ p2.toInt ∧ p2.toInt ≤ 99999) ∧ (0 ≤ p3.toInt ∧ p3.toInt ≤ 999999)) ∧ (v 2).toInt = 10 ∧ ((-1) : Int32).toInt = -3 ∧ (v 2).toInt = (v 2).toInt) ∨ (((0 ≤ p0.toInt ∧ p0.toInt ≤ 99999) ∧ (0 ≤ p1.toInt ∧ p1.toInt ≤ 99999) ∧ (0 ≤ p2.toInt ∧ p2.toInt ≤ 99999) ∧ (0 ≤ p3.toInt ∧ p3.toInt ≤ 999999)) ∧ (v 2).toInt < 10 ∧ ((-1) : Int32).toInt = (v 2).toInt ∧ (v 2).toInt = (v 2).toInt + 1); have : ((-1) : Int32).toInt = (-1) := (by decide); omega)⟩, (by show va_P _ _ _ t.heap; rw [ht]; exact hP9)⟩, hS.F ht⟩) hS.2.2 dX12_kind_42
      · skip
        have t7266 := cv_ne (a := r7261.toInt) rfl (b := 0) (by decide) c7264
        refine lv_iload hx hb dX12_kind_30 (lv_at hl 4 rfl) ?_
        refine lv_iconst (v := 0) hx hb dX12_kind_32 (by decide) ?_
        refine lv_ldc (v := 999999) hx hb hown (hwd _ wk_250) dX12_kind_33 ?_
        refine va_calli (va_runS (As := [.int p3, .int 0, .int 999999]) (rest := []) ⟨hx, hb, hml, hown, hwd⟩ (c_X12_in l dC dI g c adK adV v F rc H.size p3 0 999999 hg hI ) (va_cwS 3 hwd (gT wk_254 wk_252 wk_253 wk_5) rfl rfl rfl (by decide +kernel) ⟨Nat.le_of_ble_eq_true rfl, Nat.le_of_ble_eq_true rfl⟩) ⟨PM.blind, fun U hU hW => ⟨rfl, PM.at hK hE hP hS hU hW⟩⟩ rfl rfl hl.1 rfl (lv_room (Nat.le_of_ble_eq_true rfl)) dX12_kind_35 ⟨Nat.le_of_ble_eq_true rfl, Nat.le_of_ble_eq_true rfl⟩) hS (fun q _ h => (freeM hS) q h) (freeM hS) (fun r7267 u t H1 locs ht hvm hw hB hz1 hk1 hS => ?_)
        unfold BM at hB
        rw [ht] at hB
        have hP : va_P (dC, dI) classes (wM g c v F rc) H1 := hB
        have hw : (r7267.toInt = 1 ∧ (0 : Int32).toInt ≤ p3.toInt ∧ p3.toInt ≤ (999999 : Int32).toInt) ∨ (r7267.toInt = 0 ∧ (p3.toInt < (0 : Int32).toInt ∨ (999999 : Int32).toInt < p3.toInt)) := hw
        have hw_r7267 := hw
        have k7268 : (0 : Int32).toInt = 0 := by decide
        have k7269 : (999999 : Int32).toInt = 999999 := by decide
        generalize H1 = H at hP hS ⊢
        refine lv_if_ne (tgt := 43) hx hb dX12_kind_38 (by decide) (fun c7270 => ?_) (fun c7270 => ?_)
        · skip
          have t7271 := cv_ne (a := r7267.toInt) rfl (b := 0) (by decide) c7270
          refine lv_aload_n hx hb dX12_kind_43 rfl (lv_at hl 0 rfl) ?_
          refine va_get (D := (dC, dI)) (ci := 12) (v := .int (v 2)) (C := RX12) (T := TX12) (N := 63) hx hb hwd inA_X12 hown hK hP 0 rfl rfl 2 (by decide) (hwd _ wk_251) (fun _ h9 => h9) rfl dX12_kind_44 ?_
          have t7272 : 0 ≤ (v 2).toInt ∧ (v 2).toInt ≤ 10 := hI.1 2 _ _ rfl
          refine lv_bipush (v := 10) hx hb dX12_kind_47 (by decide) ?_
          refine lv_icmp_ne (tgt := 55) hx hb dX12_kind_49 (by decide) (fun c7273 => ?_) (fun c7273 => ?_)
          · skip
            have t7274 := cv_ne (a := (v 2).toInt) rfl (b := 10) (by decide) c7273
            refine lv_aload_n hx hb dX12_kind_55 rfl (lv_at hl 0 rfl) ?_
            refine va_get (D := (dC, dI)) (ci := 12) (v := .ref (g 1)) (C := RX12) (T := TX12) (N := 63) hx hb hwd inA_X12 hown hK hP 0 rfl rfl 3 (by decide) (hwd _ wk_182) (fun _ h9 => h9) rfl dX12_kind_56 ?_
            refine lv_iconst (v := 3) hx hb dX12_kind_59 (by decide) ?_
            refine lv_aload_n hx hb dX12_kind_60 rfl (lv_at hl 0 rfl) ?_
            refine va_get (D := (dC, dI)) (ci := 12) (v := .int (v 2)) (C := RX12) (T := TX12) (N := 63) hx hb hwd inA_X12 hown hK hP 0 rfl rfl 2 (by decide) (hwd _ wk_251) (fun _ h9 => h9) rfl dX12_kind_61 ?_
            have t7275 : 0 ≤ (v 2).toInt ∧ (v 2).toInt ≤ 10 := hI.1 2 _ _ rfl
            refine lv_imul hx hb dX12_kind_64 ?_
            refine lv_topi (fun z7276 e7277 => ?_)
            try (have t7278 := tmul e7277 (a := 3) (by decide) (b := (v 2).toInt) rfl (by omega))
            refine lv_iload_n hx hb dX12_kind_65 rfl (lv_at hl 1 rfl) ?_
            refine va_iast hx hb hK hP (DM hg) hS 1 0 rfl rfl (i := z7276) (x := p0) (vin (a := z7276.toInt) rfl (by omega)) dX12_kind_66 (fun H locs hP _ hS => ?_)
            have hP := va_P_eq (sM_1 g c _ _ _ _) hP
            have hI := IM.store0 hI 1 (z7276 : Int32).toNatClampNeg p0 rfl
            have hF := frUF (k := 1) (f := upd (F 1) (z7276 : Int32).toNatClampNeg p0) (by decide) hF
            have hP : va_P (dC, dI) classes (wM g c v (va_up F 1 (upd (F 1) (z7276 : Int32).toNatClampNeg p0)) rc) H := hP
            generalize (va_up F 1 (upd (F 1) (z7276 : Int32).toNatClampNeg p0)) = F7279 at hP hI hF
            refine lv_aload_n hx hb dX12_kind_67 rfl (lv_at hl 0 rfl) ?_
            refine va_get (D := (dC, dI)) (ci := 12) (v := .ref (g 1)) (C := RX12) (T := TX12) (N := 63) hx hb hwd inA_X12 hown hK hP 0 rfl rfl 3 (by decide) (hwd _ wk_182) (fun _ h9 => h9) rfl dX12_kind_68 ?_
            refine lv_iconst (v := 3) hx hb dX12_kind_71 (by decide) ?_
            refine lv_aload_n hx hb dX12_kind_72 rfl (lv_at hl 0 rfl) ?_
            refine va_get (D := (dC, dI)) (ci := 12) (v := .int (v 2)) (C := RX12) (T := TX12) (N := 63) hx hb hwd inA_X12 hown hK hP 0 rfl rfl 2 (by decide) (hwd _ wk_251) (fun _ h9 => h9) rfl dX12_kind_73 ?_
            have t7280 : 0 ≤ (v 2).toInt ∧ (v 2).toInt ≤ 10 := hI.1 2 _ _ rfl
            refine lv_imul hx hb dX12_kind_76 ?_
            refine lv_topi (fun z7281 e7282 => ?_)
            try (have t7283 := tmul e7282 (a := 3) (by decide) (b := (v 2).toInt) rfl (by omega))
            refine lv_iconst (v := 1) hx hb dX12_kind_77 (by decide) ?_
            refine lv_iadd hx hb dX12_kind_78 ?_
            refine lv_topi (fun z7284 e7285 => ?_)
            try (have t7286 := tadd e7285 (a := z7281.toInt) rfl (b := 1) (by decide) (by omega))
            refine lv_iload_n hx hb dX12_kind_79 rfl (lv_at hl 2 rfl) ?_
            refine va_iast hx hb hK hP (DM hg) hS 1 0 rfl rfl (i := z7284) (x := p1) (vin (a := z7284.toInt) rfl (by omega)) dX12_kind_80 (fun H locs hP _ hS => ?_)
            have hP := va_P_eq (sM_1 g c _ _ _ _) hP
            have hI := IM.store0 hI 1 (z7284 : Int32).toNatClampNeg p1 rfl
            have hF := frUF (k := 1) (f := upd (F7279 1) (z7284 : Int32).toNatClampNeg p1) (by decide) hF
            have hP : va_P (dC, dI) classes (wM g c v (va_up F7279 1 (upd (F7279 1) (z7284 : Int32).toNatClampNeg p1)) rc) H := hP
            generalize (va_up F7279 1 (upd (F7279 1) (z7284 : Int32).toNatClampNeg p1)) = F7287 at hP hI hF
            refine lv_aload_n hx hb dX12_kind_81 rfl (lv_at hl 0 rfl) ?_
            refine va_get (D := (dC, dI)) (ci := 12) (v := .ref (g 1)) (C := RX12) (T := TX12) (N := 63) hx hb hwd inA_X12 hown hK hP 0 rfl rfl 3 (by decide) (hwd _ wk_182) (fun _ h9 => h9) rfl dX12_kind_82 ?_
            refine lv_iconst (v := 3) hx hb dX12_kind_85 (by decide) ?_
            refine lv_aload_n hx hb dX12_kind_86 rfl (lv_at hl 0 rfl) ?_
            refine va_get (D := (dC, dI)) (ci := 12) (v := .int (v 2)) (C := RX12) (T := TX12) (N := 63) hx hb hwd inA_X12 hown hK hP 0 rfl rfl 2 (by decide) (hwd _ wk_251) (fun _ h9 => h9) rfl dX12_kind_87 ?_
            have t7288 : 0 ≤ (v 2).toInt ∧ (v 2).toInt ≤ 10 := hI.1 2 _ _ rfl
            refine lv_imul hx hb dX12_kind_90 ?_
            refine lv_topi (fun z7289 e7290 => ?_)
            try (have t7291 := tmul e7290 (a := 3) (by decide) (b := (v 2).toInt) rfl (by omega))
            refine lv_iconst (v := 2) hx hb dX12_kind_91 (by decide) ?_
            refine lv_iadd hx hb dX12_kind_92 ?_
            refine lv_topi (fun z7292 e7293 => ?_)
            try (have t7294 := tadd e7293 (a := z7289.toInt) rfl (b := 2) (by decide) (by omega))
            refine lv_iload_n hx hb dX12_kind_93 rfl (lv_at hl 3 rfl) ?_
            refine va_iast hx hb hK hP (DM hg) hS 1 0 rfl rfl (i := z7292) (x := p2) (vin (a := z7292.toInt) rfl (by omega)) dX12_kind_94 (fun H locs hP _ hS => ?_)
            have hP := va_P_eq (sM_1 g c _ _ _ _) hP
            have hI := IM.store0 hI 1 (z7292 : Int32).toNatClampNeg p2 rfl
            have hF := frUF (k := 1) (f := upd (F7287 1) (z7292 : Int32).toNatClampNeg p2) (by decide) hF
            have hP : va_P (dC, dI) classes (wM g c v (va_up F7287 1 (upd (F7287 1) (z7292 : Int32).toNatClampNeg p2)) rc) H := hP
            generalize (va_up F7287 1 (upd (F7287 1) (z7292 : Int32).toNatClampNeg p2)) = F7295 at hP hI hF
            refine lv_aload_n hx hb dX12_kind_95 rfl (lv_at hl 0 rfl) ?_
            refine va_get (D := (dC, dI)) (ci := 12) (v := .ref (g 2)) (C := RX12) (T := TX12) (N := 63) hx hb hwd inA_X12 hown hK hP 0 rfl rfl 4 (by decide) (hwd _ wk_183) (fun _ h9 => h9) rfl dX12_kind_96 ?_
            refine lv_aload_n hx hb dX12_kind_99 rfl (lv_at hl 0 rfl) ?_
            refine va_get (D := (dC, dI)) (ci := 12) (v := .int (v 2)) (C := RX12) (T := TX12) (N := 63) hx hb hwd inA_X12 hown hK hP 0 rfl rfl 2 (by decide) (hwd _ wk_251) (fun _ h9 => h9) rfl dX12_kind_100 ?_
            have t7296 : 0 ≤ (v 2).toInt ∧ (v 2).toInt ≤ 10 := hI.1 2 _ _ rfl
            refine lv_iload hx hb dX12_kind_103 (lv_at hl 4 rfl) ?_
            refine lv_sipush (v := 1000) hx hb dX12_kind_105 (by decide) ?_
            refine lv_idiv hx hb dX12_kind_108 (by decide) ?_
            refine lv_topi (fun z7297 e7298 => ?_)
            refine va_iast hx hb hK hP (DM hg) hS 2 1 rfl rfl (i := (v 2)) (x := z7297) (vin (a := (v 2).toInt) rfl (by omega)) dX12_kind_109 (fun H locs hP _ hS => ?_)
            have hP := va_P_eq (sM_2 g c _ _ _ _) hP
            have hI := IM.store0 hI 2 (v 2 : Int32).toNatClampNeg z7297 rfl
            have hF := frUF (k := 2) (f := upd (F7295 2) (v 2 : Int32).toNatClampNeg z7297) (by decide) hF
            have hP : va_P (dC, dI) classes (wM g c v (va_up F7295 2 (upd (F7295 2) (v 2 : Int32).toNatClampNeg z7297)) rc) H := hP
            generalize (va_up F7295 2 (upd (F7295 2) (v 2 : Int32).toNatClampNeg z7297)) = F7300 at hP hI hF
            refine lv_aload_n hx hb dX12_kind_110 rfl (lv_at hl 0 rfl) ?_
            refine va_get (D := (dC, dI)) (ci := 12) (v := .ref (g 3)) (C := RX12) (T := TX12) (N := 63) hx hb hwd inA_X12 hown hK hP 0 rfl rfl 5 (by decide) (hwd _ wk_184) (fun _ h9 => h9) rfl dX12_kind_111 ?_
            refine lv_aload_n hx hb dX12_kind_114 rfl (lv_at hl 0 rfl) ?_
            refine va_get (D := (dC, dI)) (ci := 12) (v := .int (v 2)) (C := RX12) (T := TX12) (N := 63) hx hb hwd inA_X12 hown hK hP 0 rfl rfl 2 (by decide) (hwd _ wk_251) (fun _ h9 => h9) rfl dX12_kind_115 ?_
            have t7301 : 0 ≤ (v 2).toInt ∧ (v 2).toInt ≤ 10 := hI.1 2 _ _ rfl
            refine lv_iload hx hb dX12_kind_118 (lv_at hl 4 rfl) ?_
            refine lv_sipush (v := 1000) hx hb dX12_kind_120 (by decide) ?_
            refine lv_irem hx hb dX12_kind_123 (by decide) ?_
            refine lv_topi (fun z7302 e7303 => ?_)
            refine va_iast hx hb hK hP (DM hg) hS 3 2 rfl rfl (i := (v 2)) (x := z7302) (vin (a := (v 2).toInt) rfl (by omega)) dX12_kind_124 (fun H locs hP _ hS => ?_)
            have hP := va_P_eq (sM_3 g c _ _ _ _) hP
            have hI := IM.store0 hI 3 (v 2 : Int32).toNatClampNeg z7302 rfl
            have hF := frUF (k := 3) (f := upd (F7300 3) (v 2 : Int32).toNatClampNeg z7302) (by decide) hF
            have hP : va_P (dC, dI) classes (wM g c v (va_up F7300 3 (upd (F7300 3) (v 2 : Int32).toNatClampNeg z7302)) rc) H := hP
            generalize (va_up F7300 3 (upd (F7300 3) (v 2 : Int32).toNatClampNeg z7302)) = F7305 at hP hI hF
            refine lv_aload_n hx hb dX12_kind_125 rfl (lv_at hl 0 rfl) ?_
            refine lv_dup hx hb dX12_kind_126 rfl ?_
            refine va_get (D := (dC, dI)) (ci := 12) (v := .int (v 2)) (C := RX12) (T := TX12) (N := 63) hx hb hwd inA_X12 hown hK hP 0 rfl rfl 2 (by decide) (hwd _ wk_251) (fun _ h9 => h9) rfl dX12_kind_127 ?_
            have t7306 : 0 ≤ (v 2).toInt ∧ (v 2).toInt ≤ 10 := hI.1 2 _ _ rfl
            refine lv_iconst (v := 1) hx hb dX12_kind_130 (by decide) ?_
            refine lv_iadd hx hb dX12_kind_131 ?_
            refine lv_topi (fun z7307 e7308 => ?_)
            try (have t7309 := tadd e7308 (a := (v 2).toInt) rfl (b := 1) (by decide) (by omega))
            refine va_put (D := (dC, dI)) (ci := 12) (v := .int z7307) (ty := .int) (C := RX12) (T := TX12) (N := 63) (fs := fsM_0 g v rc) hx hb hwd inA_X12 tyX12 tyX12_ok nmX12 hown hK hP (DM hg) hS 0 rfl rfl 2 (by decide) (hwd _ wk_251) (fun _ h9 => h9) rfl (by decide +kernel) rfl rfl (Nat.le_of_ble_eq_true rfl) dX12_kind_132 (fun H locs hP _ hS => ?_)
            have hP := va_P_eq (pM_2 g c _ _ _ _) hP
            have hI := IM.put hI 2 z7307 rfl (by omega)
            refine lv_aload_n hx hb dX12_kind_135 rfl (lv_at hl 0 rfl) ?_
            refine va_get (D := (dC, dI)) (ci := 12) (v := .int z7307) (C := RX12) (T := TX12) (N := 63) hx hb hwd inA_X12 hown hK hP 0 rfl rfl 2 (by decide) (hwd _ wk_251) (fun _ h9 => h9) rfl dX12_kind_136 ?_
            have t7310 : 0 ≤ z7307.toInt ∧ z7307.toInt ≤ 10 := hI.1 2 _ _ rfl
            refine lv_iconst (v := 1) hx hb dX12_kind_139 (by decide) ?_
            refine lv_isub hx hb dX12_kind_140 ?_
            refine lv_topi (fun z7311 e7312 => ?_)
            try (have t7313 := tsub e7312 (a := z7307.toInt) rfl (b := 1) (by decide) (by omega))
            have hP9 : va_P (dC, dI) classes (wM g c (va_up v 2 z7307) F7305 rc) H := hP
            exact W.iret (v := z7311) hx hb hr (fun t ht hW => ⟨⟨z7311, ((va_up v 2 z7307), F7305, rc), rfl, ⟨hI, rfl, (frU (by decide) (fun _ _ => rfl)), hF, (by show (¬ ((0 ≤ p0.toInt ∧ p0.toInt ≤ 99999) ∧ (0 ≤ p1.toInt ∧ p1.toInt ≤ 99999) ∧ (0 ≤ p2.toInt ∧ p2.toInt ≤ 99999) ∧ (0 ≤ p3.toInt ∧ p3.toInt ≤ 999999)) ∧ z7311.toInt = -1 ∧ z7307.toInt = (v 2).toInt) ∨ (((0 ≤ p0.toInt ∧ p0.toInt ≤ 99999) ∧ (0 ≤ p1.toInt ∧ p1.toInt ≤ 99999) ∧ (0 ≤ p2.toInt ∧ p2.toInt ≤ 99999) ∧ (0 ≤ p3.toInt ∧ p3.toInt ≤ 999999)) ∧ (v 2).toInt = 10 ∧ z7311.toInt = -3 ∧ z7307.toInt = (v 2).toInt) ∨ (((0 ≤ p0.toInt ∧ p0.toInt ≤ 99999) ∧ (0 ≤ p1.toInt ∧ p1.toInt ≤ 99999) ∧ (0 ≤ p2.toInt ∧ p2.toInt ≤ 99999) ∧ (0 ≤ p3.toInt ∧ p3.toInt ≤ 999999)) ∧ (v 2).toInt < 10 ∧ z7311.toInt = (v 2).toInt ∧ z7307.toInt = (v 2).toInt + 1); omega)⟩, (by show va_P _ _ _ t.heap; rw [ht]; exact hP9)⟩, hS.F ht⟩) hS.2.2 dX12_kind_141
          · skip
            have t7314 := cv_eq (a := (v 2).toInt) rfl (b := 10) (by decide) c7273
            refine lv_bipush (v := (-3)) hx hb dX12_kind_52 (by decide) ?_
            have hP9 : va_P (dC, dI) classes (wM g c v F rc) H := hP
            exact W.iret (v := (-3)) hx hb hr (fun t ht hW => ⟨⟨(-3), (v, F, rc), rfl, ⟨hI, rfl, (fun _ _ => rfl), hF, (by show (¬ ((0 ≤ p0.toInt ∧ p0.toInt ≤ 99999) ∧ (0 ≤ p1.toInt ∧ p1.toInt ≤ 99999) ∧ (0 ≤ p2.toInt ∧ p2.toInt ≤ 99999) ∧ (0 ≤ p3.toInt ∧ p3.toInt ≤ 999999)) ∧ ((-3) : Int32).toInt = -1 ∧ (v 2).toInt = (v 2).toInt) ∨ (((0 ≤ p0.toInt ∧ p0.toInt ≤ 99999) ∧ (0 ≤ p1.toInt ∧ p1.toInt ≤ 99999) ∧ (0 ≤ p2.toInt ∧ p2.toInt ≤ 99999) ∧ (0 ≤ p3.toInt ∧ p3.toInt ≤ 999999)) ∧ (v 2).toInt = 10 ∧ ((-3) : Int32).toInt = -3 ∧ (v 2).toInt = (v 2).toInt) ∨ (((0 ≤ p0.toInt ∧ p0.toInt ≤ 99999) ∧ (0 ≤ p1.toInt ∧ p1.toInt ≤ 99999) ∧ (0 ≤ p2.toInt ∧ p2.toInt ≤ 99999) ∧ (0 ≤ p3.toInt ∧ p3.toInt ≤ 999999)) ∧ (v 2).toInt < 10 ∧ ((-3) : Int32).toInt = (v 2).toInt ∧ (v 2).toInt = (v 2).toInt + 1); have : ((-3) : Int32).toInt = (-3) := (by decide); omega)⟩, (by show va_P _ _ _ t.heap; rw [ht]; exact hP9)⟩, hS.F ht⟩) hS.2.2 dX12_kind_54
        · skip
          have t7315 := cv_eq (a := r7267.toInt) rfl (b := 0) (by decide) c7270
          refine lv_iconst (v := (-1)) hx hb dX12_kind_41 (by decide) ?_
          have hP9 : va_P (dC, dI) classes (wM g c v F rc) H := hP
          exact W.iret (v := (-1)) hx hb hr (fun t ht hW => ⟨⟨(-1), (v, F, rc), rfl, ⟨hI, rfl, (fun _ _ => rfl), hF, (by show (¬ ((0 ≤ p0.toInt ∧ p0.toInt ≤ 99999) ∧ (0 ≤ p1.toInt ∧ p1.toInt ≤ 99999) ∧ (0 ≤ p2.toInt ∧ p2.toInt ≤ 99999) ∧ (0 ≤ p3.toInt ∧ p3.toInt ≤ 999999)) ∧ ((-1) : Int32).toInt = -1 ∧ (v 2).toInt = (v 2).toInt) ∨ (((0 ≤ p0.toInt ∧ p0.toInt ≤ 99999) ∧ (0 ≤ p1.toInt ∧ p1.toInt ≤ 99999) ∧ (0 ≤ p2.toInt ∧ p2.toInt ≤ 99999) ∧ (0 ≤ p3.toInt ∧ p3.toInt ≤ 999999)) ∧ (v 2).toInt = 10 ∧ ((-1) : Int32).toInt = -3 ∧ (v 2).toInt = (v 2).toInt) ∨ (((0 ≤ p0.toInt ∧ p0.toInt ≤ 99999) ∧ (0 ≤ p1.toInt ∧ p1.toInt ≤ 99999) ∧ (0 ≤ p2.toInt ∧ p2.toInt ≤ 99999) ∧ (0 ≤ p3.toInt ∧ p3.toInt ≤ 999999)) ∧ (v 2).toInt < 10 ∧ ((-1) : Int32).toInt = (v 2).toInt ∧ (v 2).toInt = (v 2).toInt + 1); have : ((-1) : Int32).toInt = (-1) := (by decide); omega)⟩, (by show va_P _ _ _ t.heap; rw [ht]; exact hP9)⟩, hS.F ht⟩) hS.2.2 dX12_kind_42
set_option maxHeartbeats 8000000 in
set_option maxRecDepth 100000 in
theorem c_X12_plane (l : Launch) (dC : Nat → ClassId) (dI : Nat → Nat → Nat) (g : Nat → Nat) (c : Nat → ClassId) (adK adV : Nat → Nat) (v : Nat → Int32) (F : Nat → Nat → Int32) (rc sz : Nat) (p0 : Int32) (hg : injM g) (hI : IM v F) : Met l yX12_plane (Cond.code yX12_plane cX12_plane 2 (some .int) :: wA) ({ frames := 2, cells := 0, slots := 0, locals := 80 }) (va_Pc [.ref (g 0), .int p0] (PM dC dI g c adK adV v F rc sz)) (va_Qi (fun (r : Int32) (u : StM) => IM u.1 u.2.1 ∧ u.2.2 = rc ∧ (∀ k, k ∉ ([6] : List Nat) → u.1 k = v k) ∧ (∀ k, k ∉ ([4, 7, 8, 35] : List Nat) → u.2.1 k = F k) ∧ ((¬ ((0 ≤ p0.toInt ∧ p0.toInt ≤ 999999)) ∧ r.toInt = -1 ∧ (u.1 6).toInt = (v 6).toInt) ∨ (((0 ≤ p0.toInt ∧ p0.toInt ≤ 999999)) ∧ (v 6).toInt = 10 ∧ r.toInt = -3 ∧ (u.1 6).toInt = (v 6).toInt) ∨ (((0 ≤ p0.toInt ∧ p0.toInt ≤ 999999)) ∧ (v 6).toInt < 10 ∧ r.toInt = (v 6).toInt ∧ (u.1 6).toInt = (v 6).toInt + 1))) (BM dC dI g c) (AM g sz)) 0 0 (AM g sz) := by
  refine Met.ofW (cc := cX12_plane) (maxL := 2) (ret := (some .int)) (by decide) rfl ?_
  intro p e s m args below meth c0 s₁ B hml hv
  obtain ⟨rfl, hsz, hP, hK, hE⟩ := hv
  have hx := B.exec
  have hb := B.bytes
  have hr := B.returns
  have hts := atoms_spec (ws := Cond.code yX12_plane cX12_plane 2 (some .int) :: wA) B.pre
  have hwd : ∀ w ∈ wA, w.before _ s = true := fun w h => hts w (List.mem_cons_of_mem _ h)
  have hown : s.vm.findClass RX12 = some m.cls := findClass_of_methodNamed B.named
  have hlocks := B.notSynchronized
  subst hsz
  have hl := lv_entry ([.ref (g 0), .int p0]) (n := 2) (Nat.le_of_ble_eq_true rfl)
  rw [lg_entry_eq]
  generalize (lg_sl ([.ref (g 0), .int p0]) ++ List.replicate (2 - (lg_sl ([.ref (g 0), .int p0])).length) Slot.unset).toArray = ls at hl ⊢
  have hl : lv_has ls 2 [(0, .ref (g 0)), (1, .int p0)] := hl
  obtain ⟨H, eH⟩ : ∃ z, z = s.heap := ⟨_, rfl⟩
  have hP : va_P (dC, dI) classes (wM g c v F rc) H := by rw [eH]; exact hP
  have hS : va_S (AM g s.heap.size) s.heap H [] := by rw [eH]; exact va_S.rf
  refine my_heap eH ?_
  have hF : ∀ k, k ∉ ([4, 7, 8, 35] : List Nat) → F k = F k := fun _ _ => rfl
  have rp0 := i32_rng p0
  refine lv_iload_n hx hb dX12_plane_0 rfl (lv_at hl 1 rfl) ?_
  refine lv_iconst (v := 0) hx hb dX12_plane_1 (by decide) ?_
  refine lv_ldc (v := 999999) hx hb hown (hwd _ wk_250) dX12_plane_2 ?_
  refine va_calli (va_runS (As := [.int p0, .int 0, .int 999999]) (rest := []) ⟨hx, hb, hml, hown, hwd⟩ (c_X12_in l dC dI g c adK adV v F rc H.size p0 0 999999 hg hI ) (va_cwS 3 hwd (gT wk_254 wk_252 wk_253 wk_5) rfl rfl rfl (by decide +kernel) ⟨Nat.le_of_ble_eq_true rfl, Nat.le_of_ble_eq_true rfl⟩) ⟨PM.blind, fun U hU hW => ⟨rfl, PM.at hK hE hP hS hU hW⟩⟩ rfl rfl hl.1 rfl (lv_room (Nat.le_of_ble_eq_true rfl)) dX12_plane_4 ⟨Nat.le_of_ble_eq_true rfl, Nat.le_of_ble_eq_true rfl⟩) hS (fun q _ h => (freeM hS) q h) (freeM hS) (fun r7342 u t H1 locs ht hvm hw hB hz1 hk1 hS => ?_)
  unfold BM at hB
  rw [ht] at hB
  have hP : va_P (dC, dI) classes (wM g c v F rc) H1 := hB
  have hw : (r7342.toInt = 1 ∧ (0 : Int32).toInt ≤ p0.toInt ∧ p0.toInt ≤ (999999 : Int32).toInt) ∨ (r7342.toInt = 0 ∧ (p0.toInt < (0 : Int32).toInt ∨ (999999 : Int32).toInt < p0.toInt)) := hw
  have hw_r7342 := hw
  have k7343 : (0 : Int32).toInt = 0 := by decide
  have k7344 : (999999 : Int32).toInt = 999999 := by decide
  generalize H1 = H at hP hS ⊢
  refine lv_if_ne (tgt := 12) hx hb dX12_plane_7 (by decide) (fun c7345 => ?_) (fun c7345 => ?_)
  · skip
    have t7346 := cv_ne (a := r7342.toInt) rfl (b := 0) (by decide) c7345
    refine lv_aload_n hx hb dX12_plane_12 rfl (lv_at hl 0 rfl) ?_
    refine va_get (D := (dC, dI)) (ci := 12) (v := .int (v 6)) (C := RX12) (T := TX12) (N := 63) hx hb hwd inA_X12 hown hK hP 0 rfl rfl 6 (by decide) (hwd _ wk_268) (fun _ h9 => h9) rfl dX12_plane_13 ?_
    have t7347 : 0 ≤ (v 6).toInt ∧ (v 6).toInt ≤ 10 := hI.1 6 _ _ rfl
    refine lv_bipush (v := 10) hx hb dX12_plane_16 (by decide) ?_
    refine lv_icmp_ne (tgt := 24) hx hb dX12_plane_18 (by decide) (fun c7348 => ?_) (fun c7348 => ?_)
    · skip
      have t7349 := cv_ne (a := (v 6).toInt) rfl (b := 10) (by decide) c7348
      refine lv_aload_n hx hb dX12_plane_24 rfl (lv_at hl 0 rfl) ?_
      refine va_get (D := (dC, dI)) (ci := 12) (v := .ref (g 4)) (C := RX12) (T := TX12) (N := 63) hx hb hwd inA_X12 hown hK hP 0 rfl rfl 7 (by decide) (hwd _ wk_185) (fun _ h9 => h9) rfl dX12_plane_25 ?_
      refine lv_aload_n hx hb dX12_plane_28 rfl (lv_at hl 0 rfl) ?_
      refine va_get (D := (dC, dI)) (ci := 12) (v := .int (v 6)) (C := RX12) (T := TX12) (N := 63) hx hb hwd inA_X12 hown hK hP 0 rfl rfl 6 (by decide) (hwd _ wk_268) (fun _ h9 => h9) rfl dX12_plane_29 ?_
      have t7350 : 0 ≤ (v 6).toInt ∧ (v 6).toInt ≤ 10 := hI.1 6 _ _ rfl
      refine lv_iload_n hx hb dX12_plane_32 rfl (lv_at hl 1 rfl) ?_
      refine va_iast hx hb hK hP (DM hg) hS 4 3 rfl rfl (i := (v 6)) (x := p0) (vin (a := (v 6).toInt) rfl (by omega)) dX12_plane_33 (fun H locs hP _ hS => ?_)
      have hP := va_P_eq (sM_4 g c _ _ _ _) hP
      have hI := IM.store0 hI 4 (v 6 : Int32).toNatClampNeg p0 rfl
      have hF := frUF (k := 4) (f := upd (F 4) (v 6 : Int32).toNatClampNeg p0) (by decide) hF
      have hP : va_P (dC, dI) classes (wM g c v (va_up F 4 (upd (F 4) (v 6 : Int32).toNatClampNeg p0)) rc) H := hP
      generalize (va_up F 4 (upd (F 4) (v 6 : Int32).toNatClampNeg p0)) = F7351 at hP hI hF
      refine lv_aload_n hx hb dX12_plane_34 rfl (lv_at hl 0 rfl) ?_
      refine va_get (D := (dC, dI)) (ci := 12) (v := .ref (g 7)) (C := RX12) (T := TX12) (N := 63) hx hb hwd inA_X12 hown hK hP 0 rfl rfl 10 (by decide) (hwd _ wk_188) (fun _ h9 => h9) rfl dX12_plane_35 ?_
      refine lv_aload_n hx hb dX12_plane_38 rfl (lv_at hl 0 rfl) ?_
      refine va_get (D := (dC, dI)) (ci := 12) (v := .int (v 6)) (C := RX12) (T := TX12) (N := 63) hx hb hwd inA_X12 hown hK hP 0 rfl rfl 6 (by decide) (hwd _ wk_268) (fun _ h9 => h9) rfl dX12_plane_39 ?_
      have t7352 : 0 ≤ (v 6).toInt ∧ (v 6).toInt ≤ 10 := hI.1 6 _ _ rfl
      refine lv_iconst (v := (-1)) hx hb dX12_plane_42 (by decide) ?_
      refine va_iast hx hb hK hP (DM hg) hS 7 6 rfl rfl (i := (v 6)) (x := (-1)) (vin (a := (v 6).toInt) rfl (by omega)) dX12_plane_43 (fun H locs hP _ hS => ?_)
      have hP := va_P_eq (sM_7 g c _ _ _ _) hP
      have hI := IM.store0 hI 7 (v 6 : Int32).toNatClampNeg (-1) rfl
      have hF := frUF (k := 7) (f := upd (F7351 7) (v 6 : Int32).toNatClampNeg (-1)) (by decide) hF
      have hP : va_P (dC, dI) classes (wM g c v (va_up F7351 7 (upd (F7351 7) (v 6 : Int32).toNatClampNeg (-1))) rc) H := hP
      generalize (va_up F7351 7 (upd (F7351 7) (v 6 : Int32).toNatClampNeg (-1))) = F7353 at hP hI hF
      refine lv_aload_n hx hb dX12_plane_44 rfl (lv_at hl 0 rfl) ?_
      refine va_get (D := (dC, dI)) (ci := 12) (v := .ref (g 8)) (C := RX12) (T := TX12) (N := 63) hx hb hwd inA_X12 hown hK hP 0 rfl rfl 11 (by decide) (hwd _ wk_189) (fun _ h9 => h9) rfl dX12_plane_45 ?_
      refine lv_aload_n hx hb dX12_plane_48 rfl (lv_at hl 0 rfl) ?_
      refine va_get (D := (dC, dI)) (ci := 12) (v := .int (v 6)) (C := RX12) (T := TX12) (N := 63) hx hb hwd inA_X12 hown hK hP 0 rfl rfl 6 (by decide) (hwd _ wk_268) (fun _ h9 => h9) rfl dX12_plane_49 ?_
      have t7354 : 0 ≤ (v 6).toInt ∧ (v 6).toInt ≤ 10 := hI.1 6 _ _ rfl
      refine lv_iconst (v := (-1)) hx hb dX12_plane_52 (by decide) ?_
      refine va_iast hx hb hK hP (DM hg) hS 8 7 rfl rfl (i := (v 6)) (x := (-1)) (vin (a := (v 6).toInt) rfl (by omega)) dX12_plane_53 (fun H locs hP _ hS => ?_)
      have hP := va_P_eq (sM_8 g c _ _ _ _) hP
      have hI := IM.store0 hI 8 (v 6 : Int32).toNatClampNeg (-1) rfl
      have hF := frUF (k := 8) (f := upd (F7353 8) (v 6 : Int32).toNatClampNeg (-1)) (by decide) hF
      have hP : va_P (dC, dI) classes (wM g c v (va_up F7353 8 (upd (F7353 8) (v 6 : Int32).toNatClampNeg (-1))) rc) H := hP
      generalize (va_up F7353 8 (upd (F7353 8) (v 6 : Int32).toNatClampNeg (-1))) = F7355 at hP hI hF
      refine lv_aload_n hx hb dX12_plane_54 rfl (lv_at hl 0 rfl) ?_
      refine va_get (D := (dC, dI)) (ci := 12) (v := .ref (g 35)) (C := RX12) (T := TX12) (N := 63) hx hb hwd inA_X12 hown hK hP 0 rfl rfl 49 (by decide) (hwd _ wk_217) (fun _ h9 => h9) rfl dX12_plane_55 ?_
      refine lv_aload_n hx hb dX12_plane_58 rfl (lv_at hl 0 rfl) ?_
      refine va_get (D := (dC, dI)) (ci := 12) (v := .int (v 6)) (C := RX12) (T := TX12) (N := 63) hx hb hwd inA_X12 hown hK hP 0 rfl rfl 6 (by decide) (hwd _ wk_268) (fun _ h9 => h9) rfl dX12_plane_59 ?_
      have t7356 : 0 ≤ (v 6).toInt ∧ (v 6).toInt ≤ 10 := hI.1 6 _ _ rfl
      refine lv_iconst (v := (-1)) hx hb dX12_plane_62 (by decide) ?_
      refine va_iast hx hb hK hP (DM hg) hS 35 34 rfl rfl (i := (v 6)) (x := (-1)) (vin (a := (v 6).toInt) rfl (by omega)) dX12_plane_63 (fun H locs hP _ hS => ?_)
      have hP := va_P_eq (sM_35 g c _ _ _ _) hP
      have hI := IM.store0 hI 35 (v 6 : Int32).toNatClampNeg (-1) rfl
      have hF := frUF (k := 35) (f := upd (F7355 35) (v 6 : Int32).toNatClampNeg (-1)) (by decide) hF
      have hP : va_P (dC, dI) classes (wM g c v (va_up F7355 35 (upd (F7355 35) (v 6 : Int32).toNatClampNeg (-1))) rc) H := hP
      generalize (va_up F7355 35 (upd (F7355 35) (v 6 : Int32).toNatClampNeg (-1))) = F7357 at hP hI hF
      refine lv_aload_n hx hb dX12_plane_64 rfl (lv_at hl 0 rfl) ?_
      refine lv_dup hx hb dX12_plane_65 rfl ?_
      refine va_get (D := (dC, dI)) (ci := 12) (v := .int (v 6)) (C := RX12) (T := TX12) (N := 63) hx hb hwd inA_X12 hown hK hP 0 rfl rfl 6 (by decide) (hwd _ wk_268) (fun _ h9 => h9) rfl dX12_plane_66 ?_
      have t7358 : 0 ≤ (v 6).toInt ∧ (v 6).toInt ≤ 10 := hI.1 6 _ _ rfl
      refine lv_iconst (v := 1) hx hb dX12_plane_69 (by decide) ?_
      refine lv_iadd hx hb dX12_plane_70 ?_
      refine lv_topi (fun z7359 e7360 => ?_)
      try (have t7361 := tadd e7360 (a := (v 6).toInt) rfl (b := 1) (by decide) (by omega))
      refine va_put (D := (dC, dI)) (ci := 12) (v := .int z7359) (ty := .int) (C := RX12) (T := TX12) (N := 63) (fs := fsM_0 g v rc) hx hb hwd inA_X12 tyX12 tyX12_ok nmX12 hown hK hP (DM hg) hS 0 rfl rfl 6 (by decide) (hwd _ wk_268) (fun _ h9 => h9) rfl (by decide +kernel) rfl rfl (Nat.le_of_ble_eq_true rfl) dX12_plane_71 (fun H locs hP _ hS => ?_)
      have hP := va_P_eq (pM_6 g c _ _ _ _) hP
      have hI := IM.put hI 6 z7359 rfl (by omega)
      refine lv_aload_n hx hb dX12_plane_74 rfl (lv_at hl 0 rfl) ?_
      refine va_get (D := (dC, dI)) (ci := 12) (v := .int z7359) (C := RX12) (T := TX12) (N := 63) hx hb hwd inA_X12 hown hK hP 0 rfl rfl 6 (by decide) (hwd _ wk_268) (fun _ h9 => h9) rfl dX12_plane_75 ?_
      have t7362 : 0 ≤ z7359.toInt ∧ z7359.toInt ≤ 10 := hI.1 6 _ _ rfl
      refine lv_iconst (v := 1) hx hb dX12_plane_78 (by decide) ?_
      refine lv_isub hx hb dX12_plane_79 ?_
      refine lv_topi (fun z7363 e7364 => ?_)
      try (have t7365 := tsub e7364 (a := z7359.toInt) rfl (b := 1) (by decide) (by omega))
      have hP9 : va_P (dC, dI) classes (wM g c (va_up v 6 z7359) F7357 rc) H := hP
      exact W.iret (v := z7363) hx hb hr (fun t ht hW => ⟨⟨z7363, ((va_up v 6 z7359), F7357, rc), rfl, ⟨hI, rfl, (frU (by decide) (fun _ _ => rfl)), hF, (by show (¬ ((0 ≤ p0.toInt ∧ p0.toInt ≤ 999999)) ∧ z7363.toInt = -1 ∧ z7359.toInt = (v 6).toInt) ∨ (((0 ≤ p0.toInt ∧ p0.toInt ≤ 999999)) ∧ (v 6).toInt = 10 ∧ z7363.toInt = -3 ∧ z7359.toInt = (v 6).toInt) ∨ (((0 ≤ p0.toInt ∧ p0.toInt ≤ 999999)) ∧ (v 6).toInt < 10 ∧ z7363.toInt = (v 6).toInt ∧ z7359.toInt = (v 6).toInt + 1); omega)⟩, (by show va_P _ _ _ t.heap; rw [ht]; exact hP9)⟩, hS.F ht⟩) hS.2.2 dX12_plane_80
    · skip
      have t7366 := cv_eq (a := (v 6).toInt) rfl (b := 10) (by decide) c7348
      refine lv_bipush (v := (-3)) hx hb dX12_plane_21 (by decide) ?_
      have hP9 : va_P (dC, dI) classes (wM g c v F rc) H := hP
      exact W.iret (v := (-3)) hx hb hr (fun t ht hW => ⟨⟨(-3), (v, F, rc), rfl, ⟨hI, rfl, (fun _ _ => rfl), hF, (by show (¬ ((0 ≤ p0.toInt ∧ p0.toInt ≤ 999999)) ∧ ((-3) : Int32).toInt = -1 ∧ (v 6).toInt = (v 6).toInt) ∨ (((0 ≤ p0.toInt ∧ p0.toInt ≤ 999999)) ∧ (v 6).toInt = 10 ∧ ((-3) : Int32).toInt = -3 ∧ (v 6).toInt = (v 6).toInt) ∨ (((0 ≤ p0.toInt ∧ p0.toInt ≤ 999999)) ∧ (v 6).toInt < 10 ∧ ((-3) : Int32).toInt = (v 6).toInt ∧ (v 6).toInt = (v 6).toInt + 1); have : ((-3) : Int32).toInt = (-3) := (by decide); omega)⟩, (by show va_P _ _ _ t.heap; rw [ht]; exact hP9)⟩, hS.F ht⟩) hS.2.2 dX12_plane_23
  · skip
    have t7367 := cv_eq (a := r7342.toInt) rfl (b := 0) (by decide) c7345
    refine lv_iconst (v := (-1)) hx hb dX12_plane_10 (by decide) ?_
    have hP9 : va_P (dC, dI) classes (wM g c v F rc) H := hP
    exact W.iret (v := (-1)) hx hb hr (fun t ht hW => ⟨⟨(-1), (v, F, rc), rfl, ⟨hI, rfl, (fun _ _ => rfl), hF, (by show (¬ ((0 ≤ p0.toInt ∧ p0.toInt ≤ 999999)) ∧ ((-1) : Int32).toInt = -1 ∧ (v 6).toInt = (v 6).toInt) ∨ (((0 ≤ p0.toInt ∧ p0.toInt ≤ 999999)) ∧ (v 6).toInt = 10 ∧ ((-1) : Int32).toInt = -3 ∧ (v 6).toInt = (v 6).toInt) ∨ (((0 ≤ p0.toInt ∧ p0.toInt ≤ 999999)) ∧ (v 6).toInt < 10 ∧ ((-1) : Int32).toInt = (v 6).toInt ∧ (v 6).toInt = (v 6).toInt + 1); have : ((-1) : Int32).toInt = (-1) := (by decide); omega)⟩, (by show va_P _ _ _ t.heap; rw [ht]; exact hP9)⟩, hS.F ht⟩) hS.2.2 dX12_plane_11
set_option maxHeartbeats 8000000 in
set_option maxRecDepth 100000 in
theorem c_X12_days (l : Launch) (dC : Nat → ClassId) (dI : Nat → Nat → Nat) (g : Nat → Nat) (c : Nat → ClassId) (adK adV : Nat → Nat) (v : Nat → Int32) (F : Nat → Nat → Int32) (rc sz : Nat) (p0 : Int32) (hg : injM g) (hI : IM v F) : Met l yX12_days (Cond.code yX12_days cX12_days 3 (some .int) :: wA) ({ frames := 2, cells := 0, slots := 0, locals := 80 }) (va_Pc [.ref (g 0), .int p0] (PM dC dI g c adK adV v F rc sz)) (va_Qi (fun (r : Int32) (u : StM) => IM u.1 u.2.1 ∧ u.2.2 = rc ∧ (∀ k, k ∉ ([1] : List Nat) → u.1 k = v k) ∧ (∀ k, k ∉ ([14] : List Nat) → u.2.1 k = F k) ∧ ((¬ (1 ≤ p0.toInt ∧ p0.toInt ≤ 400 ∧ (v 1).toInt + p0.toInt ≤ 9999) ∧ r.toInt = -1 ∧ (u.1 1).toInt = (v 1).toInt) ∨ ((1 ≤ p0.toInt ∧ p0.toInt ≤ 400 ∧ (v 1).toInt + p0.toInt ≤ 9999) ∧ r.toInt = (v 1).toInt + p0.toInt ∧ (u.1 1).toInt = (v 1).toInt + p0.toInt))) (BM dC dI g c) (AM g sz)) 0 0 (AM g sz) := by
  refine Met.ofW (cc := cX12_days) (maxL := 3) (ret := (some .int)) (by decide) rfl ?_
  intro p e s m args below meth c0 s₁ B hml hv
  obtain ⟨rfl, hsz, hP, hK, hE⟩ := hv
  have hx := B.exec
  have hb := B.bytes
  have hr := B.returns
  have hts := atoms_spec (ws := Cond.code yX12_days cX12_days 3 (some .int) :: wA) B.pre
  have hwd : ∀ w ∈ wA, w.before _ s = true := fun w h => hts w (List.mem_cons_of_mem _ h)
  have hown : s.vm.findClass RX12 = some m.cls := findClass_of_methodNamed B.named
  have hlocks := B.notSynchronized
  subst hsz
  have hl := lv_entry ([.ref (g 0), .int p0]) (n := 3) (Nat.le_of_ble_eq_true rfl)
  rw [lg_entry_eq]
  generalize (lg_sl ([.ref (g 0), .int p0]) ++ List.replicate (3 - (lg_sl ([.ref (g 0), .int p0])).length) Slot.unset).toArray = ls at hl ⊢
  have hl : lv_has ls 3 [(0, .ref (g 0)), (1, .int p0)] := hl
  obtain ⟨H, eH⟩ : ∃ z, z = s.heap := ⟨_, rfl⟩
  have hP : va_P (dC, dI) classes (wM g c v F rc) H := by rw [eH]; exact hP
  have hS : va_S (AM g s.heap.size) s.heap H [] := by rw [eH]; exact va_S.rf
  refine my_heap eH ?_
  have hF : ∀ k, k ∉ ([14] : List Nat) → F k = F k := fun _ _ => rfl
  have rp0 := i32_rng p0
  refine lv_iload_n hx hb dX12_days_0 rfl (lv_at hl 1 rfl) ?_
  refine lv_iconst (v := 1) hx hb dX12_days_1 (by decide) ?_
  refine lv_sipush (v := 400) hx hb dX12_days_2 (by decide) ?_
  refine va_calli (va_runS (As := [.int p0, .int 1, .int 400]) (rest := []) ⟨hx, hb, hml, hown, hwd⟩ (c_X12_in l dC dI g c adK adV v F rc H.size p0 1 400 hg hI ) (va_cwS 3 hwd (gT wk_254 wk_252 wk_253 wk_5) rfl rfl rfl (by decide +kernel) ⟨Nat.le_of_ble_eq_true rfl, Nat.le_of_ble_eq_true rfl⟩) ⟨PM.blind, fun U hU hW => ⟨rfl, PM.at hK hE hP hS hU hW⟩⟩ rfl rfl hl.1 rfl (lv_room (Nat.le_of_ble_eq_true rfl)) dX12_days_5 ⟨Nat.le_of_ble_eq_true rfl, Nat.le_of_ble_eq_true rfl⟩) hS (fun q _ h => (freeM hS) q h) (freeM hS) (fun r7416 u t H1 locs ht hvm hw hB hz1 hk1 hS => ?_)
  unfold BM at hB
  rw [ht] at hB
  have hP : va_P (dC, dI) classes (wM g c v F rc) H1 := hB
  have hw : (r7416.toInt = 1 ∧ (1 : Int32).toInt ≤ p0.toInt ∧ p0.toInt ≤ (400 : Int32).toInt) ∨ (r7416.toInt = 0 ∧ (p0.toInt < (1 : Int32).toInt ∨ (400 : Int32).toInt < p0.toInt)) := hw
  have hw_r7416 := hw
  have k7417 : (1 : Int32).toInt = 1 := by decide
  have k7418 : (400 : Int32).toInt = 400 := by decide
  generalize H1 = H at hP hS ⊢
  refine lv_if_eq (tgt := 23) hx hb dX12_days_8 (by decide) (fun c7419 => ?_) (fun c7419 => ?_)
  · skip
    have t7420 := cv_eq (a := r7416.toInt) rfl (b := 0) (by decide) c7419
    refine lv_iconst (v := (-1)) hx hb dX12_days_23 (by decide) ?_
    have hP9 : va_P (dC, dI) classes (wM g c v F rc) H := hP
    exact W.iret (v := (-1)) hx hb hr (fun t ht hW => ⟨⟨(-1), (v, F, rc), rfl, ⟨hI, rfl, (fun _ _ => rfl), hF, (by show (¬ (1 ≤ p0.toInt ∧ p0.toInt ≤ 400 ∧ (v 1).toInt + p0.toInt ≤ 9999) ∧ ((-1) : Int32).toInt = -1 ∧ (v 1).toInt = (v 1).toInt) ∨ ((1 ≤ p0.toInt ∧ p0.toInt ≤ 400 ∧ (v 1).toInt + p0.toInt ≤ 9999) ∧ ((-1) : Int32).toInt = (v 1).toInt + p0.toInt ∧ (v 1).toInt = (v 1).toInt + p0.toInt); have : ((-1) : Int32).toInt = (-1) := (by decide); omega)⟩, (by show va_P _ _ _ t.heap; rw [ht]; exact hP9)⟩, hS.F ht⟩) hS.2.2 dX12_days_24
  · skip
    have t7421 := cv_ne (a := r7416.toInt) rfl (b := 0) (by decide) c7419
    refine lv_aload_n hx hb dX12_days_11 rfl (lv_at hl 0 rfl) ?_
    refine va_get (D := (dC, dI)) (ci := 12) (v := .int (v 1)) (C := RX12) (T := TX12) (N := 63) hx hb hwd inA_X12 hown hK hP 0 rfl rfl 1 (by decide) (hwd _ wk_332) (fun _ h9 => h9) rfl dX12_days_12 ?_
    have t7422 : 0 ≤ (v 1).toInt ∧ (v 1).toInt ≤ 9999 := hI.1 1 _ _ rfl
    refine lv_iload_n hx hb dX12_days_15 rfl (lv_at hl 1 rfl) ?_
    refine lv_iadd hx hb dX12_days_16 ?_
    refine lv_topi (fun z7423 e7424 => ?_)
    try (have t7425 := tadd e7424 (a := (v 1).toInt) rfl (b := p0.toInt) rfl (by omega))
    refine lv_sipush (v := 9999) hx hb dX12_days_17 (by decide) ?_
    refine lv_icmp_le (tgt := 25) hx hb dX12_days_20 (by decide) (fun c7426 => ?_) (fun c7426 => ?_)
    · skip
      have t7427 := cv_le (a := z7423.toInt) rfl (b := 9999) (by decide) c7426
      refine lv_aload_n hx hb dX12_days_25 rfl (lv_at hl 0 rfl) ?_
      refine lv_dup hx hb dX12_days_26 rfl ?_
      refine va_get (D := (dC, dI)) (ci := 12) (v := .int (v 1)) (C := RX12) (T := TX12) (N := 63) hx hb hwd inA_X12 hown hK hP 0 rfl rfl 1 (by decide) (hwd _ wk_332) (fun _ h9 => h9) rfl dX12_days_27 ?_
      have t7428 : 0 ≤ (v 1).toInt ∧ (v 1).toInt ≤ 9999 := hI.1 1 _ _ rfl
      refine lv_iload_n hx hb dX12_days_30 rfl (lv_at hl 1 rfl) ?_
      refine lv_iadd hx hb dX12_days_31 ?_
      refine lv_topi (fun z7429 e7430 => ?_)
      try (have t7431 := tadd e7430 (a := (v 1).toInt) rfl (b := p0.toInt) rfl (by omega))
      refine va_put (D := (dC, dI)) (ci := 12) (v := .int z7429) (ty := .int) (C := RX12) (T := TX12) (N := 63) (fs := fsM_0 g v rc) hx hb hwd inA_X12 tyX12 tyX12_ok nmX12 hown hK hP (DM hg) hS 0 rfl rfl 1 (by decide) (hwd _ wk_332) (fun _ h9 => h9) rfl (by decide +kernel) rfl rfl (Nat.le_of_ble_eq_true rfl) dX12_days_32 (fun H locs hP _ hS => ?_)
      have hP := va_P_eq (pM_1 g c _ _ _ _) hP
      have hI := IM.put hI 1 z7429 rfl (by omega)
      refine lv_iconst (v := 0) hx hb dX12_days_35 (by decide) ?_
      refine lv_istore_n (lv' := [(2, .int 0), (0, .ref (g 0)), (1, .int p0)]) hx hb dX12_days_36 rfl hl (by decide) rfl (fun ls hl => ?_)
      have lp7432 : ∀ (n : Nat) (x2_lp7432 : Int32) (v_lp7432 : Nat → Int32) (F_lp7432 : Nat → Nat → Int32) (H : Heap) (locs : List Loc) (ls : Array Slot), (0 ≤ x2_lp7432.toInt) → (2147483648 - x2_lp7432.toInt ≤ (n : Int)) → (∀ k, k ∉ ([] : List Nat) → v_lp7432 k = (va_up v 1 z7429) k) → IM v_lp7432 F_lp7432 → (∀ k, k ∉ ([14] : List Nat) → F_lp7432 k = F k) → va_P (dC, dI) classes (wM g c v_lp7432 F_lp7432 rc) H → va_S (AM g s.heap.size) s.heap H locs → lv_has ls 3 [(2, .int x2_lp7432), (0, .ref (g 0)), (1, .int p0)] → W p l e (headSpec (Cond.code yX12_days cX12_days 3 (some .int) :: wA) ({ frames := 2, cells := 0, slots := 0, locals := 80 })).room s m ([.ref (g 0), .int p0] : List Value).toArray below meth c0 H locs 0 0 (MQ below (va_Qi (fun (r : Int32) (u : StM) => IM u.1 u.2.1 ∧ u.2.2 = rc ∧ (∀ k, k ∉ ([1] : List Nat) → u.1 k = v k) ∧ (∀ k, k ∉ ([14] : List Nat) → u.2.1 k = F k) ∧ ((¬ (1 ≤ p0.toInt ∧ p0.toInt ≤ 400 ∧ (v 1).toInt + p0.toInt ≤ 9999) ∧ r.toInt = -1 ∧ (u.1 1).toInt = (v 1).toInt) ∨ ((1 ≤ p0.toInt ∧ p0.toInt ≤ 400 ∧ (v 1).toInt + p0.toInt ≤ 9999) ∧ r.toInt = (v 1).toInt + p0.toInt ∧ (u.1 1).toInt = (v 1).toInt + p0.toInt))) (BM dC dI g c) (AM g s.heap.size)) ([.ref (g 0), .int p0] : List Value).toArray s 0 0 (AM g s.heap.size)) (F0 m 37 ls []) := by
        intro n
        induction n with
        | zero =>
          intro x2_lp7432 v_lp7432 F_lp7432 H locs ls t7433 hm hf_lp7432 hI hF hP hS hl
          exfalso
          have := i32_rng x2_lp7432
          have hI1 := hI.1
          omega
        | succ n ih_lp7432 =>
          intro x2_lp7432 v_lp7432 F_lp7432 H locs ls t7433 hm hf_lp7432 hI hF hP hS hl
          have rx2_lp7432 := i32_rng x2_lp7432
          refine lv_iload_n hx hb dX12_days_37 rfl (lv_at hl 0 rfl) ?_
          refine lv_aload_n hx hb dX12_days_38 rfl (lv_at hl 1 rfl) ?_
          refine va_get (D := (dC, dI)) (ci := 12) (v := .int (v_lp7432 14)) (C := RX12) (T := TX12) (N := 63) hx hb hwd inA_X12 hown hK hP 0 rfl rfl 14 (by decide) (hwd _ wk_318) (fun _ h9 => h9) rfl dX12_days_39 ?_
          refine my_top (v := v 14) (hf_lp7432 14 (by decide)) ?_
          have t7434 : 0 ≤ (v 14).toInt ∧ (v 14).toInt ≤ 100 := by have h9 := hI.1 14 _ _ rfl; rw [show v_lp7432 14 = v 14 from hf_lp7432 14 (by decide)] at h9; exact h9
          refine lv_icmp_ge (tgt := 76) hx hb dX12_days_42 (by decide) (fun c7435 => ?_) (fun c7435 => ?_)
          · skip
            have t7436 := cv_le (a := (v 14).toInt) rfl (b := x2_lp7432.toInt) rfl c7435
            refine lv_aload_n hx hb dX12_days_76 rfl (lv_at hl 1 rfl) ?_
            refine va_get (D := (dC, dI)) (ci := 12) (v := .int (v_lp7432 1)) (C := RX12) (T := TX12) (N := 63) hx hb hwd inA_X12 hown hK hP 0 rfl rfl 1 (by decide) (hwd _ wk_332) (fun _ h9 => h9) rfl dX12_days_77 ?_
            refine my_top (v := z7429) (hf_lp7432 1 (by decide)) ?_
            have t7437 : 0 ≤ z7429.toInt ∧ z7429.toInt ≤ 9999 := by have h9 := hI.1 1 _ _ rfl; rw [show v_lp7432 1 = z7429 from hf_lp7432 1 (by decide)] at h9; exact h9
            have hP9 : va_P (dC, dI) classes (wM g c v_lp7432 F_lp7432 rc) H := hP
            exact W.iret (v := z7429) hx hb hr (fun t ht hW => ⟨⟨z7429, (v_lp7432, F_lp7432, rc), rfl, ⟨hI, rfl, (frC (by decide) hf_lp7432 (frU (by decide) (fun _ _ => rfl))), hF, (by show (¬ (1 ≤ p0.toInt ∧ p0.toInt ≤ 400 ∧ (v 1).toInt + p0.toInt ≤ 9999) ∧ z7429.toInt = -1 ∧ (v_lp7432 1).toInt = (v 1).toInt) ∨ ((1 ≤ p0.toInt ∧ p0.toInt ≤ 400 ∧ (v 1).toInt + p0.toInt ≤ 9999) ∧ z7429.toInt = (v 1).toInt + p0.toInt ∧ (v_lp7432 1).toInt = (v 1).toInt + p0.toInt); rw [show v_lp7432 1 = z7429 from hf_lp7432 1 (by decide)]; omega)⟩, (by show va_P _ _ _ t.heap; rw [ht]; exact hP9)⟩, hS.F ht⟩) hS.2.2 dX12_days_80
          · skip
            have t7438 := cv_nle (a := (v 14).toInt) rfl (b := x2_lp7432.toInt) rfl c7435
            refine lv_aload_n hx hb dX12_days_45 rfl (lv_at hl 1 rfl) ?_
            refine va_get (D := (dC, dI)) (ci := 12) (v := .ref (g 13)) (C := RX12) (T := TX12) (N := 63) hx hb hwd inA_X12 hown hK hP 0 rfl rfl 17 (by decide) (hwd _ wk_194) (fun _ h9 => h9) rfl dX12_days_46 ?_
            refine lv_iload_n hx hb dX12_days_49 rfl (lv_at hl 0 rfl) ?_
            refine va_iald hx hb hK hP 13 12 rfl rfl (i := x2_lp7432) (vin (a := x2_lp7432.toInt) rfl (by omega)) dX12_days_50 ?_
            refine lv_topi (fun z7439 e7440 => ?_)
            have t7441 : 0 ≤ z7439.toInt ∧ z7439.toInt ≤ 12 := by rw [e7440]; exact hI.2 13 _ _ rfl _
            have e7440 : z7439 = F 13 (x2_lp7432 : Int32).toNatClampNeg := e7440.trans (congrFun (hF 13 (by decide)) _)
            refine lv_bipush (v := 12) hx hb dX12_days_51 (by decide) ?_
            refine lv_icmp_eq (tgt := 70) hx hb dX12_days_53 (by decide) (fun c7442 => ?_) (fun c7442 => ?_)
            · skip
              have t7443 := cv_eq (a := z7439.toInt) rfl (b := 12) (by decide) c7442
              obtain ⟨z7444, e7445⟩ : ∃ y : Int32, y = x2_lp7432 + 1 := ⟨_, rfl⟩
              try (have t7446 := tadd e7445 rfl (b := 1) (by decide) (by omega))
              refine lv_iinc (v := z7444) (lv' := [(2, .int z7444), (0, .ref (g 0)), (1, .int p0)]) hx hb dX12_days_70 hl (k := 0) rfl (by rw [e7445]; rfl) (by decide) rfl (fun ls hl => ?_)
              refine lv_goto (tgt := 37) hx hb dX12_days_73 (by decide) ?_
              exact ih_lp7432 z7444 v_lp7432 F_lp7432 _ _ _ (by omega) (by omega) hf_lp7432 hI hF hP hS (lv_sub hl [0, 1, 2] rfl)
            · skip
              have t7447 := cv_ne (a := z7439.toInt) rfl (b := 12) (by decide) c7442
              refine lv_aload_n hx hb dX12_days_56 rfl (lv_at hl 1 rfl) ?_
              refine va_get (D := (dC, dI)) (ci := 12) (v := .ref (g 14)) (C := RX12) (T := TX12) (N := 63) hx hb hwd inA_X12 hown hK hP 0 rfl rfl 18 (by decide) (hwd _ wk_195) (fun _ h9 => h9) rfl dX12_days_57 ?_
              refine lv_iconst (v := 3) hx hb dX12_days_60 (by decide) ?_
              refine lv_iload_n hx hb dX12_days_61 rfl (lv_at hl 0 rfl) ?_
              refine lv_imul hx hb dX12_days_62 ?_
              refine lv_topi (fun z7448 e7449 => ?_)
              try (have t7450 := tmul e7449 (a := 3) (by decide) (b := x2_lp7432.toInt) rfl (by omega))
              refine lv_iconst (v := 2) hx hb dX12_days_63 (by decide) ?_
              refine lv_iadd hx hb dX12_days_64 ?_
              refine lv_topi (fun z7451 e7452 => ?_)
              try (have t7453 := tadd e7452 (a := z7448.toInt) rfl (b := 2) (by decide) (by omega))
              refine lv_dup2_11 hx hb dX12_days_65 rfl rfl ?_
              refine va_iald hx hb hK hP 14 13 rfl rfl (i := z7451) (vin (a := z7451.toInt) rfl (by omega)) dX12_days_66 ?_
              refine lv_topi (fun z7454 e7455 => ?_)
              refine lv_iload_n hx hb dX12_days_67 rfl (lv_at hl 2 rfl) ?_
              refine lv_iadd hx hb dX12_days_68 ?_
              refine lv_topi (fun z7456 e7457 => ?_)
              try (have t7458 := tadd e7457 (a := z7454.toInt) rfl (b := p0.toInt) rfl (by omega))
              refine va_iast hx hb hK hP (DM hg) hS 14 13 rfl rfl (i := z7451) (x := z7456) (vin (a := z7451.toInt) rfl (by omega)) dX12_days_69 (fun H locs hP _ hS => ?_)
              have hP := va_P_eq (sM_14 g c _ _ _ _) hP
              have hI := IM.store0 hI 14 (z7451 : Int32).toNatClampNeg z7456 rfl
              have hF := frUF (k := 14) (f := upd (F_lp7432 14) (z7451 : Int32).toNatClampNeg z7456) (by decide) hF
              have hP : va_P (dC, dI) classes (wM g c v_lp7432 (va_up F_lp7432 14 (upd (F_lp7432 14) (z7451 : Int32).toNatClampNeg z7456)) rc) H := hP
              generalize (va_up F_lp7432 14 (upd (F_lp7432 14) (z7451 : Int32).toNatClampNeg z7456)) = F7459 at hP hI hF
              obtain ⟨z7460, e7461⟩ : ∃ y : Int32, y = x2_lp7432 + 1 := ⟨_, rfl⟩
              try (have t7462 := tadd e7461 rfl (b := 1) (by decide) (by omega))
              refine lv_iinc (v := z7460) (lv' := [(2, .int z7460), (0, .ref (g 0)), (1, .int p0)]) hx hb dX12_days_70 hl (k := 0) rfl (by rw [e7461]; rfl) (by decide) rfl (fun ls hl => ?_)
              refine lv_goto (tgt := 37) hx hb dX12_days_73 (by decide) ?_
              exact ih_lp7432 z7460 v_lp7432 F7459 _ _ _ (by omega) (by omega) hf_lp7432 hI hF hP hS (lv_sub hl [0, 1, 2] rfl)
      obtain ⟨n9, hn9⟩ : ∃ n : Nat, 2147483648 - 0 ≤ (n : Int) := ⟨((2147483648 - 0 : Int)).toNat, by omega⟩
      exact lp7432 n9 0 (va_up v 1 z7429) F H _ ls (by have : (0 : Int32).toInt = 0 := (by decide); omega) (by have : (0 : Int32).toInt = 0 := (by decide); omega) (fun _ _ => rfl) hI hF hP hS hl
    · skip
      have t7463 := cv_nle (a := z7423.toInt) rfl (b := 9999) (by decide) c7426
      refine lv_iconst (v := (-1)) hx hb dX12_days_23 (by decide) ?_
      have hP9 : va_P (dC, dI) classes (wM g c v F rc) H := hP
      exact W.iret (v := (-1)) hx hb hr (fun t ht hW => ⟨⟨(-1), (v, F, rc), rfl, ⟨hI, rfl, (fun _ _ => rfl), hF, (by show (¬ (1 ≤ p0.toInt ∧ p0.toInt ≤ 400 ∧ (v 1).toInt + p0.toInt ≤ 9999) ∧ ((-1) : Int32).toInt = -1 ∧ (v 1).toInt = (v 1).toInt) ∨ ((1 ≤ p0.toInt ∧ p0.toInt ≤ 400 ∧ (v 1).toInt + p0.toInt ≤ 9999) ∧ ((-1) : Int32).toInt = (v 1).toInt + p0.toInt ∧ (v 1).toInt = (v 1).toInt + p0.toInt); have : ((-1) : Int32).toInt = (-1) := (by decide); omega)⟩, (by show va_P _ _ _ t.heap; rw [ht]; exact hP9)⟩, hS.F ht⟩) hS.2.2 dX12_days_24
set_option maxHeartbeats 8000000 in
set_option maxRecDepth 100000 in
theorem c_X12_order (l : Launch) (dC : Nat → ClassId) (dI : Nat → Nat → Nat) (g : Nat → Nat) (c : Nat → ClassId) (adK adV : Nat → Nat) (v : Nat → Int32) (F : Nat → Nat → Int32) (rc sz : Nat) (p0 : Int32) (p1 : Int32) (hg : injM g) (hI : IM v F) : Met l yX12_order (Cond.code yX12_order cX12_order 3 (some .int) :: wA) ({ frames := 3, cells := 0, slots := 0, locals := 120 }) (va_Pc [.ref (g 0), .int p0, .int p1] (PM dC dI g c adK adV v F rc sz)) (va_Qi (fun (r : Int32) (u : StM) => IM u.1 u.2.1 ∧ u.2.2 = rc ∧ (∀ k, k ∉ ([45] : List Nat) → u.1 k = v k) ∧ (∀ k, k ∉ ([32, 33] : List Nat) → u.2.1 k = F k) ∧ True) (BM dC dI g c) (AM g sz)) 0 0 (AM g sz) := by
  refine Met.ofW (cc := cX12_order) (maxL := 3) (ret := (some .int)) (by decide) rfl ?_
  intro p e s m args below meth c0 s₁ B hml hv
  obtain ⟨rfl, hsz, hP, hK, hE⟩ := hv
  have hx := B.exec
  have hb := B.bytes
  have hr := B.returns
  have hts := atoms_spec (ws := Cond.code yX12_order cX12_order 3 (some .int) :: wA) B.pre
  have hwd : ∀ w ∈ wA, w.before _ s = true := fun w h => hts w (List.mem_cons_of_mem _ h)
  have hown : s.vm.findClass RX12 = some m.cls := findClass_of_methodNamed B.named
  have hlocks := B.notSynchronized
  subst hsz
  have hl := lv_entry ([.ref (g 0), .int p0, .int p1]) (n := 3) (Nat.le_of_ble_eq_true rfl)
  rw [lg_entry_eq]
  generalize (lg_sl ([.ref (g 0), .int p0, .int p1]) ++ List.replicate (3 - (lg_sl ([.ref (g 0), .int p0, .int p1])).length) Slot.unset).toArray = ls at hl ⊢
  have hl : lv_has ls 3 [(0, .ref (g 0)), (1, .int p0), (2, .int p1)] := hl
  obtain ⟨H, eH⟩ : ∃ z, z = s.heap := ⟨_, rfl⟩
  have hP : va_P (dC, dI) classes (wM g c v F rc) H := by rw [eH]; exact hP
  have hS : va_S (AM g s.heap.size) s.heap H [] := by rw [eH]; exact va_S.rf
  refine my_heap eH ?_
  have hF : ∀ k, k ∉ ([32, 33] : List Nat) → F k = F k := fun _ _ => rfl
  have rp0 := i32_rng p0
  have rp1 := i32_rng p1
  refine lv_aload_n hx hb dX12_order_0 rfl (lv_at hl 0 rfl) ?_
  refine lv_iload_n hx hb dX12_order_1 rfl (lv_at hl 1 rfl) ?_
  refine va_calli (va_runV (As := [.int p0]) (rest := []) ⟨hx, hb, hml, hown, hwd⟩ (c_X12_isKind l dC dI g c adK adV v F rc H.size p0 hg hI ) (cwV 1 hwd (gV wk_309 wk_306 wk_307 wk_308 wk_5) rfl rfl rfl (by decide +kernel) ⟨Nat.le_of_ble_eq_true rfl, Nat.le_of_ble_eq_true rfl⟩) ⟨PM.blind, va_recv hK hP (ci := 12) (q0 := 0) rfl rfl, fun U hU hW => ⟨rfl, PM.at hK hE hP hS hU hW⟩⟩ rfl rfl hl.1 rfl (lv_room (Nat.le_of_ble_eq_true rfl)) dX12_order_2 ⟨Nat.le_of_ble_eq_true rfl, Nat.le_of_ble_eq_true rfl⟩) hS (fun q _ h => (freeM hS) q h) (freeM hS) (fun r7488 u t H1 locs ht hvm hw hB hz1 hk1 hS => ?_)
  unfold BM at hB
  rw [ht] at hB
  have hP : va_P (dC, dI) classes (wM g c v F rc) H1 := hB
  have hw : (r7488.toInt = 1 ∧ 0 ≤ p0.toInt ∧ p0.toInt < (v 2).toInt) ∨ (r7488.toInt = 0 ∧ (p0.toInt < 0 ∨ (v 2).toInt ≤ p0.toInt)) := hw
  have hw_r7488 := hw
  generalize H1 = H at hP hS ⊢
  refine lv_if_eq (tgt := 15) hx hb dX12_order_5 (by decide) (fun c7489 => ?_) (fun c7489 => ?_)
  · skip
    have t7490 := cv_eq (a := r7488.toInt) rfl (b := 0) (by decide) c7489
    refine lv_iconst (v := (-1)) hx hb dX12_order_15 (by decide) ?_
    have hP9 : va_P (dC, dI) classes (wM g c v F rc) H := hP
    exact W.iret (v := (-1)) hx hb hr (fun t ht hW => ⟨⟨(-1), (v, F, rc), rfl, ⟨hI, rfl, (fun _ _ => rfl), hF, trivial⟩, (by show va_P _ _ _ t.heap; rw [ht]; exact hP9)⟩, hS.F ht⟩) hS.2.2 dX12_order_16
  · skip
    have t7491 := cv_ne (a := r7488.toInt) rfl (b := 0) (by decide) c7489
    refine lv_iload_n hx hb dX12_order_8 rfl (lv_at hl 2 rfl) ?_
    refine va_calli (va_runS (As := [.int p1]) (rest := []) ⟨hx, hb, hml, hown, hwd⟩ (c_X12_isDay l dC dI g c adK adV v F rc H.size p1 hg hI ) (va_cwS 1 hwd (gT wk_556 wk_554 wk_555 wk_5) rfl rfl rfl (by decide +kernel) ⟨Nat.le_of_ble_eq_true rfl, Nat.le_of_ble_eq_true rfl⟩) ⟨PM.blind, fun U hU hW => ⟨rfl, PM.at hK hE hP hS hU hW⟩⟩ rfl rfl hl.1 rfl (lv_room (Nat.le_of_ble_eq_true rfl)) dX12_order_9 ⟨Nat.le_of_ble_eq_true rfl, Nat.le_of_ble_eq_true rfl⟩) hS (fun q _ h => (freeM hS) q h) (freeM hS) (fun r7492 u t H1 locs ht hvm hw hB hz1 hk1 hS => ?_)
    unfold BM at hB
    rw [ht] at hB
    have hP : va_P (dC, dI) classes (wM g c v F rc) H1 := hB
    have hw : (r7492.toInt = 1 ∧ 0 ≤ p1.toInt ∧ p1.toInt ≤ 9999) ∨ (r7492.toInt = 0 ∧ (p1.toInt < 0 ∨ 9999 < p1.toInt)) := hw
    have hw_r7492 := hw
    generalize H1 = H at hP hS ⊢
    refine lv_if_ne (tgt := 17) hx hb dX12_order_12 (by decide) (fun c7493 => ?_) (fun c7493 => ?_)
    · skip
      have t7494 := cv_ne (a := r7492.toInt) rfl (b := 0) (by decide) c7493
      refine lv_aload_n hx hb dX12_order_17 rfl (lv_at hl 0 rfl) ?_
      refine va_get (D := (dC, dI)) (ci := 12) (v := .int (v 45)) (C := RX12) (T := TX12) (N := 63) hx hb hwd inA_X12 hown hK hP 0 rfl rfl 45 (by decide) (hwd _ wk_485) (fun _ h9 => h9) rfl dX12_order_18 ?_
      have t7495 : 0 ≤ (v 45).toInt ∧ (v 45).toInt ≤ 20 := hI.1 45 _ _ rfl
      refine lv_bipush (v := 20) hx hb dX12_order_21 (by decide) ?_
      refine lv_icmp_ne (tgt := 29) hx hb dX12_order_23 (by decide) (fun c7496 => ?_) (fun c7496 => ?_)
      · skip
        have t7497 := cv_ne (a := (v 45).toInt) rfl (b := 20) (by decide) c7496
        refine lv_aload_n hx hb dX12_order_29 rfl (lv_at hl 0 rfl) ?_
        refine va_get (D := (dC, dI)) (ci := 12) (v := .ref (g 32)) (C := RX12) (T := TX12) (N := 63) hx hb hwd inA_X12 hown hK hP 0 rfl rfl 46 (by decide) (hwd _ wk_214) (fun _ h9 => h9) rfl dX12_order_30 ?_
        refine lv_aload_n hx hb dX12_order_33 rfl (lv_at hl 0 rfl) ?_
        refine va_get (D := (dC, dI)) (ci := 12) (v := .int (v 45)) (C := RX12) (T := TX12) (N := 63) hx hb hwd inA_X12 hown hK hP 0 rfl rfl 45 (by decide) (hwd _ wk_485) (fun _ h9 => h9) rfl dX12_order_34 ?_
        have t7498 : 0 ≤ (v 45).toInt ∧ (v 45).toInt ≤ 20 := hI.1 45 _ _ rfl
        refine lv_iload_n hx hb dX12_order_37 rfl (lv_at hl 1 rfl) ?_
        refine va_iast hx hb hK hP (DM hg) hS 32 31 rfl rfl (i := (v 45)) (x := p0) (vin (a := (v 45).toInt) rfl (by omega)) dX12_order_38 (fun H locs hP _ hS => ?_)
        have hP := va_P_eq (sM_32 g c _ _ _ _) hP
        have hI := IM.store hI 32 (v 45 : Int32).toNatClampNeg p0 rfl (by omega)
        have hF := frUF (k := 32) (f := upd (F 32) (v 45 : Int32).toNatClampNeg p0) (by decide) hF
        have hP : va_P (dC, dI) classes (wM g c v (va_up F 32 (upd (F 32) (v 45 : Int32).toNatClampNeg p0)) rc) H := hP
        generalize (va_up F 32 (upd (F 32) (v 45 : Int32).toNatClampNeg p0)) = F7499 at hP hI hF
        refine lv_aload_n hx hb dX12_order_39 rfl (lv_at hl 0 rfl) ?_
        refine va_get (D := (dC, dI)) (ci := 12) (v := .ref (g 33)) (C := RX12) (T := TX12) (N := 63) hx hb hwd inA_X12 hown hK hP 0 rfl rfl 47 (by decide) (hwd _ wk_215) (fun _ h9 => h9) rfl dX12_order_40 ?_
        refine lv_aload_n hx hb dX12_order_43 rfl (lv_at hl 0 rfl) ?_
        refine va_get (D := (dC, dI)) (ci := 12) (v := .int (v 45)) (C := RX12) (T := TX12) (N := 63) hx hb hwd inA_X12 hown hK hP 0 rfl rfl 45 (by decide) (hwd _ wk_485) (fun _ h9 => h9) rfl dX12_order_44 ?_
        have t7500 : 0 ≤ (v 45).toInt ∧ (v 45).toInt ≤ 20 := hI.1 45 _ _ rfl
        refine lv_iload_n hx hb dX12_order_47 rfl (lv_at hl 2 rfl) ?_
        refine va_iast hx hb hK hP (DM hg) hS 33 32 rfl rfl (i := (v 45)) (x := p1) (vin (a := (v 45).toInt) rfl (by omega)) dX12_order_48 (fun H locs hP _ hS => ?_)
        have hP := va_P_eq (sM_33 g c _ _ _ _) hP
        have hI := IM.store0 hI 33 (v 45 : Int32).toNatClampNeg p1 rfl
        have hF := frUF (k := 33) (f := upd (F7499 33) (v 45 : Int32).toNatClampNeg p1) (by decide) hF
        have hP : va_P (dC, dI) classes (wM g c v (va_up F7499 33 (upd (F7499 33) (v 45 : Int32).toNatClampNeg p1)) rc) H := hP
        generalize (va_up F7499 33 (upd (F7499 33) (v 45 : Int32).toNatClampNeg p1)) = F7501 at hP hI hF
        refine lv_aload_n hx hb dX12_order_49 rfl (lv_at hl 0 rfl) ?_
        refine lv_dup hx hb dX12_order_50 rfl ?_
        refine va_get (D := (dC, dI)) (ci := 12) (v := .int (v 45)) (C := RX12) (T := TX12) (N := 63) hx hb hwd inA_X12 hown hK hP 0 rfl rfl 45 (by decide) (hwd _ wk_485) (fun _ h9 => h9) rfl dX12_order_51 ?_
        have t7502 : 0 ≤ (v 45).toInt ∧ (v 45).toInt ≤ 20 := hI.1 45 _ _ rfl
        refine lv_iconst (v := 1) hx hb dX12_order_54 (by decide) ?_
        refine lv_iadd hx hb dX12_order_55 ?_
        refine lv_topi (fun z7503 e7504 => ?_)
        try (have t7505 := tadd e7504 (a := (v 45).toInt) rfl (b := 1) (by decide) (by omega))
        refine va_put (D := (dC, dI)) (ci := 12) (v := .int z7503) (ty := .int) (C := RX12) (T := TX12) (N := 63) (fs := fsM_0 g v rc) hx hb hwd inA_X12 tyX12 tyX12_ok nmX12 hown hK hP (DM hg) hS 0 rfl rfl 45 (by decide) (hwd _ wk_485) (fun _ h9 => h9) rfl (by decide +kernel) rfl rfl (Nat.le_of_ble_eq_true rfl) dX12_order_56 (fun H locs hP _ hS => ?_)
        have hP := va_P_eq (pM_45 g c _ _ _ _) hP
        have hI := IM.put hI 45 z7503 rfl (by omega)
        refine lv_aload_n hx hb dX12_order_59 rfl (lv_at hl 0 rfl) ?_
        refine va_get (D := (dC, dI)) (ci := 12) (v := .int z7503) (C := RX12) (T := TX12) (N := 63) hx hb hwd inA_X12 hown hK hP 0 rfl rfl 45 (by decide) (hwd _ wk_485) (fun _ h9 => h9) rfl dX12_order_60 ?_
        have t7506 : 0 ≤ z7503.toInt ∧ z7503.toInt ≤ 20 := hI.1 45 _ _ rfl
        refine lv_iconst (v := 1) hx hb dX12_order_63 (by decide) ?_
        refine lv_isub hx hb dX12_order_64 ?_
        refine lv_topi (fun z7507 e7508 => ?_)
        try (have t7509 := tsub e7508 (a := z7503.toInt) rfl (b := 1) (by decide) (by omega))
        have hP9 : va_P (dC, dI) classes (wM g c (va_up v 45 z7503) F7501 rc) H := hP
        exact W.iret (v := z7507) hx hb hr (fun t ht hW => ⟨⟨z7507, ((va_up v 45 z7503), F7501, rc), rfl, ⟨hI, rfl, (frU (by decide) (fun _ _ => rfl)), hF, trivial⟩, (by show va_P _ _ _ t.heap; rw [ht]; exact hP9)⟩, hS.F ht⟩) hS.2.2 dX12_order_65
      · skip
        have t7510 := cv_eq (a := (v 45).toInt) rfl (b := 20) (by decide) c7496
        refine lv_bipush (v := (-3)) hx hb dX12_order_26 (by decide) ?_
        have hP9 : va_P (dC, dI) classes (wM g c v F rc) H := hP
        exact W.iret (v := (-3)) hx hb hr (fun t ht hW => ⟨⟨(-3), (v, F, rc), rfl, ⟨hI, rfl, (fun _ _ => rfl), hF, trivial⟩, (by show va_P _ _ _ t.heap; rw [ht]; exact hP9)⟩, hS.F ht⟩) hS.2.2 dX12_order_28
    · skip
      have t7511 := cv_eq (a := r7492.toInt) rfl (b := 0) (by decide) c7493
      refine lv_iconst (v := (-1)) hx hb dX12_order_15 (by decide) ?_
      have hP9 : va_P (dC, dI) classes (wM g c v F rc) H := hP
      exact W.iret (v := (-1)) hx hb hr (fun t ht hW => ⟨⟨(-1), (v, F, rc), rfl, ⟨hI, rfl, (fun _ _ => rfl), hF, trivial⟩, (by show va_P _ _ _ t.heap; rw [ht]; exact hP9)⟩, hS.F ht⟩) hS.2.2 dX12_order_16
set_option maxHeartbeats 8000000 in
set_option maxRecDepth 100000 in
theorem c_X12_need (l : Launch) (dC : Nat → ClassId) (dI : Nat → Nat → Nat) (g : Nat → Nat) (c : Nat → ClassId) (adK adV : Nat → Nat) (v : Nat → Int32) (F : Nat → Nat → Int32) (rc sz : Nat) (p0 : Int32) (p1 : Int32) (p2 : Int32) (hg : injM g) (hI : IM v F) : Met l yX12_need (Cond.code yX12_need cX12_need 5 (some .int) :: wA) ({ frames := 3, cells := 0, slots := 0, locals := 120 }) (va_Pc [.ref (g 0), .int p0, .int p1, .int p2] (PM dC dI g c adK adV v F rc sz)) (va_Qi (fun (r : Int32) (u : StM) => IM u.1 u.2.1 ∧ u.2.2 = rc ∧ (∀ k, k ∉ ([] : List Nat) → u.1 k = v k) ∧ (∀ k, k ∉ ([9] : List Nat) → u.2.1 k = F k) ∧ True) (BM dC dI g c) (AM g sz)) 0 0 (AM g sz) := by
  refine Met.ofW (cc := cX12_need) (maxL := 5) (ret := (some .int)) (by decide) rfl ?_
  intro p e s m args below meth c0 s₁ B hml hv
  obtain ⟨rfl, hsz, hP, hK, hE⟩ := hv
  have hx := B.exec
  have hb := B.bytes
  have hr := B.returns
  have hts := atoms_spec (ws := Cond.code yX12_need cX12_need 5 (some .int) :: wA) B.pre
  have hwd : ∀ w ∈ wA, w.before _ s = true := fun w h => hts w (List.mem_cons_of_mem _ h)
  have hown : s.vm.findClass RX12 = some m.cls := findClass_of_methodNamed B.named
  have hlocks := B.notSynchronized
  subst hsz
  have hl := lv_entry ([.ref (g 0), .int p0, .int p1, .int p2]) (n := 5) (Nat.le_of_ble_eq_true rfl)
  rw [lg_entry_eq]
  generalize (lg_sl ([.ref (g 0), .int p0, .int p1, .int p2]) ++ List.replicate (5 - (lg_sl ([.ref (g 0), .int p0, .int p1, .int p2])).length) Slot.unset).toArray = ls at hl ⊢
  have hl : lv_has ls 5 [(0, .ref (g 0)), (1, .int p0), (2, .int p1), (3, .int p2)] := hl
  obtain ⟨H, eH⟩ : ∃ z, z = s.heap := ⟨_, rfl⟩
  have hP : va_P (dC, dI) classes (wM g c v F rc) H := by rw [eH]; exact hP
  have hS : va_S (AM g s.heap.size) s.heap H [] := by rw [eH]; exact va_S.rf
  refine my_heap eH ?_
  have hF : ∀ k, k ∉ ([9] : List Nat) → F k = F k := fun _ _ => rfl
  have rp0 := i32_rng p0
  have rp1 := i32_rng p1
  have rp2 := i32_rng p2
  refine lv_aload_n hx hb dX12_need_0 rfl (lv_at hl 0 rfl) ?_
  refine lv_iload_n hx hb dX12_need_1 rfl (lv_at hl 1 rfl) ?_
  refine va_calli (va_runV (As := [.int p0]) (rest := []) ⟨hx, hb, hml, hown, hwd⟩ (c_X12_isPlane l dC dI g c adK adV v F rc H.size p0 hg hI ) (cwV 1 hwd (gV wk_305 wk_302 wk_303 wk_304 wk_5) rfl rfl rfl (by decide +kernel) ⟨Nat.le_of_ble_eq_true rfl, Nat.le_of_ble_eq_true rfl⟩) ⟨PM.blind, va_recv hK hP (ci := 12) (q0 := 0) rfl rfl, fun U hU hW => ⟨rfl, PM.at hK hE hP hS hU hW⟩⟩ rfl rfl hl.1 rfl (lv_room (Nat.le_of_ble_eq_true rfl)) dX12_need_2 ⟨Nat.le_of_ble_eq_true rfl, Nat.le_of_ble_eq_true rfl⟩) hS (fun q _ h => (freeM hS) q h) (freeM hS) (fun r7549 u t H1 locs ht hvm hw hB hz1 hk1 hS => ?_)
  unfold BM at hB
  rw [ht] at hB
  have hP : va_P (dC, dI) classes (wM g c v F rc) H1 := hB
  have hw : (r7549.toInt = 1 ∧ 0 ≤ p0.toInt ∧ p0.toInt < (v 6).toInt) ∨ (r7549.toInt = 0 ∧ (p0.toInt < 0 ∨ (v 6).toInt ≤ p0.toInt)) := hw
  have hw_r7549 := hw
  generalize H1 = H at hP hS ⊢
  refine lv_if_eq (tgt := 25) hx hb dX12_need_5 (by decide) (fun c7550 => ?_) (fun c7550 => ?_)
  · skip
    have t7551 := cv_eq (a := r7549.toInt) rfl (b := 0) (by decide) c7550
    refine lv_iconst (v := (-1)) hx hb dX12_need_25 (by decide) ?_
    have hP9 : va_P (dC, dI) classes (wM g c v F rc) H := hP
    exact W.iret (v := (-1)) hx hb hr (fun t ht hW => ⟨⟨(-1), (v, F, rc), rfl, ⟨hI, rfl, (fun _ _ => rfl), hF, trivial⟩, (by show va_P _ _ _ t.heap; rw [ht]; exact hP9)⟩, hS.F ht⟩) hS.2.2 dX12_need_26
  · skip
    have t7552 := cv_ne (a := r7549.toInt) rfl (b := 0) (by decide) c7550
    refine lv_aload_n hx hb dX12_need_8 rfl (lv_at hl 0 rfl) ?_
    refine lv_iload_n hx hb dX12_need_9 rfl (lv_at hl 2 rfl) ?_
    refine va_calli (va_runV (As := [.int p1]) (rest := []) ⟨hx, hb, hml, hown, hwd⟩ (c_X12_isKind l dC dI g c adK adV v F rc H.size p1 hg hI ) (cwV 1 hwd (gV wk_309 wk_306 wk_307 wk_308 wk_5) rfl rfl rfl (by decide +kernel) ⟨Nat.le_of_ble_eq_true rfl, Nat.le_of_ble_eq_true rfl⟩) ⟨PM.blind, va_recv hK hP (ci := 12) (q0 := 0) rfl rfl, fun U hU hW => ⟨rfl, PM.at hK hE hP hS hU hW⟩⟩ rfl rfl hl.1 rfl (lv_room (Nat.le_of_ble_eq_true rfl)) dX12_need_10 ⟨Nat.le_of_ble_eq_true rfl, Nat.le_of_ble_eq_true rfl⟩) hS (fun q _ h => (freeM hS) q h) (freeM hS) (fun r7553 u t H1 locs ht hvm hw hB hz1 hk1 hS => ?_)
    unfold BM at hB
    rw [ht] at hB
    have hP : va_P (dC, dI) classes (wM g c v F rc) H1 := hB
    have hw : (r7553.toInt = 1 ∧ 0 ≤ p1.toInt ∧ p1.toInt < (v 2).toInt) ∨ (r7553.toInt = 0 ∧ (p1.toInt < 0 ∨ (v 2).toInt ≤ p1.toInt)) := hw
    have hw_r7553 := hw
    generalize H1 = H at hP hS ⊢
    refine lv_if_eq (tgt := 25) hx hb dX12_need_13 (by decide) (fun c7554 => ?_) (fun c7554 => ?_)
    · skip
      have t7555 := cv_eq (a := r7553.toInt) rfl (b := 0) (by decide) c7554
      refine lv_iconst (v := (-1)) hx hb dX12_need_25 (by decide) ?_
      have hP9 : va_P (dC, dI) classes (wM g c v F rc) H := hP
      exact W.iret (v := (-1)) hx hb hr (fun t ht hW => ⟨⟨(-1), (v, F, rc), rfl, ⟨hI, rfl, (fun _ _ => rfl), hF, trivial⟩, (by show va_P _ _ _ t.heap; rw [ht]; exact hP9)⟩, hS.F ht⟩) hS.2.2 dX12_need_26
    · skip
      have t7556 := cv_ne (a := r7553.toInt) rfl (b := 0) (by decide) c7554
      refine lv_iload_n hx hb dX12_need_16 rfl (lv_at hl 3 rfl) ?_
      refine lv_iconst (v := 0) hx hb dX12_need_17 (by decide) ?_
      refine lv_iconst (v := 3) hx hb dX12_need_18 (by decide) ?_
      refine va_calli (va_runS (As := [.int p2, .int 0, .int 3]) (rest := []) ⟨hx, hb, hml, hown, hwd⟩ (c_X12_in l dC dI g c adK adV v F rc H.size p2 0 3 hg hI ) (va_cwS 3 hwd (gT wk_254 wk_252 wk_253 wk_5) rfl rfl rfl (by decide +kernel) ⟨Nat.le_of_ble_eq_true rfl, Nat.le_of_ble_eq_true rfl⟩) ⟨PM.blind, fun U hU hW => ⟨rfl, PM.at hK hE hP hS hU hW⟩⟩ rfl rfl hl.1 rfl (lv_room (Nat.le_of_ble_eq_true rfl)) dX12_need_19 ⟨Nat.le_of_ble_eq_true rfl, Nat.le_of_ble_eq_true rfl⟩) hS (fun q _ h => (freeM hS) q h) (freeM hS) (fun r7557 u t H1 locs ht hvm hw hB hz1 hk1 hS => ?_)
      unfold BM at hB
      rw [ht] at hB
      have hP : va_P (dC, dI) classes (wM g c v F rc) H1 := hB
      have hw : (r7557.toInt = 1 ∧ (0 : Int32).toInt ≤ p2.toInt ∧ p2.toInt ≤ (3 : Int32).toInt) ∨ (r7557.toInt = 0 ∧ (p2.toInt < (0 : Int32).toInt ∨ (3 : Int32).toInt < p2.toInt)) := hw
      have hw_r7557 := hw
      have k7558 : (0 : Int32).toInt = 0 := by decide
      have k7559 : (3 : Int32).toInt = 3 := by decide
      generalize H1 = H at hP hS ⊢
      refine lv_if_ne (tgt := 27) hx hb dX12_need_22 (by decide) (fun c7560 => ?_) (fun c7560 => ?_)
      · skip
        have t7561 := cv_ne (a := r7557.toInt) rfl (b := 0) (by decide) c7560
        refine lv_aload_n hx hb dX12_need_27 rfl (lv_at hl 0 rfl) ?_
        refine lv_iload_n hx hb dX12_need_28 rfl (lv_at hl 1 rfl) ?_
        refine va_calli (va_runV (As := [.int p0]) (rest := []) ⟨hx, hb, hml, hown, hwd⟩ (c_X12_isReturned l dC dI g c adK adV v F rc H.size p0 hg hI (by omega)) (cwV 1 hwd (gV wk_313 wk_310 wk_311 wk_312 wk_5) rfl rfl rfl (by decide +kernel) ⟨Nat.le_of_ble_eq_true rfl, Nat.le_of_ble_eq_true rfl⟩) ⟨PM.blind, va_recv hK hP (ci := 12) (q0 := 0) rfl rfl, fun U hU hW => ⟨rfl, PM.at hK hE hP hS hU hW⟩⟩ rfl rfl hl.1 rfl (lv_room (Nat.le_of_ble_eq_true rfl)) dX12_need_29 ⟨Nat.le_of_ble_eq_true rfl, Nat.le_of_ble_eq_true rfl⟩) hS (fun q _ h => (freeM hS) q h) (freeM hS) (fun r7562 u t H1 locs ht hvm hw hB hz1 hk1 hS => ?_)
        unfold BM at hB
        rw [ht] at hB
        have hP : va_P (dC, dI) classes (wM g c v F rc) H1 := hB
        have hw : 0 ≤ r7562.toInt ∧ r7562.toInt ≤ 1 := hw
        have hw_r7562 := hw
        generalize H1 = H at hP hS ⊢
        refine lv_if_ne (tgt := 45) hx hb dX12_need_32 (by decide) (fun c7563 => ?_) (fun c7563 => ?_)
        · skip
          have t7564 := cv_ne (a := r7562.toInt) rfl (b := 0) (by decide) c7563
          refine lv_bipush (v := (-2)) hx hb dX12_need_45 (by decide) ?_
          have hP9 : va_P (dC, dI) classes (wM g c v F rc) H := hP
          exact W.iret (v := (-2)) hx hb hr (fun t ht hW => ⟨⟨(-2), (v, F, rc), rfl, ⟨hI, rfl, (fun _ _ => rfl), hF, trivial⟩, (by show va_P _ _ _ t.heap; rw [ht]; exact hP9)⟩, hS.F ht⟩) hS.2.2 dX12_need_47
        · skip
          have t7565 := cv_eq (a := r7562.toInt) rfl (b := 0) (by decide) c7563
          refine lv_aload_n hx hb dX12_need_35 rfl (lv_at hl 0 rfl) ?_
          refine lv_iload_n hx hb dX12_need_36 rfl (lv_at hl 1 rfl) ?_
          refine lv_iload_n hx hb dX12_need_37 rfl (lv_at hl 2 rfl) ?_
          refine va_calli (va_runV (As := [.int p0, .int p1]) (rest := []) ⟨hx, hb, hml, hown, hwd⟩ (c_X12_onIt l dC dI g c adK adV v F rc H.size p0 p1 hg hI ) (cwV 2 hwd (gV wk_317 wk_314 wk_315 wk_316 wk_5) rfl rfl rfl (by decide +kernel) ⟨Nat.le_of_ble_eq_true rfl, Nat.le_of_ble_eq_true rfl⟩) ⟨PM.blind, va_recv hK hP (ci := 12) (q0 := 0) rfl rfl, fun U hU hW => ⟨rfl, PM.at hK hE hP hS hU hW⟩⟩ rfl rfl hl.1 rfl (lv_room (Nat.le_of_ble_eq_true rfl)) dX12_need_38 ⟨Nat.le_of_ble_eq_true rfl, Nat.le_of_ble_eq_true rfl⟩) hS (fun q _ h => (freeM hS) q h) (freeM hS) (fun r7566 u t H1 locs ht hvm hw hB hz1 hk1 hS => ?_)
          unfold BM at hB
          rw [ht] at hB
          have hP : va_P (dC, dI) classes (wM g c v F rc) H1 := hB
          generalize H1 = H at hP hS ⊢
          have rr_r7566 := i32_rng r7566
          refine lv_iload_n hx hb dX12_need_41 rfl (lv_at hl 3 rfl) ?_
          refine lv_icmp_le (tgt := 48) hx hb dX12_need_42 (by decide) (fun c7567 => ?_) (fun c7567 => ?_)
          · skip
            have t7568 := cv_le (a := r7566.toInt) rfl (b := p2.toInt) rfl c7567
            refine lv_aload_n hx hb dX12_need_48 rfl (lv_at hl 0 rfl) ?_
            refine va_get (D := (dC, dI)) (ci := 12) (v := .ref (g 9)) (C := RX12) (T := TX12) (N := 63) hx hb hwd inA_X12 hown hK hP 0 rfl rfl 12 (by decide) (hwd _ wk_190) (fun _ h9 => h9) rfl dX12_need_49 ?_
            refine lv_bipush (v := 10) hx hb dX12_need_52 (by decide) ?_
            refine lv_iload_n hx hb dX12_need_54 rfl (lv_at hl 1 rfl) ?_
            refine lv_imul hx hb dX12_need_55 ?_
            refine lv_topi (fun z7569 e7570 => ?_)
            try (have t7571 := tmul e7570 (a := 10) (by decide) (b := p0.toInt) rfl (by omega))
            refine lv_iload_n hx hb dX12_need_56 rfl (lv_at hl 2 rfl) ?_
            refine lv_iadd hx hb dX12_need_57 ?_
            refine lv_topi (fun z7572 e7573 => ?_)
            try (have t7574 := tadd e7573 (a := z7569.toInt) rfl (b := p1.toInt) rfl (by omega))
            refine va_iald hx hb hK hP 9 8 rfl rfl (i := z7572) (vin (a := z7572.toInt) rfl (by omega)) dX12_need_58 ?_
            refine lv_topi (fun z7575 e7576 => ?_)
            refine lv_istore (lv' := [(4, .int z7575), (0, .ref (g 0)), (1, .int p0), (2, .int p1), (3, .int p2)]) hx hb dX12_need_59 hl (by decide) rfl (fun ls hl => ?_)
            refine lv_aload_n hx hb dX12_need_61 rfl (lv_at hl 1 rfl) ?_
            refine va_get (D := (dC, dI)) (ci := 12) (v := .ref (g 9)) (C := RX12) (T := TX12) (N := 63) hx hb hwd inA_X12 hown hK hP 0 rfl rfl 12 (by decide) (hwd _ wk_190) (fun _ h9 => h9) rfl dX12_need_62 ?_
            refine lv_bipush (v := 10) hx hb dX12_need_65 (by decide) ?_
            refine lv_iload_n hx hb dX12_need_67 rfl (lv_at hl 2 rfl) ?_
            refine lv_imul hx hb dX12_need_68 ?_
            refine lv_topi (fun z7577 e7578 => ?_)
            try (have t7579 := tmul e7578 (a := 10) (by decide) (b := p0.toInt) rfl (by omega))
            refine lv_iload_n hx hb dX12_need_69 rfl (lv_at hl 3 rfl) ?_
            refine lv_iadd hx hb dX12_need_70 ?_
            refine lv_topi (fun z7580 e7581 => ?_)
            try (have t7582 := tadd e7581 (a := z7577.toInt) rfl (b := p1.toInt) rfl (by omega))
            refine lv_iload_n hx hb dX12_need_71 rfl (lv_at hl 4 rfl) ?_
            refine va_iast hx hb hK hP (DM hg) hS 9 8 rfl rfl (i := z7580) (x := p2) (vin (a := z7580.toInt) rfl (by omega)) dX12_need_72 (fun H locs hP _ hS => ?_)
            have hP := va_P_eq (sM_9 g c _ _ _ _) hP
            have hI := IM.store0 hI 9 (z7580 : Int32).toNatClampNeg p2 rfl
            have hF := frUF (k := 9) (f := upd (F 9) (z7580 : Int32).toNatClampNeg p2) (by decide) hF
            have hP : va_P (dC, dI) classes (wM g c v (va_up F 9 (upd (F 9) (z7580 : Int32).toNatClampNeg p2)) rc) H := hP
            generalize (va_up F 9 (upd (F 9) (z7580 : Int32).toNatClampNeg p2)) = F7583 at hP hI hF
            refine lv_iload hx hb dX12_need_73 (lv_at hl 0 rfl) ?_
            have hP9 : va_P (dC, dI) classes (wM g c v F7583 rc) H := hP
            exact W.iret (v := z7575) hx hb hr (fun t ht hW => ⟨⟨z7575, (v, F7583, rc), rfl, ⟨hI, rfl, (fun _ _ => rfl), hF, trivial⟩, (by show va_P _ _ _ t.heap; rw [ht]; exact hP9)⟩, hS.F ht⟩) hS.2.2 dX12_need_75
          · skip
            have t7584 := cv_nle (a := r7566.toInt) rfl (b := p2.toInt) rfl c7567
            refine lv_bipush (v := (-2)) hx hb dX12_need_45 (by decide) ?_
            have hP9 : va_P (dC, dI) classes (wM g c v F rc) H := hP
            exact W.iret (v := (-2)) hx hb hr (fun t ht hW => ⟨⟨(-2), (v, F, rc), rfl, ⟨hI, rfl, (fun _ _ => rfl), hF, trivial⟩, (by show va_P _ _ _ t.heap; rw [ht]; exact hP9)⟩, hS.F ht⟩) hS.2.2 dX12_need_47
      · skip
        have t7585 := cv_eq (a := r7557.toInt) rfl (b := 0) (by decide) c7560
        refine lv_iconst (v := (-1)) hx hb dX12_need_25 (by decide) ?_
        have hP9 : va_P (dC, dI) classes (wM g c v F rc) H := hP
        exact W.iret (v := (-1)) hx hb hr (fun t ht hW => ⟨⟨(-1), (v, F, rc), rfl, ⟨hI, rfl, (fun _ _ => rfl), hF, trivial⟩, (by show va_P _ _ _ t.heap; rw [ht]; exact hP9)⟩, hS.F ht⟩) hS.2.2 dX12_need_26
set_option maxHeartbeats 8000000 in
set_option maxRecDepth 100000 in
theorem c_X12_link (l : Launch) (dC : Nat → ClassId) (dI : Nat → Nat → Nat) (g : Nat → Nat) (c : Nat → ClassId) (adK adV : Nat → Nat) (v : Nat → Int32) (F : Nat → Nat → Int32) (rc sz : Nat) (p0 : Int32) (p1 : Int32) (p2 : Int32) (hg : injM g) (hI : IM v F) : Met l yX12_link (Cond.code yX12_link cX12_link 4 (some .int) :: wA) ({ frames := 3, cells := 0, slots := 0, locals := 120 }) (va_Pc [.ref (g 0), .int p0, .int p1, .int p2] (PM dC dI g c adK adV v F rc sz)) (va_Qi (fun (r : Int32) (u : StM) => IM u.1 u.2.1 ∧ u.2.2 = rc ∧ (∀ k, k ∉ ([] : List Nat) → u.1 k = v k) ∧ (∀ k, k ∉ ([44, 45] : List Nat) → u.2.1 k = F k) ∧ True) (BM dC dI g c) (AM g sz)) 0 0 (AM g sz) := by
  refine Met.ofW (cc := cX12_link) (maxL := 4) (ret := (some .int)) (by decide) rfl ?_
  intro p e s m args below meth c0 s₁ B hml hv
  obtain ⟨rfl, hsz, hP, hK, hE⟩ := hv
  have hx := B.exec
  have hb := B.bytes
  have hr := B.returns
  have hts := atoms_spec (ws := Cond.code yX12_link cX12_link 4 (some .int) :: wA) B.pre
  have hwd : ∀ w ∈ wA, w.before _ s = true := fun w h => hts w (List.mem_cons_of_mem _ h)
  have hown : s.vm.findClass RX12 = some m.cls := findClass_of_methodNamed B.named
  have hlocks := B.notSynchronized
  subst hsz
  have hl := lv_entry ([.ref (g 0), .int p0, .int p1, .int p2]) (n := 4) (Nat.le_of_ble_eq_true rfl)
  rw [lg_entry_eq]
  generalize (lg_sl ([.ref (g 0), .int p0, .int p1, .int p2]) ++ List.replicate (4 - (lg_sl ([.ref (g 0), .int p0, .int p1, .int p2])).length) Slot.unset).toArray = ls at hl ⊢
  have hl : lv_has ls 4 [(0, .ref (g 0)), (1, .int p0), (2, .int p1), (3, .int p2)] := hl
  obtain ⟨H, eH⟩ : ∃ z, z = s.heap := ⟨_, rfl⟩
  have hP : va_P (dC, dI) classes (wM g c v F rc) H := by rw [eH]; exact hP
  have hS : va_S (AM g s.heap.size) s.heap H [] := by rw [eH]; exact va_S.rf
  refine my_heap eH ?_
  have hF : ∀ k, k ∉ ([44, 45] : List Nat) → F k = F k := fun _ _ => rfl
  have rp0 := i32_rng p0
  have rp1 := i32_rng p1
  have rp2 := i32_rng p2
  refine lv_aload_n hx hb dX12_link_0 rfl (lv_at hl 0 rfl) ?_
  refine lv_iload_n hx hb dX12_link_1 rfl (lv_at hl 1 rfl) ?_
  refine va_calli (va_runV (As := [.int p0]) (rest := []) ⟨hx, hb, hml, hown, hwd⟩ (c_X12_isPlane l dC dI g c adK adV v F rc H.size p0 hg hI ) (cwV 1 hwd (gV wk_305 wk_302 wk_303 wk_304 wk_5) rfl rfl rfl (by decide +kernel) ⟨Nat.le_of_ble_eq_true rfl, Nat.le_of_ble_eq_true rfl⟩) ⟨PM.blind, va_recv hK hP (ci := 12) (q0 := 0) rfl rfl, fun U hU hW => ⟨rfl, PM.at hK hE hP hS hU hW⟩⟩ rfl rfl hl.1 rfl (lv_room (Nat.le_of_ble_eq_true rfl)) dX12_link_2 ⟨Nat.le_of_ble_eq_true rfl, Nat.le_of_ble_eq_true rfl⟩) hS (fun q _ h => (freeM hS) q h) (freeM hS) (fun r7632 u t H1 locs ht hvm hw hB hz1 hk1 hS => ?_)
  unfold BM at hB
  rw [ht] at hB
  have hP : va_P (dC, dI) classes (wM g c v F rc) H1 := hB
  have hw : (r7632.toInt = 1 ∧ 0 ≤ p0.toInt ∧ p0.toInt < (v 6).toInt) ∨ (r7632.toInt = 0 ∧ (p0.toInt < 0 ∨ (v 6).toInt ≤ p0.toInt)) := hw
  have hw_r7632 := hw
  generalize H1 = H at hP hS ⊢
  refine lv_if_eq (tgt := 28) hx hb dX12_link_5 (by decide) (fun c7633 => ?_) (fun c7633 => ?_)
  · skip
    have t7634 := cv_eq (a := r7632.toInt) rfl (b := 0) (by decide) c7633
    refine lv_iconst (v := (-1)) hx hb dX12_link_28 (by decide) ?_
    have hP9 : va_P (dC, dI) classes (wM g c v F rc) H := hP
    exact W.iret (v := (-1)) hx hb hr (fun t ht hW => ⟨⟨(-1), (v, F, rc), rfl, ⟨hI, rfl, (fun _ _ => rfl), hF, trivial⟩, (by show va_P _ _ _ t.heap; rw [ht]; exact hP9)⟩, hS.F ht⟩) hS.2.2 dX12_link_29
  · skip
    have t7635 := cv_ne (a := r7632.toInt) rfl (b := 0) (by decide) c7633
    refine lv_iload_n hx hb dX12_link_8 rfl (lv_at hl 2 rfl) ?_
    refine lv_iconst (v := 0) hx hb dX12_link_9 (by decide) ?_
    refine lv_bipush (v := 9) hx hb dX12_link_10 (by decide) ?_
    refine va_calli (va_runS (As := [.int p1, .int 0, .int 9]) (rest := []) ⟨hx, hb, hml, hown, hwd⟩ (c_X12_in l dC dI g c adK adV v F rc H.size p1 0 9 hg hI ) (va_cwS 3 hwd (gT wk_254 wk_252 wk_253 wk_5) rfl rfl rfl (by decide +kernel) ⟨Nat.le_of_ble_eq_true rfl, Nat.le_of_ble_eq_true rfl⟩) ⟨PM.blind, fun U hU hW => ⟨rfl, PM.at hK hE hP hS hU hW⟩⟩ rfl rfl hl.1 rfl (lv_room (Nat.le_of_ble_eq_true rfl)) dX12_link_12 ⟨Nat.le_of_ble_eq_true rfl, Nat.le_of_ble_eq_true rfl⟩) hS (fun q _ h => (freeM hS) q h) (freeM hS) (fun r7636 u t H1 locs ht hvm hw hB hz1 hk1 hS => ?_)
    unfold BM at hB
    rw [ht] at hB
    have hP : va_P (dC, dI) classes (wM g c v F rc) H1 := hB
    have hw : (r7636.toInt = 1 ∧ (0 : Int32).toInt ≤ p1.toInt ∧ p1.toInt ≤ (9 : Int32).toInt) ∨ (r7636.toInt = 0 ∧ (p1.toInt < (0 : Int32).toInt ∨ (9 : Int32).toInt < p1.toInt)) := hw
    have hw_r7636 := hw
    have k7637 : (0 : Int32).toInt = 0 := by decide
    have k7638 : (9 : Int32).toInt = 9 := by decide
    generalize H1 = H at hP hS ⊢
    refine lv_if_eq (tgt := 28) hx hb dX12_link_15 (by decide) (fun c7639 => ?_) (fun c7639 => ?_)
    · skip
      have t7640 := cv_eq (a := r7636.toInt) rfl (b := 0) (by decide) c7639
      refine lv_iconst (v := (-1)) hx hb dX12_link_28 (by decide) ?_
      have hP9 : va_P (dC, dI) classes (wM g c v F rc) H := hP
      exact W.iret (v := (-1)) hx hb hr (fun t ht hW => ⟨⟨(-1), (v, F, rc), rfl, ⟨hI, rfl, (fun _ _ => rfl), hF, trivial⟩, (by show va_P _ _ _ t.heap; rw [ht]; exact hP9)⟩, hS.F ht⟩) hS.2.2 dX12_link_29
    · skip
      have t7641 := cv_ne (a := r7636.toInt) rfl (b := 0) (by decide) c7639
      refine lv_iload_n hx hb dX12_link_18 rfl (lv_at hl 3 rfl) ?_
      refine lv_iconst (v := 0) hx hb dX12_link_19 (by decide) ?_
      refine lv_ldc (v := 99999) hx hb hown (hwd _ wk_249) dX12_link_20 ?_
      refine va_calli (va_runS (As := [.int p2, .int 0, .int 99999]) (rest := []) ⟨hx, hb, hml, hown, hwd⟩ (c_X12_in l dC dI g c adK adV v F rc H.size p2 0 99999 hg hI ) (va_cwS 3 hwd (gT wk_254 wk_252 wk_253 wk_5) rfl rfl rfl (by decide +kernel) ⟨Nat.le_of_ble_eq_true rfl, Nat.le_of_ble_eq_true rfl⟩) ⟨PM.blind, fun U hU hW => ⟨rfl, PM.at hK hE hP hS hU hW⟩⟩ rfl rfl hl.1 rfl (lv_room (Nat.le_of_ble_eq_true rfl)) dX12_link_22 ⟨Nat.le_of_ble_eq_true rfl, Nat.le_of_ble_eq_true rfl⟩) hS (fun q _ h => (freeM hS) q h) (freeM hS) (fun r7642 u t H1 locs ht hvm hw hB hz1 hk1 hS => ?_)
      unfold BM at hB
      rw [ht] at hB
      have hP : va_P (dC, dI) classes (wM g c v F rc) H1 := hB
      have hw : (r7642.toInt = 1 ∧ (0 : Int32).toInt ≤ p2.toInt ∧ p2.toInt ≤ (99999 : Int32).toInt) ∨ (r7642.toInt = 0 ∧ (p2.toInt < (0 : Int32).toInt ∨ (99999 : Int32).toInt < p2.toInt)) := hw
      have hw_r7642 := hw
      have k7643 : (0 : Int32).toInt = 0 := by decide
      have k7644 : (99999 : Int32).toInt = 99999 := by decide
      generalize H1 = H at hP hS ⊢
      refine lv_if_ne (tgt := 30) hx hb dX12_link_25 (by decide) (fun c7645 => ?_) (fun c7645 => ?_)
      · skip
        have t7646 := cv_ne (a := r7642.toInt) rfl (b := 0) (by decide) c7645
        refine lv_aload_n hx hb dX12_link_30 rfl (lv_at hl 0 rfl) ?_
        refine va_get (D := (dC, dI)) (ci := 12) (v := .ref (g 44)) (C := RX12) (T := TX12) (N := 63) hx hb hwd inA_X12 hown hK hP 0 rfl rfl 61 (by decide) (hwd _ wk_226) (fun _ h9 => h9) rfl dX12_link_31 ?_
        refine lv_iload_n hx hb dX12_link_34 rfl (lv_at hl 1 rfl) ?_
        refine va_iald hx hb hK hP 44 43 rfl rfl (i := p0) (vin (a := p0.toInt) rfl (by omega)) dX12_link_35 ?_
        refine lv_topi (fun z7647 e7648 => ?_)
        have t7649 : 0 ≤ z7647.toInt ∧ z7647.toInt ≤ 4 := by rw [e7648]; exact hI.2 44 _ _ rfl _
        have tzz7647 : z7647.toInt = (F 44 (p0 : Int32).toNatClampNeg).toInt := congrArg Int32.toInt e7648
        refine lv_iconst (v := 4) hx hb dX12_link_36 (by decide) ?_
        refine lv_icmp_ne (tgt := 43) hx hb dX12_link_37 (by decide) (fun c7650 => ?_) (fun c7650 => ?_)
        · skip
          have t7651 := cv_ne (a := z7647.toInt) rfl (b := 4) (by decide) c7650
          refine lv_aload_n hx hb dX12_link_43 rfl (lv_at hl 0 rfl) ?_
          refine va_get (D := (dC, dI)) (ci := 12) (v := .ref (g 45)) (C := RX12) (T := TX12) (N := 63) hx hb hwd inA_X12 hown hK hP 0 rfl rfl 62 (by decide) (hwd _ wk_227) (fun _ h9 => h9) rfl dX12_link_44 ?_
          refine lv_iconst (v := 4) hx hb dX12_link_47 (by decide) ?_
          refine lv_iload_n hx hb dX12_link_48 rfl (lv_at hl 1 rfl) ?_
          refine lv_imul hx hb dX12_link_49 ?_
          refine lv_topi (fun z7652 e7653 => ?_)
          try (have t7654 := tmul e7653 (a := 4) (by decide) (b := p0.toInt) rfl (by omega))
          refine lv_aload_n hx hb dX12_link_50 rfl (lv_at hl 0 rfl) ?_
          refine va_get (D := (dC, dI)) (ci := 12) (v := .ref (g 44)) (C := RX12) (T := TX12) (N := 63) hx hb hwd inA_X12 hown hK hP 0 rfl rfl 61 (by decide) (hwd _ wk_226) (fun _ h9 => h9) rfl dX12_link_51 ?_
          refine lv_iload_n hx hb dX12_link_54 rfl (lv_at hl 1 rfl) ?_
          refine va_iald hx hb hK hP 44 43 rfl rfl (i := p0) (vin (a := p0.toInt) rfl (by omega)) dX12_link_55 ?_
          refine lv_topi (fun z7655 e7656 => ?_)
          have t7657 : 0 ≤ z7655.toInt ∧ z7655.toInt ≤ 4 := by rw [e7656]; exact hI.2 44 _ _ rfl _
          have tzz7655 : z7655.toInt = (F 44 (p0 : Int32).toNatClampNeg).toInt := congrArg Int32.toInt e7656
          refine lv_iadd hx hb dX12_link_56 ?_
          refine lv_topi (fun z7658 e7659 => ?_)
          try (have t7660 := tadd e7659 (a := z7652.toInt) rfl (b := z7655.toInt) rfl (by omega))
          refine lv_iload_n hx hb dX12_link_57 rfl (lv_at hl 3 rfl) ?_
          refine va_iast hx hb hK hP (DM hg) hS 45 44 rfl rfl (i := z7658) (x := p2) (vin (a := z7658.toInt) rfl (by omega)) dX12_link_58 (fun H locs hP _ hS => ?_)
          have hP := va_P_eq (sM_45 g c _ _ _ _) hP
          have hI := IM.store0 hI 45 (z7658 : Int32).toNatClampNeg p2 rfl
          have hF := frUF (k := 45) (f := upd (F 45) (z7658 : Int32).toNatClampNeg p2) (by decide) hF
          have st7662 : (va_up F 45 (upd (F 45) (z7658 : Int32).toNatClampNeg p2)) 45 = upd (F 45) (z7658 : Int32).toNatClampNeg p2 := va_up_self _ _ _
          have sn7663 : ∀ k9, k9 ≠ 45 → (va_up F 45 (upd (F 45) (z7658 : Int32).toNatClampNeg p2)) k9 = F k9 := fun k9 h9 => va_up_ne _ _ h9
          have hP : va_P (dC, dI) classes (wM g c v (va_up F 45 (upd (F 45) (z7658 : Int32).toNatClampNeg p2)) rc) H := hP
          generalize (va_up F 45 (upd (F 45) (z7658 : Int32).toNatClampNeg p2)) = F7661 at hP hI hF st7662 sn7663
          refine lv_aload_n hx hb dX12_link_59 rfl (lv_at hl 0 rfl) ?_
          refine va_get (D := (dC, dI)) (ci := 12) (v := .ref (g 44)) (C := RX12) (T := TX12) (N := 63) hx hb hwd inA_X12 hown hK hP 0 rfl rfl 61 (by decide) (hwd _ wk_226) (fun _ h9 => h9) rfl dX12_link_60 ?_
          refine lv_iload_n hx hb dX12_link_63 rfl (lv_at hl 1 rfl) ?_
          refine lv_dup2_11 hx hb dX12_link_64 rfl rfl ?_
          refine va_iald hx hb hK hP 44 43 rfl rfl (i := p0) (vin (a := p0.toInt) rfl (by omega)) dX12_link_65 ?_
          refine lv_topi (fun z7664 e7665 => ?_)
          have t7666 : 0 ≤ z7664.toInt ∧ z7664.toInt ≤ 4 := by rw [e7665]; exact hI.2 44 _ _ rfl _
          have tzz7664 : z7664.toInt = (F 44 (p0 : Int32).toNatClampNeg).toInt := congrArg Int32.toInt (e7665.trans (congrFun (sn7663 44 (by decide)) _))
          refine lv_iconst (v := 1) hx hb dX12_link_66 (by decide) ?_
          refine lv_iadd hx hb dX12_link_67 ?_
          refine lv_topi (fun z7667 e7668 => ?_)
          try (have t7669 := tadd e7668 (a := z7664.toInt) rfl (b := 1) (by decide) (by omega))
          refine va_iast hx hb hK hP (DM hg) hS 44 43 rfl rfl (i := p0) (x := z7667) (vin (a := p0.toInt) rfl (by omega)) dX12_link_68 (fun H locs hP _ hS => ?_)
          have hP := va_P_eq (sM_44 g c _ _ _ _) hP
          have hI := IM.store hI 44 (p0 : Int32).toNatClampNeg z7667 rfl (by omega)
          have hF := frUF (k := 44) (f := upd (F7661 44) (p0 : Int32).toNatClampNeg z7667) (by decide) hF
          have st7671 : (va_up F7661 44 (upd (F7661 44) (p0 : Int32).toNatClampNeg z7667)) 44 = upd (F7661 44) (p0 : Int32).toNatClampNeg z7667 := va_up_self _ _ _
          have sn7672 : ∀ k9, k9 ≠ 44 → (va_up F7661 44 (upd (F7661 44) (p0 : Int32).toNatClampNeg z7667)) k9 = F7661 k9 := fun k9 h9 => va_up_ne _ _ h9
          have hP : va_P (dC, dI) classes (wM g c v (va_up F7661 44 (upd (F7661 44) (p0 : Int32).toNatClampNeg z7667)) rc) H := hP
          generalize (va_up F7661 44 (upd (F7661 44) (p0 : Int32).toNatClampNeg z7667)) = F7670 at hP hI hF st7671 sn7672
          refine lv_aload_n hx hb dX12_link_69 rfl (lv_at hl 0 rfl) ?_
          refine va_get (D := (dC, dI)) (ci := 12) (v := .ref (g 44)) (C := RX12) (T := TX12) (N := 63) hx hb hwd inA_X12 hown hK hP 0 rfl rfl 61 (by decide) (hwd _ wk_226) (fun _ h9 => h9) rfl dX12_link_70 ?_
          refine lv_iload_n hx hb dX12_link_73 rfl (lv_at hl 1 rfl) ?_
          refine va_iald hx hb hK hP 44 43 rfl rfl (i := p0) (vin (a := p0.toInt) rfl (by omega)) dX12_link_74 ?_
          refine lv_topi (fun z7673 e7674 => ?_)
          have t7675 : 0 ≤ z7673.toInt ∧ z7673.toInt ≤ 4 := by rw [e7674]; exact hI.2 44 _ _ rfl _
          have tzz7673 : z7673.toInt = (F7670 44 (p0 : Int32).toNatClampNeg).toInt := congrArg Int32.toInt e7674
          have hP9 : va_P (dC, dI) classes (wM g c v F7670 rc) H := hP
          exact W.iret (v := z7673) hx hb hr (fun t ht hW => ⟨⟨z7673, (v, F7670, rc), rfl, ⟨hI, rfl, (fun _ _ => rfl), hF, trivial⟩, (by show va_P _ _ _ t.heap; rw [ht]; exact hP9)⟩, hS.F ht⟩) hS.2.2 dX12_link_75
        · skip
          have t7676 := cv_eq (a := z7647.toInt) rfl (b := 4) (by decide) c7650
          refine lv_bipush (v := (-3)) hx hb dX12_link_40 (by decide) ?_
          have hP9 : va_P (dC, dI) classes (wM g c v F rc) H := hP
          exact W.iret (v := (-3)) hx hb hr (fun t ht hW => ⟨⟨(-3), (v, F, rc), rfl, ⟨hI, rfl, (fun _ _ => rfl), hF, trivial⟩, (by show va_P _ _ _ t.heap; rw [ht]; exact hP9)⟩, hS.F ht⟩) hS.2.2 dX12_link_42
      · skip
        have t7677 := cv_eq (a := r7642.toInt) rfl (b := 0) (by decide) c7645
        refine lv_iconst (v := (-1)) hx hb dX12_link_28 (by decide) ?_
        have hP9 : va_P (dC, dI) classes (wM g c v F rc) H := hP
        exact W.iret (v := (-1)) hx hb hr (fun t ht hW => ⟨⟨(-1), (v, F, rc), rfl, ⟨hI, rfl, (fun _ _ => rfl), hF, trivial⟩, (by show va_P _ _ _ t.heap; rw [ht]; exact hP9)⟩, hS.F ht⟩) hS.2.2 dX12_link_29
set_option maxHeartbeats 8000000 in
set_option maxRecDepth 100000 in
theorem c_X12_net (l : Launch) (dC : Nat → ClassId) (dI : Nat → Nat → Nat) (g : Nat → Nat) (c : Nat → ClassId) (adK adV : Nat → Nat) (v : Nat → Int32) (F : Nat → Nat → Int32) (rc sz : Nat) (p0 : Int32) (p1 : Int32) (p2 : Int32) (hg : injM g) (hI : IM v F) : Met l yX12_net (Cond.code yX12_net cX12_net 5 (some .int) :: wA) ({ frames := 3, cells := 0, slots := 0, locals := 120 }) (va_Pc [.ref (g 0), .int p0, .int p1, .int p2] (PM dC dI g c adK adV v F rc sz)) (va_Qi (fun (r : Int32) (u : Unit) => True) (fun (_ : Unit) => BM dC dI g c (v, F, rc)) (AM g sz)) 0 0 (AM g sz) := by
  refine Met.ofW (cc := cX12_net) (maxL := 5) (ret := (some .int)) (by decide) rfl ?_
  intro p e s m args below meth c0 s₁ B hml hv
  obtain ⟨rfl, hsz, hP, hK, hE⟩ := hv
  have hx := B.exec
  have hb := B.bytes
  have hr := B.returns
  have hts := atoms_spec (ws := Cond.code yX12_net cX12_net 5 (some .int) :: wA) B.pre
  have hwd : ∀ w ∈ wA, w.before _ s = true := fun w h => hts w (List.mem_cons_of_mem _ h)
  have hown : s.vm.findClass RX12 = some m.cls := findClass_of_methodNamed B.named
  have hlocks := B.notSynchronized
  subst hsz
  have hl := lv_entry ([.ref (g 0), .int p0, .int p1, .int p2]) (n := 5) (Nat.le_of_ble_eq_true rfl)
  rw [lg_entry_eq]
  generalize (lg_sl ([.ref (g 0), .int p0, .int p1, .int p2]) ++ List.replicate (5 - (lg_sl ([.ref (g 0), .int p0, .int p1, .int p2])).length) Slot.unset).toArray = ls at hl ⊢
  have hl : lv_has ls 5 [(0, .ref (g 0)), (1, .int p0), (2, .int p1), (3, .int p2)] := hl
  obtain ⟨H, eH⟩ : ∃ z, z = s.heap := ⟨_, rfl⟩
  have hP : va_P (dC, dI) classes (wM g c v F rc) H := by rw [eH]; exact hP
  have hS : va_S (AM g s.heap.size) s.heap H [] := by rw [eH]; exact va_S.rf
  refine my_heap eH ?_
  have rp0 := i32_rng p0
  have rp1 := i32_rng p1
  have rp2 := i32_rng p2
  refine lv_aload_n hx hb dX12_net_0 rfl (lv_at hl 0 rfl) ?_
  refine lv_iload_n hx hb dX12_net_1 rfl (lv_at hl 1 rfl) ?_
  refine va_calli (va_runV (As := [.int p0]) (rest := []) ⟨hx, hb, hml, hown, hwd⟩ (c_X12_isPlane l dC dI g c adK adV v F rc H.size p0 hg hI ) (cwV 1 hwd (gV wk_305 wk_302 wk_303 wk_304 wk_5) rfl rfl rfl (by decide +kernel) ⟨Nat.le_of_ble_eq_true rfl, Nat.le_of_ble_eq_true rfl⟩) ⟨PM.blind, va_recv hK hP (ci := 12) (q0 := 0) rfl rfl, fun U hU hW => ⟨rfl, PM.at hK hE hP hS hU hW⟩⟩ rfl rfl hl.1 rfl (lv_room (Nat.le_of_ble_eq_true rfl)) dX12_net_2 ⟨Nat.le_of_ble_eq_true rfl, Nat.le_of_ble_eq_true rfl⟩) hS (fun q _ h => (freeM hS) q h) (freeM hS) (fun r7678 u t H1 locs ht hvm hw hB hz1 hk1 hS => ?_)
  unfold BM at hB
  rw [ht] at hB
  have hP : va_P (dC, dI) classes (wM g c v F rc) H1 := hB
  have hw : (r7678.toInt = 1 ∧ 0 ≤ p0.toInt ∧ p0.toInt < (v 6).toInt) ∨ (r7678.toInt = 0 ∧ (p0.toInt < 0 ∨ (v 6).toInt ≤ p0.toInt)) := hw
  have hw_r7678 := hw
  generalize H1 = H at hP hS ⊢
  refine lv_if_eq (tgt := 35) hx hb dX12_net_5 (by decide) (fun c7679 => ?_) (fun c7679 => ?_)
  · skip
    have t7680 := cv_eq (a := r7678.toInt) rfl (b := 0) (by decide) c7679
    refine lv_ldc (v := (-2000000000)) hx hb hown (hwd _ wk_542) dX12_net_35 ?_
    have hP9 : va_P (dC, dI) classes (wM g c v F rc) H := hP
    exact W.iret (v := (-2000000000)) hx hb hr (fun t ht hW => ⟨⟨(-2000000000), (), rfl, trivial, (by show va_P _ _ _ t.heap; rw [ht]; exact hP9)⟩, hS.F ht⟩) hS.2.2 dX12_net_37
  · skip
    have t7681 := cv_ne (a := r7678.toInt) rfl (b := 0) (by decide) c7679
    refine lv_iload_n hx hb dX12_net_8 rfl (lv_at hl 2 rfl) ?_
    refine lv_iconst (v := 0) hx hb dX12_net_9 (by decide) ?_
    refine lv_aload_n hx hb dX12_net_10 rfl (lv_at hl 0 rfl) ?_
    refine va_get (D := (dC, dI)) (ci := 12) (v := .ref (g 44)) (C := RX12) (T := TX12) (N := 63) hx hb hwd inA_X12 hown hK hP 0 rfl rfl 61 (by decide) (hwd _ wk_226) (fun _ h9 => h9) rfl dX12_net_11 ?_
    refine lv_iload_n hx hb dX12_net_14 rfl (lv_at hl 1 rfl) ?_
    refine va_iald hx hb hK hP 44 43 rfl rfl (i := p0) (vin (a := p0.toInt) rfl (by omega)) dX12_net_15 ?_
    refine lv_topi (fun z7682 e7683 => ?_)
    have t7684 : 0 ≤ z7682.toInt ∧ z7682.toInt ≤ 4 := by rw [e7683]; exact hI.2 44 _ _ rfl _
    refine lv_iconst (v := 1) hx hb dX12_net_16 (by decide) ?_
    refine lv_isub hx hb dX12_net_17 ?_
    refine lv_topi (fun z7685 e7686 => ?_)
    try (have t7687 := tsub e7686 (a := z7682.toInt) rfl (b := 1) (by decide) (by omega))
    refine va_calli (va_runS (As := [.int p1, .int 0, .int z7685]) (rest := []) ⟨hx, hb, hml, hown, hwd⟩ (c_X12_in l dC dI g c adK adV v F rc H.size p1 0 z7685 hg hI ) (va_cwS 3 hwd (gT wk_254 wk_252 wk_253 wk_5) rfl rfl rfl (by decide +kernel) ⟨Nat.le_of_ble_eq_true rfl, Nat.le_of_ble_eq_true rfl⟩) ⟨PM.blind, fun U hU hW => ⟨rfl, PM.at hK hE hP hS hU hW⟩⟩ rfl rfl hl.1 rfl (lv_room (Nat.le_of_ble_eq_true rfl)) dX12_net_18 ⟨Nat.le_of_ble_eq_true rfl, Nat.le_of_ble_eq_true rfl⟩) hS (fun q _ h => (freeM hS) q h) (freeM hS) (fun r7688 u t H1 locs ht hvm hw hB hz1 hk1 hS => ?_)
    unfold BM at hB
    rw [ht] at hB
    have hP : va_P (dC, dI) classes (wM g c v F rc) H1 := hB
    have hw : (r7688.toInt = 1 ∧ (0 : Int32).toInt ≤ p1.toInt ∧ p1.toInt ≤ z7685.toInt) ∨ (r7688.toInt = 0 ∧ (p1.toInt < (0 : Int32).toInt ∨ z7685.toInt < p1.toInt)) := hw
    have hw_r7688 := hw
    have k7689 : (0 : Int32).toInt = 0 := by decide
    generalize H1 = H at hP hS ⊢
    refine lv_if_eq (tgt := 35) hx hb dX12_net_21 (by decide) (fun c7690 => ?_) (fun c7690 => ?_)
    · skip
      have t7691 := cv_eq (a := r7688.toInt) rfl (b := 0) (by decide) c7690
      refine lv_ldc (v := (-2000000000)) hx hb hown (hwd _ wk_542) dX12_net_35 ?_
      have hP9 : va_P (dC, dI) classes (wM g c v F rc) H := hP
      exact W.iret (v := (-2000000000)) hx hb hr (fun t ht hW => ⟨⟨(-2000000000), (), rfl, trivial, (by show va_P _ _ _ t.heap; rw [ht]; exact hP9)⟩, hS.F ht⟩) hS.2.2 dX12_net_37
    · skip
      have t7692 := cv_ne (a := r7688.toInt) rfl (b := 0) (by decide) c7690
      refine lv_iload_n hx hb dX12_net_24 rfl (lv_at hl 3 rfl) ?_
      refine lv_iconst (v := 1) hx hb dX12_net_25 (by decide) ?_
      refine lv_sipush (v := 999) hx hb dX12_net_26 (by decide) ?_
      refine va_calli (va_runS (As := [.int p2, .int 1, .int 999]) (rest := []) ⟨hx, hb, hml, hown, hwd⟩ (c_X12_in l dC dI g c adK adV v F rc H.size p2 1 999 hg hI ) (va_cwS 3 hwd (gT wk_254 wk_252 wk_253 wk_5) rfl rfl rfl (by decide +kernel) ⟨Nat.le_of_ble_eq_true rfl, Nat.le_of_ble_eq_true rfl⟩) ⟨PM.blind, fun U hU hW => ⟨rfl, PM.at hK hE hP hS hU hW⟩⟩ rfl rfl hl.1 rfl (lv_room (Nat.le_of_ble_eq_true rfl)) dX12_net_29 ⟨Nat.le_of_ble_eq_true rfl, Nat.le_of_ble_eq_true rfl⟩) hS (fun q _ h => (freeM hS) q h) (freeM hS) (fun r7693 u t H1 locs ht hvm hw hB hz1 hk1 hS => ?_)
      unfold BM at hB
      rw [ht] at hB
      have hP : va_P (dC, dI) classes (wM g c v F rc) H1 := hB
      have hw : (r7693.toInt = 1 ∧ (1 : Int32).toInt ≤ p2.toInt ∧ p2.toInt ≤ (999 : Int32).toInt) ∨ (r7693.toInt = 0 ∧ (p2.toInt < (1 : Int32).toInt ∨ (999 : Int32).toInt < p2.toInt)) := hw
      have hw_r7693 := hw
      have k7694 : (1 : Int32).toInt = 1 := by decide
      have k7695 : (999 : Int32).toInt = 999 := by decide
      generalize H1 = H at hP hS ⊢
      refine lv_if_ne (tgt := 38) hx hb dX12_net_32 (by decide) (fun c7696 => ?_) (fun c7696 => ?_)
      · skip
        have t7697 := cv_ne (a := r7693.toInt) rfl (b := 0) (by decide) c7696
        refine lv_iload_n hx hb dX12_net_38 rfl (lv_at hl 2 rfl) ?_
        refine lv_iconst (v := 1) hx hb dX12_net_39 (by decide) ?_
        refine lv_iadd hx hb dX12_net_40 ?_
        refine lv_topi (fun z7698 e7699 => ?_)
        try (have t7700 := tadd e7699 (a := p1.toInt) rfl (b := 1) (by decide) (by omega))
        refine lv_aload_n hx hb dX12_net_41 rfl (lv_at hl 0 rfl) ?_
        refine va_get (D := (dC, dI)) (ci := 12) (v := .ref (g 44)) (C := RX12) (T := TX12) (N := 63) hx hb hwd inA_X12 hown hK hP 0 rfl rfl 61 (by decide) (hwd _ wk_226) (fun _ h9 => h9) rfl dX12_net_42 ?_
        refine lv_iload_n hx hb dX12_net_45 rfl (lv_at hl 1 rfl) ?_
        refine va_iald hx hb hK hP 44 43 rfl rfl (i := p0) (vin (a := p0.toInt) rfl (by omega)) dX12_net_46 ?_
        refine lv_topi (fun z7701 e7702 => ?_)
        have t7703 : 0 ≤ z7701.toInt ∧ z7701.toInt ≤ 4 := by rw [e7702]; exact hI.2 44 _ _ rfl _
        refine lv_icmp_ge (tgt := 65) hx hb dX12_net_47 (by decide) (fun c7704 => ?_) (fun c7704 => ?_)
        · skip
          have t7705 := cv_le (a := z7701.toInt) rfl (b := z7698.toInt) rfl c7704
          refine lv_iconst (v := 0) hx hb dX12_net_65 (by decide) ?_
          refine lv_istore (lv' := [(4, .int 0), (0, .ref (g 0)), (1, .int p0), (2, .int p1), (3, .int p2)]) hx hb dX12_net_66 hl (by decide) rfl (fun ls hl => ?_)
          refine lv_aload_n hx hb dX12_net_68 rfl (lv_at hl 1 rfl) ?_
          refine va_get (D := (dC, dI)) (ci := 12) (v := .ref (g 45)) (C := RX12) (T := TX12) (N := 63) hx hb hwd inA_X12 hown hK hP 0 rfl rfl 62 (by decide) (hwd _ wk_227) (fun _ h9 => h9) rfl dX12_net_69 ?_
          refine lv_iconst (v := 4) hx hb dX12_net_72 (by decide) ?_
          refine lv_iload_n hx hb dX12_net_73 rfl (lv_at hl 2 rfl) ?_
          refine lv_imul hx hb dX12_net_74 ?_
          refine lv_topi (fun z7706 e7707 => ?_)
          try (have t7708 := tmul e7707 (a := 4) (by decide) (b := p0.toInt) rfl (by omega))
          refine lv_iload_n hx hb dX12_net_75 rfl (lv_at hl 3 rfl) ?_
          refine lv_iadd hx hb dX12_net_76 ?_
          refine lv_topi (fun z7709 e7710 => ?_)
          try (have t7711 := tadd e7710 (a := z7706.toInt) rfl (b := p1.toInt) rfl (by omega))
          refine va_iald hx hb hK hP 45 44 rfl rfl (i := z7709) (vin (a := z7709.toInt) rfl (by omega)) dX12_net_77 ?_
          refine lv_topi (fun z7712 e7713 => ?_)
          refine lv_iload hx hb dX12_net_78 (lv_at hl 0 rfl) ?_
          refine lv_isub hx hb dX12_net_80 ?_
          refine lv_topi (fun z7714 e7715 => ?_)
          try (have t7716 := tsub e7715 (a := z7712.toInt) rfl (b := 0) (by decide) (by omega))
          refine lv_iload_n hx hb dX12_net_81 rfl (lv_at hl 4 rfl) ?_
          refine lv_imul hx hb dX12_net_82 ?_
          refine lv_topi (fun z7717 e7718 => ?_)
          try (have t7719 := tmul e7718 (a := z7714.toInt) rfl (b := p2.toInt) rfl (by omega))
          have hP9 : va_P (dC, dI) classes (wM g c v F rc) H := hP
          exact W.iret (v := z7717) hx hb hr (fun t ht hW => ⟨⟨z7717, (), rfl, trivial, (by show va_P _ _ _ t.heap; rw [ht]; exact hP9)⟩, hS.F ht⟩) hS.2.2 dX12_net_83
        · skip
          have t7720 := cv_nle (a := z7701.toInt) rfl (b := z7698.toInt) rfl c7704
          refine lv_aload_n hx hb dX12_net_50 rfl (lv_at hl 0 rfl) ?_
          refine va_get (D := (dC, dI)) (ci := 12) (v := .ref (g 45)) (C := RX12) (T := TX12) (N := 63) hx hb hwd inA_X12 hown hK hP 0 rfl rfl 62 (by decide) (hwd _ wk_227) (fun _ h9 => h9) rfl dX12_net_51 ?_
          refine lv_iconst (v := 4) hx hb dX12_net_54 (by decide) ?_
          refine lv_iload_n hx hb dX12_net_55 rfl (lv_at hl 1 rfl) ?_
          refine lv_imul hx hb dX12_net_56 ?_
          refine lv_topi (fun z7721 e7722 => ?_)
          try (have t7723 := tmul e7722 (a := 4) (by decide) (b := p0.toInt) rfl (by omega))
          refine lv_iload_n hx hb dX12_net_57 rfl (lv_at hl 2 rfl) ?_
          refine lv_iadd hx hb dX12_net_58 ?_
          refine lv_topi (fun z7724 e7725 => ?_)
          try (have t7726 := tadd e7725 (a := z7721.toInt) rfl (b := p1.toInt) rfl (by omega))
          refine lv_iconst (v := 1) hx hb dX12_net_59 (by decide) ?_
          refine lv_iadd hx hb dX12_net_60 ?_
          refine lv_topi (fun z7727 e7728 => ?_)
          try (have t7729 := tadd e7728 (a := z7724.toInt) rfl (b := 1) (by decide) (by omega))
          refine va_iald hx hb hK hP 45 44 rfl rfl (i := z7727) (vin (a := z7727.toInt) rfl (by omega)) dX12_net_61 ?_
          refine lv_topi (fun z7730 e7731 => ?_)
          refine lv_goto (tgt := 66) hx hb dX12_net_62 (by decide) ?_
          refine lv_istore (lv' := [(4, .int z7730), (0, .ref (g 0)), (1, .int p0), (2, .int p1), (3, .int p2)]) hx hb dX12_net_66 hl (by decide) rfl (fun ls hl => ?_)
          refine lv_aload_n hx hb dX12_net_68 rfl (lv_at hl 1 rfl) ?_
          refine va_get (D := (dC, dI)) (ci := 12) (v := .ref (g 45)) (C := RX12) (T := TX12) (N := 63) hx hb hwd inA_X12 hown hK hP 0 rfl rfl 62 (by decide) (hwd _ wk_227) (fun _ h9 => h9) rfl dX12_net_69 ?_
          refine lv_iconst (v := 4) hx hb dX12_net_72 (by decide) ?_
          refine lv_iload_n hx hb dX12_net_73 rfl (lv_at hl 2 rfl) ?_
          refine lv_imul hx hb dX12_net_74 ?_
          refine lv_topi (fun z7732 e7733 => ?_)
          try (have t7734 := tmul e7733 (a := 4) (by decide) (b := p0.toInt) rfl (by omega))
          refine lv_iload_n hx hb dX12_net_75 rfl (lv_at hl 3 rfl) ?_
          refine lv_iadd hx hb dX12_net_76 ?_
          refine lv_topi (fun z7735 e7736 => ?_)
          try (have t7737 := tadd e7736 (a := z7732.toInt) rfl (b := p1.toInt) rfl (by omega))
          refine va_iald hx hb hK hP 45 44 rfl rfl (i := z7735) (vin (a := z7735.toInt) rfl (by omega)) dX12_net_77 ?_
          refine lv_topi (fun z7738 e7739 => ?_)
          refine lv_iload hx hb dX12_net_78 (lv_at hl 0 rfl) ?_
          refine lv_isub hx hb dX12_net_80 ?_
          refine lv_topi (fun z7740 e7741 => ?_)
          try (have t7742 := tsub e7741 (a := z7738.toInt) rfl (b := z7730.toInt) rfl (by omega))
          refine lv_iload_n hx hb dX12_net_81 rfl (lv_at hl 4 rfl) ?_
          refine lv_imul hx hb dX12_net_82 ?_
          refine lv_topi (fun z7743 e7744 => ?_)
          try (have t7745 := tmul e7744 (a := z7740.toInt) rfl (b := p2.toInt) rfl (by omega))
          have hP9 : va_P (dC, dI) classes (wM g c v F rc) H := hP
          exact W.iret (v := z7743) hx hb hr (fun t ht hW => ⟨⟨z7743, (), rfl, trivial, (by show va_P _ _ _ t.heap; rw [ht]; exact hP9)⟩, hS.F ht⟩) hS.2.2 dX12_net_83
      · skip
        have t7746 := cv_eq (a := r7693.toInt) rfl (b := 0) (by decide) c7696
        refine lv_ldc (v := (-2000000000)) hx hb hown (hwd _ wk_542) dX12_net_35 ?_
        have hP9 : va_P (dC, dI) classes (wM g c v F rc) H := hP
        exact W.iret (v := (-2000000000)) hx hb hr (fun t ht hW => ⟨⟨(-2000000000), (), rfl, trivial, (by show va_P _ _ _ t.heap; rw [ht]; exact hP9)⟩, hS.F ht⟩) hS.2.2 dX12_net_37
set_option maxHeartbeats 8000000 in
set_option maxRecDepth 100000 in
theorem c_X12_reserve (l : Launch) (dC : Nat → ClassId) (dI : Nat → Nat → Nat) (g : Nat → Nat) (c : Nat → ClassId) (adK adV : Nat → Nat) (v : Nat → Int32) (F : Nat → Nat → Int32) (rc sz : Nat) (p0 : Int32) (p1 : Int32) (hg : injM g) (hI : IM v F) : Met l yX12_reserve (Cond.code yX12_reserve cX12_reserve 3 (some .int) :: wA) ({ frames := 3, cells := 0, slots := 0, locals := 120 }) (va_Pc [.ref (g 0), .int p0, .int p1] (PM dC dI g c adK adV v F rc sz)) (va_Qi (fun (r : Int32) (u : Unit) => True) (fun (_ : Unit) => BM dC dI g c (v, F, rc)) (AM g sz)) 0 0 (AM g sz) := by
  refine Met.ofW (cc := cX12_reserve) (maxL := 3) (ret := (some .int)) (by decide) rfl ?_
  intro p e s m args below meth c0 s₁ B hml hv
  obtain ⟨rfl, hsz, hP, hK, hE⟩ := hv
  have hx := B.exec
  have hb := B.bytes
  have hr := B.returns
  have hts := atoms_spec (ws := Cond.code yX12_reserve cX12_reserve 3 (some .int) :: wA) B.pre
  have hwd : ∀ w ∈ wA, w.before _ s = true := fun w h => hts w (List.mem_cons_of_mem _ h)
  have hown : s.vm.findClass RX12 = some m.cls := findClass_of_methodNamed B.named
  have hlocks := B.notSynchronized
  subst hsz
  have hl := lv_entry ([.ref (g 0), .int p0, .int p1]) (n := 3) (Nat.le_of_ble_eq_true rfl)
  rw [lg_entry_eq]
  generalize (lg_sl ([.ref (g 0), .int p0, .int p1]) ++ List.replicate (3 - (lg_sl ([.ref (g 0), .int p0, .int p1])).length) Slot.unset).toArray = ls at hl ⊢
  have hl : lv_has ls 3 [(0, .ref (g 0)), (1, .int p0), (2, .int p1)] := hl
  obtain ⟨H, eH⟩ : ∃ z, z = s.heap := ⟨_, rfl⟩
  have hP : va_P (dC, dI) classes (wM g c v F rc) H := by rw [eH]; exact hP
  have hS : va_S (AM g s.heap.size) s.heap H [] := by rw [eH]; exact va_S.rf
  refine my_heap eH ?_
  have rp0 := i32_rng p0
  have rp1 := i32_rng p1
  refine lv_aload_n hx hb dX12_reserve_0 rfl (lv_at hl 0 rfl) ?_
  refine lv_iload_n hx hb dX12_reserve_1 rfl (lv_at hl 1 rfl) ?_
  refine va_calli (va_runV (As := [.int p0]) (rest := []) ⟨hx, hb, hml, hown, hwd⟩ (c_X12_isPlane l dC dI g c adK adV v F rc H.size p0 hg hI ) (cwV 1 hwd (gV wk_305 wk_302 wk_303 wk_304 wk_5) rfl rfl rfl (by decide +kernel) ⟨Nat.le_of_ble_eq_true rfl, Nat.le_of_ble_eq_true rfl⟩) ⟨PM.blind, va_recv hK hP (ci := 12) (q0 := 0) rfl rfl, fun U hU hW => ⟨rfl, PM.at hK hE hP hS hU hW⟩⟩ rfl rfl hl.1 rfl (lv_room (Nat.le_of_ble_eq_true rfl)) dX12_reserve_2 ⟨Nat.le_of_ble_eq_true rfl, Nat.le_of_ble_eq_true rfl⟩) hS (fun q _ h => (freeM hS) q h) (freeM hS) (fun r7747 u t H1 locs ht hvm hw hB hz1 hk1 hS => ?_)
  unfold BM at hB
  rw [ht] at hB
  have hP : va_P (dC, dI) classes (wM g c v F rc) H1 := hB
  have hw : (r7747.toInt = 1 ∧ 0 ≤ p0.toInt ∧ p0.toInt < (v 6).toInt) ∨ (r7747.toInt = 0 ∧ (p0.toInt < 0 ∨ (v 6).toInt ≤ p0.toInt)) := hw
  have hw_r7747 := hw
  generalize H1 = H at hP hS ⊢
  refine lv_if_eq (tgt := 30) hx hb dX12_reserve_5 (by decide) (fun c7748 => ?_) (fun c7748 => ?_)
  · skip
    have t7749 := cv_eq (a := r7747.toInt) rfl (b := 0) (by decide) c7748
    refine lv_iconst (v := (-1)) hx hb dX12_reserve_30 (by decide) ?_
    have hP9 : va_P (dC, dI) classes (wM g c v F rc) H := hP
    exact W.iret (v := (-1)) hx hb hr (fun t ht hW => ⟨⟨(-1), (), rfl, trivial, (by show va_P _ _ _ t.heap; rw [ht]; exact hP9)⟩, hS.F ht⟩) hS.2.2 dX12_reserve_31
  · skip
    have t7750 := cv_ne (a := r7747.toInt) rfl (b := 0) (by decide) c7748
    refine lv_aload_n hx hb dX12_reserve_8 rfl (lv_at hl 0 rfl) ?_
    refine lv_iload_n hx hb dX12_reserve_9 rfl (lv_at hl 2 rfl) ?_
    refine va_calli (va_runV (As := [.int p1]) (rest := []) ⟨hx, hb, hml, hown, hwd⟩ (c_X12_isKind l dC dI g c adK adV v F rc H.size p1 hg hI ) (cwV 1 hwd (gV wk_309 wk_306 wk_307 wk_308 wk_5) rfl rfl rfl (by decide +kernel) ⟨Nat.le_of_ble_eq_true rfl, Nat.le_of_ble_eq_true rfl⟩) ⟨PM.blind, va_recv hK hP (ci := 12) (q0 := 0) rfl rfl, fun U hU hW => ⟨rfl, PM.at hK hE hP hS hU hW⟩⟩ rfl rfl hl.1 rfl (lv_room (Nat.le_of_ble_eq_true rfl)) dX12_reserve_10 ⟨Nat.le_of_ble_eq_true rfl, Nat.le_of_ble_eq_true rfl⟩) hS (fun q _ h => (freeM hS) q h) (freeM hS) (fun r7751 u t H1 locs ht hvm hw hB hz1 hk1 hS => ?_)
    unfold BM at hB
    rw [ht] at hB
    have hP : va_P (dC, dI) classes (wM g c v F rc) H1 := hB
    have hw : (r7751.toInt = 1 ∧ 0 ≤ p1.toInt ∧ p1.toInt < (v 2).toInt) ∨ (r7751.toInt = 0 ∧ (p1.toInt < 0 ∨ (v 2).toInt ≤ p1.toInt)) := hw
    have hw_r7751 := hw
    generalize H1 = H at hP hS ⊢
    refine lv_if_eq (tgt := 30) hx hb dX12_reserve_13 (by decide) (fun c7752 => ?_) (fun c7752 => ?_)
    · skip
      have t7753 := cv_eq (a := r7751.toInt) rfl (b := 0) (by decide) c7752
      refine lv_iconst (v := (-1)) hx hb dX12_reserve_30 (by decide) ?_
      have hP9 : va_P (dC, dI) classes (wM g c v F rc) H := hP
      exact W.iret (v := (-1)) hx hb hr (fun t ht hW => ⟨⟨(-1), (), rfl, trivial, (by show va_P _ _ _ t.heap; rw [ht]; exact hP9)⟩, hS.F ht⟩) hS.2.2 dX12_reserve_31
    · skip
      have t7754 := cv_ne (a := r7751.toInt) rfl (b := 0) (by decide) c7752
      refine lv_aload_n hx hb dX12_reserve_16 rfl (lv_at hl 0 rfl) ?_
      refine va_get (D := (dC, dI)) (ci := 12) (v := .ref (g 10)) (C := RX12) (T := TX12) (N := 63) hx hb hwd inA_X12 hown hK hP 0 rfl rfl 13 (by decide) (hwd _ wk_191) (fun _ h9 => h9) rfl dX12_reserve_17 ?_
      refine lv_bipush (v := 10) hx hb dX12_reserve_20 (by decide) ?_
      refine lv_iload_n hx hb dX12_reserve_22 rfl (lv_at hl 1 rfl) ?_
      refine lv_imul hx hb dX12_reserve_23 ?_
      refine lv_topi (fun z7755 e7756 => ?_)
      try (have t7757 := tmul e7756 (a := 10) (by decide) (b := p0.toInt) rfl (by omega))
      refine lv_iload_n hx hb dX12_reserve_24 rfl (lv_at hl 2 rfl) ?_
      refine lv_iadd hx hb dX12_reserve_25 ?_
      refine lv_topi (fun z7758 e7759 => ?_)
      try (have t7760 := tadd e7759 (a := z7755.toInt) rfl (b := p1.toInt) rfl (by omega))
      refine va_iald hx hb hK hP 10 9 rfl rfl (i := z7758) (vin (a := z7758.toInt) rfl (by omega)) dX12_reserve_26 ?_
      refine lv_topi (fun z7761 e7762 => ?_)
      refine lv_goto (tgt := 31) hx hb dX12_reserve_27 (by decide) ?_
      have hP9 : va_P (dC, dI) classes (wM g c v F rc) H := hP
      exact W.iret (v := z7761) hx hb hr (fun t ht hW => ⟨⟨z7761, (), rfl, trivial, (by show va_P _ _ _ t.heap; rw [ht]; exact hP9)⟩, hS.F ht⟩) hS.2.2 dX12_reserve_31
set_option maxHeartbeats 8000000 in
set_option maxRecDepth 100000 in
theorem c_X12_bestCost (l : Launch) (dC : Nat → ClassId) (dI : Nat → Nat → Nat) (g : Nat → Nat) (c : Nat → ClassId) (adK adV : Nat → Nat) (v : Nat → Int32) (F : Nat → Nat → Int32) (rc sz : Nat) (hg : injM g) (hI : IM v F) : Met l yX12_bestCost (Cond.code yX12_bestCost cX12_bestCost 1 (some .int) :: wA) ({ frames := 1, cells := 0, slots := 0, locals := 40 }) (va_Pc [.ref (g 0)] (PM dC dI g c adK adV v F rc sz)) (va_Qi (fun (r : Int32) (u : Unit) => True) (fun (_ : Unit) => BM dC dI g c (v, F, rc)) (AM g sz)) 0 0 (AM g sz) := by
  refine Met.ofW (cc := cX12_bestCost) (maxL := 1) (ret := (some .int)) (by decide) rfl ?_
  intro p e s m args below meth c0 s₁ B hml hv
  obtain ⟨rfl, hsz, hP, hK, hE⟩ := hv
  have hx := B.exec
  have hb := B.bytes
  have hr := B.returns
  have hts := atoms_spec (ws := Cond.code yX12_bestCost cX12_bestCost 1 (some .int) :: wA) B.pre
  have hwd : ∀ w ∈ wA, w.before _ s = true := fun w h => hts w (List.mem_cons_of_mem _ h)
  have hown : s.vm.findClass RX12 = some m.cls := findClass_of_methodNamed B.named
  have hlocks := B.notSynchronized
  subst hsz
  have hl := lv_entry ([.ref (g 0)]) (n := 1) (Nat.le_of_ble_eq_true rfl)
  rw [lg_entry_eq]
  generalize (lg_sl ([.ref (g 0)]) ++ List.replicate (1 - (lg_sl ([.ref (g 0)])).length) Slot.unset).toArray = ls at hl ⊢
  have hl : lv_has ls 1 [(0, .ref (g 0))] := hl
  obtain ⟨H, eH⟩ : ∃ z, z = s.heap := ⟨_, rfl⟩
  have hP : va_P (dC, dI) classes (wM g c v F rc) H := by rw [eH]; exact hP
  have hS : va_S (AM g s.heap.size) s.heap H [] := by rw [eH]; exact va_S.rf
  refine my_heap eH ?_
  refine lv_aload_n hx hb dX12_bestCost_0 rfl (lv_at hl 0 rfl) ?_
  refine va_get (D := (dC, dI)) (ci := 12) (v := .int (v 57)) (C := RX12) (T := TX12) (N := 63) hx hb hwd inA_X12 hown hK hP 0 rfl rfl 57 (by decide) (hwd _ wk_1304) (fun _ h9 => h9) rfl dX12_bestCost_1 ?_
  refine lv_if_eq (tgt := 14) hx hb dX12_bestCost_4 (by decide) (fun c7763 => ?_) (fun c7763 => ?_)
  · skip
    have t7764 := cv_eq (a := (v 57).toInt) rfl (b := 0) (by decide) c7763
    refine lv_ldc (v := (-2000000000)) hx hb hown (hwd _ wk_542) dX12_bestCost_14 ?_
    have hP9 : va_P (dC, dI) classes (wM g c v F rc) H := hP
    exact W.iret (v := (-2000000000)) hx hb hr (fun t ht hW => ⟨⟨(-2000000000), (), rfl, trivial, (by show va_P _ _ _ t.heap; rw [ht]; exact hP9)⟩, hS.F ht⟩) hS.2.2 dX12_bestCost_16
  · skip
    have t7765 := cv_ne (a := (v 57).toInt) rfl (b := 0) (by decide) c7763
    refine lv_aload_n hx hb dX12_bestCost_7 rfl (lv_at hl 0 rfl) ?_
    refine va_get (D := (dC, dI)) (ci := 12) (v := .int (v 58)) (C := RX12) (T := TX12) (N := 63) hx hb hwd inA_X12 hown hK hP 0 rfl rfl 58 (by decide) (hwd _ wk_1305) (fun _ h9 => h9) rfl dX12_bestCost_8 ?_
    refine lv_goto (tgt := 16) hx hb dX12_bestCost_11 (by decide) ?_
    have hP9 : va_P (dC, dI) classes (wM g c v F rc) H := hP
    exact W.iret (v := v 58) hx hb hr (fun t ht hW => ⟨⟨(v 58), (), rfl, trivial, (by show va_P _ _ _ t.heap; rw [ht]; exact hP9)⟩, hS.F ht⟩) hS.2.2 dX12_bestCost_16
