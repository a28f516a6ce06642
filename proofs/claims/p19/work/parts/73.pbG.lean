set_option maxHeartbeats 8000000 in
set_option maxRecDepth 100000 in
theorem c_X11_giveBack_x (l : Launch) (dC : Nat → ClassId) (dI : Nat → Nat → Nat) (g : Nat → Nat) (c : Nat → ClassId) (adK adV : Nat → Nat) (v : Nat → Int32) (F : Nat → Nat → Int32) (rc sz : Nat) (p0 : Int32) (hg : injX g) (hI : IX v F) : Met l yX11_giveBack (Cond.code yX11_giveBack cX11_giveBack 3 (some .int) :: wA) ({ frames := 8, cells := 0, slots := 0, locals := 320 }) (va_Pc [.ref (g 0), .int p0] (PX dC dI g c adK adV v F rc sz)) (va_Qi (fun (r : Int32) (u : StX) => IX u.1 u.2.1 ∧ ((¬ ((0 ≤ p0.toInt ∧ p0.toInt < (v 40).toInt) ∧ (F 19 p0.toNatClampNeg).toInt < 0 ∧ 0 < (F 58 p0.toNatClampNeg).toInt) ∧ alX u.1 u.2.1 = alX v F) ∨ (((0 ≤ p0.toInt ∧ p0.toInt < (v 40).toInt) ∧ (F 19 p0.toNatClampNeg).toInt < 0 ∧ 0 < (F 58 p0.toNatClampNeg).toInt) ∧ exI (fun x9 => 0 ≤ x9.toInt ∧ alX u.1 u.2.1 = alXS8 (alX v F) (upd (F 19) p0.toNatClampNeg x9)))) ∧ u.2.2 = rc ∧ (∀ k, k ∉ ([126, 229] : List Nat) → u.1 k = v k) ∧ True) (BX dC dI g c) (AX g sz)) 0 0 (AX g sz) := by
  refine Met.ofW (cc := cX11_giveBack) (maxL := 3) (ret := (some .int)) (by decide) rfl ?_
  intro p e s m args below meth c0 s₁ B hml hv
  obtain ⟨rfl, hsz, hP, hK, hE⟩ := hv
  have hx := B.exec
  have hb := B.bytes
  have hr := B.returns
  have hts := atoms_spec (ws := Cond.code yX11_giveBack cX11_giveBack 3 (some .int) :: wA) B.pre
  have hwd : ∀ w ∈ wA, w.before _ s = true := fun w h => hts w (List.mem_cons_of_mem _ h)
  have hown : s.vm.findClass RX11 = some m.cls := findClass_of_methodNamed B.named
  have hlocks := B.notSynchronized
  subst hsz
  have hl := lv_entry ([.ref (g 0), .int p0]) (n := 3) (Nat.le_of_ble_eq_true rfl)
  rw [lg_entry_eq]
  generalize (lg_sl ([.ref (g 0), .int p0]) ++ List.replicate (3 - (lg_sl ([.ref (g 0), .int p0])).length) Slot.unset).toArray = ls at hl ⊢
  have hl : lv_has ls 3 [(0, .ref (g 0)), (1, .int p0)] := hl
  obtain ⟨H, eH⟩ : ∃ z, z = s.heap := ⟨_, rfl⟩
  have hP : va_P (dC, dI) classes (wX g c v F rc) H := by rw [eH]; exact hP
  have hS : va_S (AX g s.heap.size) s.heap H [] := by rw [eH]; exact va_S.rf
  refine my_heap eH ?_
  have hal : alX v F = alX v F := rfl
  have rp0 := i32_rng p0
  have hbs : 0 ≤ (v 40).toInt ∧ (v 40).toInt ≤ 10 := hI.1 40 _ _ rfl
  refine lv_aload_n hx hb dX11_giveBack_0 rfl (lv_at hl 0 rfl) ?_
  refine va_get (D := (dC, dI)) (ci := 11) (v := .ref (g 2)) (C := RX11) (T := TX11) (N := 14) hx hb hwd inA_X11 hown hK hP 0 rfl rfl 1 (by decide) (hwd _ wk_19) (fun _ h9 => h9) rfl dX11_giveBack_1 ?_
  refine lv_iload_n hx hb dX11_giveBack_4 rfl (lv_at hl 1 rfl) ?_
  refine va_calli (va_runV (As := [.int p0]) (rest := []) ⟨hx, hb, hml, hown, hwd⟩ (c_X8_has_x l dC dI g c adK adV v F rc H.size p0 hg hI ) (cwV 1 hwd (gV wk_276 wk_273 wk_274 wk_275 wk_18) rfl rfl rfl (by decide +kernel) ⟨Nat.le_of_ble_eq_true rfl, Nat.le_of_ble_eq_true rfl⟩) ⟨PX.blind, va_recv hK hP (ci := 8) (q0 := 2) rfl rfl, fun U hU hW => ⟨rfl, PX.at hK hE hP hS hU hW⟩⟩ rfl rfl hl.1 rfl (lv_room (Nat.le_of_ble_eq_true rfl)) dX11_giveBack_5 ⟨Nat.le_of_ble_eq_true rfl, Nat.le_of_ble_eq_true rfl⟩) hS (fun q _ h => (freeX hS) q h) (freeX hS) (fun r4584 u t H1 locs ht hvm hw hB hz1 hk1 hS => ?_)
  unfold BX at hB
  rw [ht] at hB
  have hP : va_P (dC, dI) classes (wX g c v F rc) H1 := hB
  have hw : (r4584.toInt = 1 ∧ 0 ≤ p0.toInt ∧ p0.toInt < (v 40).toInt) ∨ (r4584.toInt = 0 ∧ (p0.toInt < 0 ∨ (v 40).toInt ≤ p0.toInt)) := hw
  generalize H1 = H at hP hS ⊢
  have hw_r4584 := hw
  refine lv_if_ne (tgt := 13) hx hb dX11_giveBack_8 (by decide) (fun c4585 => ?_) (fun c4585 => ?_)
  · skip
    have t4586 := cv_ne (a := r4584.toInt) rfl (b := 0) (by decide) c4585
    refine lv_aload_n hx hb dX11_giveBack_13 rfl (lv_at hl 0 rfl) ?_
    refine va_get (D := (dC, dI)) (ci := 11) (v := .ref (g 2)) (C := RX11) (T := TX11) (N := 14) hx hb hwd inA_X11 hown hK hP 0 rfl rfl 1 (by decide) (hwd _ wk_19) (fun _ h9 => h9) rfl dX11_giveBack_14 ?_
    refine lv_iload_n hx hb dX11_giveBack_17 rfl (lv_at hl 1 rfl) ?_
    refine va_calli (va_runV (As := [.int p0]) (rest := []) ⟨hx, hb, hml, hown, hwd⟩ (c_X8_isBack_x l dC dI g c adK adV v F rc H.size p0 hg hI (by omega)) (cwV 1 hwd (gV wk_284 wk_281 wk_282 wk_283 wk_18) rfl rfl rfl (by decide +kernel) ⟨Nat.le_of_ble_eq_true rfl, Nat.le_of_ble_eq_true rfl⟩) ⟨PX.blind, va_recv hK hP (ci := 8) (q0 := 2) rfl rfl, fun U hU hW => ⟨rfl, PX.at hK hE hP hS hU hW⟩⟩ rfl rfl hl.1 rfl (lv_room (Nat.le_of_ble_eq_true rfl)) dX11_giveBack_18 ⟨Nat.le_of_ble_eq_true rfl, Nat.le_of_ble_eq_true rfl⟩) hS (fun q _ h => (freeX hS) q h) (freeX hS) (fun r4587 u t H1 locs ht hvm hw hB hz1 hk1 hS => ?_)
    unfold BX at hB
    rw [ht] at hB
    have hP : va_P (dC, dI) classes (wX g c v F rc) H1 := hB
    have hw : (r4587.toInt = 1 ∧ 0 ≤ (F 19 p0.toNatClampNeg).toInt) ∨ (r4587.toInt = 0 ∧ (F 19 p0.toNatClampNeg).toInt < 0) := hw
    generalize H1 = H at hP hS ⊢
    have hw_r4587 := hw
    refine lv_if_ne (tgt := 35) hx hb dX11_giveBack_21 (by decide) (fun c4588 => ?_) (fun c4588 => ?_)
    · skip
      have t4589 := cv_ne (a := r4587.toInt) rfl (b := 0) (by decide) c4588
      refine lv_bipush (v := (-2)) hx hb dX11_giveBack_35 (by decide) ?_
      have hP9 : va_P (dC, dI) classes (wX g c v F rc) H := hP
      exact W.iret (v := (-2)) hx hb hr (fun t ht hW => ⟨⟨(-2), (v, F, rc), rfl, ⟨hI, (Or.inl ⟨by omega, hal⟩), rfl, (fun _ _ => rfl), trivial⟩, (by show va_P _ _ _ t.heap; rw [ht]; exact hP9)⟩, hS.F ht⟩) hS.2.2 dX11_giveBack_37
    · skip
      have t4590 := cv_eq (a := r4587.toInt) rfl (b := 0) (by decide) c4588
      refine lv_aload_n hx hb dX11_giveBack_24 rfl (lv_at hl 0 rfl) ?_
      refine va_get (D := (dC, dI)) (ci := 11) (v := .ref (g 9)) (C := RX11) (T := TX11) (N := 14) hx hb hwd inA_X11 hown hK hP 0 rfl rfl 8 (by decide) (hwd _ wk_47) (fun _ h9 => h9) rfl dX11_giveBack_25 ?_
      refine lv_iload_n hx hb dX11_giveBack_28 rfl (lv_at hl 1 rfl) ?_
      refine va_calli (va_runV (As := [.int p0]) (rest := []) ⟨hx, hb, hml, hown, hwd⟩ (c_X0_isSigned_x l dC dI g c adK adV v F rc H.size p0 hg hI (by omega)) (cwV 1 hwd (gV wk_1221 wk_1218 wk_1219 wk_1220 wk_46) rfl rfl rfl (by decide +kernel) ⟨Nat.le_of_ble_eq_true rfl, Nat.le_of_ble_eq_true rfl⟩) ⟨PX.blind, va_recv hK hP (ci := 0) (q0 := 9) rfl rfl, fun U hU hW => ⟨rfl, PX.at hK hE hP hS hU hW⟩⟩ rfl rfl hl.1 rfl (lv_room (Nat.le_of_ble_eq_true rfl)) dX11_giveBack_29 ⟨Nat.le_of_ble_eq_true rfl, Nat.le_of_ble_eq_true rfl⟩) hS (fun q _ h => (freeX hS) q h) (freeX hS) (fun r4591 u t H1 locs ht hvm hw hB hz1 hk1 hS => ?_)
      unfold BX at hB
      rw [ht] at hB
      have hP : va_P (dC, dI) classes (wX g c v F rc) H1 := hB
      have hw : (r4591.toInt = 1 ∧ 0 < (F 58 p0.toNatClampNeg).toInt) ∨ (r4591.toInt = 0 ∧ (F 58 p0.toNatClampNeg).toInt ≤ 0) := hw
      generalize H1 = H at hP hS ⊢
      have hw_r4591 := hw
      refine lv_if_ne (tgt := 38) hx hb dX11_giveBack_32 (by decide) (fun c4592 => ?_) (fun c4592 => ?_)
      · skip
        have t4593 := cv_ne (a := r4591.toInt) rfl (b := 0) (by decide) c4592
        refine lv_aload_n hx hb dX11_giveBack_38 rfl (lv_at hl 0 rfl) ?_
        refine va_get (D := (dC, dI)) (ci := 11) (v := .ref (g 11)) (C := RX11) (T := TX11) (N := 14) hx hb hwd inA_X11 hown hK hP 0 rfl rfl 10 (by decide) (hwd _ wk_55) (fun _ h9 => h9) rfl dX11_giveBack_39 ?_
        refine lv_iload_n hx hb dX11_giveBack_42 rfl (lv_at hl 1 rfl) ?_
        refine lv_iconst (v := (-1)) hx hb dX11_giveBack_43 (by decide) ?_
        refine lv_aload_n hx hb dX11_giveBack_44 rfl (lv_at hl 0 rfl) ?_
        refine va_get (D := (dC, dI)) (ci := 11) (v := .int (v 11)) (C := RX11) (T := TX11) (N := 14) hx hb hwd inA_X11 hown hK hP 0 rfl rfl 11 (by decide) (hwd _ wk_323) (fun _ h9 => h9) rfl dX11_giveBack_45 ?_
        have t4594 : 0 ≤ (v 11).toInt ∧ (v 11).toInt ≤ 9999 := hI.1 11 _ _ rfl
        refine va_callv (va_runV (As := [.int p0, .int (-1), .int (v 11)]) (rest := []) ⟨hx, hb, hml, hown, hwd⟩ (c_X1_survey l dC dI g c adK adV v F rc H.size p0 (-1) (v 11) hg hI ) (cwV 3 hwd (gV wk_1150 wk_1147 wk_1148 wk_1149 wk_54) rfl rfl rfl (by decide +kernel) ⟨Nat.le_of_ble_eq_true rfl, Nat.le_of_ble_eq_true rfl⟩) ⟨PX.blind, va_recv hK hP (ci := 1) (q0 := 11) rfl rfl, fun U hU hW => ⟨rfl, PX.at hK hE hP hS hU hW⟩⟩ rfl rfl hl.1 rfl (lv_room (Nat.le_of_ble_eq_true rfl)) dX11_giveBack_48 ⟨Nat.le_of_ble_eq_true rfl, Nat.le_of_ble_eq_true rfl⟩) hS (fun q _ h => (freeX hS) q h) (freeX hS) (fun u t H1 locs ht hvm hw hB hz1 hk1 hS => ?_)
        unfold BX at hB
        rw [ht] at hB
        obtain ⟨v4596, F4597, rc9⟩ := u
        obtain ⟨hI, hal9, hrc, hf4598, hw⟩ := hw
        dsimp only at hI hal9 hrc hB hf4598 hw
        rw [hrc] at hB
        have hal := hal9.trans hal
        have hP : va_P (dC, dI) classes (wX g c v4596 F4597 rc) H1 := hB
        generalize H1 = H at hP hS ⊢
        refine lv_aload_n hx hb dX11_giveBack_51 rfl (lv_at hl 0 rfl) ?_
        refine va_get (D := (dC, dI)) (ci := 11) (v := .ref (g 11)) (C := RX11) (T := TX11) (N := 14) hx hb hwd inA_X11 hown hK hP 0 rfl rfl 10 (by decide) (hwd _ wk_55) (fun _ h9 => h9) rfl dX11_giveBack_52 ?_
        refine lv_iload_n hx hb dX11_giveBack_55 rfl (lv_at hl 1 rfl) ?_
        refine lv_aload_n hx hb dX11_giveBack_56 rfl (lv_at hl 0 rfl) ?_
        refine va_get (D := (dC, dI)) (ci := 11) (v := .int (v4596 11)) (C := RX11) (T := TX11) (N := 14) hx hb hwd inA_X11 hown hK hP 0 rfl rfl 11 (by decide) (hwd _ wk_323) (fun _ h9 => h9) rfl dX11_giveBack_57 ?_
        refine my_top (v := v 11) (hf4598 11 (by decide)) ?_
        have t4599 : 0 ≤ (v 11).toInt ∧ (v 11).toInt ≤ 9999 := by have h9 := hI.1 11 _ _ rfl; rw [show v4596 11 = v 11 from hf4598 11 (by decide)] at h9; exact h9
        refine va_calli (va_runV (As := [.int p0, .int (v 11)]) (rest := []) ⟨hx, hb, hml, hown, hwd⟩ (c_X1_priceOf l dC dI g c adK adV v4596 F4597 rc H.size p0 (v 11) hg hI (by omega)) (cwV 2 hwd (gV wk_1225 wk_1222 wk_1223 wk_1224 wk_54) rfl rfl rfl (by decide +kernel) ⟨Nat.le_of_ble_eq_true rfl, Nat.le_of_ble_eq_true rfl⟩) ⟨PX.blind, va_recv hK hP (ci := 1) (q0 := 11) rfl rfl, fun U hU hW => ⟨rfl, PX.at hK hE hP hS hU hW⟩⟩ rfl rfl hl.1 rfl (lv_room (Nat.le_of_ble_eq_true rfl)) dX11_giveBack_60 ⟨Nat.le_of_ble_eq_true rfl, Nat.le_of_ble_eq_true rfl⟩) hS (fun q _ h => (freeX hS) q h) (freeX hS) (fun r4600 u t H1 locs ht hvm hw hB hz1 hk1 hS => ?_)
        unfold BX at hB
        rw [ht] at hB
        have hP : va_P (dC, dI) classes (wX g c v4596 F4597 rc) H1 := hB
        generalize H1 = H at hP hS ⊢
        have rr_r4600 := i32_rng r4600
        refine lv_istore_n (lv' := [(2, .int r4600), (0, .ref (g 0)), (1, .int p0)]) hx hb dX11_giveBack_63 rfl hl (by decide) rfl (fun ls hl => ?_)
        refine lv_aload_n hx hb dX11_giveBack_64 rfl (lv_at hl 1 rfl) ?_
        refine va_get (D := (dC, dI)) (ci := 11) (v := .ref (g 2)) (C := RX11) (T := TX11) (N := 14) hx hb hwd inA_X11 hown hK hP 0 rfl rfl 1 (by decide) (hwd _ wk_19) (fun _ h9 => h9) rfl dX11_giveBack_65 ?_
        refine lv_iload_n hx hb dX11_giveBack_68 rfl (lv_at hl 2 rfl) ?_
        refine lv_iload_n hx hb dX11_giveBack_69 rfl (lv_at hl 0 rfl) ?_
        refine lv_aload_n hx hb dX11_giveBack_70 rfl (lv_at hl 1 rfl) ?_
        refine va_get (D := (dC, dI)) (ci := 11) (v := .int (v4596 11)) (C := RX11) (T := TX11) (N := 14) hx hb hwd inA_X11 hown hK hP 0 rfl rfl 11 (by decide) (hwd _ wk_323) (fun _ h9 => h9) rfl dX11_giveBack_71 ?_
        refine my_top (v := v 11) (hf4598 11 (by decide)) ?_
        have t4601 : 0 ≤ (v 11).toInt ∧ (v 11).toInt ≤ 9999 := by have h9 := hI.1 11 _ _ rfl; rw [show v4596 11 = v 11 from hf4598 11 (by decide)] at h9; exact h9
        refine va_callv (va_runV (As := [.int p0, .int r4600, .int (v 11)]) (rest := []) ⟨hx, hb, hml, hown, hwd⟩ (c_X8_close l dC dI g c adK adV v4596 F4597 rc H.size p0 r4600 (v 11) hg hI (by omega)) (cwV 3 hwd (gV wk_1259 wk_1256 wk_1257 wk_1258 wk_18) rfl rfl rfl (by decide +kernel) ⟨Nat.le_of_ble_eq_true rfl, Nat.le_of_ble_eq_true rfl⟩) ⟨PX.blind, va_recv hK hP (ci := 8) (q0 := 2) rfl rfl, fun U hU hW => ⟨rfl, PX.at hK hE hP hS hU hW⟩⟩ rfl rfl hl.1 rfl (lv_room (Nat.le_of_ble_eq_true rfl)) dX11_giveBack_74 ⟨Nat.le_of_ble_eq_true rfl, Nat.le_of_ble_eq_true rfl⟩) hS (fun q _ h => (freeX hS) q h) (freeX hS) (fun u t H1 locs ht hvm hw hB hz1 hk1 hS => ?_)
        unfold BX at hB
        rw [ht] at hB
        obtain ⟨v4603, F4604, rc9⟩ := u
        obtain ⟨hI, hal9, hrc, hf4605, hw⟩ := hw
        dsimp only at hI hal9 hrc hB hf4605 hw
        rw [hrc] at hB
        have hq4606 := hal9
        have hP : va_P (dC, dI) classes (wX g c v4603 F4604 rc) H1 := hB
        generalize H1 = H at hP hS ⊢
        have hB9 : F4597 19 = F 19 := congrArg (fun t : ALX => t.2.2.2.2.2.2.2.2) hal
        have hal := hq4606.trans (congrArg (fun t => alXS8 t (upd (F4597 19) p0.toNatClampNeg (v 11))) hal)
        rw [hB9] at hal
        refine lv_aload_n hx hb dX11_giveBack_77 rfl (lv_at hl 1 rfl) ?_
        refine va_get (D := (dC, dI)) (ci := 11) (v := .ref (g 3)) (C := RX11) (T := TX11) (N := 14) hx hb hwd inA_X11 hown hK hP 0 rfl rfl 2 (by decide) (hwd _ wk_27) (fun _ h9 => h9) rfl dX11_giveBack_78 ?_
        refine lv_iload_n hx hb dX11_giveBack_81 rfl (lv_at hl 2 rfl) ?_
        refine lv_aload_n hx hb dX11_giveBack_82 rfl (lv_at hl 1 rfl) ?_
        refine va_get (D := (dC, dI)) (ci := 11) (v := .int (v4603 11)) (C := RX11) (T := TX11) (N := 14) hx hb hwd inA_X11 hown hK hP 0 rfl rfl 11 (by decide) (hwd _ wk_323) (fun _ h9 => h9) rfl dX11_giveBack_83 ?_
        refine my_top (v := v 11) ((hf4605 11 (by decide)).trans (hf4598 11 (by decide))) ?_
        have t4607 : 0 ≤ (v 11).toInt ∧ (v 11).toInt ≤ 9999 := by have h9 := hI.1 11 _ _ rfl; rw [show v4603 11 = v 11 from (hf4605 11 (by decide)).trans (hf4598 11 (by decide))] at h9; exact h9
        refine va_callv (va_runV (As := [.int p0, .int (v 11)]) (rest := []) ⟨hx, hb, hml, hown, hwd⟩ (c_X7_leaveWith l dC dI g c adK adV v4603 F4604 rc H.size p0 (v 11) hg hI ) (cwV 2 hwd (gV wk_1263 wk_1260 wk_1261 wk_1262 wk_26) rfl rfl rfl (by decide +kernel) ⟨Nat.le_of_ble_eq_true rfl, Nat.le_of_ble_eq_true rfl⟩) ⟨PX.blind, va_recv hK hP (ci := 7) (q0 := 3) rfl rfl, fun U hU hW => ⟨rfl, PX.at hK hE hP hS hU hW⟩⟩ rfl rfl hl.1 rfl (lv_room (Nat.le_of_ble_eq_true rfl)) dX11_giveBack_86 ⟨Nat.le_of_ble_eq_true rfl, Nat.le_of_ble_eq_true rfl⟩) hS (fun q _ h => (freeX hS) q h) (freeX hS) (fun u t H1 locs ht hvm hw hB hz1 hk1 hS => ?_)
        unfold BX at hB
        rw [ht] at hB
        obtain ⟨v4609, F4610, rc9⟩ := u
        obtain ⟨hI, hal9, hrc, hf4611, hw⟩ := hw
        dsimp only at hI hal9 hrc hB hf4611 hw
        rw [hrc] at hB
        have hal := hal9.trans hal
        have hP : va_P (dC, dI) classes (wX g c v4609 F4610 rc) H1 := hB
        generalize H1 = H at hP hS ⊢
        refine lv_iload_n hx hb dX11_giveBack_89 rfl (lv_at hl 0 rfl) ?_
        have hP9 : va_P (dC, dI) classes (wX g c v4609 F4610 rc) H := hP
        exact W.iret (v := r4600) hx hb hr (fun t ht hW => ⟨⟨r4600, (v4609, F4610, rc), rfl, ⟨hI, (Or.inr ⟨by omega, (v 11), by omega, hal⟩), rfl, (frC (by decide) hf4611 (frC (by decide) hf4605 (frC (by decide) hf4598 (fun _ _ => rfl)))), trivial⟩, (by show va_P _ _ _ t.heap; rw [ht]; exact hP9)⟩, hS.F ht⟩) hS.2.2 dX11_giveBack_90
      · skip
        have t4612 := cv_eq (a := r4591.toInt) rfl (b := 0) (by decide) c4592
        refine lv_bipush (v := (-2)) hx hb dX11_giveBack_35 (by decide) ?_
        have hP9 : va_P (dC, dI) classes (wX g c v F rc) H := hP
        exact W.iret (v := (-2)) hx hb hr (fun t ht hW => ⟨⟨(-2), (v, F, rc), rfl, ⟨hI, (Or.inl ⟨by omega, hal⟩), rfl, (fun _ _ => rfl), trivial⟩, (by show va_P _ _ _ t.heap; rw [ht]; exact hP9)⟩, hS.F ht⟩) hS.2.2 dX11_giveBack_37
  · skip
    have t4613 := cv_eq (a := r4584.toInt) rfl (b := 0) (by decide) c4585
    refine lv_iconst (v := (-1)) hx hb dX11_giveBack_11 (by decide) ?_
    have hP9 : va_P (dC, dI) classes (wX g c v F rc) H := hP
    exact W.iret (v := (-1)) hx hb hr (fun t ht hW => ⟨⟨(-1), (v, F, rc), rfl, ⟨hI, (Or.inl ⟨by omega, hal⟩), rfl, (fun _ _ => rfl), trivial⟩, (by show va_P _ _ _ t.heap; rw [ht]; exact hP9)⟩, hS.F ht⟩) hS.2.2 dX11_giveBack_12
