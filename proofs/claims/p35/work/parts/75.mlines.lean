set_option maxHeartbeats 8000000 in
set_option maxRecDepth 100000 in
theorem c_X12_takesNumber (l : Launch) (dC : Nat → ClassId) (dI : Nat → Nat → Nat) (g : Nat → Nat) (c : Nat → ClassId) (adK adV : Nat → Nat) (v : Nat → Int32) (F : Nat → Nat → Int32) (rc sz : Nat) (hg : injM g) (hI : IM v F) (hq : (v 39).toInt ≤ (v 30).toInt) : Met l yX12_takesNumber (Cond.code yX12_takesNumber cX12_takesNumber 1 (some .boolean) :: wA) ({ frames := 3, cells := 0, slots := 0, locals := 120 }) (va_Pc [.ref (g 0)] (PM dC dI g c adK adV v F rc sz)) (va_Qi (fun (r : Int32) (u : StM) => IM u.1 u.2.1 ∧ u.2.2 = rc ∧ (∀ k, k ∉ ([39, 40, 42] : List Nat) → u.1 k = v k) ∧ (∀ k, k ∉ ([] : List Nat) → u.2.1 k = F k) ∧ ((r.toInt = 1 ∧ (v 39).toInt + 2 ≤ (u.1 39).toInt ∧ (u.1 39).toInt ≤ (v 30).toInt ∧ (u.1 40).toInt = (v 40).toInt) ∨ (r.toInt = 0 ∧ 0 ≤ (u.1 40).toInt ∧ (v 39).toInt ≤ (u.1 39).toInt ∧ (u.1 39).toInt ≤ (v 30).toInt))) (BM dC dI g c) (AM g sz)) 0 0 (AM g sz) := by
  refine Met.ofW (cc := cX12_takesNumber) (maxL := 1) (ret := (some .boolean)) (by decide) rfl ?_
  intro p e s m args below meth c0 s₁ B hml hv
  obtain ⟨rfl, hsz, hP, hK, hE⟩ := hv
  have hx := B.exec
  have hb := B.bytes
  have hr := B.returns
  have hts := atoms_spec (ws := Cond.code yX12_takesNumber cX12_takesNumber 1 (some .boolean) :: wA) B.pre
  have hwd : ∀ w ∈ wA, w.before _ s = true := fun w h => hts w (List.mem_cons_of_mem _ h)
  have hown : s.vm.findClass RX12 = some m.cls := findClass_of_methodNamed B.named
  have hlocks := B.notSynchronized
  subst hsz
  have hl := lv_entry ([.ref (g 0)]) (n := 1) (Nat.le_of_ble_eq_true rfl)
  rw [lg_entry_eq]
  generalize (lg_sl ([.ref (g 0)]) ++ List.replicate (1 - (lg_sl ([.ref (g 0)])).length) Slot.unset).toArray = ls at hl ⊢
  have hl : lv_has ls 1 [(0, .ref (g 0))] := hl
  obtain ⟨H, eH⟩ : ∃ z, z = s.heap := ⟨_, rfl⟩
  have hP : va_P (dC, dI) classes (wM g c v F rc) H := by rw [eH]; exact hP
  have hS : va_S (AM g s.heap.size) s.heap H [] := by rw [eH]; exact va_S.rf
  refine my_heap eH ?_
  have hF : ∀ k, k ∉ ([] : List Nat) → F k = F k := fun _ _ => rfl
  have hb30 : 0 ≤ (v 30).toInt ∧ (v 30).toInt ≤ 120 := hI.1 30 _ _ rfl
  have hb39 : 0 ≤ (v 39).toInt ∧ (v 39).toInt ≤ 120 := hI.1 39 _ _ rfl
  refine lv_aload_n hx hb dX12_takesNumber_0 rfl (lv_at hl 0 rfl) ?_
  have t7618 : 0 ≤ (v 30).toInt ∧ (v 30).toInt ≤ 120 := hI.1 30 _ _ rfl
  have t7619 : 0 ≤ (v 39).toInt ∧ (v 39).toInt ≤ 120 := hI.1 39 _ _ rfl
  refine va_calli (va_runV (As := []) (rest := []) ⟨hx, hb, hml, hown, hwd⟩ (c_X12_look l dC dI g c adK adV v F rc H.size  hg hI ) (cwV 0 hwd (gV wk_1017 wk_1014 wk_1015 wk_1016 wk_5) rfl rfl rfl (by decide +kernel) ⟨Nat.le_of_ble_eq_true rfl, Nat.le_of_ble_eq_true rfl⟩) ⟨PM.blind, va_recv hK hP (ci := 12) (q0 := 0) rfl rfl, fun U hU hW => ⟨rfl, PM.at hK hE hP hS hU hW⟩⟩ rfl rfl hl.1 rfl (lv_room (Nat.le_of_ble_eq_true rfl)) dX12_takesNumber_1 ⟨Nat.le_of_ble_eq_true rfl, Nat.le_of_ble_eq_true rfl⟩) hS (fun q _ h => (freeM hS) q h) (freeM hS) (fun r7620 u t H1 locs ht hvm hw hB hz1 hk1 hS => ?_)
  unfold BM at hB
  rw [ht] at hB
  have hP : va_P (dC, dI) classes (wM g c v F rc) H1 := hB
  replace hw : r7620.toInt = lkM (v 39) (v 30) (F 24) ∧ ((v 39).toInt < (v 30).toInt ∨ r7620.toInt = -1) := hw
  have hw_r7620 := hw
  clear hw
  clear hz1
  generalize H1 = H at hP hS ⊢
  refine lv_bipush (v := 32) hx hb dX12_takesNumber_4 (by decide) ?_
  refine lv_icmp_eq (tgt := 15) hx hb dX12_takesNumber_6 (by decide) (fun c7621 => ?_) (fun c7621 => ?_)
  · skip
    have t7622 := cv_eq (a := r7620.toInt) rfl (b := 32) (by decide) c7621
    refine lv_aload_n hx hb dX12_takesNumber_15 rfl (lv_at hl 0 rfl) ?_
    refine lv_dup hx hb dX12_takesNumber_16 rfl ?_
    refine va_get (D := (dC, dI)) (ci := 12) (v := .int (v 39)) (C := RX12) (T := TX12) (N := 63) hx hb hwd inA_X12 hown hK hP 0 rfl rfl 39 (by decide) (hwd _ wk_1004) (fun _ h9 => h9) rfl dX12_takesNumber_17 ?_
    have t7623 : 0 ≤ (v 39).toInt ∧ (v 39).toInt ≤ 120 := hI.1 39 _ _ rfl
    refine lv_iconst (v := 1) hx hb dX12_takesNumber_20 (by decide) ?_
    refine lv_iadd hx hb dX12_takesNumber_21 ?_
    refine lv_topi (fun z7624 e7625 => ?_)
    try (have t7626 := tadd e7625 (a := (v 39).toInt) rfl (b := 1) (by decide) (by omega))
    refine va_put (D := (dC, dI)) (ci := 12) (v := .int z7624) (ty := .int) (C := RX12) (T := TX12) (N := 63) (fs := fsM_0 g v rc) hx hb hwd inA_X12 tyX12 tyX12_ok nmX12 hown hK hP (DM hg) hS 0 rfl rfl 39 (by decide) (hwd _ wk_1004) (fun _ h9 => h9) rfl (by decide +kernel) rfl rfl (Nat.le_of_ble_eq_true rfl) dX12_takesNumber_22 (fun H locs hP _ hS => ?_)
    have hP := va_P_eq (pM_39 g c _ _ _ _) hP
    have hI := IM.put hI 39 z7624 rfl (by omega)
    refine lv_aload_n hx hb dX12_takesNumber_25 rfl (lv_at hl 0 rfl) ?_
    have t7627 : 0 ≤ (v 30).toInt ∧ (v 30).toInt ≤ 120 := hI.1 30 _ _ rfl
    have t7628 : 0 ≤ z7624.toInt ∧ z7624.toInt ≤ 120 := hI.1 39 _ _ rfl
    refine va_calli (va_runV (As := []) (rest := []) ⟨hx, hb, hml, hown, hwd⟩ (c_X12_digits l dC dI g c adK adV (va_up v 39 z7624) F rc H.size  hg hI (by have h9 : (va_up v 39 z7624) 39 = z7624 := rfl; (try rw [h9]); clear h9; have h9 : (va_up v 39 z7624) 30 = v 30 := rfl; (try rw [h9]); clear h9; omega)) (cwV 0 hwd (gV wk_1041 wk_1038 wk_1039 wk_1040 wk_5) rfl rfl rfl (by decide +kernel) ⟨Nat.le_of_ble_eq_true rfl, Nat.le_of_ble_eq_true rfl⟩) ⟨PM.blind, va_recv hK hP (ci := 12) (q0 := 0) rfl rfl, fun U hU hW => ⟨rfl, PM.at hK hE hP hS hU hW⟩⟩ rfl rfl hl.1 rfl (lv_room (Nat.le_of_ble_eq_true rfl)) dX12_takesNumber_26 ⟨Nat.le_of_ble_eq_true rfl, Nat.le_of_ble_eq_true rfl⟩) hS (fun q _ h => (freeM hS) q h) (freeM hS) (fun r7629 u t H1 locs ht hvm hw hB hz1 hk1 hS => ?_)
    unfold BM at hB
    rw [ht] at hB
    obtain ⟨v7630, F7631, rc9⟩ := u
    obtain ⟨hI, hrc, hf7632, hG7633, hw⟩ := hw
    dsimp only at hI hrc hB hf7632 hG7633 hw
    have hF := frCF (by decide) hG7633 hF
    rw [hrc] at hB
    have hP : va_P (dC, dI) classes (wM g c v7630 F7631 rc) H1 := hB
    replace hw : (r7629.toInt = 1 ∧ z7624.toInt < (v7630 39).toInt ∧ (v7630 39).toInt ≤ (v 30).toInt ∧ (v7630 40).toInt = (v 40).toInt) ∨ (r7629.toInt = 0 ∧ 0 ≤ (v7630 40).toInt ∧ z7624.toInt ≤ (v7630 39).toInt ∧ (v7630 39).toInt ≤ (v 30).toInt) := hw
    have hw_r7629 := hw
    clear hw
    have t7634 : 0 ≤ (v7630 39).toInt ∧ (v7630 39).toInt ≤ 120 := hI.1 39 _ _ rfl
    clear hz1
    generalize H1 = H at hP hS ⊢
    have hP9 : va_P (dC, dI) classes (wM g c v7630 F7631 rc) H := hP
    exact W.zret (v := r7629) hx hb hr (narB (by omega)) (fun t ht hW => ⟨⟨r7629, (v7630, F7631, rc), rfl, ⟨hI, rfl, (frC (by decide) hf7632 (frU (by decide) (fun _ _ => rfl))), hF, (by show (r7629.toInt = 1 ∧ (v 39).toInt + 2 ≤ (v7630 39).toInt ∧ (v7630 39).toInt ≤ (v 30).toInt ∧ (v7630 40).toInt = (v 40).toInt) ∨ (r7629.toInt = 0 ∧ 0 ≤ (v7630 40).toInt ∧ (v 39).toInt ≤ (v7630 39).toInt ∧ (v7630 39).toInt ≤ (v 30).toInt); omega)⟩, (by show va_P _ _ _ t.heap; rw [ht]; exact hP9)⟩, hS.F ht⟩) hS.2.2 dX12_takesNumber_29
  · skip
    have t7635 := cv_ne (a := r7620.toInt) rfl (b := 32) (by decide) c7621
    refine lv_aload_n hx hb dX12_takesNumber_9 rfl (lv_at hl 0 rfl) ?_
    refine va_callv (va_runV (As := []) (rest := []) ⟨hx, hb, hml, hown, hwd⟩ (c_X12_wrong l dC dI g c adK adV v F rc H.size  hg hI ) (cwV 0 hwd (gV wk_1029 wk_1026 wk_1027 wk_1028 wk_5) rfl rfl rfl (by decide +kernel) ⟨Nat.le_of_ble_eq_true rfl, Nat.le_of_ble_eq_true rfl⟩) ⟨PM.blind, va_recv hK hP (ci := 12) (q0 := 0) rfl rfl, fun U hU hW => ⟨rfl, PM.at hK hE hP hS hU hW⟩⟩ rfl rfl hl.1 rfl (lv_room (Nat.le_of_ble_eq_true rfl)) dX12_takesNumber_10 ⟨Nat.le_of_ble_eq_true rfl, Nat.le_of_ble_eq_true rfl⟩) hS (fun q _ h => (freeM hS) q h) (freeM hS) (fun u t H1 locs ht hvm hw hB hz1 hk1 hS => ?_)
    unfold BM at hB
    rw [ht] at hB
    obtain ⟨v7637, F7638, rc9⟩ := u
    obtain ⟨hI, hrc, hf7639, hG7640, hw⟩ := hw
    dsimp only at hI hrc hB hf7639 hG7640 hw
    have hF := frCF (by decide) hG7640 hF
    rw [hrc] at hB
    have hP : va_P (dC, dI) classes (wM g c v7637 F7638 rc) H1 := hB
    replace hw : 0 ≤ (v7637 40).toInt := hw
    have hw_r7636 := hw
    clear hw
    clear hz1
    generalize H1 = H at hP hS ⊢
    refine lv_iconst (v := 0) hx hb dX12_takesNumber_13 (by decide) ?_
    have hP9 : va_P (dC, dI) classes (wM g c v7637 F7638 rc) H := hP
    exact W.zret (v := 0) hx hb hr (rfl) (fun t ht hW => ⟨⟨0, (v7637, F7638, rc), rfl, ⟨hI, rfl, (frC (by decide) hf7639 (fun _ _ => rfl)), hF, (by show ((0 : Int32).toInt = 1 ∧ (v 39).toInt + 2 ≤ (v7637 39).toInt ∧ (v7637 39).toInt ≤ (v 30).toInt ∧ (v7637 40).toInt = (v 40).toInt) ∨ ((0 : Int32).toInt = 0 ∧ 0 ≤ (v7637 40).toInt ∧ (v 39).toInt ≤ (v7637 39).toInt ∧ (v7637 39).toInt ≤ (v 30).toInt); rw [show v7637 39 = v 39 from hf7639 39 (by decide)]; have : (0 : Int32).toInt = 0 := (by decide); omega)⟩, (by show va_P _ _ _ t.heap; rw [ht]; exact hP9)⟩, hS.F ht⟩) hS.2.2 dX12_takesNumber_14
set_option maxHeartbeats 8000000 in
set_option maxRecDepth 100000 in
theorem c_X12_readLine (l : Launch) (dC : Nat → ClassId) (dI : Nat → Nat → Nat) (g : Nat → Nat) (c : Nat → ClassId) (adK adV : Nat → Nat) (v : Nat → Int32) (F : Nat → Nat → Int32) (rc sz : Nat) (hg : injM g) (hI : IM v F) (hq : 4 * (F 37 (10 : Int32).toNatClampNeg).toInt ≤ (v 39).toInt ∧ (v 39).toInt ≤ (v 30).toInt) : Met l yX12_readLine (Cond.code yX12_readLine cX12_readLine 6 none :: wA) ({ frames := 4, cells := 0, slots := 0, locals := 160 }) (va_Pc [.ref (g 0), .int 10] (PM dC dI g c adK adV v F rc sz)) (va_Qv (fun (u : StM) => IM u.1 u.2.1 ∧ u.2.2 = rc ∧ (∀ k, k ∉ ([39, 40, 42] : List Nat) → u.1 k = v k) ∧ (∀ k, k ∉ ([37, 38, 39, 40, 41] : List Nat) → u.2.1 k = F k) ∧ (4 * (u.2.1 37 (10 : Int32).toNatClampNeg).toInt ≤ (u.1 39).toInt ∧ (u.1 39).toInt ≤ (v 30).toInt ∧ (v 39).toInt ≤ (u.1 39).toInt ∧ ((u.1 40).toInt < 0 → (v 39).toInt < (u.1 39).toInt))) (BM dC dI g c) (AM g sz)) 0 0 (AM g sz) := by
  refine Met.ofW (cc := cX12_readLine) (maxL := 6) (ret := none) (by decide) rfl ?_
  intro p e s m args below meth c0 s₁ B hml hv
  obtain ⟨rfl, hsz, hP, hK, hE⟩ := hv
  have hx := B.exec
  have hb := B.bytes
  have hr := B.returns
  have hts := atoms_spec (ws := Cond.code yX12_readLine cX12_readLine 6 none :: wA) B.pre
  have hwd : ∀ w ∈ wA, w.before _ s = true := fun w h => hts w (List.mem_cons_of_mem _ h)
  have hown : s.vm.findClass RX12 = some m.cls := findClass_of_methodNamed B.named
  have hlocks := B.notSynchronized
  subst hsz
  have hl := lv_entry ([.ref (g 0), .int 10]) (n := 6) (Nat.le_of_ble_eq_true rfl)
  rw [lg_entry_eq]
  generalize (lg_sl ([.ref (g 0), .int 10]) ++ List.replicate (6 - (lg_sl ([.ref (g 0), .int 10])).length) Slot.unset).toArray = ls at hl ⊢
  have hl : lv_has ls 6 [(0, .ref (g 0)), (1, .int 10)] := hl
  obtain ⟨H, eH⟩ : ∃ z, z = s.heap := ⟨_, rfl⟩
  have hP : va_P (dC, dI) classes (wM g c v F rc) H := by rw [eH]; exact hP
  have hS : va_S (AM g s.heap.size) s.heap H [] := by rw [eH]; exact va_S.rf
  refine my_heap eH ?_
  have hF : ∀ k, k ∉ ([37, 38, 39, 40, 41] : List Nat) → F k = F k := fun _ _ => rfl
  have hb30 : 0 ≤ (v 30).toInt ∧ (v 30).toInt ≤ 120 := hI.1 30 _ _ rfl
  have hb39 : 0 ≤ (v 39).toInt ∧ (v 39).toInt ≤ 120 := hI.1 39 _ _ rfl
  refine lv_aload_n hx hb dX12_readLine_0 rfl (lv_at hl 0 rfl) ?_
  have t7732 : 0 ≤ (v 30).toInt ∧ (v 30).toInt ≤ 120 := hI.1 30 _ _ rfl
  have t7733 : 0 ≤ (v 39).toInt ∧ (v 39).toInt ≤ 120 := hI.1 39 _ _ rfl
  refine va_calli (va_runV (As := []) (rest := []) ⟨hx, hb, hml, hown, hwd⟩ (c_X12_look l dC dI g c adK adV v F rc H.size  hg hI ) (cwV 0 hwd (gV wk_1017 wk_1014 wk_1015 wk_1016 wk_5) rfl rfl rfl (by decide +kernel) ⟨Nat.le_of_ble_eq_true rfl, Nat.le_of_ble_eq_true rfl⟩) ⟨PM.blind, va_recv hK hP (ci := 12) (q0 := 0) rfl rfl, fun U hU hW => ⟨rfl, PM.at hK hE hP hS hU hW⟩⟩ rfl rfl hl.1 rfl (lv_room (Nat.le_of_ble_eq_true rfl)) dX12_readLine_1 ⟨Nat.le_of_ble_eq_true rfl, Nat.le_of_ble_eq_true rfl⟩) hS (fun q _ h => (freeM hS) q h) (freeM hS) (fun r7734 u t H1 locs ht hvm hw hB hz1 hk1 hS => ?_)
  unfold BM at hB
  rw [ht] at hB
  have hP : va_P (dC, dI) classes (wM g c v F rc) H1 := hB
  replace hw : r7734.toInt = lkM (v 39) (v 30) (F 24) ∧ ((v 39).toInt < (v 30).toInt ∨ r7734.toInt = -1) := hw
  have hw_r7734 := hw
  clear hw
  clear hz1
  generalize H1 = H at hP hS ⊢
  refine lv_istore_n (lv' := [(2, .int r7734), (0, .ref (g 0)), (1, .int 10)]) hx hb dX12_readLine_4 rfl hl (by decide) rfl (fun ls hl => ?_)
  refine lv_iload_n hx hb dX12_readLine_5 rfl (lv_at hl 0 rfl) ?_
  refine va_calli (va_runS (As := [.int r7734]) (rest := []) ⟨hx, hb, hml, hown, hwd⟩ (c_X12_numbersOf l dC dI g c adK adV v F rc H.size r7734 hg hI ) (va_cwS 1 hwd (gT wk_1134 wk_1132 wk_1133 wk_5) rfl rfl rfl (by decide +kernel) ⟨Nat.le_of_ble_eq_true rfl, Nat.le_of_ble_eq_true rfl⟩) ⟨PM.blind, fun U hU hW => ⟨rfl, PM.at hK hE hP hS hU hW⟩⟩ rfl rfl hl.1 rfl (lv_room (Nat.le_of_ble_eq_true rfl)) dX12_readLine_6 ⟨Nat.le_of_ble_eq_true rfl, Nat.le_of_ble_eq_true rfl⟩) hS (fun q _ h => (freeM hS) q h) (freeM hS) (fun r7735 u t H1 locs ht hvm hw hB hz1 hk1 hS => ?_)
  unfold BM at hB
  rw [ht] at hB
  have hP : va_P (dC, dI) classes (wM g c v F rc) H1 := hB
  have hw_r7735 : (0 ≤ r7735.toInt ∧ r7735.toInt ≤ 3) ∧ (r7735.toInt = 0 ∨ 100 ≤ r7734.toInt) := hw
  clear hw
  clear hz1
  generalize H1 = H at hP hS ⊢
  refine lv_istore_n (lv' := [(3, .int r7735), (2, .int r7734), (0, .ref (g 0)), (1, .int 10)]) hx hb dX12_readLine_9 rfl hl (by decide) rfl (fun ls hl => ?_)
  refine lv_iload_n hx hb dX12_readLine_10 rfl (lv_at hl 0 rfl) ?_
  refine lv_if_ne (tgt := 19) hx hb dX12_readLine_11 (by decide) (fun c7736 => ?_) (fun c7736 => ?_)
  · skip
    have t7737 := cv_ne (a := r7735.toInt) rfl (b := 0) (by decide) c7736
    refine lv_aload_n hx hb dX12_readLine_19 rfl (lv_at hl 2 rfl) ?_
    refine lv_dup hx hb dX12_readLine_20 rfl ?_
    refine va_get (D := (dC, dI)) (ci := 12) (v := .int (v 39)) (C := RX12) (T := TX12) (N := 63) hx hb hwd inA_X12 hown hK hP 0 rfl rfl 39 (by decide) (hwd _ wk_1004) (fun _ h9 => h9) rfl dX12_readLine_21 ?_
    have t7738 : 0 ≤ (v 39).toInt ∧ (v 39).toInt ≤ 120 := hI.1 39 _ _ rfl
    refine lv_iconst (v := 1) hx hb dX12_readLine_24 (by decide) ?_
    refine lv_iadd hx hb dX12_readLine_25 ?_
    refine lv_topi (fun z7739 e7740 => ?_)
    try (have t7741 := tadd e7740 (a := (v 39).toInt) rfl (b := 1) (by decide) (by omega))
    refine va_put (D := (dC, dI)) (ci := 12) (v := .int z7739) (ty := .int) (C := RX12) (T := TX12) (N := 63) (fs := fsM_0 g v rc) hx hb hwd inA_X12 tyX12 tyX12_ok nmX12 hown hK hP (DM hg) hS 0 rfl rfl 39 (by decide) (hwd _ wk_1004) (fun _ h9 => h9) rfl (by decide +kernel) rfl rfl (Nat.le_of_ble_eq_true rfl) dX12_readLine_26 (fun H locs hP _ hS => ?_)
    have hP := va_P_eq (pM_39 g c _ _ _ _) hP
    have hI := IM.put hI 39 z7739 rfl (by omega)
    refine lv_bipush (v := 32) hx hb dX12_readLine_29 (by decide) ?_
    refine lv_iload_n hx hb dX12_readLine_31 rfl (lv_at hl 3 rfl) ?_
    refine lv_imul hx hb dX12_readLine_32 ?_
    refine my_top (v := 320) (by decide) ?_
    refine lv_aload_n hx hb dX12_readLine_33 rfl (lv_at hl 2 rfl) ?_
    refine va_get (D := (dC, dI)) (ci := 12) (v := .ref (g 37)) (C := RX12) (T := TX12) (N := 63) hx hb hwd inA_X12 hown hK hP 0 rfl rfl 51 (by decide) (hwd _ wk_219) (fun _ h9 => h9) rfl dX12_readLine_34 ?_
    refine lv_iload_n hx hb dX12_readLine_37 rfl (lv_at hl 3 rfl) ?_
    refine va_iald hx hb hK hP 37 36 rfl rfl (i := 10) (vin (a := 10) (by decide) (by omega)) dX12_readLine_38 ?_
    refine lv_topi (fun z7742 e7743 => ?_)
    have t7744 : 0 ≤ z7742.toInt ∧ z7742.toInt ≤ 31 := by rw [e7743]; exact hI.2 37 _ _ rfl _
    have tzz7742 : z7742.toInt = (F 37 (10 : Int32).toNatClampNeg).toInt := congrArg Int32.toInt e7743
    refine lv_iadd hx hb dX12_readLine_39 ?_
    refine lv_topi (fun z7745 e7746 => ?_)
    try (have t7747 := tadd e7746 (a := 320) (by decide) (b := z7742.toInt) rfl (by omega))
    refine lv_istore (lv' := [(4, .int z7745), (3, .int r7735), (2, .int r7734), (0, .ref (g 0)), (1, .int 10)]) hx hb dX12_readLine_40 hl (by decide) rfl (fun ls hl => ?_)
    refine lv_aload_n hx hb dX12_readLine_42 rfl (lv_at hl 3 rfl) ?_
    refine va_get (D := (dC, dI)) (ci := 12) (v := .ref (g 38)) (C := RX12) (T := TX12) (N := 63) hx hb hwd inA_X12 hown hK hP 0 rfl rfl 52 (by decide) (hwd _ wk_220) (fun _ h9 => h9) rfl dX12_readLine_43 ?_
    refine lv_iload hx hb dX12_readLine_46 (lv_at hl 0 rfl) ?_
    refine lv_iload_n hx hb dX12_readLine_48 rfl (lv_at hl 2 rfl) ?_
    refine va_iast hx hb hK hP (DM hg) hS 38 37 rfl rfl (i := z7745) (x := r7734) (vin (a := z7745.toInt) rfl (by omega)) dX12_readLine_49 (fun H locs hP _ hS => ?_)
    have hP := va_P_eq (sM_38 g c _ _ _ _) hP
    have hI := IM.store0 hI 38 (z7745 : Int32).toNatClampNeg r7734 rfl
    have hF := frUF (k := 38) (f := upd (F 38) (z7745 : Int32).toNatClampNeg r7734) (by decide) hF
    have st7749 : (va_up F 38 (upd (F 38) (z7745 : Int32).toNatClampNeg r7734)) 38 = upd (F 38) (z7745 : Int32).toNatClampNeg r7734 := va_up_self _ _ _
    have sn7750 : ∀ k9, k9 ≠ 38 → (va_up F 38 (upd (F 38) (z7745 : Int32).toNatClampNeg r7734)) k9 = F k9 := fun k9 h9 => va_up_ne _ _ h9
    have hP : va_P (dC, dI) classes (wM g c (va_up v 39 z7739) (va_up F 38 (upd (F 38) (z7745 : Int32).toNatClampNeg r7734)) rc) H := hP
    generalize (va_up F 38 (upd (F 38) (z7745 : Int32).toNatClampNeg r7734)) = F7748 at hP hI hF st7749 sn7750
    refine lv_iconst (v := 0) hx hb dX12_readLine_50 (by decide) ?_
    refine lv_istore (lv' := [(5, .int 0), (4, .int z7745), (3, .int r7735), (2, .int r7734), (0, .ref (g 0)), (1, .int 10)]) hx hb dX12_readLine_51 hl (by decide) rfl (fun ls hl => ?_)
    have lp7751 : ∀ (n : Nat) (x5_lp7751 : Int32) (v_lp7751 : Nat → Int32) (F_lp7751 : Nat → Nat → Int32) (H : Heap) (locs : List Loc) (ls : Array Slot), (0 ≤ x5_lp7751.toInt) → ((v 39).toInt + 1 + 2 * x5_lp7751.toInt ≤ (v_lp7751 39).toInt ∧ (v_lp7751 39).toInt ≤ (v 30).toInt) → ((F_lp7751 37 (10 : Int32).toNatClampNeg).toInt = (F 37 (10 : Int32).toNatClampNeg).toInt) → (2147483648 - x5_lp7751.toInt ≤ (n : Int)) → (∀ k, k ∉ ([39, 40, 42] : List Nat) → v_lp7751 k = (va_up v 39 z7739) k) → IM v_lp7751 F_lp7751 → (∀ k, k ∉ ([37, 38, 39, 40, 41] : List Nat) → F_lp7751 k = F k) → va_P (dC, dI) classes (wM g c v_lp7751 F_lp7751 rc) H → va_S (AM g s.heap.size) s.heap H locs → lv_has ls 6 [(5, .int x5_lp7751), (4, .int z7745), (3, .int r7735), (2, .int r7734), (0, .ref (g 0)), (1, .int 10)] → W p l e (headSpec (Cond.code yX12_readLine cX12_readLine 6 none :: wA) ({ frames := 4, cells := 0, slots := 0, locals := 160 })).room s m ([.ref (g 0), .int 10] : List Value).toArray below meth c0 H locs 0 0 (MQ below (va_Qv (fun (u : StM) => IM u.1 u.2.1 ∧ u.2.2 = rc ∧ (∀ k, k ∉ ([39, 40, 42] : List Nat) → u.1 k = v k) ∧ (∀ k, k ∉ ([37, 38, 39, 40, 41] : List Nat) → u.2.1 k = F k) ∧ (4 * (u.2.1 37 (10 : Int32).toNatClampNeg).toInt ≤ (u.1 39).toInt ∧ (u.1 39).toInt ≤ (v 30).toInt ∧ (v 39).toInt ≤ (u.1 39).toInt ∧ ((u.1 40).toInt < 0 → (v 39).toInt < (u.1 39).toInt))) (BM dC dI g c) (AM g s.heap.size)) ([.ref (g 0), .int 10] : List Value).toArray s 0 0 (AM g s.heap.size)) (F0 m 53 ls []) := by
      intro n
      induction n with
      | zero =>
        intro x5_lp7751 v_lp7751 F_lp7751 H locs ls t7752 t7753 t7754 hm hf_lp7751 hI hF hP hS hl
        exfalso
        have := i32_rng x5_lp7751
        have hI1 := hI.1
        omega
      | succ n ih_lp7751 =>
        intro x5_lp7751 v_lp7751 F_lp7751 H locs ls t7752 t7753 t7754 hm hf_lp7751 hI hF hP hS hl
        have rx5_lp7751 := i32_rng x5_lp7751
        refine lv_iload hx hb dX12_readLine_53 (lv_at hl 0 rfl) ?_
        refine lv_iload_n hx hb dX12_readLine_55 rfl (lv_at hl 2 rfl) ?_
        refine lv_icmp_ge (tgt := 123) hx hb dX12_readLine_56 (by decide) (fun c7755 => ?_) (fun c7755 => ?_)
        · skip
          have t7756 := cv_le (a := r7735.toInt) rfl (b := x5_lp7751.toInt) rfl c7755
          refine lv_aload_n hx hb dX12_readLine_123 rfl (lv_at hl 4 rfl) ?_
          have t7757 : 0 ≤ (v 30).toInt ∧ (v 30).toInt ≤ 120 := by have h9 := hI.1 30 _ _ rfl; rw [show v_lp7751 30 = v 30 from hf_lp7751 30 (by decide)] at h9; exact h9
          have t7758 : 0 ≤ (v_lp7751 39).toInt ∧ (v_lp7751 39).toInt ≤ 120 := hI.1 39 _ _ rfl
          refine va_calli (va_runV (As := []) (rest := []) ⟨hx, hb, hml, hown, hwd⟩ (c_X12_look l dC dI g c adK adV v_lp7751 F_lp7751 rc H.size  hg hI ) (cwV 0 hwd (gV wk_1017 wk_1014 wk_1015 wk_1016 wk_5) rfl rfl rfl (by decide +kernel) ⟨Nat.le_of_ble_eq_true rfl, Nat.le_of_ble_eq_true rfl⟩) ⟨PM.blind, va_recv hK hP (ci := 12) (q0 := 0) rfl rfl, fun U hU hW => ⟨rfl, PM.at hK hE hP hS hU hW⟩⟩ rfl rfl hl.1 rfl (lv_room (Nat.le_of_ble_eq_true rfl)) dX12_readLine_124 ⟨Nat.le_of_ble_eq_true rfl, Nat.le_of_ble_eq_true rfl⟩) hS (fun q _ h => (freeM hS) q h) (freeM hS) (fun r7759 u t H1 locs ht hvm hw hB hz1 hk1 hS => ?_)
          unfold BM at hB
          rw [ht] at hB
          have hP : va_P (dC, dI) classes (wM g c v_lp7751 F_lp7751 rc) H1 := hB
          replace hw : r7759.toInt = lkM (v_lp7751 39) (v_lp7751 30) (F_lp7751 24) ∧ ((v_lp7751 39).toInt < (v_lp7751 30).toInt ∨ r7759.toInt = -1) := hw
          rw [show v_lp7751 30 = v 30 from hf_lp7751 30 (by decide)] at hw
          rw [hF 24 (by decide)] at hw
          have hw_r7759 := hw
          clear hw
          clear hz1
          generalize H1 = H at hP hS ⊢
          refine lv_bipush (v := 59) hx hb dX12_readLine_127 (by decide) ?_
          refine lv_icmp_eq (tgt := 137) hx hb dX12_readLine_129 (by decide) (fun c7760 => ?_) (fun c7760 => ?_)
          · skip
            have t7761 := cv_eq (a := r7759.toInt) rfl (b := 59) (by decide) c7760
            refine lv_aload_n hx hb dX12_readLine_137 rfl (lv_at hl 4 rfl) ?_
            refine lv_dup hx hb dX12_readLine_138 rfl ?_
            refine va_get (D := (dC, dI)) (ci := 12) (v := .int (v_lp7751 39)) (C := RX12) (T := TX12) (N := 63) hx hb hwd inA_X12 hown hK hP 0 rfl rfl 39 (by decide) (hwd _ wk_1004) (fun _ h9 => h9) rfl dX12_readLine_139 ?_
            have t7762 : 0 ≤ (v_lp7751 39).toInt ∧ (v_lp7751 39).toInt ≤ 120 := hI.1 39 _ _ rfl
            refine lv_iconst (v := 1) hx hb dX12_readLine_142 (by decide) ?_
            refine lv_iadd hx hb dX12_readLine_143 ?_
            refine lv_topi (fun z7763 e7764 => ?_)
            try (have t7765 := tadd e7764 (a := (v_lp7751 39).toInt) rfl (b := 1) (by decide) (by omega))
            refine va_put (D := (dC, dI)) (ci := 12) (v := .int z7763) (ty := .int) (C := RX12) (T := TX12) (N := 63) (fs := fsM_0 g v_lp7751 rc) hx hb hwd inA_X12 tyX12 tyX12_ok nmX12 hown hK hP (DM hg) hS 0 rfl rfl 39 (by decide) (hwd _ wk_1004) (fun _ h9 => h9) rfl (by decide +kernel) rfl rfl (Nat.le_of_ble_eq_true rfl) dX12_readLine_144 (fun H locs hP _ hS => ?_)
            have hP := va_P_eq (pM_39 g c _ _ _ _) hP
            have hI := IM.put hI 39 z7763 rfl (by omega)
            refine lv_aload_n hx hb dX12_readLine_147 rfl (lv_at hl 4 rfl) ?_
            refine va_get (D := (dC, dI)) (ci := 12) (v := .ref (g 37)) (C := RX12) (T := TX12) (N := 63) hx hb hwd inA_X12 hown hK hP 0 rfl rfl 51 (by decide) (hwd _ wk_219) (fun _ h9 => h9) rfl dX12_readLine_148 ?_
            refine lv_iload_n hx hb dX12_readLine_151 rfl (lv_at hl 5 rfl) ?_
            refine lv_dup2_11 hx hb dX12_readLine_152 rfl rfl ?_
            refine va_iald hx hb hK hP 37 36 rfl rfl (i := 10) (vin (a := 10) (by decide) (by omega)) dX12_readLine_153 ?_
            refine lv_topi (fun z7766 e7767 => ?_)
            have t7768 : 0 ≤ z7766.toInt ∧ z7766.toInt ≤ 31 := by rw [e7767]; exact hI.2 37 _ _ rfl _
            have tzz7766 : z7766.toInt = (F_lp7751 37 (10 : Int32).toNatClampNeg).toInt := congrArg Int32.toInt e7767
            refine lv_iconst (v := 1) hx hb dX12_readLine_154 (by decide) ?_
            refine lv_iadd hx hb dX12_readLine_155 ?_
            refine lv_topi (fun z7769 e7770 => ?_)
            try (have t7771 := tadd e7770 (a := z7766.toInt) rfl (b := 1) (by decide) (by omega))
            refine va_iast hx hb hK hP (DM hg) hS 37 36 rfl rfl (i := 10) (x := z7769) (vin (a := 10) (by decide) (by omega)) dX12_readLine_156 (fun H locs hP _ hS => ?_)
            have hP := va_P_eq (sM_37 g c _ _ _ _) hP
            have hI := IM.store hI 37 (10 : Int32).toNatClampNeg z7769 rfl (by omega)
            have hF := frUF (k := 37) (f := upd (F_lp7751 37) (10 : Int32).toNatClampNeg z7769) (by decide) hF
            have st7773 : (va_up F_lp7751 37 (upd (F_lp7751 37) (10 : Int32).toNatClampNeg z7769)) 37 = upd (F_lp7751 37) (10 : Int32).toNatClampNeg z7769 := va_up_self _ _ _
            have sn7774 : ∀ k9, k9 ≠ 37 → (va_up F_lp7751 37 (upd (F_lp7751 37) (10 : Int32).toNatClampNeg z7769)) k9 = F_lp7751 k9 := fun k9 h9 => va_up_ne _ _ h9
            have hP : va_P (dC, dI) classes (wM g c (va_up v_lp7751 39 z7763) (va_up F_lp7751 37 (upd (F_lp7751 37) (10 : Int32).toNatClampNeg z7769)) rc) H := hP
            generalize (va_up F_lp7751 37 (upd (F_lp7751 37) (10 : Int32).toNatClampNeg z7769)) = F7772 at hP hI hF st7773 sn7774
            have hP9 : va_P (dC, dI) classes (wM g c (va_up v_lp7751 39 z7763) F7772 rc) H := hP
            exact W.vret hx hb hr (fun t ht hW => ⟨⟨((va_up v_lp7751 39 z7763), F7772, rc), rfl, ⟨hI, rfl, (frU (by decide) (frC (by decide) hf_lp7751 (frU (by decide) (fun _ _ => rfl)))), hF, (by show 4 * (F7772 37 (10 : Int32).toNatClampNeg).toInt ≤ z7763.toInt ∧ z7763.toInt ≤ (v 30).toInt ∧ (v 39).toInt ≤ z7763.toInt ∧ ((v_lp7751 40).toInt < 0 → (v 39).toInt < z7763.toInt); have b9 := t7754; have l9 : (F7772 37 (10 : Int32).toNatClampNeg).toInt = (z7769 : Int32).toInt := congrArg Int32.toInt ((congrFun st7773 _).trans (mu_at _ _ _)); omega)⟩, (by show va_P _ _ _ t.heap; rw [ht]; exact hP9)⟩, hS.F ht⟩) hS.2.2 dX12_readLine_157
          · skip
            have t7775 := cv_ne (a := r7759.toInt) rfl (b := 59) (by decide) c7760
            refine lv_aload_n hx hb dX12_readLine_132 rfl (lv_at hl 4 rfl) ?_
            refine va_callv (va_runV (As := []) (rest := []) ⟨hx, hb, hml, hown, hwd⟩ (c_X12_wrong l dC dI g c adK adV v_lp7751 F_lp7751 rc H.size  hg hI ) (cwV 0 hwd (gV wk_1029 wk_1026 wk_1027 wk_1028 wk_5) rfl rfl rfl (by decide +kernel) ⟨Nat.le_of_ble_eq_true rfl, Nat.le_of_ble_eq_true rfl⟩) ⟨PM.blind, va_recv hK hP (ci := 12) (q0 := 0) rfl rfl, fun U hU hW => ⟨rfl, PM.at hK hE hP hS hU hW⟩⟩ rfl rfl hl.1 rfl (lv_room (Nat.le_of_ble_eq_true rfl)) dX12_readLine_133 ⟨Nat.le_of_ble_eq_true rfl, Nat.le_of_ble_eq_true rfl⟩) hS (fun q _ h => (freeM hS) q h) (freeM hS) (fun u t H1 locs ht hvm hw hB hz1 hk1 hS => ?_)
            unfold BM at hB
            rw [ht] at hB
            obtain ⟨v7777, F7778, rc9⟩ := u
            obtain ⟨hI, hrc, hf7779, hG7780, hw⟩ := hw
            dsimp only at hI hrc hB hf7779 hG7780 hw
            have hF := frCF (by decide) hG7780 hF
            rw [hrc] at hB
            have hP : va_P (dC, dI) classes (wM g c v7777 F7778 rc) H1 := hB
            replace hw : 0 ≤ (v7777 40).toInt := hw
            have hw_r7776 := hw
            clear hw
            clear hz1
            generalize H1 = H at hP hS ⊢
            have hP9 : va_P (dC, dI) classes (wM g c v7777 F7778 rc) H := hP
            exact W.vret hx hb hr (fun t ht hW => ⟨⟨(v7777, F7778, rc), rfl, ⟨hI, rfl, (frC (by decide) hf7779 (frC (by decide) hf_lp7751 (frU (by decide) (fun _ _ => rfl)))), hF, (by show 4 * (F7778 37 (10 : Int32).toNatClampNeg).toInt ≤ (v7777 39).toInt ∧ (v7777 39).toInt ≤ (v 30).toInt ∧ (v 39).toInt ≤ (v7777 39).toInt ∧ ((v7777 40).toInt < 0 → (v 39).toInt < (v7777 39).toInt); rw [show v7777 39 = v_lp7751 39 from hf7779 39 (by decide)]; have b9 := t7754; have l9 : (F7778 37 (10 : Int32).toNatClampNeg).toInt = (F_lp7751 37 (10 : Int32).toNatClampNeg).toInt := congrArg Int32.toInt (congrFun (hG7780 37 (by decide)) _); omega)⟩, (by show va_P _ _ _ t.heap; rw [ht]; exact hP9)⟩, hS.F ht⟩) hS.2.2 dX12_readLine_136
        · skip
          have t7781 := cv_nle (a := r7735.toInt) rfl (b := x5_lp7751.toInt) rfl c7755
          refine lv_aload_n hx hb dX12_readLine_59 rfl (lv_at hl 4 rfl) ?_
          have t7782 : 0 ≤ (v 30).toInt ∧ (v 30).toInt ≤ 120 := by have h9 := hI.1 30 _ _ rfl; rw [show v_lp7751 30 = v 30 from hf_lp7751 30 (by decide)] at h9; exact h9
          have t7783 : 0 ≤ (v_lp7751 39).toInt ∧ (v_lp7751 39).toInt ≤ 120 := hI.1 39 _ _ rfl
          refine va_calli (va_runV (As := []) (rest := []) ⟨hx, hb, hml, hown, hwd⟩ (c_X12_takesNumber l dC dI g c adK adV v_lp7751 F_lp7751 rc H.size  hg hI (by have h9 : v_lp7751 39 = v_lp7751 39 := rfl; (try rw [h9]); clear h9; have h9 : v_lp7751 30 = v 30 := hf_lp7751 30 (by decide); (try rw [h9]); clear h9; omega)) (cwV 0 hwd (gV wk_1138 wk_1135 wk_1136 wk_1137 wk_5) rfl rfl rfl (by decide +kernel) ⟨Nat.le_of_ble_eq_true rfl, Nat.le_of_ble_eq_true rfl⟩) ⟨PM.blind, va_recv hK hP (ci := 12) (q0 := 0) rfl rfl, fun U hU hW => ⟨rfl, PM.at hK hE hP hS hU hW⟩⟩ rfl rfl hl.1 rfl (lv_room (Nat.le_of_ble_eq_true rfl)) dX12_readLine_60 ⟨Nat.le_of_ble_eq_true rfl, Nat.le_of_ble_eq_true rfl⟩) hS (fun q _ h => (freeM hS) q h) (freeM hS) (fun r7784 u t H1 locs ht hvm hw hB hz1 hk1 hS => ?_)
          unfold BM at hB
          rw [ht] at hB
          obtain ⟨v7785, F7786, rc9⟩ := u
          obtain ⟨hI, hrc, hf7787, hG7788, hw⟩ := hw
          dsimp only at hI hrc hB hf7787 hG7788 hw
          have hF := frCF (by decide) hG7788 hF
          rw [hrc] at hB
          have hP : va_P (dC, dI) classes (wM g c v7785 F7786 rc) H1 := hB
          replace hw : (r7784.toInt = 1 ∧ (v_lp7751 39).toInt + 2 ≤ (v7785 39).toInt ∧ (v7785 39).toInt ≤ (v_lp7751 30).toInt ∧ (v7785 40).toInt = (v_lp7751 40).toInt) ∨ (r7784.toInt = 0 ∧ 0 ≤ (v7785 40).toInt ∧ (v_lp7751 39).toInt ≤ (v7785 39).toInt ∧ (v7785 39).toInt ≤ (v_lp7751 30).toInt) := hw
          rw [show v_lp7751 30 = v 30 from hf_lp7751 30 (by decide)] at hw
          have hw_r7784 := hw
          clear hw
          have t7789 : 0 ≤ (v7785 39).toInt ∧ (v7785 39).toInt ≤ 120 := hI.1 39 _ _ rfl
          clear hz1
          generalize H1 = H at hP hS ⊢
          refine lv_if_ne (tgt := 67) hx hb dX12_readLine_63 (by decide) (fun c7790 => ?_) (fun c7790 => ?_)
          · skip
            have t7791 := cv_ne (a := r7784.toInt) rfl (b := 0) (by decide) c7790
            refine lv_iload hx hb dX12_readLine_67 (lv_at hl 0 rfl) ?_
            refine lv_if_ne (tgt := 86) hx hb dX12_readLine_69 (by decide) (fun c7792 => ?_) (fun c7792 => ?_)
            · skip
              have t7793 := cv_ne (a := x5_lp7751.toInt) rfl (b := 0) (by decide) c7792
              refine lv_iload hx hb dX12_readLine_86 (lv_at hl 0 rfl) ?_
              refine lv_iconst (v := 1) hx hb dX12_readLine_88 (by decide) ?_
              refine lv_icmp_ne (tgt := 106) hx hb dX12_readLine_89 (by decide) (fun c7794 => ?_) (fun c7794 => ?_)
              · skip
                have t7795 := cv_ne (a := x5_lp7751.toInt) rfl (b := 1) (by decide) c7794
                refine lv_aload_n hx hb dX12_readLine_106 rfl (lv_at hl 4 rfl) ?_
                refine va_get (D := (dC, dI)) (ci := 12) (v := .ref (g 41)) (C := RX12) (T := TX12) (N := 63) hx hb hwd inA_X12 hown hK hP 0 rfl rfl 55 (by decide) (hwd _ wk_223) (fun _ h9 => h9) rfl dX12_readLine_107 ?_
                refine lv_iload hx hb dX12_readLine_110 (lv_at hl 1 rfl) ?_
                refine lv_aload_n hx hb dX12_readLine_112 rfl (lv_at hl 4 rfl) ?_
                refine va_get (D := (dC, dI)) (ci := 12) (v := .int (v7785 42)) (C := RX12) (T := TX12) (N := 63) hx hb hwd inA_X12 hown hK hP 0 rfl rfl 42 (by decide) (hwd _ wk_1031) (fun _ h9 => h9) rfl dX12_readLine_113 ?_
                refine va_iast hx hb hK hP (DM hg) hS 41 40 rfl rfl (i := z7745) (x := (v7785 42)) (vin (a := z7745.toInt) rfl (by omega)) dX12_readLine_116 (fun H locs hP _ hS => ?_)
                have hP := va_P_eq (sM_41 g c _ _ _ _) hP
                have hI := IM.store0 hI 41 (z7745 : Int32).toNatClampNeg (v7785 42) rfl
                have hF := frUF (k := 41) (f := upd (F7786 41) (z7745 : Int32).toNatClampNeg (v7785 42)) (by decide) hF
                have st7797 : (va_up F7786 41 (upd (F7786 41) (z7745 : Int32).toNatClampNeg (v7785 42))) 41 = upd (F7786 41) (z7745 : Int32).toNatClampNeg (v7785 42) := va_up_self _ _ _
                have sn7798 : ∀ k9, k9 ≠ 41 → (va_up F7786 41 (upd (F7786 41) (z7745 : Int32).toNatClampNeg (v7785 42))) k9 = F7786 k9 := fun k9 h9 => va_up_ne _ _ h9
                have hP : va_P (dC, dI) classes (wM g c v7785 (va_up F7786 41 (upd (F7786 41) (z7745 : Int32).toNatClampNeg (v7785 42))) rc) H := hP
                generalize (va_up F7786 41 (upd (F7786 41) (z7745 : Int32).toNatClampNeg (v7785 42))) = F7796 at hP hI hF st7797 sn7798
                obtain ⟨z7799, e7800⟩ : ∃ y : Int32, y = x5_lp7751 + 1 := ⟨_, rfl⟩
                try (have t7801 := tadd e7800 rfl (b := 1) (by decide) (by omega))
                refine lv_iinc (v := z7799) (lv' := [(5, .int z7799), (4, .int z7745), (3, .int r7735), (2, .int r7734), (0, .ref (g 0)), (1, .int 10)]) hx hb dX12_readLine_117 hl (k := 0) rfl (by rw [e7800]; rfl) (by decide) rfl (fun ls hl => ?_)
                refine lv_goto (tgt := 53) hx hb dX12_readLine_120 (by decide) ?_
                exact ih_lp7751 z7799 v7785 F7796 _ _ _ (by omega) (by have h9 : v7785 39 = v7785 39 := rfl; (try rw [h9]); clear h9; omega) ((congrArg Int32.toInt (congrFun ((sn7798 37 (by decide)).trans (hG7788 37 (by decide))) _)).trans t7754) (by omega) (frC (by decide) hf7787 hf_lp7751) hI hF hP hS (lv_sub hl [0, 1, 2, 3, 4, 5] rfl)
              · skip
                have t7802 := cv_eq (a := x5_lp7751.toInt) rfl (b := 1) (by decide) c7794
                refine lv_aload_n hx hb dX12_readLine_92 rfl (lv_at hl 4 rfl) ?_
                refine va_get (D := (dC, dI)) (ci := 12) (v := .ref (g 40)) (C := RX12) (T := TX12) (N := 63) hx hb hwd inA_X12 hown hK hP 0 rfl rfl 54 (by decide) (hwd _ wk_222) (fun _ h9 => h9) rfl dX12_readLine_93 ?_
                refine lv_iload hx hb dX12_readLine_96 (lv_at hl 1 rfl) ?_
                refine lv_aload_n hx hb dX12_readLine_98 rfl (lv_at hl 4 rfl) ?_
                refine va_get (D := (dC, dI)) (ci := 12) (v := .int (v7785 42)) (C := RX12) (T := TX12) (N := 63) hx hb hwd inA_X12 hown hK hP 0 rfl rfl 42 (by decide) (hwd _ wk_1031) (fun _ h9 => h9) rfl dX12_readLine_99 ?_
                refine va_iast hx hb hK hP (DM hg) hS 40 39 rfl rfl (i := z7745) (x := (v7785 42)) (vin (a := z7745.toInt) rfl (by omega)) dX12_readLine_102 (fun H locs hP _ hS => ?_)
                have hP := va_P_eq (sM_40 g c _ _ _ _) hP
                have hI := IM.store0 hI 40 (z7745 : Int32).toNatClampNeg (v7785 42) rfl
                have hF := frUF (k := 40) (f := upd (F7786 40) (z7745 : Int32).toNatClampNeg (v7785 42)) (by decide) hF
                have st7804 : (va_up F7786 40 (upd (F7786 40) (z7745 : Int32).toNatClampNeg (v7785 42))) 40 = upd (F7786 40) (z7745 : Int32).toNatClampNeg (v7785 42) := va_up_self _ _ _
                have sn7805 : ∀ k9, k9 ≠ 40 → (va_up F7786 40 (upd (F7786 40) (z7745 : Int32).toNatClampNeg (v7785 42))) k9 = F7786 k9 := fun k9 h9 => va_up_ne _ _ h9
                have hP : va_P (dC, dI) classes (wM g c v7785 (va_up F7786 40 (upd (F7786 40) (z7745 : Int32).toNatClampNeg (v7785 42))) rc) H := hP
                generalize (va_up F7786 40 (upd (F7786 40) (z7745 : Int32).toNatClampNeg (v7785 42))) = F7803 at hP hI hF st7804 sn7805
                refine lv_goto (tgt := 117) hx hb dX12_readLine_103 (by decide) ?_
                obtain ⟨z7806, e7807⟩ : ∃ y : Int32, y = x5_lp7751 + 1 := ⟨_, rfl⟩
                try (have t7808 := tadd e7807 rfl (b := 1) (by decide) (by omega))
                refine lv_iinc (v := z7806) (lv' := [(5, .int z7806), (4, .int z7745), (3, .int r7735), (2, .int r7734), (0, .ref (g 0)), (1, .int 10)]) hx hb dX12_readLine_117 hl (k := 0) rfl (by rw [e7807]; rfl) (by decide) rfl (fun ls hl => ?_)
                refine lv_goto (tgt := 53) hx hb dX12_readLine_120 (by decide) ?_
                exact ih_lp7751 z7806 v7785 F7803 _ _ _ (by omega) (by have h9 : v7785 39 = v7785 39 := rfl; (try rw [h9]); clear h9; omega) ((congrArg Int32.toInt (congrFun ((sn7805 37 (by decide)).trans (hG7788 37 (by decide))) _)).trans t7754) (by omega) (frC (by decide) hf7787 hf_lp7751) hI hF hP hS (lv_sub hl [0, 1, 2, 3, 4, 5] rfl)
            · skip
              have t7809 := cv_eq (a := x5_lp7751.toInt) rfl (b := 0) (by decide) c7792
              refine lv_aload_n hx hb dX12_readLine_72 rfl (lv_at hl 4 rfl) ?_
              refine va_get (D := (dC, dI)) (ci := 12) (v := .ref (g 39)) (C := RX12) (T := TX12) (N := 63) hx hb hwd inA_X12 hown hK hP 0 rfl rfl 53 (by decide) (hwd _ wk_221) (fun _ h9 => h9) rfl dX12_readLine_73 ?_
              refine lv_iload hx hb dX12_readLine_76 (lv_at hl 1 rfl) ?_
              refine lv_aload_n hx hb dX12_readLine_78 rfl (lv_at hl 4 rfl) ?_
              refine va_get (D := (dC, dI)) (ci := 12) (v := .int (v7785 42)) (C := RX12) (T := TX12) (N := 63) hx hb hwd inA_X12 hown hK hP 0 rfl rfl 42 (by decide) (hwd _ wk_1031) (fun _ h9 => h9) rfl dX12_readLine_79 ?_
              refine va_iast hx hb hK hP (DM hg) hS 39 38 rfl rfl (i := z7745) (x := (v7785 42)) (vin (a := z7745.toInt) rfl (by omega)) dX12_readLine_82 (fun H locs hP _ hS => ?_)
              have hP := va_P_eq (sM_39 g c _ _ _ _) hP
              have hI := IM.store0 hI 39 (z7745 : Int32).toNatClampNeg (v7785 42) rfl
              have hF := frUF (k := 39) (f := upd (F7786 39) (z7745 : Int32).toNatClampNeg (v7785 42)) (by decide) hF
              have st7811 : (va_up F7786 39 (upd (F7786 39) (z7745 : Int32).toNatClampNeg (v7785 42))) 39 = upd (F7786 39) (z7745 : Int32).toNatClampNeg (v7785 42) := va_up_self _ _ _
              have sn7812 : ∀ k9, k9 ≠ 39 → (va_up F7786 39 (upd (F7786 39) (z7745 : Int32).toNatClampNeg (v7785 42))) k9 = F7786 k9 := fun k9 h9 => va_up_ne _ _ h9
              have hP : va_P (dC, dI) classes (wM g c v7785 (va_up F7786 39 (upd (F7786 39) (z7745 : Int32).toNatClampNeg (v7785 42))) rc) H := hP
              generalize (va_up F7786 39 (upd (F7786 39) (z7745 : Int32).toNatClampNeg (v7785 42))) = F7810 at hP hI hF st7811 sn7812
              refine lv_goto (tgt := 117) hx hb dX12_readLine_83 (by decide) ?_
              obtain ⟨z7813, e7814⟩ : ∃ y : Int32, y = x5_lp7751 + 1 := ⟨_, rfl⟩
              try (have t7815 := tadd e7814 rfl (b := 1) (by decide) (by omega))
              refine lv_iinc (v := z7813) (lv' := [(5, .int z7813), (4, .int z7745), (3, .int r7735), (2, .int r7734), (0, .ref (g 0)), (1, .int 10)]) hx hb dX12_readLine_117 hl (k := 0) rfl (by rw [e7814]; rfl) (by decide) rfl (fun ls hl => ?_)
              refine lv_goto (tgt := 53) hx hb dX12_readLine_120 (by decide) ?_
              exact ih_lp7751 z7813 v7785 F7810 _ _ _ (by omega) (by have h9 : v7785 39 = v7785 39 := rfl; (try rw [h9]); clear h9; omega) ((congrArg Int32.toInt (congrFun ((sn7812 37 (by decide)).trans (hG7788 37 (by decide))) _)).trans t7754) (by omega) (frC (by decide) hf7787 hf_lp7751) hI hF hP hS (lv_sub hl [0, 1, 2, 3, 4, 5] rfl)
          · skip
            have t7816 := cv_eq (a := r7784.toInt) rfl (b := 0) (by decide) c7790
            have hP9 : va_P (dC, dI) classes (wM g c v7785 F7786 rc) H := hP
            exact W.vret hx hb hr (fun t ht hW => ⟨⟨(v7785, F7786, rc), rfl, ⟨hI, rfl, (frC (by decide) hf7787 (frC (by decide) hf_lp7751 (frU (by decide) (fun _ _ => rfl)))), hF, (by show 4 * (F7786 37 (10 : Int32).toNatClampNeg).toInt ≤ (v7785 39).toInt ∧ (v7785 39).toInt ≤ (v 30).toInt ∧ (v 39).toInt ≤ (v7785 39).toInt ∧ ((v7785 40).toInt < 0 → (v 39).toInt < (v7785 39).toInt); have b9 := t7754; have l9 : (F7786 37 (10 : Int32).toNatClampNeg).toInt = (F_lp7751 37 (10 : Int32).toNatClampNeg).toInt := congrArg Int32.toInt (congrFun (hG7788 37 (by decide)) _); omega)⟩, (by show va_P _ _ _ t.heap; rw [ht]; exact hP9)⟩, hS.F ht⟩) hS.2.2 dX12_readLine_66
    obtain ⟨n9, hn9⟩ : ∃ n : Nat, 2147483648 - 0 ≤ (n : Int) := ⟨((2147483648 - 0 : Int)).toNat, by omega⟩
    exact lp7751 n9 0 (va_up v 39 z7739) F7748 H _ ls (by have : (0 : Int32).toInt = 0 := (by decide); omega) (by have h9 : (va_up v 39 z7739) 39 = z7739 := rfl; (try rw [h9]); clear h9; have : (0 : Int32).toInt = 0 := (by decide); omega) (congrArg Int32.toInt (congrFun (sn7750 37 (by decide)) _)) (by have : (0 : Int32).toInt = 0 := (by decide); omega) (fun _ _ => rfl) hI hF hP hS hl
  · skip
    have t7817 := cv_eq (a := r7735.toInt) rfl (b := 0) (by decide) c7736
    refine lv_aload_n hx hb dX12_readLine_14 rfl (lv_at hl 2 rfl) ?_
    refine va_callv (va_runV (As := []) (rest := []) ⟨hx, hb, hml, hown, hwd⟩ (c_X12_wrong l dC dI g c adK adV v F rc H.size  hg hI ) (cwV 0 hwd (gV wk_1029 wk_1026 wk_1027 wk_1028 wk_5) rfl rfl rfl (by decide +kernel) ⟨Nat.le_of_ble_eq_true rfl, Nat.le_of_ble_eq_true rfl⟩) ⟨PM.blind, va_recv hK hP (ci := 12) (q0 := 0) rfl rfl, fun U hU hW => ⟨rfl, PM.at hK hE hP hS hU hW⟩⟩ rfl rfl hl.1 rfl (lv_room (Nat.le_of_ble_eq_true rfl)) dX12_readLine_15 ⟨Nat.le_of_ble_eq_true rfl, Nat.le_of_ble_eq_true rfl⟩) hS (fun q _ h => (freeM hS) q h) (freeM hS) (fun u t H1 locs ht hvm hw hB hz1 hk1 hS => ?_)
    unfold BM at hB
    rw [ht] at hB
    obtain ⟨v7819, F7820, rc9⟩ := u
    obtain ⟨hI, hrc, hf7821, hG7822, hw⟩ := hw
    dsimp only at hI hrc hB hf7821 hG7822 hw
    have hF := frCF (by decide) hG7822 hF
    rw [hrc] at hB
    have hP : va_P (dC, dI) classes (wM g c v7819 F7820 rc) H1 := hB
    replace hw : 0 ≤ (v7819 40).toInt := hw
    have hw_r7818 := hw
    clear hw
    clear hz1
    generalize H1 = H at hP hS ⊢
    have hP9 : va_P (dC, dI) classes (wM g c v7819 F7820 rc) H := hP
    exact W.vret hx hb hr (fun t ht hW => ⟨⟨(v7819, F7820, rc), rfl, ⟨hI, rfl, (frC (by decide) hf7821 (fun _ _ => rfl)), hF, (by show 4 * (F7820 37 (10 : Int32).toNatClampNeg).toInt ≤ (v7819 39).toInt ∧ (v7819 39).toInt ≤ (v 30).toInt ∧ (v 39).toInt ≤ (v7819 39).toInt ∧ ((v7819 40).toInt < 0 → (v 39).toInt < (v7819 39).toInt); rw [show v7819 39 = v 39 from hf7821 39 (by decide)]; have l9 : (F7820 37 (10 : Int32).toNatClampNeg).toInt = (F 37 (10 : Int32).toNatClampNeg).toInt := congrArg Int32.toInt (congrFun (hG7822 37 (by decide)) _); omega)⟩, (by show va_P _ _ _ t.heap; rw [ht]; exact hP9)⟩, hS.F ht⟩) hS.2.2 dX12_readLine_18
set_option maxHeartbeats 8000000 in
set_option maxRecDepth 100000 in
theorem c_X12_contract (l : Launch) (dC : Nat → ClassId) (dI : Nat → Nat → Nat) (g : Nat → Nat) (c : Nat → ClassId) (adK adV : Nat → Nat) (v : Nat → Int32) (F : Nat → Nat → Int32) (rc sz : Nat) (p0 : Int32) (p1 : Int32) (p2 : Int32) (hg : injM g) (hI : IM v F) : Met l yX12_contract (Cond.code yX12_contract cX12_contract 5 (some .int) :: wA) ({ frames := 5, cells := 0, slots := 0, locals := 200 }) (va_Pc [.ref (g 0), .int p0, .int p1, .int p2] (PM dC dI g c adK adV v F rc sz)) (va_Qi (fun (r : Int32) (u : StM) => IM u.1 u.2.1 ∧ u.2.2 = rc ∧ (∀ k, k ∉ ([30, 39, 40, 42] : List Nat) → u.1 k = v k) ∧ (∀ k, k ∉ ([35, 36, 37, 38, 39, 40, 41] : List Nat) → u.2.1 k = F k) ∧ True) (BM dC dI g c) (AM g sz)) 0 0 (AM g sz) := by
  refine Met.ofW (cc := cX12_contract) (maxL := 5) (ret := (some .int)) (by decide) rfl ?_
  intro p e s m args below meth c0 s₁ B hml hv
  obtain ⟨rfl, hsz, hP, hK, hE⟩ := hv
  have hx := B.exec
  have hb := B.bytes
  have hr := B.returns
  have hts := atoms_spec (ws := Cond.code yX12_contract cX12_contract 5 (some .int) :: wA) B.pre
  have hwd : ∀ w ∈ wA, w.before _ s = true := fun w h => hts w (List.mem_cons_of_mem _ h)
  have hown : s.vm.findClass RX12 = some m.cls := findClass_of_methodNamed B.named
  have hlocks := B.notSynchronized
  subst hsz
  have hl := lv_entry ([.ref (g 0), .int p0, .int p1, .int p2]) (n := 5) (Nat.le_of_ble_eq_true rfl)
  rw [lg_entry_eq]
  generalize (lg_sl ([.ref (g 0), .int p0, .int p1, .int p2]) ++ List.replicate (5 - (lg_sl ([.ref (g 0), .int p0, .int p1, .int p2])).length) Slot.unset).toArray = ls at hl ⊢
  have hl : lv_has ls 5 [(0, .ref (g 0)), (1, .int p0), (2, .int p1), (3, .int p2)] := hl
  obtain ⟨H, eH⟩ : ∃ z, z = s.heap := ⟨_, rfl⟩
  have hP : va_P (dC, dI) classes (wM g c v F rc) H := by rw [eH]; exact hP
  have hS : va_S (AM g s.heap.size) s.heap H [] := by rw [eH]; exact va_S.rf
  refine my_heap eH ?_
  have hF : ∀ k, k ∉ ([35, 36, 37, 38, 39, 40, 41] : List Nat) → F k = F k := fun _ _ => rfl
  have rp0 := i32_rng p0
  have rp1 := i32_rng p1
  have rp2 := i32_rng p2
  refine lv_aload_n hx hb dX12_contract_0 rfl (lv_at hl 0 rfl) ?_
  refine lv_iload_n hx hb dX12_contract_1 rfl (lv_at hl 1 rfl) ?_
  have t8048 : 0 ≤ (v 6).toInt ∧ (v 6).toInt ≤ 10 := hI.1 6 _ _ rfl
  refine va_calli (va_runV (As := [.int p0]) (rest := []) ⟨hx, hb, hml, hown, hwd⟩ (c_X12_isPlane l dC dI g c adK adV v F rc H.size p0 hg hI ) (cwV 1 hwd (gV wk_305 wk_302 wk_303 wk_304 wk_5) rfl rfl rfl (by decide +kernel) ⟨Nat.le_of_ble_eq_true rfl, Nat.le_of_ble_eq_true rfl⟩) ⟨PM.blind, va_recv hK hP (ci := 12) (q0 := 0) rfl rfl, fun U hU hW => ⟨rfl, PM.at hK hE hP hS hU hW⟩⟩ rfl rfl hl.1 rfl (lv_room (Nat.le_of_ble_eq_true rfl)) dX12_contract_2 ⟨Nat.le_of_ble_eq_true rfl, Nat.le_of_ble_eq_true rfl⟩) hS (fun q _ h => (freeM hS) q h) (freeM hS) (fun r8049 u t H1 locs ht hvm hw hB hz1 hk1 hS => ?_)
  unfold BM at hB
  rw [ht] at hB
  have hP : va_P (dC, dI) classes (wM g c v F rc) H1 := hB
  replace hw : (r8049.toInt = 1 ∧ 0 ≤ p0.toInt ∧ p0.toInt < (v 6).toInt) ∨ (r8049.toInt = 0 ∧ (p0.toInt < 0 ∨ (v 6).toInt ≤ p0.toInt)) := hw
  have hw_r8049 := hw
  clear hw
  clear hz1
  generalize H1 = H at hP hS ⊢
  refine lv_if_eq (tgt := 25) hx hb dX12_contract_5 (by decide) (fun c8050 => ?_) (fun c8050 => ?_)
  · skip
    have t8051 := cv_eq (a := r8049.toInt) rfl (b := 0) (by decide) c8050
    refine lv_iconst (v := (-1)) hx hb dX12_contract_25 (by decide) ?_
    have hP9 : va_P (dC, dI) classes (wM g c v F rc) H := hP
    exact W.iret (v := (-1)) hx hb hr (fun t ht hW => ⟨⟨(-1), (v, F, rc), rfl, ⟨hI, rfl, (fun _ _ => rfl), hF, trivial⟩, (by show va_P _ _ _ t.heap; rw [ht]; exact hP9)⟩, hS.F ht⟩) hS.2.2 dX12_contract_26
  · skip
    have t8052 := cv_ne (a := r8049.toInt) rfl (b := 0) (by decide) c8050
    refine lv_iload_n hx hb dX12_contract_8 rfl (lv_at hl 2 rfl) ?_
    refine va_calli (va_runS (As := [.int p1]) (rest := []) ⟨hx, hb, hml, hown, hwd⟩ (c_X12_isDay l dC dI g c adK adV v F rc H.size p1 hg hI ) (va_cwS 1 hwd (gT wk_556 wk_554 wk_555 wk_5) rfl rfl rfl (by decide +kernel) ⟨Nat.le_of_ble_eq_true rfl, Nat.le_of_ble_eq_true rfl⟩) ⟨PM.blind, fun U hU hW => ⟨rfl, PM.at hK hE hP hS hU hW⟩⟩ rfl rfl hl.1 rfl (lv_room (Nat.le_of_ble_eq_true rfl)) dX12_contract_9 ⟨Nat.le_of_ble_eq_true rfl, Nat.le_of_ble_eq_true rfl⟩) hS (fun q _ h => (freeM hS) q h) (freeM hS) (fun r8053 u t H1 locs ht hvm hw hB hz1 hk1 hS => ?_)
    unfold BM at hB
    rw [ht] at hB
    have hP : va_P (dC, dI) classes (wM g c v F rc) H1 := hB
    have hw_r8053 : (r8053.toInt = 1 ∧ 0 ≤ p1.toInt ∧ p1.toInt ≤ 9999) ∨ (r8053.toInt = 0 ∧ (p1.toInt < 0 ∨ 9999 < p1.toInt)) := hw
    clear hw
    clear hz1
    generalize H1 = H at hP hS ⊢
    refine lv_if_eq (tgt := 25) hx hb dX12_contract_12 (by decide) (fun c8054 => ?_) (fun c8054 => ?_)
    · skip
      have t8055 := cv_eq (a := r8053.toInt) rfl (b := 0) (by decide) c8054
      refine lv_iconst (v := (-1)) hx hb dX12_contract_25 (by decide) ?_
      have hP9 : va_P (dC, dI) classes (wM g c v F rc) H := hP
      exact W.iret (v := (-1)) hx hb hr (fun t ht hW => ⟨⟨(-1), (v, F, rc), rfl, ⟨hI, rfl, (fun _ _ => rfl), hF, trivial⟩, (by show va_P _ _ _ t.heap; rw [ht]; exact hP9)⟩, hS.F ht⟩) hS.2.2 dX12_contract_26
    · skip
      have t8056 := cv_ne (a := r8053.toInt) rfl (b := 0) (by decide) c8054
      refine lv_iload_n hx hb dX12_contract_15 rfl (lv_at hl 3 rfl) ?_
      refine lv_iconst (v := 0) hx hb dX12_contract_16 (by decide) ?_
      refine lv_ldc (v := 99999) hx hb hown (hwd _ wk_249) dX12_contract_17 ?_
      refine va_calli (va_runS (As := [.int p2, .int 0, .int 99999]) (rest := []) ⟨hx, hb, hml, hown, hwd⟩ (c_X12_in l dC dI g c adK adV v F rc H.size p2 0 99999 hg hI ) (va_cwS 3 hwd (gT wk_254 wk_252 wk_253 wk_5) rfl rfl rfl (by decide +kernel) ⟨Nat.le_of_ble_eq_true rfl, Nat.le_of_ble_eq_true rfl⟩) ⟨PM.blind, fun U hU hW => ⟨rfl, PM.at hK hE hP hS hU hW⟩⟩ rfl rfl hl.1 rfl (lv_room (Nat.le_of_ble_eq_true rfl)) dX12_contract_19 ⟨Nat.le_of_ble_eq_true rfl, Nat.le_of_ble_eq_true rfl⟩) hS (fun q _ h => (freeM hS) q h) (freeM hS) (fun r8057 u t H1 locs ht hvm hw hB hz1 hk1 hS => ?_)
      unfold BM at hB
      rw [ht] at hB
      have hP : va_P (dC, dI) classes (wM g c v F rc) H1 := hB
      have hw_r8057 : (r8057.toInt = 1 ∧ (0 : Int32).toInt ≤ p2.toInt ∧ p2.toInt ≤ (99999 : Int32).toInt) ∨ (r8057.toInt = 0 ∧ (p2.toInt < (0 : Int32).toInt ∨ (99999 : Int32).toInt < p2.toInt)) := hw
      clear hw
      have k8058 : (0 : Int32).toInt = 0 := by decide
      have k8059 : (99999 : Int32).toInt = 99999 := by decide
      clear hz1
      generalize H1 = H at hP hS ⊢
      refine lv_if_ne (tgt := 27) hx hb dX12_contract_22 (by decide) (fun c8060 => ?_) (fun c8060 => ?_)
      · skip
        have t8061 := cv_ne (a := r8057.toInt) rfl (b := 0) (by decide) c8060
        refine lv_aload_n hx hb dX12_contract_27 rfl (lv_at hl 0 rfl) ?_
        refine lv_iload_n hx hb dX12_contract_28 rfl (lv_at hl 1 rfl) ?_
        refine va_calli (va_runV (As := [.int p0]) (rest := []) ⟨hx, hb, hml, hown, hwd⟩ (c_X12_isReturned l dC dI g c adK adV v F rc H.size p0 hg hI (by omega)) (cwV 1 hwd (gV wk_313 wk_310 wk_311 wk_312 wk_5) rfl rfl rfl (by decide +kernel) ⟨Nat.le_of_ble_eq_true rfl, Nat.le_of_ble_eq_true rfl⟩) ⟨PM.blind, va_recv hK hP (ci := 12) (q0 := 0) rfl rfl, fun U hU hW => ⟨rfl, PM.at hK hE hP hS hU hW⟩⟩ rfl rfl hl.1 rfl (lv_room (Nat.le_of_ble_eq_true rfl)) dX12_contract_29 ⟨Nat.le_of_ble_eq_true rfl, Nat.le_of_ble_eq_true rfl⟩) hS (fun q _ h => (freeM hS) q h) (freeM hS) (fun r8062 u t H1 locs ht hvm hw hB hz1 hk1 hS => ?_)
        unfold BM at hB
        rw [ht] at hB
        have hP : va_P (dC, dI) classes (wM g c v F rc) H1 := hB
        have hw_r8062 : 0 ≤ r8062.toInt ∧ r8062.toInt ≤ 1 := hw
        clear hw
        clear hz1
        generalize H1 = H at hP hS ⊢
        refine lv_if_eq (tgt := 38) hx hb dX12_contract_32 (by decide) (fun c8063 => ?_) (fun c8063 => ?_)
        · skip
          have t8064 := cv_eq (a := r8062.toInt) rfl (b := 0) (by decide) c8063
          refine lv_aload_n hx hb dX12_contract_38 rfl (lv_at hl 0 rfl) ?_
          refine lv_iconst (v := 0) hx hb dX12_contract_39 (by decide) ?_
          refine va_put (D := (dC, dI)) (ci := 12) (v := .int 0) (ty := .int) (C := RX12) (T := TX12) (N := 63) (fs := fsM_0 g v rc) hx hb hwd inA_X12 tyX12 tyX12_ok nmX12 hown hK hP (DM hg) hS 0 rfl rfl 39 (by decide) (hwd _ wk_1004) (fun _ h9 => h9) rfl (by decide +kernel) rfl rfl (Nat.le_of_ble_eq_true rfl) dX12_contract_40 (fun H locs hP _ hS => ?_)
          have hP := va_P_eq (pM_39 g c _ _ _ _) hP
          have hI := IM.put hI 39 0 rfl (by have : (0 : Int32).toInt = 0 := (by decide); omega)
          refine lv_aload_n hx hb dX12_contract_43 rfl (lv_at hl 0 rfl) ?_
          refine lv_iconst (v := (-1)) hx hb dX12_contract_44 (by decide) ?_
          refine va_put (D := (dC, dI)) (ci := 12) (v := .int (-1)) (ty := .int) (C := RX12) (T := TX12) (N := 63) (fs := fsM_0 g (va_up v 39 0) rc) hx hb hwd inA_X12 tyX12 tyX12_ok nmX12 hown hK hP (DM hg) hS 0 rfl rfl 40 (by decide) (hwd _ wk_1005) (fun _ h9 => h9) rfl (by decide +kernel) rfl rfl (Nat.le_of_ble_eq_true rfl) dX12_contract_45 (fun H locs hP _ hS => ?_)
          have hP := va_P_eq (pM_40 g c _ _ _ _) hP
          have hI := IM.put0 hI 40 (-1) rfl
          refine lv_aload_n hx hb dX12_contract_48 rfl (lv_at hl 0 rfl) ?_
          refine va_get (D := (dC, dI)) (ci := 12) (v := .ref (g 37)) (C := RX12) (T := TX12) (N := 63) hx hb hwd inA_X12 hown hK hP 0 rfl rfl 51 (by decide) (hwd _ wk_219) (fun _ h9 => h9) rfl dX12_contract_49 ?_
          refine lv_bipush (v := 10) hx hb dX12_contract_52 (by decide) ?_
          refine lv_iconst (v := 0) hx hb dX12_contract_54 (by decide) ?_
          refine va_iast hx hb hK hP (DM hg) hS 37 36 rfl rfl (i := 10) (x := 0) (vin (a := 10) (by decide) (by omega)) dX12_contract_55 (fun H locs hP _ hS => ?_)
          have hP := va_P_eq (sM_37 g c _ _ _ _) hP
          have hI := IM.store hI 37 (10 : Int32).toNatClampNeg 0 rfl (by have : (0 : Int32).toInt = 0 := (by decide); omega)
          have hF := frUF (k := 37) (f := upd (F 37) (10 : Int32).toNatClampNeg 0) (by decide) hF
          have st8066 : (va_up F 37 (upd (F 37) (10 : Int32).toNatClampNeg 0)) 37 = upd (F 37) (10 : Int32).toNatClampNeg 0 := va_up_self _ _ _
          have sn8067 : ∀ k9, k9 ≠ 37 → (va_up F 37 (upd (F 37) (10 : Int32).toNatClampNeg 0)) k9 = F k9 := fun k9 h9 => va_up_ne _ _ h9
          have hP : va_P (dC, dI) classes (wM g c (va_up (va_up v 39 0) 40 (-1)) (va_up F 37 (upd (F 37) (10 : Int32).toNatClampNeg 0)) rc) H := hP
          generalize (va_up F 37 (upd (F 37) (10 : Int32).toNatClampNeg 0)) = F8065 at hP hI hF st8066 sn8067
          refine lv_aload_n hx hb dX12_contract_56 rfl (lv_at hl 0 rfl) ?_
          refine lv_bipush (v := 10) hx hb dX12_contract_57 (by decide) ?_
          have t8068 : 0 ≤ (v 30).toInt ∧ (v 30).toInt ≤ 120 := hI.1 30 _ _ rfl
          refine va_callv (va_runV (As := [.int 10]) (rest := []) ⟨hx, hb, hml, hown, hwd⟩ (c_X12_readLine l dC dI g c adK adV (va_up (va_up v 39 0) 40 (-1)) F8065 rc H.size  hg hI (by have h9 : (va_up (va_up v 39 0) 40 (-1)) 39 = 0 := rfl; (try rw [h9]); clear h9; have : (0 : Int32).toInt = 0 := (by decide); have h9 : (va_up (va_up v 39 0) 40 (-1)) 30 = v 30 := rfl; (try rw [h9]); clear h9; have l9 : (F8065 37 (10 : Int32).toNatClampNeg).toInt = (0 : Int32).toInt := congrArg Int32.toInt ((congrFun st8066 _).trans (mu_at _ _ _)); have : (0 : Int32).toInt = 0 := (by decide); omega)) (cwV 1 hwd (gV wk_1131 wk_1128 wk_1129 wk_1130 wk_5) rfl rfl rfl (by decide +kernel) ⟨Nat.le_of_ble_eq_true rfl, Nat.le_of_ble_eq_true rfl⟩) ⟨PM.blind, va_recv hK hP (ci := 12) (q0 := 0) rfl rfl, fun U hU hW => ⟨rfl, PM.at hK hE hP hS hU hW⟩⟩ rfl rfl hl.1 rfl (lv_room (Nat.le_of_ble_eq_true rfl)) dX12_contract_59 ⟨Nat.le_of_ble_eq_true rfl, Nat.le_of_ble_eq_true rfl⟩) hS (fun q _ h => (freeM hS) q h) (freeM hS) (fun u t H1 locs ht hvm hw hB hz1 hk1 hS => ?_)
          unfold BM at hB
          rw [ht] at hB
          obtain ⟨v8070, F8071, rc9⟩ := u
          obtain ⟨hI, hrc, hf8072, hG8073, hw⟩ := hw
          dsimp only at hI hrc hB hf8072 hG8073 hw
          have hF := frCF (by decide) hG8073 hF
          rw [hrc] at hB
          have hP : va_P (dC, dI) classes (wM g c v8070 F8071 rc) H1 := hB
          replace hw : 4 * (F8071 37 (10 : Int32).toNatClampNeg).toInt ≤ (v8070 39).toInt ∧ (v8070 39).toInt ≤ (v 30).toInt ∧ (0 : Int32).toInt ≤ (v8070 39).toInt ∧ ((v8070 40).toInt < 0 → (0 : Int32).toInt < (v8070 39).toInt) := hw
          have hw_r8069 := hw
          clear hw
          have t8074 : 0 ≤ (v8070 39).toInt ∧ (v8070 39).toInt ≤ 120 := hI.1 39 _ _ rfl
          have k8075 : (10 : Int32).toInt = 10 := by decide
          clear hz1
          generalize H1 = H at hP hS ⊢
          have lp8076 : ∀ (n : Nat) (v_lp8076 : Nat → Int32) (F_lp8076 : Nat → Nat → Int32) (H : Heap) (locs : List Loc) (ls : Array Slot), (4 * (F_lp8076 37 (10 : Int32).toNatClampNeg).toInt ≤ (v_lp8076 39).toInt ∧ (v_lp8076 39).toInt ≤ (v_lp8076 30).toInt) → (1 ≤ n ∧ ((v_lp8076 40).toInt < 0 → 122 - (v_lp8076 39).toInt ≤ (n : Int))) → (∀ k, k ∉ ([39, 40, 42] : List Nat) → v_lp8076 k = v8070 k) → IM v_lp8076 F_lp8076 → (∀ k, k ∉ ([35, 36, 37, 38, 39, 40, 41] : List Nat) → F_lp8076 k = F k) → va_P (dC, dI) classes (wM g c v_lp8076 F_lp8076 rc) H → va_S (AM g s.heap.size) s.heap H locs → lv_has ls 5 [(0, .ref (g 0)), (1, .int p0), (2, .int p1), (3, .int p2)] → W p l e (headSpec (Cond.code yX12_contract cX12_contract 5 (some .int) :: wA) ({ frames := 5, cells := 0, slots := 0, locals := 200 })).room s m ([.ref (g 0), .int p0, .int p1, .int p2] : List Value).toArray below meth c0 H locs 0 0 (MQ below (va_Qi (fun (r : Int32) (u : StM) => IM u.1 u.2.1 ∧ u.2.2 = rc ∧ (∀ k, k ∉ ([30, 39, 40, 42] : List Nat) → u.1 k = v k) ∧ (∀ k, k ∉ ([35, 36, 37, 38, 39, 40, 41] : List Nat) → u.2.1 k = F k) ∧ True) (BM dC dI g c) (AM g s.heap.size)) ([.ref (g 0), .int p0, .int p1, .int p2] : List Value).toArray s 0 0 (AM g s.heap.size)) (F0 m 62 ls []) := by
            intro n
            induction n with
            | zero =>
              intro v_lp8076 F_lp8076 H locs ls t8077 hm hf_lp8076 hI hF hP hS hl
              exfalso
              have hI1 := hI.1
              omega
            | succ n ih_lp8076 =>
              intro v_lp8076 F_lp8076 H locs ls t8077 hm hf_lp8076 hI hF hP hS hl
              refine lv_aload_n hx hb dX12_contract_62 rfl (lv_at hl 0 rfl) ?_
              refine va_get (D := (dC, dI)) (ci := 12) (v := .int (v_lp8076 40)) (C := RX12) (T := TX12) (N := 63) hx hb hwd inA_X12 hown hK hP 0 rfl rfl 40 (by decide) (hwd _ wk_1005) (fun _ h9 => h9) rfl dX12_contract_63 ?_
              refine lv_if_ge (tgt := 89) hx hb dX12_contract_66 (by decide) (fun c8078 => ?_) (fun c8078 => ?_)
              · skip
                have t8079 := cv_le (a := 0) (by decide) (b := (v_lp8076 40).toInt) rfl c8078
                refine lv_aload_n hx hb dX12_contract_89 rfl (lv_at hl 0 rfl) ?_
                refine lv_iconst (v := 0) hx hb dX12_contract_90 (by decide) ?_
                refine va_put (D := (dC, dI)) (ci := 12) (v := .int 0) (ty := .int) (C := RX12) (T := TX12) (N := 63) (fs := fsM_0 g v_lp8076 rc) hx hb hwd inA_X12 tyX12 tyX12_ok nmX12 hown hK hP (DM hg) hS 0 rfl rfl 30 (by decide) (hwd _ wk_839) (fun _ h9 => h9) rfl (by decide +kernel) rfl rfl (Nat.le_of_ble_eq_true rfl) dX12_contract_91 (fun H locs hP _ hS => ?_)
                have hP := va_P_eq (pM_30 g c _ _ _ _) hP
                have hI := IM.put hI 30 0 rfl (by have : (0 : Int32).toInt = 0 := (by decide); omega)
                refine lv_aload_n hx hb dX12_contract_94 rfl (lv_at hl 0 rfl) ?_
                refine va_get (D := (dC, dI)) (ci := 12) (v := .int (v_lp8076 40)) (C := RX12) (T := TX12) (N := 63) hx hb hwd inA_X12 hown hK hP 0 rfl rfl 40 (by decide) (hwd _ wk_1005) (fun _ h9 => h9) rfl dX12_contract_95 ?_
                refine lv_if_lt (tgt := 109) hx hb dX12_contract_98 (by decide) (fun c8080 => ?_) (fun c8080 => ?_)
                · skip
                  have t8081 := cv_lt (a := (v_lp8076 40).toInt) rfl (b := 0) (by decide) c8080
                  refine lv_aload_n hx hb dX12_contract_109 rfl (lv_at hl 0 rfl) ?_
                  refine va_get (D := (dC, dI)) (ci := 12) (v := .ref (g 37)) (C := RX12) (T := TX12) (N := 63) hx hb hwd inA_X12 hown hK hP 0 rfl rfl 51 (by decide) (hwd _ wk_219) (fun _ h9 => h9) rfl dX12_contract_110 ?_
                  refine lv_iload_n hx hb dX12_contract_113 rfl (lv_at hl 1 rfl) ?_
                  refine lv_aload_n hx hb dX12_contract_114 rfl (lv_at hl 0 rfl) ?_
                  refine va_get (D := (dC, dI)) (ci := 12) (v := .ref (g 37)) (C := RX12) (T := TX12) (N := 63) hx hb hwd inA_X12 hown hK hP 0 rfl rfl 51 (by decide) (hwd _ wk_219) (fun _ h9 => h9) rfl dX12_contract_115 ?_
                  refine lv_bipush (v := 10) hx hb dX12_contract_118 (by decide) ?_
                  refine va_iald hx hb hK hP 37 36 rfl rfl (i := 10) (vin (a := 10) (by decide) (by omega)) dX12_contract_120 ?_
                  refine lv_topi (fun z8082 e8083 => ?_)
                  have t8084 : 0 ≤ z8082.toInt ∧ z8082.toInt ≤ 31 := by rw [e8083]; exact hI.2 37 _ _ rfl _
                  have tzz8082 : z8082.toInt = (F_lp8076 37 (10 : Int32).toNatClampNeg).toInt := congrArg Int32.toInt e8083
                  refine va_iast hx hb hK hP (DM hg) hS 37 36 rfl rfl (i := p0) (x := z8082) (vin (a := p0.toInt) rfl (by omega)) dX12_contract_121 (fun H locs hP _ hS => ?_)
                  have hP := va_P_eq (sM_37 g c _ _ _ _) hP
                  have hI := IM.store hI 37 (p0 : Int32).toNatClampNeg z8082 rfl (by omega)
                  have hF := frUF (k := 37) (f := upd (F_lp8076 37) (p0 : Int32).toNatClampNeg z8082) (by decide) hF
                  have st8086 : (va_up F_lp8076 37 (upd (F_lp8076 37) (p0 : Int32).toNatClampNeg z8082)) 37 = upd (F_lp8076 37) (p0 : Int32).toNatClampNeg z8082 := va_up_self _ _ _
                  have sn8087 : ∀ k9, k9 ≠ 37 → (va_up F_lp8076 37 (upd (F_lp8076 37) (p0 : Int32).toNatClampNeg z8082)) k9 = F_lp8076 k9 := fun k9 h9 => va_up_ne _ _ h9
                  have hP : va_P (dC, dI) classes (wM g c (va_up v_lp8076 30 0) (va_up F_lp8076 37 (upd (F_lp8076 37) (p0 : Int32).toNatClampNeg z8082)) rc) H := hP
                  generalize (va_up F_lp8076 37 (upd (F_lp8076 37) (p0 : Int32).toNatClampNeg z8082)) = F8085 at hP hI hF st8086 sn8087
                  refine lv_iconst (v := 0) hx hb dX12_contract_122 (by decide) ?_
                  refine lv_istore (lv' := [(4, .int 0), (0, .ref (g 0)), (1, .int p0), (2, .int p1), (3, .int p2)]) hx hb dX12_contract_123 hl (by decide) rfl (fun ls hl => ?_)
                  have lp8088 : ∀ (n : Nat) (x4_lp8088 : Int32) (v_lp8088 : Nat → Int32) (F_lp8088 : Nat → Nat → Int32) (H : Heap) (locs : List Loc) (ls : Array Slot), (0 ≤ x4_lp8088.toInt) → (2147483648 - x4_lp8088.toInt ≤ (n : Int)) → (∀ k, k ∉ ([] : List Nat) → v_lp8088 k = (va_up v_lp8076 30 0) k) → IM v_lp8088 F_lp8088 → (∀ k, k ∉ ([35, 36, 37, 38, 39, 40, 41] : List Nat) → F_lp8088 k = F k) → va_P (dC, dI) classes (wM g c v_lp8088 F_lp8088 rc) H → va_S (AM g s.heap.size) s.heap H locs → lv_has ls 5 [(4, .int x4_lp8088), (0, .ref (g 0)), (1, .int p0), (2, .int p1), (3, .int p2)] → W p l e (headSpec (Cond.code yX12_contract cX12_contract 5 (some .int) :: wA) ({ frames := 5, cells := 0, slots := 0, locals := 200 })).room s m ([.ref (g 0), .int p0, .int p1, .int p2] : List Value).toArray below meth c0 H locs 0 0 (MQ below (va_Qi (fun (r : Int32) (u : StM) => IM u.1 u.2.1 ∧ u.2.2 = rc ∧ (∀ k, k ∉ ([30, 39, 40, 42] : List Nat) → u.1 k = v k) ∧ (∀ k, k ∉ ([35, 36, 37, 38, 39, 40, 41] : List Nat) → u.2.1 k = F k) ∧ True) (BM dC dI g c) (AM g s.heap.size)) ([.ref (g 0), .int p0, .int p1, .int p2] : List Value).toArray s 0 0 (AM g s.heap.size)) (F0 m 125 ls []) := by
                    intro n
                    induction n with
                    | zero =>
                      intro x4_lp8088 v_lp8088 F_lp8088 H locs ls t8089 hm hf_lp8088 hI hF hP hS hl
                      exfalso
                      have := i32_rng x4_lp8088
                      have hI1 := hI.1
                      omega
                    | succ n ih_lp8088 =>
                      intro x4_lp8088 v_lp8088 F_lp8088 H locs ls t8089 hm hf_lp8088 hI hF hP hS hl
                      have rx4_lp8088 := i32_rng x4_lp8088
                      refine lv_iload hx hb dX12_contract_125 (lv_at hl 0 rfl) ?_
                      refine lv_aload_n hx hb dX12_contract_127 rfl (lv_at hl 1 rfl) ?_
                      refine va_get (D := (dC, dI)) (ci := 12) (v := .ref (g 37)) (C := RX12) (T := TX12) (N := 63) hx hb hwd inA_X12 hown hK hP 0 rfl rfl 51 (by decide) (hwd _ wk_219) (fun _ h9 => h9) rfl dX12_contract_128 ?_
                      refine lv_iload_n hx hb dX12_contract_131 rfl (lv_at hl 2 rfl) ?_
                      refine va_iald hx hb hK hP 37 36 rfl rfl (i := p0) (vin (a := p0.toInt) rfl (by omega)) dX12_contract_132 ?_
                      refine lv_topi (fun z8090 e8091 => ?_)
                      have t8092 : 0 ≤ z8090.toInt ∧ z8090.toInt ≤ 31 := by rw [e8091]; exact hI.2 37 _ _ rfl _
                      have tzz8090 : z8090.toInt = (F_lp8088 37 (p0 : Int32).toNatClampNeg).toInt := congrArg Int32.toInt e8091
                      refine lv_icmp_ge (tgt := 234) hx hb dX12_contract_133 (by decide) (fun c8093 => ?_) (fun c8093 => ?_)
                      · skip
                        have t8094 := cv_le (a := z8090.toInt) rfl (b := x4_lp8088.toInt) rfl c8093
                        refine lv_aload_n hx hb dX12_contract_234 rfl (lv_at hl 1 rfl) ?_
                        refine va_get (D := (dC, dI)) (ci := 12) (v := .ref (g 35)) (C := RX12) (T := TX12) (N := 63) hx hb hwd inA_X12 hown hK hP 0 rfl rfl 49 (by decide) (hwd _ wk_217) (fun _ h9 => h9) rfl dX12_contract_235 ?_
                        refine lv_iload_n hx hb dX12_contract_238 rfl (lv_at hl 2 rfl) ?_
                        refine lv_iload_n hx hb dX12_contract_239 rfl (lv_at hl 3 rfl) ?_
                        refine va_iast hx hb hK hP (DM hg) hS 35 34 rfl rfl (i := p0) (x := p1) (vin (a := p0.toInt) rfl (by omega)) dX12_contract_240 (fun H locs hP _ hS => ?_)
                        have hP := va_P_eq (sM_35 g c _ _ _ _) hP
                        have hI := IM.store0 hI 35 (p0 : Int32).toNatClampNeg p1 rfl
                        have hF := frUF (k := 35) (f := upd (F_lp8088 35) (p0 : Int32).toNatClampNeg p1) (by decide) hF
                        have st8096 : (va_up F_lp8088 35 (upd (F_lp8088 35) (p0 : Int32).toNatClampNeg p1)) 35 = upd (F_lp8088 35) (p0 : Int32).toNatClampNeg p1 := va_up_self _ _ _
                        have sn8097 : ∀ k9, k9 ≠ 35 → (va_up F_lp8088 35 (upd (F_lp8088 35) (p0 : Int32).toNatClampNeg p1)) k9 = F_lp8088 k9 := fun k9 h9 => va_up_ne _ _ h9
                        have hP : va_P (dC, dI) classes (wM g c v_lp8088 (va_up F_lp8088 35 (upd (F_lp8088 35) (p0 : Int32).toNatClampNeg p1)) rc) H := hP
                        generalize (va_up F_lp8088 35 (upd (F_lp8088 35) (p0 : Int32).toNatClampNeg p1)) = F8095 at hP hI hF st8096 sn8097
                        refine lv_aload_n hx hb dX12_contract_241 rfl (lv_at hl 1 rfl) ?_
                        refine va_get (D := (dC, dI)) (ci := 12) (v := .ref (g 36)) (C := RX12) (T := TX12) (N := 63) hx hb hwd inA_X12 hown hK hP 0 rfl rfl 50 (by decide) (hwd _ wk_218) (fun _ h9 => h9) rfl dX12_contract_242 ?_
                        refine lv_iload_n hx hb dX12_contract_245 rfl (lv_at hl 2 rfl) ?_
                        refine lv_iload_n hx hb dX12_contract_246 rfl (lv_at hl 4 rfl) ?_
                        refine va_iast hx hb hK hP (DM hg) hS 36 35 rfl rfl (i := p0) (x := p2) (vin (a := p0.toInt) rfl (by omega)) dX12_contract_247 (fun H locs hP _ hS => ?_)
                        have hP := va_P_eq (sM_36 g c _ _ _ _) hP
                        have hI := IM.store0 hI 36 (p0 : Int32).toNatClampNeg p2 rfl
                        have hF := frUF (k := 36) (f := upd (F8095 36) (p0 : Int32).toNatClampNeg p2) (by decide) hF
                        have st8099 : (va_up F8095 36 (upd (F8095 36) (p0 : Int32).toNatClampNeg p2)) 36 = upd (F8095 36) (p0 : Int32).toNatClampNeg p2 := va_up_self _ _ _
                        have sn8100 : ∀ k9, k9 ≠ 36 → (va_up F8095 36 (upd (F8095 36) (p0 : Int32).toNatClampNeg p2)) k9 = F8095 k9 := fun k9 h9 => va_up_ne _ _ h9
                        have hP : va_P (dC, dI) classes (wM g c v_lp8088 (va_up F8095 36 (upd (F8095 36) (p0 : Int32).toNatClampNeg p2)) rc) H := hP
                        generalize (va_up F8095 36 (upd (F8095 36) (p0 : Int32).toNatClampNeg p2)) = F8098 at hP hI hF st8099 sn8100
                        refine lv_aload_n hx hb dX12_contract_248 rfl (lv_at hl 1 rfl) ?_
                        refine va_get (D := (dC, dI)) (ci := 12) (v := .ref (g 37)) (C := RX12) (T := TX12) (N := 63) hx hb hwd inA_X12 hown hK hP 0 rfl rfl 51 (by decide) (hwd _ wk_219) (fun _ h9 => h9) rfl dX12_contract_249 ?_
                        refine lv_iload_n hx hb dX12_contract_252 rfl (lv_at hl 2 rfl) ?_
                        refine va_iald hx hb hK hP 37 36 rfl rfl (i := p0) (vin (a := p0.toInt) rfl (by omega)) dX12_contract_253 ?_
                        refine lv_topi (fun z8101 e8102 => ?_)
                        have t8103 : 0 ≤ z8101.toInt ∧ z8101.toInt ≤ 31 := by rw [e8102]; exact hI.2 37 _ _ rfl _
                        have tzz8101 : z8101.toInt = (F8098 37 (p0 : Int32).toNatClampNeg).toInt := congrArg Int32.toInt e8102
                        have hP9 : va_P (dC, dI) classes (wM g c v_lp8088 F8098 rc) H := hP
                        exact W.iret (v := z8101) hx hb hr (fun t ht hW => ⟨⟨z8101, (v_lp8088, F8098, rc), rfl, ⟨hI, rfl, (frC (by decide) hf_lp8088 (frU (by decide) (frC (by decide) hf_lp8076 (frC (by decide) hf8072 (frU (by decide) (frU (by decide) (fun _ _ => rfl))))))), hF, trivial⟩, (by show va_P _ _ _ t.heap; rw [ht]; exact hP9)⟩, hS.F ht⟩) hS.2.2 dX12_contract_254
                      · skip
                        have t8104 := cv_nle (a := z8090.toInt) rfl (b := x4_lp8088.toInt) rfl c8093
                        refine lv_aload_n hx hb dX12_contract_136 rfl (lv_at hl 1 rfl) ?_
                        refine va_get (D := (dC, dI)) (ci := 12) (v := .ref (g 38)) (C := RX12) (T := TX12) (N := 63) hx hb hwd inA_X12 hown hK hP 0 rfl rfl 52 (by decide) (hwd _ wk_220) (fun _ h9 => h9) rfl dX12_contract_137 ?_
                        refine lv_bipush (v := 32) hx hb dX12_contract_140 (by decide) ?_
                        refine lv_iload_n hx hb dX12_contract_142 rfl (lv_at hl 2 rfl) ?_
                        refine lv_imul hx hb dX12_contract_143 ?_
                        refine lv_topi (fun z8105 e8106 => ?_)
                        try (have t8107 := tmul e8106 (a := 32) (by decide) (b := p0.toInt) rfl (by omega))
                        refine lv_iload hx hb dX12_contract_144 (lv_at hl 0 rfl) ?_
                        refine lv_iadd hx hb dX12_contract_146 ?_
                        refine lv_topi (fun z8108 e8109 => ?_)
                        try (have t8110 := tadd e8109 (a := z8105.toInt) rfl (b := x4_lp8088.toInt) rfl (by omega))
                        refine lv_aload_n hx hb dX12_contract_147 rfl (lv_at hl 1 rfl) ?_
                        refine va_get (D := (dC, dI)) (ci := 12) (v := .ref (g 38)) (C := RX12) (T := TX12) (N := 63) hx hb hwd inA_X12 hown hK hP 0 rfl rfl 52 (by decide) (hwd _ wk_220) (fun _ h9 => h9) rfl dX12_contract_148 ?_
                        refine lv_sipush (v := 320) hx hb dX12_contract_151 (by decide) ?_
                        refine lv_iload hx hb dX12_contract_154 (lv_at hl 0 rfl) ?_
                        refine lv_iadd hx hb dX12_contract_156 ?_
                        refine lv_topi (fun z8111 e8112 => ?_)
                        try (have t8113 := tadd e8112 (a := 320) (by decide) (b := x4_lp8088.toInt) rfl (by omega))
                        refine va_iald hx hb hK hP 38 37 rfl rfl (i := z8111) (vin (a := z8111.toInt) rfl (by omega)) dX12_contract_157 ?_
                        refine lv_topi (fun z8114 e8115 => ?_)
                        have tzz8114 : z8114.toInt = (F_lp8088 38 (z8111 : Int32).toNatClampNeg).toInt := congrArg Int32.toInt e8115
                        refine va_iast hx hb hK hP (DM hg) hS 38 37 rfl rfl (i := z8108) (x := z8114) (vin (a := z8108.toInt) rfl (by omega)) dX12_contract_158 (fun H locs hP _ hS => ?_)
                        have hP := va_P_eq (sM_38 g c _ _ _ _) hP
                        have hI := IM.store0 hI 38 (z8108 : Int32).toNatClampNeg z8114 rfl
                        have hF := frUF (k := 38) (f := upd (F_lp8088 38) (z8108 : Int32).toNatClampNeg z8114) (by decide) hF
                        have st8117 : (va_up F_lp8088 38 (upd (F_lp8088 38) (z8108 : Int32).toNatClampNeg z8114)) 38 = upd (F_lp8088 38) (z8108 : Int32).toNatClampNeg z8114 := va_up_self _ _ _
                        have sn8118 : ∀ k9, k9 ≠ 38 → (va_up F_lp8088 38 (upd (F_lp8088 38) (z8108 : Int32).toNatClampNeg z8114)) k9 = F_lp8088 k9 := fun k9 h9 => va_up_ne _ _ h9
                        have hP : va_P (dC, dI) classes (wM g c v_lp8088 (va_up F_lp8088 38 (upd (F_lp8088 38) (z8108 : Int32).toNatClampNeg z8114)) rc) H := hP
                        generalize (va_up F_lp8088 38 (upd (F_lp8088 38) (z8108 : Int32).toNatClampNeg z8114)) = F8116 at hP hI hF st8117 sn8118
                        refine lv_aload_n hx hb dX12_contract_159 rfl (lv_at hl 1 rfl) ?_
                        refine va_get (D := (dC, dI)) (ci := 12) (v := .ref (g 39)) (C := RX12) (T := TX12) (N := 63) hx hb hwd inA_X12 hown hK hP 0 rfl rfl 53 (by decide) (hwd _ wk_221) (fun _ h9 => h9) rfl dX12_contract_160 ?_
                        refine lv_bipush (v := 32) hx hb dX12_contract_163 (by decide) ?_
                        refine lv_iload_n hx hb dX12_contract_165 rfl (lv_at hl 2 rfl) ?_
                        refine lv_imul hx hb dX12_contract_166 ?_
                        refine lv_topi (fun z8119 e8120 => ?_)
                        try (have t8121 := tmul e8120 (a := 32) (by decide) (b := p0.toInt) rfl (by omega))
                        refine lv_iload hx hb dX12_contract_167 (lv_at hl 0 rfl) ?_
                        refine lv_iadd hx hb dX12_contract_169 ?_
                        refine lv_topi (fun z8122 e8123 => ?_)
                        try (have t8124 := tadd e8123 (a := z8119.toInt) rfl (b := x4_lp8088.toInt) rfl (by omega))
                        refine lv_aload_n hx hb dX12_contract_170 rfl (lv_at hl 1 rfl) ?_
                        refine va_get (D := (dC, dI)) (ci := 12) (v := .ref (g 39)) (C := RX12) (T := TX12) (N := 63) hx hb hwd inA_X12 hown hK hP 0 rfl rfl 53 (by decide) (hwd _ wk_221) (fun _ h9 => h9) rfl dX12_contract_171 ?_
                        refine lv_sipush (v := 320) hx hb dX12_contract_174 (by decide) ?_
                        refine lv_iload hx hb dX12_contract_177 (lv_at hl 0 rfl) ?_
                        refine lv_iadd hx hb dX12_contract_179 ?_
                        refine lv_topi (fun z8125 e8126 => ?_)
                        try (have t8127 := tadd e8126 (a := 320) (by decide) (b := x4_lp8088.toInt) rfl (by omega))
                        refine va_iald hx hb hK hP 39 38 rfl rfl (i := z8125) (vin (a := z8125.toInt) rfl (by omega)) dX12_contract_180 ?_
                        refine lv_topi (fun z8128 e8129 => ?_)
                        have tzz8128 : z8128.toInt = (F8116 39 (z8125 : Int32).toNatClampNeg).toInt := congrArg Int32.toInt e8129
                        refine va_iast hx hb hK hP (DM hg) hS 39 38 rfl rfl (i := z8122) (x := z8128) (vin (a := z8122.toInt) rfl (by omega)) dX12_contract_181 (fun H locs hP _ hS => ?_)
                        have hP := va_P_eq (sM_39 g c _ _ _ _) hP
                        have hI := IM.store0 hI 39 (z8122 : Int32).toNatClampNeg z8128 rfl
                        have hF := frUF (k := 39) (f := upd (F8116 39) (z8122 : Int32).toNatClampNeg z8128) (by decide) hF
                        have st8131 : (va_up F8116 39 (upd (F8116 39) (z8122 : Int32).toNatClampNeg z8128)) 39 = upd (F8116 39) (z8122 : Int32).toNatClampNeg z8128 := va_up_self _ _ _
                        have sn8132 : ∀ k9, k9 ≠ 39 → (va_up F8116 39 (upd (F8116 39) (z8122 : Int32).toNatClampNeg z8128)) k9 = F8116 k9 := fun k9 h9 => va_up_ne _ _ h9
                        have hP : va_P (dC, dI) classes (wM g c v_lp8088 (va_up F8116 39 (upd (F8116 39) (z8122 : Int32).toNatClampNeg z8128)) rc) H := hP
                        generalize (va_up F8116 39 (upd (F8116 39) (z8122 : Int32).toNatClampNeg z8128)) = F8130 at hP hI hF st8131 sn8132
                        refine lv_aload_n hx hb dX12_contract_182 rfl (lv_at hl 1 rfl) ?_
                        refine va_get (D := (dC, dI)) (ci := 12) (v := .ref (g 40)) (C := RX12) (T := TX12) (N := 63) hx hb hwd inA_X12 hown hK hP 0 rfl rfl 54 (by decide) (hwd _ wk_222) (fun _ h9 => h9) rfl dX12_contract_183 ?_
                        refine lv_bipush (v := 32) hx hb dX12_contract_186 (by decide) ?_
                        refine lv_iload_n hx hb dX12_contract_188 rfl (lv_at hl 2 rfl) ?_
                        refine lv_imul hx hb dX12_contract_189 ?_
                        refine lv_topi (fun z8133 e8134 => ?_)
                        try (have t8135 := tmul e8134 (a := 32) (by decide) (b := p0.toInt) rfl (by omega))
                        refine lv_iload hx hb dX12_contract_190 (lv_at hl 0 rfl) ?_
                        refine lv_iadd hx hb dX12_contract_192 ?_
                        refine lv_topi (fun z8136 e8137 => ?_)
                        try (have t8138 := tadd e8137 (a := z8133.toInt) rfl (b := x4_lp8088.toInt) rfl (by omega))
                        refine lv_aload_n hx hb dX12_contract_193 rfl (lv_at hl 1 rfl) ?_
                        refine va_get (D := (dC, dI)) (ci := 12) (v := .ref (g 40)) (C := RX12) (T := TX12) (N := 63) hx hb hwd inA_X12 hown hK hP 0 rfl rfl 54 (by decide) (hwd _ wk_222) (fun _ h9 => h9) rfl dX12_contract_194 ?_
                        refine lv_sipush (v := 320) hx hb dX12_contract_197 (by decide) ?_
                        refine lv_iload hx hb dX12_contract_200 (lv_at hl 0 rfl) ?_
                        refine lv_iadd hx hb dX12_contract_202 ?_
                        refine lv_topi (fun z8139 e8140 => ?_)
                        try (have t8141 := tadd e8140 (a := 320) (by decide) (b := x4_lp8088.toInt) rfl (by omega))
                        refine va_iald hx hb hK hP 40 39 rfl rfl (i := z8139) (vin (a := z8139.toInt) rfl (by omega)) dX12_contract_203 ?_
                        refine lv_topi (fun z8142 e8143 => ?_)
                        have tzz8142 : z8142.toInt = (F8130 40 (z8139 : Int32).toNatClampNeg).toInt := congrArg Int32.toInt e8143
                        refine va_iast hx hb hK hP (DM hg) hS 40 39 rfl rfl (i := z8136) (x := z8142) (vin (a := z8136.toInt) rfl (by omega)) dX12_contract_204 (fun H locs hP _ hS => ?_)
                        have hP := va_P_eq (sM_40 g c _ _ _ _) hP
                        have hI := IM.store0 hI 40 (z8136 : Int32).toNatClampNeg z8142 rfl
                        have hF := frUF (k := 40) (f := upd (F8130 40) (z8136 : Int32).toNatClampNeg z8142) (by decide) hF
                        have st8145 : (va_up F8130 40 (upd (F8130 40) (z8136 : Int32).toNatClampNeg z8142)) 40 = upd (F8130 40) (z8136 : Int32).toNatClampNeg z8142 := va_up_self _ _ _
                        have sn8146 : ∀ k9, k9 ≠ 40 → (va_up F8130 40 (upd (F8130 40) (z8136 : Int32).toNatClampNeg z8142)) k9 = F8130 k9 := fun k9 h9 => va_up_ne _ _ h9
                        have hP : va_P (dC, dI) classes (wM g c v_lp8088 (va_up F8130 40 (upd (F8130 40) (z8136 : Int32).toNatClampNeg z8142)) rc) H := hP
                        generalize (va_up F8130 40 (upd (F8130 40) (z8136 : Int32).toNatClampNeg z8142)) = F8144 at hP hI hF st8145 sn8146
                        refine lv_aload_n hx hb dX12_contract_205 rfl (lv_at hl 1 rfl) ?_
                        refine va_get (D := (dC, dI)) (ci := 12) (v := .ref (g 41)) (C := RX12) (T := TX12) (N := 63) hx hb hwd inA_X12 hown hK hP 0 rfl rfl 55 (by decide) (hwd _ wk_223) (fun _ h9 => h9) rfl dX12_contract_206 ?_
                        refine lv_bipush (v := 32) hx hb dX12_contract_209 (by decide) ?_
                        refine lv_iload_n hx hb dX12_contract_211 rfl (lv_at hl 2 rfl) ?_
                        refine lv_imul hx hb dX12_contract_212 ?_
                        refine lv_topi (fun z8147 e8148 => ?_)
                        try (have t8149 := tmul e8148 (a := 32) (by decide) (b := p0.toInt) rfl (by omega))
                        refine lv_iload hx hb dX12_contract_213 (lv_at hl 0 rfl) ?_
                        refine lv_iadd hx hb dX12_contract_215 ?_
                        refine lv_topi (fun z8150 e8151 => ?_)
                        try (have t8152 := tadd e8151 (a := z8147.toInt) rfl (b := x4_lp8088.toInt) rfl (by omega))
                        refine lv_aload_n hx hb dX12_contract_216 rfl (lv_at hl 1 rfl) ?_
                        refine va_get (D := (dC, dI)) (ci := 12) (v := .ref (g 41)) (C := RX12) (T := TX12) (N := 63) hx hb hwd inA_X12 hown hK hP 0 rfl rfl 55 (by decide) (hwd _ wk_223) (fun _ h9 => h9) rfl dX12_contract_217 ?_
                        refine lv_sipush (v := 320) hx hb dX12_contract_220 (by decide) ?_
                        refine lv_iload hx hb dX12_contract_223 (lv_at hl 0 rfl) ?_
                        refine lv_iadd hx hb dX12_contract_225 ?_
                        refine lv_topi (fun z8153 e8154 => ?_)
                        try (have t8155 := tadd e8154 (a := 320) (by decide) (b := x4_lp8088.toInt) rfl (by omega))
                        refine va_iald hx hb hK hP 41 40 rfl rfl (i := z8153) (vin (a := z8153.toInt) rfl (by omega)) dX12_contract_226 ?_
                        refine lv_topi (fun z8156 e8157 => ?_)
                        have tzz8156 : z8156.toInt = (F8144 41 (z8153 : Int32).toNatClampNeg).toInt := congrArg Int32.toInt e8157
                        refine va_iast hx hb hK hP (DM hg) hS 41 40 rfl rfl (i := z8150) (x := z8156) (vin (a := z8150.toInt) rfl (by omega)) dX12_contract_227 (fun H locs hP _ hS => ?_)
                        have hP := va_P_eq (sM_41 g c _ _ _ _) hP
                        have hI := IM.store0 hI 41 (z8150 : Int32).toNatClampNeg z8156 rfl
                        have hF := frUF (k := 41) (f := upd (F8144 41) (z8150 : Int32).toNatClampNeg z8156) (by decide) hF
                        have st8159 : (va_up F8144 41 (upd (F8144 41) (z8150 : Int32).toNatClampNeg z8156)) 41 = upd (F8144 41) (z8150 : Int32).toNatClampNeg z8156 := va_up_self _ _ _
                        have sn8160 : ∀ k9, k9 ≠ 41 → (va_up F8144 41 (upd (F8144 41) (z8150 : Int32).toNatClampNeg z8156)) k9 = F8144 k9 := fun k9 h9 => va_up_ne _ _ h9
                        have hP : va_P (dC, dI) classes (wM g c v_lp8088 (va_up F8144 41 (upd (F8144 41) (z8150 : Int32).toNatClampNeg z8156)) rc) H := hP
                        generalize (va_up F8144 41 (upd (F8144 41) (z8150 : Int32).toNatClampNeg z8156)) = F8158 at hP hI hF st8159 sn8160
                        obtain ⟨z8161, e8162⟩ : ∃ y : Int32, y = x4_lp8088 + 1 := ⟨_, rfl⟩
                        try (have t8163 := tadd e8162 rfl (b := 1) (by decide) (by omega))
                        refine lv_iinc (v := z8161) (lv' := [(4, .int z8161), (0, .ref (g 0)), (1, .int p0), (2, .int p1), (3, .int p2)]) hx hb dX12_contract_228 hl (k := 0) rfl (by rw [e8162]; rfl) (by decide) rfl (fun ls hl => ?_)
                        refine lv_goto (tgt := 125) hx hb dX12_contract_231 (by decide) ?_
                        exact ih_lp8088 z8161 v_lp8088 F8158 _ _ _ (by omega) (by omega) hf_lp8088 hI hF hP hS (lv_sub hl [0, 1, 2, 3, 4] rfl)
                  obtain ⟨n9, hn9⟩ : ∃ n : Nat, 2147483648 - 0 ≤ (n : Int) := ⟨((2147483648 - 0 : Int)).toNat, by omega⟩
                  exact lp8088 n9 0 (va_up v_lp8076 30 0) F8085 H _ ls (by have : (0 : Int32).toInt = 0 := (by decide); omega) (by have : (0 : Int32).toInt = 0 := (by decide); omega) (fun _ _ => rfl) hI hF hP hS hl
                · skip
                  have t8164 := cv_nlt (a := (v_lp8076 40).toInt) rfl (b := 0) (by decide) c8080
                  refine lv_bipush (v := (-100)) hx hb dX12_contract_101 (by decide) ?_
                  refine lv_aload_n hx hb dX12_contract_103 rfl (lv_at hl 0 rfl) ?_
                  refine va_get (D := (dC, dI)) (ci := 12) (v := .int (v_lp8076 40)) (C := RX12) (T := TX12) (N := 63) hx hb hwd inA_X12 hown hK hP 0 rfl rfl 40 (by decide) (hwd _ wk_1005) (fun _ h9 => h9) rfl dX12_contract_104 ?_
                  refine lv_isub hx hb dX12_contract_107 ?_
                  refine lv_topi (fun z8165 e8166 => ?_)
                  try (have t8167 := tsub e8166 (a := (-100)) (by decide) (b := (v_lp8076 40).toInt) rfl (by omega))
                  have hP9 : va_P (dC, dI) classes (wM g c (va_up v_lp8076 30 0) F_lp8076 rc) H := hP
                  exact W.iret (v := z8165) hx hb hr (fun t ht hW => ⟨⟨z8165, ((va_up v_lp8076 30 0), F_lp8076, rc), rfl, ⟨hI, rfl, (frU (by decide) (frC (by decide) hf_lp8076 (frC (by decide) hf8072 (frU (by decide) (frU (by decide) (fun _ _ => rfl)))))), hF, trivial⟩, (by show va_P _ _ _ t.heap; rw [ht]; exact hP9)⟩, hS.F ht⟩) hS.2.2 dX12_contract_108
              · skip
                have t8168 := cv_nle (a := 0) (by decide) (b := (v_lp8076 40).toInt) rfl c8078
                refine lv_aload_n hx hb dX12_contract_69 rfl (lv_at hl 0 rfl) ?_
                refine va_get (D := (dC, dI)) (ci := 12) (v := .int (v_lp8076 39)) (C := RX12) (T := TX12) (N := 63) hx hb hwd inA_X12 hown hK hP 0 rfl rfl 39 (by decide) (hwd _ wk_1004) (fun _ h9 => h9) rfl dX12_contract_70 ?_
                have t8169 : 0 ≤ (v_lp8076 39).toInt ∧ (v_lp8076 39).toInt ≤ 120 := hI.1 39 _ _ rfl
                refine lv_aload_n hx hb dX12_contract_73 rfl (lv_at hl 0 rfl) ?_
                refine va_get (D := (dC, dI)) (ci := 12) (v := .int (v_lp8076 30)) (C := RX12) (T := TX12) (N := 63) hx hb hwd inA_X12 hown hK hP 0 rfl rfl 30 (by decide) (hwd _ wk_839) (fun _ h9 => h9) rfl dX12_contract_74 ?_
                refine my_top (v := v 30) ((hf_lp8076 30 (by decide)).trans (hf8072 30 (by decide))) ?_
                have t8170 : 0 ≤ (v 30).toInt ∧ (v 30).toInt ≤ 120 := by have h9 := hI.1 30 _ _ rfl; rw [show v_lp8076 30 = v 30 from (hf_lp8076 30 (by decide)).trans (hf8072 30 (by decide))] at h9; exact h9
                refine lv_icmp_ge (tgt := 89) hx hb dX12_contract_77 (by decide) (fun c8171 => ?_) (fun c8171 => ?_)
                · skip
                  have t8172 := cv_le (a := (v 30).toInt) rfl (b := (v_lp8076 39).toInt) rfl c8171
                  refine lv_aload_n hx hb dX12_contract_89 rfl (lv_at hl 0 rfl) ?_
                  refine lv_iconst (v := 0) hx hb dX12_contract_90 (by decide) ?_
                  refine va_put (D := (dC, dI)) (ci := 12) (v := .int 0) (ty := .int) (C := RX12) (T := TX12) (N := 63) (fs := fsM_0 g v_lp8076 rc) hx hb hwd inA_X12 tyX12 tyX12_ok nmX12 hown hK hP (DM hg) hS 0 rfl rfl 30 (by decide) (hwd _ wk_839) (fun _ h9 => h9) rfl (by decide +kernel) rfl rfl (Nat.le_of_ble_eq_true rfl) dX12_contract_91 (fun H locs hP _ hS => ?_)
                  have hP := va_P_eq (pM_30 g c _ _ _ _) hP
                  have hI := IM.put hI 30 0 rfl (by have : (0 : Int32).toInt = 0 := (by decide); omega)
                  refine lv_aload_n hx hb dX12_contract_94 rfl (lv_at hl 0 rfl) ?_
                  refine va_get (D := (dC, dI)) (ci := 12) (v := .int (v_lp8076 40)) (C := RX12) (T := TX12) (N := 63) hx hb hwd inA_X12 hown hK hP 0 rfl rfl 40 (by decide) (hwd _ wk_1005) (fun _ h9 => h9) rfl dX12_contract_95 ?_
                  refine lv_if_lt (tgt := 109) hx hb dX12_contract_98 (by decide) (fun c8173 => ?_) (fun c8173 => ?_)
                  · skip
                    have t8174 := cv_lt (a := (v_lp8076 40).toInt) rfl (b := 0) (by decide) c8173
                    refine lv_aload_n hx hb dX12_contract_109 rfl (lv_at hl 0 rfl) ?_
                    refine va_get (D := (dC, dI)) (ci := 12) (v := .ref (g 37)) (C := RX12) (T := TX12) (N := 63) hx hb hwd inA_X12 hown hK hP 0 rfl rfl 51 (by decide) (hwd _ wk_219) (fun _ h9 => h9) rfl dX12_contract_110 ?_
                    refine lv_iload_n hx hb dX12_contract_113 rfl (lv_at hl 1 rfl) ?_
                    refine lv_aload_n hx hb dX12_contract_114 rfl (lv_at hl 0 rfl) ?_
                    refine va_get (D := (dC, dI)) (ci := 12) (v := .ref (g 37)) (C := RX12) (T := TX12) (N := 63) hx hb hwd inA_X12 hown hK hP 0 rfl rfl 51 (by decide) (hwd _ wk_219) (fun _ h9 => h9) rfl dX12_contract_115 ?_
                    refine lv_bipush (v := 10) hx hb dX12_contract_118 (by decide) ?_
                    refine va_iald hx hb hK hP 37 36 rfl rfl (i := 10) (vin (a := 10) (by decide) (by omega)) dX12_contract_120 ?_
                    refine lv_topi (fun z8175 e8176 => ?_)
                    have t8177 : 0 ≤ z8175.toInt ∧ z8175.toInt ≤ 31 := by rw [e8176]; exact hI.2 37 _ _ rfl _
                    have tzz8175 : z8175.toInt = (F_lp8076 37 (10 : Int32).toNatClampNeg).toInt := congrArg Int32.toInt e8176
                    refine va_iast hx hb hK hP (DM hg) hS 37 36 rfl rfl (i := p0) (x := z8175) (vin (a := p0.toInt) rfl (by omega)) dX12_contract_121 (fun H locs hP _ hS => ?_)
                    have hP := va_P_eq (sM_37 g c _ _ _ _) hP
                    have hI := IM.store hI 37 (p0 : Int32).toNatClampNeg z8175 rfl (by omega)
                    have hF := frUF (k := 37) (f := upd (F_lp8076 37) (p0 : Int32).toNatClampNeg z8175) (by decide) hF
                    have st8179 : (va_up F_lp8076 37 (upd (F_lp8076 37) (p0 : Int32).toNatClampNeg z8175)) 37 = upd (F_lp8076 37) (p0 : Int32).toNatClampNeg z8175 := va_up_self _ _ _
                    have sn8180 : ∀ k9, k9 ≠ 37 → (va_up F_lp8076 37 (upd (F_lp8076 37) (p0 : Int32).toNatClampNeg z8175)) k9 = F_lp8076 k9 := fun k9 h9 => va_up_ne _ _ h9
                    have hP : va_P (dC, dI) classes (wM g c (va_up v_lp8076 30 0) (va_up F_lp8076 37 (upd (F_lp8076 37) (p0 : Int32).toNatClampNeg z8175)) rc) H := hP
                    generalize (va_up F_lp8076 37 (upd (F_lp8076 37) (p0 : Int32).toNatClampNeg z8175)) = F8178 at hP hI hF st8179 sn8180
                    refine lv_iconst (v := 0) hx hb dX12_contract_122 (by decide) ?_
                    refine lv_istore (lv' := [(4, .int 0), (0, .ref (g 0)), (1, .int p0), (2, .int p1), (3, .int p2)]) hx hb dX12_contract_123 hl (by decide) rfl (fun ls hl => ?_)
                    have lp8181 : ∀ (n : Nat) (x4_lp8181 : Int32) (v_lp8181 : Nat → Int32) (F_lp8181 : Nat → Nat → Int32) (H : Heap) (locs : List Loc) (ls : Array Slot), (0 ≤ x4_lp8181.toInt) → (2147483648 - x4_lp8181.toInt ≤ (n : Int)) → (∀ k, k ∉ ([] : List Nat) → v_lp8181 k = (va_up v_lp8076 30 0) k) → IM v_lp8181 F_lp8181 → (∀ k, k ∉ ([35, 36, 37, 38, 39, 40, 41] : List Nat) → F_lp8181 k = F k) → va_P (dC, dI) classes (wM g c v_lp8181 F_lp8181 rc) H → va_S (AM g s.heap.size) s.heap H locs → lv_has ls 5 [(4, .int x4_lp8181), (0, .ref (g 0)), (1, .int p0), (2, .int p1), (3, .int p2)] → W p l e (headSpec (Cond.code yX12_contract cX12_contract 5 (some .int) :: wA) ({ frames := 5, cells := 0, slots := 0, locals := 200 })).room s m ([.ref (g 0), .int p0, .int p1, .int p2] : List Value).toArray below meth c0 H locs 0 0 (MQ below (va_Qi (fun (r : Int32) (u : StM) => IM u.1 u.2.1 ∧ u.2.2 = rc ∧ (∀ k, k ∉ ([30, 39, 40, 42] : List Nat) → u.1 k = v k) ∧ (∀ k, k ∉ ([35, 36, 37, 38, 39, 40, 41] : List Nat) → u.2.1 k = F k) ∧ True) (BM dC dI g c) (AM g s.heap.size)) ([.ref (g 0), .int p0, .int p1, .int p2] : List Value).toArray s 0 0 (AM g s.heap.size)) (F0 m 125 ls []) := by
                      intro n
                      induction n with
                      | zero =>
                        intro x4_lp8181 v_lp8181 F_lp8181 H locs ls t8182 hm hf_lp8181 hI hF hP hS hl
                        exfalso
                        have := i32_rng x4_lp8181
                        have hI1 := hI.1
                        omega
                      | succ n ih_lp8181 =>
                        intro x4_lp8181 v_lp8181 F_lp8181 H locs ls t8182 hm hf_lp8181 hI hF hP hS hl
                        have rx4_lp8181 := i32_rng x4_lp8181
                        refine lv_iload hx hb dX12_contract_125 (lv_at hl 0 rfl) ?_
                        refine lv_aload_n hx hb dX12_contract_127 rfl (lv_at hl 1 rfl) ?_
                        refine va_get (D := (dC, dI)) (ci := 12) (v := .ref (g 37)) (C := RX12) (T := TX12) (N := 63) hx hb hwd inA_X12 hown hK hP 0 rfl rfl 51 (by decide) (hwd _ wk_219) (fun _ h9 => h9) rfl dX12_contract_128 ?_
                        refine lv_iload_n hx hb dX12_contract_131 rfl (lv_at hl 2 rfl) ?_
                        refine va_iald hx hb hK hP 37 36 rfl rfl (i := p0) (vin (a := p0.toInt) rfl (by omega)) dX12_contract_132 ?_
                        refine lv_topi (fun z8183 e8184 => ?_)
                        have t8185 : 0 ≤ z8183.toInt ∧ z8183.toInt ≤ 31 := by rw [e8184]; exact hI.2 37 _ _ rfl _
                        have tzz8183 : z8183.toInt = (F_lp8181 37 (p0 : Int32).toNatClampNeg).toInt := congrArg Int32.toInt e8184
                        refine lv_icmp_ge (tgt := 234) hx hb dX12_contract_133 (by decide) (fun c8186 => ?_) (fun c8186 => ?_)
                        · skip
                          have t8187 := cv_le (a := z8183.toInt) rfl (b := x4_lp8181.toInt) rfl c8186
                          refine lv_aload_n hx hb dX12_contract_234 rfl (lv_at hl 1 rfl) ?_
                          refine va_get (D := (dC, dI)) (ci := 12) (v := .ref (g 35)) (C := RX12) (T := TX12) (N := 63) hx hb hwd inA_X12 hown hK hP 0 rfl rfl 49 (by decide) (hwd _ wk_217) (fun _ h9 => h9) rfl dX12_contract_235 ?_
                          refine lv_iload_n hx hb dX12_contract_238 rfl (lv_at hl 2 rfl) ?_
                          refine lv_iload_n hx hb dX12_contract_239 rfl (lv_at hl 3 rfl) ?_
                          refine va_iast hx hb hK hP (DM hg) hS 35 34 rfl rfl (i := p0) (x := p1) (vin (a := p0.toInt) rfl (by omega)) dX12_contract_240 (fun H locs hP _ hS => ?_)
                          have hP := va_P_eq (sM_35 g c _ _ _ _) hP
                          have hI := IM.store0 hI 35 (p0 : Int32).toNatClampNeg p1 rfl
                          have hF := frUF (k := 35) (f := upd (F_lp8181 35) (p0 : Int32).toNatClampNeg p1) (by decide) hF
                          have st8189 : (va_up F_lp8181 35 (upd (F_lp8181 35) (p0 : Int32).toNatClampNeg p1)) 35 = upd (F_lp8181 35) (p0 : Int32).toNatClampNeg p1 := va_up_self _ _ _
                          have sn8190 : ∀ k9, k9 ≠ 35 → (va_up F_lp8181 35 (upd (F_lp8181 35) (p0 : Int32).toNatClampNeg p1)) k9 = F_lp8181 k9 := fun k9 h9 => va_up_ne _ _ h9
                          have hP : va_P (dC, dI) classes (wM g c v_lp8181 (va_up F_lp8181 35 (upd (F_lp8181 35) (p0 : Int32).toNatClampNeg p1)) rc) H := hP
                          generalize (va_up F_lp8181 35 (upd (F_lp8181 35) (p0 : Int32).toNatClampNeg p1)) = F8188 at hP hI hF st8189 sn8190
                          refine lv_aload_n hx hb dX12_contract_241 rfl (lv_at hl 1 rfl) ?_
                          refine va_get (D := (dC, dI)) (ci := 12) (v := .ref (g 36)) (C := RX12) (T := TX12) (N := 63) hx hb hwd inA_X12 hown hK hP 0 rfl rfl 50 (by decide) (hwd _ wk_218) (fun _ h9 => h9) rfl dX12_contract_242 ?_
                          refine lv_iload_n hx hb dX12_contract_245 rfl (lv_at hl 2 rfl) ?_
                          refine lv_iload_n hx hb dX12_contract_246 rfl (lv_at hl 4 rfl) ?_
                          refine va_iast hx hb hK hP (DM hg) hS 36 35 rfl rfl (i := p0) (x := p2) (vin (a := p0.toInt) rfl (by omega)) dX12_contract_247 (fun H locs hP _ hS => ?_)
                          have hP := va_P_eq (sM_36 g c _ _ _ _) hP
                          have hI := IM.store0 hI 36 (p0 : Int32).toNatClampNeg p2 rfl
                          have hF := frUF (k := 36) (f := upd (F8188 36) (p0 : Int32).toNatClampNeg p2) (by decide) hF
                          have st8192 : (va_up F8188 36 (upd (F8188 36) (p0 : Int32).toNatClampNeg p2)) 36 = upd (F8188 36) (p0 : Int32).toNatClampNeg p2 := va_up_self _ _ _
                          have sn8193 : ∀ k9, k9 ≠ 36 → (va_up F8188 36 (upd (F8188 36) (p0 : Int32).toNatClampNeg p2)) k9 = F8188 k9 := fun k9 h9 => va_up_ne _ _ h9
                          have hP : va_P (dC, dI) classes (wM g c v_lp8181 (va_up F8188 36 (upd (F8188 36) (p0 : Int32).toNatClampNeg p2)) rc) H := hP
                          generalize (va_up F8188 36 (upd (F8188 36) (p0 : Int32).toNatClampNeg p2)) = F8191 at hP hI hF st8192 sn8193
                          refine lv_aload_n hx hb dX12_contract_248 rfl (lv_at hl 1 rfl) ?_
                          refine va_get (D := (dC, dI)) (ci := 12) (v := .ref (g 37)) (C := RX12) (T := TX12) (N := 63) hx hb hwd inA_X12 hown hK hP 0 rfl rfl 51 (by decide) (hwd _ wk_219) (fun _ h9 => h9) rfl dX12_contract_249 ?_
                          refine lv_iload_n hx hb dX12_contract_252 rfl (lv_at hl 2 rfl) ?_
                          refine va_iald hx hb hK hP 37 36 rfl rfl (i := p0) (vin (a := p0.toInt) rfl (by omega)) dX12_contract_253 ?_
                          refine lv_topi (fun z8194 e8195 => ?_)
                          have t8196 : 0 ≤ z8194.toInt ∧ z8194.toInt ≤ 31 := by rw [e8195]; exact hI.2 37 _ _ rfl _
                          have tzz8194 : z8194.toInt = (F8191 37 (p0 : Int32).toNatClampNeg).toInt := congrArg Int32.toInt e8195
                          have hP9 : va_P (dC, dI) classes (wM g c v_lp8181 F8191 rc) H := hP
                          exact W.iret (v := z8194) hx hb hr (fun t ht hW => ⟨⟨z8194, (v_lp8181, F8191, rc), rfl, ⟨hI, rfl, (frC (by decide) hf_lp8181 (frU (by decide) (frC (by decide) hf_lp8076 (frC (by decide) hf8072 (frU (by decide) (frU (by decide) (fun _ _ => rfl))))))), hF, trivial⟩, (by show va_P _ _ _ t.heap; rw [ht]; exact hP9)⟩, hS.F ht⟩) hS.2.2 dX12_contract_254
                        · skip
                          have t8197 := cv_nle (a := z8183.toInt) rfl (b := x4_lp8181.toInt) rfl c8186
                          refine lv_aload_n hx hb dX12_contract_136 rfl (lv_at hl 1 rfl) ?_
                          refine va_get (D := (dC, dI)) (ci := 12) (v := .ref (g 38)) (C := RX12) (T := TX12) (N := 63) hx hb hwd inA_X12 hown hK hP 0 rfl rfl 52 (by decide) (hwd _ wk_220) (fun _ h9 => h9) rfl dX12_contract_137 ?_
                          refine lv_bipush (v := 32) hx hb dX12_contract_140 (by decide) ?_
                          refine lv_iload_n hx hb dX12_contract_142 rfl (lv_at hl 2 rfl) ?_
                          refine lv_imul hx hb dX12_contract_143 ?_
                          refine lv_topi (fun z8198 e8199 => ?_)
                          try (have t8200 := tmul e8199 (a := 32) (by decide) (b := p0.toInt) rfl (by omega))
                          refine lv_iload hx hb dX12_contract_144 (lv_at hl 0 rfl) ?_
                          refine lv_iadd hx hb dX12_contract_146 ?_
                          refine lv_topi (fun z8201 e8202 => ?_)
                          try (have t8203 := tadd e8202 (a := z8198.toInt) rfl (b := x4_lp8181.toInt) rfl (by omega))
                          refine lv_aload_n hx hb dX12_contract_147 rfl (lv_at hl 1 rfl) ?_
                          refine va_get (D := (dC, dI)) (ci := 12) (v := .ref (g 38)) (C := RX12) (T := TX12) (N := 63) hx hb hwd inA_X12 hown hK hP 0 rfl rfl 52 (by decide) (hwd _ wk_220) (fun _ h9 => h9) rfl dX12_contract_148 ?_
                          refine lv_sipush (v := 320) hx hb dX12_contract_151 (by decide) ?_
                          refine lv_iload hx hb dX12_contract_154 (lv_at hl 0 rfl) ?_
                          refine lv_iadd hx hb dX12_contract_156 ?_
                          refine lv_topi (fun z8204 e8205 => ?_)
                          try (have t8206 := tadd e8205 (a := 320) (by decide) (b := x4_lp8181.toInt) rfl (by omega))
                          refine va_iald hx hb hK hP 38 37 rfl rfl (i := z8204) (vin (a := z8204.toInt) rfl (by omega)) dX12_contract_157 ?_
                          refine lv_topi (fun z8207 e8208 => ?_)
                          have tzz8207 : z8207.toInt = (F_lp8181 38 (z8204 : Int32).toNatClampNeg).toInt := congrArg Int32.toInt e8208
                          refine va_iast hx hb hK hP (DM hg) hS 38 37 rfl rfl (i := z8201) (x := z8207) (vin (a := z8201.toInt) rfl (by omega)) dX12_contract_158 (fun H locs hP _ hS => ?_)
                          have hP := va_P_eq (sM_38 g c _ _ _ _) hP
                          have hI := IM.store0 hI 38 (z8201 : Int32).toNatClampNeg z8207 rfl
                          have hF := frUF (k := 38) (f := upd (F_lp8181 38) (z8201 : Int32).toNatClampNeg z8207) (by decide) hF
                          have st8210 : (va_up F_lp8181 38 (upd (F_lp8181 38) (z8201 : Int32).toNatClampNeg z8207)) 38 = upd (F_lp8181 38) (z8201 : Int32).toNatClampNeg z8207 := va_up_self _ _ _
                          have sn8211 : ∀ k9, k9 ≠ 38 → (va_up F_lp8181 38 (upd (F_lp8181 38) (z8201 : Int32).toNatClampNeg z8207)) k9 = F_lp8181 k9 := fun k9 h9 => va_up_ne _ _ h9
                          have hP : va_P (dC, dI) classes (wM g c v_lp8181 (va_up F_lp8181 38 (upd (F_lp8181 38) (z8201 : Int32).toNatClampNeg z8207)) rc) H := hP
                          generalize (va_up F_lp8181 38 (upd (F_lp8181 38) (z8201 : Int32).toNatClampNeg z8207)) = F8209 at hP hI hF st8210 sn8211
                          refine lv_aload_n hx hb dX12_contract_159 rfl (lv_at hl 1 rfl) ?_
                          refine va_get (D := (dC, dI)) (ci := 12) (v := .ref (g 39)) (C := RX12) (T := TX12) (N := 63) hx hb hwd inA_X12 hown hK hP 0 rfl rfl 53 (by decide) (hwd _ wk_221) (fun _ h9 => h9) rfl dX12_contract_160 ?_
                          refine lv_bipush (v := 32) hx hb dX12_contract_163 (by decide) ?_
                          refine lv_iload_n hx hb dX12_contract_165 rfl (lv_at hl 2 rfl) ?_
                          refine lv_imul hx hb dX12_contract_166 ?_
                          refine lv_topi (fun z8212 e8213 => ?_)
                          try (have t8214 := tmul e8213 (a := 32) (by decide) (b := p0.toInt) rfl (by omega))
                          refine lv_iload hx hb dX12_contract_167 (lv_at hl 0 rfl) ?_
                          refine lv_iadd hx hb dX12_contract_169 ?_
                          refine lv_topi (fun z8215 e8216 => ?_)
                          try (have t8217 := tadd e8216 (a := z8212.toInt) rfl (b := x4_lp8181.toInt) rfl (by omega))
                          refine lv_aload_n hx hb dX12_contract_170 rfl (lv_at hl 1 rfl) ?_
                          refine va_get (D := (dC, dI)) (ci := 12) (v := .ref (g 39)) (C := RX12) (T := TX12) (N := 63) hx hb hwd inA_X12 hown hK hP 0 rfl rfl 53 (by decide) (hwd _ wk_221) (fun _ h9 => h9) rfl dX12_contract_171 ?_
                          refine lv_sipush (v := 320) hx hb dX12_contract_174 (by decide) ?_
                          refine lv_iload hx hb dX12_contract_177 (lv_at hl 0 rfl) ?_
                          refine lv_iadd hx hb dX12_contract_179 ?_
                          refine lv_topi (fun z8218 e8219 => ?_)
                          try (have t8220 := tadd e8219 (a := 320) (by decide) (b := x4_lp8181.toInt) rfl (by omega))
                          refine va_iald hx hb hK hP 39 38 rfl rfl (i := z8218) (vin (a := z8218.toInt) rfl (by omega)) dX12_contract_180 ?_
                          refine lv_topi (fun z8221 e8222 => ?_)
                          have tzz8221 : z8221.toInt = (F8209 39 (z8218 : Int32).toNatClampNeg).toInt := congrArg Int32.toInt e8222
                          refine va_iast hx hb hK hP (DM hg) hS 39 38 rfl rfl (i := z8215) (x := z8221) (vin (a := z8215.toInt) rfl (by omega)) dX12_contract_181 (fun H locs hP _ hS => ?_)
                          have hP := va_P_eq (sM_39 g c _ _ _ _) hP
                          have hI := IM.store0 hI 39 (z8215 : Int32).toNatClampNeg z8221 rfl
                          have hF := frUF (k := 39) (f := upd (F8209 39) (z8215 : Int32).toNatClampNeg z8221) (by decide) hF
                          have st8224 : (va_up F8209 39 (upd (F8209 39) (z8215 : Int32).toNatClampNeg z8221)) 39 = upd (F8209 39) (z8215 : Int32).toNatClampNeg z8221 := va_up_self _ _ _
                          have sn8225 : ∀ k9, k9 ≠ 39 → (va_up F8209 39 (upd (F8209 39) (z8215 : Int32).toNatClampNeg z8221)) k9 = F8209 k9 := fun k9 h9 => va_up_ne _ _ h9
                          have hP : va_P (dC, dI) classes (wM g c v_lp8181 (va_up F8209 39 (upd (F8209 39) (z8215 : Int32).toNatClampNeg z8221)) rc) H := hP
                          generalize (va_up F8209 39 (upd (F8209 39) (z8215 : Int32).toNatClampNeg z8221)) = F8223 at hP hI hF st8224 sn8225
                          refine lv_aload_n hx hb dX12_contract_182 rfl (lv_at hl 1 rfl) ?_
                          refine va_get (D := (dC, dI)) (ci := 12) (v := .ref (g 40)) (C := RX12) (T := TX12) (N := 63) hx hb hwd inA_X12 hown hK hP 0 rfl rfl 54 (by decide) (hwd _ wk_222) (fun _ h9 => h9) rfl dX12_contract_183 ?_
                          refine lv_bipush (v := 32) hx hb dX12_contract_186 (by decide) ?_
                          refine lv_iload_n hx hb dX12_contract_188 rfl (lv_at hl 2 rfl) ?_
                          refine lv_imul hx hb dX12_contract_189 ?_
                          refine lv_topi (fun z8226 e8227 => ?_)
                          try (have t8228 := tmul e8227 (a := 32) (by decide) (b := p0.toInt) rfl (by omega))
                          refine lv_iload hx hb dX12_contract_190 (lv_at hl 0 rfl) ?_
                          refine lv_iadd hx hb dX12_contract_192 ?_
                          refine lv_topi (fun z8229 e8230 => ?_)
                          try (have t8231 := tadd e8230 (a := z8226.toInt) rfl (b := x4_lp8181.toInt) rfl (by omega))
                          refine lv_aload_n hx hb dX12_contract_193 rfl (lv_at hl 1 rfl) ?_
                          refine va_get (D := (dC, dI)) (ci := 12) (v := .ref (g 40)) (C := RX12) (T := TX12) (N := 63) hx hb hwd inA_X12 hown hK hP 0 rfl rfl 54 (by decide) (hwd _ wk_222) (fun _ h9 => h9) rfl dX12_contract_194 ?_
                          refine lv_sipush (v := 320) hx hb dX12_contract_197 (by decide) ?_
                          refine lv_iload hx hb dX12_contract_200 (lv_at hl 0 rfl) ?_
                          refine lv_iadd hx hb dX12_contract_202 ?_
                          refine lv_topi (fun z8232 e8233 => ?_)
                          try (have t8234 := tadd e8233 (a := 320) (by decide) (b := x4_lp8181.toInt) rfl (by omega))
                          refine va_iald hx hb hK hP 40 39 rfl rfl (i := z8232) (vin (a := z8232.toInt) rfl (by omega)) dX12_contract_203 ?_
                          refine lv_topi (fun z8235 e8236 => ?_)
                          have tzz8235 : z8235.toInt = (F8223 40 (z8232 : Int32).toNatClampNeg).toInt := congrArg Int32.toInt e8236
                          refine va_iast hx hb hK hP (DM hg) hS 40 39 rfl rfl (i := z8229) (x := z8235) (vin (a := z8229.toInt) rfl (by omega)) dX12_contract_204 (fun H locs hP _ hS => ?_)
                          have hP := va_P_eq (sM_40 g c _ _ _ _) hP
                          have hI := IM.store0 hI 40 (z8229 : Int32).toNatClampNeg z8235 rfl
                          have hF := frUF (k := 40) (f := upd (F8223 40) (z8229 : Int32).toNatClampNeg z8235) (by decide) hF
                          have st8238 : (va_up F8223 40 (upd (F8223 40) (z8229 : Int32).toNatClampNeg z8235)) 40 = upd (F8223 40) (z8229 : Int32).toNatClampNeg z8235 := va_up_self _ _ _
                          have sn8239 : ∀ k9, k9 ≠ 40 → (va_up F8223 40 (upd (F8223 40) (z8229 : Int32).toNatClampNeg z8235)) k9 = F8223 k9 := fun k9 h9 => va_up_ne _ _ h9
                          have hP : va_P (dC, dI) classes (wM g c v_lp8181 (va_up F8223 40 (upd (F8223 40) (z8229 : Int32).toNatClampNeg z8235)) rc) H := hP
                          generalize (va_up F8223 40 (upd (F8223 40) (z8229 : Int32).toNatClampNeg z8235)) = F8237 at hP hI hF st8238 sn8239
                          refine lv_aload_n hx hb dX12_contract_205 rfl (lv_at hl 1 rfl) ?_
                          refine va_get (D := (dC, dI)) (ci := 12) (v := .ref (g 41)) (C := RX12) (T := TX12) (N := 63) hx hb hwd inA_X12 hown hK hP 0 rfl rfl 55 (by decide) (hwd _ wk_223) (fun _ h9 => h9) rfl dX12_contract_206 ?_
                          refine lv_bipush (v := 32) hx hb dX12_contract_209 (by decide) ?_
                          refine lv_iload_n hx hb dX12_contract_211 rfl (lv_at hl 2 rfl) ?_
                          refine lv_imul hx hb dX12_contract_212 ?_
                          refine lv_topi (fun z8240 e8241 => ?_)
                          try (have t8242 := tmul e8241 (a := 32) (by decide) (b := p0.toInt) rfl (by omega))
                          refine lv_iload hx hb dX12_contract_213 (lv_at hl 0 rfl) ?_
                          refine lv_iadd hx hb dX12_contract_215 ?_
                          refine lv_topi (fun z8243 e8244 => ?_)
                          try (have t8245 := tadd e8244 (a := z8240.toInt) rfl (b := x4_lp8181.toInt) rfl (by omega))
                          refine lv_aload_n hx hb dX12_contract_216 rfl (lv_at hl 1 rfl) ?_
                          refine va_get (D := (dC, dI)) (ci := 12) (v := .ref (g 41)) (C := RX12) (T := TX12) (N := 63) hx hb hwd inA_X12 hown hK hP 0 rfl rfl 55 (by decide) (hwd _ wk_223) (fun _ h9 => h9) rfl dX12_contract_217 ?_
                          refine lv_sipush (v := 320) hx hb dX12_contract_220 (by decide) ?_
                          refine lv_iload hx hb dX12_contract_223 (lv_at hl 0 rfl) ?_
                          refine lv_iadd hx hb dX12_contract_225 ?_
                          refine lv_topi (fun z8246 e8247 => ?_)
                          try (have t8248 := tadd e8247 (a := 320) (by decide) (b := x4_lp8181.toInt) rfl (by omega))
                          refine va_iald hx hb hK hP 41 40 rfl rfl (i := z8246) (vin (a := z8246.toInt) rfl (by omega)) dX12_contract_226 ?_
                          refine lv_topi (fun z8249 e8250 => ?_)
                          have tzz8249 : z8249.toInt = (F8237 41 (z8246 : Int32).toNatClampNeg).toInt := congrArg Int32.toInt e8250
                          refine va_iast hx hb hK hP (DM hg) hS 41 40 rfl rfl (i := z8243) (x := z8249) (vin (a := z8243.toInt) rfl (by omega)) dX12_contract_227 (fun H locs hP _ hS => ?_)
                          have hP := va_P_eq (sM_41 g c _ _ _ _) hP
                          have hI := IM.store0 hI 41 (z8243 : Int32).toNatClampNeg z8249 rfl
                          have hF := frUF (k := 41) (f := upd (F8237 41) (z8243 : Int32).toNatClampNeg z8249) (by decide) hF
                          have st8252 : (va_up F8237 41 (upd (F8237 41) (z8243 : Int32).toNatClampNeg z8249)) 41 = upd (F8237 41) (z8243 : Int32).toNatClampNeg z8249 := va_up_self _ _ _
                          have sn8253 : ∀ k9, k9 ≠ 41 → (va_up F8237 41 (upd (F8237 41) (z8243 : Int32).toNatClampNeg z8249)) k9 = F8237 k9 := fun k9 h9 => va_up_ne _ _ h9
                          have hP : va_P (dC, dI) classes (wM g c v_lp8181 (va_up F8237 41 (upd (F8237 41) (z8243 : Int32).toNatClampNeg z8249)) rc) H := hP
                          generalize (va_up F8237 41 (upd (F8237 41) (z8243 : Int32).toNatClampNeg z8249)) = F8251 at hP hI hF st8252 sn8253
                          obtain ⟨z8254, e8255⟩ : ∃ y : Int32, y = x4_lp8181 + 1 := ⟨_, rfl⟩
                          try (have t8256 := tadd e8255 rfl (b := 1) (by decide) (by omega))
                          refine lv_iinc (v := z8254) (lv' := [(4, .int z8254), (0, .ref (g 0)), (1, .int p0), (2, .int p1), (3, .int p2)]) hx hb dX12_contract_228 hl (k := 0) rfl (by rw [e8255]; rfl) (by decide) rfl (fun ls hl => ?_)
                          refine lv_goto (tgt := 125) hx hb dX12_contract_231 (by decide) ?_
                          exact ih_lp8181 z8254 v_lp8181 F8251 _ _ _ (by omega) (by omega) hf_lp8181 hI hF hP hS (lv_sub hl [0, 1, 2, 3, 4] rfl)
                    obtain ⟨n9, hn9⟩ : ∃ n : Nat, 2147483648 - 0 ≤ (n : Int) := ⟨((2147483648 - 0 : Int)).toNat, by omega⟩
                    exact lp8181 n9 0 (va_up v_lp8076 30 0) F8178 H _ ls (by have : (0 : Int32).toInt = 0 := (by decide); omega) (by have : (0 : Int32).toInt = 0 := (by decide); omega) (fun _ _ => rfl) hI hF hP hS hl
                  · skip
                    have t8257 := cv_nlt (a := (v_lp8076 40).toInt) rfl (b := 0) (by decide) c8173
                    refine lv_bipush (v := (-100)) hx hb dX12_contract_101 (by decide) ?_
                    refine lv_aload_n hx hb dX12_contract_103 rfl (lv_at hl 0 rfl) ?_
                    refine va_get (D := (dC, dI)) (ci := 12) (v := .int (v_lp8076 40)) (C := RX12) (T := TX12) (N := 63) hx hb hwd inA_X12 hown hK hP 0 rfl rfl 40 (by decide) (hwd _ wk_1005) (fun _ h9 => h9) rfl dX12_contract_104 ?_
                    refine lv_isub hx hb dX12_contract_107 ?_
                    refine lv_topi (fun z8258 e8259 => ?_)
                    try (have t8260 := tsub e8259 (a := (-100)) (by decide) (b := (v_lp8076 40).toInt) rfl (by omega))
                    have hP9 : va_P (dC, dI) classes (wM g c (va_up v_lp8076 30 0) F_lp8076 rc) H := hP
                    exact W.iret (v := z8258) hx hb hr (fun t ht hW => ⟨⟨z8258, ((va_up v_lp8076 30 0), F_lp8076, rc), rfl, ⟨hI, rfl, (frU (by decide) (frC (by decide) hf_lp8076 (frC (by decide) hf8072 (frU (by decide) (frU (by decide) (fun _ _ => rfl)))))), hF, trivial⟩, (by show va_P _ _ _ t.heap; rw [ht]; exact hP9)⟩, hS.F ht⟩) hS.2.2 dX12_contract_108
                · skip
                  have t8261 := cv_nle (a := (v 30).toInt) rfl (b := (v_lp8076 39).toInt) rfl c8171
                  refine lv_aload_n hx hb dX12_contract_80 rfl (lv_at hl 0 rfl) ?_
                  refine lv_bipush (v := 10) hx hb dX12_contract_81 (by decide) ?_
                  have t8262 : 0 ≤ (v 30).toInt ∧ (v 30).toInt ≤ 120 := by have h9 := hI.1 30 _ _ rfl; rw [show v_lp8076 30 = v 30 from (hf_lp8076 30 (by decide)).trans (hf8072 30 (by decide))] at h9; exact h9
                  have t8263 : 0 ≤ (v_lp8076 39).toInt ∧ (v_lp8076 39).toInt ≤ 120 := hI.1 39 _ _ rfl
                  refine va_callv (va_runV (As := [.int 10]) (rest := []) ⟨hx, hb, hml, hown, hwd⟩ (c_X12_readLine l dC dI g c adK adV v_lp8076 F_lp8076 rc H.size  hg hI (by have h9 : v_lp8076 39 = v_lp8076 39 := rfl; (try rw [h9]); clear h9; have h9 : v_lp8076 30 = v 30 := (hf_lp8076 30 (by decide)).trans (hf8072 30 (by decide)); (try rw [h9]); clear h9; have b9 := t8077; omega)) (cwV 1 hwd (gV wk_1131 wk_1128 wk_1129 wk_1130 wk_5) rfl rfl rfl (by decide +kernel) ⟨Nat.le_of_ble_eq_true rfl, Nat.le_of_ble_eq_true rfl⟩) ⟨PM.blind, va_recv hK hP (ci := 12) (q0 := 0) rfl rfl, fun U hU hW => ⟨rfl, PM.at hK hE hP hS hU hW⟩⟩ rfl rfl hl.1 rfl (lv_room (Nat.le_of_ble_eq_true rfl)) dX12_contract_83 ⟨Nat.le_of_ble_eq_true rfl, Nat.le_of_ble_eq_true rfl⟩) hS (fun q _ h => (freeM hS) q h) (freeM hS) (fun u t H1 locs ht hvm hw hB hz1 hk1 hS => ?_)
                  unfold BM at hB
                  rw [ht] at hB
                  obtain ⟨v8265, F8266, rc9⟩ := u
                  obtain ⟨hI, hrc, hf8267, hG8268, hw⟩ := hw
                  dsimp only at hI hrc hB hf8267 hG8268 hw
                  have hF := frCF (by decide) hG8268 hF
                  rw [hrc] at hB
                  have hP : va_P (dC, dI) classes (wM g c v8265 F8266 rc) H1 := hB
                  replace hw : 4 * (F8266 37 (10 : Int32).toNatClampNeg).toInt ≤ (v8265 39).toInt ∧ (v8265 39).toInt ≤ (v_lp8076 30).toInt ∧ (v_lp8076 39).toInt ≤ (v8265 39).toInt ∧ ((v8265 40).toInt < 0 → (v_lp8076 39).toInt < (v8265 39).toInt) := hw
                  rw [show v_lp8076 30 = v 30 from (hf_lp8076 30 (by decide)).trans (hf8072 30 (by decide))] at hw
                  have hw_r8264 := hw
                  clear hw
                  have t8269 : 0 ≤ (v8265 39).toInt ∧ (v8265 39).toInt ≤ 120 := hI.1 39 _ _ rfl
                  have k8270 : (10 : Int32).toInt = 10 := by decide
                  clear hz1
                  generalize H1 = H at hP hS ⊢
                  refine lv_goto (tgt := 62) hx hb dX12_contract_86 (by decide) ?_
                  exact ih_lp8076  v8265 F8266 _ _ _ (by have h9 : v8265 39 = v8265 39 := rfl; (try rw [h9]); clear h9; have h9 : v8265 30 = v 30 := (hf8267 30 (by decide)).trans ((hf_lp8076 30 (by decide)).trans (hf8072 30 (by decide))); (try rw [h9]); clear h9; omega) (by have h9 : v8265 39 = v8265 39 := rfl; (try rw [h9]); clear h9; have h9 : v8265 40 = v8265 40 := rfl; (try rw [h9]); clear h9; omega) (frC (by decide) hf8267 hf_lp8076) hI hF hP hS (lv_sub hl [0, 1, 2, 3] rfl)
          obtain ⟨n9, hn9⟩ : ∃ n : Nat, n = 200 := ⟨_, rfl⟩
          exact lp8076 n9  v8070 F8071 H _ ls (by have h9 : v8070 39 = v8070 39 := rfl; (try rw [h9]); clear h9; have h9 : v8070 30 = v 30 := hf8072 30 (by decide); (try rw [h9]); clear h9; omega) (by have h9 : v8070 39 = v8070 39 := rfl; (try rw [h9]); clear h9; have h9 : v8070 40 = v8070 40 := rfl; (try rw [h9]); clear h9; omega) (fun _ _ => rfl) hI hF hP hS hl
        · skip
          have t8271 := cv_ne (a := r8062.toInt) rfl (b := 0) (by decide) c8063
          refine lv_bipush (v := (-2)) hx hb dX12_contract_35 (by decide) ?_
          have hP9 : va_P (dC, dI) classes (wM g c v F rc) H := hP
          exact W.iret (v := (-2)) hx hb hr (fun t ht hW => ⟨⟨(-2), (v, F, rc), rfl, ⟨hI, rfl, (fun _ _ => rfl), hF, trivial⟩, (by show va_P _ _ _ t.heap; rw [ht]; exact hP9)⟩, hS.F ht⟩) hS.2.2 dX12_contract_37
      · skip
        have t8272 := cv_eq (a := r8057.toInt) rfl (b := 0) (by decide) c8060
        refine lv_iconst (v := (-1)) hx hb dX12_contract_25 (by decide) ?_
        have hP9 : va_P (dC, dI) classes (wM g c v F rc) H := hP
        exact W.iret (v := (-1)) hx hb hr (fun t ht hW => ⟨⟨(-1), (v, F, rc), rfl, ⟨hI, rfl, (fun _ _ => rfl), hF, trivial⟩, (by show va_P _ _ _ t.heap; rw [ht]; exact hP9)⟩, hS.F ht⟩) hS.2.2 dX12_contract_26
