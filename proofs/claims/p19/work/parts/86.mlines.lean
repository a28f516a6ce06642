set_option maxHeartbeats 8000000 in
set_option maxRecDepth 100000 in
theorem c_X12_takesNumber (l : Launch) (dC : Nat → ClassId) (dI : Nat → Nat → Nat) (g : Nat → Nat) (c : Nat → ClassId) (adK adV : Nat → Nat) (v : Nat → Int32) (F : Nat → Nat → Int32) (rc sz : Nat) (hg : injM g) (hI : IM v F) (hq : (v 39).toInt ≤ (v 30).toInt) : Met l yX12_takesNumber (Cond.code yX12_takesNumber cX12_takesNumber 1 (some .boolean) :: wA) ({ frames := 3, cells := 0, slots := 0, locals := 120 }) (va_Pc [.ref (g 0)] (PM dC dI g c adK adV v F rc sz)) (va_Qi (fun (r : Int32) (u : StM) => IM u.1 u.2.1 ∧ u.2.2 = rc ∧ (∀ k, k ∉ ([39, 40, 42] : List Nat) → u.1 k = v k) ∧ (∀ k, k ∉ ([] : List Nat) → u.2.1 k = F k) ∧ (((r.toInt = 1 ∧ (v 39).toInt + 2 ≤ (u.1 39).toInt ∧ (u.1 39).toInt ≤ (v 30).toInt ∧ (u.1 40).toInt = (v 40).toInt) ∨ (r.toInt = 0 ∧ 0 ≤ (u.1 40).toInt ∧ (0 ≤ (v 40).toInt ∨ (u.1 40).toInt = (u.1 39).toInt) ∧ (v 39).toInt ≤ (u.1 39).toInt ∧ (u.1 39).toInt ≤ (v 30).toInt)) ∧ nbF (v 30) (F 24) (v 40).toInt (v 39).toInt (u.1 40).toInt (u.1 39).toInt)) (BM dC dI g c) (AM g sz)) 0 0 (AM g sz) := by
  refine Met.ofW (cc := cX12_takesNumber) (maxL := 1) (ret := (some .boolean)) (by decide) rfl ?_
  intro p e s m args below meth c0 s₁ B hml hv
  obtain ⟨rfl, hsz, hP, hK, hE⟩ := hv
  have hx := B.exec
  have hb := B.bytes
  have hr := B.returns
  have hts := atoms_spec (ws := Cond.code yX12_takesNumber cX12_takesNumber 1 (some .boolean) :: wA) B.pre
  have hwd : ∀ w ∈ wA, w.before _ s = true := fun w h => hts w (List.mem_cons_of_mem _ h)
  have hown : s.vm.findClass RX12 = some m.cls := findClass_of_methodNamed B.named
  have hlocks := B.notSynchronized
  subst hsz
  have hl := lv_entry ([.ref (g 0)]) (n := 1) (Nat.le_of_ble_eq_true rfl)
  rw [lg_entry_eq]
  generalize (lg_sl ([.ref (g 0)]) ++ List.replicate (1 - (lg_sl ([.ref (g 0)])).length) Slot.unset).toArray = ls at hl ⊢
  have hl : lv_has ls 1 [(0, .ref (g 0))] := hl
  obtain ⟨H, eH⟩ : ∃ z, z = s.heap := ⟨_, rfl⟩
  have hP : va_P (dC, dI) classes (wM g c v F rc) H := by rw [eH]; exact hP
  have hS : va_S (AM g s.heap.size) s.heap H [] := by rw [eH]; exact va_S.rf
  refine my_heap eH ?_
  have hF : ∀ k, k ∉ ([] : List Nat) → F k = F k := fun _ _ => rfl
  have hb30 : 0 ≤ (v 30).toInt ∧ (v 30).toInt ≤ 120 := hI.1 30 _ _ rfl
  have hb39 : 0 ≤ (v 39).toInt ∧ (v 39).toInt ≤ 120 := hI.1 39 _ _ rfl
  refine lv_aload_n hx hb dX12_takesNumber_0 rfl (lv_at hl 0 rfl) ?_
  have t7735 : 0 ≤ (v 30).toInt ∧ (v 30).toInt ≤ 120 := hI.1 30 _ _ rfl
  have t7736 : 0 ≤ (v 39).toInt ∧ (v 39).toInt ≤ 120 := hI.1 39 _ _ rfl
  refine va_calli (va_runV (As := []) (rest := []) ⟨hx, hb, hml, hown, hwd⟩ (c_X12_look l dC dI g c adK adV v F rc H.size  hg hI ) (cwV 0 hwd (gV wk_1017 wk_1014 wk_1015 wk_1016 wk_5) rfl rfl rfl (by decide +kernel) ⟨Nat.le_of_ble_eq_true rfl, Nat.le_of_ble_eq_true rfl⟩) ⟨PM.blind, va_recv hK hP (ci := 12) (q0 := 0) rfl rfl, fun U hU hW => ⟨rfl, PM.at hK hE hP hS hU hW⟩⟩ rfl rfl hl.1 rfl (lv_room (Nat.le_of_ble_eq_true rfl)) dX12_takesNumber_1 ⟨Nat.le_of_ble_eq_true rfl, Nat.le_of_ble_eq_true rfl⟩) hS (fun q _ h => (freeM hS) q h) (freeM hS) (fun r7737 u t H1 locs ht hvm hw hB hz1 hk1 hS => ?_)
  unfold BM at hB
  rw [ht] at hB
  have hP : va_P (dC, dI) classes (wM g c v F rc) H1 := hB
  replace hw : r7737.toInt = sg (v 30) (F 24) (v 39).toInt ∧ ((v 39).toInt < (v 30).toInt ∨ r7737.toInt = -1) := hw
  have hw_r7737 := hw
  clear hw
  clear hz1
  generalize H1 = H at hP hS ⊢
  refine lv_bipush (v := 32) hx hb dX12_takesNumber_4 (by decide) ?_
  refine lv_icmp_eq (tgt := 15) hx hb dX12_takesNumber_6 (by decide) (fun c7738 => ?_) (fun c7738 => ?_)
  · skip
    have t7739 := cv_eq (a := r7737.toInt) rfl (b := 32) (by decide) c7738
    refine lv_aload_n hx hb dX12_takesNumber_15 rfl (lv_at hl 0 rfl) ?_
    refine lv_dup hx hb dX12_takesNumber_16 rfl ?_
    refine va_get (D := (dC, dI)) (ci := 12) (v := .int (v 39)) (C := RX12) (T := TX12) (N := 63) hx hb hwd inA_X12 hown hK hP 0 rfl rfl 39 (by decide) (hwd _ wk_1004) (fun _ h9 => h9) rfl dX12_takesNumber_17 ?_
    have t7740 : 0 ≤ (v 39).toInt ∧ (v 39).toInt ≤ 120 := hI.1 39 _ _ rfl
    refine lv_iconst (v := 1) hx hb dX12_takesNumber_20 (by decide) ?_
    refine lv_iadd hx hb dX12_takesNumber_21 ?_
    refine lv_topi (fun z7741 e7742 => ?_)
    try (have t7743 := tadd e7742 (a := (v 39).toInt) rfl (b := 1) (by decide) (by omega))
    refine va_put (D := (dC, dI)) (ci := 12) (v := .int z7741) (ty := .int) (C := RX12) (T := TX12) (N := 63) (fs := fsM_0 g v rc) hx hb hwd inA_X12 tyX12 tyX12_ok nmX12 hown hK hP (DM hg) hS 0 rfl rfl 39 (by decide) (hwd _ wk_1004) (fun _ h9 => h9) rfl (by decide +kernel) rfl rfl (Nat.le_of_ble_eq_true rfl) dX12_takesNumber_22 (fun H locs hP _ hS => ?_)
    have hP := va_P_eq (pM_39 g c _ _ _ _) hP
    have hI := IM.put hI 39 z7741 rfl (by omega)
    refine lv_aload_n hx hb dX12_takesNumber_25 rfl (lv_at hl 0 rfl) ?_
    have t7744 : 0 ≤ (v 30).toInt ∧ (v 30).toInt ≤ 120 := hI.1 30 _ _ rfl
    have t7745 : 0 ≤ z7741.toInt ∧ z7741.toInt ≤ 120 := hI.1 39 _ _ rfl
    refine va_calli (va_runV (As := []) (rest := []) ⟨hx, hb, hml, hown, hwd⟩ (c_X12_digits l dC dI g c adK adV (va_up v 39 z7741) F rc H.size  hg hI (by have h9 : (va_up v 39 z7741) 39 = z7741 := rfl; (try rw [h9]); clear h9; have h9 : (va_up v 39 z7741) 30 = v 30 := rfl; (try rw [h9]); clear h9; omega)) (cwV 0 hwd (gV wk_1041 wk_1038 wk_1039 wk_1040 wk_5) rfl rfl rfl (by decide +kernel) ⟨Nat.le_of_ble_eq_true rfl, Nat.le_of_ble_eq_true rfl⟩) ⟨PM.blind, va_recv hK hP (ci := 12) (q0 := 0) rfl rfl, fun U hU hW => ⟨rfl, PM.at hK hE hP hS hU hW⟩⟩ rfl rfl hl.1 rfl (lv_room (Nat.le_of_ble_eq_true rfl)) dX12_takesNumber_26 ⟨Nat.le_of_ble_eq_true rfl, Nat.le_of_ble_eq_true rfl⟩) hS (fun q _ h => (freeM hS) q h) (freeM hS) (fun r7746 u t H1 locs ht hvm hw hB hz1 hk1 hS => ?_)
    unfold BM at hB
    rw [ht] at hB
    obtain ⟨v7747, F7748, rc9⟩ := u
    obtain ⟨hI, hrc, hf7749, hG7750, hw⟩ := hw
    dsimp only at hI hrc hB hf7749 hG7750 hw
    have hF := frCF (by decide) hG7750 hF
    rw [hrc] at hB
    have hP : va_P (dC, dI) classes (wM g c v7747 F7748 rc) H1 := hB
    replace hw : ((r7746.toInt = 1 ∧ z7741.toInt < (v7747 39).toInt ∧ (v7747 39).toInt ≤ (v 30).toInt ∧ (v7747 40).toInt = (v 40).toInt) ∨ (r7746.toInt = 0 ∧ 0 ≤ (v7747 40).toInt ∧ (0 ≤ (v 40).toInt ∨ (v7747 40).toInt = (v7747 39).toInt) ∧ z7741.toInt ≤ (v7747 39).toInt ∧ (v7747 39).toInt ≤ (v 30).toInt)) ∧ dgF (v 30) (F 24) (v 40).toInt z7741.toInt (v7747 40).toInt (v7747 39).toInt := hw
    have hw_r7746 := hw
    clear hw
    have t7751 : 0 ≤ (v7747 39).toInt ∧ (v7747 39).toInt ≤ 120 := hI.1 39 _ _ rfl
    clear hz1
    generalize H1 = H at hP hS ⊢
    have hP9 : va_P (dC, dI) classes (wM g c v7747 F7748 rc) H := hP
    exact W.zret (v := r7746) hx hb hr (narB (by omega)) (fun t ht hW => ⟨⟨r7746, (v7747, F7748, rc), rfl, ⟨hI, rfl, (frC (by decide) hf7749 (frU (by decide) (fun _ _ => rfl))), hF, (by show ((r7746.toInt = 1 ∧ (v 39).toInt + 2 ≤ (v7747 39).toInt ∧ (v7747 39).toInt ≤ (v 30).toInt ∧ (v7747 40).toInt = (v 40).toInt) ∨ (r7746.toInt = 0 ∧ 0 ≤ (v7747 40).toInt ∧ (0 ≤ (v 40).toInt ∨ (v7747 40).toInt = (v7747 39).toInt) ∧ (v 39).toInt ≤ (v7747 39).toInt ∧ (v7747 39).toInt ≤ (v 30).toInt)) ∧ nbF (v 30) (F 24) (v 40).toInt (v 39).toInt (v7747 40).toInt (v7747 39).toInt; exact ⟨by omega, fun hf => nb.yes (by omega) (by omega) (by omega) (hw_r7746.2 (by omega))⟩)⟩, (by show va_P _ _ _ t.heap; rw [ht]; exact hP9)⟩, hS.F ht⟩) hS.2.2 dX12_takesNumber_29
  · skip
    have t7752 := cv_ne (a := r7737.toInt) rfl (b := 32) (by decide) c7738
    refine lv_aload_n hx hb dX12_takesNumber_9 rfl (lv_at hl 0 rfl) ?_
    have t7753 : 0 ≤ (v 39).toInt ∧ (v 39).toInt ≤ 120 := hI.1 39 _ _ rfl
    refine va_callv (va_runV (As := []) (rest := []) ⟨hx, hb, hml, hown, hwd⟩ (c_X12_wrong l dC dI g c adK adV v F rc H.size  hg hI ) (cwV 0 hwd (gV wk_1029 wk_1026 wk_1027 wk_1028 wk_5) rfl rfl rfl (by decide +kernel) ⟨Nat.le_of_ble_eq_true rfl, Nat.le_of_ble_eq_true rfl⟩) ⟨PM.blind, va_recv hK hP (ci := 12) (q0 := 0) rfl rfl, fun U hU hW => ⟨rfl, PM.at hK hE hP hS hU hW⟩⟩ rfl rfl hl.1 rfl (lv_room (Nat.le_of_ble_eq_true rfl)) dX12_takesNumber_10 ⟨Nat.le_of_ble_eq_true rfl, Nat.le_of_ble_eq_true rfl⟩) hS (fun q _ h => (freeM hS) q h) (freeM hS) (fun u t H1 locs ht hvm hw hB hz1 hk1 hS => ?_)
    unfold BM at hB
    rw [ht] at hB
    obtain ⟨v7755, F7756, rc9⟩ := u
    obtain ⟨hI, hrc, hf7757, hG7758, hw⟩ := hw
    dsimp only at hI hrc hB hf7757 hG7758 hw
    have hF := frCF (by decide) hG7758 hF
    rw [hrc] at hB
    have hP : va_P (dC, dI) classes (wM g c v7755 F7756 rc) H1 := hB
    replace hw : ((v 40).toInt < 0 ∧ (v7755 40).toInt = (v 39).toInt) ∨ (0 ≤ (v 40).toInt ∧ (v7755 40).toInt = (v 40).toInt) := hw
    have hw_r7754 := hw
    clear hw
    clear hz1
    generalize H1 = H at hP hS ⊢
    refine lv_iconst (v := 0) hx hb dX12_takesNumber_13 (by decide) ?_
    have hP9 : va_P (dC, dI) classes (wM g c v7755 F7756 rc) H := hP
    exact W.zret (v := 0) hx hb hr (rfl) (fun t ht hW => ⟨⟨0, (v7755, F7756, rc), rfl, ⟨hI, rfl, (frC (by decide) hf7757 (fun _ _ => rfl)), hF, (by show (((0 : Int32).toInt = 1 ∧ (v 39).toInt + 2 ≤ (v7755 39).toInt ∧ (v7755 39).toInt ≤ (v 30).toInt ∧ (v7755 40).toInt = (v 40).toInt) ∨ ((0 : Int32).toInt = 0 ∧ 0 ≤ (v7755 40).toInt ∧ (0 ≤ (v 40).toInt ∨ (v7755 40).toInt = (v7755 39).toInt) ∧ (v 39).toInt ≤ (v7755 39).toInt ∧ (v7755 39).toInt ≤ (v 30).toInt)) ∧ nbF (v 30) (F 24) (v 40).toInt (v 39).toInt (v7755 40).toInt (v7755 39).toInt; rw [show v7755 39 = v 39 from hf7757 39 (by decide)]; have : (0 : Int32).toInt = 0 := (by decide); exact ⟨by omega, fun hf => nb.no (by omega) (by omega) (by omega) (by omega)⟩)⟩, (by show va_P _ _ _ t.heap; rw [ht]; exact hP9)⟩, hS.F ht⟩) hS.2.2 dX12_takesNumber_14
set_option maxHeartbeats 8000000 in
set_option maxRecDepth 100000 in
theorem c_X12_readLine (l : Launch) (dC : Nat → ClassId) (dI : Nat → Nat → Nat) (g : Nat → Nat) (c : Nat → ClassId) (adK adV : Nat → Nat) (v : Nat → Int32) (F : Nat → Nat → Int32) (rc sz : Nat) (hg : injM g) (hI : IM v F) (hq : 4 * (F 37 (10 : Int32).toNatClampNeg).toInt ≤ (v 39).toInt ∧ (v 39).toInt ≤ (v 30).toInt ∧ (v 40).toInt < 0) : Met l yX12_readLine (Cond.code yX12_readLine cX12_readLine 6 none :: wA) ({ frames := 4, cells := 0, slots := 0, locals := 160 }) (va_Pc [.ref (g 0), .int 10] (PM dC dI g c adK adV v F rc sz)) (va_Qv (fun (u : StM) => IM u.1 u.2.1 ∧ u.2.2 = rc ∧ (∀ k, k ∉ ([39, 40, 42] : List Nat) → u.1 k = v k) ∧ (∀ k, k ∉ ([37, 38, 39, 40, 41] : List Nat) → u.2.1 k = F k) ∧ ((4 * (u.2.1 37 (10 : Int32).toNatClampNeg).toInt ≤ (u.1 39).toInt ∧ (u.1 39).toInt ≤ (v 30).toInt ∧ (v 39).toInt ≤ (u.1 39).toInt ∧ (((u.1 40).toInt < 0 ∧ (v 39).toInt < (u.1 39).toInt ∧ (u.2.1 37 (10 : Int32).toNatClampNeg).toInt = (F 37 (10 : Int32).toNatClampNeg).toInt + 1) ∨ (0 ≤ (u.1 40).toInt ∧ (u.1 40).toInt = (u.1 39).toInt ∧ (u.2.1 37 (10 : Int32).toNatClampNeg).toInt = (F 37 (10 : Int32).toNatClampNeg).toInt))) ∧ ln false (v 30) (F 24) (v 39).toInt (u.1 40).toInt (u.1 39).toInt)) (BM dC dI g c) (AM g sz)) 0 0 (AM g sz) := by
  refine Met.ofW (cc := cX12_readLine) (maxL := 6) (ret := none) (by decide) rfl ?_
  intro p e s m args below meth c0 s₁ B hml hv
  obtain ⟨rfl, hsz, hP, hK, hE⟩ := hv
  have hx := B.exec
  have hb := B.bytes
  have hr := B.returns
  have hts := atoms_spec (ws := Cond.code yX12_readLine cX12_readLine 6 none :: wA) B.pre
  have hwd : ∀ w ∈ wA, w.before _ s = true := fun w h => hts w (List.mem_cons_of_mem _ h)
  have hown : s.vm.findClass RX12 = some m.cls := findClass_of_methodNamed B.named
  have hlocks := B.notSynchronized
  subst hsz
  have hl := lv_entry ([.ref (g 0), .int 10]) (n := 6) (Nat.le_of_ble_eq_true rfl)
  rw [lg_entry_eq]
  generalize (lg_sl ([.ref (g 0), .int 10]) ++ List.replicate (6 - (lg_sl ([.ref (g 0), .int 10])).length) Slot.unset).toArray = ls at hl ⊢
  have hl : lv_has ls 6 [(0, .ref (g 0)), (1, .int 10)] := hl
  obtain ⟨H, eH⟩ : ∃ z, z = s.heap := ⟨_, rfl⟩
  have hP : va_P (dC, dI) classes (wM g c v F rc) H := by rw [eH]; exact hP
  have hS : va_S (AM g s.heap.size) s.heap H [] := by rw [eH]; exact va_S.rf
  refine my_heap eH ?_
  have hF : ∀ k, k ∉ ([37, 38, 39, 40, 41] : List Nat) → F k = F k := fun _ _ => rfl
  have hb30 : 0 ≤ (v 30).toInt ∧ (v 30).toInt ≤ 120 := hI.1 30 _ _ rfl
  have hb39 : 0 ≤ (v 39).toInt ∧ (v 39).toInt ≤ 120 := hI.1 39 _ _ rfl
  refine lv_aload_n hx hb dX12_readLine_0 rfl (lv_at hl 0 rfl) ?_
  have t7853 : 0 ≤ (v 30).toInt ∧ (v 30).toInt ≤ 120 := hI.1 30 _ _ rfl
  have t7854 : 0 ≤ (v 39).toInt ∧ (v 39).toInt ≤ 120 := hI.1 39 _ _ rfl
  refine va_calli (va_runV (As := []) (rest := []) ⟨hx, hb, hml, hown, hwd⟩ (c_X12_look l dC dI g c adK adV v F rc H.size  hg hI ) (cwV 0 hwd (gV wk_1017 wk_1014 wk_1015 wk_1016 wk_5) rfl rfl rfl (by decide +kernel) ⟨Nat.le_of_ble_eq_true rfl, Nat.le_of_ble_eq_true rfl⟩) ⟨PM.blind, va_recv hK hP (ci := 12) (q0 := 0) rfl rfl, fun U hU hW => ⟨rfl, PM.at hK hE hP hS hU hW⟩⟩ rfl rfl hl.1 rfl (lv_room (Nat.le_of_ble_eq_true rfl)) dX12_readLine_1 ⟨Nat.le_of_ble_eq_true rfl, Nat.le_of_ble_eq_true rfl⟩) hS (fun q _ h => (freeM hS) q h) (freeM hS) (fun r7855 u t H1 locs ht hvm hw hB hz1 hk1 hS => ?_)
  unfold BM at hB
  rw [ht] at hB
  have hP : va_P (dC, dI) classes (wM g c v F rc) H1 := hB
  replace hw : r7855.toInt = sg (v 30) (F 24) (v 39).toInt ∧ ((v 39).toInt < (v 30).toInt ∨ r7855.toInt = -1) := hw
  have hw_r7855 := hw
  clear hw
  clear hz1
  generalize H1 = H at hP hS ⊢
  refine lv_istore_n (lv' := [(2, .int r7855), (0, .ref (g 0)), (1, .int 10)]) hx hb dX12_readLine_4 rfl hl (by decide) rfl (fun ls hl => ?_)
  refine lv_iload_n hx hb dX12_readLine_5 rfl (lv_at hl 0 rfl) ?_
  refine va_calli (va_runS (As := [.int r7855]) (rest := []) ⟨hx, hb, hml, hown, hwd⟩ (c_X12_numbersOf l dC dI g c adK adV v F rc H.size r7855 hg hI ) (va_cwS 1 hwd (gT wk_1134 wk_1132 wk_1133 wk_5) rfl rfl rfl (by decide +kernel) ⟨Nat.le_of_ble_eq_true rfl, Nat.le_of_ble_eq_true rfl⟩) ⟨PM.blind, fun U hU hW => ⟨rfl, PM.at hK hE hP hS hU hW⟩⟩ rfl rfl hl.1 rfl (lv_room (Nat.le_of_ble_eq_true rfl)) dX12_readLine_6 ⟨Nat.le_of_ble_eq_true rfl, Nat.le_of_ble_eq_true rfl⟩) hS (fun q _ h => (freeM hS) q h) (freeM hS) (fun r7856 u t H1 locs ht hvm hw hB hz1 hk1 hS => ?_)
  unfold BM at hB
  rw [ht] at hB
  have hP : va_P (dC, dI) classes (wM g c v F rc) H1 := hB
  have hw_r7856 : (nnL r7855.toInt : Int) = r7856.toInt ∧ (0 ≤ r7856.toInt ∧ r7856.toInt ≤ 3) ∧ (r7856.toInt = 0 ∨ 100 ≤ r7855.toInt) := hw
  clear hw
  clear hz1
  generalize H1 = H at hP hS ⊢
  refine lv_istore_n (lv' := [(3, .int r7856), (2, .int r7855), (0, .ref (g 0)), (1, .int 10)]) hx hb dX12_readLine_9 rfl hl (by decide) rfl (fun ls hl => ?_)
  refine lv_iload_n hx hb dX12_readLine_10 rfl (lv_at hl 0 rfl) ?_
  refine lv_if_ne (tgt := 19) hx hb dX12_readLine_11 (by decide) (fun c7857 => ?_) (fun c7857 => ?_)
  · skip
    have t7858 := cv_ne (a := r7856.toInt) rfl (b := 0) (by decide) c7857
    refine lv_aload_n hx hb dX12_readLine_19 rfl (lv_at hl 2 rfl) ?_
    refine lv_dup hx hb dX12_readLine_20 rfl ?_
    refine va_get (D := (dC, dI)) (ci := 12) (v := .int (v 39)) (C := RX12) (T := TX12) (N := 63) hx hb hwd inA_X12 hown hK hP 0 rfl rfl 39 (by decide) (hwd _ wk_1004) (fun _ h9 => h9) rfl dX12_readLine_21 ?_
    have t7859 : 0 ≤ (v 39).toInt ∧ (v 39).toInt ≤ 120 := hI.1 39 _ _ rfl
    refine lv_iconst (v := 1) hx hb dX12_readLine_24 (by decide) ?_
    refine lv_iadd hx hb dX12_readLine_25 ?_
    refine lv_topi (fun z7860 e7861 => ?_)
    try (have t7862 := tadd e7861 (a := (v 39).toInt) rfl (b := 1) (by decide) (by omega))
    refine va_put (D := (dC, dI)) (ci := 12) (v := .int z7860) (ty := .int) (C := RX12) (T := TX12) (N := 63) (fs := fsM_0 g v rc) hx hb hwd inA_X12 tyX12 tyX12_ok nmX12 hown hK hP (DM hg) hS 0 rfl rfl 39 (by decide) (hwd _ wk_1004) (fun _ h9 => h9) rfl (by decide +kernel) rfl rfl (Nat.le_of_ble_eq_true rfl) dX12_readLine_26 (fun H locs hP _ hS => ?_)
    have hP := va_P_eq (pM_39 g c _ _ _ _) hP
    have hI := IM.put hI 39 z7860 rfl (by omega)
    refine lv_bipush (v := 32) hx hb dX12_readLine_29 (by decide) ?_
    refine lv_iload_n hx hb dX12_readLine_31 rfl (lv_at hl 3 rfl) ?_
    refine lv_imul hx hb dX12_readLine_32 ?_
    refine my_top (v := 320) (by decide) ?_
    refine lv_aload_n hx hb dX12_readLine_33 rfl (lv_at hl 2 rfl) ?_
    refine va_get (D := (dC, dI)) (ci := 12) (v := .ref (g 37)) (C := RX12) (T := TX12) (N := 63) hx hb hwd inA_X12 hown hK hP 0 rfl rfl 51 (by decide) (hwd _ wk_219) (fun _ h9 => h9) rfl dX12_readLine_34 ?_
    refine lv_iload_n hx hb dX12_readLine_37 rfl (lv_at hl 3 rfl) ?_
    refine va_iald hx hb hK hP 37 36 rfl rfl (i := 10) (vin (a := 10) (by decide) (by omega)) dX12_readLine_38 ?_
    refine lv_topi (fun z7863 e7864 => ?_)
    have t7865 : 0 ≤ z7863.toInt ∧ z7863.toInt ≤ 31 := by rw [e7864]; exact hI.2 37 _ _ rfl _
    have tzz7863 : z7863.toInt = (F 37 (10 : Int32).toNatClampNeg).toInt := congrArg Int32.toInt e7864
    refine lv_iadd hx hb dX12_readLine_39 ?_
    refine lv_topi (fun z7866 e7867 => ?_)
    try (have t7868 := tadd e7867 (a := 320) (by decide) (b := z7863.toInt) rfl (by omega))
    refine lv_istore (lv' := [(4, .int z7866), (3, .int r7856), (2, .int r7855), (0, .ref (g 0)), (1, .int 10)]) hx hb dX12_readLine_40 hl (by decide) rfl (fun ls hl => ?_)
    refine lv_aload_n hx hb dX12_readLine_42 rfl (lv_at hl 3 rfl) ?_
    refine va_get (D := (dC, dI)) (ci := 12) (v := .ref (g 38)) (C := RX12) (T := TX12) (N := 63) hx hb hwd inA_X12 hown hK hP 0 rfl rfl 52 (by decide) (hwd _ wk_220) (fun _ h9 => h9) rfl dX12_readLine_43 ?_
    refine lv_iload hx hb dX12_readLine_46 (lv_at hl 0 rfl) ?_
    refine lv_iload_n hx hb dX12_readLine_48 rfl (lv_at hl 2 rfl) ?_
    refine va_iast hx hb hK hP (DM hg) hS 38 37 rfl rfl (i := z7866) (x := r7855) (vin (a := z7866.toInt) rfl (by omega)) dX12_readLine_49 (fun H locs hP _ hS => ?_)
    have hP := va_P_eq (sM_38 g c _ _ _ _) hP
    have hI := IM.store0 hI 38 (z7866 : Int32).toNatClampNeg r7855 rfl
    have hF := frUF (k := 38) (f := upd (F 38) (z7866 : Int32).toNatClampNeg r7855) (by decide) hF
    have st7870 : (va_up F 38 (upd (F 38) (z7866 : Int32).toNatClampNeg r7855)) 38 = upd (F 38) (z7866 : Int32).toNatClampNeg r7855 := va_up_self _ _ _
    have sn7871 : ∀ k9, k9 ≠ 38 → (va_up F 38 (upd (F 38) (z7866 : Int32).toNatClampNeg r7855)) k9 = F k9 := fun k9 h9 => va_up_ne _ _ h9
    have hP : va_P (dC, dI) classes (wM g c (va_up v 39 z7860) (va_up F 38 (upd (F 38) (z7866 : Int32).toNatClampNeg r7855)) rc) H := hP
    generalize (va_up F 38 (upd (F 38) (z7866 : Int32).toNatClampNeg r7855)) = F7869 at hP hI hF st7870 sn7871
    refine lv_iconst (v := 0) hx hb dX12_readLine_50 (by decide) ?_
    refine lv_istore (lv' := [(5, .int 0), (4, .int z7866), (3, .int r7856), (2, .int r7855), (0, .ref (g 0)), (1, .int 10)]) hx hb dX12_readLine_51 hl (by decide) rfl (fun ls hl => ?_)
    have lp7872 : ∀ (n : Nat) (x5_lp7872 : Int32) (v_lp7872 : Nat → Int32) (F_lp7872 : Nat → Nat → Int32) (H : Heap) (locs : List Loc) (ls : Array Slot), (0 ≤ x5_lp7872.toInt) → ((v 39).toInt + 1 + 2 * x5_lp7872.toInt ≤ (v_lp7872 39).toInt ∧ (v_lp7872 39).toInt ≤ (v 30).toInt ∧ (v_lp7872 40).toInt < 0 ∧ x5_lp7872.toInt ≤ r7856.toInt) → ((F_lp7872 37 (10 : Int32).toNatClampNeg).toInt = (F 37 (10 : Int32).toNatClampNeg).toInt) → (nz false (v 30) (F 24) r7856.toInt ((v 39).toInt + 1) x5_lp7872.toInt (v_lp7872 40).toInt (v_lp7872 39).toInt) → (2147483648 - x5_lp7872.toInt ≤ (n : Int)) → (∀ k, k ∉ ([39, 40, 42] : List Nat) → v_lp7872 k = (va_up v 39 z7860) k) → IM v_lp7872 F_lp7872 → (∀ k, k ∉ ([37, 38, 39, 40, 41] : List Nat) → F_lp7872 k = F k) → va_P (dC, dI) classes (wM g c v_lp7872 F_lp7872 rc) H → va_S (AM g s.heap.size) s.heap H locs → lv_has ls 6 [(5, .int x5_lp7872), (4, .int z7866), (3, .int r7856), (2, .int r7855), (0, .ref (g 0)), (1, .int 10)] → W p l e (headSpec (Cond.code yX12_readLine cX12_readLine 6 none :: wA) ({ frames := 4, cells := 0, slots := 0, locals := 160 })).room s m ([.ref (g 0), .int 10] : List Value).toArray below meth c0 H locs 0 0 (MQ below (va_Qv (fun (u : StM) => IM u.1 u.2.1 ∧ u.2.2 = rc ∧ (∀ k, k ∉ ([39, 40, 42] : List Nat) → u.1 k = v k) ∧ (∀ k, k ∉ ([37, 38, 39, 40, 41] : List Nat) → u.2.1 k = F k) ∧ ((4 * (u.2.1 37 (10 : Int32).toNatClampNeg).toInt ≤ (u.1 39).toInt ∧ (u.1 39).toInt ≤ (v 30).toInt ∧ (v 39).toInt ≤ (u.1 39).toInt ∧ (((u.1 40).toInt < 0 ∧ (v 39).toInt < (u.1 39).toInt ∧ (u.2.1 37 (10 : Int32).toNatClampNeg).toInt = (F 37 (10 : Int32).toNatClampNeg).toInt + 1) ∨ (0 ≤ (u.1 40).toInt ∧ (u.1 40).toInt = (u.1 39).toInt ∧ (u.2.1 37 (10 : Int32).toNatClampNeg).toInt = (F 37 (10 : Int32).toNatClampNeg).toInt))) ∧ ln false (v 30) (F 24) (v 39).toInt (u.1 40).toInt (u.1 39).toInt)) (BM dC dI g c) (AM g s.heap.size)) ([.ref (g 0), .int 10] : List Value).toArray s 0 0 (AM g s.heap.size)) (F0 m 53 ls []) := by
      intro n
      induction n with
      | zero =>
        intro x5_lp7872 v_lp7872 F_lp7872 H locs ls t7873 t7874 t7875 t7876 hm hf_lp7872 hI hF hP hS hl
        exfalso
        have := i32_rng x5_lp7872
        have hI1 := hI.1
        omega
      | succ n ih_lp7872 =>
        intro x5_lp7872 v_lp7872 F_lp7872 H locs ls t7873 t7874 t7875 t7876 hm hf_lp7872 hI hF hP hS hl
        have rx5_lp7872 := i32_rng x5_lp7872
        refine lv_iload hx hb dX12_readLine_53 (lv_at hl 0 rfl) ?_
        refine lv_iload_n hx hb dX12_readLine_55 rfl (lv_at hl 2 rfl) ?_
        refine lv_icmp_ge (tgt := 123) hx hb dX12_readLine_56 (by decide) (fun c7877 => ?_) (fun c7877 => ?_)
        · skip
          have t7878 := cv_le (a := r7856.toInt) rfl (b := x5_lp7872.toInt) rfl c7877
          refine lv_aload_n hx hb dX12_readLine_123 rfl (lv_at hl 4 rfl) ?_
          have t7879 : 0 ≤ (v 30).toInt ∧ (v 30).toInt ≤ 120 := by have h9 := hI.1 30 _ _ rfl; rw [show v_lp7872 30 = v 30 from hf_lp7872 30 (by decide)] at h9; exact h9
          have t7880 : 0 ≤ (v_lp7872 39).toInt ∧ (v_lp7872 39).toInt ≤ 120 := hI.1 39 _ _ rfl
          have hby24 : F_lp7872 24 = F 24 := hF 24 (by decide)
          refine va_calli (va_runV (As := []) (rest := []) ⟨hx, hb, hml, hown, hwd⟩ (c_X12_look l dC dI g c adK adV v_lp7872 F_lp7872 rc H.size  hg hI ) (cwV 0 hwd (gV wk_1017 wk_1014 wk_1015 wk_1016 wk_5) rfl rfl rfl (by decide +kernel) ⟨Nat.le_of_ble_eq_true rfl, Nat.le_of_ble_eq_true rfl⟩) ⟨PM.blind, va_recv hK hP (ci := 12) (q0 := 0) rfl rfl, fun U hU hW => ⟨rfl, PM.at hK hE hP hS hU hW⟩⟩ rfl rfl hl.1 rfl (lv_room (Nat.le_of_ble_eq_true rfl)) dX12_readLine_124 ⟨Nat.le_of_ble_eq_true rfl, Nat.le_of_ble_eq_true rfl⟩) hS (fun q _ h => (freeM hS) q h) (freeM hS) (fun r7881 u t H1 locs ht hvm hw hB hz1 hk1 hS => ?_)
          unfold BM at hB
          rw [ht] at hB
          have hP : va_P (dC, dI) classes (wM g c v_lp7872 F_lp7872 rc) H1 := hB
          replace hw : r7881.toInt = sg (v_lp7872 30) (F_lp7872 24) (v_lp7872 39).toInt ∧ ((v_lp7872 39).toInt < (v_lp7872 30).toInt ∨ r7881.toInt = -1) := hw
          rw [show v_lp7872 30 = v 30 from hf_lp7872 30 (by decide)] at hw
          rw [hby24] at hw
          have hw_r7881 := hw
          clear hw
          clear hz1
          generalize H1 = H at hP hS ⊢
          refine lv_bipush (v := 59) hx hb dX12_readLine_127 (by decide) ?_
          refine lv_icmp_eq (tgt := 137) hx hb dX12_readLine_129 (by decide) (fun c7882 => ?_) (fun c7882 => ?_)
          · skip
            have t7883 := cv_eq (a := r7881.toInt) rfl (b := 59) (by decide) c7882
            refine lv_aload_n hx hb dX12_readLine_137 rfl (lv_at hl 4 rfl) ?_
            refine lv_dup hx hb dX12_readLine_138 rfl ?_
            refine va_get (D := (dC, dI)) (ci := 12) (v := .int (v_lp7872 39)) (C := RX12) (T := TX12) (N := 63) hx hb hwd inA_X12 hown hK hP 0 rfl rfl 39 (by decide) (hwd _ wk_1004) (fun _ h9 => h9) rfl dX12_readLine_139 ?_
            have t7884 : 0 ≤ (v_lp7872 39).toInt ∧ (v_lp7872 39).toInt ≤ 120 := hI.1 39 _ _ rfl
            refine lv_iconst (v := 1) hx hb dX12_readLine_142 (by decide) ?_
            refine lv_iadd hx hb dX12_readLine_143 ?_
            refine lv_topi (fun z7885 e7886 => ?_)
            try (have t7887 := tadd e7886 (a := (v_lp7872 39).toInt) rfl (b := 1) (by decide) (by omega))
            refine va_put (D := (dC, dI)) (ci := 12) (v := .int z7885) (ty := .int) (C := RX12) (T := TX12) (N := 63) (fs := fsM_0 g v_lp7872 rc) hx hb hwd inA_X12 tyX12 tyX12_ok nmX12 hown hK hP (DM hg) hS 0 rfl rfl 39 (by decide) (hwd _ wk_1004) (fun _ h9 => h9) rfl (by decide +kernel) rfl rfl (Nat.le_of_ble_eq_true rfl) dX12_readLine_144 (fun H locs hP _ hS => ?_)
            have hP := va_P_eq (pM_39 g c _ _ _ _) hP
            have hI := IM.put hI 39 z7885 rfl (by omega)
            refine lv_aload_n hx hb dX12_readLine_147 rfl (lv_at hl 4 rfl) ?_
            refine va_get (D := (dC, dI)) (ci := 12) (v := .ref (g 37)) (C := RX12) (T := TX12) (N := 63) hx hb hwd inA_X12 hown hK hP 0 rfl rfl 51 (by decide) (hwd _ wk_219) (fun _ h9 => h9) rfl dX12_readLine_148 ?_
            refine lv_iload_n hx hb dX12_readLine_151 rfl (lv_at hl 5 rfl) ?_
            refine lv_dup2_11 hx hb dX12_readLine_152 rfl rfl ?_
            refine va_iald hx hb hK hP 37 36 rfl rfl (i := 10) (vin (a := 10) (by decide) (by omega)) dX12_readLine_153 ?_
            refine lv_topi (fun z7888 e7889 => ?_)
            have t7890 : 0 ≤ z7888.toInt ∧ z7888.toInt ≤ 31 := by rw [e7889]; exact hI.2 37 _ _ rfl _
            have tzz7888 : z7888.toInt = (F_lp7872 37 (10 : Int32).toNatClampNeg).toInt := congrArg Int32.toInt e7889
            refine lv_iconst (v := 1) hx hb dX12_readLine_154 (by decide) ?_
            refine lv_iadd hx hb dX12_readLine_155 ?_
            refine lv_topi (fun z7891 e7892 => ?_)
            try (have t7893 := tadd e7892 (a := z7888.toInt) rfl (b := 1) (by decide) (by omega))
            refine va_iast hx hb hK hP (DM hg) hS 37 36 rfl rfl (i := 10) (x := z7891) (vin (a := 10) (by decide) (by omega)) dX12_readLine_156 (fun H locs hP _ hS => ?_)
            have hP := va_P_eq (sM_37 g c _ _ _ _) hP
            have hI := IM.store hI 37 (10 : Int32).toNatClampNeg z7891 rfl (by omega)
            have hF := frUF (k := 37) (f := upd (F_lp7872 37) (10 : Int32).toNatClampNeg z7891) (by decide) hF
            have st7895 : (va_up F_lp7872 37 (upd (F_lp7872 37) (10 : Int32).toNatClampNeg z7891)) 37 = upd (F_lp7872 37) (10 : Int32).toNatClampNeg z7891 := va_up_self _ _ _
            have sn7896 : ∀ k9, k9 ≠ 37 → (va_up F_lp7872 37 (upd (F_lp7872 37) (10 : Int32).toNatClampNeg z7891)) k9 = F_lp7872 k9 := fun k9 h9 => va_up_ne _ _ h9
            have hP : va_P (dC, dI) classes (wM g c (va_up v_lp7872 39 z7885) (va_up F_lp7872 37 (upd (F_lp7872 37) (10 : Int32).toNatClampNeg z7891)) rc) H := hP
            generalize (va_up F_lp7872 37 (upd (F_lp7872 37) (10 : Int32).toNatClampNeg z7891)) = F7894 at hP hI hF st7895 sn7896
            have hP9 : va_P (dC, dI) classes (wM g c (va_up v_lp7872 39 z7885) F7894 rc) H := hP
            exact W.vret hx hb hr (fun t ht hW => ⟨⟨((va_up v_lp7872 39 z7885), F7894, rc), rfl, ⟨hI, rfl, (frU (by decide) (frC (by decide) hf_lp7872 (frU (by decide) (fun _ _ => rfl)))), hF, (by show (4 * (F7894 37 (10 : Int32).toNatClampNeg).toInt ≤ z7885.toInt ∧ z7885.toInt ≤ (v 30).toInt ∧ (v 39).toInt ≤ z7885.toInt ∧ (((v_lp7872 40).toInt < 0 ∧ (v 39).toInt < z7885.toInt ∧ (F7894 37 (10 : Int32).toNatClampNeg).toInt = (F 37 (10 : Int32).toNatClampNeg).toInt + 1) ∨ (0 ≤ (v_lp7872 40).toInt ∧ (v_lp7872 40).toInt = z7885.toInt ∧ (F7894 37 (10 : Int32).toNatClampNeg).toInt = (F 37 (10 : Int32).toNatClampNeg).toInt))) ∧ ln false (v 30) (F 24) (v 39).toInt (v_lp7872 40).toInt z7885.toInt; have b9 := t7875; have l9 : (F7894 37 (10 : Int32).toNatClampNeg).toInt = (z7891 : Int32).toInt := congrArg Int32.toInt ((congrFun st7895 _).trans (mu_at _ _ _)); exact ⟨by omega, ln.of (k := r7856.toInt) (by omega) (by rw [← hw_r7855.1]; exact hw_r7856.1) (by omega) rfl t7876 (fun q9 => by omega) (by omega)⟩)⟩, (by show va_P _ _ _ t.heap; rw [ht]; exact hP9)⟩, hS.F ht⟩) hS.2.2 dX12_readLine_157
          · skip
            have t7897 := cv_ne (a := r7881.toInt) rfl (b := 59) (by decide) c7882
            refine lv_aload_n hx hb dX12_readLine_132 rfl (lv_at hl 4 rfl) ?_
            have t7898 : 0 ≤ (v_lp7872 39).toInt ∧ (v_lp7872 39).toInt ≤ 120 := hI.1 39 _ _ rfl
            refine va_callv (va_runV (As := []) (rest := []) ⟨hx, hb, hml, hown, hwd⟩ (c_X12_wrong l dC dI g c adK adV v_lp7872 F_lp7872 rc H.size  hg hI ) (cwV 0 hwd (gV wk_1029 wk_1026 wk_1027 wk_1028 wk_5) rfl rfl rfl (by decide +kernel) ⟨Nat.le_of_ble_eq_true rfl, Nat.le_of_ble_eq_true rfl⟩) ⟨PM.blind, va_recv hK hP (ci := 12) (q0 := 0) rfl rfl, fun U hU hW => ⟨rfl, PM.at hK hE hP hS hU hW⟩⟩ rfl rfl hl.1 rfl (lv_room (Nat.le_of_ble_eq_true rfl)) dX12_readLine_133 ⟨Nat.le_of_ble_eq_true rfl, Nat.le_of_ble_eq_true rfl⟩) hS (fun q _ h => (freeM hS) q h) (freeM hS) (fun u t H1 locs ht hvm hw hB hz1 hk1 hS => ?_)
            unfold BM at hB
            rw [ht] at hB
            obtain ⟨v7900, F7901, rc9⟩ := u
            obtain ⟨hI, hrc, hf7902, hG7903, hw⟩ := hw
            dsimp only at hI hrc hB hf7902 hG7903 hw
            have hF := frCF (by decide) hG7903 hF
            rw [hrc] at hB
            have hP : va_P (dC, dI) classes (wM g c v7900 F7901 rc) H1 := hB
            replace hw : ((v_lp7872 40).toInt < 0 ∧ (v7900 40).toInt = (v_lp7872 39).toInt) ∨ (0 ≤ (v_lp7872 40).toInt ∧ (v7900 40).toInt = (v_lp7872 40).toInt) := hw
            have hw_r7899 := hw
            clear hw
            clear hz1
            generalize H1 = H at hP hS ⊢
            have hP9 : va_P (dC, dI) classes (wM g c v7900 F7901 rc) H := hP
            exact W.vret hx hb hr (fun t ht hW => ⟨⟨(v7900, F7901, rc), rfl, ⟨hI, rfl, (frC (by decide) hf7902 (frC (by decide) hf_lp7872 (frU (by decide) (fun _ _ => rfl)))), hF, (by show (4 * (F7901 37 (10 : Int32).toNatClampNeg).toInt ≤ (v7900 39).toInt ∧ (v7900 39).toInt ≤ (v 30).toInt ∧ (v 39).toInt ≤ (v7900 39).toInt ∧ (((v7900 40).toInt < 0 ∧ (v 39).toInt < (v7900 39).toInt ∧ (F7901 37 (10 : Int32).toNatClampNeg).toInt = (F 37 (10 : Int32).toNatClampNeg).toInt + 1) ∨ (0 ≤ (v7900 40).toInt ∧ (v7900 40).toInt = (v7900 39).toInt ∧ (F7901 37 (10 : Int32).toNatClampNeg).toInt = (F 37 (10 : Int32).toNatClampNeg).toInt))) ∧ ln false (v 30) (F 24) (v 39).toInt (v7900 40).toInt (v7900 39).toInt; rw [show v7900 39 = v_lp7872 39 from hf7902 39 (by decide)]; have b9 := t7875; have l9 : (F7901 37 (10 : Int32).toNatClampNeg).toInt = (F_lp7872 37 (10 : Int32).toNatClampNeg).toInt := congrArg Int32.toInt (congrFun (hG7903 37 (by decide)) _); exact ⟨by omega, ln.of (k := r7856.toInt) (by omega) (by rw [← hw_r7855.1]; exact hw_r7856.1) (by omega) rfl t7876 (fun q9 => by omega) (by omega)⟩)⟩, (by show va_P _ _ _ t.heap; rw [ht]; exact hP9)⟩, hS.F ht⟩) hS.2.2 dX12_readLine_136
        · skip
          have t7904 := cv_nle (a := r7856.toInt) rfl (b := x5_lp7872.toInt) rfl c7877
          refine lv_aload_n hx hb dX12_readLine_59 rfl (lv_at hl 4 rfl) ?_
          have t7905 : 0 ≤ (v 30).toInt ∧ (v 30).toInt ≤ 120 := by have h9 := hI.1 30 _ _ rfl; rw [show v_lp7872 30 = v 30 from hf_lp7872 30 (by decide)] at h9; exact h9
          have t7906 : 0 ≤ (v_lp7872 39).toInt ∧ (v_lp7872 39).toInt ≤ 120 := hI.1 39 _ _ rfl
          have hby24 : F_lp7872 24 = F 24 := hF 24 (by decide)
          refine va_calli (va_runV (As := []) (rest := []) ⟨hx, hb, hml, hown, hwd⟩ (c_X12_takesNumber l dC dI g c adK adV v_lp7872 F_lp7872 rc H.size  hg hI (by have h9 : v_lp7872 39 = v_lp7872 39 := rfl; (try rw [h9]); clear h9; have h9 : v_lp7872 30 = v 30 := hf_lp7872 30 (by decide); (try rw [h9]); clear h9; omega)) (cwV 0 hwd (gV wk_1138 wk_1135 wk_1136 wk_1137 wk_5) rfl rfl rfl (by decide +kernel) ⟨Nat.le_of_ble_eq_true rfl, Nat.le_of_ble_eq_true rfl⟩) ⟨PM.blind, va_recv hK hP (ci := 12) (q0 := 0) rfl rfl, fun U hU hW => ⟨rfl, PM.at hK hE hP hS hU hW⟩⟩ rfl rfl hl.1 rfl (lv_room (Nat.le_of_ble_eq_true rfl)) dX12_readLine_60 ⟨Nat.le_of_ble_eq_true rfl, Nat.le_of_ble_eq_true rfl⟩) hS (fun q _ h => (freeM hS) q h) (freeM hS) (fun r7907 u t H1 locs ht hvm hw hB hz1 hk1 hS => ?_)
          unfold BM at hB
          rw [ht] at hB
          obtain ⟨v7908, F7909, rc9⟩ := u
          obtain ⟨hI, hrc, hf7910, hG7911, hw⟩ := hw
          dsimp only at hI hrc hB hf7910 hG7911 hw
          have hF := frCF (by decide) hG7911 hF
          rw [hrc] at hB
          have hP : va_P (dC, dI) classes (wM g c v7908 F7909 rc) H1 := hB
          replace hw : ((r7907.toInt = 1 ∧ (v_lp7872 39).toInt + 2 ≤ (v7908 39).toInt ∧ (v7908 39).toInt ≤ (v_lp7872 30).toInt ∧ (v7908 40).toInt = (v_lp7872 40).toInt) ∨ (r7907.toInt = 0 ∧ 0 ≤ (v7908 40).toInt ∧ (0 ≤ (v_lp7872 40).toInt ∨ (v7908 40).toInt = (v7908 39).toInt) ∧ (v_lp7872 39).toInt ≤ (v7908 39).toInt ∧ (v7908 39).toInt ≤ (v_lp7872 30).toInt)) ∧ nbF (v_lp7872 30) (F_lp7872 24) (v_lp7872 40).toInt (v_lp7872 39).toInt (v7908 40).toInt (v7908 39).toInt := hw
          rw [show v_lp7872 30 = v 30 from hf_lp7872 30 (by decide)] at hw
          rw [hby24] at hw
          have hw_r7907 := hw
          clear hw
          have t7912 : 0 ≤ (v7908 39).toInt ∧ (v7908 39).toInt ≤ 120 := hI.1 39 _ _ rfl
          clear hz1
          generalize H1 = H at hP hS ⊢
          refine lv_if_ne (tgt := 67) hx hb dX12_readLine_63 (by decide) (fun c7913 => ?_) (fun c7913 => ?_)
          · skip
            have t7914 := cv_ne (a := r7907.toInt) rfl (b := 0) (by decide) c7913
            refine lv_iload hx hb dX12_readLine_67 (lv_at hl 0 rfl) ?_
            refine lv_if_ne (tgt := 86) hx hb dX12_readLine_69 (by decide) (fun c7915 => ?_) (fun c7915 => ?_)
            · skip
              have t7916 := cv_ne (a := x5_lp7872.toInt) rfl (b := 0) (by decide) c7915
              refine lv_iload hx hb dX12_readLine_86 (lv_at hl 0 rfl) ?_
              refine lv_iconst (v := 1) hx hb dX12_readLine_88 (by decide) ?_
              refine lv_icmp_ne (tgt := 106) hx hb dX12_readLine_89 (by decide) (fun c7917 => ?_) (fun c7917 => ?_)
              · skip
                have t7918 := cv_ne (a := x5_lp7872.toInt) rfl (b := 1) (by decide) c7917
                refine lv_aload_n hx hb dX12_readLine_106 rfl (lv_at hl 4 rfl) ?_
                refine va_get (D := (dC, dI)) (ci := 12) (v := .ref (g 41)) (C := RX12) (T := TX12) (N := 63) hx hb hwd inA_X12 hown hK hP 0 rfl rfl 55 (by decide) (hwd _ wk_223) (fun _ h9 => h9) rfl dX12_readLine_107 ?_
                refine lv_iload hx hb dX12_readLine_110 (lv_at hl 1 rfl) ?_
                refine lv_aload_n hx hb dX12_readLine_112 rfl (lv_at hl 4 rfl) ?_
                refine va_get (D := (dC, dI)) (ci := 12) (v := .int (v7908 42)) (C := RX12) (T := TX12) (N := 63) hx hb hwd inA_X12 hown hK hP 0 rfl rfl 42 (by decide) (hwd _ wk_1031) (fun _ h9 => h9) rfl dX12_readLine_113 ?_
                refine va_iast hx hb hK hP (DM hg) hS 41 40 rfl rfl (i := z7866) (x := (v7908 42)) (vin (a := z7866.toInt) rfl (by omega)) dX12_readLine_116 (fun H locs hP _ hS => ?_)
                have hP := va_P_eq (sM_41 g c _ _ _ _) hP
                have hI := IM.store0 hI 41 (z7866 : Int32).toNatClampNeg (v7908 42) rfl
                have hF := frUF (k := 41) (f := upd (F7909 41) (z7866 : Int32).toNatClampNeg (v7908 42)) (by decide) hF
                have st7920 : (va_up F7909 41 (upd (F7909 41) (z7866 : Int32).toNatClampNeg (v7908 42))) 41 = upd (F7909 41) (z7866 : Int32).toNatClampNeg (v7908 42) := va_up_self _ _ _
                have sn7921 : ∀ k9, k9 ≠ 41 → (va_up F7909 41 (upd (F7909 41) (z7866 : Int32).toNatClampNeg (v7908 42))) k9 = F7909 k9 := fun k9 h9 => va_up_ne _ _ h9
                have hP : va_P (dC, dI) classes (wM g c v7908 (va_up F7909 41 (upd (F7909 41) (z7866 : Int32).toNatClampNeg (v7908 42))) rc) H := hP
                generalize (va_up F7909 41 (upd (F7909 41) (z7866 : Int32).toNatClampNeg (v7908 42))) = F7919 at hP hI hF st7920 sn7921
                obtain ⟨z7922, e7923⟩ : ∃ y : Int32, y = x5_lp7872 + 1 := ⟨_, rfl⟩
                try (have t7924 := tadd e7923 rfl (b := 1) (by decide) (by omega))
                refine lv_iinc (v := z7922) (lv' := [(5, .int z7922), (4, .int z7866), (3, .int r7856), (2, .int r7855), (0, .ref (g 0)), (1, .int 10)]) hx hb dX12_readLine_117 hl (k := 0) rfl (by rw [e7923]; rfl) (by decide) rfl (fun ls hl => ?_)
                refine lv_goto (tgt := 53) hx hb dX12_readLine_120 (by decide) ?_
                exact ih_lp7872 z7922 v7908 F7919 _ _ _ (by omega) (by have h9 : v7908 39 = v7908 39 := rfl; (try rw [h9]); clear h9; have h9 : v7908 40 = v7908 40 := rfl; (try rw [h9]); clear h9; omega) ((congrArg Int32.toInt (congrFun ((sn7921 37 (by decide)).trans (hG7911 37 (by decide))) _)).trans t7875) (by have h9 : v7908 40 = v7908 40 := rfl; (try rw [h9]); clear h9; have h9 : v7908 39 = v7908 39 := rfl; (try rw [h9]); clear h9; exact nz.step t7876 (by omega) (by omega) rfl (hw_r7907.2 (by omega)) (by omega)) (by omega) (frC (by decide) hf7910 hf_lp7872) hI hF hP hS (lv_sub hl [0, 1, 2, 3, 4, 5] rfl)
              · skip
                have t7925 := cv_eq (a := x5_lp7872.toInt) rfl (b := 1) (by decide) c7917
                refine lv_aload_n hx hb dX12_readLine_92 rfl (lv_at hl 4 rfl) ?_
                refine va_get (D := (dC, dI)) (ci := 12) (v := .ref (g 40)) (C := RX12) (T := TX12) (N := 63) hx hb hwd inA_X12 hown hK hP 0 rfl rfl 54 (by decide) (hwd _ wk_222) (fun _ h9 => h9) rfl dX12_readLine_93 ?_
                refine lv_iload hx hb dX12_readLine_96 (lv_at hl 1 rfl) ?_
                refine lv_aload_n hx hb dX12_readLine_98 rfl (lv_at hl 4 rfl) ?_
                refine va_get (D := (dC, dI)) (ci := 12) (v := .int (v7908 42)) (C := RX12) (T := TX12) (N := 63) hx hb hwd inA_X12 hown hK hP 0 rfl rfl 42 (by decide) (hwd _ wk_1031) (fun _ h9 => h9) rfl dX12_readLine_99 ?_
                refine va_iast hx hb hK hP (DM hg) hS 40 39 rfl rfl (i := z7866) (x := (v7908 42)) (vin (a := z7866.toInt) rfl (by omega)) dX12_readLine_102 (fun H locs hP _ hS => ?_)
                have hP := va_P_eq (sM_40 g c _ _ _ _) hP
                have hI := IM.store0 hI 40 (z7866 : Int32).toNatClampNeg (v7908 42) rfl
                have hF := frUF (k := 40) (f := upd (F7909 40) (z7866 : Int32).toNatClampNeg (v7908 42)) (by decide) hF
                have st7927 : (va_up F7909 40 (upd (F7909 40) (z7866 : Int32).toNatClampNeg (v7908 42))) 40 = upd (F7909 40) (z7866 : Int32).toNatClampNeg (v7908 42) := va_up_self _ _ _
                have sn7928 : ∀ k9, k9 ≠ 40 → (va_up F7909 40 (upd (F7909 40) (z7866 : Int32).toNatClampNeg (v7908 42))) k9 = F7909 k9 := fun k9 h9 => va_up_ne _ _ h9
                have hP : va_P (dC, dI) classes (wM g c v7908 (va_up F7909 40 (upd (F7909 40) (z7866 : Int32).toNatClampNeg (v7908 42))) rc) H := hP
                generalize (va_up F7909 40 (upd (F7909 40) (z7866 : Int32).toNatClampNeg (v7908 42))) = F7926 at hP hI hF st7927 sn7928
                refine lv_goto (tgt := 117) hx hb dX12_readLine_103 (by decide) ?_
                obtain ⟨z7929, e7930⟩ : ∃ y : Int32, y = x5_lp7872 + 1 := ⟨_, rfl⟩
                try (have t7931 := tadd e7930 rfl (b := 1) (by decide) (by omega))
                refine lv_iinc (v := z7929) (lv' := [(5, .int z7929), (4, .int z7866), (3, .int r7856), (2, .int r7855), (0, .ref (g 0)), (1, .int 10)]) hx hb dX12_readLine_117 hl (k := 0) rfl (by rw [e7930]; rfl) (by decide) rfl (fun ls hl => ?_)
                refine lv_goto (tgt := 53) hx hb dX12_readLine_120 (by decide) ?_
                exact ih_lp7872 z7929 v7908 F7926 _ _ _ (by omega) (by have h9 : v7908 39 = v7908 39 := rfl; (try rw [h9]); clear h9; have h9 : v7908 40 = v7908 40 := rfl; (try rw [h9]); clear h9; omega) ((congrArg Int32.toInt (congrFun ((sn7928 37 (by decide)).trans (hG7911 37 (by decide))) _)).trans t7875) (by have h9 : v7908 40 = v7908 40 := rfl; (try rw [h9]); clear h9; have h9 : v7908 39 = v7908 39 := rfl; (try rw [h9]); clear h9; exact nz.step t7876 (by omega) (by omega) rfl (hw_r7907.2 (by omega)) (by omega)) (by omega) (frC (by decide) hf7910 hf_lp7872) hI hF hP hS (lv_sub hl [0, 1, 2, 3, 4, 5] rfl)
            · skip
              have t7932 := cv_eq (a := x5_lp7872.toInt) rfl (b := 0) (by decide) c7915
              refine lv_aload_n hx hb dX12_readLine_72 rfl (lv_at hl 4 rfl) ?_
              refine va_get (D := (dC, dI)) (ci := 12) (v := .ref (g 39)) (C := RX12) (T := TX12) (N := 63) hx hb hwd inA_X12 hown hK hP 0 rfl rfl 53 (by decide) (hwd _ wk_221) (fun _ h9 => h9) rfl dX12_readLine_73 ?_
              refine lv_iload hx hb dX12_readLine_76 (lv_at hl 1 rfl) ?_
              refine lv_aload_n hx hb dX12_readLine_78 rfl (lv_at hl 4 rfl) ?_
              refine va_get (D := (dC, dI)) (ci := 12) (v := .int (v7908 42)) (C := RX12) (T := TX12) (N := 63) hx hb hwd inA_X12 hown hK hP 0 rfl rfl 42 (by decide) (hwd _ wk_1031) (fun _ h9 => h9) rfl dX12_readLine_79 ?_
              refine va_iast hx hb hK hP (DM hg) hS 39 38 rfl rfl (i := z7866) (x := (v7908 42)) (vin (a := z7866.toInt) rfl (by omega)) dX12_readLine_82 (fun H locs hP _ hS => ?_)
              have hP := va_P_eq (sM_39 g c _ _ _ _) hP
              have hI := IM.store0 hI 39 (z7866 : Int32).toNatClampNeg (v7908 42) rfl
              have hF := frUF (k := 39) (f := upd (F7909 39) (z7866 : Int32).toNatClampNeg (v7908 42)) (by decide) hF
              have st7934 : (va_up F7909 39 (upd (F7909 39) (z7866 : Int32).toNatClampNeg (v7908 42))) 39 = upd (F7909 39) (z7866 : Int32).toNatClampNeg (v7908 42) := va_up_self _ _ _
              have sn7935 : ∀ k9, k9 ≠ 39 → (va_up F7909 39 (upd (F7909 39) (z7866 : Int32).toNatClampNeg (v7908 42))) k9 = F7909 k9 := fun k9 h9 => va_up_ne _ _ h9
              have hP : va_P (dC, dI) classes (wM g c v7908 (va_up F7909 39 (upd (F7909 39) (z7866 : Int32).toNatClampNeg (v7908 42))) rc) H := hP
              generalize (va_up F7909 39 (upd (F7909 39) (z7866 : Int32).toNatClampNeg (v7908 42))) = F7933 at hP hI hF st7934 sn7935
              refine lv_goto (tgt := 117) hx hb dX12_readLine_83 (by decide) ?_
              obtain ⟨z7936, e7937⟩ : ∃ y : Int32, y = x5_lp7872 + 1 := ⟨_, rfl⟩
              try (have t7938 := tadd e7937 rfl (b := 1) (by decide) (by omega))
              refine lv_iinc (v := z7936) (lv' := [(5, .int z7936), (4, .int z7866), (3, .int r7856), (2, .int r7855), (0, .ref (g 0)), (1, .int 10)]) hx hb dX12_readLine_117 hl (k := 0) rfl (by rw [e7937]; rfl) (by decide) rfl (fun ls hl => ?_)
              refine lv_goto (tgt := 53) hx hb dX12_readLine_120 (by decide) ?_
              exact ih_lp7872 z7936 v7908 F7933 _ _ _ (by omega) (by have h9 : v7908 39 = v7908 39 := rfl; (try rw [h9]); clear h9; have h9 : v7908 40 = v7908 40 := rfl; (try rw [h9]); clear h9; omega) ((congrArg Int32.toInt (congrFun ((sn7935 37 (by decide)).trans (hG7911 37 (by decide))) _)).trans t7875) (by have h9 : v7908 40 = v7908 40 := rfl; (try rw [h9]); clear h9; have h9 : v7908 39 = v7908 39 := rfl; (try rw [h9]); clear h9; exact nz.step t7876 (by omega) (by omega) rfl (hw_r7907.2 (by omega)) (by omega)) (by omega) (frC (by decide) hf7910 hf_lp7872) hI hF hP hS (lv_sub hl [0, 1, 2, 3, 4, 5] rfl)
          · skip
            have t7939 := cv_eq (a := r7907.toInt) rfl (b := 0) (by decide) c7913
            have hP9 : va_P (dC, dI) classes (wM g c v7908 F7909 rc) H := hP
            exact W.vret hx hb hr (fun t ht hW => ⟨⟨(v7908, F7909, rc), rfl, ⟨hI, rfl, (frC (by decide) hf7910 (frC (by decide) hf_lp7872 (frU (by decide) (fun _ _ => rfl)))), hF, (by show (4 * (F7909 37 (10 : Int32).toNatClampNeg).toInt ≤ (v7908 39).toInt ∧ (v7908 39).toInt ≤ (v 30).toInt ∧ (v 39).toInt ≤ (v7908 39).toInt ∧ (((v7908 40).toInt < 0 ∧ (v 39).toInt < (v7908 39).toInt ∧ (F7909 37 (10 : Int32).toNatClampNeg).toInt = (F 37 (10 : Int32).toNatClampNeg).toInt + 1) ∨ (0 ≤ (v7908 40).toInt ∧ (v7908 40).toInt = (v7908 39).toInt ∧ (F7909 37 (10 : Int32).toNatClampNeg).toInt = (F 37 (10 : Int32).toNatClampNeg).toInt))) ∧ ln false (v 30) (F 24) (v 39).toInt (v7908 40).toInt (v7908 39).toInt; have b9 := t7875; have l9 : (F7909 37 (10 : Int32).toNatClampNeg).toInt = (F_lp7872 37 (10 : Int32).toNatClampNeg).toInt := congrArg Int32.toInt (congrFun (hG7911 37 (by decide)) _); exact ⟨by omega, ln.of (k := r7856.toInt) (by omega) (by rw [← hw_r7855.1]; exact hw_r7856.1) (by omega) rfl (nz.step t7876 (by omega) (by omega) rfl (hw_r7907.2 (by omega)) rfl) (fun q9 => by omega) (by omega)⟩)⟩, (by show va_P _ _ _ t.heap; rw [ht]; exact hP9)⟩, hS.F ht⟩) hS.2.2 dX12_readLine_66
    obtain ⟨n9, hn9⟩ : ∃ n : Nat, 2147483648 - 0 ≤ (n : Int) := ⟨((2147483648 - 0 : Int)).toNat, by omega⟩
    exact lp7872 n9 0 (va_up v 39 z7860) F7869 H _ ls (by have : (0 : Int32).toInt = 0 := (by decide); omega) (by have h9 : (va_up v 39 z7860) 39 = z7860 := rfl; (try rw [h9]); clear h9; have h9 : (va_up v 39 z7860) 40 = v 40 := rfl; (try rw [h9]); clear h9; have : (0 : Int32).toInt = 0 := (by decide); omega) (congrArg Int32.toInt (congrFun (sn7871 37 (by decide)) _)) (by have h9 : (va_up v 39 z7860) 40 = v 40 := rfl; (try rw [h9]); clear h9; have h9 : (va_up v 39 z7860) 39 = z7860 := rfl; (try rw [h9]); clear h9; have : (0 : Int32).toInt = 0 := (by decide); exact nz.start (by omega) (by omega) (by omega) (by omega)) (by have : (0 : Int32).toInt = 0 := (by decide); omega) (fun _ _ => rfl) hI hF hP hS hl
  · skip
    have t7940 := cv_eq (a := r7856.toInt) rfl (b := 0) (by decide) c7857
    refine lv_aload_n hx hb dX12_readLine_14 rfl (lv_at hl 2 rfl) ?_
    have t7941 : 0 ≤ (v 39).toInt ∧ (v 39).toInt ≤ 120 := hI.1 39 _ _ rfl
    refine va_callv (va_runV (As := []) (rest := []) ⟨hx, hb, hml, hown, hwd⟩ (c_X12_wrong l dC dI g c adK adV v F rc H.size  hg hI ) (cwV 0 hwd (gV wk_1029 wk_1026 wk_1027 wk_1028 wk_5) rfl rfl rfl (by decide +kernel) ⟨Nat.le_of_ble_eq_true rfl, Nat.le_of_ble_eq_true rfl⟩) ⟨PM.blind, va_recv hK hP (ci := 12) (q0 := 0) rfl rfl, fun U hU hW => ⟨rfl, PM.at hK hE hP hS hU hW⟩⟩ rfl rfl hl.1 rfl (lv_room (Nat.le_of_ble_eq_true rfl)) dX12_readLine_15 ⟨Nat.le_of_ble_eq_true rfl, Nat.le_of_ble_eq_true rfl⟩) hS (fun q _ h => (freeM hS) q h) (freeM hS) (fun u t H1 locs ht hvm hw hB hz1 hk1 hS => ?_)
    unfold BM at hB
    rw [ht] at hB
    obtain ⟨v7943, F7944, rc9⟩ := u
    obtain ⟨hI, hrc, hf7945, hG7946, hw⟩ := hw
    dsimp only at hI hrc hB hf7945 hG7946 hw
    have hF := frCF (by decide) hG7946 hF
    rw [hrc] at hB
    have hP : va_P (dC, dI) classes (wM g c v7943 F7944 rc) H1 := hB
    replace hw : ((v 40).toInt < 0 ∧ (v7943 40).toInt = (v 39).toInt) ∨ (0 ≤ (v 40).toInt ∧ (v7943 40).toInt = (v 40).toInt) := hw
    have hw_r7942 := hw
    clear hw
    clear hz1
    generalize H1 = H at hP hS ⊢
    have hP9 : va_P (dC, dI) classes (wM g c v7943 F7944 rc) H := hP
    exact W.vret hx hb hr (fun t ht hW => ⟨⟨(v7943, F7944, rc), rfl, ⟨hI, rfl, (frC (by decide) hf7945 (fun _ _ => rfl)), hF, (by show (4 * (F7944 37 (10 : Int32).toNatClampNeg).toInt ≤ (v7943 39).toInt ∧ (v7943 39).toInt ≤ (v 30).toInt ∧ (v 39).toInt ≤ (v7943 39).toInt ∧ (((v7943 40).toInt < 0 ∧ (v 39).toInt < (v7943 39).toInt ∧ (F7944 37 (10 : Int32).toNatClampNeg).toInt = (F 37 (10 : Int32).toNatClampNeg).toInt + 1) ∨ (0 ≤ (v7943 40).toInt ∧ (v7943 40).toInt = (v7943 39).toInt ∧ (F7944 37 (10 : Int32).toNatClampNeg).toInt = (F 37 (10 : Int32).toNatClampNeg).toInt))) ∧ ln false (v 30) (F 24) (v 39).toInt (v7943 40).toInt (v7943 39).toInt; rw [show v7943 39 = v 39 from hf7945 39 (by decide)]; have l9 : (F7944 37 (10 : Int32).toNatClampNeg).toInt = (F 37 (10 : Int32).toNatClampNeg).toInt := congrArg Int32.toInt (congrFun (hG7946 37 (by decide)) _); exact ⟨by omega, ln.no (by omega) (by rw [← hw_r7855.1]; have n9 := hw_r7856.1; omega) (by omega) (by omega)⟩)⟩, (by show va_P _ _ _ t.heap; rw [ht]; exact hP9)⟩, hS.F ht⟩) hS.2.2 dX12_readLine_18
set_option maxHeartbeats 8000000 in
set_option maxRecDepth 100000 in
theorem c_X12_contract (l : Launch) (dC : Nat → ClassId) (dI : Nat → Nat → Nat) (g : Nat → Nat) (c : Nat → ClassId) (adK adV : Nat → Nat) (v : Nat → Int32) (F : Nat → Nat → Int32) (rc sz : Nat) (p0 : Int32) (p1 : Int32) (p2 : Int32) (hg : injM g) (hI : IM v F) : Met l yX12_contract (Cond.code yX12_contract cX12_contract 5 (some .int) :: wA) ({ frames := 5, cells := 0, slots := 0, locals := 200 }) (va_Pc [.ref (g 0), .int p0, .int p1, .int p2] (PM dC dI g c adK adV v F rc sz)) (va_Qi (fun (r : Int32) (u : StM) => IM u.1 u.2.1 ∧ u.2.2 = rc ∧ (∀ k, k ∉ ([30, 39, 40, 42] : List Nat) → u.1 k = v k) ∧ (∀ k, k ∉ ([35, 36, 37, 38, 39, 40, 41] : List Nat) → u.2.1 k = F k) ∧ ((¬ ((0 ≤ p0.toInt ∧ p0.toInt < (v 6).toInt) ∧ (0 ≤ p1.toInt ∧ p1.toInt ≤ 9999) ∧ (0 ≤ p2.toInt ∧ p2.toInt ≤ 99999)) ∧ r.toInt = -1 ∧ (u.1 30).toInt = (v 30).toInt ∧ u.2.1 35 = F 35) ∨ (((0 ≤ p0.toInt ∧ p0.toInt < (v 6).toInt) ∧ (0 ≤ p1.toInt ∧ p1.toInt ≤ 9999) ∧ (0 ≤ p2.toInt ∧ p2.toInt ≤ 99999)) ∧ 0 ≤ (F 8 p0.toNatClampNeg).toInt ∧ r.toInt = -2 ∧ (u.1 30).toInt = (v 30).toInt ∧ u.2.1 35 = F 35) ∨ (((0 ≤ p0.toInt ∧ p0.toInt < (v 6).toInt) ∧ (0 ≤ p1.toInt ∧ p1.toInt ≤ 9999) ∧ (0 ≤ p2.toInt ∧ p2.toInt ≤ 99999)) ∧ (F 8 p0.toNatClampNeg).toInt < 0 ∧ (u.1 30).toInt = 0 ∧ cans (v 30) (F 24) r.toInt ∧ ((r.toInt ≤ -100 ∧ u.2.1 35 = F 35) ∨ (1 ≤ r.toInt ∧ u.2.1 35 = upd (F 35) p0.toNatClampNeg p1))))) (BM dC dI g c) (AM g sz)) 0 0 (AM g sz) := by
  refine Met.ofW (cc := cX12_contract) (maxL := 5) (ret := (some .int)) (by decide) rfl ?_
  intro p e s m args below meth c0 s₁ B hml hv
  obtain ⟨rfl, hsz, hP, hK, hE⟩ := hv
  have hx := B.exec
  have hb := B.bytes
  have hr := B.returns
  have hts := atoms_spec (ws := Cond.code yX12_contract cX12_contract 5 (some .int) :: wA) B.pre
  have hwd : ∀ w ∈ wA, w.before _ s = true := fun w h => hts w (List.mem_cons_of_mem _ h)
  have hown : s.vm.findClass RX12 = some m.cls := findClass_of_methodNamed B.named
  have hlocks := B.notSynchronized
  subst hsz
  have hl := lv_entry ([.ref (g 0), .int p0, .int p1, .int p2]) (n := 5) (Nat.le_of_ble_eq_true rfl)
  rw [lg_entry_eq]
  generalize (lg_sl ([.ref (g 0), .int p0, .int p1, .int p2]) ++ List.replicate (5 - (lg_sl ([.ref (g 0), .int p0, .int p1, .int p2])).length) Slot.unset).toArray = ls at hl ⊢
  have hl : lv_has ls 5 [(0, .ref (g 0)), (1, .int p0), (2, .int p1), (3, .int p2)] := hl
  obtain ⟨H, eH⟩ : ∃ z, z = s.heap := ⟨_, rfl⟩
  have hP : va_P (dC, dI) classes (wM g c v F rc) H := by rw [eH]; exact hP
  have hS : va_S (AM g s.heap.size) s.heap H [] := by rw [eH]; exact va_S.rf
  refine my_heap eH ?_
  have hF : ∀ k, k ∉ ([35, 36, 37, 38, 39, 40, 41] : List Nat) → F k = F k := fun _ _ => rfl
  have rp0 := i32_rng p0
  have rp1 := i32_rng p1
  have rp2 := i32_rng p2
  have hb30 : 0 ≤ (v 30).toInt ∧ (v 30).toInt ≤ 120 := hI.1 30 _ _ rfl
  refine lv_aload_n hx hb dX12_contract_0 rfl (lv_at hl 0 rfl) ?_
  refine lv_iload_n hx hb dX12_contract_1 rfl (lv_at hl 1 rfl) ?_
  have t8178 : 0 ≤ (v 6).toInt ∧ (v 6).toInt ≤ 10 := hI.1 6 _ _ rfl
  refine va_calli (va_runV (As := [.int p0]) (rest := []) ⟨hx, hb, hml, hown, hwd⟩ (c_X12_isPlane l dC dI g c adK adV v F rc H.size p0 hg hI ) (cwV 1 hwd (gV wk_305 wk_302 wk_303 wk_304 wk_5) rfl rfl rfl (by decide +kernel) ⟨Nat.le_of_ble_eq_true rfl, Nat.le_of_ble_eq_true rfl⟩) ⟨PM.blind, va_recv hK hP (ci := 12) (q0 := 0) rfl rfl, fun U hU hW => ⟨rfl, PM.at hK hE hP hS hU hW⟩⟩ rfl rfl hl.1 rfl (lv_room (Nat.le_of_ble_eq_true rfl)) dX12_contract_2 ⟨Nat.le_of_ble_eq_true rfl, Nat.le_of_ble_eq_true rfl⟩) hS (fun q _ h => (freeM hS) q h) (freeM hS) (fun r8179 u t H1 locs ht hvm hw hB hz1 hk1 hS => ?_)
  unfold BM at hB
  rw [ht] at hB
  have hP : va_P (dC, dI) classes (wM g c v F rc) H1 := hB
  replace hw : (r8179.toInt = 1 ∧ 0 ≤ p0.toInt ∧ p0.toInt < (v 6).toInt) ∨ (r8179.toInt = 0 ∧ (p0.toInt < 0 ∨ (v 6).toInt ≤ p0.toInt)) := hw
  have hw_r8179 := hw
  clear hw
  clear hz1
  generalize H1 = H at hP hS ⊢
  refine lv_if_eq (tgt := 25) hx hb dX12_contract_5 (by decide) (fun c8180 => ?_) (fun c8180 => ?_)
  · skip
    have t8181 := cv_eq (a := r8179.toInt) rfl (b := 0) (by decide) c8180
    refine lv_iconst (v := (-1)) hx hb dX12_contract_25 (by decide) ?_
    have hP9 : va_P (dC, dI) classes (wM g c v F rc) H := hP
    exact W.iret (v := (-1)) hx hb hr (fun t ht hW => ⟨⟨(-1), (v, F, rc), rfl, ⟨hI, rfl, (fun _ _ => rfl), hF, (by show (¬ ((0 ≤ p0.toInt ∧ p0.toInt < (v 6).toInt) ∧ (0 ≤ p1.toInt ∧ p1.toInt ≤ 9999) ∧ (0 ≤ p2.toInt ∧ p2.toInt ≤ 99999)) ∧ ((-1) : Int32).toInt = -1 ∧ (v 30).toInt = (v 30).toInt ∧ F 35 = F 35) ∨ (((0 ≤ p0.toInt ∧ p0.toInt < (v 6).toInt) ∧ (0 ≤ p1.toInt ∧ p1.toInt ≤ 9999) ∧ (0 ≤ p2.toInt ∧ p2.toInt ≤ 99999)) ∧ 0 ≤ (F 8 p0.toNatClampNeg).toInt ∧ ((-1) : Int32).toInt = -2 ∧ (v 30).toInt = (v 30).toInt ∧ F 35 = F 35) ∨ (((0 ≤ p0.toInt ∧ p0.toInt < (v 6).toInt) ∧ (0 ≤ p1.toInt ∧ p1.toInt ≤ 9999) ∧ (0 ≤ p2.toInt ∧ p2.toInt ≤ 99999)) ∧ (F 8 p0.toNatClampNeg).toInt < 0 ∧ (v 30).toInt = 0 ∧ cans (v 30) (F 24) ((-1) : Int32).toInt ∧ ((((-1) : Int32).toInt ≤ -100 ∧ F 35 = F 35) ∨ (1 ≤ ((-1) : Int32).toInt ∧ F 35 = upd (F 35) p0.toNatClampNeg p1))); have : ((-1) : Int32).toInt = (-1) := (by decide); exact Or.inl ⟨by omega, by omega, by omega, rfl⟩)⟩, (by show va_P _ _ _ t.heap; rw [ht]; exact hP9)⟩, hS.F ht⟩) hS.2.2 dX12_contract_26
  · skip
    have t8182 := cv_ne (a := r8179.toInt) rfl (b := 0) (by decide) c8180
    refine lv_iload_n hx hb dX12_contract_8 rfl (lv_at hl 2 rfl) ?_
    refine va_calli (va_runS (As := [.int p1]) (rest := []) ⟨hx, hb, hml, hown, hwd⟩ (c_X12_isDay l dC dI g c adK adV v F rc H.size p1 hg hI ) (va_cwS 1 hwd (gT wk_556 wk_554 wk_555 wk_5) rfl rfl rfl (by decide +kernel) ⟨Nat.le_of_ble_eq_true rfl, Nat.le_of_ble_eq_true rfl⟩) ⟨PM.blind, fun U hU hW => ⟨rfl, PM.at hK hE hP hS hU hW⟩⟩ rfl rfl hl.1 rfl (lv_room (Nat.le_of_ble_eq_true rfl)) dX12_contract_9 ⟨Nat.le_of_ble_eq_true rfl, Nat.le_of_ble_eq_true rfl⟩) hS (fun q _ h => (freeM hS) q h) (freeM hS) (fun r8183 u t H1 locs ht hvm hw hB hz1 hk1 hS => ?_)
    unfold BM at hB
    rw [ht] at hB
    have hP : va_P (dC, dI) classes (wM g c v F rc) H1 := hB
    have hw_r8183 : (r8183.toInt = 1 ∧ 0 ≤ p1.toInt ∧ p1.toInt ≤ 9999) ∨ (r8183.toInt = 0 ∧ (p1.toInt < 0 ∨ 9999 < p1.toInt)) := hw
    clear hw
    clear hz1
    generalize H1 = H at hP hS ⊢
    refine lv_if_eq (tgt := 25) hx hb dX12_contract_12 (by decide) (fun c8184 => ?_) (fun c8184 => ?_)
    · skip
      have t8185 := cv_eq (a := r8183.toInt) rfl (b := 0) (by decide) c8184
      refine lv_iconst (v := (-1)) hx hb dX12_contract_25 (by decide) ?_
      have hP9 : va_P (dC, dI) classes (wM g c v F rc) H := hP
      exact W.iret (v := (-1)) hx hb hr (fun t ht hW => ⟨⟨(-1), (v, F, rc), rfl, ⟨hI, rfl, (fun _ _ => rfl), hF, (by show (¬ ((0 ≤ p0.toInt ∧ p0.toInt < (v 6).toInt) ∧ (0 ≤ p1.toInt ∧ p1.toInt ≤ 9999) ∧ (0 ≤ p2.toInt ∧ p2.toInt ≤ 99999)) ∧ ((-1) : Int32).toInt = -1 ∧ (v 30).toInt = (v 30).toInt ∧ F 35 = F 35) ∨ (((0 ≤ p0.toInt ∧ p0.toInt < (v 6).toInt) ∧ (0 ≤ p1.toInt ∧ p1.toInt ≤ 9999) ∧ (0 ≤ p2.toInt ∧ p2.toInt ≤ 99999)) ∧ 0 ≤ (F 8 p0.toNatClampNeg).toInt ∧ ((-1) : Int32).toInt = -2 ∧ (v 30).toInt = (v 30).toInt ∧ F 35 = F 35) ∨ (((0 ≤ p0.toInt ∧ p0.toInt < (v 6).toInt) ∧ (0 ≤ p1.toInt ∧ p1.toInt ≤ 9999) ∧ (0 ≤ p2.toInt ∧ p2.toInt ≤ 99999)) ∧ (F 8 p0.toNatClampNeg).toInt < 0 ∧ (v 30).toInt = 0 ∧ cans (v 30) (F 24) ((-1) : Int32).toInt ∧ ((((-1) : Int32).toInt ≤ -100 ∧ F 35 = F 35) ∨ (1 ≤ ((-1) : Int32).toInt ∧ F 35 = upd (F 35) p0.toNatClampNeg p1))); have : ((-1) : Int32).toInt = (-1) := (by decide); exact Or.inl ⟨by omega, by omega, by omega, rfl⟩)⟩, (by show va_P _ _ _ t.heap; rw [ht]; exact hP9)⟩, hS.F ht⟩) hS.2.2 dX12_contract_26
    · skip
      have t8186 := cv_ne (a := r8183.toInt) rfl (b := 0) (by decide) c8184
      refine lv_iload_n hx hb dX12_contract_15 rfl (lv_at hl 3 rfl) ?_
      refine lv_iconst (v := 0) hx hb dX12_contract_16 (by decide) ?_
      refine lv_ldc (v := 99999) hx hb hown (hwd _ wk_249) dX12_contract_17 ?_
      refine va_calli (va_runS (As := [.int p2, .int 0, .int 99999]) (rest := []) ⟨hx, hb, hml, hown, hwd⟩ (c_X12_in l dC dI g c adK adV v F rc H.size p2 0 99999 hg hI ) (va_cwS 3 hwd (gT wk_254 wk_252 wk_253 wk_5) rfl rfl rfl (by decide +kernel) ⟨Nat.le_of_ble_eq_true rfl, Nat.le_of_ble_eq_true rfl⟩) ⟨PM.blind, fun U hU hW => ⟨rfl, PM.at hK hE hP hS hU hW⟩⟩ rfl rfl hl.1 rfl (lv_room (Nat.le_of_ble_eq_true rfl)) dX12_contract_19 ⟨Nat.le_of_ble_eq_true rfl, Nat.le_of_ble_eq_true rfl⟩) hS (fun q _ h => (freeM hS) q h) (freeM hS) (fun r8187 u t H1 locs ht hvm hw hB hz1 hk1 hS => ?_)
      unfold BM at hB
      rw [ht] at hB
      have hP : va_P (dC, dI) classes (wM g c v F rc) H1 := hB
      have hw_r8187 : (r8187.toInt = 1 ∧ (0 : Int32).toInt ≤ p2.toInt ∧ p2.toInt ≤ (99999 : Int32).toInt) ∨ (r8187.toInt = 0 ∧ (p2.toInt < (0 : Int32).toInt ∨ (99999 : Int32).toInt < p2.toInt)) := hw
      clear hw
      have k8188 : (0 : Int32).toInt = 0 := by decide
      have k8189 : (99999 : Int32).toInt = 99999 := by decide
      clear hz1
      generalize H1 = H at hP hS ⊢
      refine lv_if_ne (tgt := 27) hx hb dX12_contract_22 (by decide) (fun c8190 => ?_) (fun c8190 => ?_)
      · skip
        have t8191 := cv_ne (a := r8187.toInt) rfl (b := 0) (by decide) c8190
        refine lv_aload_n hx hb dX12_contract_27 rfl (lv_at hl 0 rfl) ?_
        refine lv_iload_n hx hb dX12_contract_28 rfl (lv_at hl 1 rfl) ?_
        refine va_calli (va_runV (As := [.int p0]) (rest := []) ⟨hx, hb, hml, hown, hwd⟩ (c_X12_isReturned l dC dI g c adK adV v F rc H.size p0 hg hI (by omega)) (cwV 1 hwd (gV wk_313 wk_310 wk_311 wk_312 wk_5) rfl rfl rfl (by decide +kernel) ⟨Nat.le_of_ble_eq_true rfl, Nat.le_of_ble_eq_true rfl⟩) ⟨PM.blind, va_recv hK hP (ci := 12) (q0 := 0) rfl rfl, fun U hU hW => ⟨rfl, PM.at hK hE hP hS hU hW⟩⟩ rfl rfl hl.1 rfl (lv_room (Nat.le_of_ble_eq_true rfl)) dX12_contract_29 ⟨Nat.le_of_ble_eq_true rfl, Nat.le_of_ble_eq_true rfl⟩) hS (fun q _ h => (freeM hS) q h) (freeM hS) (fun r8192 u t H1 locs ht hvm hw hB hz1 hk1 hS => ?_)
        unfold BM at hB
        rw [ht] at hB
        have hP : va_P (dC, dI) classes (wM g c v F rc) H1 := hB
        replace hw : (r8192.toInt = 1 ∧ 0 ≤ (F 8 p0.toNatClampNeg).toInt) ∨ (r8192.toInt = 0 ∧ (F 8 p0.toNatClampNeg).toInt < 0) := hw
        have hw_r8192 := hw
        clear hw
        clear hz1
        generalize H1 = H at hP hS ⊢
        refine lv_if_eq (tgt := 38) hx hb dX12_contract_32 (by decide) (fun c8193 => ?_) (fun c8193 => ?_)
        · skip
          have t8194 := cv_eq (a := r8192.toInt) rfl (b := 0) (by decide) c8193
          refine lv_aload_n hx hb dX12_contract_38 rfl (lv_at hl 0 rfl) ?_
          refine lv_iconst (v := 0) hx hb dX12_contract_39 (by decide) ?_
          refine va_put (D := (dC, dI)) (ci := 12) (v := .int 0) (ty := .int) (C := RX12) (T := TX12) (N := 63) (fs := fsM_0 g v rc) hx hb hwd inA_X12 tyX12 tyX12_ok nmX12 hown hK hP (DM hg) hS 0 rfl rfl 39 (by decide) (hwd _ wk_1004) (fun _ h9 => h9) rfl (by decide +kernel) rfl rfl (Nat.le_of_ble_eq_true rfl) dX12_contract_40 (fun H locs hP _ hS => ?_)
          have hP := va_P_eq (pM_39 g c _ _ _ _) hP
          have hI := IM.put hI 39 0 rfl (by have : (0 : Int32).toInt = 0 := (by decide); omega)
          refine lv_aload_n hx hb dX12_contract_43 rfl (lv_at hl 0 rfl) ?_
          refine lv_iconst (v := (-1)) hx hb dX12_contract_44 (by decide) ?_
          refine va_put (D := (dC, dI)) (ci := 12) (v := .int (-1)) (ty := .int) (C := RX12) (T := TX12) (N := 63) (fs := fsM_0 g (va_up v 39 0) rc) hx hb hwd inA_X12 tyX12 tyX12_ok nmX12 hown hK hP (DM hg) hS 0 rfl rfl 40 (by decide) (hwd _ wk_1005) (fun _ h9 => h9) rfl (by decide +kernel) rfl rfl (Nat.le_of_ble_eq_true rfl) dX12_contract_45 (fun H locs hP _ hS => ?_)
          have hP := va_P_eq (pM_40 g c _ _ _ _) hP
          have hI := IM.put0 hI 40 (-1) rfl
          refine lv_aload_n hx hb dX12_contract_48 rfl (lv_at hl 0 rfl) ?_
          refine va_get (D := (dC, dI)) (ci := 12) (v := .ref (g 37)) (C := RX12) (T := TX12) (N := 63) hx hb hwd inA_X12 hown hK hP 0 rfl rfl 51 (by decide) (hwd _ wk_219) (fun _ h9 => h9) rfl dX12_contract_49 ?_
          refine lv_bipush (v := 10) hx hb dX12_contract_52 (by decide) ?_
          refine lv_iconst (v := 0) hx hb dX12_contract_54 (by decide) ?_
          refine va_iast hx hb hK hP (DM hg) hS 37 36 rfl rfl (i := 10) (x := 0) (vin (a := 10) (by decide) (by omega)) dX12_contract_55 (fun H locs hP _ hS => ?_)
          have hP := va_P_eq (sM_37 g c _ _ _ _) hP
          have hI := IM.store hI 37 (10 : Int32).toNatClampNeg 0 rfl (by have : (0 : Int32).toInt = 0 := (by decide); omega)
          have hF := frUF (k := 37) (f := upd (F 37) (10 : Int32).toNatClampNeg 0) (by decide) hF
          have st8196 : (va_up F 37 (upd (F 37) (10 : Int32).toNatClampNeg 0)) 37 = upd (F 37) (10 : Int32).toNatClampNeg 0 := va_up_self _ _ _
          have sn8197 : ∀ k9, k9 ≠ 37 → (va_up F 37 (upd (F 37) (10 : Int32).toNatClampNeg 0)) k9 = F k9 := fun k9 h9 => va_up_ne _ _ h9
          have hP : va_P (dC, dI) classes (wM g c (va_up (va_up v 39 0) 40 (-1)) (va_up F 37 (upd (F 37) (10 : Int32).toNatClampNeg 0)) rc) H := hP
          generalize (va_up F 37 (upd (F 37) (10 : Int32).toNatClampNeg 0)) = F8195 at hP hI hF st8196 sn8197
          refine lv_aload_n hx hb dX12_contract_56 rfl (lv_at hl 0 rfl) ?_
          refine lv_bipush (v := 10) hx hb dX12_contract_57 (by decide) ?_
          have t8198 : 0 ≤ (v 30).toInt ∧ (v 30).toInt ≤ 120 := hI.1 30 _ _ rfl
          have hby24 : F8195 24 = F 24 := hF 24 (by decide)
          refine va_callv (va_runV (As := [.int 10]) (rest := []) ⟨hx, hb, hml, hown, hwd⟩ (c_X12_readLine l dC dI g c adK adV (va_up (va_up v 39 0) 40 (-1)) F8195 rc H.size  hg hI (by have h9 : (va_up (va_up v 39 0) 40 (-1)) 39 = 0 := rfl; (try rw [h9]); clear h9; have : (0 : Int32).toInt = 0 := (by decide); have h9 : (va_up (va_up v 39 0) 40 (-1)) 30 = v 30 := rfl; (try rw [h9]); clear h9; have h9 : (va_up (va_up v 39 0) 40 (-1)) 40 = (-1) := rfl; (try rw [h9]); clear h9; have : ((-1) : Int32).toInt = (-1) := (by decide); have l9 : (F8195 37 (10 : Int32).toNatClampNeg).toInt = (0 : Int32).toInt := congrArg Int32.toInt ((congrFun st8196 _).trans (mu_at _ _ _)); have : (0 : Int32).toInt = 0 := (by decide); omega)) (cwV 1 hwd (gV wk_1131 wk_1128 wk_1129 wk_1130 wk_5) rfl rfl rfl (by decide +kernel) ⟨Nat.le_of_ble_eq_true rfl, Nat.le_of_ble_eq_true rfl⟩) ⟨PM.blind, va_recv hK hP (ci := 12) (q0 := 0) rfl rfl, fun U hU hW => ⟨rfl, PM.at hK hE hP hS hU hW⟩⟩ rfl rfl hl.1 rfl (lv_room (Nat.le_of_ble_eq_true rfl)) dX12_contract_59 ⟨Nat.le_of_ble_eq_true rfl, Nat.le_of_ble_eq_true rfl⟩) hS (fun q _ h => (freeM hS) q h) (freeM hS) (fun u t H1 locs ht hvm hw hB hz1 hk1 hS => ?_)
          unfold BM at hB
          rw [ht] at hB
          obtain ⟨v8200, F8201, rc9⟩ := u
          obtain ⟨hI, hrc, hf8202, hG8203, hw⟩ := hw
          dsimp only at hI hrc hB hf8202 hG8203 hw
          have hF := frCF (by decide) hG8203 hF
          rw [hrc] at hB
          have hP : va_P (dC, dI) classes (wM g c v8200 F8201 rc) H1 := hB
          replace hw : (4 * (F8201 37 (10 : Int32).toNatClampNeg).toInt ≤ (v8200 39).toInt ∧ (v8200 39).toInt ≤ (v 30).toInt ∧ (0 : Int32).toInt ≤ (v8200 39).toInt ∧ (((v8200 40).toInt < 0 ∧ (0 : Int32).toInt < (v8200 39).toInt ∧ (F8201 37 (10 : Int32).toNatClampNeg).toInt = (F8195 37 (10 : Int32).toNatClampNeg).toInt + 1) ∨ (0 ≤ (v8200 40).toInt ∧ (v8200 40).toInt = (v8200 39).toInt ∧ (F8201 37 (10 : Int32).toNatClampNeg).toInt = (F8195 37 (10 : Int32).toNatClampNeg).toInt))) ∧ ln false (v 30) (F8195 24) (0 : Int32).toInt (v8200 40).toInt (v8200 39).toInt := hw
          rw [hby24] at hw
          have hw_r8199 := hw
          clear hw
          have t8204 : 0 ≤ (v8200 39).toInt ∧ (v8200 39).toInt ≤ 120 := hI.1 39 _ _ rfl
          have k8205 : (10 : Int32).toInt = 10 := by decide
          clear hz1
          generalize H1 = H at hP hS ⊢
          have lp8206 : ∀ (n : Nat) (v_lp8206 : Nat → Int32) (F_lp8206 : Nat → Nat → Int32) (H : Heap) (locs : List Loc) (ls : Array Slot), (4 * (F_lp8206 37 (10 : Int32).toNatClampNeg).toInt ≤ (v_lp8206 39).toInt ∧ (v_lp8206 39).toInt ≤ (v 30).toInt ∧ 0 ≤ (F_lp8206 37 (10 : Int32).toNatClampNeg).toInt ∧ (v_lp8206 40).toInt ≤ (v_lp8206 39).toInt ∧ ((v_lp8206 40).toInt < 0 → 1 ≤ (F_lp8206 37 (10 : Int32).toNatClampNeg).toInt)) → (tx (v 30) (F 24) (v_lp8206 40).toInt (v_lp8206 39).toInt (F_lp8206 37 (10 : Int32).toNatClampNeg).toInt) → (F_lp8206 35 = F 35) → (1 ≤ n ∧ ((v_lp8206 40).toInt < 0 → 122 - (v_lp8206 39).toInt ≤ (n : Int))) → (∀ k, k ∉ ([39, 40, 42] : List Nat) → v_lp8206 k = v8200 k) → IM v_lp8206 F_lp8206 → (∀ k, k ∉ ([35, 36, 37, 38, 39, 40, 41] : List Nat) → F_lp8206 k = F k) → va_P (dC, dI) classes (wM g c v_lp8206 F_lp8206 rc) H → va_S (AM g s.heap.size) s.heap H locs → lv_has ls 5 [(0, .ref (g 0)), (1, .int p0), (2, .int p1), (3, .int p2)] → W p l e (headSpec (Cond.code yX12_contract cX12_contract 5 (some .int) :: wA) ({ frames := 5, cells := 0, slots := 0, locals := 200 })).room s m ([.ref (g 0), .int p0, .int p1, .int p2] : List Value).toArray below meth c0 H locs 0 0 (MQ below (va_Qi (fun (r : Int32) (u : StM) => IM u.1 u.2.1 ∧ u.2.2 = rc ∧ (∀ k, k ∉ ([30, 39, 40, 42] : List Nat) → u.1 k = v k) ∧ (∀ k, k ∉ ([35, 36, 37, 38, 39, 40, 41] : List Nat) → u.2.1 k = F k) ∧ ((¬ ((0 ≤ p0.toInt ∧ p0.toInt < (v 6).toInt) ∧ (0 ≤ p1.toInt ∧ p1.toInt ≤ 9999) ∧ (0 ≤ p2.toInt ∧ p2.toInt ≤ 99999)) ∧ r.toInt = -1 ∧ (u.1 30).toInt = (v 30).toInt ∧ u.2.1 35 = F 35) ∨ (((0 ≤ p0.toInt ∧ p0.toInt < (v 6).toInt) ∧ (0 ≤ p1.toInt ∧ p1.toInt ≤ 9999) ∧ (0 ≤ p2.toInt ∧ p2.toInt ≤ 99999)) ∧ 0 ≤ (F 8 p0.toNatClampNeg).toInt ∧ r.toInt = -2 ∧ (u.1 30).toInt = (v 30).toInt ∧ u.2.1 35 = F 35) ∨ (((0 ≤ p0.toInt ∧ p0.toInt < (v 6).toInt) ∧ (0 ≤ p1.toInt ∧ p1.toInt ≤ 9999) ∧ (0 ≤ p2.toInt ∧ p2.toInt ≤ 99999)) ∧ (F 8 p0.toNatClampNeg).toInt < 0 ∧ (u.1 30).toInt = 0 ∧ cans (v 30) (F 24) r.toInt ∧ ((r.toInt ≤ -100 ∧ u.2.1 35 = F 35) ∨ (1 ≤ r.toInt ∧ u.2.1 35 = upd (F 35) p0.toNatClampNeg p1))))) (BM dC dI g c) (AM g s.heap.size)) ([.ref (g 0), .int p0, .int p1, .int p2] : List Value).toArray s 0 0 (AM g s.heap.size)) (F0 m 62 ls []) := by
            intro n
            induction n with
            | zero =>
              intro v_lp8206 F_lp8206 H locs ls t8207 t8208 t8209 hm hf_lp8206 hI hF hP hS hl
              exfalso
              have hI1 := hI.1
              omega
            | succ n ih_lp8206 =>
              intro v_lp8206 F_lp8206 H locs ls t8207 t8208 t8209 hm hf_lp8206 hI hF hP hS hl
              refine lv_aload_n hx hb dX12_contract_62 rfl (lv_at hl 0 rfl) ?_
              refine va_get (D := (dC, dI)) (ci := 12) (v := .int (v_lp8206 40)) (C := RX12) (T := TX12) (N := 63) hx hb hwd inA_X12 hown hK hP 0 rfl rfl 40 (by decide) (hwd _ wk_1005) (fun _ h9 => h9) rfl dX12_contract_63 ?_
              refine lv_if_ge (tgt := 89) hx hb dX12_contract_66 (by decide) (fun c8210 => ?_) (fun c8210 => ?_)
              · skip
                have t8211 := cv_le (a := 0) (by decide) (b := (v_lp8206 40).toInt) rfl c8210
                refine lv_aload_n hx hb dX12_contract_89 rfl (lv_at hl 0 rfl) ?_
                refine lv_iconst (v := 0) hx hb dX12_contract_90 (by decide) ?_
                refine va_put (D := (dC, dI)) (ci := 12) (v := .int 0) (ty := .int) (C := RX12) (T := TX12) (N := 63) (fs := fsM_0 g v_lp8206 rc) hx hb hwd inA_X12 tyX12 tyX12_ok nmX12 hown hK hP (DM hg) hS 0 rfl rfl 30 (by decide) (hwd _ wk_839) (fun _ h9 => h9) rfl (by decide +kernel) rfl rfl (Nat.le_of_ble_eq_true rfl) dX12_contract_91 (fun H locs hP _ hS => ?_)
                have hP := va_P_eq (pM_30 g c _ _ _ _) hP
                have hI := IM.put hI 30 0 rfl (by have : (0 : Int32).toInt = 0 := (by decide); omega)
                refine lv_aload_n hx hb dX12_contract_94 rfl (lv_at hl 0 rfl) ?_
                refine va_get (D := (dC, dI)) (ci := 12) (v := .int (v_lp8206 40)) (C := RX12) (T := TX12) (N := 63) hx hb hwd inA_X12 hown hK hP 0 rfl rfl 40 (by decide) (hwd _ wk_1005) (fun _ h9 => h9) rfl dX12_contract_95 ?_
                refine lv_if_lt (tgt := 109) hx hb dX12_contract_98 (by decide) (fun c8212 => ?_) (fun c8212 => ?_)
                · skip
                  have t8213 := cv_lt (a := (v_lp8206 40).toInt) rfl (b := 0) (by decide) c8212
                  refine lv_aload_n hx hb dX12_contract_109 rfl (lv_at hl 0 rfl) ?_
                  refine va_get (D := (dC, dI)) (ci := 12) (v := .ref (g 37)) (C := RX12) (T := TX12) (N := 63) hx hb hwd inA_X12 hown hK hP 0 rfl rfl 51 (by decide) (hwd _ wk_219) (fun _ h9 => h9) rfl dX12_contract_110 ?_
                  refine lv_iload_n hx hb dX12_contract_113 rfl (lv_at hl 1 rfl) ?_
                  refine lv_aload_n hx hb dX12_contract_114 rfl (lv_at hl 0 rfl) ?_
                  refine va_get (D := (dC, dI)) (ci := 12) (v := .ref (g 37)) (C := RX12) (T := TX12) (N := 63) hx hb hwd inA_X12 hown hK hP 0 rfl rfl 51 (by decide) (hwd _ wk_219) (fun _ h9 => h9) rfl dX12_contract_115 ?_
                  refine lv_bipush (v := 10) hx hb dX12_contract_118 (by decide) ?_
                  refine va_iald hx hb hK hP 37 36 rfl rfl (i := 10) (vin (a := 10) (by decide) (by omega)) dX12_contract_120 ?_
                  refine lv_topi (fun z8214 e8215 => ?_)
                  have t8216 : 0 ≤ z8214.toInt ∧ z8214.toInt ≤ 31 := by rw [e8215]; exact hI.2 37 _ _ rfl _
                  have tzz8214 : z8214.toInt = (F_lp8206 37 (10 : Int32).toNatClampNeg).toInt := congrArg Int32.toInt e8215
                  refine va_iast hx hb hK hP (DM hg) hS 37 36 rfl rfl (i := p0) (x := z8214) (vin (a := p0.toInt) rfl (by omega)) dX12_contract_121 (fun H locs hP _ hS => ?_)
                  have hP := va_P_eq (sM_37 g c _ _ _ _) hP
                  have hI := IM.store hI 37 (p0 : Int32).toNatClampNeg z8214 rfl (by omega)
                  have hF := frUF (k := 37) (f := upd (F_lp8206 37) (p0 : Int32).toNatClampNeg z8214) (by decide) hF
                  have st8218 : (va_up F_lp8206 37 (upd (F_lp8206 37) (p0 : Int32).toNatClampNeg z8214)) 37 = upd (F_lp8206 37) (p0 : Int32).toNatClampNeg z8214 := va_up_self _ _ _
                  have sn8219 : ∀ k9, k9 ≠ 37 → (va_up F_lp8206 37 (upd (F_lp8206 37) (p0 : Int32).toNatClampNeg z8214)) k9 = F_lp8206 k9 := fun k9 h9 => va_up_ne _ _ h9
                  have hP : va_P (dC, dI) classes (wM g c (va_up v_lp8206 30 0) (va_up F_lp8206 37 (upd (F_lp8206 37) (p0 : Int32).toNatClampNeg z8214)) rc) H := hP
                  generalize (va_up F_lp8206 37 (upd (F_lp8206 37) (p0 : Int32).toNatClampNeg z8214)) = F8217 at hP hI hF st8218 sn8219
                  refine lv_iconst (v := 0) hx hb dX12_contract_122 (by decide) ?_
                  refine lv_istore (lv' := [(4, .int 0), (0, .ref (g 0)), (1, .int p0), (2, .int p1), (3, .int p2)]) hx hb dX12_contract_123 hl (by decide) rfl (fun ls hl => ?_)
                  have lp8220 : ∀ (n : Nat) (x4_lp8220 : Int32) (v_lp8220 : Nat → Int32) (F_lp8220 : Nat → Nat → Int32) (H : Heap) (locs : List Loc) (ls : Array Slot), (0 ≤ x4_lp8220.toInt) → (F_lp8220 37 = F8217 37) → (F_lp8220 35 = F 35) → (2147483648 - x4_lp8220.toInt ≤ (n : Int)) → (∀ k, k ∉ ([] : List Nat) → v_lp8220 k = (va_up v_lp8206 30 0) k) → IM v_lp8220 F_lp8220 → (∀ k, k ∉ ([35, 36, 37, 38, 39, 40, 41] : List Nat) → F_lp8220 k = F k) → va_P (dC, dI) classes (wM g c v_lp8220 F_lp8220 rc) H → va_S (AM g s.heap.size) s.heap H locs → lv_has ls 5 [(4, .int x4_lp8220), (0, .ref (g 0)), (1, .int p0), (2, .int p1), (3, .int p2)] → W p l e (headSpec (Cond.code yX12_contract cX12_contract 5 (some .int) :: wA) ({ frames := 5, cells := 0, slots := 0, locals := 200 })).room s m ([.ref (g 0), .int p0, .int p1, .int p2] : List Value).toArray below meth c0 H locs 0 0 (MQ below (va_Qi (fun (r : Int32) (u : StM) => IM u.1 u.2.1 ∧ u.2.2 = rc ∧ (∀ k, k ∉ ([30, 39, 40, 42] : List Nat) → u.1 k = v k) ∧ (∀ k, k ∉ ([35, 36, 37, 38, 39, 40, 41] : List Nat) → u.2.1 k = F k) ∧ ((¬ ((0 ≤ p0.toInt ∧ p0.toInt < (v 6).toInt) ∧ (0 ≤ p1.toInt ∧ p1.toInt ≤ 9999) ∧ (0 ≤ p2.toInt ∧ p2.toInt ≤ 99999)) ∧ r.toInt = -1 ∧ (u.1 30).toInt = (v 30).toInt ∧ u.2.1 35 = F 35) ∨ (((0 ≤ p0.toInt ∧ p0.toInt < (v 6).toInt) ∧ (0 ≤ p1.toInt ∧ p1.toInt ≤ 9999) ∧ (0 ≤ p2.toInt ∧ p2.toInt ≤ 99999)) ∧ 0 ≤ (F 8 p0.toNatClampNeg).toInt ∧ r.toInt = -2 ∧ (u.1 30).toInt = (v 30).toInt ∧ u.2.1 35 = F 35) ∨ (((0 ≤ p0.toInt ∧ p0.toInt < (v 6).toInt) ∧ (0 ≤ p1.toInt ∧ p1.toInt ≤ 9999) ∧ (0 ≤ p2.toInt ∧ p2.toInt ≤ 99999)) ∧ (F 8 p0.toNatClampNeg).toInt < 0 ∧ (u.1 30).toInt = 0 ∧ cans (v 30) (F 24) r.toInt ∧ ((r.toInt ≤ -100 ∧ u.2.1 35 = F 35) ∨ (1 ≤ r.toInt ∧ u.2.1 35 = upd (F 35) p0.toNatClampNeg p1))))) (BM dC dI g c) (AM g s.heap.size)) ([.ref (g 0), .int p0, .int p1, .int p2] : List Value).toArray s 0 0 (AM g s.heap.size)) (F0 m 125 ls []) := by
                    intro n
                    induction n with
                    | zero =>
                      intro x4_lp8220 v_lp8220 F_lp8220 H locs ls t8221 t8222 t8223 hm hf_lp8220 hI hF hP hS hl
                      exfalso
                      have := i32_rng x4_lp8220
                      have hI1 := hI.1
                      omega
                    | succ n ih_lp8220 =>
                      intro x4_lp8220 v_lp8220 F_lp8220 H locs ls t8221 t8222 t8223 hm hf_lp8220 hI hF hP hS hl
                      have rx4_lp8220 := i32_rng x4_lp8220
                      refine lv_iload hx hb dX12_contract_125 (lv_at hl 0 rfl) ?_
                      refine lv_aload_n hx hb dX12_contract_127 rfl (lv_at hl 1 rfl) ?_
                      refine va_get (D := (dC, dI)) (ci := 12) (v := .ref (g 37)) (C := RX12) (T := TX12) (N := 63) hx hb hwd inA_X12 hown hK hP 0 rfl rfl 51 (by decide) (hwd _ wk_219) (fun _ h9 => h9) rfl dX12_contract_128 ?_
                      refine lv_iload_n hx hb dX12_contract_131 rfl (lv_at hl 2 rfl) ?_
                      refine va_iald hx hb hK hP 37 36 rfl rfl (i := p0) (vin (a := p0.toInt) rfl (by omega)) dX12_contract_132 ?_
                      refine lv_topi (fun z8224 e8225 => ?_)
                      have t8226 : 0 ≤ z8224.toInt ∧ z8224.toInt ≤ 31 := by rw [e8225]; exact hI.2 37 _ _ rfl _
                      have tzz8224 : z8224.toInt = (F_lp8220 37 (p0 : Int32).toNatClampNeg).toInt := congrArg Int32.toInt e8225
                      refine lv_icmp_ge (tgt := 234) hx hb dX12_contract_133 (by decide) (fun c8227 => ?_) (fun c8227 => ?_)
                      · skip
                        have t8228 := cv_le (a := z8224.toInt) rfl (b := x4_lp8220.toInt) rfl c8227
                        refine lv_aload_n hx hb dX12_contract_234 rfl (lv_at hl 1 rfl) ?_
                        refine va_get (D := (dC, dI)) (ci := 12) (v := .ref (g 35)) (C := RX12) (T := TX12) (N := 63) hx hb hwd inA_X12 hown hK hP 0 rfl rfl 49 (by decide) (hwd _ wk_217) (fun _ h9 => h9) rfl dX12_contract_235 ?_
                        refine lv_iload_n hx hb dX12_contract_238 rfl (lv_at hl 2 rfl) ?_
                        refine lv_iload_n hx hb dX12_contract_239 rfl (lv_at hl 3 rfl) ?_
                        refine va_iast hx hb hK hP (DM hg) hS 35 34 rfl rfl (i := p0) (x := p1) (vin (a := p0.toInt) rfl (by omega)) dX12_contract_240 (fun H locs hP _ hS => ?_)
                        have hP := va_P_eq (sM_35 g c _ _ _ _) hP
                        have hI := IM.store0 hI 35 (p0 : Int32).toNatClampNeg p1 rfl
                        have hF := frUF (k := 35) (f := upd (F_lp8220 35) (p0 : Int32).toNatClampNeg p1) (by decide) hF
                        have st8230 : (va_up F_lp8220 35 (upd (F_lp8220 35) (p0 : Int32).toNatClampNeg p1)) 35 = upd (F_lp8220 35) (p0 : Int32).toNatClampNeg p1 := va_up_self _ _ _
                        have sn8231 : ∀ k9, k9 ≠ 35 → (va_up F_lp8220 35 (upd (F_lp8220 35) (p0 : Int32).toNatClampNeg p1)) k9 = F_lp8220 k9 := fun k9 h9 => va_up_ne _ _ h9
                        have hP : va_P (dC, dI) classes (wM g c v_lp8220 (va_up F_lp8220 35 (upd (F_lp8220 35) (p0 : Int32).toNatClampNeg p1)) rc) H := hP
                        generalize (va_up F_lp8220 35 (upd (F_lp8220 35) (p0 : Int32).toNatClampNeg p1)) = F8229 at hP hI hF st8230 sn8231
                        refine lv_aload_n hx hb dX12_contract_241 rfl (lv_at hl 1 rfl) ?_
                        refine va_get (D := (dC, dI)) (ci := 12) (v := .ref (g 36)) (C := RX12) (T := TX12) (N := 63) hx hb hwd inA_X12 hown hK hP 0 rfl rfl 50 (by decide) (hwd _ wk_218) (fun _ h9 => h9) rfl dX12_contract_242 ?_
                        refine lv_iload_n hx hb dX12_contract_245 rfl (lv_at hl 2 rfl) ?_
                        refine lv_iload_n hx hb dX12_contract_246 rfl (lv_at hl 4 rfl) ?_
                        refine va_iast hx hb hK hP (DM hg) hS 36 35 rfl rfl (i := p0) (x := p2) (vin (a := p0.toInt) rfl (by omega)) dX12_contract_247 (fun H locs hP _ hS => ?_)
                        have hP := va_P_eq (sM_36 g c _ _ _ _) hP
                        have hI := IM.store0 hI 36 (p0 : Int32).toNatClampNeg p2 rfl
                        have hF := frUF (k := 36) (f := upd (F8229 36) (p0 : Int32).toNatClampNeg p2) (by decide) hF
                        have st8233 : (va_up F8229 36 (upd (F8229 36) (p0 : Int32).toNatClampNeg p2)) 36 = upd (F8229 36) (p0 : Int32).toNatClampNeg p2 := va_up_self _ _ _
                        have sn8234 : ∀ k9, k9 ≠ 36 → (va_up F8229 36 (upd (F8229 36) (p0 : Int32).toNatClampNeg p2)) k9 = F8229 k9 := fun k9 h9 => va_up_ne _ _ h9
                        have hP : va_P (dC, dI) classes (wM g c v_lp8220 (va_up F8229 36 (upd (F8229 36) (p0 : Int32).toNatClampNeg p2)) rc) H := hP
                        generalize (va_up F8229 36 (upd (F8229 36) (p0 : Int32).toNatClampNeg p2)) = F8232 at hP hI hF st8233 sn8234
                        refine lv_aload_n hx hb dX12_contract_248 rfl (lv_at hl 1 rfl) ?_
                        refine va_get (D := (dC, dI)) (ci := 12) (v := .ref (g 37)) (C := RX12) (T := TX12) (N := 63) hx hb hwd inA_X12 hown hK hP 0 rfl rfl 51 (by decide) (hwd _ wk_219) (fun _ h9 => h9) rfl dX12_contract_249 ?_
                        refine lv_iload_n hx hb dX12_contract_252 rfl (lv_at hl 2 rfl) ?_
                        refine va_iald hx hb hK hP 37 36 rfl rfl (i := p0) (vin (a := p0.toInt) rfl (by omega)) dX12_contract_253 ?_
                        refine lv_topi (fun z8235 e8236 => ?_)
                        have t8237 : 0 ≤ z8235.toInt ∧ z8235.toInt ≤ 31 := by rw [e8236]; exact hI.2 37 _ _ rfl _
                        have tzz8235 : z8235.toInt = (F8232 37 (p0 : Int32).toNatClampNeg).toInt := congrArg Int32.toInt e8236
                        have hP9 : va_P (dC, dI) classes (wM g c v_lp8220 F8232 rc) H := hP
                        exact W.iret (v := z8235) hx hb hr (fun t ht hW => ⟨⟨z8235, (v_lp8220, F8232, rc), rfl, ⟨hI, rfl, (frC (by decide) hf_lp8220 (frU (by decide) (frC (by decide) hf_lp8206 (frC (by decide) hf8202 (frU (by decide) (frU (by decide) (fun _ _ => rfl))))))), hF, (by show (¬ ((0 ≤ p0.toInt ∧ p0.toInt < (v 6).toInt) ∧ (0 ≤ p1.toInt ∧ p1.toInt ≤ 9999) ∧ (0 ≤ p2.toInt ∧ p2.toInt ≤ 99999)) ∧ z8235.toInt = -1 ∧ (v_lp8220 30).toInt = (v 30).toInt ∧ F8232 35 = F 35) ∨ (((0 ≤ p0.toInt ∧ p0.toInt < (v 6).toInt) ∧ (0 ≤ p1.toInt ∧ p1.toInt ≤ 9999) ∧ (0 ≤ p2.toInt ∧ p2.toInt ≤ 99999)) ∧ 0 ≤ (F 8 p0.toNatClampNeg).toInt ∧ z8235.toInt = -2 ∧ (v_lp8220 30).toInt = (v 30).toInt ∧ F8232 35 = F 35) ∨ (((0 ≤ p0.toInt ∧ p0.toInt < (v 6).toInt) ∧ (0 ≤ p1.toInt ∧ p1.toInt ≤ 9999) ∧ (0 ≤ p2.toInt ∧ p2.toInt ≤ 99999)) ∧ (F 8 p0.toNatClampNeg).toInt < 0 ∧ (v_lp8220 30).toInt = 0 ∧ cans (v 30) (F 24) z8235.toInt ∧ ((z8235.toInt ≤ -100 ∧ F8232 35 = F 35) ∨ (1 ≤ z8235.toInt ∧ F8232 35 = upd (F 35) p0.toNatClampNeg p1))); rw [show v_lp8220 30 = 0 from hf_lp8220 30 (by decide)]; have r9 : z8235.toInt = (F_lp8206 37 (10 : Int32).toNatClampNeg).toInt := congrArg Int32.toInt (e8236.trans ((congrFun (((sn8234 37 (by decide)).trans (sn8231 37 (by decide))).trans t8222) _).trans ((congrFun st8218 _).trans ((mu_at _ _ _).trans e8215)))); exact Or.inr (Or.inr ⟨by omega, by omega, by omega, cans.mk t8208 (fun q9 => by omega) (by omega), Or.inr ⟨by omega, ((sn8234 35 (by decide)).trans st8230).trans (congrArg (fun f => upd f (p0 : Int32).toNatClampNeg p1) t8223)⟩⟩))⟩, (by show va_P _ _ _ t.heap; rw [ht]; exact hP9)⟩, hS.F ht⟩) hS.2.2 dX12_contract_254
                      · skip
                        have t8238 := cv_nle (a := z8224.toInt) rfl (b := x4_lp8220.toInt) rfl c8227
                        refine lv_aload_n hx hb dX12_contract_136 rfl (lv_at hl 1 rfl) ?_
                        refine va_get (D := (dC, dI)) (ci := 12) (v := .ref (g 38)) (C := RX12) (T := TX12) (N := 63) hx hb hwd inA_X12 hown hK hP 0 rfl rfl 52 (by decide) (hwd _ wk_220) (fun _ h9 => h9) rfl dX12_contract_137 ?_
                        refine lv_bipush (v := 32) hx hb dX12_contract_140 (by decide) ?_
                        refine lv_iload_n hx hb dX12_contract_142 rfl (lv_at hl 2 rfl) ?_
                        refine lv_imul hx hb dX12_contract_143 ?_
                        refine lv_topi (fun z8239 e8240 => ?_)
                        try (have t8241 := tmul e8240 (a := 32) (by decide) (b := p0.toInt) rfl (by omega))
                        refine lv_iload hx hb dX12_contract_144 (lv_at hl 0 rfl) ?_
                        refine lv_iadd hx hb dX12_contract_146 ?_
                        refine lv_topi (fun z8242 e8243 => ?_)
                        try (have t8244 := tadd e8243 (a := z8239.toInt) rfl (b := x4_lp8220.toInt) rfl (by omega))
                        refine lv_aload_n hx hb dX12_contract_147 rfl (lv_at hl 1 rfl) ?_
                        refine va_get (D := (dC, dI)) (ci := 12) (v := .ref (g 38)) (C := RX12) (T := TX12) (N := 63) hx hb hwd inA_X12 hown hK hP 0 rfl rfl 52 (by decide) (hwd _ wk_220) (fun _ h9 => h9) rfl dX12_contract_148 ?_
                        refine lv_sipush (v := 320) hx hb dX12_contract_151 (by decide) ?_
                        refine lv_iload hx hb dX12_contract_154 (lv_at hl 0 rfl) ?_
                        refine lv_iadd hx hb dX12_contract_156 ?_
                        refine lv_topi (fun z8245 e8246 => ?_)
                        try (have t8247 := tadd e8246 (a := 320) (by decide) (b := x4_lp8220.toInt) rfl (by omega))
                        refine va_iald hx hb hK hP 38 37 rfl rfl (i := z8245) (vin (a := z8245.toInt) rfl (by omega)) dX12_contract_157 ?_
                        refine lv_topi (fun z8248 e8249 => ?_)
                        have tzz8248 : z8248.toInt = (F_lp8220 38 (z8245 : Int32).toNatClampNeg).toInt := congrArg Int32.toInt e8249
                        refine va_iast hx hb hK hP (DM hg) hS 38 37 rfl rfl (i := z8242) (x := z8248) (vin (a := z8242.toInt) rfl (by omega)) dX12_contract_158 (fun H locs hP _ hS => ?_)
                        have hP := va_P_eq (sM_38 g c _ _ _ _) hP
                        have hI := IM.store0 hI 38 (z8242 : Int32).toNatClampNeg z8248 rfl
                        have hF := frUF (k := 38) (f := upd (F_lp8220 38) (z8242 : Int32).toNatClampNeg z8248) (by decide) hF
                        have st8251 : (va_up F_lp8220 38 (upd (F_lp8220 38) (z8242 : Int32).toNatClampNeg z8248)) 38 = upd (F_lp8220 38) (z8242 : Int32).toNatClampNeg z8248 := va_up_self _ _ _
                        have sn8252 : ∀ k9, k9 ≠ 38 → (va_up F_lp8220 38 (upd (F_lp8220 38) (z8242 : Int32).toNatClampNeg z8248)) k9 = F_lp8220 k9 := fun k9 h9 => va_up_ne _ _ h9
                        have hP : va_P (dC, dI) classes (wM g c v_lp8220 (va_up F_lp8220 38 (upd (F_lp8220 38) (z8242 : Int32).toNatClampNeg z8248)) rc) H := hP
                        generalize (va_up F_lp8220 38 (upd (F_lp8220 38) (z8242 : Int32).toNatClampNeg z8248)) = F8250 at hP hI hF st8251 sn8252
                        refine lv_aload_n hx hb dX12_contract_159 rfl (lv_at hl 1 rfl) ?_
                        refine va_get (D := (dC, dI)) (ci := 12) (v := .ref (g 39)) (C := RX12) (T := TX12) (N := 63) hx hb hwd inA_X12 hown hK hP 0 rfl rfl 53 (by decide) (hwd _ wk_221) (fun _ h9 => h9) rfl dX12_contract_160 ?_
                        refine lv_bipush (v := 32) hx hb dX12_contract_163 (by decide) ?_
                        refine lv_iload_n hx hb dX12_contract_165 rfl (lv_at hl 2 rfl) ?_
                        refine lv_imul hx hb dX12_contract_166 ?_
                        refine lv_topi (fun z8253 e8254 => ?_)
                        try (have t8255 := tmul e8254 (a := 32) (by decide) (b := p0.toInt) rfl (by omega))
                        refine lv_iload hx hb dX12_contract_167 (lv_at hl 0 rfl) ?_
                        refine lv_iadd hx hb dX12_contract_169 ?_
                        refine lv_topi (fun z8256 e8257 => ?_)
                        try (have t8258 := tadd e8257 (a := z8253.toInt) rfl (b := x4_lp8220.toInt) rfl (by omega))
                        refine lv_aload_n hx hb dX12_contract_170 rfl (lv_at hl 1 rfl) ?_
                        refine va_get (D := (dC, dI)) (ci := 12) (v := .ref (g 39)) (C := RX12) (T := TX12) (N := 63) hx hb hwd inA_X12 hown hK hP 0 rfl rfl 53 (by decide) (hwd _ wk_221) (fun _ h9 => h9) rfl dX12_contract_171 ?_
                        refine lv_sipush (v := 320) hx hb dX12_contract_174 (by decide) ?_
                        refine lv_iload hx hb dX12_contract_177 (lv_at hl 0 rfl) ?_
                        refine lv_iadd hx hb dX12_contract_179 ?_
                        refine lv_topi (fun z8259 e8260 => ?_)
                        try (have t8261 := tadd e8260 (a := 320) (by decide) (b := x4_lp8220.toInt) rfl (by omega))
                        refine va_iald hx hb hK hP 39 38 rfl rfl (i := z8259) (vin (a := z8259.toInt) rfl (by omega)) dX12_contract_180 ?_
                        refine lv_topi (fun z8262 e8263 => ?_)
                        have tzz8262 : z8262.toInt = (F8250 39 (z8259 : Int32).toNatClampNeg).toInt := congrArg Int32.toInt e8263
                        refine va_iast hx hb hK hP (DM hg) hS 39 38 rfl rfl (i := z8256) (x := z8262) (vin (a := z8256.toInt) rfl (by omega)) dX12_contract_181 (fun H locs hP _ hS => ?_)
                        have hP := va_P_eq (sM_39 g c _ _ _ _) hP
                        have hI := IM.store0 hI 39 (z8256 : Int32).toNatClampNeg z8262 rfl
                        have hF := frUF (k := 39) (f := upd (F8250 39) (z8256 : Int32).toNatClampNeg z8262) (by decide) hF
                        have st8265 : (va_up F8250 39 (upd (F8250 39) (z8256 : Int32).toNatClampNeg z8262)) 39 = upd (F8250 39) (z8256 : Int32).toNatClampNeg z8262 := va_up_self _ _ _
                        have sn8266 : ∀ k9, k9 ≠ 39 → (va_up F8250 39 (upd (F8250 39) (z8256 : Int32).toNatClampNeg z8262)) k9 = F8250 k9 := fun k9 h9 => va_up_ne _ _ h9
                        have hP : va_P (dC, dI) classes (wM g c v_lp8220 (va_up F8250 39 (upd (F8250 39) (z8256 : Int32).toNatClampNeg z8262)) rc) H := hP
                        generalize (va_up F8250 39 (upd (F8250 39) (z8256 : Int32).toNatClampNeg z8262)) = F8264 at hP hI hF st8265 sn8266
                        refine lv_aload_n hx hb dX12_contract_182 rfl (lv_at hl 1 rfl) ?_
                        refine va_get (D := (dC, dI)) (ci := 12) (v := .ref (g 40)) (C := RX12) (T := TX12) (N := 63) hx hb hwd inA_X12 hown hK hP 0 rfl rfl 54 (by decide) (hwd _ wk_222) (fun _ h9 => h9) rfl dX12_contract_183 ?_
                        refine lv_bipush (v := 32) hx hb dX12_contract_186 (by decide) ?_
                        refine lv_iload_n hx hb dX12_contract_188 rfl (lv_at hl 2 rfl) ?_
                        refine lv_imul hx hb dX12_contract_189 ?_
                        refine lv_topi (fun z8267 e8268 => ?_)
                        try (have t8269 := tmul e8268 (a := 32) (by decide) (b := p0.toInt) rfl (by omega))
                        refine lv_iload hx hb dX12_contract_190 (lv_at hl 0 rfl) ?_
                        refine lv_iadd hx hb dX12_contract_192 ?_
                        refine lv_topi (fun z8270 e8271 => ?_)
                        try (have t8272 := tadd e8271 (a := z8267.toInt) rfl (b := x4_lp8220.toInt) rfl (by omega))
                        refine lv_aload_n hx hb dX12_contract_193 rfl (lv_at hl 1 rfl) ?_
                        refine va_get (D := (dC, dI)) (ci := 12) (v := .ref (g 40)) (C := RX12) (T := TX12) (N := 63) hx hb hwd inA_X12 hown hK hP 0 rfl rfl 54 (by decide) (hwd _ wk_222) (fun _ h9 => h9) rfl dX12_contract_194 ?_
                        refine lv_sipush (v := 320) hx hb dX12_contract_197 (by decide) ?_
                        refine lv_iload hx hb dX12_contract_200 (lv_at hl 0 rfl) ?_
                        refine lv_iadd hx hb dX12_contract_202 ?_
                        refine lv_topi (fun z8273 e8274 => ?_)
                        try (have t8275 := tadd e8274 (a := 320) (by decide) (b := x4_lp8220.toInt) rfl (by omega))
                        refine va_iald hx hb hK hP 40 39 rfl rfl (i := z8273) (vin (a := z8273.toInt) rfl (by omega)) dX12_contract_203 ?_
                        refine lv_topi (fun z8276 e8277 => ?_)
                        have tzz8276 : z8276.toInt = (F8264 40 (z8273 : Int32).toNatClampNeg).toInt := congrArg Int32.toInt e8277
                        refine va_iast hx hb hK hP (DM hg) hS 40 39 rfl rfl (i := z8270) (x := z8276) (vin (a := z8270.toInt) rfl (by omega)) dX12_contract_204 (fun H locs hP _ hS => ?_)
                        have hP := va_P_eq (sM_40 g c _ _ _ _) hP
                        have hI := IM.store0 hI 40 (z8270 : Int32).toNatClampNeg z8276 rfl
                        have hF := frUF (k := 40) (f := upd (F8264 40) (z8270 : Int32).toNatClampNeg z8276) (by decide) hF
                        have st8279 : (va_up F8264 40 (upd (F8264 40) (z8270 : Int32).toNatClampNeg z8276)) 40 = upd (F8264 40) (z8270 : Int32).toNatClampNeg z8276 := va_up_self _ _ _
                        have sn8280 : ∀ k9, k9 ≠ 40 → (va_up F8264 40 (upd (F8264 40) (z8270 : Int32).toNatClampNeg z8276)) k9 = F8264 k9 := fun k9 h9 => va_up_ne _ _ h9
                        have hP : va_P (dC, dI) classes (wM g c v_lp8220 (va_up F8264 40 (upd (F8264 40) (z8270 : Int32).toNatClampNeg z8276)) rc) H := hP
                        generalize (va_up F8264 40 (upd (F8264 40) (z8270 : Int32).toNatClampNeg z8276)) = F8278 at hP hI hF st8279 sn8280
                        refine lv_aload_n hx hb dX12_contract_205 rfl (lv_at hl 1 rfl) ?_
                        refine va_get (D := (dC, dI)) (ci := 12) (v := .ref (g 41)) (C := RX12) (T := TX12) (N := 63) hx hb hwd inA_X12 hown hK hP 0 rfl rfl 55 (by decide) (hwd _ wk_223) (fun _ h9 => h9) rfl dX12_contract_206 ?_
                        refine lv_bipush (v := 32) hx hb dX12_contract_209 (by decide) ?_
                        refine lv_iload_n hx hb dX12_contract_211 rfl (lv_at hl 2 rfl) ?_
                        refine lv_imul hx hb dX12_contract_212 ?_
                        refine lv_topi (fun z8281 e8282 => ?_)
                        try (have t8283 := tmul e8282 (a := 32) (by decide) (b := p0.toInt) rfl (by omega))
                        refine lv_iload hx hb dX12_contract_213 (lv_at hl 0 rfl) ?_
                        refine lv_iadd hx hb dX12_contract_215 ?_
                        refine lv_topi (fun z8284 e8285 => ?_)
                        try (have t8286 := tadd e8285 (a := z8281.toInt) rfl (b := x4_lp8220.toInt) rfl (by omega))
                        refine lv_aload_n hx hb dX12_contract_216 rfl (lv_at hl 1 rfl) ?_
                        refine va_get (D := (dC, dI)) (ci := 12) (v := .ref (g 41)) (C := RX12) (T := TX12) (N := 63) hx hb hwd inA_X12 hown hK hP 0 rfl rfl 55 (by decide) (hwd _ wk_223) (fun _ h9 => h9) rfl dX12_contract_217 ?_
                        refine lv_sipush (v := 320) hx hb dX12_contract_220 (by decide) ?_
                        refine lv_iload hx hb dX12_contract_223 (lv_at hl 0 rfl) ?_
                        refine lv_iadd hx hb dX12_contract_225 ?_
                        refine lv_topi (fun z8287 e8288 => ?_)
                        try (have t8289 := tadd e8288 (a := 320) (by decide) (b := x4_lp8220.toInt) rfl (by omega))
                        refine va_iald hx hb hK hP 41 40 rfl rfl (i := z8287) (vin (a := z8287.toInt) rfl (by omega)) dX12_contract_226 ?_
                        refine lv_topi (fun z8290 e8291 => ?_)
                        have tzz8290 : z8290.toInt = (F8278 41 (z8287 : Int32).toNatClampNeg).toInt := congrArg Int32.toInt e8291
                        refine va_iast hx hb hK hP (DM hg) hS 41 40 rfl rfl (i := z8284) (x := z8290) (vin (a := z8284.toInt) rfl (by omega)) dX12_contract_227 (fun H locs hP _ hS => ?_)
                        have hP := va_P_eq (sM_41 g c _ _ _ _) hP
                        have hI := IM.store0 hI 41 (z8284 : Int32).toNatClampNeg z8290 rfl
                        have hF := frUF (k := 41) (f := upd (F8278 41) (z8284 : Int32).toNatClampNeg z8290) (by decide) hF
                        have st8293 : (va_up F8278 41 (upd (F8278 41) (z8284 : Int32).toNatClampNeg z8290)) 41 = upd (F8278 41) (z8284 : Int32).toNatClampNeg z8290 := va_up_self _ _ _
                        have sn8294 : ∀ k9, k9 ≠ 41 → (va_up F8278 41 (upd (F8278 41) (z8284 : Int32).toNatClampNeg z8290)) k9 = F8278 k9 := fun k9 h9 => va_up_ne _ _ h9
                        have hP : va_P (dC, dI) classes (wM g c v_lp8220 (va_up F8278 41 (upd (F8278 41) (z8284 : Int32).toNatClampNeg z8290)) rc) H := hP
                        generalize (va_up F8278 41 (upd (F8278 41) (z8284 : Int32).toNatClampNeg z8290)) = F8292 at hP hI hF st8293 sn8294
                        obtain ⟨z8295, e8296⟩ : ∃ y : Int32, y = x4_lp8220 + 1 := ⟨_, rfl⟩
                        try (have t8297 := tadd e8296 rfl (b := 1) (by decide) (by omega))
                        refine lv_iinc (v := z8295) (lv' := [(4, .int z8295), (0, .ref (g 0)), (1, .int p0), (2, .int p1), (3, .int p2)]) hx hb dX12_contract_228 hl (k := 0) rfl (by rw [e8296]; rfl) (by decide) rfl (fun ls hl => ?_)
                        refine lv_goto (tgt := 125) hx hb dX12_contract_231 (by decide) ?_
                        exact ih_lp8220 z8295 v_lp8220 F8292 _ _ _ (by omega) (((sn8294 37 (by decide)).trans ((sn8280 37 (by decide)).trans ((sn8266 37 (by decide)).trans (sn8252 37 (by decide))))).trans t8222) (((sn8294 35 (by decide)).trans ((sn8280 35 (by decide)).trans ((sn8266 35 (by decide)).trans (sn8252 35 (by decide))))).trans t8223) (by omega) hf_lp8220 hI hF hP hS (lv_sub hl [0, 1, 2, 3, 4] rfl)
                  obtain ⟨n9, hn9⟩ : ∃ n : Nat, 2147483648 - 0 ≤ (n : Int) := ⟨((2147483648 - 0 : Int)).toNat, by omega⟩
                  exact lp8220 n9 0 (va_up v_lp8206 30 0) F8217 H _ ls (by have : (0 : Int32).toInt = 0 := (by decide); omega) rfl ((sn8219 35 (by decide)).trans t8209) (by have : (0 : Int32).toInt = 0 := (by decide); omega) (fun _ _ => rfl) hI hF hP hS hl
                · skip
                  have t8298 := cv_nlt (a := (v_lp8206 40).toInt) rfl (b := 0) (by decide) c8212
                  refine lv_bipush (v := (-100)) hx hb dX12_contract_101 (by decide) ?_
                  refine lv_aload_n hx hb dX12_contract_103 rfl (lv_at hl 0 rfl) ?_
                  refine va_get (D := (dC, dI)) (ci := 12) (v := .int (v_lp8206 40)) (C := RX12) (T := TX12) (N := 63) hx hb hwd inA_X12 hown hK hP 0 rfl rfl 40 (by decide) (hwd _ wk_1005) (fun _ h9 => h9) rfl dX12_contract_104 ?_
                  refine lv_isub hx hb dX12_contract_107 ?_
                  refine lv_topi (fun z8299 e8300 => ?_)
                  try (have t8301 := tsub e8300 (a := (-100)) (by decide) (b := (v_lp8206 40).toInt) rfl (by omega))
                  have hP9 : va_P (dC, dI) classes (wM g c (va_up v_lp8206 30 0) F_lp8206 rc) H := hP
                  exact W.iret (v := z8299) hx hb hr (fun t ht hW => ⟨⟨z8299, ((va_up v_lp8206 30 0), F_lp8206, rc), rfl, ⟨hI, rfl, (frU (by decide) (frC (by decide) hf_lp8206 (frC (by decide) hf8202 (frU (by decide) (frU (by decide) (fun _ _ => rfl)))))), hF, (by show (¬ ((0 ≤ p0.toInt ∧ p0.toInt < (v 6).toInt) ∧ (0 ≤ p1.toInt ∧ p1.toInt ≤ 9999) ∧ (0 ≤ p2.toInt ∧ p2.toInt ≤ 99999)) ∧ z8299.toInt = -1 ∧ (0 : Int32).toInt = (v 30).toInt ∧ F_lp8206 35 = F 35) ∨ (((0 ≤ p0.toInt ∧ p0.toInt < (v 6).toInt) ∧ (0 ≤ p1.toInt ∧ p1.toInt ≤ 9999) ∧ (0 ≤ p2.toInt ∧ p2.toInt ≤ 99999)) ∧ 0 ≤ (F 8 p0.toNatClampNeg).toInt ∧ z8299.toInt = -2 ∧ (0 : Int32).toInt = (v 30).toInt ∧ F_lp8206 35 = F 35) ∨ (((0 ≤ p0.toInt ∧ p0.toInt < (v 6).toInt) ∧ (0 ≤ p1.toInt ∧ p1.toInt ≤ 9999) ∧ (0 ≤ p2.toInt ∧ p2.toInt ≤ 99999)) ∧ (F 8 p0.toNatClampNeg).toInt < 0 ∧ (0 : Int32).toInt = 0 ∧ cans (v 30) (F 24) z8299.toInt ∧ ((z8299.toInt ≤ -100 ∧ F_lp8206 35 = F 35) ∨ (1 ≤ z8299.toInt ∧ F_lp8206 35 = upd (F 35) p0.toNatClampNeg p1))); have : (0 : Int32).toInt = 0 := (by decide); exact Or.inr (Or.inr ⟨by omega, by omega, by omega, cans.mk t8208 (fun q9 => by omega) (by omega), Or.inl ⟨by omega, t8209⟩⟩))⟩, (by show va_P _ _ _ t.heap; rw [ht]; exact hP9)⟩, hS.F ht⟩) hS.2.2 dX12_contract_108
              · skip
                have t8302 := cv_nle (a := 0) (by decide) (b := (v_lp8206 40).toInt) rfl c8210
                refine lv_aload_n hx hb dX12_contract_69 rfl (lv_at hl 0 rfl) ?_
                refine va_get (D := (dC, dI)) (ci := 12) (v := .int (v_lp8206 39)) (C := RX12) (T := TX12) (N := 63) hx hb hwd inA_X12 hown hK hP 0 rfl rfl 39 (by decide) (hwd _ wk_1004) (fun _ h9 => h9) rfl dX12_contract_70 ?_
                have t8303 : 0 ≤ (v_lp8206 39).toInt ∧ (v_lp8206 39).toInt ≤ 120 := hI.1 39 _ _ rfl
                refine lv_aload_n hx hb dX12_contract_73 rfl (lv_at hl 0 rfl) ?_
                refine va_get (D := (dC, dI)) (ci := 12) (v := .int (v_lp8206 30)) (C := RX12) (T := TX12) (N := 63) hx hb hwd inA_X12 hown hK hP 0 rfl rfl 30 (by decide) (hwd _ wk_839) (fun _ h9 => h9) rfl dX12_contract_74 ?_
                refine my_top (v := v 30) ((hf_lp8206 30 (by decide)).trans (hf8202 30 (by decide))) ?_
                have t8304 : 0 ≤ (v 30).toInt ∧ (v 30).toInt ≤ 120 := by have h9 := hI.1 30 _ _ rfl; rw [show v_lp8206 30 = v 30 from (hf_lp8206 30 (by decide)).trans (hf8202 30 (by decide))] at h9; exact h9
                refine lv_icmp_ge (tgt := 89) hx hb dX12_contract_77 (by decide) (fun c8305 => ?_) (fun c8305 => ?_)
                · skip
                  have t8306 := cv_le (a := (v 30).toInt) rfl (b := (v_lp8206 39).toInt) rfl c8305
                  refine lv_aload_n hx hb dX12_contract_89 rfl (lv_at hl 0 rfl) ?_
                  refine lv_iconst (v := 0) hx hb dX12_contract_90 (by decide) ?_
                  refine va_put (D := (dC, dI)) (ci := 12) (v := .int 0) (ty := .int) (C := RX12) (T := TX12) (N := 63) (fs := fsM_0 g v_lp8206 rc) hx hb hwd inA_X12 tyX12 tyX12_ok nmX12 hown hK hP (DM hg) hS 0 rfl rfl 30 (by decide) (hwd _ wk_839) (fun _ h9 => h9) rfl (by decide +kernel) rfl rfl (Nat.le_of_ble_eq_true rfl) dX12_contract_91 (fun H locs hP _ hS => ?_)
                  have hP := va_P_eq (pM_30 g c _ _ _ _) hP
                  have hI := IM.put hI 30 0 rfl (by have : (0 : Int32).toInt = 0 := (by decide); omega)
                  refine lv_aload_n hx hb dX12_contract_94 rfl (lv_at hl 0 rfl) ?_
                  refine va_get (D := (dC, dI)) (ci := 12) (v := .int (v_lp8206 40)) (C := RX12) (T := TX12) (N := 63) hx hb hwd inA_X12 hown hK hP 0 rfl rfl 40 (by decide) (hwd _ wk_1005) (fun _ h9 => h9) rfl dX12_contract_95 ?_
                  refine lv_if_lt (tgt := 109) hx hb dX12_contract_98 (by decide) (fun c8307 => ?_) (fun c8307 => ?_)
                  · skip
                    have t8308 := cv_lt (a := (v_lp8206 40).toInt) rfl (b := 0) (by decide) c8307
                    refine lv_aload_n hx hb dX12_contract_109 rfl (lv_at hl 0 rfl) ?_
                    refine va_get (D := (dC, dI)) (ci := 12) (v := .ref (g 37)) (C := RX12) (T := TX12) (N := 63) hx hb hwd inA_X12 hown hK hP 0 rfl rfl 51 (by decide) (hwd _ wk_219) (fun _ h9 => h9) rfl dX12_contract_110 ?_
                    refine lv_iload_n hx hb dX12_contract_113 rfl (lv_at hl 1 rfl) ?_
                    refine lv_aload_n hx hb dX12_contract_114 rfl (lv_at hl 0 rfl) ?_
                    refine va_get (D := (dC, dI)) (ci := 12) (v := .ref (g 37)) (C := RX12) (T := TX12) (N := 63) hx hb hwd inA_X12 hown hK hP 0 rfl rfl 51 (by decide) (hwd _ wk_219) (fun _ h9 => h9) rfl dX12_contract_115 ?_
                    refine lv_bipush (v := 10) hx hb dX12_contract_118 (by decide) ?_
                    refine va_iald hx hb hK hP 37 36 rfl rfl (i := 10) (vin (a := 10) (by decide) (by omega)) dX12_contract_120 ?_
                    refine lv_topi (fun z8309 e8310 => ?_)
                    have t8311 : 0 ≤ z8309.toInt ∧ z8309.toInt ≤ 31 := by rw [e8310]; exact hI.2 37 _ _ rfl _
                    have tzz8309 : z8309.toInt = (F_lp8206 37 (10 : Int32).toNatClampNeg).toInt := congrArg Int32.toInt e8310
                    refine va_iast hx hb hK hP (DM hg) hS 37 36 rfl rfl (i := p0) (x := z8309) (vin (a := p0.toInt) rfl (by omega)) dX12_contract_121 (fun H locs hP _ hS => ?_)
                    have hP := va_P_eq (sM_37 g c _ _ _ _) hP
                    have hI := IM.store hI 37 (p0 : Int32).toNatClampNeg z8309 rfl (by omega)
                    have hF := frUF (k := 37) (f := upd (F_lp8206 37) (p0 : Int32).toNatClampNeg z8309) (by decide) hF
                    have st8313 : (va_up F_lp8206 37 (upd (F_lp8206 37) (p0 : Int32).toNatClampNeg z8309)) 37 = upd (F_lp8206 37) (p0 : Int32).toNatClampNeg z8309 := va_up_self _ _ _
                    have sn8314 : ∀ k9, k9 ≠ 37 → (va_up F_lp8206 37 (upd (F_lp8206 37) (p0 : Int32).toNatClampNeg z8309)) k9 = F_lp8206 k9 := fun k9 h9 => va_up_ne _ _ h9
                    have hP : va_P (dC, dI) classes (wM g c (va_up v_lp8206 30 0) (va_up F_lp8206 37 (upd (F_lp8206 37) (p0 : Int32).toNatClampNeg z8309)) rc) H := hP
                    generalize (va_up F_lp8206 37 (upd (F_lp8206 37) (p0 : Int32).toNatClampNeg z8309)) = F8312 at hP hI hF st8313 sn8314
                    refine lv_iconst (v := 0) hx hb dX12_contract_122 (by decide) ?_
                    refine lv_istore (lv' := [(4, .int 0), (0, .ref (g 0)), (1, .int p0), (2, .int p1), (3, .int p2)]) hx hb dX12_contract_123 hl (by decide) rfl (fun ls hl => ?_)
                    have lp8315 : ∀ (n : Nat) (x4_lp8315 : Int32) (v_lp8315 : Nat → Int32) (F_lp8315 : Nat → Nat → Int32) (H : Heap) (locs : List Loc) (ls : Array Slot), (0 ≤ x4_lp8315.toInt) → (F_lp8315 37 = F8312 37) → (F_lp8315 35 = F 35) → (2147483648 - x4_lp8315.toInt ≤ (n : Int)) → (∀ k, k ∉ ([] : List Nat) → v_lp8315 k = (va_up v_lp8206 30 0) k) → IM v_lp8315 F_lp8315 → (∀ k, k ∉ ([35, 36, 37, 38, 39, 40, 41] : List Nat) → F_lp8315 k = F k) → va_P (dC, dI) classes (wM g c v_lp8315 F_lp8315 rc) H → va_S (AM g s.heap.size) s.heap H locs → lv_has ls 5 [(4, .int x4_lp8315), (0, .ref (g 0)), (1, .int p0), (2, .int p1), (3, .int p2)] → W p l e (headSpec (Cond.code yX12_contract cX12_contract 5 (some .int) :: wA) ({ frames := 5, cells := 0, slots := 0, locals := 200 })).room s m ([.ref (g 0), .int p0, .int p1, .int p2] : List Value).toArray below meth c0 H locs 0 0 (MQ below (va_Qi (fun (r : Int32) (u : StM) => IM u.1 u.2.1 ∧ u.2.2 = rc ∧ (∀ k, k ∉ ([30, 39, 40, 42] : List Nat) → u.1 k = v k) ∧ (∀ k, k ∉ ([35, 36, 37, 38, 39, 40, 41] : List Nat) → u.2.1 k = F k) ∧ ((¬ ((0 ≤ p0.toInt ∧ p0.toInt < (v 6).toInt) ∧ (0 ≤ p1.toInt ∧ p1.toInt ≤ 9999) ∧ (0 ≤ p2.toInt ∧ p2.toInt ≤ 99999)) ∧ r.toInt = -1 ∧ (u.1 30).toInt = (v 30).toInt ∧ u.2.1 35 = F 35) ∨ (((0 ≤ p0.toInt ∧ p0.toInt < (v 6).toInt) ∧ (0 ≤ p1.toInt ∧ p1.toInt ≤ 9999) ∧ (0 ≤ p2.toInt ∧ p2.toInt ≤ 99999)) ∧ 0 ≤ (F 8 p0.toNatClampNeg).toInt ∧ r.toInt = -2 ∧ (u.1 30).toInt = (v 30).toInt ∧ u.2.1 35 = F 35) ∨ (((0 ≤ p0.toInt ∧ p0.toInt < (v 6).toInt) ∧ (0 ≤ p1.toInt ∧ p1.toInt ≤ 9999) ∧ (0 ≤ p2.toInt ∧ p2.toInt ≤ 99999)) ∧ (F 8 p0.toNatClampNeg).toInt < 0 ∧ (u.1 30).toInt = 0 ∧ cans (v 30) (F 24) r.toInt ∧ ((r.toInt ≤ -100 ∧ u.2.1 35 = F 35) ∨ (1 ≤ r.toInt ∧ u.2.1 35 = upd (F 35) p0.toNatClampNeg p1))))) (BM dC dI g c) (AM g s.heap.size)) ([.ref (g 0), .int p0, .int p1, .int p2] : List Value).toArray s 0 0 (AM g s.heap.size)) (F0 m 125 ls []) := by
                      intro n
                      induction n with
                      | zero =>
                        intro x4_lp8315 v_lp8315 F_lp8315 H locs ls t8316 t8317 t8318 hm hf_lp8315 hI hF hP hS hl
                        exfalso
                        have := i32_rng x4_lp8315
                        have hI1 := hI.1
                        omega
                      | succ n ih_lp8315 =>
                        intro x4_lp8315 v_lp8315 F_lp8315 H locs ls t8316 t8317 t8318 hm hf_lp8315 hI hF hP hS hl
                        have rx4_lp8315 := i32_rng x4_lp8315
                        refine lv_iload hx hb dX12_contract_125 (lv_at hl 0 rfl) ?_
                        refine lv_aload_n hx hb dX12_contract_127 rfl (lv_at hl 1 rfl) ?_
                        refine va_get (D := (dC, dI)) (ci := 12) (v := .ref (g 37)) (C := RX12) (T := TX12) (N := 63) hx hb hwd inA_X12 hown hK hP 0 rfl rfl 51 (by decide) (hwd _ wk_219) (fun _ h9 => h9) rfl dX12_contract_128 ?_
                        refine lv_iload_n hx hb dX12_contract_131 rfl (lv_at hl 2 rfl) ?_
                        refine va_iald hx hb hK hP 37 36 rfl rfl (i := p0) (vin (a := p0.toInt) rfl (by omega)) dX12_contract_132 ?_
                        refine lv_topi (fun z8319 e8320 => ?_)
                        have t8321 : 0 ≤ z8319.toInt ∧ z8319.toInt ≤ 31 := by rw [e8320]; exact hI.2 37 _ _ rfl _
                        have tzz8319 : z8319.toInt = (F_lp8315 37 (p0 : Int32).toNatClampNeg).toInt := congrArg Int32.toInt e8320
                        refine lv_icmp_ge (tgt := 234) hx hb dX12_contract_133 (by decide) (fun c8322 => ?_) (fun c8322 => ?_)
                        · skip
                          have t8323 := cv_le (a := z8319.toInt) rfl (b := x4_lp8315.toInt) rfl c8322
                          refine lv_aload_n hx hb dX12_contract_234 rfl (lv_at hl 1 rfl) ?_
                          refine va_get (D := (dC, dI)) (ci := 12) (v := .ref (g 35)) (C := RX12) (T := TX12) (N := 63) hx hb hwd inA_X12 hown hK hP 0 rfl rfl 49 (by decide) (hwd _ wk_217) (fun _ h9 => h9) rfl dX12_contract_235 ?_
                          refine lv_iload_n hx hb dX12_contract_238 rfl (lv_at hl 2 rfl) ?_
                          refine lv_iload_n hx hb dX12_contract_239 rfl (lv_at hl 3 rfl) ?_
                          refine va_iast hx hb hK hP (DM hg) hS 35 34 rfl rfl (i := p0) (x := p1) (vin (a := p0.toInt) rfl (by omega)) dX12_contract_240 (fun H locs hP _ hS => ?_)
                          have hP := va_P_eq (sM_35 g c _ _ _ _) hP
                          have hI := IM.store0 hI 35 (p0 : Int32).toNatClampNeg p1 rfl
                          have hF := frUF (k := 35) (f := upd (F_lp8315 35) (p0 : Int32).toNatClampNeg p1) (by decide) hF
                          have st8325 : (va_up F_lp8315 35 (upd (F_lp8315 35) (p0 : Int32).toNatClampNeg p1)) 35 = upd (F_lp8315 35) (p0 : Int32).toNatClampNeg p1 := va_up_self _ _ _
                          have sn8326 : ∀ k9, k9 ≠ 35 → (va_up F_lp8315 35 (upd (F_lp8315 35) (p0 : Int32).toNatClampNeg p1)) k9 = F_lp8315 k9 := fun k9 h9 => va_up_ne _ _ h9
                          have hP : va_P (dC, dI) classes (wM g c v_lp8315 (va_up F_lp8315 35 (upd (F_lp8315 35) (p0 : Int32).toNatClampNeg p1)) rc) H := hP
                          generalize (va_up F_lp8315 35 (upd (F_lp8315 35) (p0 : Int32).toNatClampNeg p1)) = F8324 at hP hI hF st8325 sn8326
                          refine lv_aload_n hx hb dX12_contract_241 rfl (lv_at hl 1 rfl) ?_
                          refine va_get (D := (dC, dI)) (ci := 12) (v := .ref (g 36)) (C := RX12) (T := TX12) (N := 63) hx hb hwd inA_X12 hown hK hP 0 rfl rfl 50 (by decide) (hwd _ wk_218) (fun _ h9 => h9) rfl dX12_contract_242 ?_
                          refine lv_iload_n hx hb dX12_contract_245 rfl (lv_at hl 2 rfl) ?_
                          refine lv_iload_n hx hb dX12_contract_246 rfl (lv_at hl 4 rfl) ?_
                          refine va_iast hx hb hK hP (DM hg) hS 36 35 rfl rfl (i := p0) (x := p2) (vin (a := p0.toInt) rfl (by omega)) dX12_contract_247 (fun H locs hP _ hS => ?_)
                          have hP := va_P_eq (sM_36 g c _ _ _ _) hP
                          have hI := IM.store0 hI 36 (p0 : Int32).toNatClampNeg p2 rfl
                          have hF := frUF (k := 36) (f := upd (F8324 36) (p0 : Int32).toNatClampNeg p2) (by decide) hF
                          have st8328 : (va_up F8324 36 (upd (F8324 36) (p0 : Int32).toNatClampNeg p2)) 36 = upd (F8324 36) (p0 : Int32).toNatClampNeg p2 := va_up_self _ _ _
                          have sn8329 : ∀ k9, k9 ≠ 36 → (va_up F8324 36 (upd (F8324 36) (p0 : Int32).toNatClampNeg p2)) k9 = F8324 k9 := fun k9 h9 => va_up_ne _ _ h9
                          have hP : va_P (dC, dI) classes (wM g c v_lp8315 (va_up F8324 36 (upd (F8324 36) (p0 : Int32).toNatClampNeg p2)) rc) H := hP
                          generalize (va_up F8324 36 (upd (F8324 36) (p0 : Int32).toNatClampNeg p2)) = F8327 at hP hI hF st8328 sn8329
                          refine lv_aload_n hx hb dX12_contract_248 rfl (lv_at hl 1 rfl) ?_
                          refine va_get (D := (dC, dI)) (ci := 12) (v := .ref (g 37)) (C := RX12) (T := TX12) (N := 63) hx hb hwd inA_X12 hown hK hP 0 rfl rfl 51 (by decide) (hwd _ wk_219) (fun _ h9 => h9) rfl dX12_contract_249 ?_
                          refine lv_iload_n hx hb dX12_contract_252 rfl (lv_at hl 2 rfl) ?_
                          refine va_iald hx hb hK hP 37 36 rfl rfl (i := p0) (vin (a := p0.toInt) rfl (by omega)) dX12_contract_253 ?_
                          refine lv_topi (fun z8330 e8331 => ?_)
                          have t8332 : 0 ≤ z8330.toInt ∧ z8330.toInt ≤ 31 := by rw [e8331]; exact hI.2 37 _ _ rfl _
                          have tzz8330 : z8330.toInt = (F8327 37 (p0 : Int32).toNatClampNeg).toInt := congrArg Int32.toInt e8331
                          have hP9 : va_P (dC, dI) classes (wM g c v_lp8315 F8327 rc) H := hP
                          exact W.iret (v := z8330) hx hb hr (fun t ht hW => ⟨⟨z8330, (v_lp8315, F8327, rc), rfl, ⟨hI, rfl, (frC (by decide) hf_lp8315 (frU (by decide) (frC (by decide) hf_lp8206 (frC (by decide) hf8202 (frU (by decide) (frU (by decide) (fun _ _ => rfl))))))), hF, (by show (¬ ((0 ≤ p0.toInt ∧ p0.toInt < (v 6).toInt) ∧ (0 ≤ p1.toInt ∧ p1.toInt ≤ 9999) ∧ (0 ≤ p2.toInt ∧ p2.toInt ≤ 99999)) ∧ z8330.toInt = -1 ∧ (v_lp8315 30).toInt = (v 30).toInt ∧ F8327 35 = F 35) ∨ (((0 ≤ p0.toInt ∧ p0.toInt < (v 6).toInt) ∧ (0 ≤ p1.toInt ∧ p1.toInt ≤ 9999) ∧ (0 ≤ p2.toInt ∧ p2.toInt ≤ 99999)) ∧ 0 ≤ (F 8 p0.toNatClampNeg).toInt ∧ z8330.toInt = -2 ∧ (v_lp8315 30).toInt = (v 30).toInt ∧ F8327 35 = F 35) ∨ (((0 ≤ p0.toInt ∧ p0.toInt < (v 6).toInt) ∧ (0 ≤ p1.toInt ∧ p1.toInt ≤ 9999) ∧ (0 ≤ p2.toInt ∧ p2.toInt ≤ 99999)) ∧ (F 8 p0.toNatClampNeg).toInt < 0 ∧ (v_lp8315 30).toInt = 0 ∧ cans (v 30) (F 24) z8330.toInt ∧ ((z8330.toInt ≤ -100 ∧ F8327 35 = F 35) ∨ (1 ≤ z8330.toInt ∧ F8327 35 = upd (F 35) p0.toNatClampNeg p1))); rw [show v_lp8315 30 = 0 from hf_lp8315 30 (by decide)]; have r9 : z8330.toInt = (F_lp8206 37 (10 : Int32).toNatClampNeg).toInt := congrArg Int32.toInt (e8331.trans ((congrFun (((sn8329 37 (by decide)).trans (sn8326 37 (by decide))).trans t8317) _).trans ((congrFun st8313 _).trans ((mu_at _ _ _).trans e8310)))); exact Or.inr (Or.inr ⟨by omega, by omega, by omega, cans.mk t8208 (fun q9 => by omega) (by omega), Or.inr ⟨by omega, ((sn8329 35 (by decide)).trans st8325).trans (congrArg (fun f => upd f (p0 : Int32).toNatClampNeg p1) t8318)⟩⟩))⟩, (by show va_P _ _ _ t.heap; rw [ht]; exact hP9)⟩, hS.F ht⟩) hS.2.2 dX12_contract_254
                        · skip
                          have t8333 := cv_nle (a := z8319.toInt) rfl (b := x4_lp8315.toInt) rfl c8322
                          refine lv_aload_n hx hb dX12_contract_136 rfl (lv_at hl 1 rfl) ?_
                          refine va_get (D := (dC, dI)) (ci := 12) (v := .ref (g 38)) (C := RX12) (T := TX12) (N := 63) hx hb hwd inA_X12 hown hK hP 0 rfl rfl 52 (by decide) (hwd _ wk_220) (fun _ h9 => h9) rfl dX12_contract_137 ?_
                          refine lv_bipush (v := 32) hx hb dX12_contract_140 (by decide) ?_
                          refine lv_iload_n hx hb dX12_contract_142 rfl (lv_at hl 2 rfl) ?_
                          refine lv_imul hx hb dX12_contract_143 ?_
                          refine lv_topi (fun z8334 e8335 => ?_)
                          try (have t8336 := tmul e8335 (a := 32) (by decide) (b := p0.toInt) rfl (by omega))
                          refine lv_iload hx hb dX12_contract_144 (lv_at hl 0 rfl) ?_
                          refine lv_iadd hx hb dX12_contract_146 ?_
                          refine lv_topi (fun z8337 e8338 => ?_)
                          try (have t8339 := tadd e8338 (a := z8334.toInt) rfl (b := x4_lp8315.toInt) rfl (by omega))
                          refine lv_aload_n hx hb dX12_contract_147 rfl (lv_at hl 1 rfl) ?_
                          refine va_get (D := (dC, dI)) (ci := 12) (v := .ref (g 38)) (C := RX12) (T := TX12) (N := 63) hx hb hwd inA_X12 hown hK hP 0 rfl rfl 52 (by decide) (hwd _ wk_220) (fun _ h9 => h9) rfl dX12_contract_148 ?_
                          refine lv_sipush (v := 320) hx hb dX12_contract_151 (by decide) ?_
                          refine lv_iload hx hb dX12_contract_154 (lv_at hl 0 rfl) ?_
                          refine lv_iadd hx hb dX12_contract_156 ?_
                          refine lv_topi (fun z8340 e8341 => ?_)
                          try (have t8342 := tadd e8341 (a := 320) (by decide) (b := x4_lp8315.toInt) rfl (by omega))
                          refine va_iald hx hb hK hP 38 37 rfl rfl (i := z8340) (vin (a := z8340.toInt) rfl (by omega)) dX12_contract_157 ?_
                          refine lv_topi (fun z8343 e8344 => ?_)
                          have tzz8343 : z8343.toInt = (F_lp8315 38 (z8340 : Int32).toNatClampNeg).toInt := congrArg Int32.toInt e8344
                          refine va_iast hx hb hK hP (DM hg) hS 38 37 rfl rfl (i := z8337) (x := z8343) (vin (a := z8337.toInt) rfl (by omega)) dX12_contract_158 (fun H locs hP _ hS => ?_)
                          have hP := va_P_eq (sM_38 g c _ _ _ _) hP
                          have hI := IM.store0 hI 38 (z8337 : Int32).toNatClampNeg z8343 rfl
                          have hF := frUF (k := 38) (f := upd (F_lp8315 38) (z8337 : Int32).toNatClampNeg z8343) (by decide) hF
                          have st8346 : (va_up F_lp8315 38 (upd (F_lp8315 38) (z8337 : Int32).toNatClampNeg z8343)) 38 = upd (F_lp8315 38) (z8337 : Int32).toNatClampNeg z8343 := va_up_self _ _ _
                          have sn8347 : ∀ k9, k9 ≠ 38 → (va_up F_lp8315 38 (upd (F_lp8315 38) (z8337 : Int32).toNatClampNeg z8343)) k9 = F_lp8315 k9 := fun k9 h9 => va_up_ne _ _ h9
                          have hP : va_P (dC, dI) classes (wM g c v_lp8315 (va_up F_lp8315 38 (upd (F_lp8315 38) (z8337 : Int32).toNatClampNeg z8343)) rc) H := hP
                          generalize (va_up F_lp8315 38 (upd (F_lp8315 38) (z8337 : Int32).toNatClampNeg z8343)) = F8345 at hP hI hF st8346 sn8347
                          refine lv_aload_n hx hb dX12_contract_159 rfl (lv_at hl 1 rfl) ?_
                          refine va_get (D := (dC, dI)) (ci := 12) (v := .ref (g 39)) (C := RX12) (T := TX12) (N := 63) hx hb hwd inA_X12 hown hK hP 0 rfl rfl 53 (by decide) (hwd _ wk_221) (fun _ h9 => h9) rfl dX12_contract_160 ?_
                          refine lv_bipush (v := 32) hx hb dX12_contract_163 (by decide) ?_
                          refine lv_iload_n hx hb dX12_contract_165 rfl (lv_at hl 2 rfl) ?_
                          refine lv_imul hx hb dX12_contract_166 ?_
                          refine lv_topi (fun z8348 e8349 => ?_)
                          try (have t8350 := tmul e8349 (a := 32) (by decide) (b := p0.toInt) rfl (by omega))
                          refine lv_iload hx hb dX12_contract_167 (lv_at hl 0 rfl) ?_
                          refine lv_iadd hx hb dX12_contract_169 ?_
                          refine lv_topi (fun z8351 e8352 => ?_)
                          try (have t8353 := tadd e8352 (a := z8348.toInt) rfl (b := x4_lp8315.toInt) rfl (by omega))
                          refine lv_aload_n hx hb dX12_contract_170 rfl (lv_at hl 1 rfl) ?_
                          refine va_get (D := (dC, dI)) (ci := 12) (v := .ref (g 39)) (C := RX12) (T := TX12) (N := 63) hx hb hwd inA_X12 hown hK hP 0 rfl rfl 53 (by decide) (hwd _ wk_221) (fun _ h9 => h9) rfl dX12_contract_171 ?_
                          refine lv_sipush (v := 320) hx hb dX12_contract_174 (by decide) ?_
                          refine lv_iload hx hb dX12_contract_177 (lv_at hl 0 rfl) ?_
                          refine lv_iadd hx hb dX12_contract_179 ?_
                          refine lv_topi (fun z8354 e8355 => ?_)
                          try (have t8356 := tadd e8355 (a := 320) (by decide) (b := x4_lp8315.toInt) rfl (by omega))
                          refine va_iald hx hb hK hP 39 38 rfl rfl (i := z8354) (vin (a := z8354.toInt) rfl (by omega)) dX12_contract_180 ?_
                          refine lv_topi (fun z8357 e8358 => ?_)
                          have tzz8357 : z8357.toInt = (F8345 39 (z8354 : Int32).toNatClampNeg).toInt := congrArg Int32.toInt e8358
                          refine va_iast hx hb hK hP (DM hg) hS 39 38 rfl rfl (i := z8351) (x := z8357) (vin (a := z8351.toInt) rfl (by omega)) dX12_contract_181 (fun H locs hP _ hS => ?_)
                          have hP := va_P_eq (sM_39 g c _ _ _ _) hP
                          have hI := IM.store0 hI 39 (z8351 : Int32).toNatClampNeg z8357 rfl
                          have hF := frUF (k := 39) (f := upd (F8345 39) (z8351 : Int32).toNatClampNeg z8357) (by decide) hF
                          have st8360 : (va_up F8345 39 (upd (F8345 39) (z8351 : Int32).toNatClampNeg z8357)) 39 = upd (F8345 39) (z8351 : Int32).toNatClampNeg z8357 := va_up_self _ _ _
                          have sn8361 : ∀ k9, k9 ≠ 39 → (va_up F8345 39 (upd (F8345 39) (z8351 : Int32).toNatClampNeg z8357)) k9 = F8345 k9 := fun k9 h9 => va_up_ne _ _ h9
                          have hP : va_P (dC, dI) classes (wM g c v_lp8315 (va_up F8345 39 (upd (F8345 39) (z8351 : Int32).toNatClampNeg z8357)) rc) H := hP
                          generalize (va_up F8345 39 (upd (F8345 39) (z8351 : Int32).toNatClampNeg z8357)) = F8359 at hP hI hF st8360 sn8361
                          refine lv_aload_n hx hb dX12_contract_182 rfl (lv_at hl 1 rfl) ?_
                          refine va_get (D := (dC, dI)) (ci := 12) (v := .ref (g 40)) (C := RX12) (T := TX12) (N := 63) hx hb hwd inA_X12 hown hK hP 0 rfl rfl 54 (by decide) (hwd _ wk_222) (fun _ h9 => h9) rfl dX12_contract_183 ?_
                          refine lv_bipush (v := 32) hx hb dX12_contract_186 (by decide) ?_
                          refine lv_iload_n hx hb dX12_contract_188 rfl (lv_at hl 2 rfl) ?_
                          refine lv_imul hx hb dX12_contract_189 ?_
                          refine lv_topi (fun z8362 e8363 => ?_)
                          try (have t8364 := tmul e8363 (a := 32) (by decide) (b := p0.toInt) rfl (by omega))
                          refine lv_iload hx hb dX12_contract_190 (lv_at hl 0 rfl) ?_
                          refine lv_iadd hx hb dX12_contract_192 ?_
                          refine lv_topi (fun z8365 e8366 => ?_)
                          try (have t8367 := tadd e8366 (a := z8362.toInt) rfl (b := x4_lp8315.toInt) rfl (by omega))
                          refine lv_aload_n hx hb dX12_contract_193 rfl (lv_at hl 1 rfl) ?_
                          refine va_get (D := (dC, dI)) (ci := 12) (v := .ref (g 40)) (C := RX12) (T := TX12) (N := 63) hx hb hwd inA_X12 hown hK hP 0 rfl rfl 54 (by decide) (hwd _ wk_222) (fun _ h9 => h9) rfl dX12_contract_194 ?_
                          refine lv_sipush (v := 320) hx hb dX12_contract_197 (by decide) ?_
                          refine lv_iload hx hb dX12_contract_200 (lv_at hl 0 rfl) ?_
                          refine lv_iadd hx hb dX12_contract_202 ?_
                          refine lv_topi (fun z8368 e8369 => ?_)
                          try (have t8370 := tadd e8369 (a := 320) (by decide) (b := x4_lp8315.toInt) rfl (by omega))
                          refine va_iald hx hb hK hP 40 39 rfl rfl (i := z8368) (vin (a := z8368.toInt) rfl (by omega)) dX12_contract_203 ?_
                          refine lv_topi (fun z8371 e8372 => ?_)
                          have tzz8371 : z8371.toInt = (F8359 40 (z8368 : Int32).toNatClampNeg).toInt := congrArg Int32.toInt e8372
                          refine va_iast hx hb hK hP (DM hg) hS 40 39 rfl rfl (i := z8365) (x := z8371) (vin (a := z8365.toInt) rfl (by omega)) dX12_contract_204 (fun H locs hP _ hS => ?_)
                          have hP := va_P_eq (sM_40 g c _ _ _ _) hP
                          have hI := IM.store0 hI 40 (z8365 : Int32).toNatClampNeg z8371 rfl
                          have hF := frUF (k := 40) (f := upd (F8359 40) (z8365 : Int32).toNatClampNeg z8371) (by decide) hF
                          have st8374 : (va_up F8359 40 (upd (F8359 40) (z8365 : Int32).toNatClampNeg z8371)) 40 = upd (F8359 40) (z8365 : Int32).toNatClampNeg z8371 := va_up_self _ _ _
                          have sn8375 : ∀ k9, k9 ≠ 40 → (va_up F8359 40 (upd (F8359 40) (z8365 : Int32).toNatClampNeg z8371)) k9 = F8359 k9 := fun k9 h9 => va_up_ne _ _ h9
                          have hP : va_P (dC, dI) classes (wM g c v_lp8315 (va_up F8359 40 (upd (F8359 40) (z8365 : Int32).toNatClampNeg z8371)) rc) H := hP
                          generalize (va_up F8359 40 (upd (F8359 40) (z8365 : Int32).toNatClampNeg z8371)) = F8373 at hP hI hF st8374 sn8375
                          refine lv_aload_n hx hb dX12_contract_205 rfl (lv_at hl 1 rfl) ?_
                          refine va_get (D := (dC, dI)) (ci := 12) (v := .ref (g 41)) (C := RX12) (T := TX12) (N := 63) hx hb hwd inA_X12 hown hK hP 0 rfl rfl 55 (by decide) (hwd _ wk_223) (fun _ h9 => h9) rfl dX12_contract_206 ?_
                          refine lv_bipush (v := 32) hx hb dX12_contract_209 (by decide) ?_
                          refine lv_iload_n hx hb dX12_contract_211 rfl (lv_at hl 2 rfl) ?_
                          refine lv_imul hx hb dX12_contract_212 ?_
                          refine lv_topi (fun z8376 e8377 => ?_)
                          try (have t8378 := tmul e8377 (a := 32) (by decide) (b := p0.toInt) rfl (by omega))
                          refine lv_iload hx hb dX12_contract_213 (lv_at hl 0 rfl) ?_
                          refine lv_iadd hx hb dX12_contract_215 ?_
                          refine lv_topi (fun z8379 e8380 => ?_)
                          try (have t8381 := tadd e8380 (a := z8376.toInt) rfl (b := x4_lp8315.toInt) rfl (by omega))
                          refine lv_aload_n hx hb dX12_contract_216 rfl (lv_at hl 1 rfl) ?_
                          refine va_get (D := (dC, dI)) (ci := 12) (v := .ref (g 41)) (C := RX12) (T := TX12) (N := 63) hx hb hwd inA_X12 hown hK hP 0 rfl rfl 55 (by decide) (hwd _ wk_223) (fun _ h9 => h9) rfl dX12_contract_217 ?_
                          refine lv_sipush (v := 320) hx hb dX12_contract_220 (by decide) ?_
                          refine lv_iload hx hb dX12_contract_223 (lv_at hl 0 rfl) ?_
                          refine lv_iadd hx hb dX12_contract_225 ?_
                          refine lv_topi (fun z8382 e8383 => ?_)
                          try (have t8384 := tadd e8383 (a := 320) (by decide) (b := x4_lp8315.toInt) rfl (by omega))
                          refine va_iald hx hb hK hP 41 40 rfl rfl (i := z8382) (vin (a := z8382.toInt) rfl (by omega)) dX12_contract_226 ?_
                          refine lv_topi (fun z8385 e8386 => ?_)
                          have tzz8385 : z8385.toInt = (F8373 41 (z8382 : Int32).toNatClampNeg).toInt := congrArg Int32.toInt e8386
                          refine va_iast hx hb hK hP (DM hg) hS 41 40 rfl rfl (i := z8379) (x := z8385) (vin (a := z8379.toInt) rfl (by omega)) dX12_contract_227 (fun H locs hP _ hS => ?_)
                          have hP := va_P_eq (sM_41 g c _ _ _ _) hP
                          have hI := IM.store0 hI 41 (z8379 : Int32).toNatClampNeg z8385 rfl
                          have hF := frUF (k := 41) (f := upd (F8373 41) (z8379 : Int32).toNatClampNeg z8385) (by decide) hF
                          have st8388 : (va_up F8373 41 (upd (F8373 41) (z8379 : Int32).toNatClampNeg z8385)) 41 = upd (F8373 41) (z8379 : Int32).toNatClampNeg z8385 := va_up_self _ _ _
                          have sn8389 : ∀ k9, k9 ≠ 41 → (va_up F8373 41 (upd (F8373 41) (z8379 : Int32).toNatClampNeg z8385)) k9 = F8373 k9 := fun k9 h9 => va_up_ne _ _ h9
                          have hP : va_P (dC, dI) classes (wM g c v_lp8315 (va_up F8373 41 (upd (F8373 41) (z8379 : Int32).toNatClampNeg z8385)) rc) H := hP
                          generalize (va_up F8373 41 (upd (F8373 41) (z8379 : Int32).toNatClampNeg z8385)) = F8387 at hP hI hF st8388 sn8389
                          obtain ⟨z8390, e8391⟩ : ∃ y : Int32, y = x4_lp8315 + 1 := ⟨_, rfl⟩
                          try (have t8392 := tadd e8391 rfl (b := 1) (by decide) (by omega))
                          refine lv_iinc (v := z8390) (lv' := [(4, .int z8390), (0, .ref (g 0)), (1, .int p0), (2, .int p1), (3, .int p2)]) hx hb dX12_contract_228 hl (k := 0) rfl (by rw [e8391]; rfl) (by decide) rfl (fun ls hl => ?_)
                          refine lv_goto (tgt := 125) hx hb dX12_contract_231 (by decide) ?_
                          exact ih_lp8315 z8390 v_lp8315 F8387 _ _ _ (by omega) (((sn8389 37 (by decide)).trans ((sn8375 37 (by decide)).trans ((sn8361 37 (by decide)).trans (sn8347 37 (by decide))))).trans t8317) (((sn8389 35 (by decide)).trans ((sn8375 35 (by decide)).trans ((sn8361 35 (by decide)).trans (sn8347 35 (by decide))))).trans t8318) (by omega) hf_lp8315 hI hF hP hS (lv_sub hl [0, 1, 2, 3, 4] rfl)
                    obtain ⟨n9, hn9⟩ : ∃ n : Nat, 2147483648 - 0 ≤ (n : Int) := ⟨((2147483648 - 0 : Int)).toNat, by omega⟩
                    exact lp8315 n9 0 (va_up v_lp8206 30 0) F8312 H _ ls (by have : (0 : Int32).toInt = 0 := (by decide); omega) rfl ((sn8314 35 (by decide)).trans t8209) (by have : (0 : Int32).toInt = 0 := (by decide); omega) (fun _ _ => rfl) hI hF hP hS hl
                  · skip
                    have t8393 := cv_nlt (a := (v_lp8206 40).toInt) rfl (b := 0) (by decide) c8307
                    refine lv_bipush (v := (-100)) hx hb dX12_contract_101 (by decide) ?_
                    refine lv_aload_n hx hb dX12_contract_103 rfl (lv_at hl 0 rfl) ?_
                    refine va_get (D := (dC, dI)) (ci := 12) (v := .int (v_lp8206 40)) (C := RX12) (T := TX12) (N := 63) hx hb hwd inA_X12 hown hK hP 0 rfl rfl 40 (by decide) (hwd _ wk_1005) (fun _ h9 => h9) rfl dX12_contract_104 ?_
                    refine lv_isub hx hb dX12_contract_107 ?_
                    refine lv_topi (fun z8394 e8395 => ?_)
                    try (have t8396 := tsub e8395 (a := (-100)) (by decide) (b := (v_lp8206 40).toInt) rfl (by omega))
                    have hP9 : va_P (dC, dI) classes (wM g c (va_up v_lp8206 30 0) F_lp8206 rc) H := hP
                    exact W.iret (v := z8394) hx hb hr (fun t ht hW => ⟨⟨z8394, ((va_up v_lp8206 30 0), F_lp8206, rc), rfl, ⟨hI, rfl, (frU (by decide) (frC (by decide) hf_lp8206 (frC (by decide) hf8202 (frU (by decide) (frU (by decide) (fun _ _ => rfl)))))), hF, (by show (¬ ((0 ≤ p0.toInt ∧ p0.toInt < (v 6).toInt) ∧ (0 ≤ p1.toInt ∧ p1.toInt ≤ 9999) ∧ (0 ≤ p2.toInt ∧ p2.toInt ≤ 99999)) ∧ z8394.toInt = -1 ∧ (0 : Int32).toInt = (v 30).toInt ∧ F_lp8206 35 = F 35) ∨ (((0 ≤ p0.toInt ∧ p0.toInt < (v 6).toInt) ∧ (0 ≤ p1.toInt ∧ p1.toInt ≤ 9999) ∧ (0 ≤ p2.toInt ∧ p2.toInt ≤ 99999)) ∧ 0 ≤ (F 8 p0.toNatClampNeg).toInt ∧ z8394.toInt = -2 ∧ (0 : Int32).toInt = (v 30).toInt ∧ F_lp8206 35 = F 35) ∨ (((0 ≤ p0.toInt ∧ p0.toInt < (v 6).toInt) ∧ (0 ≤ p1.toInt ∧ p1.toInt ≤ 9999) ∧ (0 ≤ p2.toInt ∧ p2.toInt ≤ 99999)) ∧ (F 8 p0.toNatClampNeg).toInt < 0 ∧ (0 : Int32).toInt = 0 ∧ cans (v 30) (F 24) z8394.toInt ∧ ((z8394.toInt ≤ -100 ∧ F_lp8206 35 = F 35) ∨ (1 ≤ z8394.toInt ∧ F_lp8206 35 = upd (F 35) p0.toNatClampNeg p1))); have : (0 : Int32).toInt = 0 := (by decide); exact Or.inr (Or.inr ⟨by omega, by omega, by omega, cans.mk t8208 (fun q9 => by omega) (by omega), Or.inl ⟨by omega, t8209⟩⟩))⟩, (by show va_P _ _ _ t.heap; rw [ht]; exact hP9)⟩, hS.F ht⟩) hS.2.2 dX12_contract_108
                · skip
                  have t8397 := cv_nle (a := (v 30).toInt) rfl (b := (v_lp8206 39).toInt) rfl c8305
                  refine lv_aload_n hx hb dX12_contract_80 rfl (lv_at hl 0 rfl) ?_
                  refine lv_bipush (v := 10) hx hb dX12_contract_81 (by decide) ?_
                  have t8398 : 0 ≤ (v 30).toInt ∧ (v 30).toInt ≤ 120 := by have h9 := hI.1 30 _ _ rfl; rw [show v_lp8206 30 = v 30 from (hf_lp8206 30 (by decide)).trans (hf8202 30 (by decide))] at h9; exact h9
                  have t8399 : 0 ≤ (v_lp8206 39).toInt ∧ (v_lp8206 39).toInt ≤ 120 := hI.1 39 _ _ rfl
                  have hby24 : F_lp8206 24 = F 24 := hF 24 (by decide)
                  refine va_callv (va_runV (As := [.int 10]) (rest := []) ⟨hx, hb, hml, hown, hwd⟩ (c_X12_readLine l dC dI g c adK adV v_lp8206 F_lp8206 rc H.size  hg hI (by have h9 : v_lp8206 39 = v_lp8206 39 := rfl; (try rw [h9]); clear h9; have h9 : v_lp8206 30 = v 30 := (hf_lp8206 30 (by decide)).trans (hf8202 30 (by decide)); (try rw [h9]); clear h9; have h9 : v_lp8206 40 = v_lp8206 40 := rfl; (try rw [h9]); clear h9; have b9 := t8207; omega)) (cwV 1 hwd (gV wk_1131 wk_1128 wk_1129 wk_1130 wk_5) rfl rfl rfl (by decide +kernel) ⟨Nat.le_of_ble_eq_true rfl, Nat.le_of_ble_eq_true rfl⟩) ⟨PM.blind, va_recv hK hP (ci := 12) (q0 := 0) rfl rfl, fun U hU hW => ⟨rfl, PM.at hK hE hP hS hU hW⟩⟩ rfl rfl hl.1 rfl (lv_room (Nat.le_of_ble_eq_true rfl)) dX12_contract_83 ⟨Nat.le_of_ble_eq_true rfl, Nat.le_of_ble_eq_true rfl⟩) hS (fun q _ h => (freeM hS) q h) (freeM hS) (fun u t H1 locs ht hvm hw hB hz1 hk1 hS => ?_)
                  unfold BM at hB
                  rw [ht] at hB
                  obtain ⟨v8401, F8402, rc9⟩ := u
                  obtain ⟨hI, hrc, hf8403, hG8404, hw⟩ := hw
                  dsimp only at hI hrc hB hf8403 hG8404 hw
                  have hF := frCF (by decide) hG8404 hF
                  rw [hrc] at hB
                  have hP : va_P (dC, dI) classes (wM g c v8401 F8402 rc) H1 := hB
                  replace hw : (4 * (F8402 37 (10 : Int32).toNatClampNeg).toInt ≤ (v8401 39).toInt ∧ (v8401 39).toInt ≤ (v_lp8206 30).toInt ∧ (v_lp8206 39).toInt ≤ (v8401 39).toInt ∧ (((v8401 40).toInt < 0 ∧ (v_lp8206 39).toInt < (v8401 39).toInt ∧ (F8402 37 (10 : Int32).toNatClampNeg).toInt = (F_lp8206 37 (10 : Int32).toNatClampNeg).toInt + 1) ∨ (0 ≤ (v8401 40).toInt ∧ (v8401 40).toInt = (v8401 39).toInt ∧ (F8402 37 (10 : Int32).toNatClampNeg).toInt = (F_lp8206 37 (10 : Int32).toNatClampNeg).toInt))) ∧ ln false (v_lp8206 30) (F_lp8206 24) (v_lp8206 39).toInt (v8401 40).toInt (v8401 39).toInt := hw
                  rw [show v_lp8206 30 = v 30 from (hf_lp8206 30 (by decide)).trans (hf8202 30 (by decide))] at hw
                  rw [hby24] at hw
                  have hw_r8400 := hw
                  clear hw
                  have t8405 : 0 ≤ (v8401 39).toInt ∧ (v8401 39).toInt ≤ 120 := hI.1 39 _ _ rfl
                  have k8406 : (10 : Int32).toInt = 10 := by decide
                  clear hz1
                  generalize H1 = H at hP hS ⊢
                  refine lv_goto (tgt := 62) hx hb dX12_contract_86 (by decide) ?_
                  exact ih_lp8206  v8401 F8402 _ _ _ (by have h9 : v8401 39 = v8401 39 := rfl; (try rw [h9]); clear h9; have h9 : v8401 30 = v 30 := (hf8403 30 (by decide)).trans ((hf_lp8206 30 (by decide)).trans (hf8202 30 (by decide))); (try rw [h9]); clear h9; have h9 : v8401 40 = v8401 40 := rfl; (try rw [h9]); clear h9; have w9 := hw_r8400.1; omega) (by have h9 : v8401 39 = v8401 39 := rfl; (try rw [h9]); clear h9; have h9 : v8401 40 = v8401 40 := rfl; (try rw [h9]); clear h9; exact tx.step t8208 (by omega) (by omega) rfl hw_r8400.2 (fun q9 => by omega)) ((hG8404 35 (by decide)).trans t8209) (by have h9 : v8401 39 = v8401 39 := rfl; (try rw [h9]); clear h9; have h9 : v8401 40 = v8401 40 := rfl; (try rw [h9]); clear h9; omega) (frC (by decide) hf8403 hf_lp8206) hI hF hP hS (lv_sub hl [0, 1, 2, 3] rfl)
          obtain ⟨n9, hn9⟩ : ∃ n : Nat, n = 200 := ⟨_, rfl⟩
          exact lp8206 n9  v8200 F8201 H _ ls (by have h9 : v8200 39 = v8200 39 := rfl; (try rw [h9]); clear h9; have h9 : v8200 30 = v 30 := hf8202 30 (by decide); (try rw [h9]); clear h9; have h9 : v8200 40 = v8200 40 := rfl; (try rw [h9]); clear h9; have l0 : (F8195 37 (10 : Int32).toNatClampNeg).toInt = 0 := (congrArg Int32.toInt ((congrFun st8196 _).trans (mu_at _ _ _))).trans (by decide); have w9 := hw_r8199.1; omega) (by have h9 : v8200 39 = v8200 39 := rfl; (try rw [h9]); clear h9; have h9 : v8200 40 = v8200 40 := rfl; (try rw [h9]); clear h9; have l0 : (F8195 37 (10 : Int32).toNatClampNeg).toInt = 0 := (congrArg Int32.toInt ((congrFun st8196 _).trans (mu_at _ _ _))).trans (by decide); have w9 := hw_r8199.1; exact tx.first hw_r8199.2 (by decide) (fun q9 => by omega)) ((hG8203 35 (by decide)).trans (sn8197 35 (by decide))) (by have h9 : v8200 39 = v8200 39 := rfl; (try rw [h9]); clear h9; have h9 : v8200 40 = v8200 40 := rfl; (try rw [h9]); clear h9; omega) (fun _ _ => rfl) hI hF hP hS hl
        · skip
          have t8407 := cv_ne (a := r8192.toInt) rfl (b := 0) (by decide) c8193
          refine lv_bipush (v := (-2)) hx hb dX12_contract_35 (by decide) ?_
          have hP9 : va_P (dC, dI) classes (wM g c v F rc) H := hP
          exact W.iret (v := (-2)) hx hb hr (fun t ht hW => ⟨⟨(-2), (v, F, rc), rfl, ⟨hI, rfl, (fun _ _ => rfl), hF, (by show (¬ ((0 ≤ p0.toInt ∧ p0.toInt < (v 6).toInt) ∧ (0 ≤ p1.toInt ∧ p1.toInt ≤ 9999) ∧ (0 ≤ p2.toInt ∧ p2.toInt ≤ 99999)) ∧ ((-2) : Int32).toInt = -1 ∧ (v 30).toInt = (v 30).toInt ∧ F 35 = F 35) ∨ (((0 ≤ p0.toInt ∧ p0.toInt < (v 6).toInt) ∧ (0 ≤ p1.toInt ∧ p1.toInt ≤ 9999) ∧ (0 ≤ p2.toInt ∧ p2.toInt ≤ 99999)) ∧ 0 ≤ (F 8 p0.toNatClampNeg).toInt ∧ ((-2) : Int32).toInt = -2 ∧ (v 30).toInt = (v 30).toInt ∧ F 35 = F 35) ∨ (((0 ≤ p0.toInt ∧ p0.toInt < (v 6).toInt) ∧ (0 ≤ p1.toInt ∧ p1.toInt ≤ 9999) ∧ (0 ≤ p2.toInt ∧ p2.toInt ≤ 99999)) ∧ (F 8 p0.toNatClampNeg).toInt < 0 ∧ (v 30).toInt = 0 ∧ cans (v 30) (F 24) ((-2) : Int32).toInt ∧ ((((-2) : Int32).toInt ≤ -100 ∧ F 35 = F 35) ∨ (1 ≤ ((-2) : Int32).toInt ∧ F 35 = upd (F 35) p0.toNatClampNeg p1))); have : ((-2) : Int32).toInt = (-2) := (by decide); exact Or.inr (Or.inl ⟨by omega, by omega, by omega, by omega, rfl⟩))⟩, (by show va_P _ _ _ t.heap; rw [ht]; exact hP9)⟩, hS.F ht⟩) hS.2.2 dX12_contract_37
      · skip
        have t8408 := cv_eq (a := r8187.toInt) rfl (b := 0) (by decide) c8190
        refine lv_iconst (v := (-1)) hx hb dX12_contract_25 (by decide) ?_
        have hP9 : va_P (dC, dI) classes (wM g c v F rc) H := hP
        exact W.iret (v := (-1)) hx hb hr (fun t ht hW => ⟨⟨(-1), (v, F, rc), rfl, ⟨hI, rfl, (fun _ _ => rfl), hF, (by show (¬ ((0 ≤ p0.toInt ∧ p0.toInt < (v 6).toInt) ∧ (0 ≤ p1.toInt ∧ p1.toInt ≤ 9999) ∧ (0 ≤ p2.toInt ∧ p2.toInt ≤ 99999)) ∧ ((-1) : Int32).toInt = -1 ∧ (v 30).toInt = (v 30).toInt ∧ F 35 = F 35) ∨ (((0 ≤ p0.toInt ∧ p0.toInt < (v 6).toInt) ∧ (0 ≤ p1.toInt ∧ p1.toInt ≤ 9999) ∧ (0 ≤ p2.toInt ∧ p2.toInt ≤ 99999)) ∧ 0 ≤ (F 8 p0.toNatClampNeg).toInt ∧ ((-1) : Int32).toInt = -2 ∧ (v 30).toInt = (v 30).toInt ∧ F 35 = F 35) ∨ (((0 ≤ p0.toInt ∧ p0.toInt < (v 6).toInt) ∧ (0 ≤ p1.toInt ∧ p1.toInt ≤ 9999) ∧ (0 ≤ p2.toInt ∧ p2.toInt ≤ 99999)) ∧ (F 8 p0.toNatClampNeg).toInt < 0 ∧ (v 30).toInt = 0 ∧ cans (v 30) (F 24) ((-1) : Int32).toInt ∧ ((((-1) : Int32).toInt ≤ -100 ∧ F 35 = F 35) ∨ (1 ≤ ((-1) : Int32).toInt ∧ F 35 = upd (F 35) p0.toNatClampNeg p1))); have : ((-1) : Int32).toInt = (-1) := (by decide); exact Or.inl ⟨by omega, by omega, by omega, rfl⟩)⟩, (by show va_P _ _ _ t.heap; rw [ht]; exact hP9)⟩, hS.F ht⟩) hS.2.2 dX12_contract_26
