set_option maxHeartbeats 8000000 in
set_option maxRecDepth 100000 in
theorem c_X12_takesNumber (l : Launch) (dC : Nat → ClassId) (dI : Nat → Nat → Nat) (g : Nat → Nat) (c : Nat → ClassId) (adK adV : Nat → Nat) (v : Nat → Int32) (F : Nat → Nat → Int32) (rc sz : Nat) (hg : injM g) (hI : IM v F) (hq : (v 39).toInt ≤ (v 30).toInt) : Met l yX12_takesNumber (Cond.code yX12_takesNumber cX12_takesNumber 1 (some .boolean) :: wA) ({ frames := 3, cells := 0, slots := 0, locals := 120 }) (va_Pc [.ref (g 0)] (PM dC dI g c adK adV v F rc sz)) (va_Qi (fun (r : Int32) (u : StM) => IM u.1 u.2.1 ∧ u.2.2 = rc ∧ (∀ k, k ∉ ([39, 40, 42] : List Nat) → u.1 k = v k) ∧ (∀ k, k ∉ ([] : List Nat) → u.2.1 k = F k) ∧ ((r.toInt = 1 ∧ (v 39).toInt + 2 ≤ (u.1 39).toInt ∧ (u.1 39).toInt ≤ (v 30).toInt ∧ (u.1 40).toInt = (v 40).toInt) ∨ (r.toInt = 0 ∧ 0 ≤ (u.1 40).toInt ∧ (v 39).toInt ≤ (u.1 39).toInt ∧ (u.1 39).toInt ≤ (v 30).toInt))) (BM dC dI g c) (AM g sz)) 0 0 (AM g sz) := by
  refine Met.ofW (cc := cX12_takesNumber) (maxL := 1) (ret := (some .boolean)) (by decide) rfl ?_
  intro p e s m args below meth c0 s₁ B hml hv
  obtain ⟨rfl, hsz, hP, hK, hE⟩ := hv
  have hx := B.exec
  have hb := B.bytes
  have hr := B.returns
  have hts := atoms_spec (ws := Cond.code yX12_takesNumber cX12_takesNumber 1 (some .boolean) :: wA) B.pre
  have hwd : ∀ w ∈ wA, w.before _ s = true := fun w h => hts w (List.mem_cons_of_mem _ h)
  have hown : s.vm.findClass RX12 = some m.cls := findClass_of_methodNamed B.named
  have hlocks := B.notSynchronized
  subst hsz
  have hl := lv_entry ([.ref (g 0)]) (n := 1) (Nat.le_of_ble_eq_true rfl)
  rw [lg_entry_eq]
  generalize (lg_sl ([.ref (g 0)]) ++ List.replicate (1 - (lg_sl ([.ref (g 0)])).length) Slot.unset).toArray = ls at hl ⊢
  have hl : lv_has ls 1 [(0, .ref (g 0))] := hl
  obtain ⟨H, eH⟩ : ∃ z, z = s.heap := ⟨_, rfl⟩
  have hP : va_P (dC, dI) classes (wM g c v F rc) H := by rw [eH]; exact hP
  have hS : va_S (AM g s.heap.size) s.heap H [] := by rw [eH]; exact va_S.rf
  refine my_heap eH ?_
  have hF : ∀ k, k ∉ ([] : List Nat) → F k = F k := fun _ _ => rfl
  have hb30 : 0 ≤ (v 30).toInt ∧ (v 30).toInt ≤ 120 := hI.1 30 _ _ rfl
  have hb39 : 0 ≤ (v 39).toInt ∧ (v 39).toInt ≤ 120 := hI.1 39 _ _ rfl
  refine lv_aload_n hx hb dX12_takesNumber_0 rfl (lv_at hl 0 rfl) ?_
  have t10075 : 0 ≤ (v 30).toInt ∧ (v 30).toInt ≤ 120 := hI.1 30 _ _ rfl
  have t10076 : 0 ≤ (v 39).toInt ∧ (v 39).toInt ≤ 120 := hI.1 39 _ _ rfl
  refine va_calli (va_runV (As := []) (rest := []) ⟨hx, hb, hml, hown, hwd⟩ (c_X12_look l dC dI g c adK adV v F rc H.size  hg hI ) (cwV 0 hwd (gV wk_1017 wk_1014 wk_1015 wk_1016 wk_5) rfl rfl rfl (by decide +kernel) ⟨Nat.le_of_ble_eq_true rfl, Nat.le_of_ble_eq_true rfl⟩) ⟨PM.blind, va_recv hK hP (ci := 12) (q0 := 0) rfl rfl, fun U hU hW => ⟨rfl, PM.at hK hE hP hS hU hW⟩⟩ rfl rfl hl.1 rfl (lv_room (Nat.le_of_ble_eq_true rfl)) dX12_takesNumber_1 ⟨Nat.le_of_ble_eq_true rfl, Nat.le_of_ble_eq_true rfl⟩) hS (fun q _ h => (freeM hS) q h) (freeM hS) (fun r10077 u t H1 locs ht hvm hw hB hz1 hk1 hS => ?_)
  unfold BM at hB
  rw [ht] at hB
  have hP : va_P (dC, dI) classes (wM g c v F rc) H1 := hB
  replace hw : r10077.toInt = lkM (v 39) (v 30) (F 24) ∧ ((v 39).toInt < (v 30).toInt ∨ r10077.toInt = -1) := hw
  have hw_r10077 := hw
  clear hw
  clear hz1
  generalize H1 = H at hP hS ⊢
  refine lv_bipush (v := 32) hx hb dX12_takesNumber_4 (by decide) ?_
  refine lv_icmp_eq (tgt := 15) hx hb dX12_takesNumber_6 (by decide) (fun c10078 => ?_) (fun c10078 => ?_)
  · skip
    have t10079 := cv_eq (a := r10077.toInt) rfl (b := 32) (by decide) c10078
    refine lv_aload_n hx hb dX12_takesNumber_15 rfl (lv_at hl 0 rfl) ?_
    refine lv_dup hx hb dX12_takesNumber_16 rfl ?_
    refine va_get (D := (dC, dI)) (ci := 12) (v := .int (v 39)) (C := RX12) (T := TX12) (N := 63) hx hb hwd inA_X12 hown hK hP 0 rfl rfl 39 (by decide) (hwd _ wk_1004) (fun _ h9 => h9) rfl dX12_takesNumber_17 ?_
    have t10080 : 0 ≤ (v 39).toInt ∧ (v 39).toInt ≤ 120 := hI.1 39 _ _ rfl
    refine lv_iconst (v := 1) hx hb dX12_takesNumber_20 (by decide) ?_
    refine lv_iadd hx hb dX12_takesNumber_21 ?_
    refine lv_topi (fun z10081 e10082 => ?_)
    try (have t10083 := tadd e10082 (a := (v 39).toInt) rfl (b := 1) (by decide) (by omega))
    refine va_put (D := (dC, dI)) (ci := 12) (v := .int z10081) (ty := .int) (C := RX12) (T := TX12) (N := 63) (fs := fsM_0 g v rc) hx hb hwd inA_X12 tyX12 tyX12_ok nmX12 hown hK hP (DM hg) hS 0 rfl rfl 39 (by decide) (hwd _ wk_1004) (fun _ h9 => h9) rfl (by decide +kernel) rfl rfl (Nat.le_of_ble_eq_true rfl) dX12_takesNumber_22 (fun H locs hP _ hS => ?_)
    have hP := va_P_eq (pM_39 g c _ _ _ _) hP
    have hI := IM.put hI 39 z10081 rfl (by omega)
    refine lv_aload_n hx hb dX12_takesNumber_25 rfl (lv_at hl 0 rfl) ?_
    have t10084 : 0 ≤ (v 30).toInt ∧ (v 30).toInt ≤ 120 := hI.1 30 _ _ rfl
    have t10085 : 0 ≤ z10081.toInt ∧ z10081.toInt ≤ 120 := hI.1 39 _ _ rfl
    refine va_calli (va_runV (As := []) (rest := []) ⟨hx, hb, hml, hown, hwd⟩ (c_X12_digits l dC dI g c adK adV (va_up v 39 z10081) F rc H.size  hg hI (by have h9 : (va_up v 39 z10081) 39 = z10081 := rfl; (try rw [h9]); clear h9; have h9 : (va_up v 39 z10081) 30 = v 30 := rfl; (try rw [h9]); clear h9; omega)) (cwV 0 hwd (gV wk_1041 wk_1038 wk_1039 wk_1040 wk_5) rfl rfl rfl (by decide +kernel) ⟨Nat.le_of_ble_eq_true rfl, Nat.le_of_ble_eq_true rfl⟩) ⟨PM.blind, va_recv hK hP (ci := 12) (q0 := 0) rfl rfl, fun U hU hW => ⟨rfl, PM.at hK hE hP hS hU hW⟩⟩ rfl rfl hl.1 rfl (lv_room (Nat.le_of_ble_eq_true rfl)) dX12_takesNumber_26 ⟨Nat.le_of_ble_eq_true rfl, Nat.le_of_ble_eq_true rfl⟩) hS (fun q _ h => (freeM hS) q h) (freeM hS) (fun r10086 u t H1 locs ht hvm hw hB hz1 hk1 hS => ?_)
    unfold BM at hB
    rw [ht] at hB
    obtain ⟨v10087, F10088, rc9⟩ := u
    obtain ⟨hI, hrc, hf10089, hG10090, hw⟩ := hw
    dsimp only at hI hrc hB hf10089 hG10090 hw
    have hF := frCF (by decide) hG10090 hF
    rw [hrc] at hB
    have hP : va_P (dC, dI) classes (wM g c v10087 F10088 rc) H1 := hB
    replace hw : (r10086.toInt = 1 ∧ z10081.toInt < (v10087 39).toInt ∧ (v10087 39).toInt ≤ (v 30).toInt ∧ (v10087 40).toInt = (v 40).toInt) ∨ (r10086.toInt = 0 ∧ 0 ≤ (v10087 40).toInt ∧ z10081.toInt ≤ (v10087 39).toInt ∧ (v10087 39).toInt ≤ (v 30).toInt) := hw
    have hw_r10086 := hw
    clear hw
    have t10091 : 0 ≤ (v10087 39).toInt ∧ (v10087 39).toInt ≤ 120 := hI.1 39 _ _ rfl
    clear hz1
    generalize H1 = H at hP hS ⊢
    have hP9 : va_P (dC, dI) classes (wM g c v10087 F10088 rc) H := hP
    exact W.zret (v := r10086) hx hb hr (narB (by omega)) (fun t ht hW => ⟨⟨r10086, (v10087, F10088, rc), rfl, ⟨hI, rfl, (frC (by decide) hf10089 (frU (by decide) (fun _ _ => rfl))), hF, (by show (r10086.toInt = 1 ∧ (v 39).toInt + 2 ≤ (v10087 39).toInt ∧ (v10087 39).toInt ≤ (v 30).toInt ∧ (v10087 40).toInt = (v 40).toInt) ∨ (r10086.toInt = 0 ∧ 0 ≤ (v10087 40).toInt ∧ (v 39).toInt ≤ (v10087 39).toInt ∧ (v10087 39).toInt ≤ (v 30).toInt); omega)⟩, (by show va_P _ _ _ t.heap; rw [ht]; exact hP9)⟩, hS.F ht⟩) hS.2.2 dX12_takesNumber_29
  · skip
    have t10092 := cv_ne (a := r10077.toInt) rfl (b := 32) (by decide) c10078
    refine lv_aload_n hx hb dX12_takesNumber_9 rfl (lv_at hl 0 rfl) ?_
    refine va_callv (va_runV (As := []) (rest := []) ⟨hx, hb, hml, hown, hwd⟩ (c_X12_wrong l dC dI g c adK adV v F rc H.size  hg hI ) (cwV 0 hwd (gV wk_1029 wk_1026 wk_1027 wk_1028 wk_5) rfl rfl rfl (by decide +kernel) ⟨Nat.le_of_ble_eq_true rfl, Nat.le_of_ble_eq_true rfl⟩) ⟨PM.blind, va_recv hK hP (ci := 12) (q0 := 0) rfl rfl, fun U hU hW => ⟨rfl, PM.at hK hE hP hS hU hW⟩⟩ rfl rfl hl.1 rfl (lv_room (Nat.le_of_ble_eq_true rfl)) dX12_takesNumber_10 ⟨Nat.le_of_ble_eq_true rfl, Nat.le_of_ble_eq_true rfl⟩) hS (fun q _ h => (freeM hS) q h) (freeM hS) (fun u t H1 locs ht hvm hw hB hz1 hk1 hS => ?_)
    unfold BM at hB
    rw [ht] at hB
    obtain ⟨v10094, F10095, rc9⟩ := u
    obtain ⟨hI, hrc, hf10096, hG10097, hw⟩ := hw
    dsimp only at hI hrc hB hf10096 hG10097 hw
    have hF := frCF (by decide) hG10097 hF
    rw [hrc] at hB
    have hP : va_P (dC, dI) classes (wM g c v10094 F10095 rc) H1 := hB
    replace hw : 0 ≤ (v10094 40).toInt := hw
    have hw_r10093 := hw
    clear hw
    clear hz1
    generalize H1 = H at hP hS ⊢
    refine lv_iconst (v := 0) hx hb dX12_takesNumber_13 (by decide) ?_
    have hP9 : va_P (dC, dI) classes (wM g c v10094 F10095 rc) H := hP
    exact W.zret (v := 0) hx hb hr (rfl) (fun t ht hW => ⟨⟨0, (v10094, F10095, rc), rfl, ⟨hI, rfl, (frC (by decide) hf10096 (fun _ _ => rfl)), hF, (by show ((0 : Int32).toInt = 1 ∧ (v 39).toInt + 2 ≤ (v10094 39).toInt ∧ (v10094 39).toInt ≤ (v 30).toInt ∧ (v10094 40).toInt = (v 40).toInt) ∨ ((0 : Int32).toInt = 0 ∧ 0 ≤ (v10094 40).toInt ∧ (v 39).toInt ≤ (v10094 39).toInt ∧ (v10094 39).toInt ≤ (v 30).toInt); rw [show v10094 39 = v 39 from hf10096 39 (by decide)]; have : (0 : Int32).toInt = 0 := (by decide); omega)⟩, (by show va_P _ _ _ t.heap; rw [ht]; exact hP9)⟩, hS.F ht⟩) hS.2.2 dX12_takesNumber_14
set_option maxHeartbeats 8000000 in
set_option maxRecDepth 100000 in
theorem c_X12_readLine (l : Launch) (dC : Nat → ClassId) (dI : Nat → Nat → Nat) (g : Nat → Nat) (c : Nat → ClassId) (adK adV : Nat → Nat) (v : Nat → Int32) (F : Nat → Nat → Int32) (rc sz : Nat) (hg : injM g) (hI : IM v F) (hq : 4 * (F 37 (10 : Int32).toNatClampNeg).toInt ≤ (v 39).toInt ∧ (v 39).toInt ≤ (v 30).toInt) : Met l yX12_readLine (Cond.code yX12_readLine cX12_readLine 6 none :: wA) ({ frames := 4, cells := 0, slots := 0, locals := 160 }) (va_Pc [.ref (g 0), .int 10] (PM dC dI g c adK adV v F rc sz)) (va_Qv (fun (u : StM) => IM u.1 u.2.1 ∧ u.2.2 = rc ∧ (∀ k, k ∉ ([39, 40, 42] : List Nat) → u.1 k = v k) ∧ (∀ k, k ∉ ([37, 38, 39, 40, 41] : List Nat) → u.2.1 k = F k) ∧ (4 * (u.2.1 37 (10 : Int32).toNatClampNeg).toInt ≤ (u.1 39).toInt ∧ (u.1 39).toInt ≤ (v 30).toInt ∧ (v 39).toInt ≤ (u.1 39).toInt ∧ ((u.1 40).toInt < 0 → (v 39).toInt < (u.1 39).toInt))) (BM dC dI g c) (AM g sz)) 0 0 (AM g sz) := by
  refine Met.ofW (cc := cX12_readLine) (maxL := 6) (ret := none) (by decide) rfl ?_
  intro p e s m args below meth c0 s₁ B hml hv
  obtain ⟨rfl, hsz, hP, hK, hE⟩ := hv
  have hx := B.exec
  have hb := B.bytes
  have hr := B.returns
  have hts := atoms_spec (ws := Cond.code yX12_readLine cX12_readLine 6 none :: wA) B.pre
  have hwd : ∀ w ∈ wA, w.before _ s = true := fun w h => hts w (List.mem_cons_of_mem _ h)
  have hown : s.vm.findClass RX12 = some m.cls := findClass_of_methodNamed B.named
  have hlocks := B.notSynchronized
  subst hsz
  have hl := lv_entry ([.ref (g 0), .int 10]) (n := 6) (Nat.le_of_ble_eq_true rfl)
  rw [lg_entry_eq]
  generalize (lg_sl ([.ref (g 0), .int 10]) ++ List.replicate (6 - (lg_sl ([.ref (g 0), .int 10])).length) Slot.unset).toArray = ls at hl ⊢
  have hl : lv_has ls 6 [(0, .ref (g 0)), (1, .int 10)] := hl
  obtain ⟨H, eH⟩ : ∃ z, z = s.heap := ⟨_, rfl⟩
  have hP : va_P (dC, dI) classes (wM g c v F rc) H := by rw [eH]; exact hP
  have hS : va_S (AM g s.heap.size) s.heap H [] := by rw [eH]; exact va_S.rf
  refine my_heap eH ?_
  have hF : ∀ k, k ∉ ([37, 38, 39, 40, 41] : List Nat) → F k = F k := fun _ _ => rfl
  have hb30 : 0 ≤ (v 30).toInt ∧ (v 30).toInt ≤ 120 := hI.1 30 _ _ rfl
  have hb39 : 0 ≤ (v 39).toInt ∧ (v 39).toInt ≤ 120 := hI.1 39 _ _ rfl
  refine lv_aload_n hx hb dX12_readLine_0 rfl (lv_at hl 0 rfl) ?_
  have t10189 : 0 ≤ (v 30).toInt ∧ (v 30).toInt ≤ 120 := hI.1 30 _ _ rfl
  have t10190 : 0 ≤ (v 39).toInt ∧ (v 39).toInt ≤ 120 := hI.1 39 _ _ rfl
  refine va_calli (va_runV (As := []) (rest := []) ⟨hx, hb, hml, hown, hwd⟩ (c_X12_look l dC dI g c adK adV v F rc H.size  hg hI ) (cwV 0 hwd (gV wk_1017 wk_1014 wk_1015 wk_1016 wk_5) rfl rfl rfl (by decide +kernel) ⟨Nat.le_of_ble_eq_true rfl, Nat.le_of_ble_eq_true rfl⟩) ⟨PM.blind, va_recv hK hP (ci := 12) (q0 := 0) rfl rfl, fun U hU hW => ⟨rfl, PM.at hK hE hP hS hU hW⟩⟩ rfl rfl hl.1 rfl (lv_room (Nat.le_of_ble_eq_true rfl)) dX12_readLine_1 ⟨Nat.le_of_ble_eq_true rfl, Nat.le_of_ble_eq_true rfl⟩) hS (fun q _ h => (freeM hS) q h) (freeM hS) (fun r10191 u t H1 locs ht hvm hw hB hz1 hk1 hS => ?_)
  unfold BM at hB
  rw [ht] at hB
  have hP : va_P (dC, dI) classes (wM g c v F rc) H1 := hB
  replace hw : r10191.toInt = lkM (v 39) (v 30) (F 24) ∧ ((v 39).toInt < (v 30).toInt ∨ r10191.toInt = -1) := hw
  have hw_r10191 := hw
  clear hw
  clear hz1
  generalize H1 = H at hP hS ⊢
  refine lv_istore_n (lv' := [(2, .int r10191), (0, .ref (g 0)), (1, .int 10)]) hx hb dX12_readLine_4 rfl hl (by decide) rfl (fun ls hl => ?_)
  refine lv_iload_n hx hb dX12_readLine_5 rfl (lv_at hl 0 rfl) ?_
  refine va_calli (va_runS (As := [.int r10191]) (rest := []) ⟨hx, hb, hml, hown, hwd⟩ (c_X12_numbersOf l dC dI g c adK adV v F rc H.size r10191 hg hI ) (va_cwS 1 hwd (gT wk_1134 wk_1132 wk_1133 wk_5) rfl rfl rfl (by decide +kernel) ⟨Nat.le_of_ble_eq_true rfl, Nat.le_of_ble_eq_true rfl⟩) ⟨PM.blind, fun U hU hW => ⟨rfl, PM.at hK hE hP hS hU hW⟩⟩ rfl rfl hl.1 rfl (lv_room (Nat.le_of_ble_eq_true rfl)) dX12_readLine_6 ⟨Nat.le_of_ble_eq_true rfl, Nat.le_of_ble_eq_true rfl⟩) hS (fun q _ h => (freeM hS) q h) (freeM hS) (fun r10192 u t H1 locs ht hvm hw hB hz1 hk1 hS => ?_)
  unfold BM at hB
  rw [ht] at hB
  have hP : va_P (dC, dI) classes (wM g c v F rc) H1 := hB
  have hw_r10192 : (0 ≤ r10192.toInt ∧ r10192.toInt ≤ 3) ∧ (r10192.toInt = 0 ∨ 100 ≤ r10191.toInt) := hw
  clear hw
  clear hz1
  generalize H1 = H at hP hS ⊢
  refine lv_istore_n (lv' := [(3, .int r10192), (2, .int r10191), (0, .ref (g 0)), (1, .int 10)]) hx hb dX12_readLine_9 rfl hl (by decide) rfl (fun ls hl => ?_)
  refine lv_iload_n hx hb dX12_readLine_10 rfl (lv_at hl 0 rfl) ?_
  refine lv_if_ne (tgt := 19) hx hb dX12_readLine_11 (by decide) (fun c10193 => ?_) (fun c10193 => ?_)
  · skip
    have t10194 := cv_ne (a := r10192.toInt) rfl (b := 0) (by decide) c10193
    refine lv_aload_n hx hb dX12_readLine_19 rfl (lv_at hl 2 rfl) ?_
    refine lv_dup hx hb dX12_readLine_20 rfl ?_
    refine va_get (D := (dC, dI)) (ci := 12) (v := .int (v 39)) (C := RX12) (T := TX12) (N := 63) hx hb hwd inA_X12 hown hK hP 0 rfl rfl 39 (by decide) (hwd _ wk_1004) (fun _ h9 => h9) rfl dX12_readLine_21 ?_
    have t10195 : 0 ≤ (v 39).toInt ∧ (v 39).toInt ≤ 120 := hI.1 39 _ _ rfl
    refine lv_iconst (v := 1) hx hb dX12_readLine_24 (by decide) ?_
    refine lv_iadd hx hb dX12_readLine_25 ?_
    refine lv_topi (fun z10196 e10197 => ?_)
    try (have t10198 := tadd e10197 (a := (v 39).toInt) rfl (b := 1) (by decide) (by omega))
    refine va_put (D := (dC, dI)) (ci := 12) (v := .int z10196) (ty := .int) (C := RX12) (T := TX12) (N := 63) (fs := fsM_0 g v rc) hx hb hwd inA_X12 tyX12 tyX12_ok nmX12 hown hK hP (DM hg) hS 0 rfl rfl 39 (by decide) (hwd _ wk_1004) (fun _ h9 => h9) rfl (by decide +kernel) rfl rfl (Nat.le_of_ble_eq_true rfl) dX12_readLine_26 (fun H locs hP _ hS => ?_)
    have hP := va_P_eq (pM_39 g c _ _ _ _) hP
    have hI := IM.put hI 39 z10196 rfl (by omega)
    refine lv_bipush (v := 32) hx hb dX12_readLine_29 (by decide) ?_
    refine lv_iload_n hx hb dX12_readLine_31 rfl (lv_at hl 3 rfl) ?_
    refine lv_imul hx hb dX12_readLine_32 ?_
    refine my_top (v := 320) (by decide) ?_
    refine lv_aload_n hx hb dX12_readLine_33 rfl (lv_at hl 2 rfl) ?_
    refine va_get (D := (dC, dI)) (ci := 12) (v := .ref (g 37)) (C := RX12) (T := TX12) (N := 63) hx hb hwd inA_X12 hown hK hP 0 rfl rfl 51 (by decide) (hwd _ wk_219) (fun _ h9 => h9) rfl dX12_readLine_34 ?_
    refine lv_iload_n hx hb dX12_readLine_37 rfl (lv_at hl 3 rfl) ?_
    refine va_iald hx hb hK hP 37 36 rfl rfl (i := 10) (vin (a := 10) (by decide) (by omega)) dX12_readLine_38 ?_
    refine lv_topi (fun z10199 e10200 => ?_)
    have t10201 : 0 ≤ z10199.toInt ∧ z10199.toInt ≤ 31 := by rw [e10200]; exact hI.2 37 _ _ rfl _
    have tzz10199 : z10199.toInt = (F 37 (10 : Int32).toNatClampNeg).toInt := congrArg Int32.toInt e10200
    refine lv_iadd hx hb dX12_readLine_39 ?_
    refine lv_topi (fun z10202 e10203 => ?_)
    try (have t10204 := tadd e10203 (a := 320) (by decide) (b := z10199.toInt) rfl (by omega))
    refine lv_istore (lv' := [(4, .int z10202), (3, .int r10192), (2, .int r10191), (0, .ref (g 0)), (1, .int 10)]) hx hb dX12_readLine_40 hl (by decide) rfl (fun ls hl => ?_)
    refine lv_aload_n hx hb dX12_readLine_42 rfl (lv_at hl 3 rfl) ?_
    refine va_get (D := (dC, dI)) (ci := 12) (v := .ref (g 38)) (C := RX12) (T := TX12) (N := 63) hx hb hwd inA_X12 hown hK hP 0 rfl rfl 52 (by decide) (hwd _ wk_220) (fun _ h9 => h9) rfl dX12_readLine_43 ?_
    refine lv_iload hx hb dX12_readLine_46 (lv_at hl 0 rfl) ?_
    refine lv_iload_n hx hb dX12_readLine_48 rfl (lv_at hl 2 rfl) ?_
    refine va_iast hx hb hK hP (DM hg) hS 38 37 rfl rfl (i := z10202) (x := r10191) (vin (a := z10202.toInt) rfl (by omega)) dX12_readLine_49 (fun H locs hP _ hS => ?_)
    have hP := va_P_eq (sM_38 g c _ _ _ _) hP
    have hI := IM.store0 hI 38 (z10202 : Int32).toNatClampNeg r10191 rfl
    have hF := frUF (k := 38) (f := upd (F 38) (z10202 : Int32).toNatClampNeg r10191) (by decide) hF
    have st10206 : (va_up F 38 (upd (F 38) (z10202 : Int32).toNatClampNeg r10191)) 38 = upd (F 38) (z10202 : Int32).toNatClampNeg r10191 := va_up_self _ _ _
    have sn10207 : ∀ k9, k9 ≠ 38 → (va_up F 38 (upd (F 38) (z10202 : Int32).toNatClampNeg r10191)) k9 = F k9 := fun k9 h9 => va_up_ne _ _ h9
    have hP : va_P (dC, dI) classes (wM g c (va_up v 39 z10196) (va_up F 38 (upd (F 38) (z10202 : Int32).toNatClampNeg r10191)) rc) H := hP
    generalize (va_up F 38 (upd (F 38) (z10202 : Int32).toNatClampNeg r10191)) = F10205 at hP hI hF st10206 sn10207
    refine lv_iconst (v := 0) hx hb dX12_readLine_50 (by decide) ?_
    refine lv_istore (lv' := [(5, .int 0), (4, .int z10202), (3, .int r10192), (2, .int r10191), (0, .ref (g 0)), (1, .int 10)]) hx hb dX12_readLine_51 hl (by decide) rfl (fun ls hl => ?_)
    have lp10208 : ∀ (n : Nat) (x5_lp10208 : Int32) (v_lp10208 : Nat → Int32) (F_lp10208 : Nat → Nat → Int32) (H : Heap) (locs : List Loc) (ls : Array Slot), (0 ≤ x5_lp10208.toInt) → ((v 39).toInt + 1 + 2 * x5_lp10208.toInt ≤ (v_lp10208 39).toInt ∧ (v_lp10208 39).toInt ≤ (v 30).toInt) → ((F_lp10208 37 (10 : Int32).toNatClampNeg).toInt = (F 37 (10 : Int32).toNatClampNeg).toInt) → (2147483648 - x5_lp10208.toInt ≤ (n : Int)) → (∀ k, k ∉ ([39, 40, 42] : List Nat) → v_lp10208 k = (va_up v 39 z10196) k) → IM v_lp10208 F_lp10208 → (∀ k, k ∉ ([37, 38, 39, 40, 41] : List Nat) → F_lp10208 k = F k) → va_P (dC, dI) classes (wM g c v_lp10208 F_lp10208 rc) H → va_S (AM g s.heap.size) s.heap H locs → lv_has ls 6 [(5, .int x5_lp10208), (4, .int z10202), (3, .int r10192), (2, .int r10191), (0, .ref (g 0)), (1, .int 10)] → W p l e (headSpec (Cond.code yX12_readLine cX12_readLine 6 none :: wA) ({ frames := 4, cells := 0, slots := 0, locals := 160 })).room s m ([.ref (g 0), .int 10] : List Value).toArray below meth c0 H locs 0 0 (MQ below (va_Qv (fun (u : StM) => IM u.1 u.2.1 ∧ u.2.2 = rc ∧ (∀ k, k ∉ ([39, 40, 42] : List Nat) → u.1 k = v k) ∧ (∀ k, k ∉ ([37, 38, 39, 40, 41] : List Nat) → u.2.1 k = F k) ∧ (4 * (u.2.1 37 (10 : Int32).toNatClampNeg).toInt ≤ (u.1 39).toInt ∧ (u.1 39).toInt ≤ (v 30).toInt ∧ (v 39).toInt ≤ (u.1 39).toInt ∧ ((u.1 40).toInt < 0 → (v 39).toInt < (u.1 39).toInt))) (BM dC dI g c) (AM g s.heap.size)) ([.ref (g 0), .int 10] : List Value).toArray s 0 0 (AM g s.heap.size)) (F0 m 53 ls []) := by
      intro n
      induction n with
      | zero =>
        intro x5_lp10208 v_lp10208 F_lp10208 H locs ls t10209 t10210 t10211 hm hf_lp10208 hI hF hP hS hl
        exfalso
        have := i32_rng x5_lp10208
        have hI1 := hI.1
        omega
      | succ n ih_lp10208 =>
        intro x5_lp10208 v_lp10208 F_lp10208 H locs ls t10209 t10210 t10211 hm hf_lp10208 hI hF hP hS hl
        have rx5_lp10208 := i32_rng x5_lp10208
        refine lv_iload hx hb dX12_readLine_53 (lv_at hl 0 rfl) ?_
        refine lv_iload_n hx hb dX12_readLine_55 rfl (lv_at hl 2 rfl) ?_
        refine lv_icmp_ge (tgt := 123) hx hb dX12_readLine_56 (by decide) (fun c10212 => ?_) (fun c10212 => ?_)
        · skip
          have t10213 := cv_le (a := r10192.toInt) rfl (b := x5_lp10208.toInt) rfl c10212
          refine lv_aload_n hx hb dX12_readLine_123 rfl (lv_at hl 4 rfl) ?_
          have t10214 : 0 ≤ (v 30).toInt ∧ (v 30).toInt ≤ 120 := by have h9 := hI.1 30 _ _ rfl; rw [show v_lp10208 30 = v 30 from hf_lp10208 30 (by decide)] at h9; exact h9
          have t10215 : 0 ≤ (v_lp10208 39).toInt ∧ (v_lp10208 39).toInt ≤ 120 := hI.1 39 _ _ rfl
          refine va_calli (va_runV (As := []) (rest := []) ⟨hx, hb, hml, hown, hwd⟩ (c_X12_look l dC dI g c adK adV v_lp10208 F_lp10208 rc H.size  hg hI ) (cwV 0 hwd (gV wk_1017 wk_1014 wk_1015 wk_1016 wk_5) rfl rfl rfl (by decide +kernel) ⟨Nat.le_of_ble_eq_true rfl, Nat.le_of_ble_eq_true rfl⟩) ⟨PM.blind, va_recv hK hP (ci := 12) (q0 := 0) rfl rfl, fun U hU hW => ⟨rfl, PM.at hK hE hP hS hU hW⟩⟩ rfl rfl hl.1 rfl (lv_room (Nat.le_of_ble_eq_true rfl)) dX12_readLine_124 ⟨Nat.le_of_ble_eq_true rfl, Nat.le_of_ble_eq_true rfl⟩) hS (fun q _ h => (freeM hS) q h) (freeM hS) (fun r10216 u t H1 locs ht hvm hw hB hz1 hk1 hS => ?_)
          unfold BM at hB
          rw [ht] at hB
          have hP : va_P (dC, dI) classes (wM g c v_lp10208 F_lp10208 rc) H1 := hB
          replace hw : r10216.toInt = lkM (v_lp10208 39) (v_lp10208 30) (F_lp10208 24) ∧ ((v_lp10208 39).toInt < (v_lp10208 30).toInt ∨ r10216.toInt = -1) := hw
          rw [show v_lp10208 30 = v 30 from hf_lp10208 30 (by decide)] at hw
          rw [hF 24 (by decide)] at hw
          have hw_r10216 := hw
          clear hw
          clear hz1
          generalize H1 = H at hP hS ⊢
          refine lv_bipush (v := 59) hx hb dX12_readLine_127 (by decide) ?_
          refine lv_icmp_eq (tgt := 137) hx hb dX12_readLine_129 (by decide) (fun c10217 => ?_) (fun c10217 => ?_)
          · skip
            have t10218 := cv_eq (a := r10216.toInt) rfl (b := 59) (by decide) c10217
            refine lv_aload_n hx hb dX12_readLine_137 rfl (lv_at hl 4 rfl) ?_
            refine lv_dup hx hb dX12_readLine_138 rfl ?_
            refine va_get (D := (dC, dI)) (ci := 12) (v := .int (v_lp10208 39)) (C := RX12) (T := TX12) (N := 63) hx hb hwd inA_X12 hown hK hP 0 rfl rfl 39 (by decide) (hwd _ wk_1004) (fun _ h9 => h9) rfl dX12_readLine_139 ?_
            have t10219 : 0 ≤ (v_lp10208 39).toInt ∧ (v_lp10208 39).toInt ≤ 120 := hI.1 39 _ _ rfl
            refine lv_iconst (v := 1) hx hb dX12_readLine_142 (by decide) ?_
            refine lv_iadd hx hb dX12_readLine_143 ?_
            refine lv_topi (fun z10220 e10221 => ?_)
            try (have t10222 := tadd e10221 (a := (v_lp10208 39).toInt) rfl (b := 1) (by decide) (by omega))
            refine va_put (D := (dC, dI)) (ci := 12) (v := .int z10220) (ty := .int) (C := RX12) (T := TX12) (N := 63) (fs := fsM_0 g v_lp10208 rc) hx hb hwd inA_X12 tyX12 tyX12_ok nmX12 hown hK hP (DM hg) hS 0 rfl rfl 39 (by decide) (hwd _ wk_1004) (fun _ h9 => h9) rfl (by decide +kernel) rfl rfl (Nat.le_of_ble_eq_true rfl) dX12_readLine_144 (fun H locs hP _ hS => ?_)
            have hP := va_P_eq (pM_39 g c _ _ _ _) hP
            have hI := IM.put hI 39 z10220 rfl (by omega)
            refine lv_aload_n hx hb dX12_readLine_147 rfl (lv_at hl 4 rfl) ?_
            refine va_get (D := (dC, dI)) (ci := 12) (v := .ref (g 37)) (C := RX12) (T := TX12) (N := 63) hx hb hwd inA_X12 hown hK hP 0 rfl rfl 51 (by decide) (hwd _ wk_219) (fun _ h9 => h9) rfl dX12_readLine_148 ?_
            refine lv_iload_n hx hb dX12_readLine_151 rfl (lv_at hl 5 rfl) ?_
            refine lv_dup2_11 hx hb dX12_readLine_152 rfl rfl ?_
            refine va_iald hx hb hK hP 37 36 rfl rfl (i := 10) (vin (a := 10) (by decide) (by omega)) dX12_readLine_153 ?_
            refine lv_topi (fun z10223 e10224 => ?_)
            have t10225 : 0 ≤ z10223.toInt ∧ z10223.toInt ≤ 31 := by rw [e10224]; exact hI.2 37 _ _ rfl _
            have tzz10223 : z10223.toInt = (F_lp10208 37 (10 : Int32).toNatClampNeg).toInt := congrArg Int32.toInt e10224
            refine lv_iconst (v := 1) hx hb dX12_readLine_154 (by decide) ?_
            refine lv_iadd hx hb dX12_readLine_155 ?_
            refine lv_topi (fun z10226 e10227 => ?_)
            try (have t10228 := tadd e10227 (a := z10223.toInt) rfl (b := 1) (by decide) (by omega))
            refine va_iast hx hb hK hP (DM hg) hS 37 36 rfl rfl (i := 10) (x := z10226) (vin (a := 10) (by decide) (by omega)) dX12_readLine_156 (fun H locs hP _ hS => ?_)
            have hP := va_P_eq (sM_37 g c _ _ _ _) hP
            have hI := IM.store hI 37 (10 : Int32).toNatClampNeg z10226 rfl (by omega)
            have hF := frUF (k := 37) (f := upd (F_lp10208 37) (10 : Int32).toNatClampNeg z10226) (by decide) hF
            have st10230 : (va_up F_lp10208 37 (upd (F_lp10208 37) (10 : Int32).toNatClampNeg z10226)) 37 = upd (F_lp10208 37) (10 : Int32).toNatClampNeg z10226 := va_up_self _ _ _
            have sn10231 : ∀ k9, k9 ≠ 37 → (va_up F_lp10208 37 (upd (F_lp10208 37) (10 : Int32).toNatClampNeg z10226)) k9 = F_lp10208 k9 := fun k9 h9 => va_up_ne _ _ h9
            have hP : va_P (dC, dI) classes (wM g c (va_up v_lp10208 39 z10220) (va_up F_lp10208 37 (upd (F_lp10208 37) (10 : Int32).toNatClampNeg z10226)) rc) H := hP
            generalize (va_up F_lp10208 37 (upd (F_lp10208 37) (10 : Int32).toNatClampNeg z10226)) = F10229 at hP hI hF st10230 sn10231
            have hP9 : va_P (dC, dI) classes (wM g c (va_up v_lp10208 39 z10220) F10229 rc) H := hP
            exact W.vret hx hb hr (fun t ht hW => ⟨⟨((va_up v_lp10208 39 z10220), F10229, rc), rfl, ⟨hI, rfl, (frU (by decide) (frC (by decide) hf_lp10208 (frU (by decide) (fun _ _ => rfl)))), hF, (by show 4 * (F10229 37 (10 : Int32).toNatClampNeg).toInt ≤ z10220.toInt ∧ z10220.toInt ≤ (v 30).toInt ∧ (v 39).toInt ≤ z10220.toInt ∧ ((v_lp10208 40).toInt < 0 → (v 39).toInt < z10220.toInt); have b9 := t10211; have l9 : (F10229 37 (10 : Int32).toNatClampNeg).toInt = (z10226 : Int32).toInt := congrArg Int32.toInt ((congrFun st10230 _).trans (mu_at _ _ _)); omega)⟩, (by show va_P _ _ _ t.heap; rw [ht]; exact hP9)⟩, hS.F ht⟩) hS.2.2 dX12_readLine_157
          · skip
            have t10232 := cv_ne (a := r10216.toInt) rfl (b := 59) (by decide) c10217
            refine lv_aload_n hx hb dX12_readLine_132 rfl (lv_at hl 4 rfl) ?_
            refine va_callv (va_runV (As := []) (rest := []) ⟨hx, hb, hml, hown, hwd⟩ (c_X12_wrong l dC dI g c adK adV v_lp10208 F_lp10208 rc H.size  hg hI ) (cwV 0 hwd (gV wk_1029 wk_1026 wk_1027 wk_1028 wk_5) rfl rfl rfl (by decide +kernel) ⟨Nat.le_of_ble_eq_true rfl, Nat.le_of_ble_eq_true rfl⟩) ⟨PM.blind, va_recv hK hP (ci := 12) (q0 := 0) rfl rfl, fun U hU hW => ⟨rfl, PM.at hK hE hP hS hU hW⟩⟩ rfl rfl hl.1 rfl (lv_room (Nat.le_of_ble_eq_true rfl)) dX12_readLine_133 ⟨Nat.le_of_ble_eq_true rfl, Nat.le_of_ble_eq_true rfl⟩) hS (fun q _ h => (freeM hS) q h) (freeM hS) (fun u t H1 locs ht hvm hw hB hz1 hk1 hS => ?_)
            unfold BM at hB
            rw [ht] at hB
            obtain ⟨v10234, F10235, rc9⟩ := u
            obtain ⟨hI, hrc, hf10236, hG10237, hw⟩ := hw
            dsimp only at hI hrc hB hf10236 hG10237 hw
            have hF := frCF (by decide) hG10237 hF
            rw [hrc] at hB
            have hP : va_P (dC, dI) classes (wM g c v10234 F10235 rc) H1 := hB
            replace hw : 0 ≤ (v10234 40).toInt := hw
            have hw_r10233 := hw
            clear hw
            clear hz1
            generalize H1 = H at hP hS ⊢
            have hP9 : va_P (dC, dI) classes (wM g c v10234 F10235 rc) H := hP
            exact W.vret hx hb hr (fun t ht hW => ⟨⟨(v10234, F10235, rc), rfl, ⟨hI, rfl, (frC (by decide) hf10236 (frC (by decide) hf_lp10208 (frU (by decide) (fun _ _ => rfl)))), hF, (by show 4 * (F10235 37 (10 : Int32).toNatClampNeg).toInt ≤ (v10234 39).toInt ∧ (v10234 39).toInt ≤ (v 30).toInt ∧ (v 39).toInt ≤ (v10234 39).toInt ∧ ((v10234 40).toInt < 0 → (v 39).toInt < (v10234 39).toInt); rw [show v10234 39 = v_lp10208 39 from hf10236 39 (by decide)]; have b9 := t10211; have l9 : (F10235 37 (10 : Int32).toNatClampNeg).toInt = (F_lp10208 37 (10 : Int32).toNatClampNeg).toInt := congrArg Int32.toInt (congrFun (hG10237 37 (by decide)) _); omega)⟩, (by show va_P _ _ _ t.heap; rw [ht]; exact hP9)⟩, hS.F ht⟩) hS.2.2 dX12_readLine_136
        · skip
          have t10238 := cv_nle (a := r10192.toInt) rfl (b := x5_lp10208.toInt) rfl c10212
          refine lv_aload_n hx hb dX12_readLine_59 rfl (lv_at hl 4 rfl) ?_
          have t10239 : 0 ≤ (v 30).toInt ∧ (v 30).toInt ≤ 120 := by have h9 := hI.1 30 _ _ rfl; rw [show v_lp10208 30 = v 30 from hf_lp10208 30 (by decide)] at h9; exact h9
          have t10240 : 0 ≤ (v_lp10208 39).toInt ∧ (v_lp10208 39).toInt ≤ 120 := hI.1 39 _ _ rfl
          refine va_calli (va_runV (As := []) (rest := []) ⟨hx, hb, hml, hown, hwd⟩ (c_X12_takesNumber l dC dI g c adK adV v_lp10208 F_lp10208 rc H.size  hg hI (by have h9 : v_lp10208 39 = v_lp10208 39 := rfl; (try rw [h9]); clear h9; have h9 : v_lp10208 30 = v 30 := hf_lp10208 30 (by decide); (try rw [h9]); clear h9; omega)) (cwV 0 hwd (gV wk_1138 wk_1135 wk_1136 wk_1137 wk_5) rfl rfl rfl (by decide +kernel) ⟨Nat.le_of_ble_eq_true rfl, Nat.le_of_ble_eq_true rfl⟩) ⟨PM.blind, va_recv hK hP (ci := 12) (q0 := 0) rfl rfl, fun U hU hW => ⟨rfl, PM.at hK hE hP hS hU hW⟩⟩ rfl rfl hl.1 rfl (lv_room (Nat.le_of_ble_eq_true rfl)) dX12_readLine_60 ⟨Nat.le_of_ble_eq_true rfl, Nat.le_of_ble_eq_true rfl⟩) hS (fun q _ h => (freeM hS) q h) (freeM hS) (fun r10241 u t H1 locs ht hvm hw hB hz1 hk1 hS => ?_)
          unfold BM at hB
          rw [ht] at hB
          obtain ⟨v10242, F10243, rc9⟩ := u
          obtain ⟨hI, hrc, hf10244, hG10245, hw⟩ := hw
          dsimp only at hI hrc hB hf10244 hG10245 hw
          have hF := frCF (by decide) hG10245 hF
          rw [hrc] at hB
          have hP : va_P (dC, dI) classes (wM g c v10242 F10243 rc) H1 := hB
          replace hw : (r10241.toInt = 1 ∧ (v_lp10208 39).toInt + 2 ≤ (v10242 39).toInt ∧ (v10242 39).toInt ≤ (v_lp10208 30).toInt ∧ (v10242 40).toInt = (v_lp10208 40).toInt) ∨ (r10241.toInt = 0 ∧ 0 ≤ (v10242 40).toInt ∧ (v_lp10208 39).toInt ≤ (v10242 39).toInt ∧ (v10242 39).toInt ≤ (v_lp10208 30).toInt) := hw
          rw [show v_lp10208 30 = v 30 from hf_lp10208 30 (by decide)] at hw
          have hw_r10241 := hw
          clear hw
          have t10246 : 0 ≤ (v10242 39).toInt ∧ (v10242 39).toInt ≤ 120 := hI.1 39 _ _ rfl
          clear hz1
          generalize H1 = H at hP hS ⊢
          refine lv_if_ne (tgt := 67) hx hb dX12_readLine_63 (by decide) (fun c10247 => ?_) (fun c10247 => ?_)
          · skip
            have t10248 := cv_ne (a := r10241.toInt) rfl (b := 0) (by decide) c10247
            refine lv_iload hx hb dX12_readLine_67 (lv_at hl 0 rfl) ?_
            refine lv_if_ne (tgt := 86) hx hb dX12_readLine_69 (by decide) (fun c10249 => ?_) (fun c10249 => ?_)
            · skip
              have t10250 := cv_ne (a := x5_lp10208.toInt) rfl (b := 0) (by decide) c10249
              refine lv_iload hx hb dX12_readLine_86 (lv_at hl 0 rfl) ?_
              refine lv_iconst (v := 1) hx hb dX12_readLine_88 (by decide) ?_
              refine lv_icmp_ne (tgt := 106) hx hb dX12_readLine_89 (by decide) (fun c10251 => ?_) (fun c10251 => ?_)
              · skip
                have t10252 := cv_ne (a := x5_lp10208.toInt) rfl (b := 1) (by decide) c10251
                refine lv_aload_n hx hb dX12_readLine_106 rfl (lv_at hl 4 rfl) ?_
                refine va_get (D := (dC, dI)) (ci := 12) (v := .ref (g 41)) (C := RX12) (T := TX12) (N := 63) hx hb hwd inA_X12 hown hK hP 0 rfl rfl 55 (by decide) (hwd _ wk_223) (fun _ h9 => h9) rfl dX12_readLine_107 ?_
                refine lv_iload hx hb dX12_readLine_110 (lv_at hl 1 rfl) ?_
                refine lv_aload_n hx hb dX12_readLine_112 rfl (lv_at hl 4 rfl) ?_
                refine va_get (D := (dC, dI)) (ci := 12) (v := .int (v10242 42)) (C := RX12) (T := TX12) (N := 63) hx hb hwd inA_X12 hown hK hP 0 rfl rfl 42 (by decide) (hwd _ wk_1031) (fun _ h9 => h9) rfl dX12_readLine_113 ?_
                refine va_iast hx hb hK hP (DM hg) hS 41 40 rfl rfl (i := z10202) (x := (v10242 42)) (vin (a := z10202.toInt) rfl (by omega)) dX12_readLine_116 (fun H locs hP _ hS => ?_)
                have hP := va_P_eq (sM_41 g c _ _ _ _) hP
                have hI := IM.store0 hI 41 (z10202 : Int32).toNatClampNeg (v10242 42) rfl
                have hF := frUF (k := 41) (f := upd (F10243 41) (z10202 : Int32).toNatClampNeg (v10242 42)) (by decide) hF
                have st10254 : (va_up F10243 41 (upd (F10243 41) (z10202 : Int32).toNatClampNeg (v10242 42))) 41 = upd (F10243 41) (z10202 : Int32).toNatClampNeg (v10242 42) := va_up_self _ _ _
                have sn10255 : ∀ k9, k9 ≠ 41 → (va_up F10243 41 (upd (F10243 41) (z10202 : Int32).toNatClampNeg (v10242 42))) k9 = F10243 k9 := fun k9 h9 => va_up_ne _ _ h9
                have hP : va_P (dC, dI) classes (wM g c v10242 (va_up F10243 41 (upd (F10243 41) (z10202 : Int32).toNatClampNeg (v10242 42))) rc) H := hP
                generalize (va_up F10243 41 (upd (F10243 41) (z10202 : Int32).toNatClampNeg (v10242 42))) = F10253 at hP hI hF st10254 sn10255
                obtain ⟨z10256, e10257⟩ : ∃ y : Int32, y = x5_lp10208 + 1 := ⟨_, rfl⟩
                try (have t10258 := tadd e10257 rfl (b := 1) (by decide) (by omega))
                refine lv_iinc (v := z10256) (lv' := [(5, .int z10256), (4, .int z10202), (3, .int r10192), (2, .int r10191), (0, .ref (g 0)), (1, .int 10)]) hx hb dX12_readLine_117 hl (k := 0) rfl (by rw [e10257]; rfl) (by decide) rfl (fun ls hl => ?_)
                refine lv_goto (tgt := 53) hx hb dX12_readLine_120 (by decide) ?_
                exact ih_lp10208 z10256 v10242 F10253 _ _ _ (by omega) (by have h9 : v10242 39 = v10242 39 := rfl; (try rw [h9]); clear h9; omega) ((congrArg Int32.toInt (congrFun ((sn10255 37 (by decide)).trans (hG10245 37 (by decide))) _)).trans t10211) (by omega) (frC (by decide) hf10244 hf_lp10208) hI hF hP hS (lv_sub hl [0, 1, 2, 3, 4, 5] rfl)
              · skip
                have t10259 := cv_eq (a := x5_lp10208.toInt) rfl (b := 1) (by decide) c10251
                refine lv_aload_n hx hb dX12_readLine_92 rfl (lv_at hl 4 rfl) ?_
                refine va_get (D := (dC, dI)) (ci := 12) (v := .ref (g 40)) (C := RX12) (T := TX12) (N := 63) hx hb hwd inA_X12 hown hK hP 0 rfl rfl 54 (by decide) (hwd _ wk_222) (fun _ h9 => h9) rfl dX12_readLine_93 ?_
                refine lv_iload hx hb dX12_readLine_96 (lv_at hl 1 rfl) ?_
                refine lv_aload_n hx hb dX12_readLine_98 rfl (lv_at hl 4 rfl) ?_
                refine va_get (D := (dC, dI)) (ci := 12) (v := .int (v10242 42)) (C := RX12) (T := TX12) (N := 63) hx hb hwd inA_X12 hown hK hP 0 rfl rfl 42 (by decide) (hwd _ wk_1031) (fun _ h9 => h9) rfl dX12_readLine_99 ?_
                refine va_iast hx hb hK hP (DM hg) hS 40 39 rfl rfl (i := z10202) (x := (v10242 42)) (vin (a := z10202.toInt) rfl (by omega)) dX12_readLine_102 (fun H locs hP _ hS => ?_)
                have hP := va_P_eq (sM_40 g c _ _ _ _) hP
                have hI := IM.store0 hI 40 (z10202 : Int32).toNatClampNeg (v10242 42) rfl
                have hF := frUF (k := 40) (f := upd (F10243 40) (z10202 : Int32).toNatClampNeg (v10242 42)) (by decide) hF
                have st10261 : (va_up F10243 40 (upd (F10243 40) (z10202 : Int32).toNatClampNeg (v10242 42))) 40 = upd (F10243 40) (z10202 : Int32).toNatClampNeg (v10242 42) := va_up_self _ _ _
                have sn10262 : ∀ k9, k9 ≠ 40 → (va_up F10243 40 (upd (F10243 40) (z10202 : Int32).toNatClampNeg (v10242 42))) k9 = F10243 k9 := fun k9 h9 => va_up_ne _ _ h9
                have hP : va_P (dC, dI) classes (wM g c v10242 (va_up F10243 40 (upd (F10243 40) (z10202 : Int32).toNatClampNeg (v10242 42))) rc) H := hP
                generalize (va_up F10243 40 (upd (F10243 40) (z10202 : Int32).toNatClampNeg (v10242 42))) = F10260 at hP hI hF st10261 sn10262
                refine lv_goto (tgt := 117) hx hb dX12_readLine_103 (by decide) ?_
                obtain ⟨z10263, e10264⟩ : ∃ y : Int32, y = x5_lp10208 + 1 := ⟨_, rfl⟩
                try (have t10265 := tadd e10264 rfl (b := 1) (by decide) (by omega))
                refine lv_iinc (v := z10263) (lv' := [(5, .int z10263), (4, .int z10202), (3, .int r10192), (2, .int r10191), (0, .ref (g 0)), (1, .int 10)]) hx hb dX12_readLine_117 hl (k := 0) rfl (by rw [e10264]; rfl) (by decide) rfl (fun ls hl => ?_)
                refine lv_goto (tgt := 53) hx hb dX12_readLine_120 (by decide) ?_
                exact ih_lp10208 z10263 v10242 F10260 _ _ _ (by omega) (by have h9 : v10242 39 = v10242 39 := rfl; (try rw [h9]); clear h9; omega) ((congrArg Int32.toInt (congrFun ((sn10262 37 (by decide)).trans (hG10245 37 (by decide))) _)).trans t10211) (by omega) (frC (by decide) hf10244 hf_lp10208) hI hF hP hS (lv_sub hl [0, 1, 2, 3, 4, 5] rfl)
            · skip
              have t10266 := cv_eq (a := x5_lp10208.toInt) rfl (b := 0) (by decide) c10249
              refine lv_aload_n hx hb dX12_readLine_72 rfl (lv_at hl 4 rfl) ?_
              refine va_get (D := (dC, dI)) (ci := 12) (v := .ref (g 39)) (C := RX12) (T := TX12) (N := 63) hx hb hwd inA_X12 hown hK hP 0 rfl rfl 53 (by decide) (hwd _ wk_221) (fun _ h9 => h9) rfl dX12_readLine_73 ?_
              refine lv_iload hx hb dX12_readLine_76 (lv_at hl 1 rfl) ?_
              refine lv_aload_n hx hb dX12_readLine_78 rfl (lv_at hl 4 rfl) ?_
              refine va_get (D := (dC, dI)) (ci := 12) (v := .int (v10242 42)) (C := RX12) (T := TX12) (N := 63) hx hb hwd inA_X12 hown hK hP 0 rfl rfl 42 (by decide) (hwd _ wk_1031) (fun _ h9 => h9) rfl dX12_readLine_79 ?_
              refine va_iast hx hb hK hP (DM hg) hS 39 38 rfl rfl (i := z10202) (x := (v10242 42)) (vin (a := z10202.toInt) rfl (by omega)) dX12_readLine_82 (fun H locs hP _ hS => ?_)
              have hP := va_P_eq (sM_39 g c _ _ _ _) hP
              have hI := IM.store0 hI 39 (z10202 : Int32).toNatClampNeg (v10242 42) rfl
              have hF := frUF (k := 39) (f := upd (F10243 39) (z10202 : Int32).toNatClampNeg (v10242 42)) (by decide) hF
              have st10268 : (va_up F10243 39 (upd (F10243 39) (z10202 : Int32).toNatClampNeg (v10242 42))) 39 = upd (F10243 39) (z10202 : Int32).toNatClampNeg (v10242 42) := va_up_self _ _ _
              have sn10269 : ∀ k9, k9 ≠ 39 → (va_up F10243 39 (upd (F10243 39) (z10202 : Int32).toNatClampNeg (v10242 42))) k9 = F10243 k9 := fun k9 h9 => va_up_ne _ _ h9
              have hP : va_P (dC, dI) classes (wM g c v10242 (va_up F10243 39 (upd (F10243 39) (z10202 : Int32).toNatClampNeg (v10242 42))) rc) H := hP
              generalize (va_up F10243 39 (upd (F10243 39) (z10202 : Int32).toNatClampNeg (v10242 42))) = F10267 at hP hI hF st10268 sn10269
              refine lv_goto (tgt := 117) hx hb dX12_readLine_83 (by decide) ?_
              obtain ⟨z10270, e10271⟩ : ∃ y : Int32, y = x5_lp10208 + 1 := ⟨_, rfl⟩
              try (have t10272 := tadd e10271 rfl (b := 1) (by decide) (by omega))
              refine lv_iinc (v := z10270) (lv' := [(5, .int z10270), (4, .int z10202), (3, .int r10192), (2, .int r10191), (0, .ref (g 0)), (1, .int 10)]) hx hb dX12_readLine_117 hl (k := 0) rfl (by rw [e10271]; rfl) (by decide) rfl (fun ls hl => ?_)
              refine lv_goto (tgt := 53) hx hb dX12_readLine_120 (by decide) ?_
              exact ih_lp10208 z10270 v10242 F10267 _ _ _ (by omega) (by have h9 : v10242 39 = v10242 39 := rfl; (try rw [h9]); clear h9; omega) ((congrArg Int32.toInt (congrFun ((sn10269 37 (by decide)).trans (hG10245 37 (by decide))) _)).trans t10211) (by omega) (frC (by decide) hf10244 hf_lp10208) hI hF hP hS (lv_sub hl [0, 1, 2, 3, 4, 5] rfl)
          · skip
            have t10273 := cv_eq (a := r10241.toInt) rfl (b := 0) (by decide) c10247
            have hP9 : va_P (dC, dI) classes (wM g c v10242 F10243 rc) H := hP
            exact W.vret hx hb hr (fun t ht hW => ⟨⟨(v10242, F10243, rc), rfl, ⟨hI, rfl, (frC (by decide) hf10244 (frC (by decide) hf_lp10208 (frU (by decide) (fun _ _ => rfl)))), hF, (by show 4 * (F10243 37 (10 : Int32).toNatClampNeg).toInt ≤ (v10242 39).toInt ∧ (v10242 39).toInt ≤ (v 30).toInt ∧ (v 39).toInt ≤ (v10242 39).toInt ∧ ((v10242 40).toInt < 0 → (v 39).toInt < (v10242 39).toInt); have b9 := t10211; have l9 : (F10243 37 (10 : Int32).toNatClampNeg).toInt = (F_lp10208 37 (10 : Int32).toNatClampNeg).toInt := congrArg Int32.toInt (congrFun (hG10245 37 (by decide)) _); omega)⟩, (by show va_P _ _ _ t.heap; rw [ht]; exact hP9)⟩, hS.F ht⟩) hS.2.2 dX12_readLine_66
    obtain ⟨n9, hn9⟩ : ∃ n : Nat, 2147483648 - 0 ≤ (n : Int) := ⟨((2147483648 - 0 : Int)).toNat, by omega⟩
    exact lp10208 n9 0 (va_up v 39 z10196) F10205 H _ ls (by have : (0 : Int32).toInt = 0 := (by decide); omega) (by have h9 : (va_up v 39 z10196) 39 = z10196 := rfl; (try rw [h9]); clear h9; have : (0 : Int32).toInt = 0 := (by decide); omega) (congrArg Int32.toInt (congrFun (sn10207 37 (by decide)) _)) (by have : (0 : Int32).toInt = 0 := (by decide); omega) (fun _ _ => rfl) hI hF hP hS hl
  · skip
    have t10274 := cv_eq (a := r10192.toInt) rfl (b := 0) (by decide) c10193
    refine lv_aload_n hx hb dX12_readLine_14 rfl (lv_at hl 2 rfl) ?_
    refine va_callv (va_runV (As := []) (rest := []) ⟨hx, hb, hml, hown, hwd⟩ (c_X12_wrong l dC dI g c adK adV v F rc H.size  hg hI ) (cwV 0 hwd (gV wk_1029 wk_1026 wk_1027 wk_1028 wk_5) rfl rfl rfl (by decide +kernel) ⟨Nat.le_of_ble_eq_true rfl, Nat.le_of_ble_eq_true rfl⟩) ⟨PM.blind, va_recv hK hP (ci := 12) (q0 := 0) rfl rfl, fun U hU hW => ⟨rfl, PM.at hK hE hP hS hU hW⟩⟩ rfl rfl hl.1 rfl (lv_room (Nat.le_of_ble_eq_true rfl)) dX12_readLine_15 ⟨Nat.le_of_ble_eq_true rfl, Nat.le_of_ble_eq_true rfl⟩) hS (fun q _ h => (freeM hS) q h) (freeM hS) (fun u t H1 locs ht hvm hw hB hz1 hk1 hS => ?_)
    unfold BM at hB
    rw [ht] at hB
    obtain ⟨v10276, F10277, rc9⟩ := u
    obtain ⟨hI, hrc, hf10278, hG10279, hw⟩ := hw
    dsimp only at hI hrc hB hf10278 hG10279 hw
    have hF := frCF (by decide) hG10279 hF
    rw [hrc] at hB
    have hP : va_P (dC, dI) classes (wM g c v10276 F10277 rc) H1 := hB
    replace hw : 0 ≤ (v10276 40).toInt := hw
    have hw_r10275 := hw
    clear hw
    clear hz1
    generalize H1 = H at hP hS ⊢
    have hP9 : va_P (dC, dI) classes (wM g c v10276 F10277 rc) H := hP
    exact W.vret hx hb hr (fun t ht hW => ⟨⟨(v10276, F10277, rc), rfl, ⟨hI, rfl, (frC (by decide) hf10278 (fun _ _ => rfl)), hF, (by show 4 * (F10277 37 (10 : Int32).toNatClampNeg).toInt ≤ (v10276 39).toInt ∧ (v10276 39).toInt ≤ (v 30).toInt ∧ (v 39).toInt ≤ (v10276 39).toInt ∧ ((v10276 40).toInt < 0 → (v 39).toInt < (v10276 39).toInt); rw [show v10276 39 = v 39 from hf10278 39 (by decide)]; have l9 : (F10277 37 (10 : Int32).toNatClampNeg).toInt = (F 37 (10 : Int32).toNatClampNeg).toInt := congrArg Int32.toInt (congrFun (hG10279 37 (by decide)) _); omega)⟩, (by show va_P _ _ _ t.heap; rw [ht]; exact hP9)⟩, hS.F ht⟩) hS.2.2 dX12_readLine_18
set_option maxHeartbeats 8000000 in
set_option maxRecDepth 100000 in
theorem c_X12_contract (l : Launch) (dC : Nat → ClassId) (dI : Nat → Nat → Nat) (g : Nat → Nat) (c : Nat → ClassId) (adK adV : Nat → Nat) (v : Nat → Int32) (F : Nat → Nat → Int32) (rc sz : Nat) (p0 : Int32) (p1 : Int32) (p2 : Int32) (hg : injM g) (hI : IM v F) : Met l yX12_contract (Cond.code yX12_contract cX12_contract 5 (some .int) :: wA) ({ frames := 5, cells := 0, slots := 0, locals := 200 }) (va_Pc [.ref (g 0), .int p0, .int p1, .int p2] (PM dC dI g c adK adV v F rc sz)) (va_Qi (fun (r : Int32) (u : StM) => IM u.1 u.2.1 ∧ u.2.2 = rc ∧ (∀ k, k ∉ ([30, 39, 40, 42] : List Nat) → u.1 k = v k) ∧ (∀ k, k ∉ ([35, 36, 37, 38, 39, 40, 41] : List Nat) → u.2.1 k = F k) ∧ True) (BM dC dI g c) (AM g sz)) 0 0 (AM g sz) := by
  refine Met.ofW (cc := cX12_contract) (maxL := 5) (ret := (some .int)) (by decide) rfl ?_
  intro p e s m args below meth c0 s₁ B hml hv
  obtain ⟨rfl, hsz, hP, hK, hE⟩ := hv
  have hx := B.exec
  have hb := B.bytes
  have hr := B.returns
  have hts := atoms_spec (ws := Cond.code yX12_contract cX12_contract 5 (some .int) :: wA) B.pre
  have hwd : ∀ w ∈ wA, w.before _ s = true := fun w h => hts w (List.mem_cons_of_mem _ h)
  have hown : s.vm.findClass RX12 = some m.cls := findClass_of_methodNamed B.named
  have hlocks := B.notSynchronized
  subst hsz
  have hl := lv_entry ([.ref (g 0), .int p0, .int p1, .int p2]) (n := 5) (Nat.le_of_ble_eq_true rfl)
  rw [lg_entry_eq]
  generalize (lg_sl ([.ref (g 0), .int p0, .int p1, .int p2]) ++ List.replicate (5 - (lg_sl ([.ref (g 0), .int p0, .int p1, .int p2])).length) Slot.unset).toArray = ls at hl ⊢
  have hl : lv_has ls 5 [(0, .ref (g 0)), (1, .int p0), (2, .int p1), (3, .int p2)] := hl
  obtain ⟨H, eH⟩ : ∃ z, z = s.heap := ⟨_, rfl⟩
  have hP : va_P (dC, dI) classes (wM g c v F rc) H := by rw [eH]; exact hP
  have hS : va_S (AM g s.heap.size) s.heap H [] := by rw [eH]; exact va_S.rf
  refine my_heap eH ?_
  have hF : ∀ k, k ∉ ([35, 36, 37, 38, 39, 40, 41] : List Nat) → F k = F k := fun _ _ => rfl
  have rp0 := i32_rng p0
  have rp1 := i32_rng p1
  have rp2 := i32_rng p2
  refine lv_aload_n hx hb dX12_contract_0 rfl (lv_at hl 0 rfl) ?_
  refine lv_iload_n hx hb dX12_contract_1 rfl (lv_at hl 1 rfl) ?_
  have t10505 : 0 ≤ (v 6).toInt ∧ (v 6).toInt ≤ 10 := hI.1 6 _ _ rfl
  refine va_calli (va_runV (As := [.int p0]) (rest := []) ⟨hx, hb, hml, hown, hwd⟩ (c_X12_isPlane l dC dI g c adK adV v F rc H.size p0 hg hI ) (cwV 1 hwd (gV wk_305 wk_302 wk_303 wk_304 wk_5) rfl rfl rfl (by decide +kernel) ⟨Nat.le_of_ble_eq_true rfl, Nat.le_of_ble_eq_true rfl⟩) ⟨PM.blind, va_recv hK hP (ci := 12) (q0 := 0) rfl rfl, fun U hU hW => ⟨rfl, PM.at hK hE hP hS hU hW⟩⟩ rfl rfl hl.1 rfl (lv_room (Nat.le_of_ble_eq_true rfl)) dX12_contract_2 ⟨Nat.le_of_ble_eq_true rfl, Nat.le_of_ble_eq_true rfl⟩) hS (fun q _ h => (freeM hS) q h) (freeM hS) (fun r10506 u t H1 locs ht hvm hw hB hz1 hk1 hS => ?_)
  unfold BM at hB
  rw [ht] at hB
  have hP : va_P (dC, dI) classes (wM g c v F rc) H1 := hB
  replace hw : (r10506.toInt = 1 ∧ 0 ≤ p0.toInt ∧ p0.toInt < (v 6).toInt) ∨ (r10506.toInt = 0 ∧ (p0.toInt < 0 ∨ (v 6).toInt ≤ p0.toInt)) := hw
  have hw_r10506 := hw
  clear hw
  clear hz1
  generalize H1 = H at hP hS ⊢
  refine lv_if_eq (tgt := 25) hx hb dX12_contract_5 (by decide) (fun c10507 => ?_) (fun c10507 => ?_)
  · skip
    have t10508 := cv_eq (a := r10506.toInt) rfl (b := 0) (by decide) c10507
    refine lv_iconst (v := (-1)) hx hb dX12_contract_25 (by decide) ?_
    have hP9 : va_P (dC, dI) classes (wM g c v F rc) H := hP
    exact W.iret (v := (-1)) hx hb hr (fun t ht hW => ⟨⟨(-1), (v, F, rc), rfl, ⟨hI, rfl, (fun _ _ => rfl), hF, trivial⟩, (by show va_P _ _ _ t.heap; rw [ht]; exact hP9)⟩, hS.F ht⟩) hS.2.2 dX12_contract_26
  · skip
    have t10509 := cv_ne (a := r10506.toInt) rfl (b := 0) (by decide) c10507
    refine lv_iload_n hx hb dX12_contract_8 rfl (lv_at hl 2 rfl) ?_
    refine va_calli (va_runS (As := [.int p1]) (rest := []) ⟨hx, hb, hml, hown, hwd⟩ (c_X12_isDay l dC dI g c adK adV v F rc H.size p1 hg hI ) (va_cwS 1 hwd (gT wk_556 wk_554 wk_555 wk_5) rfl rfl rfl (by decide +kernel) ⟨Nat.le_of_ble_eq_true rfl, Nat.le_of_ble_eq_true rfl⟩) ⟨PM.blind, fun U hU hW => ⟨rfl, PM.at hK hE hP hS hU hW⟩⟩ rfl rfl hl.1 rfl (lv_room (Nat.le_of_ble_eq_true rfl)) dX12_contract_9 ⟨Nat.le_of_ble_eq_true rfl, Nat.le_of_ble_eq_true rfl⟩) hS (fun q _ h => (freeM hS) q h) (freeM hS) (fun r10510 u t H1 locs ht hvm hw hB hz1 hk1 hS => ?_)
    unfold BM at hB
    rw [ht] at hB
    have hP : va_P (dC, dI) classes (wM g c v F rc) H1 := hB
    have hw_r10510 : (r10510.toInt = 1 ∧ 0 ≤ p1.toInt ∧ p1.toInt ≤ 9999) ∨ (r10510.toInt = 0 ∧ (p1.toInt < 0 ∨ 9999 < p1.toInt)) := hw
    clear hw
    clear hz1
    generalize H1 = H at hP hS ⊢
    refine lv_if_eq (tgt := 25) hx hb dX12_contract_12 (by decide) (fun c10511 => ?_) (fun c10511 => ?_)
    · skip
      have t10512 := cv_eq (a := r10510.toInt) rfl (b := 0) (by decide) c10511
      refine lv_iconst (v := (-1)) hx hb dX12_contract_25 (by decide) ?_
      have hP9 : va_P (dC, dI) classes (wM g c v F rc) H := hP
      exact W.iret (v := (-1)) hx hb hr (fun t ht hW => ⟨⟨(-1), (v, F, rc), rfl, ⟨hI, rfl, (fun _ _ => rfl), hF, trivial⟩, (by show va_P _ _ _ t.heap; rw [ht]; exact hP9)⟩, hS.F ht⟩) hS.2.2 dX12_contract_26
    · skip
      have t10513 := cv_ne (a := r10510.toInt) rfl (b := 0) (by decide) c10511
      refine lv_iload_n hx hb dX12_contract_15 rfl (lv_at hl 3 rfl) ?_
      refine lv_iconst (v := 0) hx hb dX12_contract_16 (by decide) ?_
      refine lv_ldc (v := 99999) hx hb hown (hwd _ wk_249) dX12_contract_17 ?_
      refine va_calli (va_runS (As := [.int p2, .int 0, .int 99999]) (rest := []) ⟨hx, hb, hml, hown, hwd⟩ (c_X12_in l dC dI g c adK adV v F rc H.size p2 0 99999 hg hI ) (va_cwS 3 hwd (gT wk_254 wk_252 wk_253 wk_5) rfl rfl rfl (by decide +kernel) ⟨Nat.le_of_ble_eq_true rfl, Nat.le_of_ble_eq_true rfl⟩) ⟨PM.blind, fun U hU hW => ⟨rfl, PM.at hK hE hP hS hU hW⟩⟩ rfl rfl hl.1 rfl (lv_room (Nat.le_of_ble_eq_true rfl)) dX12_contract_19 ⟨Nat.le_of_ble_eq_true rfl, Nat.le_of_ble_eq_true rfl⟩) hS (fun q _ h => (freeM hS) q h) (freeM hS) (fun r10514 u t H1 locs ht hvm hw hB hz1 hk1 hS => ?_)
      unfold BM at hB
      rw [ht] at hB
      have hP : va_P (dC, dI) classes (wM g c v F rc) H1 := hB
      have hw_r10514 : (r10514.toInt = 1 ∧ (0 : Int32).toInt ≤ p2.toInt ∧ p2.toInt ≤ (99999 : Int32).toInt) ∨ (r10514.toInt = 0 ∧ (p2.toInt < (0 : Int32).toInt ∨ (99999 : Int32).toInt < p2.toInt)) := hw
      clear hw
      have k10515 : (0 : Int32).toInt = 0 := by decide
      have k10516 : (99999 : Int32).toInt = 99999 := by decide
      clear hz1
      generalize H1 = H at hP hS ⊢
      refine lv_if_ne (tgt := 27) hx hb dX12_contract_22 (by decide) (fun c10517 => ?_) (fun c10517 => ?_)
      · skip
        have t10518 := cv_ne (a := r10514.toInt) rfl (b := 0) (by decide) c10517
        refine lv_aload_n hx hb dX12_contract_27 rfl (lv_at hl 0 rfl) ?_
        refine lv_iload_n hx hb dX12_contract_28 rfl (lv_at hl 1 rfl) ?_
        refine va_calli (va_runV (As := [.int p0]) (rest := []) ⟨hx, hb, hml, hown, hwd⟩ (c_X12_isReturned l dC dI g c adK adV v F rc H.size p0 hg hI (by omega)) (cwV 1 hwd (gV wk_313 wk_310 wk_311 wk_312 wk_5) rfl rfl rfl (by decide +kernel) ⟨Nat.le_of_ble_eq_true rfl, Nat.le_of_ble_eq_true rfl⟩) ⟨PM.blind, va_recv hK hP (ci := 12) (q0 := 0) rfl rfl, fun U hU hW => ⟨rfl, PM.at hK hE hP hS hU hW⟩⟩ rfl rfl hl.1 rfl (lv_room (Nat.le_of_ble_eq_true rfl)) dX12_contract_29 ⟨Nat.le_of_ble_eq_true rfl, Nat.le_of_ble_eq_true rfl⟩) hS (fun q _ h => (freeM hS) q h) (freeM hS) (fun r10519 u t H1 locs ht hvm hw hB hz1 hk1 hS => ?_)
        unfold BM at hB
        rw [ht] at hB
        have hP : va_P (dC, dI) classes (wM g c v F rc) H1 := hB
        have hw_r10519 : 0 ≤ r10519.toInt ∧ r10519.toInt ≤ 1 := hw
        clear hw
        clear hz1
        generalize H1 = H at hP hS ⊢
        refine lv_if_eq (tgt := 38) hx hb dX12_contract_32 (by decide) (fun c10520 => ?_) (fun c10520 => ?_)
        · skip
          have t10521 := cv_eq (a := r10519.toInt) rfl (b := 0) (by decide) c10520
          refine lv_aload_n hx hb dX12_contract_38 rfl (lv_at hl 0 rfl) ?_
          refine lv_iconst (v := 0) hx hb dX12_contract_39 (by decide) ?_
          refine va_put (D := (dC, dI)) (ci := 12) (v := .int 0) (ty := .int) (C := RX12) (T := TX12) (N := 63) (fs := fsM_0 g v rc) hx hb hwd inA_X12 tyX12 tyX12_ok nmX12 hown hK hP (DM hg) hS 0 rfl rfl 39 (by decide) (hwd _ wk_1004) (fun _ h9 => h9) rfl (by decide +kernel) rfl rfl (Nat.le_of_ble_eq_true rfl) dX12_contract_40 (fun H locs hP _ hS => ?_)
          have hP := va_P_eq (pM_39 g c _ _ _ _) hP
          have hI := IM.put hI 39 0 rfl (by have : (0 : Int32).toInt = 0 := (by decide); omega)
          refine lv_aload_n hx hb dX12_contract_43 rfl (lv_at hl 0 rfl) ?_
          refine lv_iconst (v := (-1)) hx hb dX12_contract_44 (by decide) ?_
          refine va_put (D := (dC, dI)) (ci := 12) (v := .int (-1)) (ty := .int) (C := RX12) (T := TX12) (N := 63) (fs := fsM_0 g (va_up v 39 0) rc) hx hb hwd inA_X12 tyX12 tyX12_ok nmX12 hown hK hP (DM hg) hS 0 rfl rfl 40 (by decide) (hwd _ wk_1005) (fun _ h9 => h9) rfl (by decide +kernel) rfl rfl (Nat.le_of_ble_eq_true rfl) dX12_contract_45 (fun H locs hP _ hS => ?_)
          have hP := va_P_eq (pM_40 g c _ _ _ _) hP
          have hI := IM.put0 hI 40 (-1) rfl
          refine lv_aload_n hx hb dX12_contract_48 rfl (lv_at hl 0 rfl) ?_
          refine va_get (D := (dC, dI)) (ci := 12) (v := .ref (g 37)) (C := RX12) (T := TX12) (N := 63) hx hb hwd inA_X12 hown hK hP 0 rfl rfl 51 (by decide) (hwd _ wk_219) (fun _ h9 => h9) rfl dX12_contract_49 ?_
          refine lv_bipush (v := 10) hx hb dX12_contract_52 (by decide) ?_
          refine lv_iconst (v := 0) hx hb dX12_contract_54 (by decide) ?_
          refine va_iast hx hb hK hP (DM hg) hS 37 36 rfl rfl (i := 10) (x := 0) (vin (a := 10) (by decide) (by omega)) dX12_contract_55 (fun H locs hP _ hS => ?_)
          have hP := va_P_eq (sM_37 g c _ _ _ _) hP
          have hI := IM.store hI 37 (10 : Int32).toNatClampNeg 0 rfl (by have : (0 : Int32).toInt = 0 := (by decide); omega)
          have hF := frUF (k := 37) (f := upd (F 37) (10 : Int32).toNatClampNeg 0) (by decide) hF
          have st10523 : (va_up F 37 (upd (F 37) (10 : Int32).toNatClampNeg 0)) 37 = upd (F 37) (10 : Int32).toNatClampNeg 0 := va_up_self _ _ _
          have sn10524 : ∀ k9, k9 ≠ 37 → (va_up F 37 (upd (F 37) (10 : Int32).toNatClampNeg 0)) k9 = F k9 := fun k9 h9 => va_up_ne _ _ h9
          have hP : va_P (dC, dI) classes (wM g c (va_up (va_up v 39 0) 40 (-1)) (va_up F 37 (upd (F 37) (10 : Int32).toNatClampNeg 0)) rc) H := hP
          generalize (va_up F 37 (upd (F 37) (10 : Int32).toNatClampNeg 0)) = F10522 at hP hI hF st10523 sn10524
          refine lv_aload_n hx hb dX12_contract_56 rfl (lv_at hl 0 rfl) ?_
          refine lv_bipush (v := 10) hx hb dX12_contract_57 (by decide) ?_
          have t10525 : 0 ≤ (v 30).toInt ∧ (v 30).toInt ≤ 120 := hI.1 30 _ _ rfl
          refine va_callv (va_runV (As := [.int 10]) (rest := []) ⟨hx, hb, hml, hown, hwd⟩ (c_X12_readLine l dC dI g c adK adV (va_up (va_up v 39 0) 40 (-1)) F10522 rc H.size  hg hI (by have h9 : (va_up (va_up v 39 0) 40 (-1)) 39 = 0 := rfl; (try rw [h9]); clear h9; have : (0 : Int32).toInt = 0 := (by decide); have h9 : (va_up (va_up v 39 0) 40 (-1)) 30 = v 30 := rfl; (try rw [h9]); clear h9; have l9 : (F10522 37 (10 : Int32).toNatClampNeg).toInt = (0 : Int32).toInt := congrArg Int32.toInt ((congrFun st10523 _).trans (mu_at _ _ _)); have : (0 : Int32).toInt = 0 := (by decide); omega)) (cwV 1 hwd (gV wk_1131 wk_1128 wk_1129 wk_1130 wk_5) rfl rfl rfl (by decide +kernel) ⟨Nat.le_of_ble_eq_true rfl, Nat.le_of_ble_eq_true rfl⟩) ⟨PM.blind, va_recv hK hP (ci := 12) (q0 := 0) rfl rfl, fun U hU hW => ⟨rfl, PM.at hK hE hP hS hU hW⟩⟩ rfl rfl hl.1 rfl (lv_room (Nat.le_of_ble_eq_true rfl)) dX12_contract_59 ⟨Nat.le_of_ble_eq_true rfl, Nat.le_of_ble_eq_true rfl⟩) hS (fun q _ h => (freeM hS) q h) (freeM hS) (fun u t H1 locs ht hvm hw hB hz1 hk1 hS => ?_)
          unfold BM at hB
          rw [ht] at hB
          obtain ⟨v10527, F10528, rc9⟩ := u
          obtain ⟨hI, hrc, hf10529, hG10530, hw⟩ := hw
          dsimp only at hI hrc hB hf10529 hG10530 hw
          have hF := frCF (by decide) hG10530 hF
          rw [hrc] at hB
          have hP : va_P (dC, dI) classes (wM g c v10527 F10528 rc) H1 := hB
          replace hw : 4 * (F10528 37 (10 : Int32).toNatClampNeg).toInt ≤ (v10527 39).toInt ∧ (v10527 39).toInt ≤ (v 30).toInt ∧ (0 : Int32).toInt ≤ (v10527 39).toInt ∧ ((v10527 40).toInt < 0 → (0 : Int32).toInt < (v10527 39).toInt) := hw
          have hw_r10526 := hw
          clear hw
          have t10531 : 0 ≤ (v10527 39).toInt ∧ (v10527 39).toInt ≤ 120 := hI.1 39 _ _ rfl
          have k10532 : (10 : Int32).toInt = 10 := by decide
          clear hz1
          generalize H1 = H at hP hS ⊢
          have lp10533 : ∀ (n : Nat) (v_lp10533 : Nat → Int32) (F_lp10533 : Nat → Nat → Int32) (H : Heap) (locs : List Loc) (ls : Array Slot), (4 * (F_lp10533 37 (10 : Int32).toNatClampNeg).toInt ≤ (v_lp10533 39).toInt ∧ (v_lp10533 39).toInt ≤ (v_lp10533 30).toInt) → (1 ≤ n ∧ ((v_lp10533 40).toInt < 0 → 122 - (v_lp10533 39).toInt ≤ (n : Int))) → (∀ k, k ∉ ([39, 40, 42] : List Nat) → v_lp10533 k = v10527 k) → IM v_lp10533 F_lp10533 → (∀ k, k ∉ ([35, 36, 37, 38, 39, 40, 41] : List Nat) → F_lp10533 k = F k) → va_P (dC, dI) classes (wM g c v_lp10533 F_lp10533 rc) H → va_S (AM g s.heap.size) s.heap H locs → lv_has ls 5 [(0, .ref (g 0)), (1, .int p0), (2, .int p1), (3, .int p2)] → W p l e (headSpec (Cond.code yX12_contract cX12_contract 5 (some .int) :: wA) ({ frames := 5, cells := 0, slots := 0, locals := 200 })).room s m ([.ref (g 0), .int p0, .int p1, .int p2] : List Value).toArray below meth c0 H locs 0 0 (MQ below (va_Qi (fun (r : Int32) (u : StM) => IM u.1 u.2.1 ∧ u.2.2 = rc ∧ (∀ k, k ∉ ([30, 39, 40, 42] : List Nat) → u.1 k = v k) ∧ (∀ k, k ∉ ([35, 36, 37, 38, 39, 40, 41] : List Nat) → u.2.1 k = F k) ∧ True) (BM dC dI g c) (AM g s.heap.size)) ([.ref (g 0), .int p0, .int p1, .int p2] : List Value).toArray s 0 0 (AM g s.heap.size)) (F0 m 62 ls []) := by
            intro n
            induction n with
            | zero =>
              intro v_lp10533 F_lp10533 H locs ls t10534 hm hf_lp10533 hI hF hP hS hl
              exfalso
              have hI1 := hI.1
              omega
            | succ n ih_lp10533 =>
              intro v_lp10533 F_lp10533 H locs ls t10534 hm hf_lp10533 hI hF hP hS hl
              refine lv_aload_n hx hb dX12_contract_62 rfl (lv_at hl 0 rfl) ?_
              refine va_get (D := (dC, dI)) (ci := 12) (v := .int (v_lp10533 40)) (C := RX12) (T := TX12) (N := 63) hx hb hwd inA_X12 hown hK hP 0 rfl rfl 40 (by decide) (hwd _ wk_1005) (fun _ h9 => h9) rfl dX12_contract_63 ?_
              refine lv_if_ge (tgt := 89) hx hb dX12_contract_66 (by decide) (fun c10535 => ?_) (fun c10535 => ?_)
              · skip
                have t10536 := cv_le (a := 0) (by decide) (b := (v_lp10533 40).toInt) rfl c10535
                refine lv_aload_n hx hb dX12_contract_89 rfl (lv_at hl 0 rfl) ?_
                refine lv_iconst (v := 0) hx hb dX12_contract_90 (by decide) ?_
                refine va_put (D := (dC, dI)) (ci := 12) (v := .int 0) (ty := .int) (C := RX12) (T := TX12) (N := 63) (fs := fsM_0 g v_lp10533 rc) hx hb hwd inA_X12 tyX12 tyX12_ok nmX12 hown hK hP (DM hg) hS 0 rfl rfl 30 (by decide) (hwd _ wk_839) (fun _ h9 => h9) rfl (by decide +kernel) rfl rfl (Nat.le_of_ble_eq_true rfl) dX12_contract_91 (fun H locs hP _ hS => ?_)
                have hP := va_P_eq (pM_30 g c _ _ _ _) hP
                have hI := IM.put hI 30 0 rfl (by have : (0 : Int32).toInt = 0 := (by decide); omega)
                refine lv_aload_n hx hb dX12_contract_94 rfl (lv_at hl 0 rfl) ?_
                refine va_get (D := (dC, dI)) (ci := 12) (v := .int (v_lp10533 40)) (C := RX12) (T := TX12) (N := 63) hx hb hwd inA_X12 hown hK hP 0 rfl rfl 40 (by decide) (hwd _ wk_1005) (fun _ h9 => h9) rfl dX12_contract_95 ?_
                refine lv_if_lt (tgt := 109) hx hb dX12_contract_98 (by decide) (fun c10537 => ?_) (fun c10537 => ?_)
                · skip
                  have t10538 := cv_lt (a := (v_lp10533 40).toInt) rfl (b := 0) (by decide) c10537
                  refine lv_aload_n hx hb dX12_contract_109 rfl (lv_at hl 0 rfl) ?_
                  refine va_get (D := (dC, dI)) (ci := 12) (v := .ref (g 37)) (C := RX12) (T := TX12) (N := 63) hx hb hwd inA_X12 hown hK hP 0 rfl rfl 51 (by decide) (hwd _ wk_219) (fun _ h9 => h9) rfl dX12_contract_110 ?_
                  refine lv_iload_n hx hb dX12_contract_113 rfl (lv_at hl 1 rfl) ?_
                  refine lv_aload_n hx hb dX12_contract_114 rfl (lv_at hl 0 rfl) ?_
                  refine va_get (D := (dC, dI)) (ci := 12) (v := .ref (g 37)) (C := RX12) (T := TX12) (N := 63) hx hb hwd inA_X12 hown hK hP 0 rfl rfl 51 (by decide) (hwd _ wk_219) (fun _ h9 => h9) rfl dX12_contract_115 ?_
                  refine lv_bipush (v := 10) hx hb dX12_contract_118 (by decide) ?_
                  refine va_iald hx hb hK hP 37 36 rfl rfl (i := 10) (vin (a := 10) (by decide) (by omega)) dX12_contract_120 ?_
                  refine lv_topi (fun z10539 e10540 => ?_)
                  have t10541 : 0 ≤ z10539.toInt ∧ z10539.toInt ≤ 31 := by rw [e10540]; exact hI.2 37 _ _ rfl _
                  have tzz10539 : z10539.toInt = (F_lp10533 37 (10 : Int32).toNatClampNeg).toInt := congrArg Int32.toInt e10540
                  refine va_iast hx hb hK hP (DM hg) hS 37 36 rfl rfl (i := p0) (x := z10539) (vin (a := p0.toInt) rfl (by omega)) dX12_contract_121 (fun H locs hP _ hS => ?_)
                  have hP := va_P_eq (sM_37 g c _ _ _ _) hP
                  have hI := IM.store hI 37 (p0 : Int32).toNatClampNeg z10539 rfl (by omega)
                  have hF := frUF (k := 37) (f := upd (F_lp10533 37) (p0 : Int32).toNatClampNeg z10539) (by decide) hF
                  have st10543 : (va_up F_lp10533 37 (upd (F_lp10533 37) (p0 : Int32).toNatClampNeg z10539)) 37 = upd (F_lp10533 37) (p0 : Int32).toNatClampNeg z10539 := va_up_self _ _ _
                  have sn10544 : ∀ k9, k9 ≠ 37 → (va_up F_lp10533 37 (upd (F_lp10533 37) (p0 : Int32).toNatClampNeg z10539)) k9 = F_lp10533 k9 := fun k9 h9 => va_up_ne _ _ h9
                  have hP : va_P (dC, dI) classes (wM g c (va_up v_lp10533 30 0) (va_up F_lp10533 37 (upd (F_lp10533 37) (p0 : Int32).toNatClampNeg z10539)) rc) H := hP
                  generalize (va_up F_lp10533 37 (upd (F_lp10533 37) (p0 : Int32).toNatClampNeg z10539)) = F10542 at hP hI hF st10543 sn10544
                  refine lv_iconst (v := 0) hx hb dX12_contract_122 (by decide) ?_
                  refine lv_istore (lv' := [(4, .int 0), (0, .ref (g 0)), (1, .int p0), (2, .int p1), (3, .int p2)]) hx hb dX12_contract_123 hl (by decide) rfl (fun ls hl => ?_)
                  have lp10545 : ∀ (n : Nat) (x4_lp10545 : Int32) (v_lp10545 : Nat → Int32) (F_lp10545 : Nat → Nat → Int32) (H : Heap) (locs : List Loc) (ls : Array Slot), (0 ≤ x4_lp10545.toInt) → (2147483648 - x4_lp10545.toInt ≤ (n : Int)) → (∀ k, k ∉ ([] : List Nat) → v_lp10545 k = (va_up v_lp10533 30 0) k) → IM v_lp10545 F_lp10545 → (∀ k, k ∉ ([35, 36, 37, 38, 39, 40, 41] : List Nat) → F_lp10545 k = F k) → va_P (dC, dI) classes (wM g c v_lp10545 F_lp10545 rc) H → va_S (AM g s.heap.size) s.heap H locs → lv_has ls 5 [(4, .int x4_lp10545), (0, .ref (g 0)), (1, .int p0), (2, .int p1), (3, .int p2)] → W p l e (headSpec (Cond.code yX12_contract cX12_contract 5 (some .int) :: wA) ({ frames := 5, cells := 0, slots := 0, locals := 200 })).room s m ([.ref (g 0), .int p0, .int p1, .int p2] : List Value).toArray below meth c0 H locs 0 0 (MQ below (va_Qi (fun (r : Int32) (u : StM) => IM u.1 u.2.1 ∧ u.2.2 = rc ∧ (∀ k, k ∉ ([30, 39, 40, 42] : List Nat) → u.1 k = v k) ∧ (∀ k, k ∉ ([35, 36, 37, 38, 39, 40, 41] : List Nat) → u.2.1 k = F k) ∧ True) (BM dC dI g c) (AM g s.heap.size)) ([.ref (g 0), .int p0, .int p1, .int p2] : List Value).toArray s 0 0 (AM g s.heap.size)) (F0 m 125 ls []) := by
                    intro n
                    induction n with
                    | zero =>
                      intro x4_lp10545 v_lp10545 F_lp10545 H locs ls t10546 hm hf_lp10545 hI hF hP hS hl
                      exfalso
                      have := i32_rng x4_lp10545
                      have hI1 := hI.1
                      omega
                    | succ n ih_lp10545 =>
                      intro x4_lp10545 v_lp10545 F_lp10545 H locs ls t10546 hm hf_lp10545 hI hF hP hS hl
                      have rx4_lp10545 := i32_rng x4_lp10545
                      refine lv_iload hx hb dX12_contract_125 (lv_at hl 0 rfl) ?_
                      refine lv_aload_n hx hb dX12_contract_127 rfl (lv_at hl 1 rfl) ?_
                      refine va_get (D := (dC, dI)) (ci := 12) (v := .ref (g 37)) (C := RX12) (T := TX12) (N := 63) hx hb hwd inA_X12 hown hK hP 0 rfl rfl 51 (by decide) (hwd _ wk_219) (fun _ h9 => h9) rfl dX12_contract_128 ?_
                      refine lv_iload_n hx hb dX12_contract_131 rfl (lv_at hl 2 rfl) ?_
                      refine va_iald hx hb hK hP 37 36 rfl rfl (i := p0) (vin (a := p0.toInt) rfl (by omega)) dX12_contract_132 ?_
                      refine lv_topi (fun z10547 e10548 => ?_)
                      have t10549 : 0 ≤ z10547.toInt ∧ z10547.toInt ≤ 31 := by rw [e10548]; exact hI.2 37 _ _ rfl _
                      have tzz10547 : z10547.toInt = (F_lp10545 37 (p0 : Int32).toNatClampNeg).toInt := congrArg Int32.toInt e10548
                      refine lv_icmp_ge (tgt := 234) hx hb dX12_contract_133 (by decide) (fun c10550 => ?_) (fun c10550 => ?_)
                      · skip
                        have t10551 := cv_le (a := z10547.toInt) rfl (b := x4_lp10545.toInt) rfl c10550
                        refine lv_aload_n hx hb dX12_contract_234 rfl (lv_at hl 1 rfl) ?_
                        refine va_get (D := (dC, dI)) (ci := 12) (v := .ref (g 35)) (C := RX12) (T := TX12) (N := 63) hx hb hwd inA_X12 hown hK hP 0 rfl rfl 49 (by decide) (hwd _ wk_217) (fun _ h9 => h9) rfl dX12_contract_235 ?_
                        refine lv_iload_n hx hb dX12_contract_238 rfl (lv_at hl 2 rfl) ?_
                        refine lv_iload_n hx hb dX12_contract_239 rfl (lv_at hl 3 rfl) ?_
                        refine va_iast hx hb hK hP (DM hg) hS 35 34 rfl rfl (i := p0) (x := p1) (vin (a := p0.toInt) rfl (by omega)) dX12_contract_240 (fun H locs hP _ hS => ?_)
                        have hP := va_P_eq (sM_35 g c _ _ _ _) hP
                        have hI := IM.store0 hI 35 (p0 : Int32).toNatClampNeg p1 rfl
                        have hF := frUF (k := 35) (f := upd (F_lp10545 35) (p0 : Int32).toNatClampNeg p1) (by decide) hF
                        have st10553 : (va_up F_lp10545 35 (upd (F_lp10545 35) (p0 : Int32).toNatClampNeg p1)) 35 = upd (F_lp10545 35) (p0 : Int32).toNatClampNeg p1 := va_up_self _ _ _
                        have sn10554 : ∀ k9, k9 ≠ 35 → (va_up F_lp10545 35 (upd (F_lp10545 35) (p0 : Int32).toNatClampNeg p1)) k9 = F_lp10545 k9 := fun k9 h9 => va_up_ne _ _ h9
                        have hP : va_P (dC, dI) classes (wM g c v_lp10545 (va_up F_lp10545 35 (upd (F_lp10545 35) (p0 : Int32).toNatClampNeg p1)) rc) H := hP
                        generalize (va_up F_lp10545 35 (upd (F_lp10545 35) (p0 : Int32).toNatClampNeg p1)) = F10552 at hP hI hF st10553 sn10554
                        refine lv_aload_n hx hb dX12_contract_241 rfl (lv_at hl 1 rfl) ?_
                        refine va_get (D := (dC, dI)) (ci := 12) (v := .ref (g 36)) (C := RX12) (T := TX12) (N := 63) hx hb hwd inA_X12 hown hK hP 0 rfl rfl 50 (by decide) (hwd _ wk_218) (fun _ h9 => h9) rfl dX12_contract_242 ?_
                        refine lv_iload_n hx hb dX12_contract_245 rfl (lv_at hl 2 rfl) ?_
                        refine lv_iload_n hx hb dX12_contract_246 rfl (lv_at hl 4 rfl) ?_
                        refine va_iast hx hb hK hP (DM hg) hS 36 35 rfl rfl (i := p0) (x := p2) (vin (a := p0.toInt) rfl (by omega)) dX12_contract_247 (fun H locs hP _ hS => ?_)
                        have hP := va_P_eq (sM_36 g c _ _ _ _) hP
                        have hI := IM.store0 hI 36 (p0 : Int32).toNatClampNeg p2 rfl
                        have hF := frUF (k := 36) (f := upd (F10552 36) (p0 : Int32).toNatClampNeg p2) (by decide) hF
                        have st10556 : (va_up F10552 36 (upd (F10552 36) (p0 : Int32).toNatClampNeg p2)) 36 = upd (F10552 36) (p0 : Int32).toNatClampNeg p2 := va_up_self _ _ _
                        have sn10557 : ∀ k9, k9 ≠ 36 → (va_up F10552 36 (upd (F10552 36) (p0 : Int32).toNatClampNeg p2)) k9 = F10552 k9 := fun k9 h9 => va_up_ne _ _ h9
                        have hP : va_P (dC, dI) classes (wM g c v_lp10545 (va_up F10552 36 (upd (F10552 36) (p0 : Int32).toNatClampNeg p2)) rc) H := hP
                        generalize (va_up F10552 36 (upd (F10552 36) (p0 : Int32).toNatClampNeg p2)) = F10555 at hP hI hF st10556 sn10557
                        refine lv_aload_n hx hb dX12_contract_248 rfl (lv_at hl 1 rfl) ?_
                        refine va_get (D := (dC, dI)) (ci := 12) (v := .ref (g 37)) (C := RX12) (T := TX12) (N := 63) hx hb hwd inA_X12 hown hK hP 0 rfl rfl 51 (by decide) (hwd _ wk_219) (fun _ h9 => h9) rfl dX12_contract_249 ?_
                        refine lv_iload_n hx hb dX12_contract_252 rfl (lv_at hl 2 rfl) ?_
                        refine va_iald hx hb hK hP 37 36 rfl rfl (i := p0) (vin (a := p0.toInt) rfl (by omega)) dX12_contract_253 ?_
                        refine lv_topi (fun z10558 e10559 => ?_)
                        have t10560 : 0 ≤ z10558.toInt ∧ z10558.toInt ≤ 31 := by rw [e10559]; exact hI.2 37 _ _ rfl _
                        have tzz10558 : z10558.toInt = (F10555 37 (p0 : Int32).toNatClampNeg).toInt := congrArg Int32.toInt e10559
                        have hP9 : va_P (dC, dI) classes (wM g c v_lp10545 F10555 rc) H := hP
                        exact W.iret (v := z10558) hx hb hr (fun t ht hW => ⟨⟨z10558, (v_lp10545, F10555, rc), rfl, ⟨hI, rfl, (frC (by decide) hf_lp10545 (frU (by decide) (frC (by decide) hf_lp10533 (frC (by decide) hf10529 (frU (by decide) (frU (by decide) (fun _ _ => rfl))))))), hF, trivial⟩, (by show va_P _ _ _ t.heap; rw [ht]; exact hP9)⟩, hS.F ht⟩) hS.2.2 dX12_contract_254
                      · skip
                        have t10561 := cv_nle (a := z10547.toInt) rfl (b := x4_lp10545.toInt) rfl c10550
                        refine lv_aload_n hx hb dX12_contract_136 rfl (lv_at hl 1 rfl) ?_
                        refine va_get (D := (dC, dI)) (ci := 12) (v := .ref (g 38)) (C := RX12) (T := TX12) (N := 63) hx hb hwd inA_X12 hown hK hP 0 rfl rfl 52 (by decide) (hwd _ wk_220) (fun _ h9 => h9) rfl dX12_contract_137 ?_
                        refine lv_bipush (v := 32) hx hb dX12_contract_140 (by decide) ?_
                        refine lv_iload_n hx hb dX12_contract_142 rfl (lv_at hl 2 rfl) ?_
                        refine lv_imul hx hb dX12_contract_143 ?_
                        refine lv_topi (fun z10562 e10563 => ?_)
                        try (have t10564 := tmul e10563 (a := 32) (by decide) (b := p0.toInt) rfl (by omega))
                        refine lv_iload hx hb dX12_contract_144 (lv_at hl 0 rfl) ?_
                        refine lv_iadd hx hb dX12_contract_146 ?_
                        refine lv_topi (fun z10565 e10566 => ?_)
                        try (have t10567 := tadd e10566 (a := z10562.toInt) rfl (b := x4_lp10545.toInt) rfl (by omega))
                        refine lv_aload_n hx hb dX12_contract_147 rfl (lv_at hl 1 rfl) ?_
                        refine va_get (D := (dC, dI)) (ci := 12) (v := .ref (g 38)) (C := RX12) (T := TX12) (N := 63) hx hb hwd inA_X12 hown hK hP 0 rfl rfl 52 (by decide) (hwd _ wk_220) (fun _ h9 => h9) rfl dX12_contract_148 ?_
                        refine lv_sipush (v := 320) hx hb dX12_contract_151 (by decide) ?_
                        refine lv_iload hx hb dX12_contract_154 (lv_at hl 0 rfl) ?_
                        refine lv_iadd hx hb dX12_contract_156 ?_
                        refine lv_topi (fun z10568 e10569 => ?_)
                        try (have t10570 := tadd e10569 (a := 320) (by decide) (b := x4_lp10545.toInt) rfl (by omega))
                        refine va_iald hx hb hK hP 38 37 rfl rfl (i := z10568) (vin (a := z10568.toInt) rfl (by omega)) dX12_contract_157 ?_
                        refine lv_topi (fun z10571 e10572 => ?_)
                        have tzz10571 : z10571.toInt = (F_lp10545 38 (z10568 : Int32).toNatClampNeg).toInt := congrArg Int32.toInt e10572
                        refine va_iast hx hb hK hP (DM hg) hS 38 37 rfl rfl (i := z10565) (x := z10571) (vin (a := z10565.toInt) rfl (by omega)) dX12_contract_158 (fun H locs hP _ hS => ?_)
                        have hP := va_P_eq (sM_38 g c _ _ _ _) hP
                        have hI := IM.store0 hI 38 (z10565 : Int32).toNatClampNeg z10571 rfl
                        have hF := frUF (k := 38) (f := upd (F_lp10545 38) (z10565 : Int32).toNatClampNeg z10571) (by decide) hF
                        have st10574 : (va_up F_lp10545 38 (upd (F_lp10545 38) (z10565 : Int32).toNatClampNeg z10571)) 38 = upd (F_lp10545 38) (z10565 : Int32).toNatClampNeg z10571 := va_up_self _ _ _
                        have sn10575 : ∀ k9, k9 ≠ 38 → (va_up F_lp10545 38 (upd (F_lp10545 38) (z10565 : Int32).toNatClampNeg z10571)) k9 = F_lp10545 k9 := fun k9 h9 => va_up_ne _ _ h9
                        have hP : va_P (dC, dI) classes (wM g c v_lp10545 (va_up F_lp10545 38 (upd (F_lp10545 38) (z10565 : Int32).toNatClampNeg z10571)) rc) H := hP
                        generalize (va_up F_lp10545 38 (upd (F_lp10545 38) (z10565 : Int32).toNatClampNeg z10571)) = F10573 at hP hI hF st10574 sn10575
                        refine lv_aload_n hx hb dX12_contract_159 rfl (lv_at hl 1 rfl) ?_
                        refine va_get (D := (dC, dI)) (ci := 12) (v := .ref (g 39)) (C := RX12) (T := TX12) (N := 63) hx hb hwd inA_X12 hown hK hP 0 rfl rfl 53 (by decide) (hwd _ wk_221) (fun _ h9 => h9) rfl dX12_contract_160 ?_
                        refine lv_bipush (v := 32) hx hb dX12_contract_163 (by decide) ?_
                        refine lv_iload_n hx hb dX12_contract_165 rfl (lv_at hl 2 rfl) ?_
                        refine lv_imul hx hb dX12_contract_166 ?_
                        refine lv_topi (fun z10576 e10577 => ?_)
                        try (have t10578 := tmul e10577 (a := 32) (by decide) (b := p0.toInt) rfl (by omega))
                        refine lv_iload hx hb dX12_contract_167 (lv_at hl 0 rfl) ?_
                        refine lv_iadd hx hb dX12_contract_169 ?_
                        refine lv_topi (fun z10579 e10580 => ?_)
                        try (have t10581 := tadd e10580 (a := z10576.toInt) rfl (b := x4_lp10545.toInt) rfl (by omega))
                        refine lv_aload_n hx hb dX12_contract_170 rfl (lv_at hl 1 rfl) ?_
                        refine va_get (D := (dC, dI)) (ci := 12) (v := .ref (g 39)) (C := RX12) (T := TX12) (N := 63) hx hb hwd inA_X12 hown hK hP 0 rfl rfl 53 (by decide) (hwd _ wk_221) (fun _ h9 => h9) rfl dX12_contract_171 ?_
                        refine lv_sipush (v := 320) hx hb dX12_contract_174 (by decide) ?_
                        refine lv_iload hx hb dX12_contract_177 (lv_at hl 0 rfl) ?_
                        refine lv_iadd hx hb dX12_contract_179 ?_
                        refine lv_topi (fun z10582 e10583 => ?_)
                        try (have t10584 := tadd e10583 (a := 320) (by decide) (b := x4_lp10545.toInt) rfl (by omega))
                        refine va_iald hx hb hK hP 39 38 rfl rfl (i := z10582) (vin (a := z10582.toInt) rfl (by omega)) dX12_contract_180 ?_
                        refine lv_topi (fun z10585 e10586 => ?_)
                        have tzz10585 : z10585.toInt = (F10573 39 (z10582 : Int32).toNatClampNeg).toInt := congrArg Int32.toInt e10586
                        refine va_iast hx hb hK hP (DM hg) hS 39 38 rfl rfl (i := z10579) (x := z10585) (vin (a := z10579.toInt) rfl (by omega)) dX12_contract_181 (fun H locs hP _ hS => ?_)
                        have hP := va_P_eq (sM_39 g c _ _ _ _) hP
                        have hI := IM.store0 hI 39 (z10579 : Int32).toNatClampNeg z10585 rfl
                        have hF := frUF (k := 39) (f := upd (F10573 39) (z10579 : Int32).toNatClampNeg z10585) (by decide) hF
                        have st10588 : (va_up F10573 39 (upd (F10573 39) (z10579 : Int32).toNatClampNeg z10585)) 39 = upd (F10573 39) (z10579 : Int32).toNatClampNeg z10585 := va_up_self _ _ _
                        have sn10589 : ∀ k9, k9 ≠ 39 → (va_up F10573 39 (upd (F10573 39) (z10579 : Int32).toNatClampNeg z10585)) k9 = F10573 k9 := fun k9 h9 => va_up_ne _ _ h9
                        have hP : va_P (dC, dI) classes (wM g c v_lp10545 (va_up F10573 39 (upd (F10573 39) (z10579 : Int32).toNatClampNeg z10585)) rc) H := hP
                        generalize (va_up F10573 39 (upd (F10573 39) (z10579 : Int32).toNatClampNeg z10585)) = F10587 at hP hI hF st10588 sn10589
                        refine lv_aload_n hx hb dX12_contract_182 rfl (lv_at hl 1 rfl) ?_
                        refine va_get (D := (dC, dI)) (ci := 12) (v := .ref (g 40)) (C := RX12) (T := TX12) (N := 63) hx hb hwd inA_X12 hown hK hP 0 rfl rfl 54 (by decide) (hwd _ wk_222) (fun _ h9 => h9) rfl dX12_contract_183 ?_
                        refine lv_bipush (v := 32) hx hb dX12_contract_186 (by decide) ?_
                        refine lv_iload_n hx hb dX12_contract_188 rfl (lv_at hl 2 rfl) ?_
                        refine lv_imul hx hb dX12_contract_189 ?_
                        refine lv_topi (fun z10590 e10591 => ?_)
                        try (have t10592 := tmul e10591 (a := 32) (by decide) (b := p0.toInt) rfl (by omega))
                        refine lv_iload hx hb dX12_contract_190 (lv_at hl 0 rfl) ?_
                        refine lv_iadd hx hb dX12_contract_192 ?_
                        refine lv_topi (fun z10593 e10594 => ?_)
                        try (have t10595 := tadd e10594 (a := z10590.toInt) rfl (b := x4_lp10545.toInt) rfl (by omega))
                        refine lv_aload_n hx hb dX12_contract_193 rfl (lv_at hl 1 rfl) ?_
                        refine va_get (D := (dC, dI)) (ci := 12) (v := .ref (g 40)) (C := RX12) (T := TX12) (N := 63) hx hb hwd inA_X12 hown hK hP 0 rfl rfl 54 (by decide) (hwd _ wk_222) (fun _ h9 => h9) rfl dX12_contract_194 ?_
                        refine lv_sipush (v := 320) hx hb dX12_contract_197 (by decide) ?_
                        refine lv_iload hx hb dX12_contract_200 (lv_at hl 0 rfl) ?_
                        refine lv_iadd hx hb dX12_contract_202 ?_
                        refine lv_topi (fun z10596 e10597 => ?_)
                        try (have t10598 := tadd e10597 (a := 320) (by decide) (b := x4_lp10545.toInt) rfl (by omega))
                        refine va_iald hx hb hK hP 40 39 rfl rfl (i := z10596) (vin (a := z10596.toInt) rfl (by omega)) dX12_contract_203 ?_
                        refine lv_topi (fun z10599 e10600 => ?_)
                        have tzz10599 : z10599.toInt = (F10587 40 (z10596 : Int32).toNatClampNeg).toInt := congrArg Int32.toInt e10600
                        refine va_iast hx hb hK hP (DM hg) hS 40 39 rfl rfl (i := z10593) (x := z10599) (vin (a := z10593.toInt) rfl (by omega)) dX12_contract_204 (fun H locs hP _ hS => ?_)
                        have hP := va_P_eq (sM_40 g c _ _ _ _) hP
                        have hI := IM.store0 hI 40 (z10593 : Int32).toNatClampNeg z10599 rfl
                        have hF := frUF (k := 40) (f := upd (F10587 40) (z10593 : Int32).toNatClampNeg z10599) (by decide) hF
                        have st10602 : (va_up F10587 40 (upd (F10587 40) (z10593 : Int32).toNatClampNeg z10599)) 40 = upd (F10587 40) (z10593 : Int32).toNatClampNeg z10599 := va_up_self _ _ _
                        have sn10603 : ∀ k9, k9 ≠ 40 → (va_up F10587 40 (upd (F10587 40) (z10593 : Int32).toNatClampNeg z10599)) k9 = F10587 k9 := fun k9 h9 => va_up_ne _ _ h9
                        have hP : va_P (dC, dI) classes (wM g c v_lp10545 (va_up F10587 40 (upd (F10587 40) (z10593 : Int32).toNatClampNeg z10599)) rc) H := hP
                        generalize (va_up F10587 40 (upd (F10587 40) (z10593 : Int32).toNatClampNeg z10599)) = F10601 at hP hI hF st10602 sn10603
                        refine lv_aload_n hx hb dX12_contract_205 rfl (lv_at hl 1 rfl) ?_
                        refine va_get (D := (dC, dI)) (ci := 12) (v := .ref (g 41)) (C := RX12) (T := TX12) (N := 63) hx hb hwd inA_X12 hown hK hP 0 rfl rfl 55 (by decide) (hwd _ wk_223) (fun _ h9 => h9) rfl dX12_contract_206 ?_
                        refine lv_bipush (v := 32) hx hb dX12_contract_209 (by decide) ?_
                        refine lv_iload_n hx hb dX12_contract_211 rfl (lv_at hl 2 rfl) ?_
                        refine lv_imul hx hb dX12_contract_212 ?_
                        refine lv_topi (fun z10604 e10605 => ?_)
                        try (have t10606 := tmul e10605 (a := 32) (by decide) (b := p0.toInt) rfl (by omega))
                        refine lv_iload hx hb dX12_contract_213 (lv_at hl 0 rfl) ?_
                        refine lv_iadd hx hb dX12_contract_215 ?_
                        refine lv_topi (fun z10607 e10608 => ?_)
                        try (have t10609 := tadd e10608 (a := z10604.toInt) rfl (b := x4_lp10545.toInt) rfl (by omega))
                        refine lv_aload_n hx hb dX12_contract_216 rfl (lv_at hl 1 rfl) ?_
                        refine va_get (D := (dC, dI)) (ci := 12) (v := .ref (g 41)) (C := RX12) (T := TX12) (N := 63) hx hb hwd inA_X12 hown hK hP 0 rfl rfl 55 (by decide) (hwd _ wk_223) (fun _ h9 => h9) rfl dX12_contract_217 ?_
                        refine lv_sipush (v := 320) hx hb dX12_contract_220 (by decide) ?_
                        refine lv_iload hx hb dX12_contract_223 (lv_at hl 0 rfl) ?_
                        refine lv_iadd hx hb dX12_contract_225 ?_
                        refine lv_topi (fun z10610 e10611 => ?_)
                        try (have t10612 := tadd e10611 (a := 320) (by decide) (b := x4_lp10545.toInt) rfl (by omega))
                        refine va_iald hx hb hK hP 41 40 rfl rfl (i := z10610) (vin (a := z10610.toInt) rfl (by omega)) dX12_contract_226 ?_
                        refine lv_topi (fun z10613 e10614 => ?_)
                        have tzz10613 : z10613.toInt = (F10601 41 (z10610 : Int32).toNatClampNeg).toInt := congrArg Int32.toInt e10614
                        refine va_iast hx hb hK hP (DM hg) hS 41 40 rfl rfl (i := z10607) (x := z10613) (vin (a := z10607.toInt) rfl (by omega)) dX12_contract_227 (fun H locs hP _ hS => ?_)
                        have hP := va_P_eq (sM_41 g c _ _ _ _) hP
                        have hI := IM.store0 hI 41 (z10607 : Int32).toNatClampNeg z10613 rfl
                        have hF := frUF (k := 41) (f := upd (F10601 41) (z10607 : Int32).toNatClampNeg z10613) (by decide) hF
                        have st10616 : (va_up F10601 41 (upd (F10601 41) (z10607 : Int32).toNatClampNeg z10613)) 41 = upd (F10601 41) (z10607 : Int32).toNatClampNeg z10613 := va_up_self _ _ _
                        have sn10617 : ∀ k9, k9 ≠ 41 → (va_up F10601 41 (upd (F10601 41) (z10607 : Int32).toNatClampNeg z10613)) k9 = F10601 k9 := fun k9 h9 => va_up_ne _ _ h9
                        have hP : va_P (dC, dI) classes (wM g c v_lp10545 (va_up F10601 41 (upd (F10601 41) (z10607 : Int32).toNatClampNeg z10613)) rc) H := hP
                        generalize (va_up F10601 41 (upd (F10601 41) (z10607 : Int32).toNatClampNeg z10613)) = F10615 at hP hI hF st10616 sn10617
                        obtain ⟨z10618, e10619⟩ : ∃ y : Int32, y = x4_lp10545 + 1 := ⟨_, rfl⟩
                        try (have t10620 := tadd e10619 rfl (b := 1) (by decide) (by omega))
                        refine lv_iinc (v := z10618) (lv' := [(4, .int z10618), (0, .ref (g 0)), (1, .int p0), (2, .int p1), (3, .int p2)]) hx hb dX12_contract_228 hl (k := 0) rfl (by rw [e10619]; rfl) (by decide) rfl (fun ls hl => ?_)
                        refine lv_goto (tgt := 125) hx hb dX12_contract_231 (by decide) ?_
                        exact ih_lp10545 z10618 v_lp10545 F10615 _ _ _ (by omega) (by omega) hf_lp10545 hI hF hP hS (lv_sub hl [0, 1, 2, 3, 4] rfl)
                  obtain ⟨n9, hn9⟩ : ∃ n : Nat, 2147483648 - 0 ≤ (n : Int) := ⟨((2147483648 - 0 : Int)).toNat, by omega⟩
                  exact lp10545 n9 0 (va_up v_lp10533 30 0) F10542 H _ ls (by have : (0 : Int32).toInt = 0 := (by decide); omega) (by have : (0 : Int32).toInt = 0 := (by decide); omega) (fun _ _ => rfl) hI hF hP hS hl
                · skip
                  have t10621 := cv_nlt (a := (v_lp10533 40).toInt) rfl (b := 0) (by decide) c10537
                  refine lv_bipush (v := (-100)) hx hb dX12_contract_101 (by decide) ?_
                  refine lv_aload_n hx hb dX12_contract_103 rfl (lv_at hl 0 rfl) ?_
                  refine va_get (D := (dC, dI)) (ci := 12) (v := .int (v_lp10533 40)) (C := RX12) (T := TX12) (N := 63) hx hb hwd inA_X12 hown hK hP 0 rfl rfl 40 (by decide) (hwd _ wk_1005) (fun _ h9 => h9) rfl dX12_contract_104 ?_
                  refine lv_isub hx hb dX12_contract_107 ?_
                  refine lv_topi (fun z10622 e10623 => ?_)
                  try (have t10624 := tsub e10623 (a := (-100)) (by decide) (b := (v_lp10533 40).toInt) rfl (by omega))
                  have hP9 : va_P (dC, dI) classes (wM g c (va_up v_lp10533 30 0) F_lp10533 rc) H := hP
                  exact W.iret (v := z10622) hx hb hr (fun t ht hW => ⟨⟨z10622, ((va_up v_lp10533 30 0), F_lp10533, rc), rfl, ⟨hI, rfl, (frU (by decide) (frC (by decide) hf_lp10533 (frC (by decide) hf10529 (frU (by decide) (frU (by decide) (fun _ _ => rfl)))))), hF, trivial⟩, (by show va_P _ _ _ t.heap; rw [ht]; exact hP9)⟩, hS.F ht⟩) hS.2.2 dX12_contract_108
              · skip
                have t10625 := cv_nle (a := 0) (by decide) (b := (v_lp10533 40).toInt) rfl c10535
                refine lv_aload_n hx hb dX12_contract_69 rfl (lv_at hl 0 rfl) ?_
                refine va_get (D := (dC, dI)) (ci := 12) (v := .int (v_lp10533 39)) (C := RX12) (T := TX12) (N := 63) hx hb hwd inA_X12 hown hK hP 0 rfl rfl 39 (by decide) (hwd _ wk_1004) (fun _ h9 => h9) rfl dX12_contract_70 ?_
                have t10626 : 0 ≤ (v_lp10533 39).toInt ∧ (v_lp10533 39).toInt ≤ 120 := hI.1 39 _ _ rfl
                refine lv_aload_n hx hb dX12_contract_73 rfl (lv_at hl 0 rfl) ?_
                refine va_get (D := (dC, dI)) (ci := 12) (v := .int (v_lp10533 30)) (C := RX12) (T := TX12) (N := 63) hx hb hwd inA_X12 hown hK hP 0 rfl rfl 30 (by decide) (hwd _ wk_839) (fun _ h9 => h9) rfl dX12_contract_74 ?_
                refine my_top (v := v 30) ((hf_lp10533 30 (by decide)).trans (hf10529 30 (by decide))) ?_
                have t10627 : 0 ≤ (v 30).toInt ∧ (v 30).toInt ≤ 120 := by have h9 := hI.1 30 _ _ rfl; rw [show v_lp10533 30 = v 30 from (hf_lp10533 30 (by decide)).trans (hf10529 30 (by decide))] at h9; exact h9
                refine lv_icmp_ge (tgt := 89) hx hb dX12_contract_77 (by decide) (fun c10628 => ?_) (fun c10628 => ?_)
                · skip
                  have t10629 := cv_le (a := (v 30).toInt) rfl (b := (v_lp10533 39).toInt) rfl c10628
                  refine lv_aload_n hx hb dX12_contract_89 rfl (lv_at hl 0 rfl) ?_
                  refine lv_iconst (v := 0) hx hb dX12_contract_90 (by decide) ?_
                  refine va_put (D := (dC, dI)) (ci := 12) (v := .int 0) (ty := .int) (C := RX12) (T := TX12) (N := 63) (fs := fsM_0 g v_lp10533 rc) hx hb hwd inA_X12 tyX12 tyX12_ok nmX12 hown hK hP (DM hg) hS 0 rfl rfl 30 (by decide) (hwd _ wk_839) (fun _ h9 => h9) rfl (by decide +kernel) rfl rfl (Nat.le_of_ble_eq_true rfl) dX12_contract_91 (fun H locs hP _ hS => ?_)
                  have hP := va_P_eq (pM_30 g c _ _ _ _) hP
                  have hI := IM.put hI 30 0 rfl (by have : (0 : Int32).toInt = 0 := (by decide); omega)
                  refine lv_aload_n hx hb dX12_contract_94 rfl (lv_at hl 0 rfl) ?_
                  refine va_get (D := (dC, dI)) (ci := 12) (v := .int (v_lp10533 40)) (C := RX12) (T := TX12) (N := 63) hx hb hwd inA_X12 hown hK hP 0 rfl rfl 40 (by decide) (hwd _ wk_1005) (fun _ h9 => h9) rfl dX12_contract_95 ?_
                  refine lv_if_lt (tgt := 109) hx hb dX12_contract_98 (by decide) (fun c10630 => ?_) (fun c10630 => ?_)
                  · skip
                    have t10631 := cv_lt (a := (v_lp10533 40).toInt) rfl (b := 0) (by decide) c10630
                    refine lv_aload_n hx hb dX12_contract_109 rfl (lv_at hl 0 rfl) ?_
                    refine va_get (D := (dC, dI)) (ci := 12) (v := .ref (g 37)) (C := RX12) (T := TX12) (N := 63) hx hb hwd inA_X12 hown hK hP 0 rfl rfl 51 (by decide) (hwd _ wk_219) (fun _ h9 => h9) rfl dX12_contract_110 ?_
                    refine lv_iload_n hx hb dX12_contract_113 rfl (lv_at hl 1 rfl) ?_
                    refine lv_aload_n hx hb dX12_contract_114 rfl (lv_at hl 0 rfl) ?_
                    refine va_get (D := (dC, dI)) (ci := 12) (v := .ref (g 37)) (C := RX12) (T := TX12) (N := 63) hx hb hwd inA_X12 hown hK hP 0 rfl rfl 51 (by decide) (hwd _ wk_219) (fun _ h9 => h9) rfl dX12_contract_115 ?_
                    refine lv_bipush (v := 10) hx hb dX12_contract_118 (by decide) ?_
                    refine va_iald hx hb hK hP 37 36 rfl rfl (i := 10) (vin (a := 10) (by decide) (by omega)) dX12_contract_120 ?_
                    refine lv_topi (fun z10632 e10633 => ?_)
                    have t10634 : 0 ≤ z10632.toInt ∧ z10632.toInt ≤ 31 := by rw [e10633]; exact hI.2 37 _ _ rfl _
                    have tzz10632 : z10632.toInt = (F_lp10533 37 (10 : Int32).toNatClampNeg).toInt := congrArg Int32.toInt e10633
                    refine va_iast hx hb hK hP (DM hg) hS 37 36 rfl rfl (i := p0) (x := z10632) (vin (a := p0.toInt) rfl (by omega)) dX12_contract_121 (fun H locs hP _ hS => ?_)
                    have hP := va_P_eq (sM_37 g c _ _ _ _) hP
                    have hI := IM.store hI 37 (p0 : Int32).toNatClampNeg z10632 rfl (by omega)
                    have hF := frUF (k := 37) (f := upd (F_lp10533 37) (p0 : Int32).toNatClampNeg z10632) (by decide) hF
                    have st10636 : (va_up F_lp10533 37 (upd (F_lp10533 37) (p0 : Int32).toNatClampNeg z10632)) 37 = upd (F_lp10533 37) (p0 : Int32).toNatClampNeg z10632 := va_up_self _ _ _
                    have sn10637 : ∀ k9, k9 ≠ 37 → (va_up F_lp10533 37 (upd (F_lp10533 37) (p0 : Int32).toNatClampNeg z10632)) k9 = F_lp10533 k9 := fun k9 h9 => va_up_ne _ _ h9
                    have hP : va_P (dC, dI) classes (wM g c (va_up v_lp10533 30 0) (va_up F_lp10533 37 (upd (F_lp10533 37) (p0 : Int32).toNatClampNeg z10632)) rc) H := hP
                    generalize (va_up F_lp10533 37 (upd (F_lp10533 37) (p0 : Int32).toNatClampNeg z10632)) = F10635 at hP hI hF st10636 sn10637
                    refine lv_iconst (v := 0) hx hb dX12_contract_122 (by decide) ?_
                    refine lv_istore (lv' := [(4, .int 0), (0, .ref (g 0)), (1, .int p0), (2, .int p1), (3, .int p2)]) hx hb dX12_contract_123 hl (by decide) rfl (fun ls hl => ?_)
                    have lp10638 : ∀ (n : Nat) (x4_lp10638 : Int32) (v_lp10638 : Nat → Int32) (F_lp10638 : Nat → Nat → Int32) (H : Heap) (locs : List Loc) (ls : Array Slot), (0 ≤ x4_lp10638.toInt) → (2147483648 - x4_lp10638.toInt ≤ (n : Int)) → (∀ k, k ∉ ([] : List Nat) → v_lp10638 k = (va_up v_lp10533 30 0) k) → IM v_lp10638 F_lp10638 → (∀ k, k ∉ ([35, 36, 37, 38, 39, 40, 41] : List Nat) → F_lp10638 k = F k) → va_P (dC, dI) classes (wM g c v_lp10638 F_lp10638 rc) H → va_S (AM g s.heap.size) s.heap H locs → lv_has ls 5 [(4, .int x4_lp10638), (0, .ref (g 0)), (1, .int p0), (2, .int p1), (3, .int p2)] → W p l e (headSpec (Cond.code yX12_contract cX12_contract 5 (some .int) :: wA) ({ frames := 5, cells := 0, slots := 0, locals := 200 })).room s m ([.ref (g 0), .int p0, .int p1, .int p2] : List Value).toArray below meth c0 H locs 0 0 (MQ below (va_Qi (fun (r : Int32) (u : StM) => IM u.1 u.2.1 ∧ u.2.2 = rc ∧ (∀ k, k ∉ ([30, 39, 40, 42] : List Nat) → u.1 k = v k) ∧ (∀ k, k ∉ ([35, 36, 37, 38, 39, 40, 41] : List Nat) → u.2.1 k = F k) ∧ True) (BM dC dI g c) (AM g s.heap.size)) ([.ref (g 0), .int p0, .int p1, .int p2] : List Value).toArray s 0 0 (AM g s.heap.size)) (F0 m 125 ls []) := by
                      intro n
                      induction n with
                      | zero =>
                        intro x4_lp10638 v_lp10638 F_lp10638 H locs ls t10639 hm hf_lp10638 hI hF hP hS hl
                        exfalso
                        have := i32_rng x4_lp10638
                        have hI1 := hI.1
                        omega
                      | succ n ih_lp10638 =>
                        intro x4_lp10638 v_lp10638 F_lp10638 H locs ls t10639 hm hf_lp10638 hI hF hP hS hl
                        have rx4_lp10638 := i32_rng x4_lp10638
                        refine lv_iload hx hb dX12_contract_125 (lv_at hl 0 rfl) ?_
                        refine lv_aload_n hx hb dX12_contract_127 rfl (lv_at hl 1 rfl) ?_
                        refine va_get (D := (dC, dI)) (ci := 12) (v := .ref (g 37)) (C := RX12) (T := TX12) (N := 63) hx hb hwd inA_X12 hown hK hP 0 rfl rfl 51 (by decide) (hwd _ wk_219) (fun _ h9 => h9) rfl dX12_contract_128 ?_
                        refine lv_iload_n hx hb dX12_contract_131 rfl (lv_at hl 2 rfl) ?_
                        refine va_iald hx hb hK hP 37 36 rfl rfl (i := p0) (vin (a := p0.toInt) rfl (by omega)) dX12_contract_132 ?_
                        refine lv_topi (fun z10640 e10641 => ?_)
                        have t10642 : 0 ≤ z10640.toInt ∧ z10640.toInt ≤ 31 := by rw [e10641]; exact hI.2 37 _ _ rfl _
                        have tzz10640 : z10640.toInt = (F_lp10638 37 (p0 : Int32).toNatClampNeg).toInt := congrArg Int32.toInt e10641
                        refine lv_icmp_ge (tgt := 234) hx hb dX12_contract_133 (by decide) (fun c10643 => ?_) (fun c10643 => ?_)
                        · skip
                          have t10644 := cv_le (a := z10640.toInt) rfl (b := x4_lp10638.toInt) rfl c10643
                          refine lv_aload_n hx hb dX12_contract_234 rfl (lv_at hl 1 rfl) ?_
                          refine va_get (D := (dC, dI)) (ci := 12) (v := .ref (g 35)) (C := RX12) (T := TX12) (N := 63) hx hb hwd inA_X12 hown hK hP 0 rfl rfl 49 (by decide) (hwd _ wk_217) (fun _ h9 => h9) rfl dX12_contract_235 ?_
                          refine lv_iload_n hx hb dX12_contract_238 rfl (lv_at hl 2 rfl) ?_
                          refine lv_iload_n hx hb dX12_contract_239 rfl (lv_at hl 3 rfl) ?_
                          refine va_iast hx hb hK hP (DM hg) hS 35 34 rfl rfl (i := p0) (x := p1) (vin (a := p0.toInt) rfl (by omega)) dX12_contract_240 (fun H locs hP _ hS => ?_)
                          have hP := va_P_eq (sM_35 g c _ _ _ _) hP
                          have hI := IM.store0 hI 35 (p0 : Int32).toNatClampNeg p1 rfl
                          have hF := frUF (k := 35) (f := upd (F_lp10638 35) (p0 : Int32).toNatClampNeg p1) (by decide) hF
                          have st10646 : (va_up F_lp10638 35 (upd (F_lp10638 35) (p0 : Int32).toNatClampNeg p1)) 35 = upd (F_lp10638 35) (p0 : Int32).toNatClampNeg p1 := va_up_self _ _ _
                          have sn10647 : ∀ k9, k9 ≠ 35 → (va_up F_lp10638 35 (upd (F_lp10638 35) (p0 : Int32).toNatClampNeg p1)) k9 = F_lp10638 k9 := fun k9 h9 => va_up_ne _ _ h9
                          have hP : va_P (dC, dI) classes (wM g c v_lp10638 (va_up F_lp10638 35 (upd (F_lp10638 35) (p0 : Int32).toNatClampNeg p1)) rc) H := hP
                          generalize (va_up F_lp10638 35 (upd (F_lp10638 35) (p0 : Int32).toNatClampNeg p1)) = F10645 at hP hI hF st10646 sn10647
                          refine lv_aload_n hx hb dX12_contract_241 rfl (lv_at hl 1 rfl) ?_
                          refine va_get (D := (dC, dI)) (ci := 12) (v := .ref (g 36)) (C := RX12) (T := TX12) (N := 63) hx hb hwd inA_X12 hown hK hP 0 rfl rfl 50 (by decide) (hwd _ wk_218) (fun _ h9 => h9) rfl dX12_contract_242 ?_
                          refine lv_iload_n hx hb dX12_contract_245 rfl (lv_at hl 2 rfl) ?_
                          refine lv_iload_n hx hb dX12_contract_246 rfl (lv_at hl 4 rfl) ?_
                          refine va_iast hx hb hK hP (DM hg) hS 36 35 rfl rfl (i := p0) (x := p2) (vin (a := p0.toInt) rfl (by omega)) dX12_contract_247 (fun H locs hP _ hS => ?_)
                          have hP := va_P_eq (sM_36 g c _ _ _ _) hP
                          have hI := IM.store0 hI 36 (p0 : Int32).toNatClampNeg p2 rfl
                          have hF := frUF (k := 36) (f := upd (F10645 36) (p0 : Int32).toNatClampNeg p2) (by decide) hF
                          have st10649 : (va_up F10645 36 (upd (F10645 36) (p0 : Int32).toNatClampNeg p2)) 36 = upd (F10645 36) (p0 : Int32).toNatClampNeg p2 := va_up_self _ _ _
                          have sn10650 : ∀ k9, k9 ≠ 36 → (va_up F10645 36 (upd (F10645 36) (p0 : Int32).toNatClampNeg p2)) k9 = F10645 k9 := fun k9 h9 => va_up_ne _ _ h9
                          have hP : va_P (dC, dI) classes (wM g c v_lp10638 (va_up F10645 36 (upd (F10645 36) (p0 : Int32).toNatClampNeg p2)) rc) H := hP
                          generalize (va_up F10645 36 (upd (F10645 36) (p0 : Int32).toNatClampNeg p2)) = F10648 at hP hI hF st10649 sn10650
                          refine lv_aload_n hx hb dX12_contract_248 rfl (lv_at hl 1 rfl) ?_
                          refine va_get (D := (dC, dI)) (ci := 12) (v := .ref (g 37)) (C := RX12) (T := TX12) (N := 63) hx hb hwd inA_X12 hown hK hP 0 rfl rfl 51 (by decide) (hwd _ wk_219) (fun _ h9 => h9) rfl dX12_contract_249 ?_
                          refine lv_iload_n hx hb dX12_contract_252 rfl (lv_at hl 2 rfl) ?_
                          refine va_iald hx hb hK hP 37 36 rfl rfl (i := p0) (vin (a := p0.toInt) rfl (by omega)) dX12_contract_253 ?_
                          refine lv_topi (fun z10651 e10652 => ?_)
                          have t10653 : 0 ≤ z10651.toInt ∧ z10651.toInt ≤ 31 := by rw [e10652]; exact hI.2 37 _ _ rfl _
                          have tzz10651 : z10651.toInt = (F10648 37 (p0 : Int32).toNatClampNeg).toInt := congrArg Int32.toInt e10652
                          have hP9 : va_P (dC, dI) classes (wM g c v_lp10638 F10648 rc) H := hP
                          exact W.iret (v := z10651) hx hb hr (fun t ht hW => ⟨⟨z10651, (v_lp10638, F10648, rc), rfl, ⟨hI, rfl, (frC (by decide) hf_lp10638 (frU (by decide) (frC (by decide) hf_lp10533 (frC (by decide) hf10529 (frU (by decide) (frU (by decide) (fun _ _ => rfl))))))), hF, trivial⟩, (by show va_P _ _ _ t.heap; rw [ht]; exact hP9)⟩, hS.F ht⟩) hS.2.2 dX12_contract_254
                        · skip
                          have t10654 := cv_nle (a := z10640.toInt) rfl (b := x4_lp10638.toInt) rfl c10643
                          refine lv_aload_n hx hb dX12_contract_136 rfl (lv_at hl 1 rfl) ?_
                          refine va_get (D := (dC, dI)) (ci := 12) (v := .ref (g 38)) (C := RX12) (T := TX12) (N := 63) hx hb hwd inA_X12 hown hK hP 0 rfl rfl 52 (by decide) (hwd _ wk_220) (fun _ h9 => h9) rfl dX12_contract_137 ?_
                          refine lv_bipush (v := 32) hx hb dX12_contract_140 (by decide) ?_
                          refine lv_iload_n hx hb dX12_contract_142 rfl (lv_at hl 2 rfl) ?_
                          refine lv_imul hx hb dX12_contract_143 ?_
                          refine lv_topi (fun z10655 e10656 => ?_)
                          try (have t10657 := tmul e10656 (a := 32) (by decide) (b := p0.toInt) rfl (by omega))
                          refine lv_iload hx hb dX12_contract_144 (lv_at hl 0 rfl) ?_
                          refine lv_iadd hx hb dX12_contract_146 ?_
                          refine lv_topi (fun z10658 e10659 => ?_)
                          try (have t10660 := tadd e10659 (a := z10655.toInt) rfl (b := x4_lp10638.toInt) rfl (by omega))
                          refine lv_aload_n hx hb dX12_contract_147 rfl (lv_at hl 1 rfl) ?_
                          refine va_get (D := (dC, dI)) (ci := 12) (v := .ref (g 38)) (C := RX12) (T := TX12) (N := 63) hx hb hwd inA_X12 hown hK hP 0 rfl rfl 52 (by decide) (hwd _ wk_220) (fun _ h9 => h9) rfl dX12_contract_148 ?_
                          refine lv_sipush (v := 320) hx hb dX12_contract_151 (by decide) ?_
                          refine lv_iload hx hb dX12_contract_154 (lv_at hl 0 rfl) ?_
                          refine lv_iadd hx hb dX12_contract_156 ?_
                          refine lv_topi (fun z10661 e10662 => ?_)
                          try (have t10663 := tadd e10662 (a := 320) (by decide) (b := x4_lp10638.toInt) rfl (by omega))
                          refine va_iald hx hb hK hP 38 37 rfl rfl (i := z10661) (vin (a := z10661.toInt) rfl (by omega)) dX12_contract_157 ?_
                          refine lv_topi (fun z10664 e10665 => ?_)
                          have tzz10664 : z10664.toInt = (F_lp10638 38 (z10661 : Int32).toNatClampNeg).toInt := congrArg Int32.toInt e10665
                          refine va_iast hx hb hK hP (DM hg) hS 38 37 rfl rfl (i := z10658) (x := z10664) (vin (a := z10658.toInt) rfl (by omega)) dX12_contract_158 (fun H locs hP _ hS => ?_)
                          have hP := va_P_eq (sM_38 g c _ _ _ _) hP
                          have hI := IM.store0 hI 38 (z10658 : Int32).toNatClampNeg z10664 rfl
                          have hF := frUF (k := 38) (f := upd (F_lp10638 38) (z10658 : Int32).toNatClampNeg z10664) (by decide) hF
                          have st10667 : (va_up F_lp10638 38 (upd (F_lp10638 38) (z10658 : Int32).toNatClampNeg z10664)) 38 = upd (F_lp10638 38) (z10658 : Int32).toNatClampNeg z10664 := va_up_self _ _ _
                          have sn10668 : ∀ k9, k9 ≠ 38 → (va_up F_lp10638 38 (upd (F_lp10638 38) (z10658 : Int32).toNatClampNeg z10664)) k9 = F_lp10638 k9 := fun k9 h9 => va_up_ne _ _ h9
                          have hP : va_P (dC, dI) classes (wM g c v_lp10638 (va_up F_lp10638 38 (upd (F_lp10638 38) (z10658 : Int32).toNatClampNeg z10664)) rc) H := hP
                          generalize (va_up F_lp10638 38 (upd (F_lp10638 38) (z10658 : Int32).toNatClampNeg z10664)) = F10666 at hP hI hF st10667 sn10668
                          refine lv_aload_n hx hb dX12_contract_159 rfl (lv_at hl 1 rfl) ?_
                          refine va_get (D := (dC, dI)) (ci := 12) (v := .ref (g 39)) (C := RX12) (T := TX12) (N := 63) hx hb hwd inA_X12 hown hK hP 0 rfl rfl 53 (by decide) (hwd _ wk_221) (fun _ h9 => h9) rfl dX12_contract_160 ?_
                          refine lv_bipush (v := 32) hx hb dX12_contract_163 (by decide) ?_
                          refine lv_iload_n hx hb dX12_contract_165 rfl (lv_at hl 2 rfl) ?_
                          refine lv_imul hx hb dX12_contract_166 ?_
                          refine lv_topi (fun z10669 e10670 => ?_)
                          try (have t10671 := tmul e10670 (a := 32) (by decide) (b := p0.toInt) rfl (by omega))
                          refine lv_iload hx hb dX12_contract_167 (lv_at hl 0 rfl) ?_
                          refine lv_iadd hx hb dX12_contract_169 ?_
                          refine lv_topi (fun z10672 e10673 => ?_)
                          try (have t10674 := tadd e10673 (a := z10669.toInt) rfl (b := x4_lp10638.toInt) rfl (by omega))
                          refine lv_aload_n hx hb dX12_contract_170 rfl (lv_at hl 1 rfl) ?_
                          refine va_get (D := (dC, dI)) (ci := 12) (v := .ref (g 39)) (C := RX12) (T := TX12) (N := 63) hx hb hwd inA_X12 hown hK hP 0 rfl rfl 53 (by decide) (hwd _ wk_221) (fun _ h9 => h9) rfl dX12_contract_171 ?_
                          refine lv_sipush (v := 320) hx hb dX12_contract_174 (by decide) ?_
                          refine lv_iload hx hb dX12_contract_177 (lv_at hl 0 rfl) ?_
                          refine lv_iadd hx hb dX12_contract_179 ?_
                          refine lv_topi (fun z10675 e10676 => ?_)
                          try (have t10677 := tadd e10676 (a := 320) (by decide) (b := x4_lp10638.toInt) rfl (by omega))
                          refine va_iald hx hb hK hP 39 38 rfl rfl (i := z10675) (vin (a := z10675.toInt) rfl (by omega)) dX12_contract_180 ?_
                          refine lv_topi (fun z10678 e10679 => ?_)
                          have tzz10678 : z10678.toInt = (F10666 39 (z10675 : Int32).toNatClampNeg).toInt := congrArg Int32.toInt e10679
                          refine va_iast hx hb hK hP (DM hg) hS 39 38 rfl rfl (i := z10672) (x := z10678) (vin (a := z10672.toInt) rfl (by omega)) dX12_contract_181 (fun H locs hP _ hS => ?_)
                          have hP := va_P_eq (sM_39 g c _ _ _ _) hP
                          have hI := IM.store0 hI 39 (z10672 : Int32).toNatClampNeg z10678 rfl
                          have hF := frUF (k := 39) (f := upd (F10666 39) (z10672 : Int32).toNatClampNeg z10678) (by decide) hF
                          have st10681 : (va_up F10666 39 (upd (F10666 39) (z10672 : Int32).toNatClampNeg z10678)) 39 = upd (F10666 39) (z10672 : Int32).toNatClampNeg z10678 := va_up_self _ _ _
                          have sn10682 : ∀ k9, k9 ≠ 39 → (va_up F10666 39 (upd (F10666 39) (z10672 : Int32).toNatClampNeg z10678)) k9 = F10666 k9 := fun k9 h9 => va_up_ne _ _ h9
                          have hP : va_P (dC, dI) classes (wM g c v_lp10638 (va_up F10666 39 (upd (F10666 39) (z10672 : Int32).toNatClampNeg z10678)) rc) H := hP
                          generalize (va_up F10666 39 (upd (F10666 39) (z10672 : Int32).toNatClampNeg z10678)) = F10680 at hP hI hF st10681 sn10682
                          refine lv_aload_n hx hb dX12_contract_182 rfl (lv_at hl 1 rfl) ?_
                          refine va_get (D := (dC, dI)) (ci := 12) (v := .ref (g 40)) (C := RX12) (T := TX12) (N := 63) hx hb hwd inA_X12 hown hK hP 0 rfl rfl 54 (by decide) (hwd _ wk_222) (fun _ h9 => h9) rfl dX12_contract_183 ?_
                          refine lv_bipush (v := 32) hx hb dX12_contract_186 (by decide) ?_
                          refine lv_iload_n hx hb dX12_contract_188 rfl (lv_at hl 2 rfl) ?_
                          refine lv_imul hx hb dX12_contract_189 ?_
                          refine lv_topi (fun z10683 e10684 => ?_)
                          try (have t10685 := tmul e10684 (a := 32) (by decide) (b := p0.toInt) rfl (by omega))
                          refine lv_iload hx hb dX12_contract_190 (lv_at hl 0 rfl) ?_
                          refine lv_iadd hx hb dX12_contract_192 ?_
                          refine lv_topi (fun z10686 e10687 => ?_)
                          try (have t10688 := tadd e10687 (a := z10683.toInt) rfl (b := x4_lp10638.toInt) rfl (by omega))
                          refine lv_aload_n hx hb dX12_contract_193 rfl (lv_at hl 1 rfl) ?_
                          refine va_get (D := (dC, dI)) (ci := 12) (v := .ref (g 40)) (C := RX12) (T := TX12) (N := 63) hx hb hwd inA_X12 hown hK hP 0 rfl rfl 54 (by decide) (hwd _ wk_222) (fun _ h9 => h9) rfl dX12_contract_194 ?_
                          refine lv_sipush (v := 320) hx hb dX12_contract_197 (by decide) ?_
                          refine lv_iload hx hb dX12_contract_200 (lv_at hl 0 rfl) ?_
                          refine lv_iadd hx hb dX12_contract_202 ?_
                          refine lv_topi (fun z10689 e10690 => ?_)
                          try (have t10691 := tadd e10690 (a := 320) (by decide) (b := x4_lp10638.toInt) rfl (by omega))
                          refine va_iald hx hb hK hP 40 39 rfl rfl (i := z10689) (vin (a := z10689.toInt) rfl (by omega)) dX12_contract_203 ?_
                          refine lv_topi (fun z10692 e10693 => ?_)
                          have tzz10692 : z10692.toInt = (F10680 40 (z10689 : Int32).toNatClampNeg).toInt := congrArg Int32.toInt e10693
                          refine va_iast hx hb hK hP (DM hg) hS 40 39 rfl rfl (i := z10686) (x := z10692) (vin (a := z10686.toInt) rfl (by omega)) dX12_contract_204 (fun H locs hP _ hS => ?_)
                          have hP := va_P_eq (sM_40 g c _ _ _ _) hP
                          have hI := IM.store0 hI 40 (z10686 : Int32).toNatClampNeg z10692 rfl
                          have hF := frUF (k := 40) (f := upd (F10680 40) (z10686 : Int32).toNatClampNeg z10692) (by decide) hF
                          have st10695 : (va_up F10680 40 (upd (F10680 40) (z10686 : Int32).toNatClampNeg z10692)) 40 = upd (F10680 40) (z10686 : Int32).toNatClampNeg z10692 := va_up_self _ _ _
                          have sn10696 : ∀ k9, k9 ≠ 40 → (va_up F10680 40 (upd (F10680 40) (z10686 : Int32).toNatClampNeg z10692)) k9 = F10680 k9 := fun k9 h9 => va_up_ne _ _ h9
                          have hP : va_P (dC, dI) classes (wM g c v_lp10638 (va_up F10680 40 (upd (F10680 40) (z10686 : Int32).toNatClampNeg z10692)) rc) H := hP
                          generalize (va_up F10680 40 (upd (F10680 40) (z10686 : Int32).toNatClampNeg z10692)) = F10694 at hP hI hF st10695 sn10696
                          refine lv_aload_n hx hb dX12_contract_205 rfl (lv_at hl 1 rfl) ?_
                          refine va_get (D := (dC, dI)) (ci := 12) (v := .ref (g 41)) (C := RX12) (T := TX12) (N := 63) hx hb hwd inA_X12 hown hK hP 0 rfl rfl 55 (by decide) (hwd _ wk_223) (fun _ h9 => h9) rfl dX12_contract_206 ?_
                          refine lv_bipush (v := 32) hx hb dX12_contract_209 (by decide) ?_
                          refine lv_iload_n hx hb dX12_contract_211 rfl (lv_at hl 2 rfl) ?_
                          refine lv_imul hx hb dX12_contract_212 ?_
                          refine lv_topi (fun z10697 e10698 => ?_)
                          try (have t10699 := tmul e10698 (a := 32) (by decide) (b := p0.toInt) rfl (by omega))
                          refine lv_iload hx hb dX12_contract_213 (lv_at hl 0 rfl) ?_
                          refine lv_iadd hx hb dX12_contract_215 ?_
                          refine lv_topi (fun z10700 e10701 => ?_)
                          try (have t10702 := tadd e10701 (a := z10697.toInt) rfl (b := x4_lp10638.toInt) rfl (by omega))
                          refine lv_aload_n hx hb dX12_contract_216 rfl (lv_at hl 1 rfl) ?_
                          refine va_get (D := (dC, dI)) (ci := 12) (v := .ref (g 41)) (C := RX12) (T := TX12) (N := 63) hx hb hwd inA_X12 hown hK hP 0 rfl rfl 55 (by decide) (hwd _ wk_223) (fun _ h9 => h9) rfl dX12_contract_217 ?_
                          refine lv_sipush (v := 320) hx hb dX12_contract_220 (by decide) ?_
                          refine lv_iload hx hb dX12_contract_223 (lv_at hl 0 rfl) ?_
                          refine lv_iadd hx hb dX12_contract_225 ?_
                          refine lv_topi (fun z10703 e10704 => ?_)
                          try (have t10705 := tadd e10704 (a := 320) (by decide) (b := x4_lp10638.toInt) rfl (by omega))
                          refine va_iald hx hb hK hP 41 40 rfl rfl (i := z10703) (vin (a := z10703.toInt) rfl (by omega)) dX12_contract_226 ?_
                          refine lv_topi (fun z10706 e10707 => ?_)
                          have tzz10706 : z10706.toInt = (F10694 41 (z10703 : Int32).toNatClampNeg).toInt := congrArg Int32.toInt e10707
                          refine va_iast hx hb hK hP (DM hg) hS 41 40 rfl rfl (i := z10700) (x := z10706) (vin (a := z10700.toInt) rfl (by omega)) dX12_contract_227 (fun H locs hP _ hS => ?_)
                          have hP := va_P_eq (sM_41 g c _ _ _ _) hP
                          have hI := IM.store0 hI 41 (z10700 : Int32).toNatClampNeg z10706 rfl
                          have hF := frUF (k := 41) (f := upd (F10694 41) (z10700 : Int32).toNatClampNeg z10706) (by decide) hF
                          have st10709 : (va_up F10694 41 (upd (F10694 41) (z10700 : Int32).toNatClampNeg z10706)) 41 = upd (F10694 41) (z10700 : Int32).toNatClampNeg z10706 := va_up_self _ _ _
                          have sn10710 : ∀ k9, k9 ≠ 41 → (va_up F10694 41 (upd (F10694 41) (z10700 : Int32).toNatClampNeg z10706)) k9 = F10694 k9 := fun k9 h9 => va_up_ne _ _ h9
                          have hP : va_P (dC, dI) classes (wM g c v_lp10638 (va_up F10694 41 (upd (F10694 41) (z10700 : Int32).toNatClampNeg z10706)) rc) H := hP
                          generalize (va_up F10694 41 (upd (F10694 41) (z10700 : Int32).toNatClampNeg z10706)) = F10708 at hP hI hF st10709 sn10710
                          obtain ⟨z10711, e10712⟩ : ∃ y : Int32, y = x4_lp10638 + 1 := ⟨_, rfl⟩
                          try (have t10713 := tadd e10712 rfl (b := 1) (by decide) (by omega))
                          refine lv_iinc (v := z10711) (lv' := [(4, .int z10711), (0, .ref (g 0)), (1, .int p0), (2, .int p1), (3, .int p2)]) hx hb dX12_contract_228 hl (k := 0) rfl (by rw [e10712]; rfl) (by decide) rfl (fun ls hl => ?_)
                          refine lv_goto (tgt := 125) hx hb dX12_contract_231 (by decide) ?_
                          exact ih_lp10638 z10711 v_lp10638 F10708 _ _ _ (by omega) (by omega) hf_lp10638 hI hF hP hS (lv_sub hl [0, 1, 2, 3, 4] rfl)
                    obtain ⟨n9, hn9⟩ : ∃ n : Nat, 2147483648 - 0 ≤ (n : Int) := ⟨((2147483648 - 0 : Int)).toNat, by omega⟩
                    exact lp10638 n9 0 (va_up v_lp10533 30 0) F10635 H _ ls (by have : (0 : Int32).toInt = 0 := (by decide); omega) (by have : (0 : Int32).toInt = 0 := (by decide); omega) (fun _ _ => rfl) hI hF hP hS hl
                  · skip
                    have t10714 := cv_nlt (a := (v_lp10533 40).toInt) rfl (b := 0) (by decide) c10630
                    refine lv_bipush (v := (-100)) hx hb dX12_contract_101 (by decide) ?_
                    refine lv_aload_n hx hb dX12_contract_103 rfl (lv_at hl 0 rfl) ?_
                    refine va_get (D := (dC, dI)) (ci := 12) (v := .int (v_lp10533 40)) (C := RX12) (T := TX12) (N := 63) hx hb hwd inA_X12 hown hK hP 0 rfl rfl 40 (by decide) (hwd _ wk_1005) (fun _ h9 => h9) rfl dX12_contract_104 ?_
                    refine lv_isub hx hb dX12_contract_107 ?_
                    refine lv_topi (fun z10715 e10716 => ?_)
                    try (have t10717 := tsub e10716 (a := (-100)) (by decide) (b := (v_lp10533 40).toInt) rfl (by omega))
                    have hP9 : va_P (dC, dI) classes (wM g c (va_up v_lp10533 30 0) F_lp10533 rc) H := hP
                    exact W.iret (v := z10715) hx hb hr (fun t ht hW => ⟨⟨z10715, ((va_up v_lp10533 30 0), F_lp10533, rc), rfl, ⟨hI, rfl, (frU (by decide) (frC (by decide) hf_lp10533 (frC (by decide) hf10529 (frU (by decide) (frU (by decide) (fun _ _ => rfl)))))), hF, trivial⟩, (by show va_P _ _ _ t.heap; rw [ht]; exact hP9)⟩, hS.F ht⟩) hS.2.2 dX12_contract_108
                · skip
                  have t10718 := cv_nle (a := (v 30).toInt) rfl (b := (v_lp10533 39).toInt) rfl c10628
                  refine lv_aload_n hx hb dX12_contract_80 rfl (lv_at hl 0 rfl) ?_
                  refine lv_bipush (v := 10) hx hb dX12_contract_81 (by decide) ?_
                  have t10719 : 0 ≤ (v 30).toInt ∧ (v 30).toInt ≤ 120 := by have h9 := hI.1 30 _ _ rfl; rw [show v_lp10533 30 = v 30 from (hf_lp10533 30 (by decide)).trans (hf10529 30 (by decide))] at h9; exact h9
                  have t10720 : 0 ≤ (v_lp10533 39).toInt ∧ (v_lp10533 39).toInt ≤ 120 := hI.1 39 _ _ rfl
                  refine va_callv (va_runV (As := [.int 10]) (rest := []) ⟨hx, hb, hml, hown, hwd⟩ (c_X12_readLine l dC dI g c adK adV v_lp10533 F_lp10533 rc H.size  hg hI (by have h9 : v_lp10533 39 = v_lp10533 39 := rfl; (try rw [h9]); clear h9; have h9 : v_lp10533 30 = v 30 := (hf_lp10533 30 (by decide)).trans (hf10529 30 (by decide)); (try rw [h9]); clear h9; have b9 := t10534; omega)) (cwV 1 hwd (gV wk_1131 wk_1128 wk_1129 wk_1130 wk_5) rfl rfl rfl (by decide +kernel) ⟨Nat.le_of_ble_eq_true rfl, Nat.le_of_ble_eq_true rfl⟩) ⟨PM.blind, va_recv hK hP (ci := 12) (q0 := 0) rfl rfl, fun U hU hW => ⟨rfl, PM.at hK hE hP hS hU hW⟩⟩ rfl rfl hl.1 rfl (lv_room (Nat.le_of_ble_eq_true rfl)) dX12_contract_83 ⟨Nat.le_of_ble_eq_true rfl, Nat.le_of_ble_eq_true rfl⟩) hS (fun q _ h => (freeM hS) q h) (freeM hS) (fun u t H1 locs ht hvm hw hB hz1 hk1 hS => ?_)
                  unfold BM at hB
                  rw [ht] at hB
                  obtain ⟨v10722, F10723, rc9⟩ := u
                  obtain ⟨hI, hrc, hf10724, hG10725, hw⟩ := hw
                  dsimp only at hI hrc hB hf10724 hG10725 hw
                  have hF := frCF (by decide) hG10725 hF
                  rw [hrc] at hB
                  have hP : va_P (dC, dI) classes (wM g c v10722 F10723 rc) H1 := hB
                  replace hw : 4 * (F10723 37 (10 : Int32).toNatClampNeg).toInt ≤ (v10722 39).toInt ∧ (v10722 39).toInt ≤ (v_lp10533 30).toInt ∧ (v_lp10533 39).toInt ≤ (v10722 39).toInt ∧ ((v10722 40).toInt < 0 → (v_lp10533 39).toInt < (v10722 39).toInt) := hw
                  rw [show v_lp10533 30 = v 30 from (hf_lp10533 30 (by decide)).trans (hf10529 30 (by decide))] at hw
                  have hw_r10721 := hw
                  clear hw
                  have t10726 : 0 ≤ (v10722 39).toInt ∧ (v10722 39).toInt ≤ 120 := hI.1 39 _ _ rfl
                  have k10727 : (10 : Int32).toInt = 10 := by decide
                  clear hz1
                  generalize H1 = H at hP hS ⊢
                  refine lv_goto (tgt := 62) hx hb dX12_contract_86 (by decide) ?_
                  exact ih_lp10533  v10722 F10723 _ _ _ (by have h9 : v10722 39 = v10722 39 := rfl; (try rw [h9]); clear h9; have h9 : v10722 30 = v 30 := (hf10724 30 (by decide)).trans ((hf_lp10533 30 (by decide)).trans (hf10529 30 (by decide))); (try rw [h9]); clear h9; omega) (by have h9 : v10722 39 = v10722 39 := rfl; (try rw [h9]); clear h9; have h9 : v10722 40 = v10722 40 := rfl; (try rw [h9]); clear h9; omega) (frC (by decide) hf10724 hf_lp10533) hI hF hP hS (lv_sub hl [0, 1, 2, 3] rfl)
          obtain ⟨n9, hn9⟩ : ∃ n : Nat, n = 200 := ⟨_, rfl⟩
          exact lp10533 n9  v10527 F10528 H _ ls (by have h9 : v10527 39 = v10527 39 := rfl; (try rw [h9]); clear h9; have h9 : v10527 30 = v 30 := hf10529 30 (by decide); (try rw [h9]); clear h9; omega) (by have h9 : v10527 39 = v10527 39 := rfl; (try rw [h9]); clear h9; have h9 : v10527 40 = v10527 40 := rfl; (try rw [h9]); clear h9; omega) (fun _ _ => rfl) hI hF hP hS hl
        · skip
          have t10728 := cv_ne (a := r10519.toInt) rfl (b := 0) (by decide) c10520
          refine lv_bipush (v := (-2)) hx hb dX12_contract_35 (by decide) ?_
          have hP9 : va_P (dC, dI) classes (wM g c v F rc) H := hP
          exact W.iret (v := (-2)) hx hb hr (fun t ht hW => ⟨⟨(-2), (v, F, rc), rfl, ⟨hI, rfl, (fun _ _ => rfl), hF, trivial⟩, (by show va_P _ _ _ t.heap; rw [ht]; exact hP9)⟩, hS.F ht⟩) hS.2.2 dX12_contract_37
      · skip
        have t10729 := cv_eq (a := r10514.toInt) rfl (b := 0) (by decide) c10517
        refine lv_iconst (v := (-1)) hx hb dX12_contract_25 (by decide) ?_
        have hP9 : va_P (dC, dI) classes (wM g c v F rc) H := hP
        exact W.iret (v := (-1)) hx hb hr (fun t ht hW => ⟨⟨(-1), (v, F, rc), rfl, ⟨hI, rfl, (fun _ _ => rfl), hF, trivial⟩, (by show va_P _ _ _ t.heap; rw [ht]; exact hP9)⟩, hS.F ht⟩) hS.2.2 dX12_contract_26
