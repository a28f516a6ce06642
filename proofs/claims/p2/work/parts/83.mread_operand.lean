set_option maxHeartbeats 8000000 in
set_option maxRecDepth 100000 in
theorem c_X12_operand (D : Int) (fr lc : Nat) (rO : RPM yX12_operand (Cond.code yX12_operand cX12_operand 2 none) (D + 1) fr lc) (rE : RPM yX12_either (Cond.code yX12_either cX12_either 2 none) (D + 1) (fr + 3) (lc + 120)) (l : Launch) (dC : Nat → ClassId) (dI : Nat → Nat → Nat) (g : Nat → Nat) (c : Nat → ClassId) (adK adV : Nat → Nat) (v : Nat → Int32) (F : Nat → Nat → Int32) (rc sz : Nat) (d : Nat) (hg : injM g) (hI : IM v F) (hq : (v 38).toInt ≤ (v 39).toInt ∧ (v 39).toInt ≤ (v 30).toInt ∧ (v 40).toInt < 0 ∧ (v 41).toInt = D) (hdp : dp (F 28) (F 29) (bI (v 37)) (v 38).toInt.toNat = some d) : Met l yX12_operand (Cond.code yX12_operand cX12_operand 2 none :: wA) ({ frames := fr + 4, cells := 0, slots := 0, locals := lc + 160 }) (va_Pc [.ref (g 0)] (PM dC dI g c adK adV v F rc sz)) (va_Qv (fun (u : StM) => IM u.1 u.2.1 ∧ u.2.2 = rc ∧ (∀ k, k ∉ ([38, 39, 40, 41, 42] : List Nat) → u.1 k = v k) ∧ (∀ k, k ∉ ([28, 29] : List Nat) → u.2.1 k = F k) ∧ (((v 39).toInt ≤ (u.1 39).toInt ∧ (u.1 39).toInt ≤ (v 30).toInt ∧ (v 38).toInt ≤ (u.1 38).toInt ∧ (u.1 38).toInt - (v 38).toInt ≤ (u.1 39).toInt - (v 39).toInt ∧ (v 41).toInt ≤ (u.1 41).toInt ∧ ((u.1 40).toInt < 0 → (u.1 41).toInt = (v 41).toInt)) ∧ keepL (v 37) (F 28) (F 29) (u.2.1 28) (u.2.1 29) ∧ ((u.1 40).toInt < 0 → dp (u.2.1 28) (u.2.1 29) (bI (v 37)) (u.1 38).toInt.toNat = some (d + 1)))) (BM dC dI g c) (AM g sz)) 0 0 (AM g sz) := by
  refine Met.ofW (cc := cX12_operand) (maxL := 2) (ret := none) (by decide) rfl ?_
  intro p e s m args below meth c0 s₁ B hml hv
  obtain ⟨rfl, hsz, hP, hK, hE⟩ := hv
  have hx := B.exec
  have hb := B.bytes
  have hr := B.returns
  have hts := atoms_spec (ws := Cond.code yX12_operand cX12_operand 2 none :: wA) B.pre
  have hwd : ∀ w ∈ wA, w.before _ s = true := fun w h => hts w (List.mem_cons_of_mem _ h)
  have hown : s.vm.findClass RX12 = some m.cls := findClass_of_methodNamed B.named
  have hlocks := B.notSynchronized
  subst hsz
  have hl := lv_entry ([.ref (g 0)]) (n := 2) (Nat.le_of_ble_eq_true rfl)
  rw [lg_entry_eq]
  generalize (lg_sl ([.ref (g 0)]) ++ List.replicate (2 - (lg_sl ([.ref (g 0)])).length) Slot.unset).toArray = ls at hl ⊢
  have hl : lv_has ls 2 [(0, .ref (g 0))] := hl
  obtain ⟨H, eH⟩ : ∃ z, z = s.heap := ⟨_, rfl⟩
  have hP : va_P (dC, dI) classes (wM g c v F rc) H := by rw [eH]; exact hP
  have hS : va_S (AM g s.heap.size) s.heap H [] := by rw [eH]; exact va_S.rf
  refine my_heap eH ?_
  have hF : ∀ k, k ∉ ([28, 29] : List Nat) → F k = F k := fun _ _ => rfl
  have hb30 : 0 ≤ (v 30).toInt ∧ (v 30).toInt ≤ 120 := hI.1 30 _ _ rfl
  have hb37 : 0 ≤ (v 37).toInt ∧ (v 37).toInt ≤ 9 := hI.1 37 _ _ rfl
  have hb38 : 0 ≤ (v 38).toInt ∧ (v 38).toInt ≤ 120 := hI.1 38 _ _ rfl
  have hb39 : 0 ≤ (v 39).toInt ∧ (v 39).toInt ≤ 120 := hI.1 39 _ _ rfl
  have hb41 : 0 ≤ (v 41).toInt ∧ (v 41).toInt ≤ 8 := hI.1 41 _ _ rfl
  have hk : keepL (v 37) (F 28) (F 29) (F 28) (F 29) := keepL.rf
  have hd : (v 40).toInt < 0 → dp (F 28) (F 29) (bI (v 37)) (v 38).toInt.toNat = some d := fun _ => hdp
  refine lv_aload_n hx hb dX12_operand_0 rfl (lv_at hl 0 rfl) ?_
  have t10863 : 0 ≤ (v 30).toInt ∧ (v 30).toInt ≤ 120 := hI.1 30 _ _ rfl
  have t10864 : 0 ≤ (v 39).toInt ∧ (v 39).toInt ≤ 120 := hI.1 39 _ _ rfl
  refine va_calli (va_runV (As := []) (rest := []) ⟨hx, hb, hml, hown, hwd⟩ (c_X12_look l dC dI g c adK adV v F rc H.size  hg hI ) (cwV 0 hwd (gV wk_1017 wk_1014 wk_1015 wk_1016 wk_5) rfl rfl rfl (by decide +kernel) ⟨(by show 1 + 1 ≤ fr + 4; omega), (by show 8 + (1 + 11) + (40) ≤ lc + 160; omega)⟩) ⟨PM.blind, va_recv hK hP (ci := 12) (q0 := 0) rfl rfl, fun U hU hW => ⟨rfl, PM.at hK hE hP hS hU hW⟩⟩ rfl rfl hl.1 rfl (lv_room (Nat.le_of_ble_eq_true rfl)) dX12_operand_1 ⟨Nat.le_of_ble_eq_true rfl, Nat.le_of_ble_eq_true rfl⟩) hS (fun q _ h => (freeM hS) q h) (freeM hS) (fun r10865 u t H1 locs ht hvm hw hB hz1 hk1 hS => ?_)
  unfold BM at hB
  rw [ht] at hB
  have hP : va_P (dC, dI) classes (wM g c v F rc) H1 := hB
  replace hw : r10865.toInt = lkM (v 39) (v 30) (F 24) ∧ ((v 39).toInt < (v 30).toInt ∨ r10865.toInt = -1) := hw
  have hw_r10865 := hw
  clear hw
  clear hz1
  generalize H1 = H at hP hS ⊢
  refine lv_istore_n (lv' := [(1, .int r10865), (0, .ref (g 0))]) hx hb dX12_operand_4 rfl hl (by decide) rfl (fun ls hl => ?_)
  refine lv_iload_n hx hb dX12_operand_5 rfl (lv_at hl 0 rfl) ?_
  refine va_calli (va_runS (As := [.int r10865]) (rest := []) ⟨hx, hb, hml, hown, hwd⟩ (c_X12_nameOf l dC dI g c adK adV v F rc H.size r10865 hg hI ) (va_cwS 1 hwd (gT wk_1034 wk_1032 wk_1033 wk_5) rfl rfl rfl (by decide +kernel) ⟨(by show 1 + 1 ≤ fr + 4; omega), (by show 8 + (1 + 11) + (40) ≤ lc + 160; omega)⟩) ⟨PM.blind, fun U hU hW => ⟨rfl, PM.at hK hE hP hS hU hW⟩⟩ rfl rfl hl.1 rfl (lv_room (Nat.le_of_ble_eq_true rfl)) dX12_operand_6 ⟨Nat.le_of_ble_eq_true rfl, Nat.le_of_ble_eq_true rfl⟩) hS (fun q _ h => (freeM hS) q h) (freeM hS) (fun r10866 u t H1 locs ht hvm hw hB hz1 hk1 hS => ?_)
  unfold BM at hB
  rw [ht] at hB
  have hP : va_P (dC, dI) classes (wM g c v F rc) H1 := hB
  have hw_r10866 : r10866.toInt = nmM r10865 ∧ (-1 ≤ r10866.toInt ∧ r10866.toInt ≤ 5) := hw
  clear hw
  clear hz1
  generalize H1 = H at hP hS ⊢
  have np_r10866 := nmM_pos r10865
  refine lv_if_lt (tgt := 34) hx hb dX12_operand_9 (by decide) (fun c10867 => ?_) (fun c10867 => ?_)
  · skip
    have t10868 := cv_lt (a := r10866.toInt) rfl (b := 0) (by decide) c10867
    refine lv_iload_n hx hb dX12_operand_34 rfl (lv_at hl 0 rfl) ?_
    refine lv_bipush (v := 45) hx hb dX12_operand_35 (by decide) ?_
    refine lv_icmp_ne (tgt := 71) hx hb dX12_operand_37 (by decide) (fun c10869 => ?_) (fun c10869 => ?_)
    · skip
      have t10870 := cv_ne (a := r10865.toInt) rfl (b := 45) (by decide) c10869
      refine lv_iload_n hx hb dX12_operand_71 rfl (lv_at hl 0 rfl) ?_
      refine lv_bipush (v := 40) hx hb dX12_operand_72 (by decide) ?_
      refine lv_icmp_ne (tgt := 134) hx hb dX12_operand_74 (by decide) (fun c10871 => ?_) (fun c10871 => ?_)
      · skip
        have t10872 := cv_ne (a := r10865.toInt) rfl (b := 40) (by decide) c10871
        refine lv_aload_n hx hb dX12_operand_134 rfl (lv_at hl 1 rfl) ?_
        have t10873 : 0 ≤ (v 30).toInt ∧ (v 30).toInt ≤ 120 := hI.1 30 _ _ rfl
        have t10874 : 0 ≤ (v 39).toInt ∧ (v 39).toInt ≤ 120 := hI.1 39 _ _ rfl
        refine va_calli (va_runV (As := []) (rest := []) ⟨hx, hb, hml, hown, hwd⟩ (c_X12_digits l dC dI g c adK adV v F rc H.size  hg hI (by have h9 : v 39 = v 39 := rfl; (try rw [h9]); clear h9; have h9 : v 30 = v 30 := rfl; (try rw [h9]); clear h9; omega)) (cwV 0 hwd (gV wk_1041 wk_1038 wk_1039 wk_1040 wk_5) rfl rfl rfl (by decide +kernel) ⟨(by show 2 + 1 ≤ fr + 4; omega), (by show 8 + (2 + 11) + (80) ≤ lc + 160; omega)⟩) ⟨PM.blind, va_recv hK hP (ci := 12) (q0 := 0) rfl rfl, fun U hU hW => ⟨rfl, PM.at hK hE hP hS hU hW⟩⟩ rfl rfl hl.1 rfl (lv_room (Nat.le_of_ble_eq_true rfl)) dX12_operand_135 ⟨Nat.le_of_ble_eq_true rfl, Nat.le_of_ble_eq_true rfl⟩) hS (fun q _ h => (freeM hS) q h) (freeM hS) (fun r10875 u t H1 locs ht hvm hw hB hz1 hk1 hS => ?_)
        unfold BM at hB
        rw [ht] at hB
        obtain ⟨v10876, F10877, rc9⟩ := u
        obtain ⟨hI, hrc, hf10878, hG10879, hw⟩ := hw
        dsimp only at hI hrc hB hf10878 hG10879 hw
        have hF := frCF (by decide) hG10879 hF
        rw [hrc] at hB
        have hP : va_P (dC, dI) classes (wM g c v10876 F10877 rc) H1 := hB
        replace hw : (r10875.toInt = 1 ∧ (v 39).toInt < (v10876 39).toInt ∧ (v10876 39).toInt ≤ (v 30).toInt ∧ (v10876 40).toInt = (v 40).toInt) ∨ (r10875.toInt = 0 ∧ 0 ≤ (v10876 40).toInt ∧ (v 39).toInt ≤ (v10876 39).toInt ∧ (v10876 39).toInt ≤ (v 30).toInt) := hw
        have hw_r10875 := hw
        clear hw
        have t10880 : 0 ≤ (v10876 39).toInt ∧ (v10876 39).toInt ≤ 120 := hI.1 39 _ _ rfl
        clear hz1
        generalize H1 = H at hP hS ⊢
        replace hk : keepL (v 37) (F 28) (F 29) (F10877 28) (F10877 29) := by rw [hG10879 28 (by decide), hG10879 29 (by decide)]; exact hk
        replace hd : (v10876 40).toInt < 0 → dp (F10877 28) (F10877 29) (bI (v 37)) (v 38).toInt.toNat = some d := fun hf => (by rw [hG10879 28 (by decide), hG10879 29 (by decide)]; exact hd (by omega))
        refine lv_if_eq (tgt := 150) hx hb dX12_operand_138 (by decide) (fun c10881 => ?_) (fun c10881 => ?_)
        · skip
          have t10882 := cv_eq (a := r10875.toInt) rfl (b := 0) (by decide) c10881
          have hP9 : va_P (dC, dI) classes (wM g c v10876 F10877 rc) H := hP
          exact W.vret hx hb hr (fun t ht hW => ⟨⟨(v10876, F10877, rc), rfl, ⟨hI, rfl, (frC (by decide) hf10878 (fun _ _ => rfl)), hF, (by show ((v 39).toInt ≤ (v10876 39).toInt ∧ (v10876 39).toInt ≤ (v 30).toInt ∧ (v 38).toInt ≤ (v10876 38).toInt ∧ (v10876 38).toInt - (v 38).toInt ≤ (v10876 39).toInt - (v 39).toInt ∧ (v 41).toInt ≤ (v10876 41).toInt ∧ ((v10876 40).toInt < 0 → (v10876 41).toInt = (v 41).toInt)) ∧ keepL (v 37) (F 28) (F 29) (F10877 28) (F10877 29) ∧ ((v10876 40).toInt < 0 → dp (F10877 28) (F10877 29) (bI (v 37)) (v10876 38).toInt.toNat = some (d + 1)); rw [show v10876 38 = v 38 from hf10878 38 (by decide)]; rw [show v10876 41 = v 41 from hf10878 41 (by decide)]; exact ⟨by omega, hk, fun hf => (hd (by omega)).trans (congrArg some (by omega))⟩)⟩, (by show va_P _ _ _ t.heap; rw [ht]; exact hP9)⟩, hS.F ht⟩) hS.2.2 dX12_operand_150
        · skip
          have t10883 := cv_ne (a := r10875.toInt) rfl (b := 0) (by decide) c10881
          refine lv_aload_n hx hb dX12_operand_141 rfl (lv_at hl 1 rfl) ?_
          refine lv_iconst (v := 1) hx hb dX12_operand_142 (by decide) ?_
          refine lv_aload_n hx hb dX12_operand_143 rfl (lv_at hl 1 rfl) ?_
          refine va_get (D := (dC, dI)) (ci := 12) (v := .int (v10876 42)) (C := RX12) (T := TX12) (N := 63) hx hb hwd inA_X12 hown hK hP 0 rfl rfl 42 (by decide) (hwd _ wk_1031) (fun _ h9 => h9) rfl dX12_operand_144 ?_
          have t10884 : 0 ≤ (v 37).toInt ∧ (v 37).toInt ≤ 9 := by have h9 := hI.1 37 _ _ rfl; rw [show v10876 37 = v 37 from hf10878 37 (by decide)] at h9; exact h9
          have t10885 : 0 ≤ (v 38).toInt ∧ (v 38).toInt ≤ 120 := by have h9 := hI.1 38 _ _ rfl; rw [show v10876 38 = v 38 from hf10878 38 (by decide)] at h9; exact h9
          refine va_callv (va_runV (As := [.int 1, .int (v10876 42)]) (rest := []) ⟨hx, hb, hml, hown, hwd⟩ (c_X12_lay l dC dI g c adK adV v10876 F10877 rc H.size 1 (v10876 42) hg hI (by have h9 : v10876 38 = v 38 := hf10878 38 (by decide); rw [h9]; omega)) (cwV 2 hwd (gV wk_1021 wk_1018 wk_1019 wk_1020 wk_5) rfl rfl rfl (by decide +kernel) ⟨(by show 1 + 1 ≤ fr + 4; omega), (by show 8 + (3 + 11) + (40) ≤ lc + 160; omega)⟩) ⟨PM.blind, va_recv hK hP (ci := 12) (q0 := 0) rfl rfl, fun U hU hW => ⟨rfl, PM.at hK hE hP hS hU hW⟩⟩ rfl rfl hl.1 rfl (lv_room (Nat.le_of_ble_eq_true rfl)) dX12_operand_147 ⟨Nat.le_of_ble_eq_true rfl, Nat.le_of_ble_eq_true rfl⟩) hS (fun q _ h => (freeM hS) q h) (freeM hS) (fun u t H1 locs ht hvm hw hB hz1 hk1 hS => ?_)
          unfold BM at hB
          rw [ht] at hB
          obtain ⟨v10887, F10888, rc9⟩ := u
          obtain ⟨hI, hrc, hf10889, hG10890, hw⟩ := hw
          dsimp only at hI hrc hB hf10889 hG10890 hw
          have hF := frCF (by decide) hG10890 hF
          rw [hrc] at hB
          have hP : va_P (dC, dI) classes (wM g c v10887 F10888 rc) H1 := hB
          replace hw : (v10887 38).toInt = (v10876 38).toInt + 1 ∧ keepL (v10876 37) (F10877 28) (F10877 29) (F10888 28) (F10888 29) ∧ dp (F10888 28) (F10888 29) (bI (v10876 37)) ((v10876 38).toInt.toNat + 1) = dpS (dp (F10877 28) (F10877 29) (bI (v10876 37)) (v10876 38).toInt.toNat) (1 : Int32) (v10876 42) := hw
          rw [show v10876 38 = v 38 from hf10878 38 (by decide)] at hw
          rw [show v10876 37 = v 37 from hf10878 37 (by decide)] at hw
          have hw_r10886 := hw
          clear hw
          have t10891 : 0 ≤ (v10887 38).toInt ∧ (v10887 38).toInt ≤ 120 := hI.1 38 _ _ rfl
          have k10892 : (1 : Int32).toInt = 1 := by decide
          clear hz1
          generalize H1 = H at hP hS ⊢
          replace hk := hk.tr hw_r10886.2.1
          replace hd : (v10876 40).toInt < 0 → dp (F10888 28) (F10888 29) (bI (v 37)) (v10887 38).toInt.toNat = some (d + 1) := fun hf => (by have e9 : (v10887 38).toInt.toNat = (v 38).toInt.toNat + 1 := (by omega); rw [e9, hw_r10886.2.2, hd hf]; exact dpS_1 (by decide))
          replace hw_r10886 := hw_r10886.1
          have hP9 : va_P (dC, dI) classes (wM g c v10887 F10888 rc) H := hP
          exact W.vret hx hb hr (fun t ht hW => ⟨⟨(v10887, F10888, rc), rfl, ⟨hI, rfl, (frC (by decide) hf10889 (frC (by decide) hf10878 (fun _ _ => rfl))), hF, (by show ((v 39).toInt ≤ (v10887 39).toInt ∧ (v10887 39).toInt ≤ (v 30).toInt ∧ (v 38).toInt ≤ (v10887 38).toInt ∧ (v10887 38).toInt - (v 38).toInt ≤ (v10887 39).toInt - (v 39).toInt ∧ (v 41).toInt ≤ (v10887 41).toInt ∧ ((v10887 40).toInt < 0 → (v10887 41).toInt = (v 41).toInt)) ∧ keepL (v 37) (F 28) (F 29) (F10888 28) (F10888 29) ∧ ((v10887 40).toInt < 0 → dp (F10888 28) (F10888 29) (bI (v 37)) (v10887 38).toInt.toNat = some (d + 1)); rw [show v10887 39 = v10876 39 from hf10889 39 (by decide)]; rw [show v10887 41 = v 41 from (hf10889 41 (by decide)).trans (hf10878 41 (by decide))]; rw [show v10887 40 = v10876 40 from hf10889 40 (by decide)]; exact ⟨by omega, hk, fun hf => (hd (by omega)).trans (congrArg some (by omega))⟩)⟩, (by show va_P _ _ _ t.heap; rw [ht]; exact hP9)⟩, hS.F ht⟩) hS.2.2 dX12_operand_150
      · skip
        have t10893 := cv_eq (a := r10865.toInt) rfl (b := 40) (by decide) c10871
        refine lv_aload_n hx hb dX12_operand_77 rfl (lv_at hl 1 rfl) ?_
        have t10894 : 0 ≤ (v 39).toInt ∧ (v 39).toInt ≤ 120 := hI.1 39 _ _ rfl
        have t10895 : 0 ≤ (v 41).toInt ∧ (v 41).toInt ≤ 8 := hI.1 41 _ _ rfl
        refine va_calli (va_runV (As := []) (rest := []) ⟨hx, hb, hml, hown, hwd⟩ (c_X12_opens l dC dI g c adK adV v F rc H.size  hg hI (by have h9 : v 39 = v 39 := rfl; (try rw [h9]); clear h9; have h9 : v 30 = v 30 := rfl; (try rw [h9]); clear h9; omega)) (cwV 0 hwd (gV wk_1025 wk_1022 wk_1023 wk_1024 wk_5) rfl rfl rfl (by decide +kernel) ⟨(by show 2 + 1 ≤ fr + 4; omega), (by show 8 + (1 + 11) + (80) ≤ lc + 160; omega)⟩) ⟨PM.blind, va_recv hK hP (ci := 12) (q0 := 0) rfl rfl, fun U hU hW => ⟨rfl, PM.at hK hE hP hS hU hW⟩⟩ rfl rfl hl.1 rfl (lv_room (Nat.le_of_ble_eq_true rfl)) dX12_operand_78 ⟨Nat.le_of_ble_eq_true rfl, Nat.le_of_ble_eq_true rfl⟩) hS (fun q _ h => (freeM hS) q h) (freeM hS) (fun r10896 u t H1 locs ht hvm hw hB hz1 hk1 hS => ?_)
        unfold BM at hB
        rw [ht] at hB
        obtain ⟨v10897, F10898, rc9⟩ := u
        obtain ⟨hI, hrc, hf10899, hG10900, hw⟩ := hw
        dsimp only at hI hrc hB hf10899 hG10900 hw
        have hF := frCF (by decide) hG10900 hF
        rw [hrc] at hB
        have hP : va_P (dC, dI) classes (wM g c v10897 F10898 rc) H1 := hB
        replace hw : (r10896.toInt = 1 ∧ (v 41).toInt < 8 ∧ (v10897 41).toInt = (v 41).toInt + 1 ∧ (v10897 39).toInt = (v 39).toInt + 1 ∧ (v10897 40).toInt = (v 40).toInt) ∨ (r10896.toInt = 0 ∧ (v 41).toInt = 8 ∧ 0 ≤ (v10897 40).toInt ∧ (v10897 41).toInt = (v 41).toInt ∧ (v10897 39).toInt = (v 39).toInt) := hw
        have hw_r10896 := hw
        clear hw
        have t10901 : 0 ≤ (v10897 39).toInt ∧ (v10897 39).toInt ≤ 120 := hI.1 39 _ _ rfl
        have t10902 : 0 ≤ (v10897 41).toInt ∧ (v10897 41).toInt ≤ 8 := hI.1 41 _ _ rfl
        clear hz1
        generalize H1 = H at hP hS ⊢
        replace hk : keepL (v 37) (F 28) (F 29) (F10898 28) (F10898 29) := by rw [hG10900 28 (by decide), hG10900 29 (by decide)]; exact hk
        replace hd : (v10897 40).toInt < 0 → dp (F10898 28) (F10898 29) (bI (v 37)) (v 38).toInt.toNat = some d := fun hf => (by rw [hG10900 28 (by decide), hG10900 29 (by decide)]; exact hd (by omega))
        refine lv_if_ne (tgt := 85) hx hb dX12_operand_81 (by decide) (fun c10903 => ?_) (fun c10903 => ?_)
        · skip
          have t10904 := cv_ne (a := r10896.toInt) rfl (b := 0) (by decide) c10903
          refine lv_aload_n hx hb dX12_operand_85 rfl (lv_at hl 1 rfl) ?_
          have t10905 : 0 ≤ (v 30).toInt ∧ (v 30).toInt ≤ 120 := by have h9 := hI.1 30 _ _ rfl; rw [show v10897 30 = v 30 from hf10899 30 (by decide)] at h9; exact h9
          have t10906 : 0 ≤ (v 37).toInt ∧ (v 37).toInt ≤ 9 := by have h9 := hI.1 37 _ _ rfl; rw [show v10897 37 = v 37 from hf10899 37 (by decide)] at h9; exact h9
          have t10907 : 0 ≤ (v 38).toInt ∧ (v 38).toInt ≤ 120 := by have h9 := hI.1 38 _ _ rfl; rw [show v10897 38 = v 38 from hf10899 38 (by decide)] at h9; exact h9
          have t10908 : 0 ≤ (v10897 39).toInt ∧ (v10897 39).toInt ≤ 120 := hI.1 39 _ _ rfl
          have t10909 : 0 ≤ (v10897 41).toInt ∧ (v10897 41).toInt ≤ 8 := hI.1 41 _ _ rfl
          refine va_callv (va_runV (As := []) (rest := []) ⟨hx, hb, hml, hown, hwd⟩ (rE l dC dI g c adK adV v10897 F10898 rc H.size  d hg hI (by have h9 : v10897 38 = v 38 := hf10899 38 (by decide); (try rw [h9]); clear h9; have h9 : v10897 39 = v10897 39 := rfl; (try rw [h9]); clear h9; have h9 : v10897 30 = v 30 := hf10899 30 (by decide); (try rw [h9]); clear h9; have h9 : v10897 40 = v10897 40 := rfl; (try rw [h9]); clear h9; have h9 : v10897 41 = v10897 41 := rfl; (try rw [h9]); clear h9; omega) (by have h9 : v10897 37 = (v 37) := hf10899 37 (by decide); have h8 : v10897 38 = (v 38) := hf10899 38 (by decide); (try rw [h9]); (try rw [h8]); exact hd (by omega))) (cwV 0 hwd (gV wk_1010 wk_1007 wk_1008 wk_1009 wk_5) rfl rfl rfl (by decide +kernel) ⟨(by show fr + 3 + 1 ≤ fr + 4; omega), (by show 8 + (2 + 11) + (lc + 120) ≤ lc + 160; omega)⟩) ⟨PM.blind, va_recv hK hP (ci := 12) (q0 := 0) rfl rfl, fun U hU hW => ⟨rfl, PM.at hK hE hP hS hU hW⟩⟩ rfl rfl hl.1 rfl (lv_room (Nat.le_of_ble_eq_true rfl)) dX12_operand_86 ⟨Nat.le_of_ble_eq_true rfl, Nat.le_of_ble_eq_true rfl⟩) hS (fun q _ h => (freeM hS) q h) (freeM hS) (fun u t H1 locs ht hvm hw hB hz1 hk1 hS => ?_)
          unfold BM at hB
          rw [ht] at hB
          obtain ⟨v10911, F10912, rc9⟩ := u
          obtain ⟨hI, hrc, hf10913, hG10914, hw⟩ := hw
          dsimp only at hI hrc hB hf10913 hG10914 hw
          have hF := frCF (by decide) hG10914 hF
          rw [hrc] at hB
          have hP : va_P (dC, dI) classes (wM g c v10911 F10912 rc) H1 := hB
          replace hw : ((v10897 39).toInt ≤ (v10911 39).toInt ∧ (v10911 39).toInt ≤ (v10897 30).toInt ∧ (v10897 38).toInt ≤ (v10911 38).toInt ∧ (v10911 38).toInt - (v10897 38).toInt ≤ (v10911 39).toInt - (v10897 39).toInt ∧ (v10897 41).toInt ≤ (v10911 41).toInt ∧ ((v10911 40).toInt < 0 → (v10911 41).toInt = (v10897 41).toInt)) ∧ keepL (v10897 37) (F10898 28) (F10898 29) (F10912 28) (F10912 29) ∧ ((v10911 40).toInt < 0 → dp (F10912 28) (F10912 29) (bI (v10897 37)) (v10911 38).toInt.toNat = some (d + 1)) := hw
          rw [show v10897 30 = v 30 from hf10899 30 (by decide)] at hw
          rw [show v10897 38 = v 38 from hf10899 38 (by decide)] at hw
          rw [show v10897 37 = v 37 from hf10899 37 (by decide)] at hw
          have hw_r10910 := hw
          clear hw
          have t10915 : 0 ≤ (v10911 38).toInt ∧ (v10911 38).toInt ≤ 120 := hI.1 38 _ _ rfl
          have t10916 : 0 ≤ (v10911 39).toInt ∧ (v10911 39).toInt ≤ 120 := hI.1 39 _ _ rfl
          have t10917 : 0 ≤ (v10911 41).toInt ∧ (v10911 41).toInt ≤ 8 := hI.1 41 _ _ rfl
          clear hz1
          generalize H1 = H at hP hS ⊢
          replace hk := hk.tr hw_r10910.2.1
          replace hd := hw_r10910.2.2
          replace hw_r10910 := hw_r10910.1
          refine lv_aload_n hx hb dX12_operand_89 rfl (lv_at hl 1 rfl) ?_
          refine va_get (D := (dC, dI)) (ci := 12) (v := .int (v10911 40)) (C := RX12) (T := TX12) (N := 63) hx hb hwd inA_X12 hown hK hP 0 rfl rfl 40 (by decide) (hwd _ wk_1005) (fun _ h9 => h9) rfl dX12_operand_90 ?_
          refine lv_if_lt (tgt := 97) hx hb dX12_operand_93 (by decide) (fun c10918 => ?_) (fun c10918 => ?_)
          · skip
            have t10919 := cv_lt (a := (v10911 40).toInt) rfl (b := 0) (by decide) c10918
            refine lv_aload_n hx hb dX12_operand_97 rfl (lv_at hl 1 rfl) ?_
            have t10920 : 0 ≤ (v 30).toInt ∧ (v 30).toInt ≤ 120 := by have h9 := hI.1 30 _ _ rfl; rw [show v10911 30 = v 30 from (hf10913 30 (by decide)).trans (hf10899 30 (by decide))] at h9; exact h9
            have t10921 : 0 ≤ (v10911 39).toInt ∧ (v10911 39).toInt ≤ 120 := hI.1 39 _ _ rfl
            refine va_calli (va_runV (As := []) (rest := []) ⟨hx, hb, hml, hown, hwd⟩ (c_X12_look l dC dI g c adK adV v10911 F10912 rc H.size  hg hI ) (cwV 0 hwd (gV wk_1017 wk_1014 wk_1015 wk_1016 wk_5) rfl rfl rfl (by decide +kernel) ⟨(by show 1 + 1 ≤ fr + 4; omega), (by show 8 + (1 + 11) + (40) ≤ lc + 160; omega)⟩) ⟨PM.blind, va_recv hK hP (ci := 12) (q0 := 0) rfl rfl, fun U hU hW => ⟨rfl, PM.at hK hE hP hS hU hW⟩⟩ rfl rfl hl.1 rfl (lv_room (Nat.le_of_ble_eq_true rfl)) dX12_operand_98 ⟨Nat.le_of_ble_eq_true rfl, Nat.le_of_ble_eq_true rfl⟩) hS (fun q _ h => (freeM hS) q h) (freeM hS) (fun r10922 u t H1 locs ht hvm hw hB hz1 hk1 hS => ?_)
            unfold BM at hB
            rw [ht] at hB
            have hP : va_P (dC, dI) classes (wM g c v10911 F10912 rc) H1 := hB
            replace hw : r10922.toInt = lkM (v10911 39) (v10911 30) (F10912 24) ∧ ((v10911 39).toInt < (v10911 30).toInt ∨ r10922.toInt = -1) := hw
            rw [show v10911 30 = v 30 from (hf10913 30 (by decide)).trans (hf10899 30 (by decide))] at hw
            rw [hF 24 (by decide)] at hw
            have hw_r10922 := hw
            clear hw
            clear hz1
            generalize H1 = H at hP hS ⊢
            refine lv_bipush (v := 41) hx hb dX12_operand_101 (by decide) ?_
            refine lv_icmp_eq (tgt := 111) hx hb dX12_operand_103 (by decide) (fun c10923 => ?_) (fun c10923 => ?_)
            · skip
              have t10924 := cv_eq (a := r10922.toInt) rfl (b := 41) (by decide) c10923
              refine lv_aload_n hx hb dX12_operand_111 rfl (lv_at hl 1 rfl) ?_
              refine lv_dup hx hb dX12_operand_112 rfl ?_
              refine va_get (D := (dC, dI)) (ci := 12) (v := .int (v10911 39)) (C := RX12) (T := TX12) (N := 63) hx hb hwd inA_X12 hown hK hP 0 rfl rfl 39 (by decide) (hwd _ wk_1004) (fun _ h9 => h9) rfl dX12_operand_113 ?_
              have t10925 : 0 ≤ (v10911 39).toInt ∧ (v10911 39).toInt ≤ 120 := hI.1 39 _ _ rfl
              refine lv_iconst (v := 1) hx hb dX12_operand_116 (by decide) ?_
              refine lv_iadd hx hb dX12_operand_117 ?_
              refine lv_topi (fun z10926 e10927 => ?_)
              try (have t10928 := tadd e10927 (a := (v10911 39).toInt) rfl (b := 1) (by decide) (by omega))
              refine va_put (D := (dC, dI)) (ci := 12) (v := .int z10926) (ty := .int) (C := RX12) (T := TX12) (N := 63) (fs := fsM_0 g v10911 rc) hx hb hwd inA_X12 tyX12 tyX12_ok nmX12 hown hK hP (DM hg) hS 0 rfl rfl 39 (by decide) (hwd _ wk_1004) (fun _ h9 => h9) rfl (by decide +kernel) rfl rfl (Nat.le_of_ble_eq_true rfl) dX12_operand_118 (fun H locs hP _ hS => ?_)
              have hP := va_P_eq (pM_39 g c _ _ _ _) hP
              have hI := IM.put hI 39 z10926 rfl (by omega)
              refine lv_aload_n hx hb dX12_operand_121 rfl (lv_at hl 1 rfl) ?_
              refine lv_dup hx hb dX12_operand_122 rfl ?_
              refine va_get (D := (dC, dI)) (ci := 12) (v := .int (v10911 41)) (C := RX12) (T := TX12) (N := 63) hx hb hwd inA_X12 hown hK hP 0 rfl rfl 41 (by decide) (hwd _ wk_1006) (fun _ h9 => h9) rfl dX12_operand_123 ?_
              have t10929 : 0 ≤ (v10911 41).toInt ∧ (v10911 41).toInt ≤ 8 := hI.1 41 _ _ rfl
              refine lv_iconst (v := 1) hx hb dX12_operand_126 (by decide) ?_
              refine lv_isub hx hb dX12_operand_127 ?_
              refine lv_topi (fun z10930 e10931 => ?_)
              try (have t10932 := tsub e10931 (a := (v10911 41).toInt) rfl (b := 1) (by decide) (by omega))
              refine va_put (D := (dC, dI)) (ci := 12) (v := .int z10930) (ty := .int) (C := RX12) (T := TX12) (N := 63) (fs := fsM_0 g (va_up v10911 39 z10926) rc) hx hb hwd inA_X12 tyX12 tyX12_ok nmX12 hown hK hP (DM hg) hS 0 rfl rfl 41 (by decide) (hwd _ wk_1006) (fun _ h9 => h9) rfl (by decide +kernel) rfl rfl (Nat.le_of_ble_eq_true rfl) dX12_operand_128 (fun H locs hP _ hS => ?_)
              have hP := va_P_eq (pM_41 g c _ _ _ _) hP
              have hI := IM.put hI 41 z10930 rfl (by omega)
              refine lv_goto (tgt := 150) hx hb dX12_operand_131 (by decide) ?_
              have hP9 : va_P (dC, dI) classes (wM g c (va_up (va_up v10911 39 z10926) 41 z10930) F10912 rc) H := hP
              exact W.vret hx hb hr (fun t ht hW => ⟨⟨((va_up (va_up v10911 39 z10926) 41 z10930), F10912, rc), rfl, ⟨hI, rfl, (frU (by decide) (frU (by decide) (frC (by decide) hf10913 (frC (by decide) hf10899 (fun _ _ => rfl))))), hF, (by show ((v 39).toInt ≤ z10926.toInt ∧ z10926.toInt ≤ (v 30).toInt ∧ (v 38).toInt ≤ (v10911 38).toInt ∧ (v10911 38).toInt - (v 38).toInt ≤ z10926.toInt - (v 39).toInt ∧ (v 41).toInt ≤ z10930.toInt ∧ ((v10911 40).toInt < 0 → z10930.toInt = (v 41).toInt)) ∧ keepL (v 37) (F 28) (F 29) (F10912 28) (F10912 29) ∧ ((v10911 40).toInt < 0 → dp (F10912 28) (F10912 29) (bI (v 37)) (v10911 38).toInt.toNat = some (d + 1)); exact ⟨by omega, hk, fun hf => (hd (by omega)).trans (congrArg some (by omega))⟩)⟩, (by show va_P _ _ _ t.heap; rw [ht]; exact hP9)⟩, hS.F ht⟩) hS.2.2 dX12_operand_150
            · skip
              have t10933 := cv_ne (a := r10922.toInt) rfl (b := 41) (by decide) c10923
              refine lv_aload_n hx hb dX12_operand_106 rfl (lv_at hl 1 rfl) ?_
              refine va_callv (va_runV (As := []) (rest := []) ⟨hx, hb, hml, hown, hwd⟩ (c_X12_wrong l dC dI g c adK adV v10911 F10912 rc H.size  hg hI ) (cwV 0 hwd (gV wk_1029 wk_1026 wk_1027 wk_1028 wk_5) rfl rfl rfl (by decide +kernel) ⟨(by show 1 + 1 ≤ fr + 4; omega), (by show 8 + (1 + 11) + (40) ≤ lc + 160; omega)⟩) ⟨PM.blind, va_recv hK hP (ci := 12) (q0 := 0) rfl rfl, fun U hU hW => ⟨rfl, PM.at hK hE hP hS hU hW⟩⟩ rfl rfl hl.1 rfl (lv_room (Nat.le_of_ble_eq_true rfl)) dX12_operand_107 ⟨Nat.le_of_ble_eq_true rfl, Nat.le_of_ble_eq_true rfl⟩) hS (fun q _ h => (freeM hS) q h) (freeM hS) (fun u t H1 locs ht hvm hw hB hz1 hk1 hS => ?_)
              unfold BM at hB
              rw [ht] at hB
              obtain ⟨v10935, F10936, rc9⟩ := u
              obtain ⟨hI, hrc, hf10937, hG10938, hw⟩ := hw
              dsimp only at hI hrc hB hf10937 hG10938 hw
              have hF := frCF (by decide) hG10938 hF
              rw [hrc] at hB
              have hP : va_P (dC, dI) classes (wM g c v10935 F10936 rc) H1 := hB
              replace hw : 0 ≤ (v10935 40).toInt := hw
              have hw_r10934 := hw
              clear hw
              clear hz1
              generalize H1 = H at hP hS ⊢
              replace hk : keepL (v 37) (F 28) (F 29) (F10936 28) (F10936 29) := by rw [hG10938 28 (by decide), hG10938 29 (by decide)]; exact hk
              replace hd : (v10935 40).toInt < 0 → dp (F10936 28) (F10936 29) (bI (v 37)) (v10911 38).toInt.toNat = some (d + 1) := fun hf => (by rw [hG10938 28 (by decide), hG10938 29 (by decide)]; exact hd (by omega))
              have hP9 : va_P (dC, dI) classes (wM g c v10935 F10936 rc) H := hP
              exact W.vret hx hb hr (fun t ht hW => ⟨⟨(v10935, F10936, rc), rfl, ⟨hI, rfl, (frC (by decide) hf10937 (frC (by decide) hf10913 (frC (by decide) hf10899 (fun _ _ => rfl)))), hF, (by show ((v 39).toInt ≤ (v10935 39).toInt ∧ (v10935 39).toInt ≤ (v 30).toInt ∧ (v 38).toInt ≤ (v10935 38).toInt ∧ (v10935 38).toInt - (v 38).toInt ≤ (v10935 39).toInt - (v 39).toInt ∧ (v 41).toInt ≤ (v10935 41).toInt ∧ ((v10935 40).toInt < 0 → (v10935 41).toInt = (v 41).toInt)) ∧ keepL (v 37) (F 28) (F 29) (F10936 28) (F10936 29) ∧ ((v10935 40).toInt < 0 → dp (F10936 28) (F10936 29) (bI (v 37)) (v10935 38).toInt.toNat = some (d + 1)); rw [show v10935 39 = v10911 39 from hf10937 39 (by decide)]; rw [show v10935 38 = v10911 38 from hf10937 38 (by decide)]; rw [show v10935 41 = v10911 41 from hf10937 41 (by decide)]; exact ⟨by omega, hk, fun hf => (hd (by omega)).trans (congrArg some (by omega))⟩)⟩, (by show va_P _ _ _ t.heap; rw [ht]; exact hP9)⟩, hS.F ht⟩) hS.2.2 dX12_operand_110
          · skip
            have t10939 := cv_nlt (a := (v10911 40).toInt) rfl (b := 0) (by decide) c10918
            have hP9 : va_P (dC, dI) classes (wM g c v10911 F10912 rc) H := hP
            exact W.vret hx hb hr (fun t ht hW => ⟨⟨(v10911, F10912, rc), rfl, ⟨hI, rfl, (frC (by decide) hf10913 (frC (by decide) hf10899 (fun _ _ => rfl))), hF, (by show ((v 39).toInt ≤ (v10911 39).toInt ∧ (v10911 39).toInt ≤ (v 30).toInt ∧ (v 38).toInt ≤ (v10911 38).toInt ∧ (v10911 38).toInt - (v 38).toInt ≤ (v10911 39).toInt - (v 39).toInt ∧ (v 41).toInt ≤ (v10911 41).toInt ∧ ((v10911 40).toInt < 0 → (v10911 41).toInt = (v 41).toInt)) ∧ keepL (v 37) (F 28) (F 29) (F10912 28) (F10912 29) ∧ ((v10911 40).toInt < 0 → dp (F10912 28) (F10912 29) (bI (v 37)) (v10911 38).toInt.toNat = some (d + 1)); exact ⟨by omega, hk, fun hf => (hd (by omega)).trans (congrArg some (by omega))⟩)⟩, (by show va_P _ _ _ t.heap; rw [ht]; exact hP9)⟩, hS.F ht⟩) hS.2.2 dX12_operand_96
        · skip
          have t10940 := cv_eq (a := r10896.toInt) rfl (b := 0) (by decide) c10903
          have hP9 : va_P (dC, dI) classes (wM g c v10897 F10898 rc) H := hP
          exact W.vret hx hb hr (fun t ht hW => ⟨⟨(v10897, F10898, rc), rfl, ⟨hI, rfl, (frC (by decide) hf10899 (fun _ _ => rfl)), hF, (by show ((v 39).toInt ≤ (v10897 39).toInt ∧ (v10897 39).toInt ≤ (v 30).toInt ∧ (v 38).toInt ≤ (v10897 38).toInt ∧ (v10897 38).toInt - (v 38).toInt ≤ (v10897 39).toInt - (v 39).toInt ∧ (v 41).toInt ≤ (v10897 41).toInt ∧ ((v10897 40).toInt < 0 → (v10897 41).toInt = (v 41).toInt)) ∧ keepL (v 37) (F 28) (F 29) (F10898 28) (F10898 29) ∧ ((v10897 40).toInt < 0 → dp (F10898 28) (F10898 29) (bI (v 37)) (v10897 38).toInt.toNat = some (d + 1)); rw [show v10897 38 = v 38 from hf10899 38 (by decide)]; exact ⟨by omega, hk, fun hf => (hd (by omega)).trans (congrArg some (by omega))⟩)⟩, (by show va_P _ _ _ t.heap; rw [ht]; exact hP9)⟩, hS.F ht⟩) hS.2.2 dX12_operand_84
    · skip
      have t10941 := cv_eq (a := r10865.toInt) rfl (b := 45) (by decide) c10869
      refine lv_aload_n hx hb dX12_operand_40 rfl (lv_at hl 1 rfl) ?_
      have t10942 : 0 ≤ (v 39).toInt ∧ (v 39).toInt ≤ 120 := hI.1 39 _ _ rfl
      have t10943 : 0 ≤ (v 41).toInt ∧ (v 41).toInt ≤ 8 := hI.1 41 _ _ rfl
      refine va_calli (va_runV (As := []) (rest := []) ⟨hx, hb, hml, hown, hwd⟩ (c_X12_opens l dC dI g c adK adV v F rc H.size  hg hI (by have h9 : v 39 = v 39 := rfl; (try rw [h9]); clear h9; have h9 : v 30 = v 30 := rfl; (try rw [h9]); clear h9; omega)) (cwV 0 hwd (gV wk_1025 wk_1022 wk_1023 wk_1024 wk_5) rfl rfl rfl (by decide +kernel) ⟨(by show 2 + 1 ≤ fr + 4; omega), (by show 8 + (1 + 11) + (80) ≤ lc + 160; omega)⟩) ⟨PM.blind, va_recv hK hP (ci := 12) (q0 := 0) rfl rfl, fun U hU hW => ⟨rfl, PM.at hK hE hP hS hU hW⟩⟩ rfl rfl hl.1 rfl (lv_room (Nat.le_of_ble_eq_true rfl)) dX12_operand_41 ⟨Nat.le_of_ble_eq_true rfl, Nat.le_of_ble_eq_true rfl⟩) hS (fun q _ h => (freeM hS) q h) (freeM hS) (fun r10944 u t H1 locs ht hvm hw hB hz1 hk1 hS => ?_)
      unfold BM at hB
      rw [ht] at hB
      obtain ⟨v10945, F10946, rc9⟩ := u
      obtain ⟨hI, hrc, hf10947, hG10948, hw⟩ := hw
      dsimp only at hI hrc hB hf10947 hG10948 hw
      have hF := frCF (by decide) hG10948 hF
      rw [hrc] at hB
      have hP : va_P (dC, dI) classes (wM g c v10945 F10946 rc) H1 := hB
      replace hw : (r10944.toInt = 1 ∧ (v 41).toInt < 8 ∧ (v10945 41).toInt = (v 41).toInt + 1 ∧ (v10945 39).toInt = (v 39).toInt + 1 ∧ (v10945 40).toInt = (v 40).toInt) ∨ (r10944.toInt = 0 ∧ (v 41).toInt = 8 ∧ 0 ≤ (v10945 40).toInt ∧ (v10945 41).toInt = (v 41).toInt ∧ (v10945 39).toInt = (v 39).toInt) := hw
      have hw_r10944 := hw
      clear hw
      have t10949 : 0 ≤ (v10945 39).toInt ∧ (v10945 39).toInt ≤ 120 := hI.1 39 _ _ rfl
      have t10950 : 0 ≤ (v10945 41).toInt ∧ (v10945 41).toInt ≤ 8 := hI.1 41 _ _ rfl
      clear hz1
      generalize H1 = H at hP hS ⊢
      replace hk : keepL (v 37) (F 28) (F 29) (F10946 28) (F10946 29) := by rw [hG10948 28 (by decide), hG10948 29 (by decide)]; exact hk
      replace hd : (v10945 40).toInt < 0 → dp (F10946 28) (F10946 29) (bI (v 37)) (v 38).toInt.toNat = some d := fun hf => (by rw [hG10948 28 (by decide), hG10948 29 (by decide)]; exact hd (by omega))
      refine lv_if_ne (tgt := 48) hx hb dX12_operand_44 (by decide) (fun c10951 => ?_) (fun c10951 => ?_)
      · skip
        have t10952 := cv_ne (a := r10944.toInt) rfl (b := 0) (by decide) c10951
        refine lv_aload_n hx hb dX12_operand_48 rfl (lv_at hl 1 rfl) ?_
        have t10953 : 0 ≤ (v 30).toInt ∧ (v 30).toInt ≤ 120 := by have h9 := hI.1 30 _ _ rfl; rw [show v10945 30 = v 30 from hf10947 30 (by decide)] at h9; exact h9
        have t10954 : 0 ≤ (v 37).toInt ∧ (v 37).toInt ≤ 9 := by have h9 := hI.1 37 _ _ rfl; rw [show v10945 37 = v 37 from hf10947 37 (by decide)] at h9; exact h9
        have t10955 : 0 ≤ (v 38).toInt ∧ (v 38).toInt ≤ 120 := by have h9 := hI.1 38 _ _ rfl; rw [show v10945 38 = v 38 from hf10947 38 (by decide)] at h9; exact h9
        have t10956 : 0 ≤ (v10945 39).toInt ∧ (v10945 39).toInt ≤ 120 := hI.1 39 _ _ rfl
        have t10957 : 0 ≤ (v10945 41).toInt ∧ (v10945 41).toInt ≤ 8 := hI.1 41 _ _ rfl
        refine va_callv (va_runV (As := []) (rest := []) ⟨hx, hb, hml, hown, hwd⟩ (rO l dC dI g c adK adV v10945 F10946 rc H.size  d hg hI (by have h9 : v10945 38 = v 38 := hf10947 38 (by decide); (try rw [h9]); clear h9; have h9 : v10945 39 = v10945 39 := rfl; (try rw [h9]); clear h9; have h9 : v10945 30 = v 30 := hf10947 30 (by decide); (try rw [h9]); clear h9; have h9 : v10945 40 = v10945 40 := rfl; (try rw [h9]); clear h9; have h9 : v10945 41 = v10945 41 := rfl; (try rw [h9]); clear h9; omega) (by have h9 : v10945 37 = (v 37) := hf10947 37 (by decide); have h8 : v10945 38 = (v 38) := hf10947 38 (by decide); (try rw [h9]); (try rw [h8]); exact hd (by omega))) (cwV 0 hwd (gV wk_1030 wk_1035 wk_1036 wk_1037 wk_5) rfl rfl rfl (by decide +kernel) ⟨(by show fr + 0 + 1 ≤ fr + 4; omega), (by show 8 + (2 + 11) + (lc + 0) ≤ lc + 160; omega)⟩) ⟨PM.blind, va_recv hK hP (ci := 12) (q0 := 0) rfl rfl, fun U hU hW => ⟨rfl, PM.at hK hE hP hS hU hW⟩⟩ rfl rfl hl.1 rfl (lv_room (Nat.le_of_ble_eq_true rfl)) dX12_operand_49 ⟨Nat.le_of_ble_eq_true rfl, Nat.le_of_ble_eq_true rfl⟩) hS (fun q _ h => (freeM hS) q h) (freeM hS) (fun u t H1 locs ht hvm hw hB hz1 hk1 hS => ?_)
        unfold BM at hB
        rw [ht] at hB
        obtain ⟨v10959, F10960, rc9⟩ := u
        obtain ⟨hI, hrc, hf10961, hG10962, hw⟩ := hw
        dsimp only at hI hrc hB hf10961 hG10962 hw
        have hF := frCF (by decide) hG10962 hF
        rw [hrc] at hB
        have hP : va_P (dC, dI) classes (wM g c v10959 F10960 rc) H1 := hB
        replace hw : ((v10945 39).toInt ≤ (v10959 39).toInt ∧ (v10959 39).toInt ≤ (v10945 30).toInt ∧ (v10945 38).toInt ≤ (v10959 38).toInt ∧ (v10959 38).toInt - (v10945 38).toInt ≤ (v10959 39).toInt - (v10945 39).toInt ∧ (v10945 41).toInt ≤ (v10959 41).toInt ∧ ((v10959 40).toInt < 0 → (v10959 41).toInt = (v10945 41).toInt)) ∧ keepL (v10945 37) (F10946 28) (F10946 29) (F10960 28) (F10960 29) ∧ ((v10959 40).toInt < 0 → dp (F10960 28) (F10960 29) (bI (v10945 37)) (v10959 38).toInt.toNat = some (d + 1)) := hw
        rw [show v10945 30 = v 30 from hf10947 30 (by decide)] at hw
        rw [show v10945 38 = v 38 from hf10947 38 (by decide)] at hw
        rw [show v10945 37 = v 37 from hf10947 37 (by decide)] at hw
        have hw_r10958 := hw
        clear hw
        have t10963 : 0 ≤ (v10959 38).toInt ∧ (v10959 38).toInt ≤ 120 := hI.1 38 _ _ rfl
        have t10964 : 0 ≤ (v10959 39).toInt ∧ (v10959 39).toInt ≤ 120 := hI.1 39 _ _ rfl
        have t10965 : 0 ≤ (v10959 41).toInt ∧ (v10959 41).toInt ≤ 8 := hI.1 41 _ _ rfl
        clear hz1
        generalize H1 = H at hP hS ⊢
        replace hk := hk.tr hw_r10958.2.1
        replace hd := hw_r10958.2.2
        replace hw_r10958 := hw_r10958.1
        refine lv_aload_n hx hb dX12_operand_52 rfl (lv_at hl 1 rfl) ?_
        refine lv_iconst (v := 3) hx hb dX12_operand_53 (by decide) ?_
        refine lv_iconst (v := 0) hx hb dX12_operand_54 (by decide) ?_
        have t10966 : 0 ≤ (v 37).toInt ∧ (v 37).toInt ≤ 9 := by have h9 := hI.1 37 _ _ rfl; rw [show v10959 37 = v 37 from (hf10961 37 (by decide)).trans (hf10947 37 (by decide))] at h9; exact h9
        have t10967 : 0 ≤ (v10959 38).toInt ∧ (v10959 38).toInt ≤ 120 := hI.1 38 _ _ rfl
        refine va_callv (va_runV (As := [.int 3, .int 0]) (rest := []) ⟨hx, hb, hml, hown, hwd⟩ (c_X12_lay l dC dI g c adK adV v10959 F10960 rc H.size 3 0 hg hI (by have h9 : v10959 38 = v10959 38 := rfl; rw [h9]; omega)) (cwV 2 hwd (gV wk_1021 wk_1018 wk_1019 wk_1020 wk_5) rfl rfl rfl (by decide +kernel) ⟨(by show 1 + 1 ≤ fr + 4; omega), (by show 8 + (3 + 11) + (40) ≤ lc + 160; omega)⟩) ⟨PM.blind, va_recv hK hP (ci := 12) (q0 := 0) rfl rfl, fun U hU hW => ⟨rfl, PM.at hK hE hP hS hU hW⟩⟩ rfl rfl hl.1 rfl (lv_room (Nat.le_of_ble_eq_true rfl)) dX12_operand_55 ⟨Nat.le_of_ble_eq_true rfl, Nat.le_of_ble_eq_true rfl⟩) hS (fun q _ h => (freeM hS) q h) (freeM hS) (fun u t H1 locs ht hvm hw hB hz1 hk1 hS => ?_)
        unfold BM at hB
        rw [ht] at hB
        obtain ⟨v10969, F10970, rc9⟩ := u
        obtain ⟨hI, hrc, hf10971, hG10972, hw⟩ := hw
        dsimp only at hI hrc hB hf10971 hG10972 hw
        have hF := frCF (by decide) hG10972 hF
        rw [hrc] at hB
        have hP : va_P (dC, dI) classes (wM g c v10969 F10970 rc) H1 := hB
        replace hw : (v10969 38).toInt = (v10959 38).toInt + 1 ∧ keepL (v10959 37) (F10960 28) (F10960 29) (F10970 28) (F10970 29) ∧ dp (F10970 28) (F10970 29) (bI (v10959 37)) ((v10959 38).toInt.toNat + 1) = dpS (dp (F10960 28) (F10960 29) (bI (v10959 37)) (v10959 38).toInt.toNat) (3 : Int32) (0 : Int32) := hw
        rw [show v10959 37 = v 37 from (hf10961 37 (by decide)).trans (hf10947 37 (by decide))] at hw
        have hw_r10968 := hw
        clear hw
        have t10973 : 0 ≤ (v10969 38).toInt ∧ (v10969 38).toInt ≤ 120 := hI.1 38 _ _ rfl
        have k10974 : (3 : Int32).toInt = 3 := by decide
        have k10975 : (0 : Int32).toInt = 0 := by decide
        clear hz1
        generalize H1 = H at hP hS ⊢
        replace hk := hk.tr hw_r10968.2.1
        replace hd : (v10959 40).toInt < 0 → dp (F10970 28) (F10970 29) (bI (v 37)) (v10969 38).toInt.toNat = some (d + 1) := fun hf => (by have e9 : (v10969 38).toInt.toNat = (v10959 38).toInt.toNat + 1 := (by omega); rw [e9, hw_r10968.2.2, hd hf]; exact dpS_3 (by decide) (by omega))
        replace hw_r10968 := hw_r10968.1
        refine lv_aload_n hx hb dX12_operand_58 rfl (lv_at hl 1 rfl) ?_
        refine lv_dup hx hb dX12_operand_59 rfl ?_
        refine va_get (D := (dC, dI)) (ci := 12) (v := .int (v10969 41)) (C := RX12) (T := TX12) (N := 63) hx hb hwd inA_X12 hown hK hP 0 rfl rfl 41 (by decide) (hwd _ wk_1006) (fun _ h9 => h9) rfl dX12_operand_60 ?_
        refine my_top (v := v10959 41) (hf10971 41 (by decide)) ?_
        have t10976 : 0 ≤ (v10959 41).toInt ∧ (v10959 41).toInt ≤ 8 := by have h9 := hI.1 41 _ _ rfl; rw [show v10969 41 = v10959 41 from hf10971 41 (by decide)] at h9; exact h9
        refine lv_iconst (v := 1) hx hb dX12_operand_63 (by decide) ?_
        refine lv_isub hx hb dX12_operand_64 ?_
        refine lv_topi (fun z10977 e10978 => ?_)
        try (have t10979 := tsub e10978 (a := (v10959 41).toInt) rfl (b := 1) (by decide) (by omega))
        refine va_put (D := (dC, dI)) (ci := 12) (v := .int z10977) (ty := .int) (C := RX12) (T := TX12) (N := 63) (fs := fsM_0 g v10969 rc) hx hb hwd inA_X12 tyX12 tyX12_ok nmX12 hown hK hP (DM hg) hS 0 rfl rfl 41 (by decide) (hwd _ wk_1006) (fun _ h9 => h9) rfl (by decide +kernel) rfl rfl (Nat.le_of_ble_eq_true rfl) dX12_operand_65 (fun H locs hP _ hS => ?_)
        have hP := va_P_eq (pM_41 g c _ _ _ _) hP
        have hI := IM.put hI 41 z10977 rfl (by omega)
        refine lv_goto (tgt := 150) hx hb dX12_operand_68 (by decide) ?_
        have hP9 : va_P (dC, dI) classes (wM g c (va_up v10969 41 z10977) F10970 rc) H := hP
        exact W.vret hx hb hr (fun t ht hW => ⟨⟨((va_up v10969 41 z10977), F10970, rc), rfl, ⟨hI, rfl, (frU (by decide) (frC (by decide) hf10971 (frC (by decide) hf10961 (frC (by decide) hf10947 (fun _ _ => rfl))))), hF, (by show ((v 39).toInt ≤ ((va_up v10969 41 z10977) 39).toInt ∧ ((va_up v10969 41 z10977) 39).toInt ≤ (v 30).toInt ∧ (v 38).toInt ≤ (v10969 38).toInt ∧ (v10969 38).toInt - (v 38).toInt ≤ ((va_up v10969 41 z10977) 39).toInt - (v 39).toInt ∧ (v 41).toInt ≤ z10977.toInt ∧ (((va_up v10969 41 z10977) 40).toInt < 0 → z10977.toInt = (v 41).toInt)) ∧ keepL (v 37) (F 28) (F 29) (F10970 28) (F10970 29) ∧ (((va_up v10969 41 z10977) 40).toInt < 0 → dp (F10970 28) (F10970 29) (bI (v 37)) (v10969 38).toInt.toNat = some (d + 1)); rw [show (va_up v10969 41 z10977) 39 = v10959 39 from hf10971 39 (by decide)]; rw [show (va_up v10969 41 z10977) 40 = v10959 40 from hf10971 40 (by decide)]; exact ⟨by omega, hk, fun hf => (hd (by omega)).trans (congrArg some (by omega))⟩)⟩, (by show va_P _ _ _ t.heap; rw [ht]; exact hP9)⟩, hS.F ht⟩) hS.2.2 dX12_operand_150
      · skip
        have t10980 := cv_eq (a := r10944.toInt) rfl (b := 0) (by decide) c10951
        have hP9 : va_P (dC, dI) classes (wM g c v10945 F10946 rc) H := hP
        exact W.vret hx hb hr (fun t ht hW => ⟨⟨(v10945, F10946, rc), rfl, ⟨hI, rfl, (frC (by decide) hf10947 (fun _ _ => rfl)), hF, (by show ((v 39).toInt ≤ (v10945 39).toInt ∧ (v10945 39).toInt ≤ (v 30).toInt ∧ (v 38).toInt ≤ (v10945 38).toInt ∧ (v10945 38).toInt - (v 38).toInt ≤ (v10945 39).toInt - (v 39).toInt ∧ (v 41).toInt ≤ (v10945 41).toInt ∧ ((v10945 40).toInt < 0 → (v10945 41).toInt = (v 41).toInt)) ∧ keepL (v 37) (F 28) (F 29) (F10946 28) (F10946 29) ∧ ((v10945 40).toInt < 0 → dp (F10946 28) (F10946 29) (bI (v 37)) (v10945 38).toInt.toNat = some (d + 1)); rw [show v10945 38 = v 38 from hf10947 38 (by decide)]; exact ⟨by omega, hk, fun hf => (hd (by omega)).trans (congrArg some (by omega))⟩)⟩, (by show va_P _ _ _ t.heap; rw [ht]; exact hP9)⟩, hS.F ht⟩) hS.2.2 dX12_operand_47
  · skip
    have t10981 := cv_nlt (a := r10866.toInt) rfl (b := 0) (by decide) c10867
    refine lv_aload_n hx hb dX12_operand_12 rfl (lv_at hl 1 rfl) ?_
    refine lv_iconst (v := 2) hx hb dX12_operand_13 (by decide) ?_
    refine lv_iload_n hx hb dX12_operand_14 rfl (lv_at hl 0 rfl) ?_
    refine va_calli (va_runS (As := [.int r10865]) (rest := [.int 2, .ref (g 0)]) ⟨hx, hb, hml, hown, hwd⟩ (c_X12_nameOf l dC dI g c adK adV v F rc H.size r10865 hg hI ) (va_cwS 1 hwd (gT wk_1034 wk_1032 wk_1033 wk_5) rfl rfl rfl (by decide +kernel) ⟨(by show 1 + 1 ≤ fr + 4; omega), (by show 8 + (1 + 11) + (40) ≤ lc + 160; omega)⟩) ⟨PM.blind, fun U hU hW => ⟨rfl, PM.at hK hE hP hS hU hW⟩⟩ rfl rfl hl.1 rfl (lv_room (Nat.le_of_ble_eq_true rfl)) dX12_operand_15 ⟨Nat.le_of_ble_eq_true rfl, Nat.le_of_ble_eq_true rfl⟩) hS (fun q _ h => (freeM hS) q h) (freeM hS) (fun r10982 u t H1 locs ht hvm hw hB hz1 hk1 hS => ?_)
    unfold BM at hB
    rw [ht] at hB
    have hP : va_P (dC, dI) classes (wM g c v F rc) H1 := hB
    have hw_r10982 : r10982.toInt = nmM r10865 ∧ (-1 ≤ r10982.toInt ∧ r10982.toInt ≤ 5) := hw
    clear hw
    clear hz1
    generalize H1 = H at hP hS ⊢
    have np_r10982 := nmM_pos r10865
    have t10983 : 0 ≤ (v 37).toInt ∧ (v 37).toInt ≤ 9 := hI.1 37 _ _ rfl
    have t10984 : 0 ≤ (v 38).toInt ∧ (v 38).toInt ≤ 120 := hI.1 38 _ _ rfl
    refine va_callv (va_runV (As := [.int 2, .int r10982]) (rest := []) ⟨hx, hb, hml, hown, hwd⟩ (c_X12_lay l dC dI g c adK adV v F rc H.size 2 r10982 hg hI (by have h9 : v 38 = v 38 := rfl; rw [h9]; omega)) (cwV 2 hwd (gV wk_1021 wk_1018 wk_1019 wk_1020 wk_5) rfl rfl rfl (by decide +kernel) ⟨(by show 1 + 1 ≤ fr + 4; omega), (by show 8 + (3 + 11) + (40) ≤ lc + 160; omega)⟩) ⟨PM.blind, va_recv hK hP (ci := 12) (q0 := 0) rfl rfl, fun U hU hW => ⟨rfl, PM.at hK hE hP hS hU hW⟩⟩ rfl rfl hl.1 rfl (lv_room (Nat.le_of_ble_eq_true rfl)) dX12_operand_18 ⟨Nat.le_of_ble_eq_true rfl, Nat.le_of_ble_eq_true rfl⟩) hS (fun q _ h => (freeM hS) q h) (freeM hS) (fun u t H1 locs ht hvm hw hB hz1 hk1 hS => ?_)
    unfold BM at hB
    rw [ht] at hB
    obtain ⟨v10986, F10987, rc9⟩ := u
    obtain ⟨hI, hrc, hf10988, hG10989, hw⟩ := hw
    dsimp only at hI hrc hB hf10988 hG10989 hw
    have hF := frCF (by decide) hG10989 hF
    rw [hrc] at hB
    have hP : va_P (dC, dI) classes (wM g c v10986 F10987 rc) H1 := hB
    replace hw : (v10986 38).toInt = (v 38).toInt + 1 ∧ keepL (v 37) (F 28) (F 29) (F10987 28) (F10987 29) ∧ dp (F10987 28) (F10987 29) (bI (v 37)) ((v 38).toInt.toNat + 1) = dpS (dp (F 28) (F 29) (bI (v 37)) (v 38).toInt.toNat) (2 : Int32) r10982 := hw
    have hw_r10985 := hw
    clear hw
    have t10990 : 0 ≤ (v10986 38).toInt ∧ (v10986 38).toInt ≤ 120 := hI.1 38 _ _ rfl
    have k10991 : (2 : Int32).toInt = 2 := by decide
    clear hz1
    generalize H1 = H at hP hS ⊢
    replace hk := hk.tr hw_r10985.2.1
    replace hd : (v 40).toInt < 0 → dp (F10987 28) (F10987 29) (bI (v 37)) (v10986 38).toInt.toNat = some (d + 1) := fun hf => (by have e9 : (v10986 38).toInt.toNat = (v 38).toInt.toNat + 1 := (by omega); rw [e9, hw_r10985.2.2, hd hf]; exact dpS_2 (by decide) (by omega))
    replace hw_r10985 := hw_r10985.1
    refine lv_aload_n hx hb dX12_operand_21 rfl (lv_at hl 1 rfl) ?_
    refine lv_dup hx hb dX12_operand_22 rfl ?_
    refine va_get (D := (dC, dI)) (ci := 12) (v := .int (v10986 39)) (C := RX12) (T := TX12) (N := 63) hx hb hwd inA_X12 hown hK hP 0 rfl rfl 39 (by decide) (hwd _ wk_1004) (fun _ h9 => h9) rfl dX12_operand_23 ?_
    refine my_top (v := v 39) (hf10988 39 (by decide)) ?_
    have t10992 : 0 ≤ (v 39).toInt ∧ (v 39).toInt ≤ 120 := by have h9 := hI.1 39 _ _ rfl; rw [show v10986 39 = v 39 from hf10988 39 (by decide)] at h9; exact h9
    refine lv_iconst (v := 1) hx hb dX12_operand_26 (by decide) ?_
    refine lv_iadd hx hb dX12_operand_27 ?_
    refine lv_topi (fun z10993 e10994 => ?_)
    try (have t10995 := tadd e10994 (a := (v 39).toInt) rfl (b := 1) (by decide) (by omega))
    refine va_put (D := (dC, dI)) (ci := 12) (v := .int z10993) (ty := .int) (C := RX12) (T := TX12) (N := 63) (fs := fsM_0 g v10986 rc) hx hb hwd inA_X12 tyX12 tyX12_ok nmX12 hown hK hP (DM hg) hS 0 rfl rfl 39 (by decide) (hwd _ wk_1004) (fun _ h9 => h9) rfl (by decide +kernel) rfl rfl (Nat.le_of_ble_eq_true rfl) dX12_operand_28 (fun H locs hP _ hS => ?_)
    have hP := va_P_eq (pM_39 g c _ _ _ _) hP
    have hI := IM.put hI 39 z10993 rfl (by omega)
    refine lv_goto (tgt := 150) hx hb dX12_operand_31 (by decide) ?_
    have hP9 : va_P (dC, dI) classes (wM g c (va_up v10986 39 z10993) F10987 rc) H := hP
    exact W.vret hx hb hr (fun t ht hW => ⟨⟨((va_up v10986 39 z10993), F10987, rc), rfl, ⟨hI, rfl, (frU (by decide) (frC (by decide) hf10988 (fun _ _ => rfl))), hF, (by show ((v 39).toInt ≤ z10993.toInt ∧ z10993.toInt ≤ (v 30).toInt ∧ (v 38).toInt ≤ (v10986 38).toInt ∧ (v10986 38).toInt - (v 38).toInt ≤ z10993.toInt - (v 39).toInt ∧ (v 41).toInt ≤ ((va_up v10986 39 z10993) 41).toInt ∧ (((va_up v10986 39 z10993) 40).toInt < 0 → ((va_up v10986 39 z10993) 41).toInt = (v 41).toInt)) ∧ keepL (v 37) (F 28) (F 29) (F10987 28) (F10987 29) ∧ (((va_up v10986 39 z10993) 40).toInt < 0 → dp (F10987 28) (F10987 29) (bI (v 37)) (v10986 38).toInt.toNat = some (d + 1)); rw [show (va_up v10986 39 z10993) 41 = v 41 from hf10988 41 (by decide)]; rw [show (va_up v10986 39 z10993) 40 = v 40 from hf10988 40 (by decide)]; exact ⟨by omega, hk, fun hf => (hd (by omega)).trans (congrArg some (by omega))⟩)⟩, (by show va_P _ _ _ t.heap; rw [ht]; exact hP9)⟩, hS.F ht⟩) hS.2.2 dX12_operand_150
