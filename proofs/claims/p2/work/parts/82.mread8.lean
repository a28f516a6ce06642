set_option maxHeartbeats 8000000 in
set_option maxRecDepth 100000 in
theorem c_X12_operand_8 (l : Launch) (dC : Nat → ClassId) (dI : Nat → Nat → Nat) (g : Nat → Nat) (c : Nat → ClassId) (adK adV : Nat → Nat) (v : Nat → Int32) (F : Nat → Nat → Int32) (rc sz : Nat) (d : Nat) (hg : injM g) (hI : IM v F) (hq : (v 38).toInt ≤ (v 39).toInt ∧ (v 39).toInt ≤ (v 30).toInt ∧ (v 40).toInt < 0 ∧ (v 41).toInt = 8) (hdp : dp (F 28) (F 29) (bI (v 37)) (v 38).toInt.toNat = some d) : Met l yX12_operand (Cond.code yX12_operand cX12_operand 2 none :: wA) ({ frames := 3, cells := 0, slots := 0, locals := 120 }) (va_Pc [.ref (g 0)] (PM dC dI g c adK adV v F rc sz)) (va_Qv (fun (u : StM) => IM u.1 u.2.1 ∧ u.2.2 = rc ∧ (∀ k, k ∉ ([38, 39, 40, 41, 42] : List Nat) → u.1 k = v k) ∧ (∀ k, k ∉ ([28, 29] : List Nat) → u.2.1 k = F k) ∧ (((v 39).toInt ≤ (u.1 39).toInt ∧ (u.1 39).toInt ≤ (v 30).toInt ∧ (v 38).toInt ≤ (u.1 38).toInt ∧ (u.1 38).toInt - (v 38).toInt ≤ (u.1 39).toInt - (v 39).toInt ∧ (v 41).toInt ≤ (u.1 41).toInt ∧ ((u.1 40).toInt < 0 → (u.1 41).toInt = (v 41).toInt)) ∧ keepL (v 37) (F 28) (F 29) (u.2.1 28) (u.2.1 29) ∧ ((u.1 40).toInt < 0 → dp (u.2.1 28) (u.2.1 29) (bI (v 37)) (u.1 38).toInt.toNat = some (d + 1)))) (BM dC dI g c) (AM g sz)) 0 0 (AM g sz) := by
  refine Met.ofW (cc := cX12_operand) (maxL := 2) (ret := none) (by decide) rfl ?_
  intro p e s m args below meth c0 s₁ B hml hv
  obtain ⟨rfl, hsz, hP, hK, hE⟩ := hv
  have hx := B.exec
  have hb := B.bytes
  have hr := B.returns
  have hts := atoms_spec (ws := Cond.code yX12_operand cX12_operand 2 none :: wA) B.pre
  have hwd : ∀ w ∈ wA, w.before _ s = true := fun w h => hts w (List.mem_cons_of_mem _ h)
  have hown : s.vm.findClass RX12 = some m.cls := findClass_of_methodNamed B.named
  have hlocks := B.notSynchronized
  subst hsz
  have hl := lv_entry ([.ref (g 0)]) (n := 2) (Nat.le_of_ble_eq_true rfl)
  rw [lg_entry_eq]
  generalize (lg_sl ([.ref (g 0)]) ++ List.replicate (2 - (lg_sl ([.ref (g 0)])).length) Slot.unset).toArray = ls at hl ⊢
  have hl : lv_has ls 2 [(0, .ref (g 0))] := hl
  obtain ⟨H, eH⟩ : ∃ z, z = s.heap := ⟨_, rfl⟩
  have hP : va_P (dC, dI) classes (wM g c v F rc) H := by rw [eH]; exact hP
  have hS : va_S (AM g s.heap.size) s.heap H [] := by rw [eH]; exact va_S.rf
  refine my_heap eH ?_
  have hF : ∀ k, k ∉ ([28, 29] : List Nat) → F k = F k := fun _ _ => rfl
  have hb30 : 0 ≤ (v 30).toInt ∧ (v 30).toInt ≤ 120 := hI.1 30 _ _ rfl
  have hb37 : 0 ≤ (v 37).toInt ∧ (v 37).toInt ≤ 9 := hI.1 37 _ _ rfl
  have hb38 : 0 ≤ (v 38).toInt ∧ (v 38).toInt ≤ 120 := hI.1 38 _ _ rfl
  have hb39 : 0 ≤ (v 39).toInt ∧ (v 39).toInt ≤ 120 := hI.1 39 _ _ rfl
  have hb41 : 0 ≤ (v 41).toInt ∧ (v 41).toInt ≤ 8 := hI.1 41 _ _ rfl
  have hk : keepL (v 37) (F 28) (F 29) (F 28) (F 29) := keepL.rf
  have hd : (v 40).toInt < 0 → dp (F 28) (F 29) (bI (v 37)) (v 38).toInt.toNat = some d := fun _ => hdp
  refine lv_aload_n hx hb dX12_operand_0 rfl (lv_at hl 0 rfl) ?_
  have t10801 : 0 ≤ (v 30).toInt ∧ (v 30).toInt ≤ 120 := hI.1 30 _ _ rfl
  have t10802 : 0 ≤ (v 39).toInt ∧ (v 39).toInt ≤ 120 := hI.1 39 _ _ rfl
  refine va_calli (va_runV (As := []) (rest := []) ⟨hx, hb, hml, hown, hwd⟩ (c_X12_look l dC dI g c adK adV v F rc H.size  hg hI ) (cwV 0 hwd (gV wk_1017 wk_1014 wk_1015 wk_1016 wk_5) rfl rfl rfl (by decide +kernel) ⟨Nat.le_of_ble_eq_true rfl, Nat.le_of_ble_eq_true rfl⟩) ⟨PM.blind, va_recv hK hP (ci := 12) (q0 := 0) rfl rfl, fun U hU hW => ⟨rfl, PM.at hK hE hP hS hU hW⟩⟩ rfl rfl hl.1 rfl (lv_room (Nat.le_of_ble_eq_true rfl)) dX12_operand_1 ⟨Nat.le_of_ble_eq_true rfl, Nat.le_of_ble_eq_true rfl⟩) hS (fun q _ h => (freeM hS) q h) (freeM hS) (fun r10803 u t H1 locs ht hvm hw hB hz1 hk1 hS => ?_)
  unfold BM at hB
  rw [ht] at hB
  have hP : va_P (dC, dI) classes (wM g c v F rc) H1 := hB
  have hw : r10803.toInt = lkM (v 39) (v 30) (F 24) ∧ ((v 39).toInt < (v 30).toInt ∨ r10803.toInt = -1) := hw
  have hw_r10803 := hw
  generalize H1 = H at hP hS ⊢
  refine lv_istore_n (lv' := [(1, .int r10803), (0, .ref (g 0))]) hx hb dX12_operand_4 rfl hl (by decide) rfl (fun ls hl => ?_)
  refine lv_iload_n hx hb dX12_operand_5 rfl (lv_at hl 0 rfl) ?_
  refine va_calli (va_runS (As := [.int r10803]) (rest := []) ⟨hx, hb, hml, hown, hwd⟩ (c_X12_nameOf l dC dI g c adK adV v F rc H.size r10803 hg hI ) (va_cwS 1 hwd (gT wk_1034 wk_1032 wk_1033 wk_5) rfl rfl rfl (by decide +kernel) ⟨Nat.le_of_ble_eq_true rfl, Nat.le_of_ble_eq_true rfl⟩) ⟨PM.blind, fun U hU hW => ⟨rfl, PM.at hK hE hP hS hU hW⟩⟩ rfl rfl hl.1 rfl (lv_room (Nat.le_of_ble_eq_true rfl)) dX12_operand_6 ⟨Nat.le_of_ble_eq_true rfl, Nat.le_of_ble_eq_true rfl⟩) hS (fun q _ h => (freeM hS) q h) (freeM hS) (fun r10804 u t H1 locs ht hvm hw hB hz1 hk1 hS => ?_)
  unfold BM at hB
  rw [ht] at hB
  have hP : va_P (dC, dI) classes (wM g c v F rc) H1 := hB
  have hw : r10804.toInt = nmM r10803 ∧ (-1 ≤ r10804.toInt ∧ r10804.toInt ≤ 5) := hw
  have hw_r10804 := hw
  generalize H1 = H at hP hS ⊢
  have np_r10804 := nmM_pos r10803
  refine lv_if_lt (tgt := 34) hx hb dX12_operand_9 (by decide) (fun c10805 => ?_) (fun c10805 => ?_)
  · skip
    have t10806 := cv_lt (a := r10804.toInt) rfl (b := 0) (by decide) c10805
    refine lv_iload_n hx hb dX12_operand_34 rfl (lv_at hl 0 rfl) ?_
    refine lv_bipush (v := 45) hx hb dX12_operand_35 (by decide) ?_
    refine lv_icmp_ne (tgt := 71) hx hb dX12_operand_37 (by decide) (fun c10807 => ?_) (fun c10807 => ?_)
    · skip
      have t10808 := cv_ne (a := r10803.toInt) rfl (b := 45) (by decide) c10807
      refine lv_iload_n hx hb dX12_operand_71 rfl (lv_at hl 0 rfl) ?_
      refine lv_bipush (v := 40) hx hb dX12_operand_72 (by decide) ?_
      refine lv_icmp_ne (tgt := 134) hx hb dX12_operand_74 (by decide) (fun c10809 => ?_) (fun c10809 => ?_)
      · skip
        have t10810 := cv_ne (a := r10803.toInt) rfl (b := 40) (by decide) c10809
        refine lv_aload_n hx hb dX12_operand_134 rfl (lv_at hl 1 rfl) ?_
        have t10811 : 0 ≤ (v 30).toInt ∧ (v 30).toInt ≤ 120 := hI.1 30 _ _ rfl
        have t10812 : 0 ≤ (v 39).toInt ∧ (v 39).toInt ≤ 120 := hI.1 39 _ _ rfl
        refine va_calli (va_runV (As := []) (rest := []) ⟨hx, hb, hml, hown, hwd⟩ (c_X12_digits l dC dI g c adK adV v F rc H.size  hg hI (by have h9 : v 39 = v 39 := rfl; (try rw [h9]); clear h9; have h9 : v 30 = v 30 := rfl; (try rw [h9]); clear h9; omega)) (cwV 0 hwd (gV wk_1041 wk_1038 wk_1039 wk_1040 wk_5) rfl rfl rfl (by decide +kernel) ⟨Nat.le_of_ble_eq_true rfl, Nat.le_of_ble_eq_true rfl⟩) ⟨PM.blind, va_recv hK hP (ci := 12) (q0 := 0) rfl rfl, fun U hU hW => ⟨rfl, PM.at hK hE hP hS hU hW⟩⟩ rfl rfl hl.1 rfl (lv_room (Nat.le_of_ble_eq_true rfl)) dX12_operand_135 ⟨Nat.le_of_ble_eq_true rfl, Nat.le_of_ble_eq_true rfl⟩) hS (fun q _ h => (freeM hS) q h) (freeM hS) (fun r10813 u t H1 locs ht hvm hw hB hz1 hk1 hS => ?_)
        unfold BM at hB
        rw [ht] at hB
        obtain ⟨v10814, F10815, rc9⟩ := u
        obtain ⟨hI, hrc, hf10816, hG10817, hw⟩ := hw
        dsimp only at hI hrc hB hf10816 hG10817 hw
        have hF := frCF (by decide) hG10817 hF
        rw [hrc] at hB
        have hP : va_P (dC, dI) classes (wM g c v10814 F10815 rc) H1 := hB
        have hw : (r10813.toInt = 1 ∧ (v 39).toInt < (v10814 39).toInt ∧ (v10814 39).toInt ≤ (v 30).toInt ∧ (v10814 40).toInt = (v 40).toInt) ∨ (r10813.toInt = 0 ∧ 0 ≤ (v10814 40).toInt ∧ (v 39).toInt ≤ (v10814 39).toInt ∧ (v10814 39).toInt ≤ (v 30).toInt) := hw
        have hw_r10813 := hw
        have t10818 : 0 ≤ (v10814 39).toInt ∧ (v10814 39).toInt ≤ 120 := hI.1 39 _ _ rfl
        generalize H1 = H at hP hS ⊢
        have hk : keepL (v 37) (F 28) (F 29) (F10815 28) (F10815 29) := by rw [hG10817 28 (by decide), hG10817 29 (by decide)]; exact hk
        have hd : (v10814 40).toInt < 0 → dp (F10815 28) (F10815 29) (bI (v 37)) (v 38).toInt.toNat = some d := fun hf => (by rw [hG10817 28 (by decide), hG10817 29 (by decide)]; exact hd (by omega))
        refine lv_if_eq (tgt := 150) hx hb dX12_operand_138 (by decide) (fun c10819 => ?_) (fun c10819 => ?_)
        · skip
          have t10820 := cv_eq (a := r10813.toInt) rfl (b := 0) (by decide) c10819
          have hP9 : va_P (dC, dI) classes (wM g c v10814 F10815 rc) H := hP
          exact W.vret hx hb hr (fun t ht hW => ⟨⟨(v10814, F10815, rc), rfl, ⟨hI, rfl, (frC (by decide) hf10816 (fun _ _ => rfl)), hF, (by show ((v 39).toInt ≤ (v10814 39).toInt ∧ (v10814 39).toInt ≤ (v 30).toInt ∧ (v 38).toInt ≤ (v10814 38).toInt ∧ (v10814 38).toInt - (v 38).toInt ≤ (v10814 39).toInt - (v 39).toInt ∧ (v 41).toInt ≤ (v10814 41).toInt ∧ ((v10814 40).toInt < 0 → (v10814 41).toInt = (v 41).toInt)) ∧ keepL (v 37) (F 28) (F 29) (F10815 28) (F10815 29) ∧ ((v10814 40).toInt < 0 → dp (F10815 28) (F10815 29) (bI (v 37)) (v10814 38).toInt.toNat = some (d + 1)); rw [show v10814 38 = v 38 from hf10816 38 (by decide)]; rw [show v10814 41 = v 41 from hf10816 41 (by decide)]; exact ⟨by omega, hk, fun hf => (hd (by omega)).trans (congrArg some (by omega))⟩)⟩, (by show va_P _ _ _ t.heap; rw [ht]; exact hP9)⟩, hS.F ht⟩) hS.2.2 dX12_operand_150
        · skip
          have t10821 := cv_ne (a := r10813.toInt) rfl (b := 0) (by decide) c10819
          refine lv_aload_n hx hb dX12_operand_141 rfl (lv_at hl 1 rfl) ?_
          refine lv_iconst (v := 1) hx hb dX12_operand_142 (by decide) ?_
          refine lv_aload_n hx hb dX12_operand_143 rfl (lv_at hl 1 rfl) ?_
          refine va_get (D := (dC, dI)) (ci := 12) (v := .int (v10814 42)) (C := RX12) (T := TX12) (N := 63) hx hb hwd inA_X12 hown hK hP 0 rfl rfl 42 (by decide) (hwd _ wk_1031) (fun _ h9 => h9) rfl dX12_operand_144 ?_
          have t10822 : 0 ≤ (v 37).toInt ∧ (v 37).toInt ≤ 9 := by have h9 := hI.1 37 _ _ rfl; rw [show v10814 37 = v 37 from hf10816 37 (by decide)] at h9; exact h9
          have t10823 : 0 ≤ (v 38).toInt ∧ (v 38).toInt ≤ 120 := by have h9 := hI.1 38 _ _ rfl; rw [show v10814 38 = v 38 from hf10816 38 (by decide)] at h9; exact h9
          refine va_callv (va_runV (As := [.int 1, .int (v10814 42)]) (rest := []) ⟨hx, hb, hml, hown, hwd⟩ (c_X12_lay l dC dI g c adK adV v10814 F10815 rc H.size 1 (v10814 42) hg hI (by have h9 : v10814 38 = v 38 := hf10816 38 (by decide); rw [h9]; omega)) (cwV 2 hwd (gV wk_1021 wk_1018 wk_1019 wk_1020 wk_5) rfl rfl rfl (by decide +kernel) ⟨Nat.le_of_ble_eq_true rfl, Nat.le_of_ble_eq_true rfl⟩) ⟨PM.blind, va_recv hK hP (ci := 12) (q0 := 0) rfl rfl, fun U hU hW => ⟨rfl, PM.at hK hE hP hS hU hW⟩⟩ rfl rfl hl.1 rfl (lv_room (Nat.le_of_ble_eq_true rfl)) dX12_operand_147 ⟨Nat.le_of_ble_eq_true rfl, Nat.le_of_ble_eq_true rfl⟩) hS (fun q _ h => (freeM hS) q h) (freeM hS) (fun u t H1 locs ht hvm hw hB hz1 hk1 hS => ?_)
          unfold BM at hB
          rw [ht] at hB
          obtain ⟨v10825, F10826, rc9⟩ := u
          obtain ⟨hI, hrc, hf10827, hG10828, hw⟩ := hw
          dsimp only at hI hrc hB hf10827 hG10828 hw
          have hF := frCF (by decide) hG10828 hF
          rw [hrc] at hB
          have hP : va_P (dC, dI) classes (wM g c v10825 F10826 rc) H1 := hB
          have hw : (v10825 38).toInt = (v10814 38).toInt + 1 ∧ keepL (v10814 37) (F10815 28) (F10815 29) (F10826 28) (F10826 29) ∧ dp (F10826 28) (F10826 29) (bI (v10814 37)) ((v10814 38).toInt.toNat + 1) = dpS (dp (F10815 28) (F10815 29) (bI (v10814 37)) (v10814 38).toInt.toNat) (1 : Int32) (v10814 42) := hw
          rw [show v10814 38 = v 38 from hf10816 38 (by decide)] at hw
          rw [show v10814 37 = v 37 from hf10816 37 (by decide)] at hw
          have hw_r10824 := hw
          have t10829 : 0 ≤ (v10825 38).toInt ∧ (v10825 38).toInt ≤ 120 := hI.1 38 _ _ rfl
          have k10830 : (1 : Int32).toInt = 1 := by decide
          generalize H1 = H at hP hS ⊢
          have hk := hk.tr hw_r10824.2.1
          have hd : (v10814 40).toInt < 0 → dp (F10826 28) (F10826 29) (bI (v 37)) (v10825 38).toInt.toNat = some (d + 1) := fun hf => (by have e9 : (v10825 38).toInt.toNat = (v 38).toInt.toNat + 1 := (by omega); rw [e9, hw_r10824.2.2, hd hf]; exact dpS_1 (by decide))
          have hP9 : va_P (dC, dI) classes (wM g c v10825 F10826 rc) H := hP
          exact W.vret hx hb hr (fun t ht hW => ⟨⟨(v10825, F10826, rc), rfl, ⟨hI, rfl, (frC (by decide) hf10827 (frC (by decide) hf10816 (fun _ _ => rfl))), hF, (by show ((v 39).toInt ≤ (v10825 39).toInt ∧ (v10825 39).toInt ≤ (v 30).toInt ∧ (v 38).toInt ≤ (v10825 38).toInt ∧ (v10825 38).toInt - (v 38).toInt ≤ (v10825 39).toInt - (v 39).toInt ∧ (v 41).toInt ≤ (v10825 41).toInt ∧ ((v10825 40).toInt < 0 → (v10825 41).toInt = (v 41).toInt)) ∧ keepL (v 37) (F 28) (F 29) (F10826 28) (F10826 29) ∧ ((v10825 40).toInt < 0 → dp (F10826 28) (F10826 29) (bI (v 37)) (v10825 38).toInt.toNat = some (d + 1)); rw [show v10825 39 = v10814 39 from hf10827 39 (by decide)]; rw [show v10825 41 = v 41 from (hf10827 41 (by decide)).trans (hf10816 41 (by decide))]; rw [show v10825 40 = v10814 40 from hf10827 40 (by decide)]; exact ⟨by omega, hk, fun hf => (hd (by omega)).trans (congrArg some (by omega))⟩)⟩, (by show va_P _ _ _ t.heap; rw [ht]; exact hP9)⟩, hS.F ht⟩) hS.2.2 dX12_operand_150
      · skip
        have t10831 := cv_eq (a := r10803.toInt) rfl (b := 40) (by decide) c10809
        refine lv_aload_n hx hb dX12_operand_77 rfl (lv_at hl 1 rfl) ?_
        have t10832 : 0 ≤ (v 39).toInt ∧ (v 39).toInt ≤ 120 := hI.1 39 _ _ rfl
        have t10833 : 0 ≤ (v 41).toInt ∧ (v 41).toInt ≤ 8 := hI.1 41 _ _ rfl
        refine va_calli (va_runV (As := []) (rest := []) ⟨hx, hb, hml, hown, hwd⟩ (c_X12_opens l dC dI g c adK adV v F rc H.size  hg hI (by have h9 : v 39 = v 39 := rfl; (try rw [h9]); clear h9; have h9 : v 30 = v 30 := rfl; (try rw [h9]); clear h9; omega)) (cwV 0 hwd (gV wk_1025 wk_1022 wk_1023 wk_1024 wk_5) rfl rfl rfl (by decide +kernel) ⟨Nat.le_of_ble_eq_true rfl, Nat.le_of_ble_eq_true rfl⟩) ⟨PM.blind, va_recv hK hP (ci := 12) (q0 := 0) rfl rfl, fun U hU hW => ⟨rfl, PM.at hK hE hP hS hU hW⟩⟩ rfl rfl hl.1 rfl (lv_room (Nat.le_of_ble_eq_true rfl)) dX12_operand_78 ⟨Nat.le_of_ble_eq_true rfl, Nat.le_of_ble_eq_true rfl⟩) hS (fun q _ h => (freeM hS) q h) (freeM hS) (fun r10834 u t H1 locs ht hvm hw hB hz1 hk1 hS => ?_)
        unfold BM at hB
        rw [ht] at hB
        obtain ⟨v10835, F10836, rc9⟩ := u
        obtain ⟨hI, hrc, hf10837, hG10838, hw⟩ := hw
        dsimp only at hI hrc hB hf10837 hG10838 hw
        have hF := frCF (by decide) hG10838 hF
        rw [hrc] at hB
        have hP : va_P (dC, dI) classes (wM g c v10835 F10836 rc) H1 := hB
        have hw : (r10834.toInt = 1 ∧ (v 41).toInt < 8 ∧ (v10835 41).toInt = (v 41).toInt + 1 ∧ (v10835 39).toInt = (v 39).toInt + 1 ∧ (v10835 40).toInt = (v 40).toInt) ∨ (r10834.toInt = 0 ∧ (v 41).toInt = 8 ∧ 0 ≤ (v10835 40).toInt ∧ (v10835 41).toInt = (v 41).toInt ∧ (v10835 39).toInt = (v 39).toInt) := hw
        have hw_r10834 := hw
        have t10839 : 0 ≤ (v10835 39).toInt ∧ (v10835 39).toInt ≤ 120 := hI.1 39 _ _ rfl
        have t10840 : 0 ≤ (v10835 41).toInt ∧ (v10835 41).toInt ≤ 8 := hI.1 41 _ _ rfl
        generalize H1 = H at hP hS ⊢
        have hk : keepL (v 37) (F 28) (F 29) (F10836 28) (F10836 29) := by rw [hG10838 28 (by decide), hG10838 29 (by decide)]; exact hk
        have hd : (v10835 40).toInt < 0 → dp (F10836 28) (F10836 29) (bI (v 37)) (v 38).toInt.toNat = some d := fun hf => (by rw [hG10838 28 (by decide), hG10838 29 (by decide)]; exact hd (by omega))
        refine lv_if_ne (tgt := 85) hx hb dX12_operand_81 (by decide) (fun c10841 => ?_) (fun c10841 => ?_)
        · skip
          have t10842 := cv_ne (a := r10834.toInt) rfl (b := 0) (by decide) c10841
          exfalso
          omega
        · skip
          have t10843 := cv_eq (a := r10834.toInt) rfl (b := 0) (by decide) c10841
          have hP9 : va_P (dC, dI) classes (wM g c v10835 F10836 rc) H := hP
          exact W.vret hx hb hr (fun t ht hW => ⟨⟨(v10835, F10836, rc), rfl, ⟨hI, rfl, (frC (by decide) hf10837 (fun _ _ => rfl)), hF, (by show ((v 39).toInt ≤ (v10835 39).toInt ∧ (v10835 39).toInt ≤ (v 30).toInt ∧ (v 38).toInt ≤ (v10835 38).toInt ∧ (v10835 38).toInt - (v 38).toInt ≤ (v10835 39).toInt - (v 39).toInt ∧ (v 41).toInt ≤ (v10835 41).toInt ∧ ((v10835 40).toInt < 0 → (v10835 41).toInt = (v 41).toInt)) ∧ keepL (v 37) (F 28) (F 29) (F10836 28) (F10836 29) ∧ ((v10835 40).toInt < 0 → dp (F10836 28) (F10836 29) (bI (v 37)) (v10835 38).toInt.toNat = some (d + 1)); rw [show v10835 38 = v 38 from hf10837 38 (by decide)]; exact ⟨by omega, hk, fun hf => (hd (by omega)).trans (congrArg some (by omega))⟩)⟩, (by show va_P _ _ _ t.heap; rw [ht]; exact hP9)⟩, hS.F ht⟩) hS.2.2 dX12_operand_84
    · skip
      have t10844 := cv_eq (a := r10803.toInt) rfl (b := 45) (by decide) c10807
      refine lv_aload_n hx hb dX12_operand_40 rfl (lv_at hl 1 rfl) ?_
      have t10845 : 0 ≤ (v 39).toInt ∧ (v 39).toInt ≤ 120 := hI.1 39 _ _ rfl
      have t10846 : 0 ≤ (v 41).toInt ∧ (v 41).toInt ≤ 8 := hI.1 41 _ _ rfl
      refine va_calli (va_runV (As := []) (rest := []) ⟨hx, hb, hml, hown, hwd⟩ (c_X12_opens l dC dI g c adK adV v F rc H.size  hg hI (by have h9 : v 39 = v 39 := rfl; (try rw [h9]); clear h9; have h9 : v 30 = v 30 := rfl; (try rw [h9]); clear h9; omega)) (cwV 0 hwd (gV wk_1025 wk_1022 wk_1023 wk_1024 wk_5) rfl rfl rfl (by decide +kernel) ⟨Nat.le_of_ble_eq_true rfl, Nat.le_of_ble_eq_true rfl⟩) ⟨PM.blind, va_recv hK hP (ci := 12) (q0 := 0) rfl rfl, fun U hU hW => ⟨rfl, PM.at hK hE hP hS hU hW⟩⟩ rfl rfl hl.1 rfl (lv_room (Nat.le_of_ble_eq_true rfl)) dX12_operand_41 ⟨Nat.le_of_ble_eq_true rfl, Nat.le_of_ble_eq_true rfl⟩) hS (fun q _ h => (freeM hS) q h) (freeM hS) (fun r10847 u t H1 locs ht hvm hw hB hz1 hk1 hS => ?_)
      unfold BM at hB
      rw [ht] at hB
      obtain ⟨v10848, F10849, rc9⟩ := u
      obtain ⟨hI, hrc, hf10850, hG10851, hw⟩ := hw
      dsimp only at hI hrc hB hf10850 hG10851 hw
      have hF := frCF (by decide) hG10851 hF
      rw [hrc] at hB
      have hP : va_P (dC, dI) classes (wM g c v10848 F10849 rc) H1 := hB
      have hw : (r10847.toInt = 1 ∧ (v 41).toInt < 8 ∧ (v10848 41).toInt = (v 41).toInt + 1 ∧ (v10848 39).toInt = (v 39).toInt + 1 ∧ (v10848 40).toInt = (v 40).toInt) ∨ (r10847.toInt = 0 ∧ (v 41).toInt = 8 ∧ 0 ≤ (v10848 40).toInt ∧ (v10848 41).toInt = (v 41).toInt ∧ (v10848 39).toInt = (v 39).toInt) := hw
      have hw_r10847 := hw
      have t10852 : 0 ≤ (v10848 39).toInt ∧ (v10848 39).toInt ≤ 120 := hI.1 39 _ _ rfl
      have t10853 : 0 ≤ (v10848 41).toInt ∧ (v10848 41).toInt ≤ 8 := hI.1 41 _ _ rfl
      generalize H1 = H at hP hS ⊢
      have hk : keepL (v 37) (F 28) (F 29) (F10849 28) (F10849 29) := by rw [hG10851 28 (by decide), hG10851 29 (by decide)]; exact hk
      have hd : (v10848 40).toInt < 0 → dp (F10849 28) (F10849 29) (bI (v 37)) (v 38).toInt.toNat = some d := fun hf => (by rw [hG10851 28 (by decide), hG10851 29 (by decide)]; exact hd (by omega))
      refine lv_if_ne (tgt := 48) hx hb dX12_operand_44 (by decide) (fun c10854 => ?_) (fun c10854 => ?_)
      · skip
        have t10855 := cv_ne (a := r10847.toInt) rfl (b := 0) (by decide) c10854
        exfalso
        omega
      · skip
        have t10856 := cv_eq (a := r10847.toInt) rfl (b := 0) (by decide) c10854
        have hP9 : va_P (dC, dI) classes (wM g c v10848 F10849 rc) H := hP
        exact W.vret hx hb hr (fun t ht hW => ⟨⟨(v10848, F10849, rc), rfl, ⟨hI, rfl, (frC (by decide) hf10850 (fun _ _ => rfl)), hF, (by show ((v 39).toInt ≤ (v10848 39).toInt ∧ (v10848 39).toInt ≤ (v 30).toInt ∧ (v 38).toInt ≤ (v10848 38).toInt ∧ (v10848 38).toInt - (v 38).toInt ≤ (v10848 39).toInt - (v 39).toInt ∧ (v 41).toInt ≤ (v10848 41).toInt ∧ ((v10848 40).toInt < 0 → (v10848 41).toInt = (v 41).toInt)) ∧ keepL (v 37) (F 28) (F 29) (F10849 28) (F10849 29) ∧ ((v10848 40).toInt < 0 → dp (F10849 28) (F10849 29) (bI (v 37)) (v10848 38).toInt.toNat = some (d + 1)); rw [show v10848 38 = v 38 from hf10850 38 (by decide)]; exact ⟨by omega, hk, fun hf => (hd (by omega)).trans (congrArg some (by omega))⟩)⟩, (by show va_P _ _ _ t.heap; rw [ht]; exact hP9)⟩, hS.F ht⟩) hS.2.2 dX12_operand_47
  · skip
    have t10857 := cv_nlt (a := r10804.toInt) rfl (b := 0) (by decide) c10805
    refine lv_aload_n hx hb dX12_operand_12 rfl (lv_at hl 1 rfl) ?_
    refine lv_iconst (v := 2) hx hb dX12_operand_13 (by decide) ?_
    refine lv_iload_n hx hb dX12_operand_14 rfl (lv_at hl 0 rfl) ?_
    refine va_calli (va_runS (As := [.int r10803]) (rest := [.int 2, .ref (g 0)]) ⟨hx, hb, hml, hown, hwd⟩ (c_X12_nameOf l dC dI g c adK adV v F rc H.size r10803 hg hI ) (va_cwS 1 hwd (gT wk_1034 wk_1032 wk_1033 wk_5) rfl rfl rfl (by decide +kernel) ⟨Nat.le_of_ble_eq_true rfl, Nat.le_of_ble_eq_true rfl⟩) ⟨PM.blind, fun U hU hW => ⟨rfl, PM.at hK hE hP hS hU hW⟩⟩ rfl rfl hl.1 rfl (lv_room (Nat.le_of_ble_eq_true rfl)) dX12_operand_15 ⟨Nat.le_of_ble_eq_true rfl, Nat.le_of_ble_eq_true rfl⟩) hS (fun q _ h => (freeM hS) q h) (freeM hS) (fun r10858 u t H1 locs ht hvm hw hB hz1 hk1 hS => ?_)
    unfold BM at hB
    rw [ht] at hB
    have hP : va_P (dC, dI) classes (wM g c v F rc) H1 := hB
    have hw : r10858.toInt = nmM r10803 ∧ (-1 ≤ r10858.toInt ∧ r10858.toInt ≤ 5) := hw
    have hw_r10858 := hw
    generalize H1 = H at hP hS ⊢
    have np_r10858 := nmM_pos r10803
    have t10859 : 0 ≤ (v 37).toInt ∧ (v 37).toInt ≤ 9 := hI.1 37 _ _ rfl
    have t10860 : 0 ≤ (v 38).toInt ∧ (v 38).toInt ≤ 120 := hI.1 38 _ _ rfl
    refine va_callv (va_runV (As := [.int 2, .int r10858]) (rest := []) ⟨hx, hb, hml, hown, hwd⟩ (c_X12_lay l dC dI g c adK adV v F rc H.size 2 r10858 hg hI (by have h9 : v 38 = v 38 := rfl; rw [h9]; omega)) (cwV 2 hwd (gV wk_1021 wk_1018 wk_1019 wk_1020 wk_5) rfl rfl rfl (by decide +kernel) ⟨Nat.le_of_ble_eq_true rfl, Nat.le_of_ble_eq_true rfl⟩) ⟨PM.blind, va_recv hK hP (ci := 12) (q0 := 0) rfl rfl, fun U hU hW => ⟨rfl, PM.at hK hE hP hS hU hW⟩⟩ rfl rfl hl.1 rfl (lv_room (Nat.le_of_ble_eq_true rfl)) dX12_operand_18 ⟨Nat.le_of_ble_eq_true rfl, Nat.le_of_ble_eq_true rfl⟩) hS (fun q _ h => (freeM hS) q h) (freeM hS) (fun u t H1 locs ht hvm hw hB hz1 hk1 hS => ?_)
    unfold BM at hB
    rw [ht] at hB
    obtain ⟨v10862, F10863, rc9⟩ := u
    obtain ⟨hI, hrc, hf10864, hG10865, hw⟩ := hw
    dsimp only at hI hrc hB hf10864 hG10865 hw
    have hF := frCF (by decide) hG10865 hF
    rw [hrc] at hB
    have hP : va_P (dC, dI) classes (wM g c v10862 F10863 rc) H1 := hB
    have hw : (v10862 38).toInt = (v 38).toInt + 1 ∧ keepL (v 37) (F 28) (F 29) (F10863 28) (F10863 29) ∧ dp (F10863 28) (F10863 29) (bI (v 37)) ((v 38).toInt.toNat + 1) = dpS (dp (F 28) (F 29) (bI (v 37)) (v 38).toInt.toNat) (2 : Int32) r10858 := hw
    have hw_r10861 := hw
    have t10866 : 0 ≤ (v10862 38).toInt ∧ (v10862 38).toInt ≤ 120 := hI.1 38 _ _ rfl
    have k10867 : (2 : Int32).toInt = 2 := by decide
    generalize H1 = H at hP hS ⊢
    have hk := hk.tr hw_r10861.2.1
    have hd : (v 40).toInt < 0 → dp (F10863 28) (F10863 29) (bI (v 37)) (v10862 38).toInt.toNat = some (d + 1) := fun hf => (by have e9 : (v10862 38).toInt.toNat = (v 38).toInt.toNat + 1 := (by omega); rw [e9, hw_r10861.2.2, hd hf]; exact dpS_2 (by decide) (by omega))
    refine lv_aload_n hx hb dX12_operand_21 rfl (lv_at hl 1 rfl) ?_
    refine lv_dup hx hb dX12_operand_22 rfl ?_
    refine va_get (D := (dC, dI)) (ci := 12) (v := .int (v10862 39)) (C := RX12) (T := TX12) (N := 63) hx hb hwd inA_X12 hown hK hP 0 rfl rfl 39 (by decide) (hwd _ wk_1004) (fun _ h9 => h9) rfl dX12_operand_23 ?_
    refine my_top (v := v 39) (hf10864 39 (by decide)) ?_
    have t10868 : 0 ≤ (v 39).toInt ∧ (v 39).toInt ≤ 120 := by have h9 := hI.1 39 _ _ rfl; rw [show v10862 39 = v 39 from hf10864 39 (by decide)] at h9; exact h9
    refine lv_iconst (v := 1) hx hb dX12_operand_26 (by decide) ?_
    refine lv_iadd hx hb dX12_operand_27 ?_
    refine lv_topi (fun z10869 e10870 => ?_)
    try (have t10871 := tadd e10870 (a := (v 39).toInt) rfl (b := 1) (by decide) (by omega))
    refine va_put (D := (dC, dI)) (ci := 12) (v := .int z10869) (ty := .int) (C := RX12) (T := TX12) (N := 63) (fs := fsM_0 g v10862 rc) hx hb hwd inA_X12 tyX12 tyX12_ok nmX12 hown hK hP (DM hg) hS 0 rfl rfl 39 (by decide) (hwd _ wk_1004) (fun _ h9 => h9) rfl (by decide +kernel) rfl rfl (Nat.le_of_ble_eq_true rfl) dX12_operand_28 (fun H locs hP _ hS => ?_)
    have hP := va_P_eq (pM_39 g c _ _ _ _) hP
    have hI := IM.put hI 39 z10869 rfl (by omega)
    refine lv_goto (tgt := 150) hx hb dX12_operand_31 (by decide) ?_
    have hP9 : va_P (dC, dI) classes (wM g c (va_up v10862 39 z10869) F10863 rc) H := hP
    exact W.vret hx hb hr (fun t ht hW => ⟨⟨((va_up v10862 39 z10869), F10863, rc), rfl, ⟨hI, rfl, (frU (by decide) (frC (by decide) hf10864 (fun _ _ => rfl))), hF, (by show ((v 39).toInt ≤ z10869.toInt ∧ z10869.toInt ≤ (v 30).toInt ∧ (v 38).toInt ≤ (v10862 38).toInt ∧ (v10862 38).toInt - (v 38).toInt ≤ z10869.toInt - (v 39).toInt ∧ (v 41).toInt ≤ ((va_up v10862 39 z10869) 41).toInt ∧ (((va_up v10862 39 z10869) 40).toInt < 0 → ((va_up v10862 39 z10869) 41).toInt = (v 41).toInt)) ∧ keepL (v 37) (F 28) (F 29) (F10863 28) (F10863 29) ∧ (((va_up v10862 39 z10869) 40).toInt < 0 → dp (F10863 28) (F10863 29) (bI (v 37)) (v10862 38).toInt.toNat = some (d + 1)); rw [show (va_up v10862 39 z10869) 41 = v 41 from hf10864 41 (by decide)]; rw [show (va_up v10862 39 z10869) 40 = v 40 from hf10864 40 (by decide)]; exact ⟨by omega, hk, fun hf => (hd (by omega)).trans (congrArg some (by omega))⟩)⟩, (by show va_P _ _ _ t.heap; rw [ht]; exact hP9)⟩, hS.F ht⟩) hS.2.2 dX12_operand_150
set_option maxHeartbeats 8000000 in
set_option maxRecDepth 100000 in
theorem c_X12_product_8 (l : Launch) (dC : Nat → ClassId) (dI : Nat → Nat → Nat) (g : Nat → Nat) (c : Nat → ClassId) (adK adV : Nat → Nat) (v : Nat → Int32) (F : Nat → Nat → Int32) (rc sz : Nat) (d : Nat) (hg : injM g) (hI : IM v F) (hq : (v 38).toInt ≤ (v 39).toInt ∧ (v 39).toInt ≤ (v 30).toInt ∧ (v 40).toInt < 0 ∧ (v 41).toInt = 8) (hdp : dp (F 28) (F 29) (bI (v 37)) (v 38).toInt.toNat = some d) : Met l yX12_product (Cond.code yX12_product cX12_product 2 none :: wA) ({ frames := 4, cells := 0, slots := 0, locals := 160 }) (va_Pc [.ref (g 0)] (PM dC dI g c adK adV v F rc sz)) (va_Qv (fun (u : StM) => IM u.1 u.2.1 ∧ u.2.2 = rc ∧ (∀ k, k ∉ ([38, 39, 40, 41, 42] : List Nat) → u.1 k = v k) ∧ (∀ k, k ∉ ([28, 29] : List Nat) → u.2.1 k = F k) ∧ (((v 39).toInt ≤ (u.1 39).toInt ∧ (u.1 39).toInt ≤ (v 30).toInt ∧ (v 38).toInt ≤ (u.1 38).toInt ∧ (u.1 38).toInt - (v 38).toInt ≤ (u.1 39).toInt - (v 39).toInt ∧ (v 41).toInt ≤ (u.1 41).toInt ∧ ((u.1 40).toInt < 0 → (u.1 41).toInt = (v 41).toInt)) ∧ keepL (v 37) (F 28) (F 29) (u.2.1 28) (u.2.1 29) ∧ ((u.1 40).toInt < 0 → dp (u.2.1 28) (u.2.1 29) (bI (v 37)) (u.1 38).toInt.toNat = some (d + 1)))) (BM dC dI g c) (AM g sz)) 0 0 (AM g sz) := by
  refine Met.ofW (cc := cX12_product) (maxL := 2) (ret := none) (by decide) rfl ?_
  intro p e s m args below meth c0 s₁ B hml hv
  obtain ⟨rfl, hsz, hP, hK, hE⟩ := hv
  have hx := B.exec
  have hb := B.bytes
  have hr := B.returns
  have hts := atoms_spec (ws := Cond.code yX12_product cX12_product 2 none :: wA) B.pre
  have hwd : ∀ w ∈ wA, w.before _ s = true := fun w h => hts w (List.mem_cons_of_mem _ h)
  have hown : s.vm.findClass RX12 = some m.cls := findClass_of_methodNamed B.named
  have hlocks := B.notSynchronized
  subst hsz
  have hl := lv_entry ([.ref (g 0)]) (n := 2) (Nat.le_of_ble_eq_true rfl)
  rw [lg_entry_eq]
  generalize (lg_sl ([.ref (g 0)]) ++ List.replicate (2 - (lg_sl ([.ref (g 0)])).length) Slot.unset).toArray = ls at hl ⊢
  have hl : lv_has ls 2 [(0, .ref (g 0))] := hl
  obtain ⟨H, eH⟩ : ∃ z, z = s.heap := ⟨_, rfl⟩
  have hP : va_P (dC, dI) classes (wM g c v F rc) H := by rw [eH]; exact hP
  have hS : va_S (AM g s.heap.size) s.heap H [] := by rw [eH]; exact va_S.rf
  refine my_heap eH ?_
  have hF : ∀ k, k ∉ ([28, 29] : List Nat) → F k = F k := fun _ _ => rfl
  have hb30 : 0 ≤ (v 30).toInt ∧ (v 30).toInt ≤ 120 := hI.1 30 _ _ rfl
  have hb37 : 0 ≤ (v 37).toInt ∧ (v 37).toInt ≤ 9 := hI.1 37 _ _ rfl
  have hb38 : 0 ≤ (v 38).toInt ∧ (v 38).toInt ≤ 120 := hI.1 38 _ _ rfl
  have hb39 : 0 ≤ (v 39).toInt ∧ (v 39).toInt ≤ 120 := hI.1 39 _ _ rfl
  have hb41 : 0 ≤ (v 41).toInt ∧ (v 41).toInt ≤ 8 := hI.1 41 _ _ rfl
  have hk : keepL (v 37) (F 28) (F 29) (F 28) (F 29) := keepL.rf
  have hd : (v 40).toInt < 0 → dp (F 28) (F 29) (bI (v 37)) (v 38).toInt.toNat = some d := fun _ => hdp
  refine lv_aload_n hx hb dX12_product_0 rfl (lv_at hl 0 rfl) ?_
  have t10962 : 0 ≤ (v 30).toInt ∧ (v 30).toInt ≤ 120 := hI.1 30 _ _ rfl
  have t10963 : 0 ≤ (v 37).toInt ∧ (v 37).toInt ≤ 9 := hI.1 37 _ _ rfl
  have t10964 : 0 ≤ (v 38).toInt ∧ (v 38).toInt ≤ 120 := hI.1 38 _ _ rfl
  have t10965 : 0 ≤ (v 39).toInt ∧ (v 39).toInt ≤ 120 := hI.1 39 _ _ rfl
  have t10966 : 0 ≤ (v 41).toInt ∧ (v 41).toInt ≤ 8 := hI.1 41 _ _ rfl
  refine va_callv (va_runV (As := []) (rest := []) ⟨hx, hb, hml, hown, hwd⟩ (c_X12_operand_8 l dC dI g c adK adV v F rc H.size  d hg hI (by have h9 : v 38 = v 38 := rfl; (try rw [h9]); clear h9; have h9 : v 39 = v 39 := rfl; (try rw [h9]); clear h9; have h9 : v 30 = v 30 := rfl; (try rw [h9]); clear h9; have h9 : v 40 = v 40 := rfl; (try rw [h9]); clear h9; have h9 : v 41 = v 41 := rfl; (try rw [h9]); clear h9; omega) (by have h9 : v 37 = (v 37) := rfl; have h8 : v 38 = (v 38) := rfl; (try rw [h9]); (try rw [h8]); exact hd (by omega))) (cwV 0 hwd (gV wk_1030 wk_1035 wk_1036 wk_1037 wk_5) rfl rfl rfl (by decide +kernel) ⟨Nat.le_of_ble_eq_true rfl, Nat.le_of_ble_eq_true rfl⟩) ⟨PM.blind, va_recv hK hP (ci := 12) (q0 := 0) rfl rfl, fun U hU hW => ⟨rfl, PM.at hK hE hP hS hU hW⟩⟩ rfl rfl hl.1 rfl (lv_room (Nat.le_of_ble_eq_true rfl)) dX12_product_1 ⟨Nat.le_of_ble_eq_true rfl, Nat.le_of_ble_eq_true rfl⟩) hS (fun q _ h => (freeM hS) q h) (freeM hS) (fun u t H1 locs ht hvm hw hB hz1 hk1 hS => ?_)
  unfold BM at hB
  rw [ht] at hB
  obtain ⟨v10968, F10969, rc9⟩ := u
  obtain ⟨hI, hrc, hf10970, hG10971, hw⟩ := hw
  dsimp only at hI hrc hB hf10970 hG10971 hw
  have hF := frCF (by decide) hG10971 hF
  rw [hrc] at hB
  have hP : va_P (dC, dI) classes (wM g c v10968 F10969 rc) H1 := hB
  have hw : ((v 39).toInt ≤ (v10968 39).toInt ∧ (v10968 39).toInt ≤ (v 30).toInt ∧ (v 38).toInt ≤ (v10968 38).toInt ∧ (v10968 38).toInt - (v 38).toInt ≤ (v10968 39).toInt - (v 39).toInt ∧ (v 41).toInt ≤ (v10968 41).toInt ∧ ((v10968 40).toInt < 0 → (v10968 41).toInt = (v 41).toInt)) ∧ keepL (v 37) (F 28) (F 29) (F10969 28) (F10969 29) ∧ ((v10968 40).toInt < 0 → dp (F10969 28) (F10969 29) (bI (v 37)) (v10968 38).toInt.toNat = some (d + 1)) := hw
  have hw_r10967 := hw
  have t10972 : 0 ≤ (v10968 38).toInt ∧ (v10968 38).toInt ≤ 120 := hI.1 38 _ _ rfl
  have t10973 : 0 ≤ (v10968 39).toInt ∧ (v10968 39).toInt ≤ 120 := hI.1 39 _ _ rfl
  have t10974 : 0 ≤ (v10968 41).toInt ∧ (v10968 41).toInt ≤ 8 := hI.1 41 _ _ rfl
  generalize H1 = H at hP hS ⊢
  have hk := hk.tr hw_r10967.2.1
  have hd := hw_r10967.2.2
  have lp10975 : ∀ (n : Nat) (v_lp10975 : Nat → Int32) (F_lp10975 : Nat → Nat → Int32) (H : Heap) (locs : List Loc) (ls : Array Slot), ((v 39).toInt ≤ (v_lp10975 39).toInt ∧ (v_lp10975 39).toInt ≤ (v 30).toInt ∧ (v 38).toInt ≤ (v_lp10975 38).toInt ∧ (v_lp10975 38).toInt - (v 38).toInt ≤ (v_lp10975 39).toInt - (v 39).toInt ∧ (v 41).toInt ≤ (v_lp10975 41).toInt ∧ ((v_lp10975 40).toInt < 0 → (v_lp10975 41).toInt = (v 41).toInt)) → (keepL (v 37) (F 28) (F 29) (F_lp10975 28) (F_lp10975 29)) → (((v_lp10975 40).toInt < 0 → dp (F_lp10975 28) (F_lp10975 29) (bI (v 37)) (v_lp10975 38).toInt.toNat = some (d + 1))) → (121 - (v_lp10975 39).toInt ≤ (n : Int)) → (∀ k, k ∉ ([38, 39, 40, 41, 42] : List Nat) → v_lp10975 k = v10968 k) → IM v_lp10975 F_lp10975 → (∀ k, k ∉ ([28, 29] : List Nat) → F_lp10975 k = F k) → va_P (dC, dI) classes (wM g c v_lp10975 F_lp10975 rc) H → va_S (AM g s.heap.size) s.heap H locs → lv_has ls 2 [(0, .ref (g 0))] → W p l e (headSpec (Cond.code yX12_product cX12_product 2 none :: wA) ({ frames := 4, cells := 0, slots := 0, locals := 160 })).room s m ([.ref (g 0)] : List Value).toArray below meth c0 H locs 0 0 (MQ below (va_Qv (fun (u : StM) => IM u.1 u.2.1 ∧ u.2.2 = rc ∧ (∀ k, k ∉ ([38, 39, 40, 41, 42] : List Nat) → u.1 k = v k) ∧ (∀ k, k ∉ ([28, 29] : List Nat) → u.2.1 k = F k) ∧ (((v 39).toInt ≤ (u.1 39).toInt ∧ (u.1 39).toInt ≤ (v 30).toInt ∧ (v 38).toInt ≤ (u.1 38).toInt ∧ (u.1 38).toInt - (v 38).toInt ≤ (u.1 39).toInt - (v 39).toInt ∧ (v 41).toInt ≤ (u.1 41).toInt ∧ ((u.1 40).toInt < 0 → (u.1 41).toInt = (v 41).toInt)) ∧ keepL (v 37) (F 28) (F 29) (u.2.1 28) (u.2.1 29) ∧ ((u.1 40).toInt < 0 → dp (u.2.1 28) (u.2.1 29) (bI (v 37)) (u.1 38).toInt.toNat = some (d + 1)))) (BM dC dI g c) (AM g s.heap.size)) ([.ref (g 0)] : List Value).toArray s 0 0 (AM g s.heap.size)) (F0 m 4 ls []) := by
    intro n
    induction n with
    | zero =>
      intro v_lp10975 F_lp10975 H locs ls t10976 t10977 t10978 hm hf_lp10975 hI hF hP hS hl
      exfalso
      have hI1 := hI.1
      omega
    | succ n ih_lp10975 =>
      intro v_lp10975 F_lp10975 H locs ls t10976 t10977 t10978 hm hf_lp10975 hI hF hP hS hl
      have hk := t10977
      have hd := t10978
      refine lv_aload_n hx hb dX12_product_4 rfl (lv_at hl 0 rfl) ?_
      refine va_get (D := (dC, dI)) (ci := 12) (v := .int (v_lp10975 40)) (C := RX12) (T := TX12) (N := 63) hx hb hwd inA_X12 hown hK hP 0 rfl rfl 40 (by decide) (hwd _ wk_1005) (fun _ h9 => h9) rfl dX12_product_5 ?_
      refine lv_if_ge (tgt := 57) hx hb dX12_product_8 (by decide) (fun c10979 => ?_) (fun c10979 => ?_)
      · skip
        have t10980 := cv_le (a := 0) (by decide) (b := (v_lp10975 40).toInt) rfl c10979
        have hP9 : va_P (dC, dI) classes (wM g c v_lp10975 F_lp10975 rc) H := hP
        exact W.vret hx hb hr (fun t ht hW => ⟨⟨(v_lp10975, F_lp10975, rc), rfl, ⟨hI, rfl, (frC (by decide) hf_lp10975 (frC (by decide) hf10970 (fun _ _ => rfl))), hF, (by show ((v 39).toInt ≤ (v_lp10975 39).toInt ∧ (v_lp10975 39).toInt ≤ (v 30).toInt ∧ (v 38).toInt ≤ (v_lp10975 38).toInt ∧ (v_lp10975 38).toInt - (v 38).toInt ≤ (v_lp10975 39).toInt - (v 39).toInt ∧ (v 41).toInt ≤ (v_lp10975 41).toInt ∧ ((v_lp10975 40).toInt < 0 → (v_lp10975 41).toInt = (v 41).toInt)) ∧ keepL (v 37) (F 28) (F 29) (F_lp10975 28) (F_lp10975 29) ∧ ((v_lp10975 40).toInt < 0 → dp (F_lp10975 28) (F_lp10975 29) (bI (v 37)) (v_lp10975 38).toInt.toNat = some (d + 1)); exact ⟨by omega, hk, fun hf => (hd (by omega)).trans (congrArg some (by omega))⟩)⟩, (by show va_P _ _ _ t.heap; rw [ht]; exact hP9)⟩, hS.F ht⟩) hS.2.2 dX12_product_57
      · skip
        have t10981 := cv_nle (a := 0) (by decide) (b := (v_lp10975 40).toInt) rfl c10979
        refine lv_aload_n hx hb dX12_product_11 rfl (lv_at hl 0 rfl) ?_
        have t10982 : 0 ≤ (v 30).toInt ∧ (v 30).toInt ≤ 120 := by have h9 := hI.1 30 _ _ rfl; rw [show v_lp10975 30 = v 30 from (hf_lp10975 30 (by decide)).trans (hf10970 30 (by decide))] at h9; exact h9
        have t10983 : 0 ≤ (v_lp10975 39).toInt ∧ (v_lp10975 39).toInt ≤ 120 := hI.1 39 _ _ rfl
        refine va_calli (va_runV (As := []) (rest := []) ⟨hx, hb, hml, hown, hwd⟩ (c_X12_look l dC dI g c adK adV v_lp10975 F_lp10975 rc H.size  hg hI ) (cwV 0 hwd (gV wk_1017 wk_1014 wk_1015 wk_1016 wk_5) rfl rfl rfl (by decide +kernel) ⟨Nat.le_of_ble_eq_true rfl, Nat.le_of_ble_eq_true rfl⟩) ⟨PM.blind, va_recv hK hP (ci := 12) (q0 := 0) rfl rfl, fun U hU hW => ⟨rfl, PM.at hK hE hP hS hU hW⟩⟩ rfl rfl hl.1 rfl (lv_room (Nat.le_of_ble_eq_true rfl)) dX12_product_12 ⟨Nat.le_of_ble_eq_true rfl, Nat.le_of_ble_eq_true rfl⟩) hS (fun q _ h => (freeM hS) q h) (freeM hS) (fun r10984 u t H1 locs ht hvm hw hB hz1 hk1 hS => ?_)
        unfold BM at hB
        rw [ht] at hB
        have hP : va_P (dC, dI) classes (wM g c v_lp10975 F_lp10975 rc) H1 := hB
        have hw : r10984.toInt = lkM (v_lp10975 39) (v_lp10975 30) (F_lp10975 24) ∧ ((v_lp10975 39).toInt < (v_lp10975 30).toInt ∨ r10984.toInt = -1) := hw
        rw [show v_lp10975 30 = v 30 from (hf_lp10975 30 (by decide)).trans (hf10970 30 (by decide))] at hw
        rw [hF 24 (by decide)] at hw
        have hw_r10984 := hw
        generalize H1 = H at hP hS ⊢
        refine lv_bipush (v := 42) hx hb dX12_product_15 (by decide) ?_
        refine lv_icmp_eq (tgt := 29) hx hb dX12_product_17 (by decide) (fun c10985 => ?_) (fun c10985 => ?_)
        · skip
          have t10986 := cv_eq (a := r10984.toInt) rfl (b := 42) (by decide) c10985
          refine lv_aload_n hx hb dX12_product_29 rfl (lv_at hl 0 rfl) ?_
          have t10987 : 0 ≤ (v 30).toInt ∧ (v 30).toInt ≤ 120 := by have h9 := hI.1 30 _ _ rfl; rw [show v_lp10975 30 = v 30 from (hf_lp10975 30 (by decide)).trans (hf10970 30 (by decide))] at h9; exact h9
          have t10988 : 0 ≤ (v_lp10975 39).toInt ∧ (v_lp10975 39).toInt ≤ 120 := hI.1 39 _ _ rfl
          refine va_calli (va_runV (As := []) (rest := []) ⟨hx, hb, hml, hown, hwd⟩ (c_X12_look l dC dI g c adK adV v_lp10975 F_lp10975 rc H.size  hg hI ) (cwV 0 hwd (gV wk_1017 wk_1014 wk_1015 wk_1016 wk_5) rfl rfl rfl (by decide +kernel) ⟨Nat.le_of_ble_eq_true rfl, Nat.le_of_ble_eq_true rfl⟩) ⟨PM.blind, va_recv hK hP (ci := 12) (q0 := 0) rfl rfl, fun U hU hW => ⟨rfl, PM.at hK hE hP hS hU hW⟩⟩ rfl rfl hl.1 rfl (lv_room (Nat.le_of_ble_eq_true rfl)) dX12_product_30 ⟨Nat.le_of_ble_eq_true rfl, Nat.le_of_ble_eq_true rfl⟩) hS (fun q _ h => (freeM hS) q h) (freeM hS) (fun r10989 u t H1 locs ht hvm hw hB hz1 hk1 hS => ?_)
          unfold BM at hB
          rw [ht] at hB
          have hP : va_P (dC, dI) classes (wM g c v_lp10975 F_lp10975 rc) H1 := hB
          have hw : r10989.toInt = lkM (v_lp10975 39) (v_lp10975 30) (F_lp10975 24) ∧ ((v_lp10975 39).toInt < (v_lp10975 30).toInt ∨ r10989.toInt = -1) := hw
          rw [show v_lp10975 30 = v 30 from (hf_lp10975 30 (by decide)).trans (hf10970 30 (by decide))] at hw
          rw [hF 24 (by decide)] at hw
          have hw_r10989 := hw
          generalize H1 = H at hP hS ⊢
          refine lv_istore_n (lv' := [(1, .int r10989), (0, .ref (g 0))]) hx hb dX12_product_33 rfl hl (by decide) rfl (fun ls hl => ?_)
          refine lv_aload_n hx hb dX12_product_34 rfl (lv_at hl 1 rfl) ?_
          refine lv_dup hx hb dX12_product_35 rfl ?_
          refine va_get (D := (dC, dI)) (ci := 12) (v := .int (v_lp10975 39)) (C := RX12) (T := TX12) (N := 63) hx hb hwd inA_X12 hown hK hP 0 rfl rfl 39 (by decide) (hwd _ wk_1004) (fun _ h9 => h9) rfl dX12_product_36 ?_
          have t10990 : 0 ≤ (v_lp10975 39).toInt ∧ (v_lp10975 39).toInt ≤ 120 := hI.1 39 _ _ rfl
          refine lv_iconst (v := 1) hx hb dX12_product_39 (by decide) ?_
          refine lv_iadd hx hb dX12_product_40 ?_
          refine lv_topi (fun z10991 e10992 => ?_)
          try (have t10993 := tadd e10992 (a := (v_lp10975 39).toInt) rfl (b := 1) (by decide) (by omega))
          refine va_put (D := (dC, dI)) (ci := 12) (v := .int z10991) (ty := .int) (C := RX12) (T := TX12) (N := 63) (fs := fsM_0 g v_lp10975 rc) hx hb hwd inA_X12 tyX12 tyX12_ok nmX12 hown hK hP (DM hg) hS 0 rfl rfl 39 (by decide) (hwd _ wk_1004) (fun _ h9 => h9) rfl (by decide +kernel) rfl rfl (Nat.le_of_ble_eq_true rfl) dX12_product_41 (fun H locs hP _ hS => ?_)
          have hP := va_P_eq (pM_39 g c _ _ _ _) hP
          have hI := IM.put hI 39 z10991 rfl (by omega)
          refine lv_aload_n hx hb dX12_product_44 rfl (lv_at hl 1 rfl) ?_
          have t10994 : 0 ≤ (v 30).toInt ∧ (v 30).toInt ≤ 120 := by have h9 := hI.1 30 _ _ rfl; rw [show (va_up v_lp10975 39 z10991) 30 = v 30 from (hf_lp10975 30 (by decide)).trans (hf10970 30 (by decide))] at h9; exact h9
          have t10995 : 0 ≤ (v 37).toInt ∧ (v 37).toInt ≤ 9 := by have h9 := hI.1 37 _ _ rfl; rw [show (va_up v_lp10975 39 z10991) 37 = v 37 from (hf_lp10975 37 (by decide)).trans (hf10970 37 (by decide))] at h9; exact h9
          have t10996 : 0 ≤ (v_lp10975 38).toInt ∧ (v_lp10975 38).toInt ≤ 120 := hI.1 38 _ _ rfl
          have t10997 : 0 ≤ z10991.toInt ∧ z10991.toInt ≤ 120 := hI.1 39 _ _ rfl
          have t10998 : 0 ≤ (v_lp10975 41).toInt ∧ (v_lp10975 41).toInt ≤ 8 := hI.1 41 _ _ rfl
          refine va_callv (va_runV (As := []) (rest := []) ⟨hx, hb, hml, hown, hwd⟩ (c_X12_operand_8 l dC dI g c adK adV (va_up v_lp10975 39 z10991) F_lp10975 rc H.size  (d + 1) hg hI (by have h9 : (va_up v_lp10975 39 z10991) 38 = v_lp10975 38 := rfl; (try rw [h9]); clear h9; have h9 : (va_up v_lp10975 39 z10991) 39 = z10991 := rfl; (try rw [h9]); clear h9; have h9 : (va_up v_lp10975 39 z10991) 30 = v 30 := (hf_lp10975 30 (by decide)).trans (hf10970 30 (by decide)); (try rw [h9]); clear h9; have h9 : (va_up v_lp10975 39 z10991) 40 = v_lp10975 40 := rfl; (try rw [h9]); clear h9; have h9 : (va_up v_lp10975 39 z10991) 41 = v_lp10975 41 := rfl; (try rw [h9]); clear h9; omega) (by have h9 : (va_up v_lp10975 39 z10991) 37 = (v 37) := (hf_lp10975 37 (by decide)).trans (hf10970 37 (by decide)); have h8 : (va_up v_lp10975 39 z10991) 38 = (v_lp10975 38) := rfl; (try rw [h9]); (try rw [h8]); exact hd (by omega))) (cwV 0 hwd (gV wk_1030 wk_1035 wk_1036 wk_1037 wk_5) rfl rfl rfl (by decide +kernel) ⟨Nat.le_of_ble_eq_true rfl, Nat.le_of_ble_eq_true rfl⟩) ⟨PM.blind, va_recv hK hP (ci := 12) (q0 := 0) rfl rfl, fun U hU hW => ⟨rfl, PM.at hK hE hP hS hU hW⟩⟩ rfl rfl hl.1 rfl (lv_room (Nat.le_of_ble_eq_true rfl)) dX12_product_45 ⟨Nat.le_of_ble_eq_true rfl, Nat.le_of_ble_eq_true rfl⟩) hS (fun q _ h => (freeM hS) q h) (freeM hS) (fun u t H1 locs ht hvm hw hB hz1 hk1 hS => ?_)
          unfold BM at hB
          rw [ht] at hB
          obtain ⟨v11000, F11001, rc9⟩ := u
          obtain ⟨hI, hrc, hf11002, hG11003, hw⟩ := hw
          dsimp only at hI hrc hB hf11002 hG11003 hw
          have hF := frCF (by decide) hG11003 hF
          rw [hrc] at hB
          have hP : va_P (dC, dI) classes (wM g c v11000 F11001 rc) H1 := hB
          have hw : (z10991.toInt ≤ (v11000 39).toInt ∧ (v11000 39).toInt ≤ ((va_up v_lp10975 39 z10991) 30).toInt ∧ (v_lp10975 38).toInt ≤ (v11000 38).toInt ∧ (v11000 38).toInt - (v_lp10975 38).toInt ≤ (v11000 39).toInt - z10991.toInt ∧ (v_lp10975 41).toInt ≤ (v11000 41).toInt ∧ ((v11000 40).toInt < 0 → (v11000 41).toInt = (v_lp10975 41).toInt)) ∧ keepL ((va_up v_lp10975 39 z10991) 37) (F_lp10975 28) (F_lp10975 29) (F11001 28) (F11001 29) ∧ ((v11000 40).toInt < 0 → dp (F11001 28) (F11001 29) (bI ((va_up v_lp10975 39 z10991) 37)) (v11000 38).toInt.toNat = some ((d + 1) + 1)) := hw
          rw [show (va_up v_lp10975 39 z10991) 30 = v 30 from (hf_lp10975 30 (by decide)).trans (hf10970 30 (by decide))] at hw
          rw [show (va_up v_lp10975 39 z10991) 37 = v 37 from (hf_lp10975 37 (by decide)).trans (hf10970 37 (by decide))] at hw
          have hw_r10999 := hw
          have t11004 : 0 ≤ (v11000 38).toInt ∧ (v11000 38).toInt ≤ 120 := hI.1 38 _ _ rfl
          have t11005 : 0 ≤ (v11000 39).toInt ∧ (v11000 39).toInt ≤ 120 := hI.1 39 _ _ rfl
          have t11006 : 0 ≤ (v11000 41).toInt ∧ (v11000 41).toInt ≤ 8 := hI.1 41 _ _ rfl
          generalize H1 = H at hP hS ⊢
          have hk := hk.tr hw_r10999.2.1
          have hd := hw_r10999.2.2
          refine lv_aload_n hx hb dX12_product_48 rfl (lv_at hl 1 rfl) ?_
          refine lv_iload_n hx hb dX12_product_49 rfl (lv_at hl 0 rfl) ?_
          refine lv_iconst (v := 0) hx hb dX12_product_50 (by decide) ?_
          have t11007 : 0 ≤ (v 37).toInt ∧ (v 37).toInt ≤ 9 := by have h9 := hI.1 37 _ _ rfl; rw [show v11000 37 = v 37 from (hf11002 37 (by decide)).trans ((hf_lp10975 37 (by decide)).trans (hf10970 37 (by decide)))] at h9; exact h9
          have t11008 : 0 ≤ (v11000 38).toInt ∧ (v11000 38).toInt ≤ 120 := hI.1 38 _ _ rfl
          refine va_callv (va_runV (As := [.int r10989, .int 0]) (rest := []) ⟨hx, hb, hml, hown, hwd⟩ (c_X12_lay l dC dI g c adK adV v11000 F11001 rc H.size r10989 0 hg hI (by have h9 : v11000 38 = v11000 38 := rfl; rw [h9]; omega)) (cwV 2 hwd (gV wk_1021 wk_1018 wk_1019 wk_1020 wk_5) rfl rfl rfl (by decide +kernel) ⟨Nat.le_of_ble_eq_true rfl, Nat.le_of_ble_eq_true rfl⟩) ⟨PM.blind, va_recv hK hP (ci := 12) (q0 := 0) rfl rfl, fun U hU hW => ⟨rfl, PM.at hK hE hP hS hU hW⟩⟩ rfl rfl hl.1 rfl (lv_room (Nat.le_of_ble_eq_true rfl)) dX12_product_51 ⟨Nat.le_of_ble_eq_true rfl, Nat.le_of_ble_eq_true rfl⟩) hS (fun q _ h => (freeM hS) q h) (freeM hS) (fun u t H1 locs ht hvm hw hB hz1 hk1 hS => ?_)
          unfold BM at hB
          rw [ht] at hB
          obtain ⟨v11010, F11011, rc9⟩ := u
          obtain ⟨hI, hrc, hf11012, hG11013, hw⟩ := hw
          dsimp only at hI hrc hB hf11012 hG11013 hw
          have hF := frCF (by decide) hG11013 hF
          rw [hrc] at hB
          have hP : va_P (dC, dI) classes (wM g c v11010 F11011 rc) H1 := hB
          have hw : (v11010 38).toInt = (v11000 38).toInt + 1 ∧ keepL (v11000 37) (F11001 28) (F11001 29) (F11011 28) (F11011 29) ∧ dp (F11011 28) (F11011 29) (bI (v11000 37)) ((v11000 38).toInt.toNat + 1) = dpS (dp (F11001 28) (F11001 29) (bI (v11000 37)) (v11000 38).toInt.toNat) r10989 (0 : Int32) := hw
          rw [show v11000 37 = v 37 from (hf11002 37 (by decide)).trans ((hf_lp10975 37 (by decide)).trans (hf10970 37 (by decide)))] at hw
          have hw_r11009 := hw
          have t11014 : 0 ≤ (v11010 38).toInt ∧ (v11010 38).toInt ≤ 120 := hI.1 38 _ _ rfl
          have k11015 : (0 : Int32).toInt = 0 := by decide
          generalize H1 = H at hP hS ⊢
          have hk := hk.tr hw_r11009.2.1
          have hd : (v11000 40).toInt < 0 → dp (F11011 28) (F11011 29) (bI (v 37)) (v11010 38).toInt.toNat = some (((d + 1) + 1) - 1) := fun hf => (by have e9 : (v11010 38).toInt.toNat = (v11000 38).toInt.toNat + 1 := (by omega); rw [e9, hw_r11009.2.2, hd hf]; exact dpS_5 (by omega) (by omega) (by omega) (by omega) (by omega))
          refine lv_goto (tgt := 4) hx hb dX12_product_54 (by decide) ?_
          exact ih_lp10975  v11010 F11011 _ _ _ (by have h9 : v11010 39 = v11000 39 := hf11012 39 (by decide); (try rw [h9]); clear h9; have h9 : v11010 38 = v11010 38 := rfl; (try rw [h9]); clear h9; have h9 : v11010 41 = v11000 41 := hf11012 41 (by decide); (try rw [h9]); clear h9; have h9 : v11010 40 = v11000 40 := hf11012 40 (by decide); (try rw [h9]); clear h9; omega) hk (by have h9 : v11010 40 = v11000 40 := hf11012 40 (by decide); (try rw [h9]); clear h9; have h9 : v11010 38 = v11010 38 := rfl; (try rw [h9]); clear h9; exact fun hf => (hd (by omega)).trans (congrArg some (by omega))) (by have h9 : v11010 39 = v11000 39 := hf11012 39 (by decide); rw [h9]; omega) (frC (by decide) hf11012 (frC (by decide) hf11002 (frU (by decide) hf_lp10975))) hI hF hP hS (lv_sub hl [1] rfl)
        · skip
          have t11016 := cv_ne (a := r10984.toInt) rfl (b := 42) (by decide) c10985
          refine lv_aload_n hx hb dX12_product_20 rfl (lv_at hl 0 rfl) ?_
          have t11017 : 0 ≤ (v 30).toInt ∧ (v 30).toInt ≤ 120 := by have h9 := hI.1 30 _ _ rfl; rw [show v_lp10975 30 = v 30 from (hf_lp10975 30 (by decide)).trans (hf10970 30 (by decide))] at h9; exact h9
          have t11018 : 0 ≤ (v_lp10975 39).toInt ∧ (v_lp10975 39).toInt ≤ 120 := hI.1 39 _ _ rfl
          refine va_calli (va_runV (As := []) (rest := []) ⟨hx, hb, hml, hown, hwd⟩ (c_X12_look l dC dI g c adK adV v_lp10975 F_lp10975 rc H.size  hg hI ) (cwV 0 hwd (gV wk_1017 wk_1014 wk_1015 wk_1016 wk_5) rfl rfl rfl (by decide +kernel) ⟨Nat.le_of_ble_eq_true rfl, Nat.le_of_ble_eq_true rfl⟩) ⟨PM.blind, va_recv hK hP (ci := 12) (q0 := 0) rfl rfl, fun U hU hW => ⟨rfl, PM.at hK hE hP hS hU hW⟩⟩ rfl rfl hl.1 rfl (lv_room (Nat.le_of_ble_eq_true rfl)) dX12_product_21 ⟨Nat.le_of_ble_eq_true rfl, Nat.le_of_ble_eq_true rfl⟩) hS (fun q _ h => (freeM hS) q h) (freeM hS) (fun r11019 u t H1 locs ht hvm hw hB hz1 hk1 hS => ?_)
          unfold BM at hB
          rw [ht] at hB
          have hP : va_P (dC, dI) classes (wM g c v_lp10975 F_lp10975 rc) H1 := hB
          have hw : r11019.toInt = lkM (v_lp10975 39) (v_lp10975 30) (F_lp10975 24) ∧ ((v_lp10975 39).toInt < (v_lp10975 30).toInt ∨ r11019.toInt = -1) := hw
          rw [show v_lp10975 30 = v 30 from (hf_lp10975 30 (by decide)).trans (hf10970 30 (by decide))] at hw
          rw [hF 24 (by decide)] at hw
          have hw_r11019 := hw
          generalize H1 = H at hP hS ⊢
          refine lv_bipush (v := 47) hx hb dX12_product_24 (by decide) ?_
          refine lv_icmp_ne (tgt := 57) hx hb dX12_product_26 (by decide) (fun c11020 => ?_) (fun c11020 => ?_)
          · skip
            have t11021 := cv_ne (a := r11019.toInt) rfl (b := 47) (by decide) c11020
            have hP9 : va_P (dC, dI) classes (wM g c v_lp10975 F_lp10975 rc) H := hP
            exact W.vret hx hb hr (fun t ht hW => ⟨⟨(v_lp10975, F_lp10975, rc), rfl, ⟨hI, rfl, (frC (by decide) hf_lp10975 (frC (by decide) hf10970 (fun _ _ => rfl))), hF, (by show ((v 39).toInt ≤ (v_lp10975 39).toInt ∧ (v_lp10975 39).toInt ≤ (v 30).toInt ∧ (v 38).toInt ≤ (v_lp10975 38).toInt ∧ (v_lp10975 38).toInt - (v 38).toInt ≤ (v_lp10975 39).toInt - (v 39).toInt ∧ (v 41).toInt ≤ (v_lp10975 41).toInt ∧ ((v_lp10975 40).toInt < 0 → (v_lp10975 41).toInt = (v 41).toInt)) ∧ keepL (v 37) (F 28) (F 29) (F_lp10975 28) (F_lp10975 29) ∧ ((v_lp10975 40).toInt < 0 → dp (F_lp10975 28) (F_lp10975 29) (bI (v 37)) (v_lp10975 38).toInt.toNat = some (d + 1)); exact ⟨by omega, hk, fun hf => (hd (by omega)).trans (congrArg some (by omega))⟩)⟩, (by show va_P _ _ _ t.heap; rw [ht]; exact hP9)⟩, hS.F ht⟩) hS.2.2 dX12_product_57
          · skip
            have t11022 := cv_eq (a := r11019.toInt) rfl (b := 47) (by decide) c11020
            refine lv_aload_n hx hb dX12_product_29 rfl (lv_at hl 0 rfl) ?_
            have t11023 : 0 ≤ (v 30).toInt ∧ (v 30).toInt ≤ 120 := by have h9 := hI.1 30 _ _ rfl; rw [show v_lp10975 30 = v 30 from (hf_lp10975 30 (by decide)).trans (hf10970 30 (by decide))] at h9; exact h9
            have t11024 : 0 ≤ (v_lp10975 39).toInt ∧ (v_lp10975 39).toInt ≤ 120 := hI.1 39 _ _ rfl
            refine va_calli (va_runV (As := []) (rest := []) ⟨hx, hb, hml, hown, hwd⟩ (c_X12_look l dC dI g c adK adV v_lp10975 F_lp10975 rc H.size  hg hI ) (cwV 0 hwd (gV wk_1017 wk_1014 wk_1015 wk_1016 wk_5) rfl rfl rfl (by decide +kernel) ⟨Nat.le_of_ble_eq_true rfl, Nat.le_of_ble_eq_true rfl⟩) ⟨PM.blind, va_recv hK hP (ci := 12) (q0 := 0) rfl rfl, fun U hU hW => ⟨rfl, PM.at hK hE hP hS hU hW⟩⟩ rfl rfl hl.1 rfl (lv_room (Nat.le_of_ble_eq_true rfl)) dX12_product_30 ⟨Nat.le_of_ble_eq_true rfl, Nat.le_of_ble_eq_true rfl⟩) hS (fun q _ h => (freeM hS) q h) (freeM hS) (fun r11025 u t H1 locs ht hvm hw hB hz1 hk1 hS => ?_)
            unfold BM at hB
            rw [ht] at hB
            have hP : va_P (dC, dI) classes (wM g c v_lp10975 F_lp10975 rc) H1 := hB
            have hw : r11025.toInt = lkM (v_lp10975 39) (v_lp10975 30) (F_lp10975 24) ∧ ((v_lp10975 39).toInt < (v_lp10975 30).toInt ∨ r11025.toInt = -1) := hw
            rw [show v_lp10975 30 = v 30 from (hf_lp10975 30 (by decide)).trans (hf10970 30 (by decide))] at hw
            rw [hF 24 (by decide)] at hw
            have hw_r11025 := hw
            generalize H1 = H at hP hS ⊢
            refine lv_istore_n (lv' := [(1, .int r11025), (0, .ref (g 0))]) hx hb dX12_product_33 rfl hl (by decide) rfl (fun ls hl => ?_)
            refine lv_aload_n hx hb dX12_product_34 rfl (lv_at hl 1 rfl) ?_
            refine lv_dup hx hb dX12_product_35 rfl ?_
            refine va_get (D := (dC, dI)) (ci := 12) (v := .int (v_lp10975 39)) (C := RX12) (T := TX12) (N := 63) hx hb hwd inA_X12 hown hK hP 0 rfl rfl 39 (by decide) (hwd _ wk_1004) (fun _ h9 => h9) rfl dX12_product_36 ?_
            have t11026 : 0 ≤ (v_lp10975 39).toInt ∧ (v_lp10975 39).toInt ≤ 120 := hI.1 39 _ _ rfl
            refine lv_iconst (v := 1) hx hb dX12_product_39 (by decide) ?_
            refine lv_iadd hx hb dX12_product_40 ?_
            refine lv_topi (fun z11027 e11028 => ?_)
            try (have t11029 := tadd e11028 (a := (v_lp10975 39).toInt) rfl (b := 1) (by decide) (by omega))
            refine va_put (D := (dC, dI)) (ci := 12) (v := .int z11027) (ty := .int) (C := RX12) (T := TX12) (N := 63) (fs := fsM_0 g v_lp10975 rc) hx hb hwd inA_X12 tyX12 tyX12_ok nmX12 hown hK hP (DM hg) hS 0 rfl rfl 39 (by decide) (hwd _ wk_1004) (fun _ h9 => h9) rfl (by decide +kernel) rfl rfl (Nat.le_of_ble_eq_true rfl) dX12_product_41 (fun H locs hP _ hS => ?_)
            have hP := va_P_eq (pM_39 g c _ _ _ _) hP
            have hI := IM.put hI 39 z11027 rfl (by omega)
            refine lv_aload_n hx hb dX12_product_44 rfl (lv_at hl 1 rfl) ?_
            have t11030 : 0 ≤ (v 30).toInt ∧ (v 30).toInt ≤ 120 := by have h9 := hI.1 30 _ _ rfl; rw [show (va_up v_lp10975 39 z11027) 30 = v 30 from (hf_lp10975 30 (by decide)).trans (hf10970 30 (by decide))] at h9; exact h9
            have t11031 : 0 ≤ (v 37).toInt ∧ (v 37).toInt ≤ 9 := by have h9 := hI.1 37 _ _ rfl; rw [show (va_up v_lp10975 39 z11027) 37 = v 37 from (hf_lp10975 37 (by decide)).trans (hf10970 37 (by decide))] at h9; exact h9
            have t11032 : 0 ≤ (v_lp10975 38).toInt ∧ (v_lp10975 38).toInt ≤ 120 := hI.1 38 _ _ rfl
            have t11033 : 0 ≤ z11027.toInt ∧ z11027.toInt ≤ 120 := hI.1 39 _ _ rfl
            have t11034 : 0 ≤ (v_lp10975 41).toInt ∧ (v_lp10975 41).toInt ≤ 8 := hI.1 41 _ _ rfl
            refine va_callv (va_runV (As := []) (rest := []) ⟨hx, hb, hml, hown, hwd⟩ (c_X12_operand_8 l dC dI g c adK adV (va_up v_lp10975 39 z11027) F_lp10975 rc H.size  (d + 1) hg hI (by have h9 : (va_up v_lp10975 39 z11027) 38 = v_lp10975 38 := rfl; (try rw [h9]); clear h9; have h9 : (va_up v_lp10975 39 z11027) 39 = z11027 := rfl; (try rw [h9]); clear h9; have h9 : (va_up v_lp10975 39 z11027) 30 = v 30 := (hf_lp10975 30 (by decide)).trans (hf10970 30 (by decide)); (try rw [h9]); clear h9; have h9 : (va_up v_lp10975 39 z11027) 40 = v_lp10975 40 := rfl; (try rw [h9]); clear h9; have h9 : (va_up v_lp10975 39 z11027) 41 = v_lp10975 41 := rfl; (try rw [h9]); clear h9; omega) (by have h9 : (va_up v_lp10975 39 z11027) 37 = (v 37) := (hf_lp10975 37 (by decide)).trans (hf10970 37 (by decide)); have h8 : (va_up v_lp10975 39 z11027) 38 = (v_lp10975 38) := rfl; (try rw [h9]); (try rw [h8]); exact hd (by omega))) (cwV 0 hwd (gV wk_1030 wk_1035 wk_1036 wk_1037 wk_5) rfl rfl rfl (by decide +kernel) ⟨Nat.le_of_ble_eq_true rfl, Nat.le_of_ble_eq_true rfl⟩) ⟨PM.blind, va_recv hK hP (ci := 12) (q0 := 0) rfl rfl, fun U hU hW => ⟨rfl, PM.at hK hE hP hS hU hW⟩⟩ rfl rfl hl.1 rfl (lv_room (Nat.le_of_ble_eq_true rfl)) dX12_product_45 ⟨Nat.le_of_ble_eq_true rfl, Nat.le_of_ble_eq_true rfl⟩) hS (fun q _ h => (freeM hS) q h) (freeM hS) (fun u t H1 locs ht hvm hw hB hz1 hk1 hS => ?_)
            unfold BM at hB
            rw [ht] at hB
            obtain ⟨v11036, F11037, rc9⟩ := u
            obtain ⟨hI, hrc, hf11038, hG11039, hw⟩ := hw
            dsimp only at hI hrc hB hf11038 hG11039 hw
            have hF := frCF (by decide) hG11039 hF
            rw [hrc] at hB
            have hP : va_P (dC, dI) classes (wM g c v11036 F11037 rc) H1 := hB
            have hw : (z11027.toInt ≤ (v11036 39).toInt ∧ (v11036 39).toInt ≤ ((va_up v_lp10975 39 z11027) 30).toInt ∧ (v_lp10975 38).toInt ≤ (v11036 38).toInt ∧ (v11036 38).toInt - (v_lp10975 38).toInt ≤ (v11036 39).toInt - z11027.toInt ∧ (v_lp10975 41).toInt ≤ (v11036 41).toInt ∧ ((v11036 40).toInt < 0 → (v11036 41).toInt = (v_lp10975 41).toInt)) ∧ keepL ((va_up v_lp10975 39 z11027) 37) (F_lp10975 28) (F_lp10975 29) (F11037 28) (F11037 29) ∧ ((v11036 40).toInt < 0 → dp (F11037 28) (F11037 29) (bI ((va_up v_lp10975 39 z11027) 37)) (v11036 38).toInt.toNat = some ((d + 1) + 1)) := hw
            rw [show (va_up v_lp10975 39 z11027) 30 = v 30 from (hf_lp10975 30 (by decide)).trans (hf10970 30 (by decide))] at hw
            rw [show (va_up v_lp10975 39 z11027) 37 = v 37 from (hf_lp10975 37 (by decide)).trans (hf10970 37 (by decide))] at hw
            have hw_r11035 := hw
            have t11040 : 0 ≤ (v11036 38).toInt ∧ (v11036 38).toInt ≤ 120 := hI.1 38 _ _ rfl
            have t11041 : 0 ≤ (v11036 39).toInt ∧ (v11036 39).toInt ≤ 120 := hI.1 39 _ _ rfl
            have t11042 : 0 ≤ (v11036 41).toInt ∧ (v11036 41).toInt ≤ 8 := hI.1 41 _ _ rfl
            generalize H1 = H at hP hS ⊢
            have hk := hk.tr hw_r11035.2.1
            have hd := hw_r11035.2.2
            refine lv_aload_n hx hb dX12_product_48 rfl (lv_at hl 1 rfl) ?_
            refine lv_iload_n hx hb dX12_product_49 rfl (lv_at hl 0 rfl) ?_
            refine lv_iconst (v := 0) hx hb dX12_product_50 (by decide) ?_
            have t11043 : 0 ≤ (v 37).toInt ∧ (v 37).toInt ≤ 9 := by have h9 := hI.1 37 _ _ rfl; rw [show v11036 37 = v 37 from (hf11038 37 (by decide)).trans ((hf_lp10975 37 (by decide)).trans (hf10970 37 (by decide)))] at h9; exact h9
            have t11044 : 0 ≤ (v11036 38).toInt ∧ (v11036 38).toInt ≤ 120 := hI.1 38 _ _ rfl
            refine va_callv (va_runV (As := [.int r11025, .int 0]) (rest := []) ⟨hx, hb, hml, hown, hwd⟩ (c_X12_lay l dC dI g c adK adV v11036 F11037 rc H.size r11025 0 hg hI (by have h9 : v11036 38 = v11036 38 := rfl; rw [h9]; omega)) (cwV 2 hwd (gV wk_1021 wk_1018 wk_1019 wk_1020 wk_5) rfl rfl rfl (by decide +kernel) ⟨Nat.le_of_ble_eq_true rfl, Nat.le_of_ble_eq_true rfl⟩) ⟨PM.blind, va_recv hK hP (ci := 12) (q0 := 0) rfl rfl, fun U hU hW => ⟨rfl, PM.at hK hE hP hS hU hW⟩⟩ rfl rfl hl.1 rfl (lv_room (Nat.le_of_ble_eq_true rfl)) dX12_product_51 ⟨Nat.le_of_ble_eq_true rfl, Nat.le_of_ble_eq_true rfl⟩) hS (fun q _ h => (freeM hS) q h) (freeM hS) (fun u t H1 locs ht hvm hw hB hz1 hk1 hS => ?_)
            unfold BM at hB
            rw [ht] at hB
            obtain ⟨v11046, F11047, rc9⟩ := u
            obtain ⟨hI, hrc, hf11048, hG11049, hw⟩ := hw
            dsimp only at hI hrc hB hf11048 hG11049 hw
            have hF := frCF (by decide) hG11049 hF
            rw [hrc] at hB
            have hP : va_P (dC, dI) classes (wM g c v11046 F11047 rc) H1 := hB
            have hw : (v11046 38).toInt = (v11036 38).toInt + 1 ∧ keepL (v11036 37) (F11037 28) (F11037 29) (F11047 28) (F11047 29) ∧ dp (F11047 28) (F11047 29) (bI (v11036 37)) ((v11036 38).toInt.toNat + 1) = dpS (dp (F11037 28) (F11037 29) (bI (v11036 37)) (v11036 38).toInt.toNat) r11025 (0 : Int32) := hw
            rw [show v11036 37 = v 37 from (hf11038 37 (by decide)).trans ((hf_lp10975 37 (by decide)).trans (hf10970 37 (by decide)))] at hw
            have hw_r11045 := hw
            have t11050 : 0 ≤ (v11046 38).toInt ∧ (v11046 38).toInt ≤ 120 := hI.1 38 _ _ rfl
            have k11051 : (0 : Int32).toInt = 0 := by decide
            generalize H1 = H at hP hS ⊢
            have hk := hk.tr hw_r11045.2.1
            have hd : (v11036 40).toInt < 0 → dp (F11047 28) (F11047 29) (bI (v 37)) (v11046 38).toInt.toNat = some (((d + 1) + 1) - 1) := fun hf => (by have e9 : (v11046 38).toInt.toNat = (v11036 38).toInt.toNat + 1 := (by omega); rw [e9, hw_r11045.2.2, hd hf]; exact dpS_5 (by omega) (by omega) (by omega) (by omega) (by omega))
            refine lv_goto (tgt := 4) hx hb dX12_product_54 (by decide) ?_
            exact ih_lp10975  v11046 F11047 _ _ _ (by have h9 : v11046 39 = v11036 39 := hf11048 39 (by decide); (try rw [h9]); clear h9; have h9 : v11046 38 = v11046 38 := rfl; (try rw [h9]); clear h9; have h9 : v11046 41 = v11036 41 := hf11048 41 (by decide); (try rw [h9]); clear h9; have h9 : v11046 40 = v11036 40 := hf11048 40 (by decide); (try rw [h9]); clear h9; omega) hk (by have h9 : v11046 40 = v11036 40 := hf11048 40 (by decide); (try rw [h9]); clear h9; have h9 : v11046 38 = v11046 38 := rfl; (try rw [h9]); clear h9; exact fun hf => (hd (by omega)).trans (congrArg some (by omega))) (by have h9 : v11046 39 = v11036 39 := hf11048 39 (by decide); rw [h9]; omega) (frC (by decide) hf11048 (frC (by decide) hf11038 (frU (by decide) hf_lp10975))) hI hF hP hS (lv_sub hl [1] rfl)
  obtain ⟨n9, hn9⟩ : ∃ n : Nat, 121 - (v10968 39).toInt ≤ (n : Int) := ⟨((121 - (v10968 39).toInt : Int)).toNat, by omega⟩
  exact lp10975 n9  v10968 F10969 H _ ls (by have h9 : v10968 39 = v10968 39 := rfl; (try rw [h9]); clear h9; have h9 : v10968 38 = v10968 38 := rfl; (try rw [h9]); clear h9; have h9 : v10968 41 = v10968 41 := rfl; (try rw [h9]); clear h9; have h9 : v10968 40 = v10968 40 := rfl; (try rw [h9]); clear h9; omega) hk (by have h9 : v10968 40 = v10968 40 := rfl; (try rw [h9]); clear h9; have h9 : v10968 38 = v10968 38 := rfl; (try rw [h9]); clear h9; exact fun hf => (hd (by omega)).trans (congrArg some (by omega))) (by have h9 : v10968 39 = v10968 39 := rfl; rw [h9]; omega) (fun _ _ => rfl) hI hF hP hS hl
set_option maxHeartbeats 8000000 in
set_option maxRecDepth 100000 in
theorem c_X12_sum_8 (l : Launch) (dC : Nat → ClassId) (dI : Nat → Nat → Nat) (g : Nat → Nat) (c : Nat → ClassId) (adK adV : Nat → Nat) (v : Nat → Int32) (F : Nat → Nat → Int32) (rc sz : Nat) (d : Nat) (hg : injM g) (hI : IM v F) (hq : (v 38).toInt ≤ (v 39).toInt ∧ (v 39).toInt ≤ (v 30).toInt ∧ (v 40).toInt < 0 ∧ (v 41).toInt = 8) (hdp : dp (F 28) (F 29) (bI (v 37)) (v 38).toInt.toNat = some d) : Met l yX12_sum (Cond.code yX12_sum cX12_sum 2 none :: wA) ({ frames := 5, cells := 0, slots := 0, locals := 200 }) (va_Pc [.ref (g 0)] (PM dC dI g c adK adV v F rc sz)) (va_Qv (fun (u : StM) => IM u.1 u.2.1 ∧ u.2.2 = rc ∧ (∀ k, k ∉ ([38, 39, 40, 41, 42] : List Nat) → u.1 k = v k) ∧ (∀ k, k ∉ ([28, 29] : List Nat) → u.2.1 k = F k) ∧ (((v 39).toInt ≤ (u.1 39).toInt ∧ (u.1 39).toInt ≤ (v 30).toInt ∧ (v 38).toInt ≤ (u.1 38).toInt ∧ (u.1 38).toInt - (v 38).toInt ≤ (u.1 39).toInt - (v 39).toInt ∧ (v 41).toInt ≤ (u.1 41).toInt ∧ ((u.1 40).toInt < 0 → (u.1 41).toInt = (v 41).toInt)) ∧ keepL (v 37) (F 28) (F 29) (u.2.1 28) (u.2.1 29) ∧ ((u.1 40).toInt < 0 → dp (u.2.1 28) (u.2.1 29) (bI (v 37)) (u.1 38).toInt.toNat = some (d + 1)))) (BM dC dI g c) (AM g sz)) 0 0 (AM g sz) := by
  refine Met.ofW (cc := cX12_sum) (maxL := 2) (ret := none) (by decide) rfl ?_
  intro p e s m args below meth c0 s₁ B hml hv
  obtain ⟨rfl, hsz, hP, hK, hE⟩ := hv
  have hx := B.exec
  have hb := B.bytes
  have hr := B.returns
  have hts := atoms_spec (ws := Cond.code yX12_sum cX12_sum 2 none :: wA) B.pre
  have hwd : ∀ w ∈ wA, w.before _ s = true := fun w h => hts w (List.mem_cons_of_mem _ h)
  have hown : s.vm.findClass RX12 = some m.cls := findClass_of_methodNamed B.named
  have hlocks := B.notSynchronized
  subst hsz
  have hl := lv_entry ([.ref (g 0)]) (n := 2) (Nat.le_of_ble_eq_true rfl)
  rw [lg_entry_eq]
  generalize (lg_sl ([.ref (g 0)]) ++ List.replicate (2 - (lg_sl ([.ref (g 0)])).length) Slot.unset).toArray = ls at hl ⊢
  have hl : lv_has ls 2 [(0, .ref (g 0))] := hl
  obtain ⟨H, eH⟩ : ∃ z, z = s.heap := ⟨_, rfl⟩
  have hP : va_P (dC, dI) classes (wM g c v F rc) H := by rw [eH]; exact hP
  have hS : va_S (AM g s.heap.size) s.heap H [] := by rw [eH]; exact va_S.rf
  refine my_heap eH ?_
  have hF : ∀ k, k ∉ ([28, 29] : List Nat) → F k = F k := fun _ _ => rfl
  have hb30 : 0 ≤ (v 30).toInt ∧ (v 30).toInt ≤ 120 := hI.1 30 _ _ rfl
  have hb37 : 0 ≤ (v 37).toInt ∧ (v 37).toInt ≤ 9 := hI.1 37 _ _ rfl
  have hb38 : 0 ≤ (v 38).toInt ∧ (v 38).toInt ≤ 120 := hI.1 38 _ _ rfl
  have hb39 : 0 ≤ (v 39).toInt ∧ (v 39).toInt ≤ 120 := hI.1 39 _ _ rfl
  have hb41 : 0 ≤ (v 41).toInt ∧ (v 41).toInt ≤ 8 := hI.1 41 _ _ rfl
  have hk : keepL (v 37) (F 28) (F 29) (F 28) (F 29) := keepL.rf
  have hd : (v 40).toInt < 0 → dp (F 28) (F 29) (bI (v 37)) (v 38).toInt.toNat = some d := fun _ => hdp
  refine lv_aload_n hx hb dX12_sum_0 rfl (lv_at hl 0 rfl) ?_
  have t11142 : 0 ≤ (v 30).toInt ∧ (v 30).toInt ≤ 120 := hI.1 30 _ _ rfl
  have t11143 : 0 ≤ (v 37).toInt ∧ (v 37).toInt ≤ 9 := hI.1 37 _ _ rfl
  have t11144 : 0 ≤ (v 38).toInt ∧ (v 38).toInt ≤ 120 := hI.1 38 _ _ rfl
  have t11145 : 0 ≤ (v 39).toInt ∧ (v 39).toInt ≤ 120 := hI.1 39 _ _ rfl
  have t11146 : 0 ≤ (v 41).toInt ∧ (v 41).toInt ≤ 8 := hI.1 41 _ _ rfl
  refine va_callv (va_runV (As := []) (rest := []) ⟨hx, hb, hml, hown, hwd⟩ (c_X12_product_8 l dC dI g c adK adV v F rc H.size  d hg hI (by have h9 : v 38 = v 38 := rfl; (try rw [h9]); clear h9; have h9 : v 39 = v 39 := rfl; (try rw [h9]); clear h9; have h9 : v 30 = v 30 := rfl; (try rw [h9]); clear h9; have h9 : v 40 = v 40 := rfl; (try rw [h9]); clear h9; have h9 : v 41 = v 41 := rfl; (try rw [h9]); clear h9; omega) (by have h9 : v 37 = (v 37) := rfl; have h8 : v 38 = (v 38) := rfl; (try rw [h9]); (try rw [h8]); exact hd (by omega))) (cwV 0 hwd (gV wk_1042 wk_1044 wk_1045 wk_1046 wk_5) rfl rfl rfl (by decide +kernel) ⟨Nat.le_of_ble_eq_true rfl, Nat.le_of_ble_eq_true rfl⟩) ⟨PM.blind, va_recv hK hP (ci := 12) (q0 := 0) rfl rfl, fun U hU hW => ⟨rfl, PM.at hK hE hP hS hU hW⟩⟩ rfl rfl hl.1 rfl (lv_room (Nat.le_of_ble_eq_true rfl)) dX12_sum_1 ⟨Nat.le_of_ble_eq_true rfl, Nat.le_of_ble_eq_true rfl⟩) hS (fun q _ h => (freeM hS) q h) (freeM hS) (fun u t H1 locs ht hvm hw hB hz1 hk1 hS => ?_)
  unfold BM at hB
  rw [ht] at hB
  obtain ⟨v11148, F11149, rc9⟩ := u
  obtain ⟨hI, hrc, hf11150, hG11151, hw⟩ := hw
  dsimp only at hI hrc hB hf11150 hG11151 hw
  have hF := frCF (by decide) hG11151 hF
  rw [hrc] at hB
  have hP : va_P (dC, dI) classes (wM g c v11148 F11149 rc) H1 := hB
  have hw : ((v 39).toInt ≤ (v11148 39).toInt ∧ (v11148 39).toInt ≤ (v 30).toInt ∧ (v 38).toInt ≤ (v11148 38).toInt ∧ (v11148 38).toInt - (v 38).toInt ≤ (v11148 39).toInt - (v 39).toInt ∧ (v 41).toInt ≤ (v11148 41).toInt ∧ ((v11148 40).toInt < 0 → (v11148 41).toInt = (v 41).toInt)) ∧ keepL (v 37) (F 28) (F 29) (F11149 28) (F11149 29) ∧ ((v11148 40).toInt < 0 → dp (F11149 28) (F11149 29) (bI (v 37)) (v11148 38).toInt.toNat = some (d + 1)) := hw
  have hw_r11147 := hw
  have t11152 : 0 ≤ (v11148 38).toInt ∧ (v11148 38).toInt ≤ 120 := hI.1 38 _ _ rfl
  have t11153 : 0 ≤ (v11148 39).toInt ∧ (v11148 39).toInt ≤ 120 := hI.1 39 _ _ rfl
  have t11154 : 0 ≤ (v11148 41).toInt ∧ (v11148 41).toInt ≤ 8 := hI.1 41 _ _ rfl
  generalize H1 = H at hP hS ⊢
  have hk := hk.tr hw_r11147.2.1
  have hd := hw_r11147.2.2
  have lp11155 : ∀ (n : Nat) (v_lp11155 : Nat → Int32) (F_lp11155 : Nat → Nat → Int32) (H : Heap) (locs : List Loc) (ls : Array Slot), ((v 39).toInt ≤ (v_lp11155 39).toInt ∧ (v_lp11155 39).toInt ≤ (v 30).toInt ∧ (v 38).toInt ≤ (v_lp11155 38).toInt ∧ (v_lp11155 38).toInt - (v 38).toInt ≤ (v_lp11155 39).toInt - (v 39).toInt ∧ (v 41).toInt ≤ (v_lp11155 41).toInt ∧ ((v_lp11155 40).toInt < 0 → (v_lp11155 41).toInt = (v 41).toInt)) → (keepL (v 37) (F 28) (F 29) (F_lp11155 28) (F_lp11155 29)) → (((v_lp11155 40).toInt < 0 → dp (F_lp11155 28) (F_lp11155 29) (bI (v 37)) (v_lp11155 38).toInt.toNat = some (d + 1))) → (121 - (v_lp11155 39).toInt ≤ (n : Int)) → (∀ k, k ∉ ([38, 39, 40, 41, 42] : List Nat) → v_lp11155 k = v11148 k) → IM v_lp11155 F_lp11155 → (∀ k, k ∉ ([28, 29] : List Nat) → F_lp11155 k = F k) → va_P (dC, dI) classes (wM g c v_lp11155 F_lp11155 rc) H → va_S (AM g s.heap.size) s.heap H locs → lv_has ls 2 [(0, .ref (g 0))] → W p l e (headSpec (Cond.code yX12_sum cX12_sum 2 none :: wA) ({ frames := 5, cells := 0, slots := 0, locals := 200 })).room s m ([.ref (g 0)] : List Value).toArray below meth c0 H locs 0 0 (MQ below (va_Qv (fun (u : StM) => IM u.1 u.2.1 ∧ u.2.2 = rc ∧ (∀ k, k ∉ ([38, 39, 40, 41, 42] : List Nat) → u.1 k = v k) ∧ (∀ k, k ∉ ([28, 29] : List Nat) → u.2.1 k = F k) ∧ (((v 39).toInt ≤ (u.1 39).toInt ∧ (u.1 39).toInt ≤ (v 30).toInt ∧ (v 38).toInt ≤ (u.1 38).toInt ∧ (u.1 38).toInt - (v 38).toInt ≤ (u.1 39).toInt - (v 39).toInt ∧ (v 41).toInt ≤ (u.1 41).toInt ∧ ((u.1 40).toInt < 0 → (u.1 41).toInt = (v 41).toInt)) ∧ keepL (v 37) (F 28) (F 29) (u.2.1 28) (u.2.1 29) ∧ ((u.1 40).toInt < 0 → dp (u.2.1 28) (u.2.1 29) (bI (v 37)) (u.1 38).toInt.toNat = some (d + 1)))) (BM dC dI g c) (AM g s.heap.size)) ([.ref (g 0)] : List Value).toArray s 0 0 (AM g s.heap.size)) (F0 m 4 ls []) := by
    intro n
    induction n with
    | zero =>
      intro v_lp11155 F_lp11155 H locs ls t11156 t11157 t11158 hm hf_lp11155 hI hF hP hS hl
      exfalso
      have hI1 := hI.1
      omega
    | succ n ih_lp11155 =>
      intro v_lp11155 F_lp11155 H locs ls t11156 t11157 t11158 hm hf_lp11155 hI hF hP hS hl
      have hk := t11157
      have hd := t11158
      refine lv_aload_n hx hb dX12_sum_4 rfl (lv_at hl 0 rfl) ?_
      refine va_get (D := (dC, dI)) (ci := 12) (v := .int (v_lp11155 40)) (C := RX12) (T := TX12) (N := 63) hx hb hwd inA_X12 hown hK hP 0 rfl rfl 40 (by decide) (hwd _ wk_1005) (fun _ h9 => h9) rfl dX12_sum_5 ?_
      refine lv_if_ge (tgt := 57) hx hb dX12_sum_8 (by decide) (fun c11159 => ?_) (fun c11159 => ?_)
      · skip
        have t11160 := cv_le (a := 0) (by decide) (b := (v_lp11155 40).toInt) rfl c11159
        have hP9 : va_P (dC, dI) classes (wM g c v_lp11155 F_lp11155 rc) H := hP
        exact W.vret hx hb hr (fun t ht hW => ⟨⟨(v_lp11155, F_lp11155, rc), rfl, ⟨hI, rfl, (frC (by decide) hf_lp11155 (frC (by decide) hf11150 (fun _ _ => rfl))), hF, (by show ((v 39).toInt ≤ (v_lp11155 39).toInt ∧ (v_lp11155 39).toInt ≤ (v 30).toInt ∧ (v 38).toInt ≤ (v_lp11155 38).toInt ∧ (v_lp11155 38).toInt - (v 38).toInt ≤ (v_lp11155 39).toInt - (v 39).toInt ∧ (v 41).toInt ≤ (v_lp11155 41).toInt ∧ ((v_lp11155 40).toInt < 0 → (v_lp11155 41).toInt = (v 41).toInt)) ∧ keepL (v 37) (F 28) (F 29) (F_lp11155 28) (F_lp11155 29) ∧ ((v_lp11155 40).toInt < 0 → dp (F_lp11155 28) (F_lp11155 29) (bI (v 37)) (v_lp11155 38).toInt.toNat = some (d + 1)); exact ⟨by omega, hk, fun hf => (hd (by omega)).trans (congrArg some (by omega))⟩)⟩, (by show va_P _ _ _ t.heap; rw [ht]; exact hP9)⟩, hS.F ht⟩) hS.2.2 dX12_sum_57
      · skip
        have t11161 := cv_nle (a := 0) (by decide) (b := (v_lp11155 40).toInt) rfl c11159
        refine lv_aload_n hx hb dX12_sum_11 rfl (lv_at hl 0 rfl) ?_
        have t11162 : 0 ≤ (v 30).toInt ∧ (v 30).toInt ≤ 120 := by have h9 := hI.1 30 _ _ rfl; rw [show v_lp11155 30 = v 30 from (hf_lp11155 30 (by decide)).trans (hf11150 30 (by decide))] at h9; exact h9
        have t11163 : 0 ≤ (v_lp11155 39).toInt ∧ (v_lp11155 39).toInt ≤ 120 := hI.1 39 _ _ rfl
        refine va_calli (va_runV (As := []) (rest := []) ⟨hx, hb, hml, hown, hwd⟩ (c_X12_look l dC dI g c adK adV v_lp11155 F_lp11155 rc H.size  hg hI ) (cwV 0 hwd (gV wk_1017 wk_1014 wk_1015 wk_1016 wk_5) rfl rfl rfl (by decide +kernel) ⟨Nat.le_of_ble_eq_true rfl, Nat.le_of_ble_eq_true rfl⟩) ⟨PM.blind, va_recv hK hP (ci := 12) (q0 := 0) rfl rfl, fun U hU hW => ⟨rfl, PM.at hK hE hP hS hU hW⟩⟩ rfl rfl hl.1 rfl (lv_room (Nat.le_of_ble_eq_true rfl)) dX12_sum_12 ⟨Nat.le_of_ble_eq_true rfl, Nat.le_of_ble_eq_true rfl⟩) hS (fun q _ h => (freeM hS) q h) (freeM hS) (fun r11164 u t H1 locs ht hvm hw hB hz1 hk1 hS => ?_)
        unfold BM at hB
        rw [ht] at hB
        have hP : va_P (dC, dI) classes (wM g c v_lp11155 F_lp11155 rc) H1 := hB
        have hw : r11164.toInt = lkM (v_lp11155 39) (v_lp11155 30) (F_lp11155 24) ∧ ((v_lp11155 39).toInt < (v_lp11155 30).toInt ∨ r11164.toInt = -1) := hw
        rw [show v_lp11155 30 = v 30 from (hf_lp11155 30 (by decide)).trans (hf11150 30 (by decide))] at hw
        rw [hF 24 (by decide)] at hw
        have hw_r11164 := hw
        generalize H1 = H at hP hS ⊢
        refine lv_bipush (v := 43) hx hb dX12_sum_15 (by decide) ?_
        refine lv_icmp_eq (tgt := 29) hx hb dX12_sum_17 (by decide) (fun c11165 => ?_) (fun c11165 => ?_)
        · skip
          have t11166 := cv_eq (a := r11164.toInt) rfl (b := 43) (by decide) c11165
          refine lv_aload_n hx hb dX12_sum_29 rfl (lv_at hl 0 rfl) ?_
          have t11167 : 0 ≤ (v 30).toInt ∧ (v 30).toInt ≤ 120 := by have h9 := hI.1 30 _ _ rfl; rw [show v_lp11155 30 = v 30 from (hf_lp11155 30 (by decide)).trans (hf11150 30 (by decide))] at h9; exact h9
          have t11168 : 0 ≤ (v_lp11155 39).toInt ∧ (v_lp11155 39).toInt ≤ 120 := hI.1 39 _ _ rfl
          refine va_calli (va_runV (As := []) (rest := []) ⟨hx, hb, hml, hown, hwd⟩ (c_X12_look l dC dI g c adK adV v_lp11155 F_lp11155 rc H.size  hg hI ) (cwV 0 hwd (gV wk_1017 wk_1014 wk_1015 wk_1016 wk_5) rfl rfl rfl (by decide +kernel) ⟨Nat.le_of_ble_eq_true rfl, Nat.le_of_ble_eq_true rfl⟩) ⟨PM.blind, va_recv hK hP (ci := 12) (q0 := 0) rfl rfl, fun U hU hW => ⟨rfl, PM.at hK hE hP hS hU hW⟩⟩ rfl rfl hl.1 rfl (lv_room (Nat.le_of_ble_eq_true rfl)) dX12_sum_30 ⟨Nat.le_of_ble_eq_true rfl, Nat.le_of_ble_eq_true rfl⟩) hS (fun q _ h => (freeM hS) q h) (freeM hS) (fun r11169 u t H1 locs ht hvm hw hB hz1 hk1 hS => ?_)
          unfold BM at hB
          rw [ht] at hB
          have hP : va_P (dC, dI) classes (wM g c v_lp11155 F_lp11155 rc) H1 := hB
          have hw : r11169.toInt = lkM (v_lp11155 39) (v_lp11155 30) (F_lp11155 24) ∧ ((v_lp11155 39).toInt < (v_lp11155 30).toInt ∨ r11169.toInt = -1) := hw
          rw [show v_lp11155 30 = v 30 from (hf_lp11155 30 (by decide)).trans (hf11150 30 (by decide))] at hw
          rw [hF 24 (by decide)] at hw
          have hw_r11169 := hw
          generalize H1 = H at hP hS ⊢
          refine lv_istore_n (lv' := [(1, .int r11169), (0, .ref (g 0))]) hx hb dX12_sum_33 rfl hl (by decide) rfl (fun ls hl => ?_)
          refine lv_aload_n hx hb dX12_sum_34 rfl (lv_at hl 1 rfl) ?_
          refine lv_dup hx hb dX12_sum_35 rfl ?_
          refine va_get (D := (dC, dI)) (ci := 12) (v := .int (v_lp11155 39)) (C := RX12) (T := TX12) (N := 63) hx hb hwd inA_X12 hown hK hP 0 rfl rfl 39 (by decide) (hwd _ wk_1004) (fun _ h9 => h9) rfl dX12_sum_36 ?_
          have t11170 : 0 ≤ (v_lp11155 39).toInt ∧ (v_lp11155 39).toInt ≤ 120 := hI.1 39 _ _ rfl
          refine lv_iconst (v := 1) hx hb dX12_sum_39 (by decide) ?_
          refine lv_iadd hx hb dX12_sum_40 ?_
          refine lv_topi (fun z11171 e11172 => ?_)
          try (have t11173 := tadd e11172 (a := (v_lp11155 39).toInt) rfl (b := 1) (by decide) (by omega))
          refine va_put (D := (dC, dI)) (ci := 12) (v := .int z11171) (ty := .int) (C := RX12) (T := TX12) (N := 63) (fs := fsM_0 g v_lp11155 rc) hx hb hwd inA_X12 tyX12 tyX12_ok nmX12 hown hK hP (DM hg) hS 0 rfl rfl 39 (by decide) (hwd _ wk_1004) (fun _ h9 => h9) rfl (by decide +kernel) rfl rfl (Nat.le_of_ble_eq_true rfl) dX12_sum_41 (fun H locs hP _ hS => ?_)
          have hP := va_P_eq (pM_39 g c _ _ _ _) hP
          have hI := IM.put hI 39 z11171 rfl (by omega)
          refine lv_aload_n hx hb dX12_sum_44 rfl (lv_at hl 1 rfl) ?_
          have t11174 : 0 ≤ (v 30).toInt ∧ (v 30).toInt ≤ 120 := by have h9 := hI.1 30 _ _ rfl; rw [show (va_up v_lp11155 39 z11171) 30 = v 30 from (hf_lp11155 30 (by decide)).trans (hf11150 30 (by decide))] at h9; exact h9
          have t11175 : 0 ≤ (v 37).toInt ∧ (v 37).toInt ≤ 9 := by have h9 := hI.1 37 _ _ rfl; rw [show (va_up v_lp11155 39 z11171) 37 = v 37 from (hf_lp11155 37 (by decide)).trans (hf11150 37 (by decide))] at h9; exact h9
          have t11176 : 0 ≤ (v_lp11155 38).toInt ∧ (v_lp11155 38).toInt ≤ 120 := hI.1 38 _ _ rfl
          have t11177 : 0 ≤ z11171.toInt ∧ z11171.toInt ≤ 120 := hI.1 39 _ _ rfl
          have t11178 : 0 ≤ (v_lp11155 41).toInt ∧ (v_lp11155 41).toInt ≤ 8 := hI.1 41 _ _ rfl
          refine va_callv (va_runV (As := []) (rest := []) ⟨hx, hb, hml, hown, hwd⟩ (c_X12_product_8 l dC dI g c adK adV (va_up v_lp11155 39 z11171) F_lp11155 rc H.size  (d + 1) hg hI (by have h9 : (va_up v_lp11155 39 z11171) 38 = v_lp11155 38 := rfl; (try rw [h9]); clear h9; have h9 : (va_up v_lp11155 39 z11171) 39 = z11171 := rfl; (try rw [h9]); clear h9; have h9 : (va_up v_lp11155 39 z11171) 30 = v 30 := (hf_lp11155 30 (by decide)).trans (hf11150 30 (by decide)); (try rw [h9]); clear h9; have h9 : (va_up v_lp11155 39 z11171) 40 = v_lp11155 40 := rfl; (try rw [h9]); clear h9; have h9 : (va_up v_lp11155 39 z11171) 41 = v_lp11155 41 := rfl; (try rw [h9]); clear h9; omega) (by have h9 : (va_up v_lp11155 39 z11171) 37 = (v 37) := (hf_lp11155 37 (by decide)).trans (hf11150 37 (by decide)); have h8 : (va_up v_lp11155 39 z11171) 38 = (v_lp11155 38) := rfl; (try rw [h9]); (try rw [h8]); exact hd (by omega))) (cwV 0 hwd (gV wk_1042 wk_1044 wk_1045 wk_1046 wk_5) rfl rfl rfl (by decide +kernel) ⟨Nat.le_of_ble_eq_true rfl, Nat.le_of_ble_eq_true rfl⟩) ⟨PM.blind, va_recv hK hP (ci := 12) (q0 := 0) rfl rfl, fun U hU hW => ⟨rfl, PM.at hK hE hP hS hU hW⟩⟩ rfl rfl hl.1 rfl (lv_room (Nat.le_of_ble_eq_true rfl)) dX12_sum_45 ⟨Nat.le_of_ble_eq_true rfl, Nat.le_of_ble_eq_true rfl⟩) hS (fun q _ h => (freeM hS) q h) (freeM hS) (fun u t H1 locs ht hvm hw hB hz1 hk1 hS => ?_)
          unfold BM at hB
          rw [ht] at hB
          obtain ⟨v11180, F11181, rc9⟩ := u
          obtain ⟨hI, hrc, hf11182, hG11183, hw⟩ := hw
          dsimp only at hI hrc hB hf11182 hG11183 hw
          have hF := frCF (by decide) hG11183 hF
          rw [hrc] at hB
          have hP : va_P (dC, dI) classes (wM g c v11180 F11181 rc) H1 := hB
          have hw : (z11171.toInt ≤ (v11180 39).toInt ∧ (v11180 39).toInt ≤ ((va_up v_lp11155 39 z11171) 30).toInt ∧ (v_lp11155 38).toInt ≤ (v11180 38).toInt ∧ (v11180 38).toInt - (v_lp11155 38).toInt ≤ (v11180 39).toInt - z11171.toInt ∧ (v_lp11155 41).toInt ≤ (v11180 41).toInt ∧ ((v11180 40).toInt < 0 → (v11180 41).toInt = (v_lp11155 41).toInt)) ∧ keepL ((va_up v_lp11155 39 z11171) 37) (F_lp11155 28) (F_lp11155 29) (F11181 28) (F11181 29) ∧ ((v11180 40).toInt < 0 → dp (F11181 28) (F11181 29) (bI ((va_up v_lp11155 39 z11171) 37)) (v11180 38).toInt.toNat = some ((d + 1) + 1)) := hw
          rw [show (va_up v_lp11155 39 z11171) 30 = v 30 from (hf_lp11155 30 (by decide)).trans (hf11150 30 (by decide))] at hw
          rw [show (va_up v_lp11155 39 z11171) 37 = v 37 from (hf_lp11155 37 (by decide)).trans (hf11150 37 (by decide))] at hw
          have hw_r11179 := hw
          have t11184 : 0 ≤ (v11180 38).toInt ∧ (v11180 38).toInt ≤ 120 := hI.1 38 _ _ rfl
          have t11185 : 0 ≤ (v11180 39).toInt ∧ (v11180 39).toInt ≤ 120 := hI.1 39 _ _ rfl
          have t11186 : 0 ≤ (v11180 41).toInt ∧ (v11180 41).toInt ≤ 8 := hI.1 41 _ _ rfl
          generalize H1 = H at hP hS ⊢
          have hk := hk.tr hw_r11179.2.1
          have hd := hw_r11179.2.2
          refine lv_aload_n hx hb dX12_sum_48 rfl (lv_at hl 1 rfl) ?_
          refine lv_iload_n hx hb dX12_sum_49 rfl (lv_at hl 0 rfl) ?_
          refine lv_iconst (v := 0) hx hb dX12_sum_50 (by decide) ?_
          have t11187 : 0 ≤ (v 37).toInt ∧ (v 37).toInt ≤ 9 := by have h9 := hI.1 37 _ _ rfl; rw [show v11180 37 = v 37 from (hf11182 37 (by decide)).trans ((hf_lp11155 37 (by decide)).trans (hf11150 37 (by decide)))] at h9; exact h9
          have t11188 : 0 ≤ (v11180 38).toInt ∧ (v11180 38).toInt ≤ 120 := hI.1 38 _ _ rfl
          refine va_callv (va_runV (As := [.int r11169, .int 0]) (rest := []) ⟨hx, hb, hml, hown, hwd⟩ (c_X12_lay l dC dI g c adK adV v11180 F11181 rc H.size r11169 0 hg hI (by have h9 : v11180 38 = v11180 38 := rfl; rw [h9]; omega)) (cwV 2 hwd (gV wk_1021 wk_1018 wk_1019 wk_1020 wk_5) rfl rfl rfl (by decide +kernel) ⟨Nat.le_of_ble_eq_true rfl, Nat.le_of_ble_eq_true rfl⟩) ⟨PM.blind, va_recv hK hP (ci := 12) (q0 := 0) rfl rfl, fun U hU hW => ⟨rfl, PM.at hK hE hP hS hU hW⟩⟩ rfl rfl hl.1 rfl (lv_room (Nat.le_of_ble_eq_true rfl)) dX12_sum_51 ⟨Nat.le_of_ble_eq_true rfl, Nat.le_of_ble_eq_true rfl⟩) hS (fun q _ h => (freeM hS) q h) (freeM hS) (fun u t H1 locs ht hvm hw hB hz1 hk1 hS => ?_)
          unfold BM at hB
          rw [ht] at hB
          obtain ⟨v11190, F11191, rc9⟩ := u
          obtain ⟨hI, hrc, hf11192, hG11193, hw⟩ := hw
          dsimp only at hI hrc hB hf11192 hG11193 hw
          have hF := frCF (by decide) hG11193 hF
          rw [hrc] at hB
          have hP : va_P (dC, dI) classes (wM g c v11190 F11191 rc) H1 := hB
          have hw : (v11190 38).toInt = (v11180 38).toInt + 1 ∧ keepL (v11180 37) (F11181 28) (F11181 29) (F11191 28) (F11191 29) ∧ dp (F11191 28) (F11191 29) (bI (v11180 37)) ((v11180 38).toInt.toNat + 1) = dpS (dp (F11181 28) (F11181 29) (bI (v11180 37)) (v11180 38).toInt.toNat) r11169 (0 : Int32) := hw
          rw [show v11180 37 = v 37 from (hf11182 37 (by decide)).trans ((hf_lp11155 37 (by decide)).trans (hf11150 37 (by decide)))] at hw
          have hw_r11189 := hw
          have t11194 : 0 ≤ (v11190 38).toInt ∧ (v11190 38).toInt ≤ 120 := hI.1 38 _ _ rfl
          have k11195 : (0 : Int32).toInt = 0 := by decide
          generalize H1 = H at hP hS ⊢
          have hk := hk.tr hw_r11189.2.1
          have hd : (v11180 40).toInt < 0 → dp (F11191 28) (F11191 29) (bI (v 37)) (v11190 38).toInt.toNat = some (((d + 1) + 1) - 1) := fun hf => (by have e9 : (v11190 38).toInt.toNat = (v11180 38).toInt.toNat + 1 := (by omega); rw [e9, hw_r11189.2.2, hd hf]; exact dpS_5 (by omega) (by omega) (by omega) (by omega) (by omega))
          refine lv_goto (tgt := 4) hx hb dX12_sum_54 (by decide) ?_
          exact ih_lp11155  v11190 F11191 _ _ _ (by have h9 : v11190 39 = v11180 39 := hf11192 39 (by decide); (try rw [h9]); clear h9; have h9 : v11190 38 = v11190 38 := rfl; (try rw [h9]); clear h9; have h9 : v11190 41 = v11180 41 := hf11192 41 (by decide); (try rw [h9]); clear h9; have h9 : v11190 40 = v11180 40 := hf11192 40 (by decide); (try rw [h9]); clear h9; omega) hk (by have h9 : v11190 40 = v11180 40 := hf11192 40 (by decide); (try rw [h9]); clear h9; have h9 : v11190 38 = v11190 38 := rfl; (try rw [h9]); clear h9; exact fun hf => (hd (by omega)).trans (congrArg some (by omega))) (by have h9 : v11190 39 = v11180 39 := hf11192 39 (by decide); rw [h9]; omega) (frC (by decide) hf11192 (frC (by decide) hf11182 (frU (by decide) hf_lp11155))) hI hF hP hS (lv_sub hl [1] rfl)
        · skip
          have t11196 := cv_ne (a := r11164.toInt) rfl (b := 43) (by decide) c11165
          refine lv_aload_n hx hb dX12_sum_20 rfl (lv_at hl 0 rfl) ?_
          have t11197 : 0 ≤ (v 30).toInt ∧ (v 30).toInt ≤ 120 := by have h9 := hI.1 30 _ _ rfl; rw [show v_lp11155 30 = v 30 from (hf_lp11155 30 (by decide)).trans (hf11150 30 (by decide))] at h9; exact h9
          have t11198 : 0 ≤ (v_lp11155 39).toInt ∧ (v_lp11155 39).toInt ≤ 120 := hI.1 39 _ _ rfl
          refine va_calli (va_runV (As := []) (rest := []) ⟨hx, hb, hml, hown, hwd⟩ (c_X12_look l dC dI g c adK adV v_lp11155 F_lp11155 rc H.size  hg hI ) (cwV 0 hwd (gV wk_1017 wk_1014 wk_1015 wk_1016 wk_5) rfl rfl rfl (by decide +kernel) ⟨Nat.le_of_ble_eq_true rfl, Nat.le_of_ble_eq_true rfl⟩) ⟨PM.blind, va_recv hK hP (ci := 12) (q0 := 0) rfl rfl, fun U hU hW => ⟨rfl, PM.at hK hE hP hS hU hW⟩⟩ rfl rfl hl.1 rfl (lv_room (Nat.le_of_ble_eq_true rfl)) dX12_sum_21 ⟨Nat.le_of_ble_eq_true rfl, Nat.le_of_ble_eq_true rfl⟩) hS (fun q _ h => (freeM hS) q h) (freeM hS) (fun r11199 u t H1 locs ht hvm hw hB hz1 hk1 hS => ?_)
          unfold BM at hB
          rw [ht] at hB
          have hP : va_P (dC, dI) classes (wM g c v_lp11155 F_lp11155 rc) H1 := hB
          have hw : r11199.toInt = lkM (v_lp11155 39) (v_lp11155 30) (F_lp11155 24) ∧ ((v_lp11155 39).toInt < (v_lp11155 30).toInt ∨ r11199.toInt = -1) := hw
          rw [show v_lp11155 30 = v 30 from (hf_lp11155 30 (by decide)).trans (hf11150 30 (by decide))] at hw
          rw [hF 24 (by decide)] at hw
          have hw_r11199 := hw
          generalize H1 = H at hP hS ⊢
          refine lv_bipush (v := 45) hx hb dX12_sum_24 (by decide) ?_
          refine lv_icmp_ne (tgt := 57) hx hb dX12_sum_26 (by decide) (fun c11200 => ?_) (fun c11200 => ?_)
          · skip
            have t11201 := cv_ne (a := r11199.toInt) rfl (b := 45) (by decide) c11200
            have hP9 : va_P (dC, dI) classes (wM g c v_lp11155 F_lp11155 rc) H := hP
            exact W.vret hx hb hr (fun t ht hW => ⟨⟨(v_lp11155, F_lp11155, rc), rfl, ⟨hI, rfl, (frC (by decide) hf_lp11155 (frC (by decide) hf11150 (fun _ _ => rfl))), hF, (by show ((v 39).toInt ≤ (v_lp11155 39).toInt ∧ (v_lp11155 39).toInt ≤ (v 30).toInt ∧ (v 38).toInt ≤ (v_lp11155 38).toInt ∧ (v_lp11155 38).toInt - (v 38).toInt ≤ (v_lp11155 39).toInt - (v 39).toInt ∧ (v 41).toInt ≤ (v_lp11155 41).toInt ∧ ((v_lp11155 40).toInt < 0 → (v_lp11155 41).toInt = (v 41).toInt)) ∧ keepL (v 37) (F 28) (F 29) (F_lp11155 28) (F_lp11155 29) ∧ ((v_lp11155 40).toInt < 0 → dp (F_lp11155 28) (F_lp11155 29) (bI (v 37)) (v_lp11155 38).toInt.toNat = some (d + 1)); exact ⟨by omega, hk, fun hf => (hd (by omega)).trans (congrArg some (by omega))⟩)⟩, (by show va_P _ _ _ t.heap; rw [ht]; exact hP9)⟩, hS.F ht⟩) hS.2.2 dX12_sum_57
          · skip
            have t11202 := cv_eq (a := r11199.toInt) rfl (b := 45) (by decide) c11200
            refine lv_aload_n hx hb dX12_sum_29 rfl (lv_at hl 0 rfl) ?_
            have t11203 : 0 ≤ (v 30).toInt ∧ (v 30).toInt ≤ 120 := by have h9 := hI.1 30 _ _ rfl; rw [show v_lp11155 30 = v 30 from (hf_lp11155 30 (by decide)).trans (hf11150 30 (by decide))] at h9; exact h9
            have t11204 : 0 ≤ (v_lp11155 39).toInt ∧ (v_lp11155 39).toInt ≤ 120 := hI.1 39 _ _ rfl
            refine va_calli (va_runV (As := []) (rest := []) ⟨hx, hb, hml, hown, hwd⟩ (c_X12_look l dC dI g c adK adV v_lp11155 F_lp11155 rc H.size  hg hI ) (cwV 0 hwd (gV wk_1017 wk_1014 wk_1015 wk_1016 wk_5) rfl rfl rfl (by decide +kernel) ⟨Nat.le_of_ble_eq_true rfl, Nat.le_of_ble_eq_true rfl⟩) ⟨PM.blind, va_recv hK hP (ci := 12) (q0 := 0) rfl rfl, fun U hU hW => ⟨rfl, PM.at hK hE hP hS hU hW⟩⟩ rfl rfl hl.1 rfl (lv_room (Nat.le_of_ble_eq_true rfl)) dX12_sum_30 ⟨Nat.le_of_ble_eq_true rfl, Nat.le_of_ble_eq_true rfl⟩) hS (fun q _ h => (freeM hS) q h) (freeM hS) (fun r11205 u t H1 locs ht hvm hw hB hz1 hk1 hS => ?_)
            unfold BM at hB
            rw [ht] at hB
            have hP : va_P (dC, dI) classes (wM g c v_lp11155 F_lp11155 rc) H1 := hB
            have hw : r11205.toInt = lkM (v_lp11155 39) (v_lp11155 30) (F_lp11155 24) ∧ ((v_lp11155 39).toInt < (v_lp11155 30).toInt ∨ r11205.toInt = -1) := hw
            rw [show v_lp11155 30 = v 30 from (hf_lp11155 30 (by decide)).trans (hf11150 30 (by decide))] at hw
            rw [hF 24 (by decide)] at hw
            have hw_r11205 := hw
            generalize H1 = H at hP hS ⊢
            refine lv_istore_n (lv' := [(1, .int r11205), (0, .ref (g 0))]) hx hb dX12_sum_33 rfl hl (by decide) rfl (fun ls hl => ?_)
            refine lv_aload_n hx hb dX12_sum_34 rfl (lv_at hl 1 rfl) ?_
            refine lv_dup hx hb dX12_sum_35 rfl ?_
            refine va_get (D := (dC, dI)) (ci := 12) (v := .int (v_lp11155 39)) (C := RX12) (T := TX12) (N := 63) hx hb hwd inA_X12 hown hK hP 0 rfl rfl 39 (by decide) (hwd _ wk_1004) (fun _ h9 => h9) rfl dX12_sum_36 ?_
            have t11206 : 0 ≤ (v_lp11155 39).toInt ∧ (v_lp11155 39).toInt ≤ 120 := hI.1 39 _ _ rfl
            refine lv_iconst (v := 1) hx hb dX12_sum_39 (by decide) ?_
            refine lv_iadd hx hb dX12_sum_40 ?_
            refine lv_topi (fun z11207 e11208 => ?_)
            try (have t11209 := tadd e11208 (a := (v_lp11155 39).toInt) rfl (b := 1) (by decide) (by omega))
            refine va_put (D := (dC, dI)) (ci := 12) (v := .int z11207) (ty := .int) (C := RX12) (T := TX12) (N := 63) (fs := fsM_0 g v_lp11155 rc) hx hb hwd inA_X12 tyX12 tyX12_ok nmX12 hown hK hP (DM hg) hS 0 rfl rfl 39 (by decide) (hwd _ wk_1004) (fun _ h9 => h9) rfl (by decide +kernel) rfl rfl (Nat.le_of_ble_eq_true rfl) dX12_sum_41 (fun H locs hP _ hS => ?_)
            have hP := va_P_eq (pM_39 g c _ _ _ _) hP
            have hI := IM.put hI 39 z11207 rfl (by omega)
            refine lv_aload_n hx hb dX12_sum_44 rfl (lv_at hl 1 rfl) ?_
            have t11210 : 0 ≤ (v 30).toInt ∧ (v 30).toInt ≤ 120 := by have h9 := hI.1 30 _ _ rfl; rw [show (va_up v_lp11155 39 z11207) 30 = v 30 from (hf_lp11155 30 (by decide)).trans (hf11150 30 (by decide))] at h9; exact h9
            have t11211 : 0 ≤ (v 37).toInt ∧ (v 37).toInt ≤ 9 := by have h9 := hI.1 37 _ _ rfl; rw [show (va_up v_lp11155 39 z11207) 37 = v 37 from (hf_lp11155 37 (by decide)).trans (hf11150 37 (by decide))] at h9; exact h9
            have t11212 : 0 ≤ (v_lp11155 38).toInt ∧ (v_lp11155 38).toInt ≤ 120 := hI.1 38 _ _ rfl
            have t11213 : 0 ≤ z11207.toInt ∧ z11207.toInt ≤ 120 := hI.1 39 _ _ rfl
            have t11214 : 0 ≤ (v_lp11155 41).toInt ∧ (v_lp11155 41).toInt ≤ 8 := hI.1 41 _ _ rfl
            refine va_callv (va_runV (As := []) (rest := []) ⟨hx, hb, hml, hown, hwd⟩ (c_X12_product_8 l dC dI g c adK adV (va_up v_lp11155 39 z11207) F_lp11155 rc H.size  (d + 1) hg hI (by have h9 : (va_up v_lp11155 39 z11207) 38 = v_lp11155 38 := rfl; (try rw [h9]); clear h9; have h9 : (va_up v_lp11155 39 z11207) 39 = z11207 := rfl; (try rw [h9]); clear h9; have h9 : (va_up v_lp11155 39 z11207) 30 = v 30 := (hf_lp11155 30 (by decide)).trans (hf11150 30 (by decide)); (try rw [h9]); clear h9; have h9 : (va_up v_lp11155 39 z11207) 40 = v_lp11155 40 := rfl; (try rw [h9]); clear h9; have h9 : (va_up v_lp11155 39 z11207) 41 = v_lp11155 41 := rfl; (try rw [h9]); clear h9; omega) (by have h9 : (va_up v_lp11155 39 z11207) 37 = (v 37) := (hf_lp11155 37 (by decide)).trans (hf11150 37 (by decide)); have h8 : (va_up v_lp11155 39 z11207) 38 = (v_lp11155 38) := rfl; (try rw [h9]); (try rw [h8]); exact hd (by omega))) (cwV 0 hwd (gV wk_1042 wk_1044 wk_1045 wk_1046 wk_5) rfl rfl rfl (by decide +kernel) ⟨Nat.le_of_ble_eq_true rfl, Nat.le_of_ble_eq_true rfl⟩) ⟨PM.blind, va_recv hK hP (ci := 12) (q0 := 0) rfl rfl, fun U hU hW => ⟨rfl, PM.at hK hE hP hS hU hW⟩⟩ rfl rfl hl.1 rfl (lv_room (Nat.le_of_ble_eq_true rfl)) dX12_sum_45 ⟨Nat.le_of_ble_eq_true rfl, Nat.le_of_ble_eq_true rfl⟩) hS (fun q _ h => (freeM hS) q h) (freeM hS) (fun u t H1 locs ht hvm hw hB hz1 hk1 hS => ?_)
            unfold BM at hB
            rw [ht] at hB
            obtain ⟨v11216, F11217, rc9⟩ := u
            obtain ⟨hI, hrc, hf11218, hG11219, hw⟩ := hw
            dsimp only at hI hrc hB hf11218 hG11219 hw
            have hF := frCF (by decide) hG11219 hF
            rw [hrc] at hB
            have hP : va_P (dC, dI) classes (wM g c v11216 F11217 rc) H1 := hB
            have hw : (z11207.toInt ≤ (v11216 39).toInt ∧ (v11216 39).toInt ≤ ((va_up v_lp11155 39 z11207) 30).toInt ∧ (v_lp11155 38).toInt ≤ (v11216 38).toInt ∧ (v11216 38).toInt - (v_lp11155 38).toInt ≤ (v11216 39).toInt - z11207.toInt ∧ (v_lp11155 41).toInt ≤ (v11216 41).toInt ∧ ((v11216 40).toInt < 0 → (v11216 41).toInt = (v_lp11155 41).toInt)) ∧ keepL ((va_up v_lp11155 39 z11207) 37) (F_lp11155 28) (F_lp11155 29) (F11217 28) (F11217 29) ∧ ((v11216 40).toInt < 0 → dp (F11217 28) (F11217 29) (bI ((va_up v_lp11155 39 z11207) 37)) (v11216 38).toInt.toNat = some ((d + 1) + 1)) := hw
            rw [show (va_up v_lp11155 39 z11207) 30 = v 30 from (hf_lp11155 30 (by decide)).trans (hf11150 30 (by decide))] at hw
            rw [show (va_up v_lp11155 39 z11207) 37 = v 37 from (hf_lp11155 37 (by decide)).trans (hf11150 37 (by decide))] at hw
            have hw_r11215 := hw
            have t11220 : 0 ≤ (v11216 38).toInt ∧ (v11216 38).toInt ≤ 120 := hI.1 38 _ _ rfl
            have t11221 : 0 ≤ (v11216 39).toInt ∧ (v11216 39).toInt ≤ 120 := hI.1 39 _ _ rfl
            have t11222 : 0 ≤ (v11216 41).toInt ∧ (v11216 41).toInt ≤ 8 := hI.1 41 _ _ rfl
            generalize H1 = H at hP hS ⊢
            have hk := hk.tr hw_r11215.2.1
            have hd := hw_r11215.2.2
            refine lv_aload_n hx hb dX12_sum_48 rfl (lv_at hl 1 rfl) ?_
            refine lv_iload_n hx hb dX12_sum_49 rfl (lv_at hl 0 rfl) ?_
            refine lv_iconst (v := 0) hx hb dX12_sum_50 (by decide) ?_
            have t11223 : 0 ≤ (v 37).toInt ∧ (v 37).toInt ≤ 9 := by have h9 := hI.1 37 _ _ rfl; rw [show v11216 37 = v 37 from (hf11218 37 (by decide)).trans ((hf_lp11155 37 (by decide)).trans (hf11150 37 (by decide)))] at h9; exact h9
            have t11224 : 0 ≤ (v11216 38).toInt ∧ (v11216 38).toInt ≤ 120 := hI.1 38 _ _ rfl
            refine va_callv (va_runV (As := [.int r11205, .int 0]) (rest := []) ⟨hx, hb, hml, hown, hwd⟩ (c_X12_lay l dC dI g c adK adV v11216 F11217 rc H.size r11205 0 hg hI (by have h9 : v11216 38 = v11216 38 := rfl; rw [h9]; omega)) (cwV 2 hwd (gV wk_1021 wk_1018 wk_1019 wk_1020 wk_5) rfl rfl rfl (by decide +kernel) ⟨Nat.le_of_ble_eq_true rfl, Nat.le_of_ble_eq_true rfl⟩) ⟨PM.blind, va_recv hK hP (ci := 12) (q0 := 0) rfl rfl, fun U hU hW => ⟨rfl, PM.at hK hE hP hS hU hW⟩⟩ rfl rfl hl.1 rfl (lv_room (Nat.le_of_ble_eq_true rfl)) dX12_sum_51 ⟨Nat.le_of_ble_eq_true rfl, Nat.le_of_ble_eq_true rfl⟩) hS (fun q _ h => (freeM hS) q h) (freeM hS) (fun u t H1 locs ht hvm hw hB hz1 hk1 hS => ?_)
            unfold BM at hB
            rw [ht] at hB
            obtain ⟨v11226, F11227, rc9⟩ := u
            obtain ⟨hI, hrc, hf11228, hG11229, hw⟩ := hw
            dsimp only at hI hrc hB hf11228 hG11229 hw
            have hF := frCF (by decide) hG11229 hF
            rw [hrc] at hB
            have hP : va_P (dC, dI) classes (wM g c v11226 F11227 rc) H1 := hB
            have hw : (v11226 38).toInt = (v11216 38).toInt + 1 ∧ keepL (v11216 37) (F11217 28) (F11217 29) (F11227 28) (F11227 29) ∧ dp (F11227 28) (F11227 29) (bI (v11216 37)) ((v11216 38).toInt.toNat + 1) = dpS (dp (F11217 28) (F11217 29) (bI (v11216 37)) (v11216 38).toInt.toNat) r11205 (0 : Int32) := hw
            rw [show v11216 37 = v 37 from (hf11218 37 (by decide)).trans ((hf_lp11155 37 (by decide)).trans (hf11150 37 (by decide)))] at hw
            have hw_r11225 := hw
            have t11230 : 0 ≤ (v11226 38).toInt ∧ (v11226 38).toInt ≤ 120 := hI.1 38 _ _ rfl
            have k11231 : (0 : Int32).toInt = 0 := by decide
            generalize H1 = H at hP hS ⊢
            have hk := hk.tr hw_r11225.2.1
            have hd : (v11216 40).toInt < 0 → dp (F11227 28) (F11227 29) (bI (v 37)) (v11226 38).toInt.toNat = some (((d + 1) + 1) - 1) := fun hf => (by have e9 : (v11226 38).toInt.toNat = (v11216 38).toInt.toNat + 1 := (by omega); rw [e9, hw_r11225.2.2, hd hf]; exact dpS_5 (by omega) (by omega) (by omega) (by omega) (by omega))
            refine lv_goto (tgt := 4) hx hb dX12_sum_54 (by decide) ?_
            exact ih_lp11155  v11226 F11227 _ _ _ (by have h9 : v11226 39 = v11216 39 := hf11228 39 (by decide); (try rw [h9]); clear h9; have h9 : v11226 38 = v11226 38 := rfl; (try rw [h9]); clear h9; have h9 : v11226 41 = v11216 41 := hf11228 41 (by decide); (try rw [h9]); clear h9; have h9 : v11226 40 = v11216 40 := hf11228 40 (by decide); (try rw [h9]); clear h9; omega) hk (by have h9 : v11226 40 = v11216 40 := hf11228 40 (by decide); (try rw [h9]); clear h9; have h9 : v11226 38 = v11226 38 := rfl; (try rw [h9]); clear h9; exact fun hf => (hd (by omega)).trans (congrArg some (by omega))) (by have h9 : v11226 39 = v11216 39 := hf11228 39 (by decide); rw [h9]; omega) (frC (by decide) hf11228 (frC (by decide) hf11218 (frU (by decide) hf_lp11155))) hI hF hP hS (lv_sub hl [1] rfl)
  obtain ⟨n9, hn9⟩ : ∃ n : Nat, 121 - (v11148 39).toInt ≤ (n : Int) := ⟨((121 - (v11148 39).toInt : Int)).toNat, by omega⟩
  exact lp11155 n9  v11148 F11149 H _ ls (by have h9 : v11148 39 = v11148 39 := rfl; (try rw [h9]); clear h9; have h9 : v11148 38 = v11148 38 := rfl; (try rw [h9]); clear h9; have h9 : v11148 41 = v11148 41 := rfl; (try rw [h9]); clear h9; have h9 : v11148 40 = v11148 40 := rfl; (try rw [h9]); clear h9; omega) hk (by have h9 : v11148 40 = v11148 40 := rfl; (try rw [h9]); clear h9; have h9 : v11148 38 = v11148 38 := rfl; (try rw [h9]); clear h9; exact fun hf => (hd (by omega)).trans (congrArg some (by omega))) (by have h9 : v11148 39 = v11148 39 := rfl; rw [h9]; omega) (fun _ _ => rfl) hI hF hP hS hl
set_option maxHeartbeats 8000000 in
set_option maxRecDepth 100000 in
theorem c_X12_either_8 (l : Launch) (dC : Nat → ClassId) (dI : Nat → Nat → Nat) (g : Nat → Nat) (c : Nat → ClassId) (adK adV : Nat → Nat) (v : Nat → Int32) (F : Nat → Nat → Int32) (rc sz : Nat) (d : Nat) (hg : injM g) (hI : IM v F) (hq : (v 38).toInt ≤ (v 39).toInt ∧ (v 39).toInt ≤ (v 30).toInt ∧ (v 40).toInt < 0 ∧ (v 41).toInt = 8) (hdp : dp (F 28) (F 29) (bI (v 37)) (v 38).toInt.toNat = some d) : Met l yX12_either (Cond.code yX12_either cX12_either 2 none :: wA) ({ frames := 6, cells := 0, slots := 0, locals := 240 }) (va_Pc [.ref (g 0)] (PM dC dI g c adK adV v F rc sz)) (va_Qv (fun (u : StM) => IM u.1 u.2.1 ∧ u.2.2 = rc ∧ (∀ k, k ∉ ([38, 39, 40, 41, 42] : List Nat) → u.1 k = v k) ∧ (∀ k, k ∉ ([28, 29] : List Nat) → u.2.1 k = F k) ∧ (((v 39).toInt ≤ (u.1 39).toInt ∧ (u.1 39).toInt ≤ (v 30).toInt ∧ (v 38).toInt ≤ (u.1 38).toInt ∧ (u.1 38).toInt - (v 38).toInt ≤ (u.1 39).toInt - (v 39).toInt ∧ (v 41).toInt ≤ (u.1 41).toInt ∧ ((u.1 40).toInt < 0 → (u.1 41).toInt = (v 41).toInt)) ∧ keepL (v 37) (F 28) (F 29) (u.2.1 28) (u.2.1 29) ∧ ((u.1 40).toInt < 0 → dp (u.2.1 28) (u.2.1 29) (bI (v 37)) (u.1 38).toInt.toNat = some (d + 1)))) (BM dC dI g c) (AM g sz)) 0 0 (AM g sz) := by
  refine Met.ofW (cc := cX12_either) (maxL := 2) (ret := none) (by decide) rfl ?_
  intro p e s m args below meth c0 s₁ B hml hv
  obtain ⟨rfl, hsz, hP, hK, hE⟩ := hv
  have hx := B.exec
  have hb := B.bytes
  have hr := B.returns
  have hts := atoms_spec (ws := Cond.code yX12_either cX12_either 2 none :: wA) B.pre
  have hwd : ∀ w ∈ wA, w.before _ s = true := fun w h => hts w (List.mem_cons_of_mem _ h)
  have hown : s.vm.findClass RX12 = some m.cls := findClass_of_methodNamed B.named
  have hlocks := B.notSynchronized
  subst hsz
  have hl := lv_entry ([.ref (g 0)]) (n := 2) (Nat.le_of_ble_eq_true rfl)
  rw [lg_entry_eq]
  generalize (lg_sl ([.ref (g 0)]) ++ List.replicate (2 - (lg_sl ([.ref (g 0)])).length) Slot.unset).toArray = ls at hl ⊢
  have hl : lv_has ls 2 [(0, .ref (g 0))] := hl
  obtain ⟨H, eH⟩ : ∃ z, z = s.heap := ⟨_, rfl⟩
  have hP : va_P (dC, dI) classes (wM g c v F rc) H := by rw [eH]; exact hP
  have hS : va_S (AM g s.heap.size) s.heap H [] := by rw [eH]; exact va_S.rf
  refine my_heap eH ?_
  have hF : ∀ k, k ∉ ([28, 29] : List Nat) → F k = F k := fun _ _ => rfl
  have hb30 : 0 ≤ (v 30).toInt ∧ (v 30).toInt ≤ 120 := hI.1 30 _ _ rfl
  have hb37 : 0 ≤ (v 37).toInt ∧ (v 37).toInt ≤ 9 := hI.1 37 _ _ rfl
  have hb38 : 0 ≤ (v 38).toInt ∧ (v 38).toInt ≤ 120 := hI.1 38 _ _ rfl
  have hb39 : 0 ≤ (v 39).toInt ∧ (v 39).toInt ≤ 120 := hI.1 39 _ _ rfl
  have hb41 : 0 ≤ (v 41).toInt ∧ (v 41).toInt ≤ 8 := hI.1 41 _ _ rfl
  have hk : keepL (v 37) (F 28) (F 29) (F 28) (F 29) := keepL.rf
  have hd : (v 40).toInt < 0 → dp (F 28) (F 29) (bI (v 37)) (v 38).toInt.toNat = some d := fun _ => hdp
  refine lv_aload_n hx hb dX12_either_0 rfl (lv_at hl 0 rfl) ?_
  have t11443 : 0 ≤ (v 30).toInt ∧ (v 30).toInt ≤ 120 := hI.1 30 _ _ rfl
  have t11444 : 0 ≤ (v 37).toInt ∧ (v 37).toInt ≤ 9 := hI.1 37 _ _ rfl
  have t11445 : 0 ≤ (v 38).toInt ∧ (v 38).toInt ≤ 120 := hI.1 38 _ _ rfl
  have t11446 : 0 ≤ (v 39).toInt ∧ (v 39).toInt ≤ 120 := hI.1 39 _ _ rfl
  have t11447 : 0 ≤ (v 41).toInt ∧ (v 41).toInt ≤ 8 := hI.1 41 _ _ rfl
  refine va_callv (va_runV (As := []) (rest := []) ⟨hx, hb, hml, hown, hwd⟩ (c_X12_sum_8 l dC dI g c adK adV v F rc H.size  d hg hI (by have h9 : v 38 = v 38 := rfl; (try rw [h9]); clear h9; have h9 : v 39 = v 39 := rfl; (try rw [h9]); clear h9; have h9 : v 30 = v 30 := rfl; (try rw [h9]); clear h9; have h9 : v 40 = v 40 := rfl; (try rw [h9]); clear h9; have h9 : v 41 = v 41 := rfl; (try rw [h9]); clear h9; omega) (by have h9 : v 37 = (v 37) := rfl; have h8 : v 38 = (v 38) := rfl; (try rw [h9]); (try rw [h8]); exact hd (by omega))) (cwV 0 hwd (gV wk_1043 wk_1011 wk_1012 wk_1013 wk_5) rfl rfl rfl (by decide +kernel) ⟨Nat.le_of_ble_eq_true rfl, Nat.le_of_ble_eq_true rfl⟩) ⟨PM.blind, va_recv hK hP (ci := 12) (q0 := 0) rfl rfl, fun U hU hW => ⟨rfl, PM.at hK hE hP hS hU hW⟩⟩ rfl rfl hl.1 rfl (lv_room (Nat.le_of_ble_eq_true rfl)) dX12_either_1 ⟨Nat.le_of_ble_eq_true rfl, Nat.le_of_ble_eq_true rfl⟩) hS (fun q _ h => (freeM hS) q h) (freeM hS) (fun u t H1 locs ht hvm hw hB hz1 hk1 hS => ?_)
  unfold BM at hB
  rw [ht] at hB
  obtain ⟨v11449, F11450, rc9⟩ := u
  obtain ⟨hI, hrc, hf11451, hG11452, hw⟩ := hw
  dsimp only at hI hrc hB hf11451 hG11452 hw
  have hF := frCF (by decide) hG11452 hF
  rw [hrc] at hB
  have hP : va_P (dC, dI) classes (wM g c v11449 F11450 rc) H1 := hB
  have hw : ((v 39).toInt ≤ (v11449 39).toInt ∧ (v11449 39).toInt ≤ (v 30).toInt ∧ (v 38).toInt ≤ (v11449 38).toInt ∧ (v11449 38).toInt - (v 38).toInt ≤ (v11449 39).toInt - (v 39).toInt ∧ (v 41).toInt ≤ (v11449 41).toInt ∧ ((v11449 40).toInt < 0 → (v11449 41).toInt = (v 41).toInt)) ∧ keepL (v 37) (F 28) (F 29) (F11450 28) (F11450 29) ∧ ((v11449 40).toInt < 0 → dp (F11450 28) (F11450 29) (bI (v 37)) (v11449 38).toInt.toNat = some (d + 1)) := hw
  have hw_r11448 := hw
  have t11453 : 0 ≤ (v11449 38).toInt ∧ (v11449 38).toInt ≤ 120 := hI.1 38 _ _ rfl
  have t11454 : 0 ≤ (v11449 39).toInt ∧ (v11449 39).toInt ≤ 120 := hI.1 39 _ _ rfl
  have t11455 : 0 ≤ (v11449 41).toInt ∧ (v11449 41).toInt ≤ 8 := hI.1 41 _ _ rfl
  generalize H1 = H at hP hS ⊢
  have hk := hk.tr hw_r11448.2.1
  have hd := hw_r11448.2.2
  refine lv_aload_n hx hb dX12_either_4 rfl (lv_at hl 0 rfl) ?_
  have t11456 : 0 ≤ (v 30).toInt ∧ (v 30).toInt ≤ 120 := by have h9 := hI.1 30 _ _ rfl; rw [show v11449 30 = v 30 from hf11451 30 (by decide)] at h9; exact h9
  have t11457 : 0 ≤ (v11449 39).toInt ∧ (v11449 39).toInt ≤ 120 := hI.1 39 _ _ rfl
  refine va_calli (va_runV (As := []) (rest := []) ⟨hx, hb, hml, hown, hwd⟩ (c_X12_look l dC dI g c adK adV v11449 F11450 rc H.size  hg hI ) (cwV 0 hwd (gV wk_1017 wk_1014 wk_1015 wk_1016 wk_5) rfl rfl rfl (by decide +kernel) ⟨Nat.le_of_ble_eq_true rfl, Nat.le_of_ble_eq_true rfl⟩) ⟨PM.blind, va_recv hK hP (ci := 12) (q0 := 0) rfl rfl, fun U hU hW => ⟨rfl, PM.at hK hE hP hS hU hW⟩⟩ rfl rfl hl.1 rfl (lv_room (Nat.le_of_ble_eq_true rfl)) dX12_either_5 ⟨Nat.le_of_ble_eq_true rfl, Nat.le_of_ble_eq_true rfl⟩) hS (fun q _ h => (freeM hS) q h) (freeM hS) (fun r11458 u t H1 locs ht hvm hw hB hz1 hk1 hS => ?_)
  unfold BM at hB
  rw [ht] at hB
  have hP : va_P (dC, dI) classes (wM g c v11449 F11450 rc) H1 := hB
  have hw : r11458.toInt = lkM (v11449 39) (v11449 30) (F11450 24) ∧ ((v11449 39).toInt < (v11449 30).toInt ∨ r11458.toInt = -1) := hw
  rw [show v11449 30 = v 30 from hf11451 30 (by decide)] at hw
  rw [hF 24 (by decide)] at hw
  have hw_r11458 := hw
  generalize H1 = H at hP hS ⊢
  refine lv_istore_n (lv' := [(1, .int r11458), (0, .ref (g 0))]) hx hb dX12_either_8 rfl hl (by decide) rfl (fun ls hl => ?_)
  refine lv_aload_n hx hb dX12_either_9 rfl (lv_at hl 1 rfl) ?_
  refine va_get (D := (dC, dI)) (ci := 12) (v := .int (v11449 40)) (C := RX12) (T := TX12) (N := 63) hx hb hwd inA_X12 hown hK hP 0 rfl rfl 40 (by decide) (hwd _ wk_1005) (fun _ h9 => h9) rfl dX12_either_10 ?_
  refine lv_if_ge (tgt := 54) hx hb dX12_either_13 (by decide) (fun c11459 => ?_) (fun c11459 => ?_)
  · skip
    have t11460 := cv_le (a := 0) (by decide) (b := (v11449 40).toInt) rfl c11459
    refine lv_aload_n hx hb dX12_either_54 rfl (lv_at hl 1 rfl) ?_
    refine va_get (D := (dC, dI)) (ci := 12) (v := .int (v11449 40)) (C := RX12) (T := TX12) (N := 63) hx hb hwd inA_X12 hown hK hP 0 rfl rfl 40 (by decide) (hwd _ wk_1005) (fun _ h9 => h9) rfl dX12_either_55 ?_
    refine lv_if_ge (tgt := 70) hx hb dX12_either_58 (by decide) (fun c11461 => ?_) (fun c11461 => ?_)
    · skip
      have t11462 := cv_le (a := 0) (by decide) (b := (v11449 40).toInt) rfl c11461
      have hP9 : va_P (dC, dI) classes (wM g c v11449 F11450 rc) H := hP
      exact W.vret hx hb hr (fun t ht hW => ⟨⟨(v11449, F11450, rc), rfl, ⟨hI, rfl, (frC (by decide) hf11451 (fun _ _ => rfl)), hF, (by show ((v 39).toInt ≤ (v11449 39).toInt ∧ (v11449 39).toInt ≤ (v 30).toInt ∧ (v 38).toInt ≤ (v11449 38).toInt ∧ (v11449 38).toInt - (v 38).toInt ≤ (v11449 39).toInt - (v 39).toInt ∧ (v 41).toInt ≤ (v11449 41).toInt ∧ ((v11449 40).toInt < 0 → (v11449 41).toInt = (v 41).toInt)) ∧ keepL (v 37) (F 28) (F 29) (F11450 28) (F11450 29) ∧ ((v11449 40).toInt < 0 → dp (F11450 28) (F11450 29) (bI (v 37)) (v11449 38).toInt.toNat = some (d + 1)); exact ⟨by omega, hk, fun hf => (hd (by omega)).trans (congrArg some (by omega))⟩)⟩, (by show va_P _ _ _ t.heap; rw [ht]; exact hP9)⟩, hS.F ht⟩) hS.2.2 dX12_either_70
    · skip
      have t11463 := cv_nle (a := 0) (by decide) (b := (v11449 40).toInt) rfl c11461
      refine lv_aload_n hx hb dX12_either_61 rfl (lv_at hl 1 rfl) ?_
      have t11464 : 0 ≤ (v 30).toInt ∧ (v 30).toInt ≤ 120 := by have h9 := hI.1 30 _ _ rfl; rw [show v11449 30 = v 30 from hf11451 30 (by decide)] at h9; exact h9
      have t11465 : 0 ≤ (v11449 39).toInt ∧ (v11449 39).toInt ≤ 120 := hI.1 39 _ _ rfl
      refine va_calli (va_runV (As := []) (rest := []) ⟨hx, hb, hml, hown, hwd⟩ (c_X12_look l dC dI g c adK adV v11449 F11450 rc H.size  hg hI ) (cwV 0 hwd (gV wk_1017 wk_1014 wk_1015 wk_1016 wk_5) rfl rfl rfl (by decide +kernel) ⟨Nat.le_of_ble_eq_true rfl, Nat.le_of_ble_eq_true rfl⟩) ⟨PM.blind, va_recv hK hP (ci := 12) (q0 := 0) rfl rfl, fun U hU hW => ⟨rfl, PM.at hK hE hP hS hU hW⟩⟩ rfl rfl hl.1 rfl (lv_room (Nat.le_of_ble_eq_true rfl)) dX12_either_62 ⟨Nat.le_of_ble_eq_true rfl, Nat.le_of_ble_eq_true rfl⟩) hS (fun q _ h => (freeM hS) q h) (freeM hS) (fun r11466 u t H1 locs ht hvm hw hB hz1 hk1 hS => ?_)
      unfold BM at hB
      rw [ht] at hB
      have hP : va_P (dC, dI) classes (wM g c v11449 F11450 rc) H1 := hB
      have hw : r11466.toInt = lkM (v11449 39) (v11449 30) (F11450 24) ∧ ((v11449 39).toInt < (v11449 30).toInt ∨ r11466.toInt = -1) := hw
      rw [show v11449 30 = v 30 from hf11451 30 (by decide)] at hw
      rw [hF 24 (by decide)] at hw
      have hw_r11466 := hw
      generalize H1 = H at hP hS ⊢
      refine lv_bipush (v := 63) hx hb dX12_either_65 (by decide) ?_
      refine lv_icmp_eq (tgt := 71) hx hb dX12_either_67 (by decide) (fun c11467 => ?_) (fun c11467 => ?_)
      · skip
        have t11468 := cv_eq (a := r11466.toInt) rfl (b := 63) (by decide) c11467
        refine lv_aload_n hx hb dX12_either_71 rfl (lv_at hl 1 rfl) ?_
        have t11469 : 0 ≤ (v11449 39).toInt ∧ (v11449 39).toInt ≤ 120 := hI.1 39 _ _ rfl
        have t11470 : 0 ≤ (v11449 41).toInt ∧ (v11449 41).toInt ≤ 8 := hI.1 41 _ _ rfl
        refine va_calli (va_runV (As := []) (rest := []) ⟨hx, hb, hml, hown, hwd⟩ (c_X12_opens l dC dI g c adK adV v11449 F11450 rc H.size  hg hI (by have h9 : v11449 39 = v11449 39 := rfl; (try rw [h9]); clear h9; have h9 : v11449 30 = v 30 := hf11451 30 (by decide); (try rw [h9]); clear h9; omega)) (cwV 0 hwd (gV wk_1025 wk_1022 wk_1023 wk_1024 wk_5) rfl rfl rfl (by decide +kernel) ⟨Nat.le_of_ble_eq_true rfl, Nat.le_of_ble_eq_true rfl⟩) ⟨PM.blind, va_recv hK hP (ci := 12) (q0 := 0) rfl rfl, fun U hU hW => ⟨rfl, PM.at hK hE hP hS hU hW⟩⟩ rfl rfl hl.1 rfl (lv_room (Nat.le_of_ble_eq_true rfl)) dX12_either_72 ⟨Nat.le_of_ble_eq_true rfl, Nat.le_of_ble_eq_true rfl⟩) hS (fun q _ h => (freeM hS) q h) (freeM hS) (fun r11471 u t H1 locs ht hvm hw hB hz1 hk1 hS => ?_)
        unfold BM at hB
        rw [ht] at hB
        obtain ⟨v11472, F11473, rc9⟩ := u
        obtain ⟨hI, hrc, hf11474, hG11475, hw⟩ := hw
        dsimp only at hI hrc hB hf11474 hG11475 hw
        have hF := frCF (by decide) hG11475 hF
        rw [hrc] at hB
        have hP : va_P (dC, dI) classes (wM g c v11472 F11473 rc) H1 := hB
        have hw : (r11471.toInt = 1 ∧ (v11449 41).toInt < 8 ∧ (v11472 41).toInt = (v11449 41).toInt + 1 ∧ (v11472 39).toInt = (v11449 39).toInt + 1 ∧ (v11472 40).toInt = (v11449 40).toInt) ∨ (r11471.toInt = 0 ∧ (v11449 41).toInt = 8 ∧ 0 ≤ (v11472 40).toInt ∧ (v11472 41).toInt = (v11449 41).toInt ∧ (v11472 39).toInt = (v11449 39).toInt) := hw
        have hw_r11471 := hw
        have t11476 : 0 ≤ (v11472 39).toInt ∧ (v11472 39).toInt ≤ 120 := hI.1 39 _ _ rfl
        have t11477 : 0 ≤ (v11472 41).toInt ∧ (v11472 41).toInt ≤ 8 := hI.1 41 _ _ rfl
        generalize H1 = H at hP hS ⊢
        have hk : keepL (v 37) (F 28) (F 29) (F11473 28) (F11473 29) := by rw [hG11475 28 (by decide), hG11475 29 (by decide)]; exact hk
        have hd : (v11472 40).toInt < 0 → dp (F11473 28) (F11473 29) (bI (v 37)) (v11449 38).toInt.toNat = some (d + 1) := fun hf => (by rw [hG11475 28 (by decide), hG11475 29 (by decide)]; exact hd (by omega))
        refine lv_if_ne (tgt := 79) hx hb dX12_either_75 (by decide) (fun c11478 => ?_) (fun c11478 => ?_)
        · skip
          have t11479 := cv_ne (a := r11471.toInt) rfl (b := 0) (by decide) c11478
          exfalso
          omega
        · skip
          have t11480 := cv_eq (a := r11471.toInt) rfl (b := 0) (by decide) c11478
          have hP9 : va_P (dC, dI) classes (wM g c v11472 F11473 rc) H := hP
          exact W.vret hx hb hr (fun t ht hW => ⟨⟨(v11472, F11473, rc), rfl, ⟨hI, rfl, (frC (by decide) hf11474 (frC (by decide) hf11451 (fun _ _ => rfl))), hF, (by show ((v 39).toInt ≤ (v11472 39).toInt ∧ (v11472 39).toInt ≤ (v 30).toInt ∧ (v 38).toInt ≤ (v11472 38).toInt ∧ (v11472 38).toInt - (v 38).toInt ≤ (v11472 39).toInt - (v 39).toInt ∧ (v 41).toInt ≤ (v11472 41).toInt ∧ ((v11472 40).toInt < 0 → (v11472 41).toInt = (v 41).toInt)) ∧ keepL (v 37) (F 28) (F 29) (F11473 28) (F11473 29) ∧ ((v11472 40).toInt < 0 → dp (F11473 28) (F11473 29) (bI (v 37)) (v11472 38).toInt.toNat = some (d + 1)); rw [show v11472 38 = v11449 38 from hf11474 38 (by decide)]; exact ⟨by omega, hk, fun hf => (hd (by omega)).trans (congrArg some (by omega))⟩)⟩, (by show va_P _ _ _ t.heap; rw [ht]; exact hP9)⟩, hS.F ht⟩) hS.2.2 dX12_either_78
      · skip
        have t11481 := cv_ne (a := r11466.toInt) rfl (b := 63) (by decide) c11467
        have hP9 : va_P (dC, dI) classes (wM g c v11449 F11450 rc) H := hP
        exact W.vret hx hb hr (fun t ht hW => ⟨⟨(v11449, F11450, rc), rfl, ⟨hI, rfl, (frC (by decide) hf11451 (fun _ _ => rfl)), hF, (by show ((v 39).toInt ≤ (v11449 39).toInt ∧ (v11449 39).toInt ≤ (v 30).toInt ∧ (v 38).toInt ≤ (v11449 38).toInt ∧ (v11449 38).toInt - (v 38).toInt ≤ (v11449 39).toInt - (v 39).toInt ∧ (v 41).toInt ≤ (v11449 41).toInt ∧ ((v11449 40).toInt < 0 → (v11449 41).toInt = (v 41).toInt)) ∧ keepL (v 37) (F 28) (F 29) (F11450 28) (F11450 29) ∧ ((v11449 40).toInt < 0 → dp (F11450 28) (F11450 29) (bI (v 37)) (v11449 38).toInt.toNat = some (d + 1)); exact ⟨by omega, hk, fun hf => (hd (by omega)).trans (congrArg some (by omega))⟩)⟩, (by show va_P _ _ _ t.heap; rw [ht]; exact hP9)⟩, hS.F ht⟩) hS.2.2 dX12_either_70
  · skip
    have t11482 := cv_nle (a := 0) (by decide) (b := (v11449 40).toInt) rfl c11459
    refine lv_iload_n hx hb dX12_either_16 rfl (lv_at hl 0 rfl) ?_
    refine lv_bipush (v := 60) hx hb dX12_either_17 (by decide) ?_
    refine lv_icmp_eq (tgt := 34) hx hb dX12_either_19 (by decide) (fun c11483 => ?_) (fun c11483 => ?_)
    · skip
      have t11484 := cv_eq (a := r11458.toInt) rfl (b := 60) (by decide) c11483
      refine lv_aload_n hx hb dX12_either_34 rfl (lv_at hl 1 rfl) ?_
      refine lv_dup hx hb dX12_either_35 rfl ?_
      refine va_get (D := (dC, dI)) (ci := 12) (v := .int (v11449 39)) (C := RX12) (T := TX12) (N := 63) hx hb hwd inA_X12 hown hK hP 0 rfl rfl 39 (by decide) (hwd _ wk_1004) (fun _ h9 => h9) rfl dX12_either_36 ?_
      have t11485 : 0 ≤ (v11449 39).toInt ∧ (v11449 39).toInt ≤ 120 := hI.1 39 _ _ rfl
      refine lv_iconst (v := 1) hx hb dX12_either_39 (by decide) ?_
      refine lv_iadd hx hb dX12_either_40 ?_
      refine lv_topi (fun z11486 e11487 => ?_)
      try (have t11488 := tadd e11487 (a := (v11449 39).toInt) rfl (b := 1) (by decide) (by omega))
      refine va_put (D := (dC, dI)) (ci := 12) (v := .int z11486) (ty := .int) (C := RX12) (T := TX12) (N := 63) (fs := fsM_0 g v11449 rc) hx hb hwd inA_X12 tyX12 tyX12_ok nmX12 hown hK hP (DM hg) hS 0 rfl rfl 39 (by decide) (hwd _ wk_1004) (fun _ h9 => h9) rfl (by decide +kernel) rfl rfl (Nat.le_of_ble_eq_true rfl) dX12_either_41 (fun H locs hP _ hS => ?_)
      have hP := va_P_eq (pM_39 g c _ _ _ _) hP
      have hI := IM.put hI 39 z11486 rfl (by omega)
      refine lv_aload_n hx hb dX12_either_44 rfl (lv_at hl 1 rfl) ?_
      have t11489 : 0 ≤ (v 30).toInt ∧ (v 30).toInt ≤ 120 := by have h9 := hI.1 30 _ _ rfl; rw [show (va_up v11449 39 z11486) 30 = v 30 from hf11451 30 (by decide)] at h9; exact h9
      have t11490 : 0 ≤ (v 37).toInt ∧ (v 37).toInt ≤ 9 := by have h9 := hI.1 37 _ _ rfl; rw [show (va_up v11449 39 z11486) 37 = v 37 from hf11451 37 (by decide)] at h9; exact h9
      have t11491 : 0 ≤ (v11449 38).toInt ∧ (v11449 38).toInt ≤ 120 := hI.1 38 _ _ rfl
      have t11492 : 0 ≤ z11486.toInt ∧ z11486.toInt ≤ 120 := hI.1 39 _ _ rfl
      have t11493 : 0 ≤ (v11449 41).toInt ∧ (v11449 41).toInt ≤ 8 := hI.1 41 _ _ rfl
      refine va_callv (va_runV (As := []) (rest := []) ⟨hx, hb, hml, hown, hwd⟩ (c_X12_sum_8 l dC dI g c adK adV (va_up v11449 39 z11486) F11450 rc H.size  (d + 1) hg hI (by have h9 : (va_up v11449 39 z11486) 38 = v11449 38 := rfl; (try rw [h9]); clear h9; have h9 : (va_up v11449 39 z11486) 39 = z11486 := rfl; (try rw [h9]); clear h9; have h9 : (va_up v11449 39 z11486) 30 = v 30 := hf11451 30 (by decide); (try rw [h9]); clear h9; have h9 : (va_up v11449 39 z11486) 40 = v11449 40 := rfl; (try rw [h9]); clear h9; have h9 : (va_up v11449 39 z11486) 41 = v11449 41 := rfl; (try rw [h9]); clear h9; omega) (by have h9 : (va_up v11449 39 z11486) 37 = (v 37) := hf11451 37 (by decide); have h8 : (va_up v11449 39 z11486) 38 = (v11449 38) := rfl; (try rw [h9]); (try rw [h8]); exact hd (by omega))) (cwV 0 hwd (gV wk_1043 wk_1011 wk_1012 wk_1013 wk_5) rfl rfl rfl (by decide +kernel) ⟨Nat.le_of_ble_eq_true rfl, Nat.le_of_ble_eq_true rfl⟩) ⟨PM.blind, va_recv hK hP (ci := 12) (q0 := 0) rfl rfl, fun U hU hW => ⟨rfl, PM.at hK hE hP hS hU hW⟩⟩ rfl rfl hl.1 rfl (lv_room (Nat.le_of_ble_eq_true rfl)) dX12_either_45 ⟨Nat.le_of_ble_eq_true rfl, Nat.le_of_ble_eq_true rfl⟩) hS (fun q _ h => (freeM hS) q h) (freeM hS) (fun u t H1 locs ht hvm hw hB hz1 hk1 hS => ?_)
      unfold BM at hB
      rw [ht] at hB
      obtain ⟨v11495, F11496, rc9⟩ := u
      obtain ⟨hI, hrc, hf11497, hG11498, hw⟩ := hw
      dsimp only at hI hrc hB hf11497 hG11498 hw
      have hF := frCF (by decide) hG11498 hF
      rw [hrc] at hB
      have hP : va_P (dC, dI) classes (wM g c v11495 F11496 rc) H1 := hB
      have hw : (z11486.toInt ≤ (v11495 39).toInt ∧ (v11495 39).toInt ≤ ((va_up v11449 39 z11486) 30).toInt ∧ (v11449 38).toInt ≤ (v11495 38).toInt ∧ (v11495 38).toInt - (v11449 38).toInt ≤ (v11495 39).toInt - z11486.toInt ∧ (v11449 41).toInt ≤ (v11495 41).toInt ∧ ((v11495 40).toInt < 0 → (v11495 41).toInt = (v11449 41).toInt)) ∧ keepL ((va_up v11449 39 z11486) 37) (F11450 28) (F11450 29) (F11496 28) (F11496 29) ∧ ((v11495 40).toInt < 0 → dp (F11496 28) (F11496 29) (bI ((va_up v11449 39 z11486) 37)) (v11495 38).toInt.toNat = some ((d + 1) + 1)) := hw
      rw [show (va_up v11449 39 z11486) 30 = v 30 from hf11451 30 (by decide)] at hw
      rw [show (va_up v11449 39 z11486) 37 = v 37 from hf11451 37 (by decide)] at hw
      have hw_r11494 := hw
      have t11499 : 0 ≤ (v11495 38).toInt ∧ (v11495 38).toInt ≤ 120 := hI.1 38 _ _ rfl
      have t11500 : 0 ≤ (v11495 39).toInt ∧ (v11495 39).toInt ≤ 120 := hI.1 39 _ _ rfl
      have t11501 : 0 ≤ (v11495 41).toInt ∧ (v11495 41).toInt ≤ 8 := hI.1 41 _ _ rfl
      generalize H1 = H at hP hS ⊢
      have hk := hk.tr hw_r11494.2.1
      have hd := hw_r11494.2.2
      refine lv_aload_n hx hb dX12_either_48 rfl (lv_at hl 1 rfl) ?_
      refine lv_iload_n hx hb dX12_either_49 rfl (lv_at hl 0 rfl) ?_
      refine lv_iconst (v := 0) hx hb dX12_either_50 (by decide) ?_
      have t11502 : 0 ≤ (v 37).toInt ∧ (v 37).toInt ≤ 9 := by have h9 := hI.1 37 _ _ rfl; rw [show v11495 37 = v 37 from (hf11497 37 (by decide)).trans (hf11451 37 (by decide))] at h9; exact h9
      have t11503 : 0 ≤ (v11495 38).toInt ∧ (v11495 38).toInt ≤ 120 := hI.1 38 _ _ rfl
      refine va_callv (va_runV (As := [.int r11458, .int 0]) (rest := []) ⟨hx, hb, hml, hown, hwd⟩ (c_X12_lay l dC dI g c adK adV v11495 F11496 rc H.size r11458 0 hg hI (by have h9 : v11495 38 = v11495 38 := rfl; rw [h9]; omega)) (cwV 2 hwd (gV wk_1021 wk_1018 wk_1019 wk_1020 wk_5) rfl rfl rfl (by decide +kernel) ⟨Nat.le_of_ble_eq_true rfl, Nat.le_of_ble_eq_true rfl⟩) ⟨PM.blind, va_recv hK hP (ci := 12) (q0 := 0) rfl rfl, fun U hU hW => ⟨rfl, PM.at hK hE hP hS hU hW⟩⟩ rfl rfl hl.1 rfl (lv_room (Nat.le_of_ble_eq_true rfl)) dX12_either_51 ⟨Nat.le_of_ble_eq_true rfl, Nat.le_of_ble_eq_true rfl⟩) hS (fun q _ h => (freeM hS) q h) (freeM hS) (fun u t H1 locs ht hvm hw hB hz1 hk1 hS => ?_)
      unfold BM at hB
      rw [ht] at hB
      obtain ⟨v11505, F11506, rc9⟩ := u
      obtain ⟨hI, hrc, hf11507, hG11508, hw⟩ := hw
      dsimp only at hI hrc hB hf11507 hG11508 hw
      have hF := frCF (by decide) hG11508 hF
      rw [hrc] at hB
      have hP : va_P (dC, dI) classes (wM g c v11505 F11506 rc) H1 := hB
      have hw : (v11505 38).toInt = (v11495 38).toInt + 1 ∧ keepL (v11495 37) (F11496 28) (F11496 29) (F11506 28) (F11506 29) ∧ dp (F11506 28) (F11506 29) (bI (v11495 37)) ((v11495 38).toInt.toNat + 1) = dpS (dp (F11496 28) (F11496 29) (bI (v11495 37)) (v11495 38).toInt.toNat) r11458 (0 : Int32) := hw
      rw [show v11495 37 = v 37 from (hf11497 37 (by decide)).trans (hf11451 37 (by decide))] at hw
      have hw_r11504 := hw
      have t11509 : 0 ≤ (v11505 38).toInt ∧ (v11505 38).toInt ≤ 120 := hI.1 38 _ _ rfl
      have k11510 : (0 : Int32).toInt = 0 := by decide
      generalize H1 = H at hP hS ⊢
      have hk := hk.tr hw_r11504.2.1
      have hd : (v11495 40).toInt < 0 → dp (F11506 28) (F11506 29) (bI (v 37)) (v11505 38).toInt.toNat = some (((d + 1) + 1) - 1) := fun hf => (by have e9 : (v11505 38).toInt.toNat = (v11495 38).toInt.toNat + 1 := (by omega); rw [e9, hw_r11504.2.2, hd hf]; exact dpS_5 (by omega) (by omega) (by omega) (by omega) (by omega))
      refine lv_aload_n hx hb dX12_either_54 rfl (lv_at hl 1 rfl) ?_
      refine va_get (D := (dC, dI)) (ci := 12) (v := .int (v11505 40)) (C := RX12) (T := TX12) (N := 63) hx hb hwd inA_X12 hown hK hP 0 rfl rfl 40 (by decide) (hwd _ wk_1005) (fun _ h9 => h9) rfl dX12_either_55 ?_
      refine my_top (v := v11495 40) (hf11507 40 (by decide)) ?_
      refine lv_if_ge (tgt := 70) hx hb dX12_either_58 (by decide) (fun c11511 => ?_) (fun c11511 => ?_)
      · skip
        have t11512 := cv_le (a := 0) (by decide) (b := (v11495 40).toInt) rfl c11511
        have hP9 : va_P (dC, dI) classes (wM g c v11505 F11506 rc) H := hP
        exact W.vret hx hb hr (fun t ht hW => ⟨⟨(v11505, F11506, rc), rfl, ⟨hI, rfl, (frC (by decide) hf11507 (frC (by decide) hf11497 (frU (by decide) (frC (by decide) hf11451 (fun _ _ => rfl))))), hF, (by show ((v 39).toInt ≤ (v11505 39).toInt ∧ (v11505 39).toInt ≤ (v 30).toInt ∧ (v 38).toInt ≤ (v11505 38).toInt ∧ (v11505 38).toInt - (v 38).toInt ≤ (v11505 39).toInt - (v 39).toInt ∧ (v 41).toInt ≤ (v11505 41).toInt ∧ ((v11505 40).toInt < 0 → (v11505 41).toInt = (v 41).toInt)) ∧ keepL (v 37) (F 28) (F 29) (F11506 28) (F11506 29) ∧ ((v11505 40).toInt < 0 → dp (F11506 28) (F11506 29) (bI (v 37)) (v11505 38).toInt.toNat = some (d + 1)); rw [show v11505 39 = v11495 39 from hf11507 39 (by decide)]; rw [show v11505 41 = v11495 41 from hf11507 41 (by decide)]; rw [show v11505 40 = v11495 40 from hf11507 40 (by decide)]; exact ⟨by omega, hk, fun hf => (hd (by omega)).trans (congrArg some (by omega))⟩)⟩, (by show va_P _ _ _ t.heap; rw [ht]; exact hP9)⟩, hS.F ht⟩) hS.2.2 dX12_either_70
      · skip
        have t11513 := cv_nle (a := 0) (by decide) (b := (v11495 40).toInt) rfl c11511
        refine lv_aload_n hx hb dX12_either_61 rfl (lv_at hl 1 rfl) ?_
        have t11514 : 0 ≤ (v 30).toInt ∧ (v 30).toInt ≤ 120 := by have h9 := hI.1 30 _ _ rfl; rw [show v11505 30 = v 30 from (hf11507 30 (by decide)).trans ((hf11497 30 (by decide)).trans (hf11451 30 (by decide)))] at h9; exact h9
        have t11515 : 0 ≤ (v11495 39).toInt ∧ (v11495 39).toInt ≤ 120 := by have h9 := hI.1 39 _ _ rfl; rw [show v11505 39 = v11495 39 from hf11507 39 (by decide)] at h9; exact h9
        refine va_calli (va_runV (As := []) (rest := []) ⟨hx, hb, hml, hown, hwd⟩ (c_X12_look l dC dI g c adK adV v11505 F11506 rc H.size  hg hI ) (cwV 0 hwd (gV wk_1017 wk_1014 wk_1015 wk_1016 wk_5) rfl rfl rfl (by decide +kernel) ⟨Nat.le_of_ble_eq_true rfl, Nat.le_of_ble_eq_true rfl⟩) ⟨PM.blind, va_recv hK hP (ci := 12) (q0 := 0) rfl rfl, fun U hU hW => ⟨rfl, PM.at hK hE hP hS hU hW⟩⟩ rfl rfl hl.1 rfl (lv_room (Nat.le_of_ble_eq_true rfl)) dX12_either_62 ⟨Nat.le_of_ble_eq_true rfl, Nat.le_of_ble_eq_true rfl⟩) hS (fun q _ h => (freeM hS) q h) (freeM hS) (fun r11516 u t H1 locs ht hvm hw hB hz1 hk1 hS => ?_)
        unfold BM at hB
        rw [ht] at hB
        have hP : va_P (dC, dI) classes (wM g c v11505 F11506 rc) H1 := hB
        have hw : r11516.toInt = lkM (v11505 39) (v11505 30) (F11506 24) ∧ ((v11505 39).toInt < (v11505 30).toInt ∨ r11516.toInt = -1) := hw
        rw [show v11505 39 = v11495 39 from hf11507 39 (by decide)] at hw
        rw [show v11505 30 = v 30 from (hf11507 30 (by decide)).trans ((hf11497 30 (by decide)).trans (hf11451 30 (by decide)))] at hw
        rw [hF 24 (by decide)] at hw
        have hw_r11516 := hw
        generalize H1 = H at hP hS ⊢
        refine lv_bipush (v := 63) hx hb dX12_either_65 (by decide) ?_
        refine lv_icmp_eq (tgt := 71) hx hb dX12_either_67 (by decide) (fun c11517 => ?_) (fun c11517 => ?_)
        · skip
          have t11518 := cv_eq (a := r11516.toInt) rfl (b := 63) (by decide) c11517
          refine lv_aload_n hx hb dX12_either_71 rfl (lv_at hl 1 rfl) ?_
          have t11519 : 0 ≤ (v11495 39).toInt ∧ (v11495 39).toInt ≤ 120 := by have h9 := hI.1 39 _ _ rfl; rw [show v11505 39 = v11495 39 from hf11507 39 (by decide)] at h9; exact h9
          have t11520 : 0 ≤ (v11495 41).toInt ∧ (v11495 41).toInt ≤ 8 := by have h9 := hI.1 41 _ _ rfl; rw [show v11505 41 = v11495 41 from hf11507 41 (by decide)] at h9; exact h9
          refine va_calli (va_runV (As := []) (rest := []) ⟨hx, hb, hml, hown, hwd⟩ (c_X12_opens l dC dI g c adK adV v11505 F11506 rc H.size  hg hI (by have h9 : v11505 39 = v11495 39 := hf11507 39 (by decide); (try rw [h9]); clear h9; have h9 : v11505 30 = v 30 := (hf11507 30 (by decide)).trans ((hf11497 30 (by decide)).trans (hf11451 30 (by decide))); (try rw [h9]); clear h9; omega)) (cwV 0 hwd (gV wk_1025 wk_1022 wk_1023 wk_1024 wk_5) rfl rfl rfl (by decide +kernel) ⟨Nat.le_of_ble_eq_true rfl, Nat.le_of_ble_eq_true rfl⟩) ⟨PM.blind, va_recv hK hP (ci := 12) (q0 := 0) rfl rfl, fun U hU hW => ⟨rfl, PM.at hK hE hP hS hU hW⟩⟩ rfl rfl hl.1 rfl (lv_room (Nat.le_of_ble_eq_true rfl)) dX12_either_72 ⟨Nat.le_of_ble_eq_true rfl, Nat.le_of_ble_eq_true rfl⟩) hS (fun q _ h => (freeM hS) q h) (freeM hS) (fun r11521 u t H1 locs ht hvm hw hB hz1 hk1 hS => ?_)
          unfold BM at hB
          rw [ht] at hB
          obtain ⟨v11522, F11523, rc9⟩ := u
          obtain ⟨hI, hrc, hf11524, hG11525, hw⟩ := hw
          dsimp only at hI hrc hB hf11524 hG11525 hw
          have hF := frCF (by decide) hG11525 hF
          rw [hrc] at hB
          have hP : va_P (dC, dI) classes (wM g c v11522 F11523 rc) H1 := hB
          have hw : (r11521.toInt = 1 ∧ (v11505 41).toInt < 8 ∧ (v11522 41).toInt = (v11505 41).toInt + 1 ∧ (v11522 39).toInt = (v11505 39).toInt + 1 ∧ (v11522 40).toInt = (v11505 40).toInt) ∨ (r11521.toInt = 0 ∧ (v11505 41).toInt = 8 ∧ 0 ≤ (v11522 40).toInt ∧ (v11522 41).toInt = (v11505 41).toInt ∧ (v11522 39).toInt = (v11505 39).toInt) := hw
          rw [show v11505 41 = v11495 41 from hf11507 41 (by decide)] at hw
          rw [show v11505 39 = v11495 39 from hf11507 39 (by decide)] at hw
          rw [show v11505 40 = v11495 40 from hf11507 40 (by decide)] at hw
          have hw_r11521 := hw
          have t11526 : 0 ≤ (v11522 39).toInt ∧ (v11522 39).toInt ≤ 120 := hI.1 39 _ _ rfl
          have t11527 : 0 ≤ (v11522 41).toInt ∧ (v11522 41).toInt ≤ 8 := hI.1 41 _ _ rfl
          generalize H1 = H at hP hS ⊢
          have hk : keepL (v 37) (F 28) (F 29) (F11523 28) (F11523 29) := by rw [hG11525 28 (by decide), hG11525 29 (by decide)]; exact hk
          have hd : (v11522 40).toInt < 0 → dp (F11523 28) (F11523 29) (bI (v 37)) (v11505 38).toInt.toNat = some (((d + 1) + 1) - 1) := fun hf => (by rw [hG11525 28 (by decide), hG11525 29 (by decide)]; exact hd (by omega))
          refine lv_if_ne (tgt := 79) hx hb dX12_either_75 (by decide) (fun c11528 => ?_) (fun c11528 => ?_)
          · skip
            have t11529 := cv_ne (a := r11521.toInt) rfl (b := 0) (by decide) c11528
            exfalso
            omega
          · skip
            have t11530 := cv_eq (a := r11521.toInt) rfl (b := 0) (by decide) c11528
            have hP9 : va_P (dC, dI) classes (wM g c v11522 F11523 rc) H := hP
            exact W.vret hx hb hr (fun t ht hW => ⟨⟨(v11522, F11523, rc), rfl, ⟨hI, rfl, (frC (by decide) hf11524 (frC (by decide) hf11507 (frC (by decide) hf11497 (frU (by decide) (frC (by decide) hf11451 (fun _ _ => rfl)))))), hF, (by show ((v 39).toInt ≤ (v11522 39).toInt ∧ (v11522 39).toInt ≤ (v 30).toInt ∧ (v 38).toInt ≤ (v11522 38).toInt ∧ (v11522 38).toInt - (v 38).toInt ≤ (v11522 39).toInt - (v 39).toInt ∧ (v 41).toInt ≤ (v11522 41).toInt ∧ ((v11522 40).toInt < 0 → (v11522 41).toInt = (v 41).toInt)) ∧ keepL (v 37) (F 28) (F 29) (F11523 28) (F11523 29) ∧ ((v11522 40).toInt < 0 → dp (F11523 28) (F11523 29) (bI (v 37)) (v11522 38).toInt.toNat = some (d + 1)); rw [show v11522 38 = v11505 38 from hf11524 38 (by decide)]; exact ⟨by omega, hk, fun hf => (hd (by omega)).trans (congrArg some (by omega))⟩)⟩, (by show va_P _ _ _ t.heap; rw [ht]; exact hP9)⟩, hS.F ht⟩) hS.2.2 dX12_either_78
        · skip
          have t11531 := cv_ne (a := r11516.toInt) rfl (b := 63) (by decide) c11517
          have hP9 : va_P (dC, dI) classes (wM g c v11505 F11506 rc) H := hP
          exact W.vret hx hb hr (fun t ht hW => ⟨⟨(v11505, F11506, rc), rfl, ⟨hI, rfl, (frC (by decide) hf11507 (frC (by decide) hf11497 (frU (by decide) (frC (by decide) hf11451 (fun _ _ => rfl))))), hF, (by show ((v 39).toInt ≤ (v11505 39).toInt ∧ (v11505 39).toInt ≤ (v 30).toInt ∧ (v 38).toInt ≤ (v11505 38).toInt ∧ (v11505 38).toInt - (v 38).toInt ≤ (v11505 39).toInt - (v 39).toInt ∧ (v 41).toInt ≤ (v11505 41).toInt ∧ ((v11505 40).toInt < 0 → (v11505 41).toInt = (v 41).toInt)) ∧ keepL (v 37) (F 28) (F 29) (F11506 28) (F11506 29) ∧ ((v11505 40).toInt < 0 → dp (F11506 28) (F11506 29) (bI (v 37)) (v11505 38).toInt.toNat = some (d + 1)); rw [show v11505 39 = v11495 39 from hf11507 39 (by decide)]; rw [show v11505 41 = v11495 41 from hf11507 41 (by decide)]; rw [show v11505 40 = v11495 40 from hf11507 40 (by decide)]; exact ⟨by omega, hk, fun hf => (hd (by omega)).trans (congrArg some (by omega))⟩)⟩, (by show va_P _ _ _ t.heap; rw [ht]; exact hP9)⟩, hS.F ht⟩) hS.2.2 dX12_either_70
    · skip
      have t11532 := cv_ne (a := r11458.toInt) rfl (b := 60) (by decide) c11483
      refine lv_iload_n hx hb dX12_either_22 rfl (lv_at hl 0 rfl) ?_
      refine lv_bipush (v := 61) hx hb dX12_either_23 (by decide) ?_
      refine lv_icmp_eq (tgt := 34) hx hb dX12_either_25 (by decide) (fun c11533 => ?_) (fun c11533 => ?_)
      · skip
        have t11534 := cv_eq (a := r11458.toInt) rfl (b := 61) (by decide) c11533
        refine lv_aload_n hx hb dX12_either_34 rfl (lv_at hl 1 rfl) ?_
        refine lv_dup hx hb dX12_either_35 rfl ?_
        refine va_get (D := (dC, dI)) (ci := 12) (v := .int (v11449 39)) (C := RX12) (T := TX12) (N := 63) hx hb hwd inA_X12 hown hK hP 0 rfl rfl 39 (by decide) (hwd _ wk_1004) (fun _ h9 => h9) rfl dX12_either_36 ?_
        have t11535 : 0 ≤ (v11449 39).toInt ∧ (v11449 39).toInt ≤ 120 := hI.1 39 _ _ rfl
        refine lv_iconst (v := 1) hx hb dX12_either_39 (by decide) ?_
        refine lv_iadd hx hb dX12_either_40 ?_
        refine lv_topi (fun z11536 e11537 => ?_)
        try (have t11538 := tadd e11537 (a := (v11449 39).toInt) rfl (b := 1) (by decide) (by omega))
        refine va_put (D := (dC, dI)) (ci := 12) (v := .int z11536) (ty := .int) (C := RX12) (T := TX12) (N := 63) (fs := fsM_0 g v11449 rc) hx hb hwd inA_X12 tyX12 tyX12_ok nmX12 hown hK hP (DM hg) hS 0 rfl rfl 39 (by decide) (hwd _ wk_1004) (fun _ h9 => h9) rfl (by decide +kernel) rfl rfl (Nat.le_of_ble_eq_true rfl) dX12_either_41 (fun H locs hP _ hS => ?_)
        have hP := va_P_eq (pM_39 g c _ _ _ _) hP
        have hI := IM.put hI 39 z11536 rfl (by omega)
        refine lv_aload_n hx hb dX12_either_44 rfl (lv_at hl 1 rfl) ?_
        have t11539 : 0 ≤ (v 30).toInt ∧ (v 30).toInt ≤ 120 := by have h9 := hI.1 30 _ _ rfl; rw [show (va_up v11449 39 z11536) 30 = v 30 from hf11451 30 (by decide)] at h9; exact h9
        have t11540 : 0 ≤ (v 37).toInt ∧ (v 37).toInt ≤ 9 := by have h9 := hI.1 37 _ _ rfl; rw [show (va_up v11449 39 z11536) 37 = v 37 from hf11451 37 (by decide)] at h9; exact h9
        have t11541 : 0 ≤ (v11449 38).toInt ∧ (v11449 38).toInt ≤ 120 := hI.1 38 _ _ rfl
        have t11542 : 0 ≤ z11536.toInt ∧ z11536.toInt ≤ 120 := hI.1 39 _ _ rfl
        have t11543 : 0 ≤ (v11449 41).toInt ∧ (v11449 41).toInt ≤ 8 := hI.1 41 _ _ rfl
        refine va_callv (va_runV (As := []) (rest := []) ⟨hx, hb, hml, hown, hwd⟩ (c_X12_sum_8 l dC dI g c adK adV (va_up v11449 39 z11536) F11450 rc H.size  (d + 1) hg hI (by have h9 : (va_up v11449 39 z11536) 38 = v11449 38 := rfl; (try rw [h9]); clear h9; have h9 : (va_up v11449 39 z11536) 39 = z11536 := rfl; (try rw [h9]); clear h9; have h9 : (va_up v11449 39 z11536) 30 = v 30 := hf11451 30 (by decide); (try rw [h9]); clear h9; have h9 : (va_up v11449 39 z11536) 40 = v11449 40 := rfl; (try rw [h9]); clear h9; have h9 : (va_up v11449 39 z11536) 41 = v11449 41 := rfl; (try rw [h9]); clear h9; omega) (by have h9 : (va_up v11449 39 z11536) 37 = (v 37) := hf11451 37 (by decide); have h8 : (va_up v11449 39 z11536) 38 = (v11449 38) := rfl; (try rw [h9]); (try rw [h8]); exact hd (by omega))) (cwV 0 hwd (gV wk_1043 wk_1011 wk_1012 wk_1013 wk_5) rfl rfl rfl (by decide +kernel) ⟨Nat.le_of_ble_eq_true rfl, Nat.le_of_ble_eq_true rfl⟩) ⟨PM.blind, va_recv hK hP (ci := 12) (q0 := 0) rfl rfl, fun U hU hW => ⟨rfl, PM.at hK hE hP hS hU hW⟩⟩ rfl rfl hl.1 rfl (lv_room (Nat.le_of_ble_eq_true rfl)) dX12_either_45 ⟨Nat.le_of_ble_eq_true rfl, Nat.le_of_ble_eq_true rfl⟩) hS (fun q _ h => (freeM hS) q h) (freeM hS) (fun u t H1 locs ht hvm hw hB hz1 hk1 hS => ?_)
        unfold BM at hB
        rw [ht] at hB
        obtain ⟨v11545, F11546, rc9⟩ := u
        obtain ⟨hI, hrc, hf11547, hG11548, hw⟩ := hw
        dsimp only at hI hrc hB hf11547 hG11548 hw
        have hF := frCF (by decide) hG11548 hF
        rw [hrc] at hB
        have hP : va_P (dC, dI) classes (wM g c v11545 F11546 rc) H1 := hB
        have hw : (z11536.toInt ≤ (v11545 39).toInt ∧ (v11545 39).toInt ≤ ((va_up v11449 39 z11536) 30).toInt ∧ (v11449 38).toInt ≤ (v11545 38).toInt ∧ (v11545 38).toInt - (v11449 38).toInt ≤ (v11545 39).toInt - z11536.toInt ∧ (v11449 41).toInt ≤ (v11545 41).toInt ∧ ((v11545 40).toInt < 0 → (v11545 41).toInt = (v11449 41).toInt)) ∧ keepL ((va_up v11449 39 z11536) 37) (F11450 28) (F11450 29) (F11546 28) (F11546 29) ∧ ((v11545 40).toInt < 0 → dp (F11546 28) (F11546 29) (bI ((va_up v11449 39 z11536) 37)) (v11545 38).toInt.toNat = some ((d + 1) + 1)) := hw
        rw [show (va_up v11449 39 z11536) 30 = v 30 from hf11451 30 (by decide)] at hw
        rw [show (va_up v11449 39 z11536) 37 = v 37 from hf11451 37 (by decide)] at hw
        have hw_r11544 := hw
        have t11549 : 0 ≤ (v11545 38).toInt ∧ (v11545 38).toInt ≤ 120 := hI.1 38 _ _ rfl
        have t11550 : 0 ≤ (v11545 39).toInt ∧ (v11545 39).toInt ≤ 120 := hI.1 39 _ _ rfl
        have t11551 : 0 ≤ (v11545 41).toInt ∧ (v11545 41).toInt ≤ 8 := hI.1 41 _ _ rfl
        generalize H1 = H at hP hS ⊢
        have hk := hk.tr hw_r11544.2.1
        have hd := hw_r11544.2.2
        refine lv_aload_n hx hb dX12_either_48 rfl (lv_at hl 1 rfl) ?_
        refine lv_iload_n hx hb dX12_either_49 rfl (lv_at hl 0 rfl) ?_
        refine lv_iconst (v := 0) hx hb dX12_either_50 (by decide) ?_
        have t11552 : 0 ≤ (v 37).toInt ∧ (v 37).toInt ≤ 9 := by have h9 := hI.1 37 _ _ rfl; rw [show v11545 37 = v 37 from (hf11547 37 (by decide)).trans (hf11451 37 (by decide))] at h9; exact h9
        have t11553 : 0 ≤ (v11545 38).toInt ∧ (v11545 38).toInt ≤ 120 := hI.1 38 _ _ rfl
        refine va_callv (va_runV (As := [.int r11458, .int 0]) (rest := []) ⟨hx, hb, hml, hown, hwd⟩ (c_X12_lay l dC dI g c adK adV v11545 F11546 rc H.size r11458 0 hg hI (by have h9 : v11545 38 = v11545 38 := rfl; rw [h9]; omega)) (cwV 2 hwd (gV wk_1021 wk_1018 wk_1019 wk_1020 wk_5) rfl rfl rfl (by decide +kernel) ⟨Nat.le_of_ble_eq_true rfl, Nat.le_of_ble_eq_true rfl⟩) ⟨PM.blind, va_recv hK hP (ci := 12) (q0 := 0) rfl rfl, fun U hU hW => ⟨rfl, PM.at hK hE hP hS hU hW⟩⟩ rfl rfl hl.1 rfl (lv_room (Nat.le_of_ble_eq_true rfl)) dX12_either_51 ⟨Nat.le_of_ble_eq_true rfl, Nat.le_of_ble_eq_true rfl⟩) hS (fun q _ h => (freeM hS) q h) (freeM hS) (fun u t H1 locs ht hvm hw hB hz1 hk1 hS => ?_)
        unfold BM at hB
        rw [ht] at hB
        obtain ⟨v11555, F11556, rc9⟩ := u
        obtain ⟨hI, hrc, hf11557, hG11558, hw⟩ := hw
        dsimp only at hI hrc hB hf11557 hG11558 hw
        have hF := frCF (by decide) hG11558 hF
        rw [hrc] at hB
        have hP : va_P (dC, dI) classes (wM g c v11555 F11556 rc) H1 := hB
        have hw : (v11555 38).toInt = (v11545 38).toInt + 1 ∧ keepL (v11545 37) (F11546 28) (F11546 29) (F11556 28) (F11556 29) ∧ dp (F11556 28) (F11556 29) (bI (v11545 37)) ((v11545 38).toInt.toNat + 1) = dpS (dp (F11546 28) (F11546 29) (bI (v11545 37)) (v11545 38).toInt.toNat) r11458 (0 : Int32) := hw
        rw [show v11545 37 = v 37 from (hf11547 37 (by decide)).trans (hf11451 37 (by decide))] at hw
        have hw_r11554 := hw
        have t11559 : 0 ≤ (v11555 38).toInt ∧ (v11555 38).toInt ≤ 120 := hI.1 38 _ _ rfl
        have k11560 : (0 : Int32).toInt = 0 := by decide
        generalize H1 = H at hP hS ⊢
        have hk := hk.tr hw_r11554.2.1
        have hd : (v11545 40).toInt < 0 → dp (F11556 28) (F11556 29) (bI (v 37)) (v11555 38).toInt.toNat = some (((d + 1) + 1) - 1) := fun hf => (by have e9 : (v11555 38).toInt.toNat = (v11545 38).toInt.toNat + 1 := (by omega); rw [e9, hw_r11554.2.2, hd hf]; exact dpS_5 (by omega) (by omega) (by omega) (by omega) (by omega))
        refine lv_aload_n hx hb dX12_either_54 rfl (lv_at hl 1 rfl) ?_
        refine va_get (D := (dC, dI)) (ci := 12) (v := .int (v11555 40)) (C := RX12) (T := TX12) (N := 63) hx hb hwd inA_X12 hown hK hP 0 rfl rfl 40 (by decide) (hwd _ wk_1005) (fun _ h9 => h9) rfl dX12_either_55 ?_
        refine my_top (v := v11545 40) (hf11557 40 (by decide)) ?_
        refine lv_if_ge (tgt := 70) hx hb dX12_either_58 (by decide) (fun c11561 => ?_) (fun c11561 => ?_)
        · skip
          have t11562 := cv_le (a := 0) (by decide) (b := (v11545 40).toInt) rfl c11561
          have hP9 : va_P (dC, dI) classes (wM g c v11555 F11556 rc) H := hP
          exact W.vret hx hb hr (fun t ht hW => ⟨⟨(v11555, F11556, rc), rfl, ⟨hI, rfl, (frC (by decide) hf11557 (frC (by decide) hf11547 (frU (by decide) (frC (by decide) hf11451 (fun _ _ => rfl))))), hF, (by show ((v 39).toInt ≤ (v11555 39).toInt ∧ (v11555 39).toInt ≤ (v 30).toInt ∧ (v 38).toInt ≤ (v11555 38).toInt ∧ (v11555 38).toInt - (v 38).toInt ≤ (v11555 39).toInt - (v 39).toInt ∧ (v 41).toInt ≤ (v11555 41).toInt ∧ ((v11555 40).toInt < 0 → (v11555 41).toInt = (v 41).toInt)) ∧ keepL (v 37) (F 28) (F 29) (F11556 28) (F11556 29) ∧ ((v11555 40).toInt < 0 → dp (F11556 28) (F11556 29) (bI (v 37)) (v11555 38).toInt.toNat = some (d + 1)); rw [show v11555 39 = v11545 39 from hf11557 39 (by decide)]; rw [show v11555 41 = v11545 41 from hf11557 41 (by decide)]; rw [show v11555 40 = v11545 40 from hf11557 40 (by decide)]; exact ⟨by omega, hk, fun hf => (hd (by omega)).trans (congrArg some (by omega))⟩)⟩, (by show va_P _ _ _ t.heap; rw [ht]; exact hP9)⟩, hS.F ht⟩) hS.2.2 dX12_either_70
        · skip
          have t11563 := cv_nle (a := 0) (by decide) (b := (v11545 40).toInt) rfl c11561
          refine lv_aload_n hx hb dX12_either_61 rfl (lv_at hl 1 rfl) ?_
          have t11564 : 0 ≤ (v 30).toInt ∧ (v 30).toInt ≤ 120 := by have h9 := hI.1 30 _ _ rfl; rw [show v11555 30 = v 30 from (hf11557 30 (by decide)).trans ((hf11547 30 (by decide)).trans (hf11451 30 (by decide)))] at h9; exact h9
          have t11565 : 0 ≤ (v11545 39).toInt ∧ (v11545 39).toInt ≤ 120 := by have h9 := hI.1 39 _ _ rfl; rw [show v11555 39 = v11545 39 from hf11557 39 (by decide)] at h9; exact h9
          refine va_calli (va_runV (As := []) (rest := []) ⟨hx, hb, hml, hown, hwd⟩ (c_X12_look l dC dI g c adK adV v11555 F11556 rc H.size  hg hI ) (cwV 0 hwd (gV wk_1017 wk_1014 wk_1015 wk_1016 wk_5) rfl rfl rfl (by decide +kernel) ⟨Nat.le_of_ble_eq_true rfl, Nat.le_of_ble_eq_true rfl⟩) ⟨PM.blind, va_recv hK hP (ci := 12) (q0 := 0) rfl rfl, fun U hU hW => ⟨rfl, PM.at hK hE hP hS hU hW⟩⟩ rfl rfl hl.1 rfl (lv_room (Nat.le_of_ble_eq_true rfl)) dX12_either_62 ⟨Nat.le_of_ble_eq_true rfl, Nat.le_of_ble_eq_true rfl⟩) hS (fun q _ h => (freeM hS) q h) (freeM hS) (fun r11566 u t H1 locs ht hvm hw hB hz1 hk1 hS => ?_)
          unfold BM at hB
          rw [ht] at hB
          have hP : va_P (dC, dI) classes (wM g c v11555 F11556 rc) H1 := hB
          have hw : r11566.toInt = lkM (v11555 39) (v11555 30) (F11556 24) ∧ ((v11555 39).toInt < (v11555 30).toInt ∨ r11566.toInt = -1) := hw
          rw [show v11555 39 = v11545 39 from hf11557 39 (by decide)] at hw
          rw [show v11555 30 = v 30 from (hf11557 30 (by decide)).trans ((hf11547 30 (by decide)).trans (hf11451 30 (by decide)))] at hw
          rw [hF 24 (by decide)] at hw
          have hw_r11566 := hw
          generalize H1 = H at hP hS ⊢
          refine lv_bipush (v := 63) hx hb dX12_either_65 (by decide) ?_
          refine lv_icmp_eq (tgt := 71) hx hb dX12_either_67 (by decide) (fun c11567 => ?_) (fun c11567 => ?_)
          · skip
            have t11568 := cv_eq (a := r11566.toInt) rfl (b := 63) (by decide) c11567
            refine lv_aload_n hx hb dX12_either_71 rfl (lv_at hl 1 rfl) ?_
            have t11569 : 0 ≤ (v11545 39).toInt ∧ (v11545 39).toInt ≤ 120 := by have h9 := hI.1 39 _ _ rfl; rw [show v11555 39 = v11545 39 from hf11557 39 (by decide)] at h9; exact h9
            have t11570 : 0 ≤ (v11545 41).toInt ∧ (v11545 41).toInt ≤ 8 := by have h9 := hI.1 41 _ _ rfl; rw [show v11555 41 = v11545 41 from hf11557 41 (by decide)] at h9; exact h9
            refine va_calli (va_runV (As := []) (rest := []) ⟨hx, hb, hml, hown, hwd⟩ (c_X12_opens l dC dI g c adK adV v11555 F11556 rc H.size  hg hI (by have h9 : v11555 39 = v11545 39 := hf11557 39 (by decide); (try rw [h9]); clear h9; have h9 : v11555 30 = v 30 := (hf11557 30 (by decide)).trans ((hf11547 30 (by decide)).trans (hf11451 30 (by decide))); (try rw [h9]); clear h9; omega)) (cwV 0 hwd (gV wk_1025 wk_1022 wk_1023 wk_1024 wk_5) rfl rfl rfl (by decide +kernel) ⟨Nat.le_of_ble_eq_true rfl, Nat.le_of_ble_eq_true rfl⟩) ⟨PM.blind, va_recv hK hP (ci := 12) (q0 := 0) rfl rfl, fun U hU hW => ⟨rfl, PM.at hK hE hP hS hU hW⟩⟩ rfl rfl hl.1 rfl (lv_room (Nat.le_of_ble_eq_true rfl)) dX12_either_72 ⟨Nat.le_of_ble_eq_true rfl, Nat.le_of_ble_eq_true rfl⟩) hS (fun q _ h => (freeM hS) q h) (freeM hS) (fun r11571 u t H1 locs ht hvm hw hB hz1 hk1 hS => ?_)
            unfold BM at hB
            rw [ht] at hB
            obtain ⟨v11572, F11573, rc9⟩ := u
            obtain ⟨hI, hrc, hf11574, hG11575, hw⟩ := hw
            dsimp only at hI hrc hB hf11574 hG11575 hw
            have hF := frCF (by decide) hG11575 hF
            rw [hrc] at hB
            have hP : va_P (dC, dI) classes (wM g c v11572 F11573 rc) H1 := hB
            have hw : (r11571.toInt = 1 ∧ (v11555 41).toInt < 8 ∧ (v11572 41).toInt = (v11555 41).toInt + 1 ∧ (v11572 39).toInt = (v11555 39).toInt + 1 ∧ (v11572 40).toInt = (v11555 40).toInt) ∨ (r11571.toInt = 0 ∧ (v11555 41).toInt = 8 ∧ 0 ≤ (v11572 40).toInt ∧ (v11572 41).toInt = (v11555 41).toInt ∧ (v11572 39).toInt = (v11555 39).toInt) := hw
            rw [show v11555 41 = v11545 41 from hf11557 41 (by decide)] at hw
            rw [show v11555 39 = v11545 39 from hf11557 39 (by decide)] at hw
            rw [show v11555 40 = v11545 40 from hf11557 40 (by decide)] at hw
            have hw_r11571 := hw
            have t11576 : 0 ≤ (v11572 39).toInt ∧ (v11572 39).toInt ≤ 120 := hI.1 39 _ _ rfl
            have t11577 : 0 ≤ (v11572 41).toInt ∧ (v11572 41).toInt ≤ 8 := hI.1 41 _ _ rfl
            generalize H1 = H at hP hS ⊢
            have hk : keepL (v 37) (F 28) (F 29) (F11573 28) (F11573 29) := by rw [hG11575 28 (by decide), hG11575 29 (by decide)]; exact hk
            have hd : (v11572 40).toInt < 0 → dp (F11573 28) (F11573 29) (bI (v 37)) (v11555 38).toInt.toNat = some (((d + 1) + 1) - 1) := fun hf => (by rw [hG11575 28 (by decide), hG11575 29 (by decide)]; exact hd (by omega))
            refine lv_if_ne (tgt := 79) hx hb dX12_either_75 (by decide) (fun c11578 => ?_) (fun c11578 => ?_)
            · skip
              have t11579 := cv_ne (a := r11571.toInt) rfl (b := 0) (by decide) c11578
              exfalso
              omega
            · skip
              have t11580 := cv_eq (a := r11571.toInt) rfl (b := 0) (by decide) c11578
              have hP9 : va_P (dC, dI) classes (wM g c v11572 F11573 rc) H := hP
              exact W.vret hx hb hr (fun t ht hW => ⟨⟨(v11572, F11573, rc), rfl, ⟨hI, rfl, (frC (by decide) hf11574 (frC (by decide) hf11557 (frC (by decide) hf11547 (frU (by decide) (frC (by decide) hf11451 (fun _ _ => rfl)))))), hF, (by show ((v 39).toInt ≤ (v11572 39).toInt ∧ (v11572 39).toInt ≤ (v 30).toInt ∧ (v 38).toInt ≤ (v11572 38).toInt ∧ (v11572 38).toInt - (v 38).toInt ≤ (v11572 39).toInt - (v 39).toInt ∧ (v 41).toInt ≤ (v11572 41).toInt ∧ ((v11572 40).toInt < 0 → (v11572 41).toInt = (v 41).toInt)) ∧ keepL (v 37) (F 28) (F 29) (F11573 28) (F11573 29) ∧ ((v11572 40).toInt < 0 → dp (F11573 28) (F11573 29) (bI (v 37)) (v11572 38).toInt.toNat = some (d + 1)); rw [show v11572 38 = v11555 38 from hf11574 38 (by decide)]; exact ⟨by omega, hk, fun hf => (hd (by omega)).trans (congrArg some (by omega))⟩)⟩, (by show va_P _ _ _ t.heap; rw [ht]; exact hP9)⟩, hS.F ht⟩) hS.2.2 dX12_either_78
          · skip
            have t11581 := cv_ne (a := r11566.toInt) rfl (b := 63) (by decide) c11567
            have hP9 : va_P (dC, dI) classes (wM g c v11555 F11556 rc) H := hP
            exact W.vret hx hb hr (fun t ht hW => ⟨⟨(v11555, F11556, rc), rfl, ⟨hI, rfl, (frC (by decide) hf11557 (frC (by decide) hf11547 (frU (by decide) (frC (by decide) hf11451 (fun _ _ => rfl))))), hF, (by show ((v 39).toInt ≤ (v11555 39).toInt ∧ (v11555 39).toInt ≤ (v 30).toInt ∧ (v 38).toInt ≤ (v11555 38).toInt ∧ (v11555 38).toInt - (v 38).toInt ≤ (v11555 39).toInt - (v 39).toInt ∧ (v 41).toInt ≤ (v11555 41).toInt ∧ ((v11555 40).toInt < 0 → (v11555 41).toInt = (v 41).toInt)) ∧ keepL (v 37) (F 28) (F 29) (F11556 28) (F11556 29) ∧ ((v11555 40).toInt < 0 → dp (F11556 28) (F11556 29) (bI (v 37)) (v11555 38).toInt.toNat = some (d + 1)); rw [show v11555 39 = v11545 39 from hf11557 39 (by decide)]; rw [show v11555 41 = v11545 41 from hf11557 41 (by decide)]; rw [show v11555 40 = v11545 40 from hf11557 40 (by decide)]; exact ⟨by omega, hk, fun hf => (hd (by omega)).trans (congrArg some (by omega))⟩)⟩, (by show va_P _ _ _ t.heap; rw [ht]; exact hP9)⟩, hS.F ht⟩) hS.2.2 dX12_either_70
      · skip
        have t11582 := cv_ne (a := r11458.toInt) rfl (b := 61) (by decide) c11533
        refine lv_iload_n hx hb dX12_either_28 rfl (lv_at hl 0 rfl) ?_
        refine lv_bipush (v := 62) hx hb dX12_either_29 (by decide) ?_
        refine lv_icmp_ne (tgt := 54) hx hb dX12_either_31 (by decide) (fun c11583 => ?_) (fun c11583 => ?_)
        · skip
          have t11584 := cv_ne (a := r11458.toInt) rfl (b := 62) (by decide) c11583
          refine lv_aload_n hx hb dX12_either_54 rfl (lv_at hl 1 rfl) ?_
          refine va_get (D := (dC, dI)) (ci := 12) (v := .int (v11449 40)) (C := RX12) (T := TX12) (N := 63) hx hb hwd inA_X12 hown hK hP 0 rfl rfl 40 (by decide) (hwd _ wk_1005) (fun _ h9 => h9) rfl dX12_either_55 ?_
          refine lv_if_ge (tgt := 70) hx hb dX12_either_58 (by decide) (fun c11585 => ?_) (fun c11585 => ?_)
          · skip
            have t11586 := cv_le (a := 0) (by decide) (b := (v11449 40).toInt) rfl c11585
            have hP9 : va_P (dC, dI) classes (wM g c v11449 F11450 rc) H := hP
            exact W.vret hx hb hr (fun t ht hW => ⟨⟨(v11449, F11450, rc), rfl, ⟨hI, rfl, (frC (by decide) hf11451 (fun _ _ => rfl)), hF, (by show ((v 39).toInt ≤ (v11449 39).toInt ∧ (v11449 39).toInt ≤ (v 30).toInt ∧ (v 38).toInt ≤ (v11449 38).toInt ∧ (v11449 38).toInt - (v 38).toInt ≤ (v11449 39).toInt - (v 39).toInt ∧ (v 41).toInt ≤ (v11449 41).toInt ∧ ((v11449 40).toInt < 0 → (v11449 41).toInt = (v 41).toInt)) ∧ keepL (v 37) (F 28) (F 29) (F11450 28) (F11450 29) ∧ ((v11449 40).toInt < 0 → dp (F11450 28) (F11450 29) (bI (v 37)) (v11449 38).toInt.toNat = some (d + 1)); exact ⟨by omega, hk, fun hf => (hd (by omega)).trans (congrArg some (by omega))⟩)⟩, (by show va_P _ _ _ t.heap; rw [ht]; exact hP9)⟩, hS.F ht⟩) hS.2.2 dX12_either_70
          · skip
            have t11587 := cv_nle (a := 0) (by decide) (b := (v11449 40).toInt) rfl c11585
            refine lv_aload_n hx hb dX12_either_61 rfl (lv_at hl 1 rfl) ?_
            have t11588 : 0 ≤ (v 30).toInt ∧ (v 30).toInt ≤ 120 := by have h9 := hI.1 30 _ _ rfl; rw [show v11449 30 = v 30 from hf11451 30 (by decide)] at h9; exact h9
            have t11589 : 0 ≤ (v11449 39).toInt ∧ (v11449 39).toInt ≤ 120 := hI.1 39 _ _ rfl
            refine va_calli (va_runV (As := []) (rest := []) ⟨hx, hb, hml, hown, hwd⟩ (c_X12_look l dC dI g c adK adV v11449 F11450 rc H.size  hg hI ) (cwV 0 hwd (gV wk_1017 wk_1014 wk_1015 wk_1016 wk_5) rfl rfl rfl (by decide +kernel) ⟨Nat.le_of_ble_eq_true rfl, Nat.le_of_ble_eq_true rfl⟩) ⟨PM.blind, va_recv hK hP (ci := 12) (q0 := 0) rfl rfl, fun U hU hW => ⟨rfl, PM.at hK hE hP hS hU hW⟩⟩ rfl rfl hl.1 rfl (lv_room (Nat.le_of_ble_eq_true rfl)) dX12_either_62 ⟨Nat.le_of_ble_eq_true rfl, Nat.le_of_ble_eq_true rfl⟩) hS (fun q _ h => (freeM hS) q h) (freeM hS) (fun r11590 u t H1 locs ht hvm hw hB hz1 hk1 hS => ?_)
            unfold BM at hB
            rw [ht] at hB
            have hP : va_P (dC, dI) classes (wM g c v11449 F11450 rc) H1 := hB
            have hw : r11590.toInt = lkM (v11449 39) (v11449 30) (F11450 24) ∧ ((v11449 39).toInt < (v11449 30).toInt ∨ r11590.toInt = -1) := hw
            rw [show v11449 30 = v 30 from hf11451 30 (by decide)] at hw
            rw [hF 24 (by decide)] at hw
            have hw_r11590 := hw
            generalize H1 = H at hP hS ⊢
            refine lv_bipush (v := 63) hx hb dX12_either_65 (by decide) ?_
            refine lv_icmp_eq (tgt := 71) hx hb dX12_either_67 (by decide) (fun c11591 => ?_) (fun c11591 => ?_)
            · skip
              have t11592 := cv_eq (a := r11590.toInt) rfl (b := 63) (by decide) c11591
              refine lv_aload_n hx hb dX12_either_71 rfl (lv_at hl 1 rfl) ?_
              have t11593 : 0 ≤ (v11449 39).toInt ∧ (v11449 39).toInt ≤ 120 := hI.1 39 _ _ rfl
              have t11594 : 0 ≤ (v11449 41).toInt ∧ (v11449 41).toInt ≤ 8 := hI.1 41 _ _ rfl
              refine va_calli (va_runV (As := []) (rest := []) ⟨hx, hb, hml, hown, hwd⟩ (c_X12_opens l dC dI g c adK adV v11449 F11450 rc H.size  hg hI (by have h9 : v11449 39 = v11449 39 := rfl; (try rw [h9]); clear h9; have h9 : v11449 30 = v 30 := hf11451 30 (by decide); (try rw [h9]); clear h9; omega)) (cwV 0 hwd (gV wk_1025 wk_1022 wk_1023 wk_1024 wk_5) rfl rfl rfl (by decide +kernel) ⟨Nat.le_of_ble_eq_true rfl, Nat.le_of_ble_eq_true rfl⟩) ⟨PM.blind, va_recv hK hP (ci := 12) (q0 := 0) rfl rfl, fun U hU hW => ⟨rfl, PM.at hK hE hP hS hU hW⟩⟩ rfl rfl hl.1 rfl (lv_room (Nat.le_of_ble_eq_true rfl)) dX12_either_72 ⟨Nat.le_of_ble_eq_true rfl, Nat.le_of_ble_eq_true rfl⟩) hS (fun q _ h => (freeM hS) q h) (freeM hS) (fun r11595 u t H1 locs ht hvm hw hB hz1 hk1 hS => ?_)
              unfold BM at hB
              rw [ht] at hB
              obtain ⟨v11596, F11597, rc9⟩ := u
              obtain ⟨hI, hrc, hf11598, hG11599, hw⟩ := hw
              dsimp only at hI hrc hB hf11598 hG11599 hw
              have hF := frCF (by decide) hG11599 hF
              rw [hrc] at hB
              have hP : va_P (dC, dI) classes (wM g c v11596 F11597 rc) H1 := hB
              have hw : (r11595.toInt = 1 ∧ (v11449 41).toInt < 8 ∧ (v11596 41).toInt = (v11449 41).toInt + 1 ∧ (v11596 39).toInt = (v11449 39).toInt + 1 ∧ (v11596 40).toInt = (v11449 40).toInt) ∨ (r11595.toInt = 0 ∧ (v11449 41).toInt = 8 ∧ 0 ≤ (v11596 40).toInt ∧ (v11596 41).toInt = (v11449 41).toInt ∧ (v11596 39).toInt = (v11449 39).toInt) := hw
              have hw_r11595 := hw
              have t11600 : 0 ≤ (v11596 39).toInt ∧ (v11596 39).toInt ≤ 120 := hI.1 39 _ _ rfl
              have t11601 : 0 ≤ (v11596 41).toInt ∧ (v11596 41).toInt ≤ 8 := hI.1 41 _ _ rfl
              generalize H1 = H at hP hS ⊢
              have hk : keepL (v 37) (F 28) (F 29) (F11597 28) (F11597 29) := by rw [hG11599 28 (by decide), hG11599 29 (by decide)]; exact hk
              have hd : (v11596 40).toInt < 0 → dp (F11597 28) (F11597 29) (bI (v 37)) (v11449 38).toInt.toNat = some (d + 1) := fun hf => (by rw [hG11599 28 (by decide), hG11599 29 (by decide)]; exact hd (by omega))
              refine lv_if_ne (tgt := 79) hx hb dX12_either_75 (by decide) (fun c11602 => ?_) (fun c11602 => ?_)
              · skip
                have t11603 := cv_ne (a := r11595.toInt) rfl (b := 0) (by decide) c11602
                exfalso
                omega
              · skip
                have t11604 := cv_eq (a := r11595.toInt) rfl (b := 0) (by decide) c11602
                have hP9 : va_P (dC, dI) classes (wM g c v11596 F11597 rc) H := hP
                exact W.vret hx hb hr (fun t ht hW => ⟨⟨(v11596, F11597, rc), rfl, ⟨hI, rfl, (frC (by decide) hf11598 (frC (by decide) hf11451 (fun _ _ => rfl))), hF, (by show ((v 39).toInt ≤ (v11596 39).toInt ∧ (v11596 39).toInt ≤ (v 30).toInt ∧ (v 38).toInt ≤ (v11596 38).toInt ∧ (v11596 38).toInt - (v 38).toInt ≤ (v11596 39).toInt - (v 39).toInt ∧ (v 41).toInt ≤ (v11596 41).toInt ∧ ((v11596 40).toInt < 0 → (v11596 41).toInt = (v 41).toInt)) ∧ keepL (v 37) (F 28) (F 29) (F11597 28) (F11597 29) ∧ ((v11596 40).toInt < 0 → dp (F11597 28) (F11597 29) (bI (v 37)) (v11596 38).toInt.toNat = some (d + 1)); rw [show v11596 38 = v11449 38 from hf11598 38 (by decide)]; exact ⟨by omega, hk, fun hf => (hd (by omega)).trans (congrArg some (by omega))⟩)⟩, (by show va_P _ _ _ t.heap; rw [ht]; exact hP9)⟩, hS.F ht⟩) hS.2.2 dX12_either_78
            · skip
              have t11605 := cv_ne (a := r11590.toInt) rfl (b := 63) (by decide) c11591
              have hP9 : va_P (dC, dI) classes (wM g c v11449 F11450 rc) H := hP
              exact W.vret hx hb hr (fun t ht hW => ⟨⟨(v11449, F11450, rc), rfl, ⟨hI, rfl, (frC (by decide) hf11451 (fun _ _ => rfl)), hF, (by show ((v 39).toInt ≤ (v11449 39).toInt ∧ (v11449 39).toInt ≤ (v 30).toInt ∧ (v 38).toInt ≤ (v11449 38).toInt ∧ (v11449 38).toInt - (v 38).toInt ≤ (v11449 39).toInt - (v 39).toInt ∧ (v 41).toInt ≤ (v11449 41).toInt ∧ ((v11449 40).toInt < 0 → (v11449 41).toInt = (v 41).toInt)) ∧ keepL (v 37) (F 28) (F 29) (F11450 28) (F11450 29) ∧ ((v11449 40).toInt < 0 → dp (F11450 28) (F11450 29) (bI (v 37)) (v11449 38).toInt.toNat = some (d + 1)); exact ⟨by omega, hk, fun hf => (hd (by omega)).trans (congrArg some (by omega))⟩)⟩, (by show va_P _ _ _ t.heap; rw [ht]; exact hP9)⟩, hS.F ht⟩) hS.2.2 dX12_either_70
        · skip
          have t11606 := cv_eq (a := r11458.toInt) rfl (b := 62) (by decide) c11583
          refine lv_aload_n hx hb dX12_either_34 rfl (lv_at hl 1 rfl) ?_
          refine lv_dup hx hb dX12_either_35 rfl ?_
          refine va_get (D := (dC, dI)) (ci := 12) (v := .int (v11449 39)) (C := RX12) (T := TX12) (N := 63) hx hb hwd inA_X12 hown hK hP 0 rfl rfl 39 (by decide) (hwd _ wk_1004) (fun _ h9 => h9) rfl dX12_either_36 ?_
          have t11607 : 0 ≤ (v11449 39).toInt ∧ (v11449 39).toInt ≤ 120 := hI.1 39 _ _ rfl
          refine lv_iconst (v := 1) hx hb dX12_either_39 (by decide) ?_
          refine lv_iadd hx hb dX12_either_40 ?_
          refine lv_topi (fun z11608 e11609 => ?_)
          try (have t11610 := tadd e11609 (a := (v11449 39).toInt) rfl (b := 1) (by decide) (by omega))
          refine va_put (D := (dC, dI)) (ci := 12) (v := .int z11608) (ty := .int) (C := RX12) (T := TX12) (N := 63) (fs := fsM_0 g v11449 rc) hx hb hwd inA_X12 tyX12 tyX12_ok nmX12 hown hK hP (DM hg) hS 0 rfl rfl 39 (by decide) (hwd _ wk_1004) (fun _ h9 => h9) rfl (by decide +kernel) rfl rfl (Nat.le_of_ble_eq_true rfl) dX12_either_41 (fun H locs hP _ hS => ?_)
          have hP := va_P_eq (pM_39 g c _ _ _ _) hP
          have hI := IM.put hI 39 z11608 rfl (by omega)
          refine lv_aload_n hx hb dX12_either_44 rfl (lv_at hl 1 rfl) ?_
          have t11611 : 0 ≤ (v 30).toInt ∧ (v 30).toInt ≤ 120 := by have h9 := hI.1 30 _ _ rfl; rw [show (va_up v11449 39 z11608) 30 = v 30 from hf11451 30 (by decide)] at h9; exact h9
          have t11612 : 0 ≤ (v 37).toInt ∧ (v 37).toInt ≤ 9 := by have h9 := hI.1 37 _ _ rfl; rw [show (va_up v11449 39 z11608) 37 = v 37 from hf11451 37 (by decide)] at h9; exact h9
          have t11613 : 0 ≤ (v11449 38).toInt ∧ (v11449 38).toInt ≤ 120 := hI.1 38 _ _ rfl
          have t11614 : 0 ≤ z11608.toInt ∧ z11608.toInt ≤ 120 := hI.1 39 _ _ rfl
          have t11615 : 0 ≤ (v11449 41).toInt ∧ (v11449 41).toInt ≤ 8 := hI.1 41 _ _ rfl
          refine va_callv (va_runV (As := []) (rest := []) ⟨hx, hb, hml, hown, hwd⟩ (c_X12_sum_8 l dC dI g c adK adV (va_up v11449 39 z11608) F11450 rc H.size  (d + 1) hg hI (by have h9 : (va_up v11449 39 z11608) 38 = v11449 38 := rfl; (try rw [h9]); clear h9; have h9 : (va_up v11449 39 z11608) 39 = z11608 := rfl; (try rw [h9]); clear h9; have h9 : (va_up v11449 39 z11608) 30 = v 30 := hf11451 30 (by decide); (try rw [h9]); clear h9; have h9 : (va_up v11449 39 z11608) 40 = v11449 40 := rfl; (try rw [h9]); clear h9; have h9 : (va_up v11449 39 z11608) 41 = v11449 41 := rfl; (try rw [h9]); clear h9; omega) (by have h9 : (va_up v11449 39 z11608) 37 = (v 37) := hf11451 37 (by decide); have h8 : (va_up v11449 39 z11608) 38 = (v11449 38) := rfl; (try rw [h9]); (try rw [h8]); exact hd (by omega))) (cwV 0 hwd (gV wk_1043 wk_1011 wk_1012 wk_1013 wk_5) rfl rfl rfl (by decide +kernel) ⟨Nat.le_of_ble_eq_true rfl, Nat.le_of_ble_eq_true rfl⟩) ⟨PM.blind, va_recv hK hP (ci := 12) (q0 := 0) rfl rfl, fun U hU hW => ⟨rfl, PM.at hK hE hP hS hU hW⟩⟩ rfl rfl hl.1 rfl (lv_room (Nat.le_of_ble_eq_true rfl)) dX12_either_45 ⟨Nat.le_of_ble_eq_true rfl, Nat.le_of_ble_eq_true rfl⟩) hS (fun q _ h => (freeM hS) q h) (freeM hS) (fun u t H1 locs ht hvm hw hB hz1 hk1 hS => ?_)
          unfold BM at hB
          rw [ht] at hB
          obtain ⟨v11617, F11618, rc9⟩ := u
          obtain ⟨hI, hrc, hf11619, hG11620, hw⟩ := hw
          dsimp only at hI hrc hB hf11619 hG11620 hw
          have hF := frCF (by decide) hG11620 hF
          rw [hrc] at hB
          have hP : va_P (dC, dI) classes (wM g c v11617 F11618 rc) H1 := hB
          have hw : (z11608.toInt ≤ (v11617 39).toInt ∧ (v11617 39).toInt ≤ ((va_up v11449 39 z11608) 30).toInt ∧ (v11449 38).toInt ≤ (v11617 38).toInt ∧ (v11617 38).toInt - (v11449 38).toInt ≤ (v11617 39).toInt - z11608.toInt ∧ (v11449 41).toInt ≤ (v11617 41).toInt ∧ ((v11617 40).toInt < 0 → (v11617 41).toInt = (v11449 41).toInt)) ∧ keepL ((va_up v11449 39 z11608) 37) (F11450 28) (F11450 29) (F11618 28) (F11618 29) ∧ ((v11617 40).toInt < 0 → dp (F11618 28) (F11618 29) (bI ((va_up v11449 39 z11608) 37)) (v11617 38).toInt.toNat = some ((d + 1) + 1)) := hw
          rw [show (va_up v11449 39 z11608) 30 = v 30 from hf11451 30 (by decide)] at hw
          rw [show (va_up v11449 39 z11608) 37 = v 37 from hf11451 37 (by decide)] at hw
          have hw_r11616 := hw
          have t11621 : 0 ≤ (v11617 38).toInt ∧ (v11617 38).toInt ≤ 120 := hI.1 38 _ _ rfl
          have t11622 : 0 ≤ (v11617 39).toInt ∧ (v11617 39).toInt ≤ 120 := hI.1 39 _ _ rfl
          have t11623 : 0 ≤ (v11617 41).toInt ∧ (v11617 41).toInt ≤ 8 := hI.1 41 _ _ rfl
          generalize H1 = H at hP hS ⊢
          have hk := hk.tr hw_r11616.2.1
          have hd := hw_r11616.2.2
          refine lv_aload_n hx hb dX12_either_48 rfl (lv_at hl 1 rfl) ?_
          refine lv_iload_n hx hb dX12_either_49 rfl (lv_at hl 0 rfl) ?_
          refine lv_iconst (v := 0) hx hb dX12_either_50 (by decide) ?_
          have t11624 : 0 ≤ (v 37).toInt ∧ (v 37).toInt ≤ 9 := by have h9 := hI.1 37 _ _ rfl; rw [show v11617 37 = v 37 from (hf11619 37 (by decide)).trans (hf11451 37 (by decide))] at h9; exact h9
          have t11625 : 0 ≤ (v11617 38).toInt ∧ (v11617 38).toInt ≤ 120 := hI.1 38 _ _ rfl
          refine va_callv (va_runV (As := [.int r11458, .int 0]) (rest := []) ⟨hx, hb, hml, hown, hwd⟩ (c_X12_lay l dC dI g c adK adV v11617 F11618 rc H.size r11458 0 hg hI (by have h9 : v11617 38 = v11617 38 := rfl; rw [h9]; omega)) (cwV 2 hwd (gV wk_1021 wk_1018 wk_1019 wk_1020 wk_5) rfl rfl rfl (by decide +kernel) ⟨Nat.le_of_ble_eq_true rfl, Nat.le_of_ble_eq_true rfl⟩) ⟨PM.blind, va_recv hK hP (ci := 12) (q0 := 0) rfl rfl, fun U hU hW => ⟨rfl, PM.at hK hE hP hS hU hW⟩⟩ rfl rfl hl.1 rfl (lv_room (Nat.le_of_ble_eq_true rfl)) dX12_either_51 ⟨Nat.le_of_ble_eq_true rfl, Nat.le_of_ble_eq_true rfl⟩) hS (fun q _ h => (freeM hS) q h) (freeM hS) (fun u t H1 locs ht hvm hw hB hz1 hk1 hS => ?_)
          unfold BM at hB
          rw [ht] at hB
          obtain ⟨v11627, F11628, rc9⟩ := u
          obtain ⟨hI, hrc, hf11629, hG11630, hw⟩ := hw
          dsimp only at hI hrc hB hf11629 hG11630 hw
          have hF := frCF (by decide) hG11630 hF
          rw [hrc] at hB
          have hP : va_P (dC, dI) classes (wM g c v11627 F11628 rc) H1 := hB
          have hw : (v11627 38).toInt = (v11617 38).toInt + 1 ∧ keepL (v11617 37) (F11618 28) (F11618 29) (F11628 28) (F11628 29) ∧ dp (F11628 28) (F11628 29) (bI (v11617 37)) ((v11617 38).toInt.toNat + 1) = dpS (dp (F11618 28) (F11618 29) (bI (v11617 37)) (v11617 38).toInt.toNat) r11458 (0 : Int32) := hw
          rw [show v11617 37 = v 37 from (hf11619 37 (by decide)).trans (hf11451 37 (by decide))] at hw
          have hw_r11626 := hw
          have t11631 : 0 ≤ (v11627 38).toInt ∧ (v11627 38).toInt ≤ 120 := hI.1 38 _ _ rfl
          have k11632 : (0 : Int32).toInt = 0 := by decide
          generalize H1 = H at hP hS ⊢
          have hk := hk.tr hw_r11626.2.1
          have hd : (v11617 40).toInt < 0 → dp (F11628 28) (F11628 29) (bI (v 37)) (v11627 38).toInt.toNat = some (((d + 1) + 1) - 1) := fun hf => (by have e9 : (v11627 38).toInt.toNat = (v11617 38).toInt.toNat + 1 := (by omega); rw [e9, hw_r11626.2.2, hd hf]; exact dpS_5 (by omega) (by omega) (by omega) (by omega) (by omega))
          refine lv_aload_n hx hb dX12_either_54 rfl (lv_at hl 1 rfl) ?_
          refine va_get (D := (dC, dI)) (ci := 12) (v := .int (v11627 40)) (C := RX12) (T := TX12) (N := 63) hx hb hwd inA_X12 hown hK hP 0 rfl rfl 40 (by decide) (hwd _ wk_1005) (fun _ h9 => h9) rfl dX12_either_55 ?_
          refine my_top (v := v11617 40) (hf11629 40 (by decide)) ?_
          refine lv_if_ge (tgt := 70) hx hb dX12_either_58 (by decide) (fun c11633 => ?_) (fun c11633 => ?_)
          · skip
            have t11634 := cv_le (a := 0) (by decide) (b := (v11617 40).toInt) rfl c11633
            have hP9 : va_P (dC, dI) classes (wM g c v11627 F11628 rc) H := hP
            exact W.vret hx hb hr (fun t ht hW => ⟨⟨(v11627, F11628, rc), rfl, ⟨hI, rfl, (frC (by decide) hf11629 (frC (by decide) hf11619 (frU (by decide) (frC (by decide) hf11451 (fun _ _ => rfl))))), hF, (by show ((v 39).toInt ≤ (v11627 39).toInt ∧ (v11627 39).toInt ≤ (v 30).toInt ∧ (v 38).toInt ≤ (v11627 38).toInt ∧ (v11627 38).toInt - (v 38).toInt ≤ (v11627 39).toInt - (v 39).toInt ∧ (v 41).toInt ≤ (v11627 41).toInt ∧ ((v11627 40).toInt < 0 → (v11627 41).toInt = (v 41).toInt)) ∧ keepL (v 37) (F 28) (F 29) (F11628 28) (F11628 29) ∧ ((v11627 40).toInt < 0 → dp (F11628 28) (F11628 29) (bI (v 37)) (v11627 38).toInt.toNat = some (d + 1)); rw [show v11627 39 = v11617 39 from hf11629 39 (by decide)]; rw [show v11627 41 = v11617 41 from hf11629 41 (by decide)]; rw [show v11627 40 = v11617 40 from hf11629 40 (by decide)]; exact ⟨by omega, hk, fun hf => (hd (by omega)).trans (congrArg some (by omega))⟩)⟩, (by show va_P _ _ _ t.heap; rw [ht]; exact hP9)⟩, hS.F ht⟩) hS.2.2 dX12_either_70
          · skip
            have t11635 := cv_nle (a := 0) (by decide) (b := (v11617 40).toInt) rfl c11633
            refine lv_aload_n hx hb dX12_either_61 rfl (lv_at hl 1 rfl) ?_
            have t11636 : 0 ≤ (v 30).toInt ∧ (v 30).toInt ≤ 120 := by have h9 := hI.1 30 _ _ rfl; rw [show v11627 30 = v 30 from (hf11629 30 (by decide)).trans ((hf11619 30 (by decide)).trans (hf11451 30 (by decide)))] at h9; exact h9
            have t11637 : 0 ≤ (v11617 39).toInt ∧ (v11617 39).toInt ≤ 120 := by have h9 := hI.1 39 _ _ rfl; rw [show v11627 39 = v11617 39 from hf11629 39 (by decide)] at h9; exact h9
            refine va_calli (va_runV (As := []) (rest := []) ⟨hx, hb, hml, hown, hwd⟩ (c_X12_look l dC dI g c adK adV v11627 F11628 rc H.size  hg hI ) (cwV 0 hwd (gV wk_1017 wk_1014 wk_1015 wk_1016 wk_5) rfl rfl rfl (by decide +kernel) ⟨Nat.le_of_ble_eq_true rfl, Nat.le_of_ble_eq_true rfl⟩) ⟨PM.blind, va_recv hK hP (ci := 12) (q0 := 0) rfl rfl, fun U hU hW => ⟨rfl, PM.at hK hE hP hS hU hW⟩⟩ rfl rfl hl.1 rfl (lv_room (Nat.le_of_ble_eq_true rfl)) dX12_either_62 ⟨Nat.le_of_ble_eq_true rfl, Nat.le_of_ble_eq_true rfl⟩) hS (fun q _ h => (freeM hS) q h) (freeM hS) (fun r11638 u t H1 locs ht hvm hw hB hz1 hk1 hS => ?_)
            unfold BM at hB
            rw [ht] at hB
            have hP : va_P (dC, dI) classes (wM g c v11627 F11628 rc) H1 := hB
            have hw : r11638.toInt = lkM (v11627 39) (v11627 30) (F11628 24) ∧ ((v11627 39).toInt < (v11627 30).toInt ∨ r11638.toInt = -1) := hw
            rw [show v11627 39 = v11617 39 from hf11629 39 (by decide)] at hw
            rw [show v11627 30 = v 30 from (hf11629 30 (by decide)).trans ((hf11619 30 (by decide)).trans (hf11451 30 (by decide)))] at hw
            rw [hF 24 (by decide)] at hw
            have hw_r11638 := hw
            generalize H1 = H at hP hS ⊢
            refine lv_bipush (v := 63) hx hb dX12_either_65 (by decide) ?_
            refine lv_icmp_eq (tgt := 71) hx hb dX12_either_67 (by decide) (fun c11639 => ?_) (fun c11639 => ?_)
            · skip
              have t11640 := cv_eq (a := r11638.toInt) rfl (b := 63) (by decide) c11639
              refine lv_aload_n hx hb dX12_either_71 rfl (lv_at hl 1 rfl) ?_
              have t11641 : 0 ≤ (v11617 39).toInt ∧ (v11617 39).toInt ≤ 120 := by have h9 := hI.1 39 _ _ rfl; rw [show v11627 39 = v11617 39 from hf11629 39 (by decide)] at h9; exact h9
              have t11642 : 0 ≤ (v11617 41).toInt ∧ (v11617 41).toInt ≤ 8 := by have h9 := hI.1 41 _ _ rfl; rw [show v11627 41 = v11617 41 from hf11629 41 (by decide)] at h9; exact h9
              refine va_calli (va_runV (As := []) (rest := []) ⟨hx, hb, hml, hown, hwd⟩ (c_X12_opens l dC dI g c adK adV v11627 F11628 rc H.size  hg hI (by have h9 : v11627 39 = v11617 39 := hf11629 39 (by decide); (try rw [h9]); clear h9; have h9 : v11627 30 = v 30 := (hf11629 30 (by decide)).trans ((hf11619 30 (by decide)).trans (hf11451 30 (by decide))); (try rw [h9]); clear h9; omega)) (cwV 0 hwd (gV wk_1025 wk_1022 wk_1023 wk_1024 wk_5) rfl rfl rfl (by decide +kernel) ⟨Nat.le_of_ble_eq_true rfl, Nat.le_of_ble_eq_true rfl⟩) ⟨PM.blind, va_recv hK hP (ci := 12) (q0 := 0) rfl rfl, fun U hU hW => ⟨rfl, PM.at hK hE hP hS hU hW⟩⟩ rfl rfl hl.1 rfl (lv_room (Nat.le_of_ble_eq_true rfl)) dX12_either_72 ⟨Nat.le_of_ble_eq_true rfl, Nat.le_of_ble_eq_true rfl⟩) hS (fun q _ h => (freeM hS) q h) (freeM hS) (fun r11643 u t H1 locs ht hvm hw hB hz1 hk1 hS => ?_)
              unfold BM at hB
              rw [ht] at hB
              obtain ⟨v11644, F11645, rc9⟩ := u
              obtain ⟨hI, hrc, hf11646, hG11647, hw⟩ := hw
              dsimp only at hI hrc hB hf11646 hG11647 hw
              have hF := frCF (by decide) hG11647 hF
              rw [hrc] at hB
              have hP : va_P (dC, dI) classes (wM g c v11644 F11645 rc) H1 := hB
              have hw : (r11643.toInt = 1 ∧ (v11627 41).toInt < 8 ∧ (v11644 41).toInt = (v11627 41).toInt + 1 ∧ (v11644 39).toInt = (v11627 39).toInt + 1 ∧ (v11644 40).toInt = (v11627 40).toInt) ∨ (r11643.toInt = 0 ∧ (v11627 41).toInt = 8 ∧ 0 ≤ (v11644 40).toInt ∧ (v11644 41).toInt = (v11627 41).toInt ∧ (v11644 39).toInt = (v11627 39).toInt) := hw
              rw [show v11627 41 = v11617 41 from hf11629 41 (by decide)] at hw
              rw [show v11627 39 = v11617 39 from hf11629 39 (by decide)] at hw
              rw [show v11627 40 = v11617 40 from hf11629 40 (by decide)] at hw
              have hw_r11643 := hw
              have t11648 : 0 ≤ (v11644 39).toInt ∧ (v11644 39).toInt ≤ 120 := hI.1 39 _ _ rfl
              have t11649 : 0 ≤ (v11644 41).toInt ∧ (v11644 41).toInt ≤ 8 := hI.1 41 _ _ rfl
              generalize H1 = H at hP hS ⊢
              have hk : keepL (v 37) (F 28) (F 29) (F11645 28) (F11645 29) := by rw [hG11647 28 (by decide), hG11647 29 (by decide)]; exact hk
              have hd : (v11644 40).toInt < 0 → dp (F11645 28) (F11645 29) (bI (v 37)) (v11627 38).toInt.toNat = some (((d + 1) + 1) - 1) := fun hf => (by rw [hG11647 28 (by decide), hG11647 29 (by decide)]; exact hd (by omega))
              refine lv_if_ne (tgt := 79) hx hb dX12_either_75 (by decide) (fun c11650 => ?_) (fun c11650 => ?_)
              · skip
                have t11651 := cv_ne (a := r11643.toInt) rfl (b := 0) (by decide) c11650
                exfalso
                omega
              · skip
                have t11652 := cv_eq (a := r11643.toInt) rfl (b := 0) (by decide) c11650
                have hP9 : va_P (dC, dI) classes (wM g c v11644 F11645 rc) H := hP
                exact W.vret hx hb hr (fun t ht hW => ⟨⟨(v11644, F11645, rc), rfl, ⟨hI, rfl, (frC (by decide) hf11646 (frC (by decide) hf11629 (frC (by decide) hf11619 (frU (by decide) (frC (by decide) hf11451 (fun _ _ => rfl)))))), hF, (by show ((v 39).toInt ≤ (v11644 39).toInt ∧ (v11644 39).toInt ≤ (v 30).toInt ∧ (v 38).toInt ≤ (v11644 38).toInt ∧ (v11644 38).toInt - (v 38).toInt ≤ (v11644 39).toInt - (v 39).toInt ∧ (v 41).toInt ≤ (v11644 41).toInt ∧ ((v11644 40).toInt < 0 → (v11644 41).toInt = (v 41).toInt)) ∧ keepL (v 37) (F 28) (F 29) (F11645 28) (F11645 29) ∧ ((v11644 40).toInt < 0 → dp (F11645 28) (F11645 29) (bI (v 37)) (v11644 38).toInt.toNat = some (d + 1)); rw [show v11644 38 = v11627 38 from hf11646 38 (by decide)]; exact ⟨by omega, hk, fun hf => (hd (by omega)).trans (congrArg some (by omega))⟩)⟩, (by show va_P _ _ _ t.heap; rw [ht]; exact hP9)⟩, hS.F ht⟩) hS.2.2 dX12_either_78
            · skip
              have t11653 := cv_ne (a := r11638.toInt) rfl (b := 63) (by decide) c11639
              have hP9 : va_P (dC, dI) classes (wM g c v11627 F11628 rc) H := hP
              exact W.vret hx hb hr (fun t ht hW => ⟨⟨(v11627, F11628, rc), rfl, ⟨hI, rfl, (frC (by decide) hf11629 (frC (by decide) hf11619 (frU (by decide) (frC (by decide) hf11451 (fun _ _ => rfl))))), hF, (by show ((v 39).toInt ≤ (v11627 39).toInt ∧ (v11627 39).toInt ≤ (v 30).toInt ∧ (v 38).toInt ≤ (v11627 38).toInt ∧ (v11627 38).toInt - (v 38).toInt ≤ (v11627 39).toInt - (v 39).toInt ∧ (v 41).toInt ≤ (v11627 41).toInt ∧ ((v11627 40).toInt < 0 → (v11627 41).toInt = (v 41).toInt)) ∧ keepL (v 37) (F 28) (F 29) (F11628 28) (F11628 29) ∧ ((v11627 40).toInt < 0 → dp (F11628 28) (F11628 29) (bI (v 37)) (v11627 38).toInt.toNat = some (d + 1)); rw [show v11627 39 = v11617 39 from hf11629 39 (by decide)]; rw [show v11627 41 = v11617 41 from hf11629 41 (by decide)]; rw [show v11627 40 = v11617 40 from hf11629 40 (by decide)]; exact ⟨by omega, hk, fun hf => (hd (by omega)).trans (congrArg some (by omega))⟩)⟩, (by show va_P _ _ _ t.heap; rw [ht]; exact hP9)⟩, hS.F ht⟩) hS.2.2 dX12_either_70
