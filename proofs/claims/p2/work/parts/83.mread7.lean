set_option maxHeartbeats 8000000 in
set_option maxRecDepth 100000 in
theorem c_X12_operand_7 (l : Launch) (dC : Nat → ClassId) (dI : Nat → Nat → Nat) (g : Nat → Nat) (c : Nat → ClassId) (adK adV : Nat → Nat) (v : Nat → Int32) (F : Nat → Nat → Int32) (rc sz : Nat) (d : Nat) (hg : injM g) (hI : IM v F) (hq : (v 38).toInt ≤ (v 39).toInt ∧ (v 39).toInt ≤ (v 30).toInt ∧ (v 40).toInt < 0 ∧ (v 41).toInt = 7) (hdp : dp (F 28) (F 29) (bI (v 37)) (v 38).toInt.toNat = some d) : Met l yX12_operand (Cond.code yX12_operand cX12_operand 2 none :: wA) ({ frames := 7, cells := 0, slots := 0, locals := 280 }) (va_Pc [.ref (g 0)] (PM dC dI g c adK adV v F rc sz)) (va_Qv (fun (u : StM) => IM u.1 u.2.1 ∧ u.2.2 = rc ∧ (∀ k, k ∉ ([38, 39, 40, 41, 42] : List Nat) → u.1 k = v k) ∧ (∀ k, k ∉ ([28, 29] : List Nat) → u.2.1 k = F k) ∧ (((v 39).toInt ≤ (u.1 39).toInt ∧ (u.1 39).toInt ≤ (v 30).toInt ∧ (v 38).toInt ≤ (u.1 38).toInt ∧ (u.1 38).toInt - (v 38).toInt ≤ (u.1 39).toInt - (v 39).toInt ∧ (v 41).toInt ≤ (u.1 41).toInt ∧ ((u.1 40).toInt < 0 → (u.1 41).toInt = (v 41).toInt)) ∧ keepL (v 37) (F 28) (F 29) (u.2.1 28) (u.2.1 29) ∧ ((u.1 40).toInt < 0 → dp (u.2.1 28) (u.2.1 29) (bI (v 37)) (u.1 38).toInt.toNat = some (d + 1)))) (BM dC dI g c) (AM g sz)) 0 0 (AM g sz) := by
  refine Met.ofW (cc := cX12_operand) (maxL := 2) (ret := none) (by decide) rfl ?_
  intro p e s m args below meth c0 s₁ B hml hv
  obtain ⟨rfl, hsz, hP, hK, hE⟩ := hv
  have hx := B.exec
  have hb := B.bytes
  have hr := B.returns
  have hts := atoms_spec (ws := Cond.code yX12_operand cX12_operand 2 none :: wA) B.pre
  have hwd : ∀ w ∈ wA, w.before _ s = true := fun w h => hts w (List.mem_cons_of_mem _ h)
  have hown : s.vm.findClass RX12 = some m.cls := findClass_of_methodNamed B.named
  have hlocks := B.notSynchronized
  subst hsz
  have hl := lv_entry ([.ref (g 0)]) (n := 2) (Nat.le_of_ble_eq_true rfl)
  rw [lg_entry_eq]
  generalize (lg_sl ([.ref (g 0)]) ++ List.replicate (2 - (lg_sl ([.ref (g 0)])).length) Slot.unset).toArray = ls at hl ⊢
  have hl : lv_has ls 2 [(0, .ref (g 0))] := hl
  obtain ⟨H, eH⟩ : ∃ z, z = s.heap := ⟨_, rfl⟩
  have hP : va_P (dC, dI) classes (wM g c v F rc) H := by rw [eH]; exact hP
  have hS : va_S (AM g s.heap.size) s.heap H [] := by rw [eH]; exact va_S.rf
  refine my_heap eH ?_
  have hF : ∀ k, k ∉ ([28, 29] : List Nat) → F k = F k := fun _ _ => rfl
  have hb30 : 0 ≤ (v 30).toInt ∧ (v 30).toInt ≤ 120 := hI.1 30 _ _ rfl
  have hb37 : 0 ≤ (v 37).toInt ∧ (v 37).toInt ≤ 9 := hI.1 37 _ _ rfl
  have hb38 : 0 ≤ (v 38).toInt ∧ (v 38).toInt ≤ 120 := hI.1 38 _ _ rfl
  have hb39 : 0 ≤ (v 39).toInt ∧ (v 39).toInt ≤ 120 := hI.1 39 _ _ rfl
  have hb41 : 0 ≤ (v 41).toInt ∧ (v 41).toInt ≤ 8 := hI.1 41 _ _ rfl
  have hk : keepL (v 37) (F 28) (F 29) (F 28) (F 29) := keepL.rf
  have hd : (v 40).toInt < 0 → dp (F 28) (F 29) (bI (v 37)) (v 38).toInt.toNat = some d := fun _ => hdp
  refine lv_aload_n hx hb dX12_operand_0 rfl (lv_at hl 0 rfl) ?_
  have t11787 : 0 ≤ (v 30).toInt ∧ (v 30).toInt ≤ 120 := hI.1 30 _ _ rfl
  have t11788 : 0 ≤ (v 39).toInt ∧ (v 39).toInt ≤ 120 := hI.1 39 _ _ rfl
  refine va_calli (va_runV (As := []) (rest := []) ⟨hx, hb, hml, hown, hwd⟩ (c_X12_look l dC dI g c adK adV v F rc H.size  hg hI ) (cwV 0 hwd (gV wk_1017 wk_1014 wk_1015 wk_1016 wk_5) rfl rfl rfl (by decide +kernel) ⟨Nat.le_of_ble_eq_true rfl, Nat.le_of_ble_eq_true rfl⟩) ⟨PM.blind, va_recv hK hP (ci := 12) (q0 := 0) rfl rfl, fun U hU hW => ⟨rfl, PM.at hK hE hP hS hU hW⟩⟩ rfl rfl hl.1 rfl (lv_room (Nat.le_of_ble_eq_true rfl)) dX12_operand_1 ⟨Nat.le_of_ble_eq_true rfl, Nat.le_of_ble_eq_true rfl⟩) hS (fun q _ h => (freeM hS) q h) (freeM hS) (fun r11789 u t H1 locs ht hvm hw hB hz1 hk1 hS => ?_)
  unfold BM at hB
  rw [ht] at hB
  have hP : va_P (dC, dI) classes (wM g c v F rc) H1 := hB
  have hw : r11789.toInt = lkM (v 39) (v 30) (F 24) ∧ ((v 39).toInt < (v 30).toInt ∨ r11789.toInt = -1) := hw
  have hw_r11789 := hw
  generalize H1 = H at hP hS ⊢
  refine lv_istore_n (lv' := [(1, .int r11789), (0, .ref (g 0))]) hx hb dX12_operand_4 rfl hl (by decide) rfl (fun ls hl => ?_)
  refine lv_iload_n hx hb dX12_operand_5 rfl (lv_at hl 0 rfl) ?_
  refine va_calli (va_runS (As := [.int r11789]) (rest := []) ⟨hx, hb, hml, hown, hwd⟩ (c_X12_nameOf l dC dI g c adK adV v F rc H.size r11789 hg hI ) (va_cwS 1 hwd (gT wk_1034 wk_1032 wk_1033 wk_5) rfl rfl rfl (by decide +kernel) ⟨Nat.le_of_ble_eq_true rfl, Nat.le_of_ble_eq_true rfl⟩) ⟨PM.blind, fun U hU hW => ⟨rfl, PM.at hK hE hP hS hU hW⟩⟩ rfl rfl hl.1 rfl (lv_room (Nat.le_of_ble_eq_true rfl)) dX12_operand_6 ⟨Nat.le_of_ble_eq_true rfl, Nat.le_of_ble_eq_true rfl⟩) hS (fun q _ h => (freeM hS) q h) (freeM hS) (fun r11790 u t H1 locs ht hvm hw hB hz1 hk1 hS => ?_)
  unfold BM at hB
  rw [ht] at hB
  have hP : va_P (dC, dI) classes (wM g c v F rc) H1 := hB
  have hw : r11790.toInt = nmM r11789 ∧ (-1 ≤ r11790.toInt ∧ r11790.toInt ≤ 5) := hw
  have hw_r11790 := hw
  generalize H1 = H at hP hS ⊢
  have np_r11790 := nmM_pos r11789
  refine lv_if_lt (tgt := 34) hx hb dX12_operand_9 (by decide) (fun c11791 => ?_) (fun c11791 => ?_)
  · skip
    have t11792 := cv_lt (a := r11790.toInt) rfl (b := 0) (by decide) c11791
    refine lv_iload_n hx hb dX12_operand_34 rfl (lv_at hl 0 rfl) ?_
    refine lv_bipush (v := 45) hx hb dX12_operand_35 (by decide) ?_
    refine lv_icmp_ne (tgt := 71) hx hb dX12_operand_37 (by decide) (fun c11793 => ?_) (fun c11793 => ?_)
    · skip
      have t11794 := cv_ne (a := r11789.toInt) rfl (b := 45) (by decide) c11793
      refine lv_iload_n hx hb dX12_operand_71 rfl (lv_at hl 0 rfl) ?_
      refine lv_bipush (v := 40) hx hb dX12_operand_72 (by decide) ?_
      refine lv_icmp_ne (tgt := 134) hx hb dX12_operand_74 (by decide) (fun c11795 => ?_) (fun c11795 => ?_)
      · skip
        have t11796 := cv_ne (a := r11789.toInt) rfl (b := 40) (by decide) c11795
        refine lv_aload_n hx hb dX12_operand_134 rfl (lv_at hl 1 rfl) ?_
        have t11797 : 0 ≤ (v 30).toInt ∧ (v 30).toInt ≤ 120 := hI.1 30 _ _ rfl
        have t11798 : 0 ≤ (v 39).toInt ∧ (v 39).toInt ≤ 120 := hI.1 39 _ _ rfl
        refine va_calli (va_runV (As := []) (rest := []) ⟨hx, hb, hml, hown, hwd⟩ (c_X12_digits l dC dI g c adK adV v F rc H.size  hg hI (by have h9 : v 39 = v 39 := rfl; (try rw [h9]); clear h9; have h9 : v 30 = v 30 := rfl; (try rw [h9]); clear h9; omega)) (cwV 0 hwd (gV wk_1041 wk_1038 wk_1039 wk_1040 wk_5) rfl rfl rfl (by decide +kernel) ⟨Nat.le_of_ble_eq_true rfl, Nat.le_of_ble_eq_true rfl⟩) ⟨PM.blind, va_recv hK hP (ci := 12) (q0 := 0) rfl rfl, fun U hU hW => ⟨rfl, PM.at hK hE hP hS hU hW⟩⟩ rfl rfl hl.1 rfl (lv_room (Nat.le_of_ble_eq_true rfl)) dX12_operand_135 ⟨Nat.le_of_ble_eq_true rfl, Nat.le_of_ble_eq_true rfl⟩) hS (fun q _ h => (freeM hS) q h) (freeM hS) (fun r11799 u t H1 locs ht hvm hw hB hz1 hk1 hS => ?_)
        unfold BM at hB
        rw [ht] at hB
        obtain ⟨v11800, F11801, rc9⟩ := u
        obtain ⟨hI, hrc, hf11802, hG11803, hw⟩ := hw
        dsimp only at hI hrc hB hf11802 hG11803 hw
        have hF := frCF (by decide) hG11803 hF
        rw [hrc] at hB
        have hP : va_P (dC, dI) classes (wM g c v11800 F11801 rc) H1 := hB
        have hw : (r11799.toInt = 1 ∧ (v 39).toInt < (v11800 39).toInt ∧ (v11800 39).toInt ≤ (v 30).toInt ∧ (v11800 40).toInt = (v 40).toInt) ∨ (r11799.toInt = 0 ∧ 0 ≤ (v11800 40).toInt ∧ (v 39).toInt ≤ (v11800 39).toInt ∧ (v11800 39).toInt ≤ (v 30).toInt) := hw
        have hw_r11799 := hw
        have t11804 : 0 ≤ (v11800 39).toInt ∧ (v11800 39).toInt ≤ 120 := hI.1 39 _ _ rfl
        generalize H1 = H at hP hS ⊢
        have hk : keepL (v 37) (F 28) (F 29) (F11801 28) (F11801 29) := by rw [hG11803 28 (by decide), hG11803 29 (by decide)]; exact hk
        have hd : (v11800 40).toInt < 0 → dp (F11801 28) (F11801 29) (bI (v 37)) (v 38).toInt.toNat = some d := fun hf => (by rw [hG11803 28 (by decide), hG11803 29 (by decide)]; exact hd (by omega))
        refine lv_if_eq (tgt := 150) hx hb dX12_operand_138 (by decide) (fun c11805 => ?_) (fun c11805 => ?_)
        · skip
          have t11806 := cv_eq (a := r11799.toInt) rfl (b := 0) (by decide) c11805
          have hP9 : va_P (dC, dI) classes (wM g c v11800 F11801 rc) H := hP
          exact W.vret hx hb hr (fun t ht hW => ⟨⟨(v11800, F11801, rc), rfl, ⟨hI, rfl, (frC (by decide) hf11802 (fun _ _ => rfl)), hF, (by show ((v 39).toInt ≤ (v11800 39).toInt ∧ (v11800 39).toInt ≤ (v 30).toInt ∧ (v 38).toInt ≤ (v11800 38).toInt ∧ (v11800 38).toInt - (v 38).toInt ≤ (v11800 39).toInt - (v 39).toInt ∧ (v 41).toInt ≤ (v11800 41).toInt ∧ ((v11800 40).toInt < 0 → (v11800 41).toInt = (v 41).toInt)) ∧ keepL (v 37) (F 28) (F 29) (F11801 28) (F11801 29) ∧ ((v11800 40).toInt < 0 → dp (F11801 28) (F11801 29) (bI (v 37)) (v11800 38).toInt.toNat = some (d + 1)); rw [show v11800 38 = v 38 from hf11802 38 (by decide)]; rw [show v11800 41 = v 41 from hf11802 41 (by decide)]; exact ⟨by omega, hk, fun hf => (hd (by omega)).trans (congrArg some (by omega))⟩)⟩, (by show va_P _ _ _ t.heap; rw [ht]; exact hP9)⟩, hS.F ht⟩) hS.2.2 dX12_operand_150
        · skip
          have t11807 := cv_ne (a := r11799.toInt) rfl (b := 0) (by decide) c11805
          refine lv_aload_n hx hb dX12_operand_141 rfl (lv_at hl 1 rfl) ?_
          refine lv_iconst (v := 1) hx hb dX12_operand_142 (by decide) ?_
          refine lv_aload_n hx hb dX12_operand_143 rfl (lv_at hl 1 rfl) ?_
          refine va_get (D := (dC, dI)) (ci := 12) (v := .int (v11800 42)) (C := RX12) (T := TX12) (N := 63) hx hb hwd inA_X12 hown hK hP 0 rfl rfl 42 (by decide) (hwd _ wk_1031) (fun _ h9 => h9) rfl dX12_operand_144 ?_
          have t11808 : 0 ≤ (v 37).toInt ∧ (v 37).toInt ≤ 9 := by have h9 := hI.1 37 _ _ rfl; rw [show v11800 37 = v 37 from hf11802 37 (by decide)] at h9; exact h9
          have t11809 : 0 ≤ (v 38).toInt ∧ (v 38).toInt ≤ 120 := by have h9 := hI.1 38 _ _ rfl; rw [show v11800 38 = v 38 from hf11802 38 (by decide)] at h9; exact h9
          refine va_callv (va_runV (As := [.int 1, .int (v11800 42)]) (rest := []) ⟨hx, hb, hml, hown, hwd⟩ (c_X12_lay l dC dI g c adK adV v11800 F11801 rc H.size 1 (v11800 42) hg hI (by have h9 : v11800 38 = v 38 := hf11802 38 (by decide); rw [h9]; omega)) (cwV 2 hwd (gV wk_1021 wk_1018 wk_1019 wk_1020 wk_5) rfl rfl rfl (by decide +kernel) ⟨Nat.le_of_ble_eq_true rfl, Nat.le_of_ble_eq_true rfl⟩) ⟨PM.blind, va_recv hK hP (ci := 12) (q0 := 0) rfl rfl, fun U hU hW => ⟨rfl, PM.at hK hE hP hS hU hW⟩⟩ rfl rfl hl.1 rfl (lv_room (Nat.le_of_ble_eq_true rfl)) dX12_operand_147 ⟨Nat.le_of_ble_eq_true rfl, Nat.le_of_ble_eq_true rfl⟩) hS (fun q _ h => (freeM hS) q h) (freeM hS) (fun u t H1 locs ht hvm hw hB hz1 hk1 hS => ?_)
          unfold BM at hB
          rw [ht] at hB
          obtain ⟨v11811, F11812, rc9⟩ := u
          obtain ⟨hI, hrc, hf11813, hG11814, hw⟩ := hw
          dsimp only at hI hrc hB hf11813 hG11814 hw
          have hF := frCF (by decide) hG11814 hF
          rw [hrc] at hB
          have hP : va_P (dC, dI) classes (wM g c v11811 F11812 rc) H1 := hB
          have hw : (v11811 38).toInt = (v11800 38).toInt + 1 ∧ keepL (v11800 37) (F11801 28) (F11801 29) (F11812 28) (F11812 29) ∧ dp (F11812 28) (F11812 29) (bI (v11800 37)) ((v11800 38).toInt.toNat + 1) = dpS (dp (F11801 28) (F11801 29) (bI (v11800 37)) (v11800 38).toInt.toNat) (1 : Int32) (v11800 42) := hw
          rw [show v11800 38 = v 38 from hf11802 38 (by decide)] at hw
          rw [show v11800 37 = v 37 from hf11802 37 (by decide)] at hw
          have hw_r11810 := hw
          have t11815 : 0 ≤ (v11811 38).toInt ∧ (v11811 38).toInt ≤ 120 := hI.1 38 _ _ rfl
          have k11816 : (1 : Int32).toInt = 1 := by decide
          generalize H1 = H at hP hS ⊢
          have hk := hk.tr hw_r11810.2.1
          have hd : (v11800 40).toInt < 0 → dp (F11812 28) (F11812 29) (bI (v 37)) (v11811 38).toInt.toNat = some (d + 1) := fun hf => (by have e9 : (v11811 38).toInt.toNat = (v 38).toInt.toNat + 1 := (by omega); rw [e9, hw_r11810.2.2, hd hf]; exact dpS_1 (by decide))
          have hP9 : va_P (dC, dI) classes (wM g c v11811 F11812 rc) H := hP
          exact W.vret hx hb hr (fun t ht hW => ⟨⟨(v11811, F11812, rc), rfl, ⟨hI, rfl, (frC (by decide) hf11813 (frC (by decide) hf11802 (fun _ _ => rfl))), hF, (by show ((v 39).toInt ≤ (v11811 39).toInt ∧ (v11811 39).toInt ≤ (v 30).toInt ∧ (v 38).toInt ≤ (v11811 38).toInt ∧ (v11811 38).toInt - (v 38).toInt ≤ (v11811 39).toInt - (v 39).toInt ∧ (v 41).toInt ≤ (v11811 41).toInt ∧ ((v11811 40).toInt < 0 → (v11811 41).toInt = (v 41).toInt)) ∧ keepL (v 37) (F 28) (F 29) (F11812 28) (F11812 29) ∧ ((v11811 40).toInt < 0 → dp (F11812 28) (F11812 29) (bI (v 37)) (v11811 38).toInt.toNat = some (d + 1)); rw [show v11811 39 = v11800 39 from hf11813 39 (by decide)]; rw [show v11811 41 = v 41 from (hf11813 41 (by decide)).trans (hf11802 41 (by decide))]; rw [show v11811 40 = v11800 40 from hf11813 40 (by decide)]; exact ⟨by omega, hk, fun hf => (hd (by omega)).trans (congrArg some (by omega))⟩)⟩, (by show va_P _ _ _ t.heap; rw [ht]; exact hP9)⟩, hS.F ht⟩) hS.2.2 dX12_operand_150
      · skip
        have t11817 := cv_eq (a := r11789.toInt) rfl (b := 40) (by decide) c11795
        refine lv_aload_n hx hb dX12_operand_77 rfl (lv_at hl 1 rfl) ?_
        have t11818 : 0 ≤ (v 39).toInt ∧ (v 39).toInt ≤ 120 := hI.1 39 _ _ rfl
        have t11819 : 0 ≤ (v 41).toInt ∧ (v 41).toInt ≤ 8 := hI.1 41 _ _ rfl
        refine va_calli (va_runV (As := []) (rest := []) ⟨hx, hb, hml, hown, hwd⟩ (c_X12_opens l dC dI g c adK adV v F rc H.size  hg hI (by have h9 : v 39 = v 39 := rfl; (try rw [h9]); clear h9; have h9 : v 30 = v 30 := rfl; (try rw [h9]); clear h9; omega)) (cwV 0 hwd (gV wk_1025 wk_1022 wk_1023 wk_1024 wk_5) rfl rfl rfl (by decide +kernel) ⟨Nat.le_of_ble_eq_true rfl, Nat.le_of_ble_eq_true rfl⟩) ⟨PM.blind, va_recv hK hP (ci := 12) (q0 := 0) rfl rfl, fun U hU hW => ⟨rfl, PM.at hK hE hP hS hU hW⟩⟩ rfl rfl hl.1 rfl (lv_room (Nat.le_of_ble_eq_true rfl)) dX12_operand_78 ⟨Nat.le_of_ble_eq_true rfl, Nat.le_of_ble_eq_true rfl⟩) hS (fun q _ h => (freeM hS) q h) (freeM hS) (fun r11820 u t H1 locs ht hvm hw hB hz1 hk1 hS => ?_)
        unfold BM at hB
        rw [ht] at hB
        obtain ⟨v11821, F11822, rc9⟩ := u
        obtain ⟨hI, hrc, hf11823, hG11824, hw⟩ := hw
        dsimp only at hI hrc hB hf11823 hG11824 hw
        have hF := frCF (by decide) hG11824 hF
        rw [hrc] at hB
        have hP : va_P (dC, dI) classes (wM g c v11821 F11822 rc) H1 := hB
        have hw : (r11820.toInt = 1 ∧ (v 41).toInt < 8 ∧ (v11821 41).toInt = (v 41).toInt + 1 ∧ (v11821 39).toInt = (v 39).toInt + 1 ∧ (v11821 40).toInt = (v 40).toInt) ∨ (r11820.toInt = 0 ∧ (v 41).toInt = 8 ∧ 0 ≤ (v11821 40).toInt ∧ (v11821 41).toInt = (v 41).toInt ∧ (v11821 39).toInt = (v 39).toInt) := hw
        have hw_r11820 := hw
        have t11825 : 0 ≤ (v11821 39).toInt ∧ (v11821 39).toInt ≤ 120 := hI.1 39 _ _ rfl
        have t11826 : 0 ≤ (v11821 41).toInt ∧ (v11821 41).toInt ≤ 8 := hI.1 41 _ _ rfl
        generalize H1 = H at hP hS ⊢
        have hk : keepL (v 37) (F 28) (F 29) (F11822 28) (F11822 29) := by rw [hG11824 28 (by decide), hG11824 29 (by decide)]; exact hk
        have hd : (v11821 40).toInt < 0 → dp (F11822 28) (F11822 29) (bI (v 37)) (v 38).toInt.toNat = some d := fun hf => (by rw [hG11824 28 (by decide), hG11824 29 (by decide)]; exact hd (by omega))
        refine lv_if_ne (tgt := 85) hx hb dX12_operand_81 (by decide) (fun c11827 => ?_) (fun c11827 => ?_)
        · skip
          have t11828 := cv_ne (a := r11820.toInt) rfl (b := 0) (by decide) c11827
          refine lv_aload_n hx hb dX12_operand_85 rfl (lv_at hl 1 rfl) ?_
          have t11829 : 0 ≤ (v 30).toInt ∧ (v 30).toInt ≤ 120 := by have h9 := hI.1 30 _ _ rfl; rw [show v11821 30 = v 30 from hf11823 30 (by decide)] at h9; exact h9
          have t11830 : 0 ≤ (v 37).toInt ∧ (v 37).toInt ≤ 9 := by have h9 := hI.1 37 _ _ rfl; rw [show v11821 37 = v 37 from hf11823 37 (by decide)] at h9; exact h9
          have t11831 : 0 ≤ (v 38).toInt ∧ (v 38).toInt ≤ 120 := by have h9 := hI.1 38 _ _ rfl; rw [show v11821 38 = v 38 from hf11823 38 (by decide)] at h9; exact h9
          have t11832 : 0 ≤ (v11821 39).toInt ∧ (v11821 39).toInt ≤ 120 := hI.1 39 _ _ rfl
          have t11833 : 0 ≤ (v11821 41).toInt ∧ (v11821 41).toInt ≤ 8 := hI.1 41 _ _ rfl
          refine va_callv (va_runV (As := []) (rest := []) ⟨hx, hb, hml, hown, hwd⟩ (c_X12_either_8 l dC dI g c adK adV v11821 F11822 rc H.size  d hg hI (by have h9 : v11821 38 = v 38 := hf11823 38 (by decide); (try rw [h9]); clear h9; have h9 : v11821 39 = v11821 39 := rfl; (try rw [h9]); clear h9; have h9 : v11821 30 = v 30 := hf11823 30 (by decide); (try rw [h9]); clear h9; have h9 : v11821 40 = v11821 40 := rfl; (try rw [h9]); clear h9; have h9 : v11821 41 = v11821 41 := rfl; (try rw [h9]); clear h9; omega) (by have h9 : v11821 37 = (v 37) := hf11823 37 (by decide); have h8 : v11821 38 = (v 38) := hf11823 38 (by decide); (try rw [h9]); (try rw [h8]); exact hd (by omega))) (cwV 0 hwd (gV wk_1010 wk_1007 wk_1008 wk_1009 wk_5) rfl rfl rfl (by decide +kernel) ⟨Nat.le_of_ble_eq_true rfl, Nat.le_of_ble_eq_true rfl⟩) ⟨PM.blind, va_recv hK hP (ci := 12) (q0 := 0) rfl rfl, fun U hU hW => ⟨rfl, PM.at hK hE hP hS hU hW⟩⟩ rfl rfl hl.1 rfl (lv_room (Nat.le_of_ble_eq_true rfl)) dX12_operand_86 ⟨Nat.le_of_ble_eq_true rfl, Nat.le_of_ble_eq_true rfl⟩) hS (fun q _ h => (freeM hS) q h) (freeM hS) (fun u t H1 locs ht hvm hw hB hz1 hk1 hS => ?_)
          unfold BM at hB
          rw [ht] at hB
          obtain ⟨v11835, F11836, rc9⟩ := u
          obtain ⟨hI, hrc, hf11837, hG11838, hw⟩ := hw
          dsimp only at hI hrc hB hf11837 hG11838 hw
          have hF := frCF (by decide) hG11838 hF
          rw [hrc] at hB
          have hP : va_P (dC, dI) classes (wM g c v11835 F11836 rc) H1 := hB
          have hw : ((v11821 39).toInt ≤ (v11835 39).toInt ∧ (v11835 39).toInt ≤ (v11821 30).toInt ∧ (v11821 38).toInt ≤ (v11835 38).toInt ∧ (v11835 38).toInt - (v11821 38).toInt ≤ (v11835 39).toInt - (v11821 39).toInt ∧ (v11821 41).toInt ≤ (v11835 41).toInt ∧ ((v11835 40).toInt < 0 → (v11835 41).toInt = (v11821 41).toInt)) ∧ keepL (v11821 37) (F11822 28) (F11822 29) (F11836 28) (F11836 29) ∧ ((v11835 40).toInt < 0 → dp (F11836 28) (F11836 29) (bI (v11821 37)) (v11835 38).toInt.toNat = some (d + 1)) := hw
          rw [show v11821 30 = v 30 from hf11823 30 (by decide)] at hw
          rw [show v11821 38 = v 38 from hf11823 38 (by decide)] at hw
          rw [show v11821 37 = v 37 from hf11823 37 (by decide)] at hw
          have hw_r11834 := hw
          have t11839 : 0 ≤ (v11835 38).toInt ∧ (v11835 38).toInt ≤ 120 := hI.1 38 _ _ rfl
          have t11840 : 0 ≤ (v11835 39).toInt ∧ (v11835 39).toInt ≤ 120 := hI.1 39 _ _ rfl
          have t11841 : 0 ≤ (v11835 41).toInt ∧ (v11835 41).toInt ≤ 8 := hI.1 41 _ _ rfl
          generalize H1 = H at hP hS ⊢
          have hk := hk.tr hw_r11834.2.1
          have hd := hw_r11834.2.2
          refine lv_aload_n hx hb dX12_operand_89 rfl (lv_at hl 1 rfl) ?_
          refine va_get (D := (dC, dI)) (ci := 12) (v := .int (v11835 40)) (C := RX12) (T := TX12) (N := 63) hx hb hwd inA_X12 hown hK hP 0 rfl rfl 40 (by decide) (hwd _ wk_1005) (fun _ h9 => h9) rfl dX12_operand_90 ?_
          refine lv_if_lt (tgt := 97) hx hb dX12_operand_93 (by decide) (fun c11842 => ?_) (fun c11842 => ?_)
          · skip
            have t11843 := cv_lt (a := (v11835 40).toInt) rfl (b := 0) (by decide) c11842
            refine lv_aload_n hx hb dX12_operand_97 rfl (lv_at hl 1 rfl) ?_
            have t11844 : 0 ≤ (v 30).toInt ∧ (v 30).toInt ≤ 120 := by have h9 := hI.1 30 _ _ rfl; rw [show v11835 30 = v 30 from (hf11837 30 (by decide)).trans (hf11823 30 (by decide))] at h9; exact h9
            have t11845 : 0 ≤ (v11835 39).toInt ∧ (v11835 39).toInt ≤ 120 := hI.1 39 _ _ rfl
            refine va_calli (va_runV (As := []) (rest := []) ⟨hx, hb, hml, hown, hwd⟩ (c_X12_look l dC dI g c adK adV v11835 F11836 rc H.size  hg hI ) (cwV 0 hwd (gV wk_1017 wk_1014 wk_1015 wk_1016 wk_5) rfl rfl rfl (by decide +kernel) ⟨Nat.le_of_ble_eq_true rfl, Nat.le_of_ble_eq_true rfl⟩) ⟨PM.blind, va_recv hK hP (ci := 12) (q0 := 0) rfl rfl, fun U hU hW => ⟨rfl, PM.at hK hE hP hS hU hW⟩⟩ rfl rfl hl.1 rfl (lv_room (Nat.le_of_ble_eq_true rfl)) dX12_operand_98 ⟨Nat.le_of_ble_eq_true rfl, Nat.le_of_ble_eq_true rfl⟩) hS (fun q _ h => (freeM hS) q h) (freeM hS) (fun r11846 u t H1 locs ht hvm hw hB hz1 hk1 hS => ?_)
            unfold BM at hB
            rw [ht] at hB
            have hP : va_P (dC, dI) classes (wM g c v11835 F11836 rc) H1 := hB
            have hw : r11846.toInt = lkM (v11835 39) (v11835 30) (F11836 24) ∧ ((v11835 39).toInt < (v11835 30).toInt ∨ r11846.toInt = -1) := hw
            rw [show v11835 30 = v 30 from (hf11837 30 (by decide)).trans (hf11823 30 (by decide))] at hw
            rw [hF 24 (by decide)] at hw
            have hw_r11846 := hw
            generalize H1 = H at hP hS ⊢
            refine lv_bipush (v := 41) hx hb dX12_operand_101 (by decide) ?_
            refine lv_icmp_eq (tgt := 111) hx hb dX12_operand_103 (by decide) (fun c11847 => ?_) (fun c11847 => ?_)
            · skip
              have t11848 := cv_eq (a := r11846.toInt) rfl (b := 41) (by decide) c11847
              refine lv_aload_n hx hb dX12_operand_111 rfl (lv_at hl 1 rfl) ?_
              refine lv_dup hx hb dX12_operand_112 rfl ?_
              refine va_get (D := (dC, dI)) (ci := 12) (v := .int (v11835 39)) (C := RX12) (T := TX12) (N := 63) hx hb hwd inA_X12 hown hK hP 0 rfl rfl 39 (by decide) (hwd _ wk_1004) (fun _ h9 => h9) rfl dX12_operand_113 ?_
              have t11849 : 0 ≤ (v11835 39).toInt ∧ (v11835 39).toInt ≤ 120 := hI.1 39 _ _ rfl
              refine lv_iconst (v := 1) hx hb dX12_operand_116 (by decide) ?_
              refine lv_iadd hx hb dX12_operand_117 ?_
              refine lv_topi (fun z11850 e11851 => ?_)
              try (have t11852 := tadd e11851 (a := (v11835 39).toInt) rfl (b := 1) (by decide) (by omega))
              refine va_put (D := (dC, dI)) (ci := 12) (v := .int z11850) (ty := .int) (C := RX12) (T := TX12) (N := 63) (fs := fsM_0 g v11835 rc) hx hb hwd inA_X12 tyX12 tyX12_ok nmX12 hown hK hP (DM hg) hS 0 rfl rfl 39 (by decide) (hwd _ wk_1004) (fun _ h9 => h9) rfl (by decide +kernel) rfl rfl (Nat.le_of_ble_eq_true rfl) dX12_operand_118 (fun H locs hP _ hS => ?_)
              have hP := va_P_eq (pM_39 g c _ _ _ _) hP
              have hI := IM.put hI 39 z11850 rfl (by omega)
              refine lv_aload_n hx hb dX12_operand_121 rfl (lv_at hl 1 rfl) ?_
              refine lv_dup hx hb dX12_operand_122 rfl ?_
              refine va_get (D := (dC, dI)) (ci := 12) (v := .int (v11835 41)) (C := RX12) (T := TX12) (N := 63) hx hb hwd inA_X12 hown hK hP 0 rfl rfl 41 (by decide) (hwd _ wk_1006) (fun _ h9 => h9) rfl dX12_operand_123 ?_
              have t11853 : 0 ≤ (v11835 41).toInt ∧ (v11835 41).toInt ≤ 8 := hI.1 41 _ _ rfl
              refine lv_iconst (v := 1) hx hb dX12_operand_126 (by decide) ?_
              refine lv_isub hx hb dX12_operand_127 ?_
              refine lv_topi (fun z11854 e11855 => ?_)
              try (have t11856 := tsub e11855 (a := (v11835 41).toInt) rfl (b := 1) (by decide) (by omega))
              refine va_put (D := (dC, dI)) (ci := 12) (v := .int z11854) (ty := .int) (C := RX12) (T := TX12) (N := 63) (fs := fsM_0 g (va_up v11835 39 z11850) rc) hx hb hwd inA_X12 tyX12 tyX12_ok nmX12 hown hK hP (DM hg) hS 0 rfl rfl 41 (by decide) (hwd _ wk_1006) (fun _ h9 => h9) rfl (by decide +kernel) rfl rfl (Nat.le_of_ble_eq_true rfl) dX12_operand_128 (fun H locs hP _ hS => ?_)
              have hP := va_P_eq (pM_41 g c _ _ _ _) hP
              have hI := IM.put hI 41 z11854 rfl (by omega)
              refine lv_goto (tgt := 150) hx hb dX12_operand_131 (by decide) ?_
              have hP9 : va_P (dC, dI) classes (wM g c (va_up (va_up v11835 39 z11850) 41 z11854) F11836 rc) H := hP
              exact W.vret hx hb hr (fun t ht hW => ⟨⟨((va_up (va_up v11835 39 z11850) 41 z11854), F11836, rc), rfl, ⟨hI, rfl, (frU (by decide) (frU (by decide) (frC (by decide) hf11837 (frC (by decide) hf11823 (fun _ _ => rfl))))), hF, (by show ((v 39).toInt ≤ z11850.toInt ∧ z11850.toInt ≤ (v 30).toInt ∧ (v 38).toInt ≤ (v11835 38).toInt ∧ (v11835 38).toInt - (v 38).toInt ≤ z11850.toInt - (v 39).toInt ∧ (v 41).toInt ≤ z11854.toInt ∧ ((v11835 40).toInt < 0 → z11854.toInt = (v 41).toInt)) ∧ keepL (v 37) (F 28) (F 29) (F11836 28) (F11836 29) ∧ ((v11835 40).toInt < 0 → dp (F11836 28) (F11836 29) (bI (v 37)) (v11835 38).toInt.toNat = some (d + 1)); exact ⟨by omega, hk, fun hf => (hd (by omega)).trans (congrArg some (by omega))⟩)⟩, (by show va_P _ _ _ t.heap; rw [ht]; exact hP9)⟩, hS.F ht⟩) hS.2.2 dX12_operand_150
            · skip
              have t11857 := cv_ne (a := r11846.toInt) rfl (b := 41) (by decide) c11847
              refine lv_aload_n hx hb dX12_operand_106 rfl (lv_at hl 1 rfl) ?_
              refine va_callv (va_runV (As := []) (rest := []) ⟨hx, hb, hml, hown, hwd⟩ (c_X12_wrong l dC dI g c adK adV v11835 F11836 rc H.size  hg hI ) (cwV 0 hwd (gV wk_1029 wk_1026 wk_1027 wk_1028 wk_5) rfl rfl rfl (by decide +kernel) ⟨Nat.le_of_ble_eq_true rfl, Nat.le_of_ble_eq_true rfl⟩) ⟨PM.blind, va_recv hK hP (ci := 12) (q0 := 0) rfl rfl, fun U hU hW => ⟨rfl, PM.at hK hE hP hS hU hW⟩⟩ rfl rfl hl.1 rfl (lv_room (Nat.le_of_ble_eq_true rfl)) dX12_operand_107 ⟨Nat.le_of_ble_eq_true rfl, Nat.le_of_ble_eq_true rfl⟩) hS (fun q _ h => (freeM hS) q h) (freeM hS) (fun u t H1 locs ht hvm hw hB hz1 hk1 hS => ?_)
              unfold BM at hB
              rw [ht] at hB
              obtain ⟨v11859, F11860, rc9⟩ := u
              obtain ⟨hI, hrc, hf11861, hG11862, hw⟩ := hw
              dsimp only at hI hrc hB hf11861 hG11862 hw
              have hF := frCF (by decide) hG11862 hF
              rw [hrc] at hB
              have hP : va_P (dC, dI) classes (wM g c v11859 F11860 rc) H1 := hB
              have hw : 0 ≤ (v11859 40).toInt := hw
              have hw_r11858 := hw
              generalize H1 = H at hP hS ⊢
              have hk : keepL (v 37) (F 28) (F 29) (F11860 28) (F11860 29) := by rw [hG11862 28 (by decide), hG11862 29 (by decide)]; exact hk
              have hd : (v11859 40).toInt < 0 → dp (F11860 28) (F11860 29) (bI (v 37)) (v11835 38).toInt.toNat = some (d + 1) := fun hf => (by rw [hG11862 28 (by decide), hG11862 29 (by decide)]; exact hd (by omega))
              have hP9 : va_P (dC, dI) classes (wM g c v11859 F11860 rc) H := hP
              exact W.vret hx hb hr (fun t ht hW => ⟨⟨(v11859, F11860, rc), rfl, ⟨hI, rfl, (frC (by decide) hf11861 (frC (by decide) hf11837 (frC (by decide) hf11823 (fun _ _ => rfl)))), hF, (by show ((v 39).toInt ≤ (v11859 39).toInt ∧ (v11859 39).toInt ≤ (v 30).toInt ∧ (v 38).toInt ≤ (v11859 38).toInt ∧ (v11859 38).toInt - (v 38).toInt ≤ (v11859 39).toInt - (v 39).toInt ∧ (v 41).toInt ≤ (v11859 41).toInt ∧ ((v11859 40).toInt < 0 → (v11859 41).toInt = (v 41).toInt)) ∧ keepL (v 37) (F 28) (F 29) (F11860 28) (F11860 29) ∧ ((v11859 40).toInt < 0 → dp (F11860 28) (F11860 29) (bI (v 37)) (v11859 38).toInt.toNat = some (d + 1)); rw [show v11859 39 = v11835 39 from hf11861 39 (by decide)]; rw [show v11859 38 = v11835 38 from hf11861 38 (by decide)]; rw [show v11859 41 = v11835 41 from hf11861 41 (by decide)]; exact ⟨by omega, hk, fun hf => (hd (by omega)).trans (congrArg some (by omega))⟩)⟩, (by show va_P _ _ _ t.heap; rw [ht]; exact hP9)⟩, hS.F ht⟩) hS.2.2 dX12_operand_110
          · skip
            have t11863 := cv_nlt (a := (v11835 40).toInt) rfl (b := 0) (by decide) c11842
            have hP9 : va_P (dC, dI) classes (wM g c v11835 F11836 rc) H := hP
            exact W.vret hx hb hr (fun t ht hW => ⟨⟨(v11835, F11836, rc), rfl, ⟨hI, rfl, (frC (by decide) hf11837 (frC (by decide) hf11823 (fun _ _ => rfl))), hF, (by show ((v 39).toInt ≤ (v11835 39).toInt ∧ (v11835 39).toInt ≤ (v 30).toInt ∧ (v 38).toInt ≤ (v11835 38).toInt ∧ (v11835 38).toInt - (v 38).toInt ≤ (v11835 39).toInt - (v 39).toInt ∧ (v 41).toInt ≤ (v11835 41).toInt ∧ ((v11835 40).toInt < 0 → (v11835 41).toInt = (v 41).toInt)) ∧ keepL (v 37) (F 28) (F 29) (F11836 28) (F11836 29) ∧ ((v11835 40).toInt < 0 → dp (F11836 28) (F11836 29) (bI (v 37)) (v11835 38).toInt.toNat = some (d + 1)); exact ⟨by omega, hk, fun hf => (hd (by omega)).trans (congrArg some (by omega))⟩)⟩, (by show va_P _ _ _ t.heap; rw [ht]; exact hP9)⟩, hS.F ht⟩) hS.2.2 dX12_operand_96
        · skip
          have t11864 := cv_eq (a := r11820.toInt) rfl (b := 0) (by decide) c11827
          have hP9 : va_P (dC, dI) classes (wM g c v11821 F11822 rc) H := hP
          exact W.vret hx hb hr (fun t ht hW => ⟨⟨(v11821, F11822, rc), rfl, ⟨hI, rfl, (frC (by decide) hf11823 (fun _ _ => rfl)), hF, (by show ((v 39).toInt ≤ (v11821 39).toInt ∧ (v11821 39).toInt ≤ (v 30).toInt ∧ (v 38).toInt ≤ (v11821 38).toInt ∧ (v11821 38).toInt - (v 38).toInt ≤ (v11821 39).toInt - (v 39).toInt ∧ (v 41).toInt ≤ (v11821 41).toInt ∧ ((v11821 40).toInt < 0 → (v11821 41).toInt = (v 41).toInt)) ∧ keepL (v 37) (F 28) (F 29) (F11822 28) (F11822 29) ∧ ((v11821 40).toInt < 0 → dp (F11822 28) (F11822 29) (bI (v 37)) (v11821 38).toInt.toNat = some (d + 1)); rw [show v11821 38 = v 38 from hf11823 38 (by decide)]; exact ⟨by omega, hk, fun hf => (hd (by omega)).trans (congrArg some (by omega))⟩)⟩, (by show va_P _ _ _ t.heap; rw [ht]; exact hP9)⟩, hS.F ht⟩) hS.2.2 dX12_operand_84
    · skip
      have t11865 := cv_eq (a := r11789.toInt) rfl (b := 45) (by decide) c11793
      refine lv_aload_n hx hb dX12_operand_40 rfl (lv_at hl 1 rfl) ?_
      have t11866 : 0 ≤ (v 39).toInt ∧ (v 39).toInt ≤ 120 := hI.1 39 _ _ rfl
      have t11867 : 0 ≤ (v 41).toInt ∧ (v 41).toInt ≤ 8 := hI.1 41 _ _ rfl
      refine va_calli (va_runV (As := []) (rest := []) ⟨hx, hb, hml, hown, hwd⟩ (c_X12_opens l dC dI g c adK adV v F rc H.size  hg hI (by have h9 : v 39 = v 39 := rfl; (try rw [h9]); clear h9; have h9 : v 30 = v 30 := rfl; (try rw [h9]); clear h9; omega)) (cwV 0 hwd (gV wk_1025 wk_1022 wk_1023 wk_1024 wk_5) rfl rfl rfl (by decide +kernel) ⟨Nat.le_of_ble_eq_true rfl, Nat.le_of_ble_eq_true rfl⟩) ⟨PM.blind, va_recv hK hP (ci := 12) (q0 := 0) rfl rfl, fun U hU hW => ⟨rfl, PM.at hK hE hP hS hU hW⟩⟩ rfl rfl hl.1 rfl (lv_room (Nat.le_of_ble_eq_true rfl)) dX12_operand_41 ⟨Nat.le_of_ble_eq_true rfl, Nat.le_of_ble_eq_true rfl⟩) hS (fun q _ h => (freeM hS) q h) (freeM hS) (fun r11868 u t H1 locs ht hvm hw hB hz1 hk1 hS => ?_)
      unfold BM at hB
      rw [ht] at hB
      obtain ⟨v11869, F11870, rc9⟩ := u
      obtain ⟨hI, hrc, hf11871, hG11872, hw⟩ := hw
      dsimp only at hI hrc hB hf11871 hG11872 hw
      have hF := frCF (by decide) hG11872 hF
      rw [hrc] at hB
      have hP : va_P (dC, dI) classes (wM g c v11869 F11870 rc) H1 := hB
      have hw : (r11868.toInt = 1 ∧ (v 41).toInt < 8 ∧ (v11869 41).toInt = (v 41).toInt + 1 ∧ (v11869 39).toInt = (v 39).toInt + 1 ∧ (v11869 40).toInt = (v 40).toInt) ∨ (r11868.toInt = 0 ∧ (v 41).toInt = 8 ∧ 0 ≤ (v11869 40).toInt ∧ (v11869 41).toInt = (v 41).toInt ∧ (v11869 39).toInt = (v 39).toInt) := hw
      have hw_r11868 := hw
      have t11873 : 0 ≤ (v11869 39).toInt ∧ (v11869 39).toInt ≤ 120 := hI.1 39 _ _ rfl
      have t11874 : 0 ≤ (v11869 41).toInt ∧ (v11869 41).toInt ≤ 8 := hI.1 41 _ _ rfl
      generalize H1 = H at hP hS ⊢
      have hk : keepL (v 37) (F 28) (F 29) (F11870 28) (F11870 29) := by rw [hG11872 28 (by decide), hG11872 29 (by decide)]; exact hk
      have hd : (v11869 40).toInt < 0 → dp (F11870 28) (F11870 29) (bI (v 37)) (v 38).toInt.toNat = some d := fun hf => (by rw [hG11872 28 (by decide), hG11872 29 (by decide)]; exact hd (by omega))
      refine lv_if_ne (tgt := 48) hx hb dX12_operand_44 (by decide) (fun c11875 => ?_) (fun c11875 => ?_)
      · skip
        have t11876 := cv_ne (a := r11868.toInt) rfl (b := 0) (by decide) c11875
        refine lv_aload_n hx hb dX12_operand_48 rfl (lv_at hl 1 rfl) ?_
        have t11877 : 0 ≤ (v 30).toInt ∧ (v 30).toInt ≤ 120 := by have h9 := hI.1 30 _ _ rfl; rw [show v11869 30 = v 30 from hf11871 30 (by decide)] at h9; exact h9
        have t11878 : 0 ≤ (v 37).toInt ∧ (v 37).toInt ≤ 9 := by have h9 := hI.1 37 _ _ rfl; rw [show v11869 37 = v 37 from hf11871 37 (by decide)] at h9; exact h9
        have t11879 : 0 ≤ (v 38).toInt ∧ (v 38).toInt ≤ 120 := by have h9 := hI.1 38 _ _ rfl; rw [show v11869 38 = v 38 from hf11871 38 (by decide)] at h9; exact h9
        have t11880 : 0 ≤ (v11869 39).toInt ∧ (v11869 39).toInt ≤ 120 := hI.1 39 _ _ rfl
        have t11881 : 0 ≤ (v11869 41).toInt ∧ (v11869 41).toInt ≤ 8 := hI.1 41 _ _ rfl
        refine va_callv (va_runV (As := []) (rest := []) ⟨hx, hb, hml, hown, hwd⟩ (c_X12_operand_8 l dC dI g c adK adV v11869 F11870 rc H.size  d hg hI (by have h9 : v11869 38 = v 38 := hf11871 38 (by decide); (try rw [h9]); clear h9; have h9 : v11869 39 = v11869 39 := rfl; (try rw [h9]); clear h9; have h9 : v11869 30 = v 30 := hf11871 30 (by decide); (try rw [h9]); clear h9; have h9 : v11869 40 = v11869 40 := rfl; (try rw [h9]); clear h9; have h9 : v11869 41 = v11869 41 := rfl; (try rw [h9]); clear h9; omega) (by have h9 : v11869 37 = (v 37) := hf11871 37 (by decide); have h8 : v11869 38 = (v 38) := hf11871 38 (by decide); (try rw [h9]); (try rw [h8]); exact hd (by omega))) (cwV 0 hwd (gV wk_1030 wk_1035 wk_1036 wk_1037 wk_5) rfl rfl rfl (by decide +kernel) ⟨Nat.le_of_ble_eq_true rfl, Nat.le_of_ble_eq_true rfl⟩) ⟨PM.blind, va_recv hK hP (ci := 12) (q0 := 0) rfl rfl, fun U hU hW => ⟨rfl, PM.at hK hE hP hS hU hW⟩⟩ rfl rfl hl.1 rfl (lv_room (Nat.le_of_ble_eq_true rfl)) dX12_operand_49 ⟨Nat.le_of_ble_eq_true rfl, Nat.le_of_ble_eq_true rfl⟩) hS (fun q _ h => (freeM hS) q h) (freeM hS) (fun u t H1 locs ht hvm hw hB hz1 hk1 hS => ?_)
        unfold BM at hB
        rw [ht] at hB
        obtain ⟨v11883, F11884, rc9⟩ := u
        obtain ⟨hI, hrc, hf11885, hG11886, hw⟩ := hw
        dsimp only at hI hrc hB hf11885 hG11886 hw
        have hF := frCF (by decide) hG11886 hF
        rw [hrc] at hB
        have hP : va_P (dC, dI) classes (wM g c v11883 F11884 rc) H1 := hB
        have hw : ((v11869 39).toInt ≤ (v11883 39).toInt ∧ (v11883 39).toInt ≤ (v11869 30).toInt ∧ (v11869 38).toInt ≤ (v11883 38).toInt ∧ (v11883 38).toInt - (v11869 38).toInt ≤ (v11883 39).toInt - (v11869 39).toInt ∧ (v11869 41).toInt ≤ (v11883 41).toInt ∧ ((v11883 40).toInt < 0 → (v11883 41).toInt = (v11869 41).toInt)) ∧ keepL (v11869 37) (F11870 28) (F11870 29) (F11884 28) (F11884 29) ∧ ((v11883 40).toInt < 0 → dp (F11884 28) (F11884 29) (bI (v11869 37)) (v11883 38).toInt.toNat = some (d + 1)) := hw
        rw [show v11869 30 = v 30 from hf11871 30 (by decide)] at hw
        rw [show v11869 38 = v 38 from hf11871 38 (by decide)] at hw
        rw [show v11869 37 = v 37 from hf11871 37 (by decide)] at hw
        have hw_r11882 := hw
        have t11887 : 0 ≤ (v11883 38).toInt ∧ (v11883 38).toInt ≤ 120 := hI.1 38 _ _ rfl
        have t11888 : 0 ≤ (v11883 39).toInt ∧ (v11883 39).toInt ≤ 120 := hI.1 39 _ _ rfl
        have t11889 : 0 ≤ (v11883 41).toInt ∧ (v11883 41).toInt ≤ 8 := hI.1 41 _ _ rfl
        generalize H1 = H at hP hS ⊢
        have hk := hk.tr hw_r11882.2.1
        have hd := hw_r11882.2.2
        refine lv_aload_n hx hb dX12_operand_52 rfl (lv_at hl 1 rfl) ?_
        refine lv_iconst (v := 3) hx hb dX12_operand_53 (by decide) ?_
        refine lv_iconst (v := 0) hx hb dX12_operand_54 (by decide) ?_
        have t11890 : 0 ≤ (v 37).toInt ∧ (v 37).toInt ≤ 9 := by have h9 := hI.1 37 _ _ rfl; rw [show v11883 37 = v 37 from (hf11885 37 (by decide)).trans (hf11871 37 (by decide))] at h9; exact h9
        have t11891 : 0 ≤ (v11883 38).toInt ∧ (v11883 38).toInt ≤ 120 := hI.1 38 _ _ rfl
        refine va_callv (va_runV (As := [.int 3, .int 0]) (rest := []) ⟨hx, hb, hml, hown, hwd⟩ (c_X12_lay l dC dI g c adK adV v11883 F11884 rc H.size 3 0 hg hI (by have h9 : v11883 38 = v11883 38 := rfl; rw [h9]; omega)) (cwV 2 hwd (gV wk_1021 wk_1018 wk_1019 wk_1020 wk_5) rfl rfl rfl (by decide +kernel) ⟨Nat.le_of_ble_eq_true rfl, Nat.le_of_ble_eq_true rfl⟩) ⟨PM.blind, va_recv hK hP (ci := 12) (q0 := 0) rfl rfl, fun U hU hW => ⟨rfl, PM.at hK hE hP hS hU hW⟩⟩ rfl rfl hl.1 rfl (lv_room (Nat.le_of_ble_eq_true rfl)) dX12_operand_55 ⟨Nat.le_of_ble_eq_true rfl, Nat.le_of_ble_eq_true rfl⟩) hS (fun q _ h => (freeM hS) q h) (freeM hS) (fun u t H1 locs ht hvm hw hB hz1 hk1 hS => ?_)
        unfold BM at hB
        rw [ht] at hB
        obtain ⟨v11893, F11894, rc9⟩ := u
        obtain ⟨hI, hrc, hf11895, hG11896, hw⟩ := hw
        dsimp only at hI hrc hB hf11895 hG11896 hw
        have hF := frCF (by decide) hG11896 hF
        rw [hrc] at hB
        have hP : va_P (dC, dI) classes (wM g c v11893 F11894 rc) H1 := hB
        have hw : (v11893 38).toInt = (v11883 38).toInt + 1 ∧ keepL (v11883 37) (F11884 28) (F11884 29) (F11894 28) (F11894 29) ∧ dp (F11894 28) (F11894 29) (bI (v11883 37)) ((v11883 38).toInt.toNat + 1) = dpS (dp (F11884 28) (F11884 29) (bI (v11883 37)) (v11883 38).toInt.toNat) (3 : Int32) (0 : Int32) := hw
        rw [show v11883 37 = v 37 from (hf11885 37 (by decide)).trans (hf11871 37 (by decide))] at hw
        have hw_r11892 := hw
        have t11897 : 0 ≤ (v11893 38).toInt ∧ (v11893 38).toInt ≤ 120 := hI.1 38 _ _ rfl
        have k11898 : (3 : Int32).toInt = 3 := by decide
        have k11899 : (0 : Int32).toInt = 0 := by decide
        generalize H1 = H at hP hS ⊢
        have hk := hk.tr hw_r11892.2.1
        have hd : (v11883 40).toInt < 0 → dp (F11894 28) (F11894 29) (bI (v 37)) (v11893 38).toInt.toNat = some (d + 1) := fun hf => (by have e9 : (v11893 38).toInt.toNat = (v11883 38).toInt.toNat + 1 := (by omega); rw [e9, hw_r11892.2.2, hd hf]; exact dpS_3 (by decide) (by omega))
        refine lv_aload_n hx hb dX12_operand_58 rfl (lv_at hl 1 rfl) ?_
        refine lv_dup hx hb dX12_operand_59 rfl ?_
        refine va_get (D := (dC, dI)) (ci := 12) (v := .int (v11893 41)) (C := RX12) (T := TX12) (N := 63) hx hb hwd inA_X12 hown hK hP 0 rfl rfl 41 (by decide) (hwd _ wk_1006) (fun _ h9 => h9) rfl dX12_operand_60 ?_
        refine my_top (v := v11883 41) (hf11895 41 (by decide)) ?_
        have t11900 : 0 ≤ (v11883 41).toInt ∧ (v11883 41).toInt ≤ 8 := by have h9 := hI.1 41 _ _ rfl; rw [show v11893 41 = v11883 41 from hf11895 41 (by decide)] at h9; exact h9
        refine lv_iconst (v := 1) hx hb dX12_operand_63 (by decide) ?_
        refine lv_isub hx hb dX12_operand_64 ?_
        refine lv_topi (fun z11901 e11902 => ?_)
        try (have t11903 := tsub e11902 (a := (v11883 41).toInt) rfl (b := 1) (by decide) (by omega))
        refine va_put (D := (dC, dI)) (ci := 12) (v := .int z11901) (ty := .int) (C := RX12) (T := TX12) (N := 63) (fs := fsM_0 g v11893 rc) hx hb hwd inA_X12 tyX12 tyX12_ok nmX12 hown hK hP (DM hg) hS 0 rfl rfl 41 (by decide) (hwd _ wk_1006) (fun _ h9 => h9) rfl (by decide +kernel) rfl rfl (Nat.le_of_ble_eq_true rfl) dX12_operand_65 (fun H locs hP _ hS => ?_)
        have hP := va_P_eq (pM_41 g c _ _ _ _) hP
        have hI := IM.put hI 41 z11901 rfl (by omega)
        refine lv_goto (tgt := 150) hx hb dX12_operand_68 (by decide) ?_
        have hP9 : va_P (dC, dI) classes (wM g c (va_up v11893 41 z11901) F11894 rc) H := hP
        exact W.vret hx hb hr (fun t ht hW => ⟨⟨((va_up v11893 41 z11901), F11894, rc), rfl, ⟨hI, rfl, (frU (by decide) (frC (by decide) hf11895 (frC (by decide) hf11885 (frC (by decide) hf11871 (fun _ _ => rfl))))), hF, (by show ((v 39).toInt ≤ ((va_up v11893 41 z11901) 39).toInt ∧ ((va_up v11893 41 z11901) 39).toInt ≤ (v 30).toInt ∧ (v 38).toInt ≤ (v11893 38).toInt ∧ (v11893 38).toInt - (v 38).toInt ≤ ((va_up v11893 41 z11901) 39).toInt - (v 39).toInt ∧ (v 41).toInt ≤ z11901.toInt ∧ (((va_up v11893 41 z11901) 40).toInt < 0 → z11901.toInt = (v 41).toInt)) ∧ keepL (v 37) (F 28) (F 29) (F11894 28) (F11894 29) ∧ (((va_up v11893 41 z11901) 40).toInt < 0 → dp (F11894 28) (F11894 29) (bI (v 37)) (v11893 38).toInt.toNat = some (d + 1)); rw [show (va_up v11893 41 z11901) 39 = v11883 39 from hf11895 39 (by decide)]; rw [show (va_up v11893 41 z11901) 40 = v11883 40 from hf11895 40 (by decide)]; exact ⟨by omega, hk, fun hf => (hd (by omega)).trans (congrArg some (by omega))⟩)⟩, (by show va_P _ _ _ t.heap; rw [ht]; exact hP9)⟩, hS.F ht⟩) hS.2.2 dX12_operand_150
      · skip
        have t11904 := cv_eq (a := r11868.toInt) rfl (b := 0) (by decide) c11875
        have hP9 : va_P (dC, dI) classes (wM g c v11869 F11870 rc) H := hP
        exact W.vret hx hb hr (fun t ht hW => ⟨⟨(v11869, F11870, rc), rfl, ⟨hI, rfl, (frC (by decide) hf11871 (fun _ _ => rfl)), hF, (by show ((v 39).toInt ≤ (v11869 39).toInt ∧ (v11869 39).toInt ≤ (v 30).toInt ∧ (v 38).toInt ≤ (v11869 38).toInt ∧ (v11869 38).toInt - (v 38).toInt ≤ (v11869 39).toInt - (v 39).toInt ∧ (v 41).toInt ≤ (v11869 41).toInt ∧ ((v11869 40).toInt < 0 → (v11869 41).toInt = (v 41).toInt)) ∧ keepL (v 37) (F 28) (F 29) (F11870 28) (F11870 29) ∧ ((v11869 40).toInt < 0 → dp (F11870 28) (F11870 29) (bI (v 37)) (v11869 38).toInt.toNat = some (d + 1)); rw [show v11869 38 = v 38 from hf11871 38 (by decide)]; exact ⟨by omega, hk, fun hf => (hd (by omega)).trans (congrArg some (by omega))⟩)⟩, (by show va_P _ _ _ t.heap; rw [ht]; exact hP9)⟩, hS.F ht⟩) hS.2.2 dX12_operand_47
  · skip
    have t11905 := cv_nlt (a := r11790.toInt) rfl (b := 0) (by decide) c11791
    refine lv_aload_n hx hb dX12_operand_12 rfl (lv_at hl 1 rfl) ?_
    refine lv_iconst (v := 2) hx hb dX12_operand_13 (by decide) ?_
    refine lv_iload_n hx hb dX12_operand_14 rfl (lv_at hl 0 rfl) ?_
    refine va_calli (va_runS (As := [.int r11789]) (rest := [.int 2, .ref (g 0)]) ⟨hx, hb, hml, hown, hwd⟩ (c_X12_nameOf l dC dI g c adK adV v F rc H.size r11789 hg hI ) (va_cwS 1 hwd (gT wk_1034 wk_1032 wk_1033 wk_5) rfl rfl rfl (by decide +kernel) ⟨Nat.le_of_ble_eq_true rfl, Nat.le_of_ble_eq_true rfl⟩) ⟨PM.blind, fun U hU hW => ⟨rfl, PM.at hK hE hP hS hU hW⟩⟩ rfl rfl hl.1 rfl (lv_room (Nat.le_of_ble_eq_true rfl)) dX12_operand_15 ⟨Nat.le_of_ble_eq_true rfl, Nat.le_of_ble_eq_true rfl⟩) hS (fun q _ h => (freeM hS) q h) (freeM hS) (fun r11906 u t H1 locs ht hvm hw hB hz1 hk1 hS => ?_)
    unfold BM at hB
    rw [ht] at hB
    have hP : va_P (dC, dI) classes (wM g c v F rc) H1 := hB
    have hw : r11906.toInt = nmM r11789 ∧ (-1 ≤ r11906.toInt ∧ r11906.toInt ≤ 5) := hw
    have hw_r11906 := hw
    generalize H1 = H at hP hS ⊢
    have np_r11906 := nmM_pos r11789
    have t11907 : 0 ≤ (v 37).toInt ∧ (v 37).toInt ≤ 9 := hI.1 37 _ _ rfl
    have t11908 : 0 ≤ (v 38).toInt ∧ (v 38).toInt ≤ 120 := hI.1 38 _ _ rfl
    refine va_callv (va_runV (As := [.int 2, .int r11906]) (rest := []) ⟨hx, hb, hml, hown, hwd⟩ (c_X12_lay l dC dI g c adK adV v F rc H.size 2 r11906 hg hI (by have h9 : v 38 = v 38 := rfl; rw [h9]; omega)) (cwV 2 hwd (gV wk_1021 wk_1018 wk_1019 wk_1020 wk_5) rfl rfl rfl (by decide +kernel) ⟨Nat.le_of_ble_eq_true rfl, Nat.le_of_ble_eq_true rfl⟩) ⟨PM.blind, va_recv hK hP (ci := 12) (q0 := 0) rfl rfl, fun U hU hW => ⟨rfl, PM.at hK hE hP hS hU hW⟩⟩ rfl rfl hl.1 rfl (lv_room (Nat.le_of_ble_eq_true rfl)) dX12_operand_18 ⟨Nat.le_of_ble_eq_true rfl, Nat.le_of_ble_eq_true rfl⟩) hS (fun q _ h => (freeM hS) q h) (freeM hS) (fun u t H1 locs ht hvm hw hB hz1 hk1 hS => ?_)
    unfold BM at hB
    rw [ht] at hB
    obtain ⟨v11910, F11911, rc9⟩ := u
    obtain ⟨hI, hrc, hf11912, hG11913, hw⟩ := hw
    dsimp only at hI hrc hB hf11912 hG11913 hw
    have hF := frCF (by decide) hG11913 hF
    rw [hrc] at hB
    have hP : va_P (dC, dI) classes (wM g c v11910 F11911 rc) H1 := hB
    have hw : (v11910 38).toInt = (v 38).toInt + 1 ∧ keepL (v 37) (F 28) (F 29) (F11911 28) (F11911 29) ∧ dp (F11911 28) (F11911 29) (bI (v 37)) ((v 38).toInt.toNat + 1) = dpS (dp (F 28) (F 29) (bI (v 37)) (v 38).toInt.toNat) (2 : Int32) r11906 := hw
    have hw_r11909 := hw
    have t11914 : 0 ≤ (v11910 38).toInt ∧ (v11910 38).toInt ≤ 120 := hI.1 38 _ _ rfl
    have k11915 : (2 : Int32).toInt = 2 := by decide
    generalize H1 = H at hP hS ⊢
    have hk := hk.tr hw_r11909.2.1
    have hd : (v 40).toInt < 0 → dp (F11911 28) (F11911 29) (bI (v 37)) (v11910 38).toInt.toNat = some (d + 1) := fun hf => (by have e9 : (v11910 38).toInt.toNat = (v 38).toInt.toNat + 1 := (by omega); rw [e9, hw_r11909.2.2, hd hf]; exact dpS_2 (by decide) (by omega))
    refine lv_aload_n hx hb dX12_operand_21 rfl (lv_at hl 1 rfl) ?_
    refine lv_dup hx hb dX12_operand_22 rfl ?_
    refine va_get (D := (dC, dI)) (ci := 12) (v := .int (v11910 39)) (C := RX12) (T := TX12) (N := 63) hx hb hwd inA_X12 hown hK hP 0 rfl rfl 39 (by decide) (hwd _ wk_1004) (fun _ h9 => h9) rfl dX12_operand_23 ?_
    refine my_top (v := v 39) (hf11912 39 (by decide)) ?_
    have t11916 : 0 ≤ (v 39).toInt ∧ (v 39).toInt ≤ 120 := by have h9 := hI.1 39 _ _ rfl; rw [show v11910 39 = v 39 from hf11912 39 (by decide)] at h9; exact h9
    refine lv_iconst (v := 1) hx hb dX12_operand_26 (by decide) ?_
    refine lv_iadd hx hb dX12_operand_27 ?_
    refine lv_topi (fun z11917 e11918 => ?_)
    try (have t11919 := tadd e11918 (a := (v 39).toInt) rfl (b := 1) (by decide) (by omega))
    refine va_put (D := (dC, dI)) (ci := 12) (v := .int z11917) (ty := .int) (C := RX12) (T := TX12) (N := 63) (fs := fsM_0 g v11910 rc) hx hb hwd inA_X12 tyX12 tyX12_ok nmX12 hown hK hP (DM hg) hS 0 rfl rfl 39 (by decide) (hwd _ wk_1004) (fun _ h9 => h9) rfl (by decide +kernel) rfl rfl (Nat.le_of_ble_eq_true rfl) dX12_operand_28 (fun H locs hP _ hS => ?_)
    have hP := va_P_eq (pM_39 g c _ _ _ _) hP
    have hI := IM.put hI 39 z11917 rfl (by omega)
    refine lv_goto (tgt := 150) hx hb dX12_operand_31 (by decide) ?_
    have hP9 : va_P (dC, dI) classes (wM g c (va_up v11910 39 z11917) F11911 rc) H := hP
    exact W.vret hx hb hr (fun t ht hW => ⟨⟨((va_up v11910 39 z11917), F11911, rc), rfl, ⟨hI, rfl, (frU (by decide) (frC (by decide) hf11912 (fun _ _ => rfl))), hF, (by show ((v 39).toInt ≤ z11917.toInt ∧ z11917.toInt ≤ (v 30).toInt ∧ (v 38).toInt ≤ (v11910 38).toInt ∧ (v11910 38).toInt - (v 38).toInt ≤ z11917.toInt - (v 39).toInt ∧ (v 41).toInt ≤ ((va_up v11910 39 z11917) 41).toInt ∧ (((va_up v11910 39 z11917) 40).toInt < 0 → ((va_up v11910 39 z11917) 41).toInt = (v 41).toInt)) ∧ keepL (v 37) (F 28) (F 29) (F11911 28) (F11911 29) ∧ (((va_up v11910 39 z11917) 40).toInt < 0 → dp (F11911 28) (F11911 29) (bI (v 37)) (v11910 38).toInt.toNat = some (d + 1)); rw [show (va_up v11910 39 z11917) 41 = v 41 from hf11912 41 (by decide)]; rw [show (va_up v11910 39 z11917) 40 = v 40 from hf11912 40 (by decide)]; exact ⟨by omega, hk, fun hf => (hd (by omega)).trans (congrArg some (by omega))⟩)⟩, (by show va_P _ _ _ t.heap; rw [ht]; exact hP9)⟩, hS.F ht⟩) hS.2.2 dX12_operand_150
set_option maxHeartbeats 8000000 in
set_option maxRecDepth 100000 in
theorem c_X12_product_7 (l : Launch) (dC : Nat → ClassId) (dI : Nat → Nat → Nat) (g : Nat → Nat) (c : Nat → ClassId) (adK adV : Nat → Nat) (v : Nat → Int32) (F : Nat → Nat → Int32) (rc sz : Nat) (d : Nat) (hg : injM g) (hI : IM v F) (hq : (v 38).toInt ≤ (v 39).toInt ∧ (v 39).toInt ≤ (v 30).toInt ∧ (v 40).toInt < 0 ∧ (v 41).toInt = 7) (hdp : dp (F 28) (F 29) (bI (v 37)) (v 38).toInt.toNat = some d) : Met l yX12_product (Cond.code yX12_product cX12_product 2 none :: wA) ({ frames := 8, cells := 0, slots := 0, locals := 320 }) (va_Pc [.ref (g 0)] (PM dC dI g c adK adV v F rc sz)) (va_Qv (fun (u : StM) => IM u.1 u.2.1 ∧ u.2.2 = rc ∧ (∀ k, k ∉ ([38, 39, 40, 41, 42] : List Nat) → u.1 k = v k) ∧ (∀ k, k ∉ ([28, 29] : List Nat) → u.2.1 k = F k) ∧ (((v 39).toInt ≤ (u.1 39).toInt ∧ (u.1 39).toInt ≤ (v 30).toInt ∧ (v 38).toInt ≤ (u.1 38).toInt ∧ (u.1 38).toInt - (v 38).toInt ≤ (u.1 39).toInt - (v 39).toInt ∧ (v 41).toInt ≤ (u.1 41).toInt ∧ ((u.1 40).toInt < 0 → (u.1 41).toInt = (v 41).toInt)) ∧ keepL (v 37) (F 28) (F 29) (u.2.1 28) (u.2.1 29) ∧ ((u.1 40).toInt < 0 → dp (u.2.1 28) (u.2.1 29) (bI (v 37)) (u.1 38).toInt.toNat = some (d + 1)))) (BM dC dI g c) (AM g sz)) 0 0 (AM g sz) := by
  refine Met.ofW (cc := cX12_product) (maxL := 2) (ret := none) (by decide) rfl ?_
  intro p e s m args below meth c0 s₁ B hml hv
  obtain ⟨rfl, hsz, hP, hK, hE⟩ := hv
  have hx := B.exec
  have hb := B.bytes
  have hr := B.returns
  have hts := atoms_spec (ws := Cond.code yX12_product cX12_product 2 none :: wA) B.pre
  have hwd : ∀ w ∈ wA, w.before _ s = true := fun w h => hts w (List.mem_cons_of_mem _ h)
  have hown : s.vm.findClass RX12 = some m.cls := findClass_of_methodNamed B.named
  have hlocks := B.notSynchronized
  subst hsz
  have hl := lv_entry ([.ref (g 0)]) (n := 2) (Nat.le_of_ble_eq_true rfl)
  rw [lg_entry_eq]
  generalize (lg_sl ([.ref (g 0)]) ++ List.replicate (2 - (lg_sl ([.ref (g 0)])).length) Slot.unset).toArray = ls at hl ⊢
  have hl : lv_has ls 2 [(0, .ref (g 0))] := hl
  obtain ⟨H, eH⟩ : ∃ z, z = s.heap := ⟨_, rfl⟩
  have hP : va_P (dC, dI) classes (wM g c v F rc) H := by rw [eH]; exact hP
  have hS : va_S (AM g s.heap.size) s.heap H [] := by rw [eH]; exact va_S.rf
  refine my_heap eH ?_
  have hF : ∀ k, k ∉ ([28, 29] : List Nat) → F k = F k := fun _ _ => rfl
  have hb30 : 0 ≤ (v 30).toInt ∧ (v 30).toInt ≤ 120 := hI.1 30 _ _ rfl
  have hb37 : 0 ≤ (v 37).toInt ∧ (v 37).toInt ≤ 9 := hI.1 37 _ _ rfl
  have hb38 : 0 ≤ (v 38).toInt ∧ (v 38).toInt ≤ 120 := hI.1 38 _ _ rfl
  have hb39 : 0 ≤ (v 39).toInt ∧ (v 39).toInt ≤ 120 := hI.1 39 _ _ rfl
  have hb41 : 0 ≤ (v 41).toInt ∧ (v 41).toInt ≤ 8 := hI.1 41 _ _ rfl
  have hk : keepL (v 37) (F 28) (F 29) (F 28) (F 29) := keepL.rf
  have hd : (v 40).toInt < 0 → dp (F 28) (F 29) (bI (v 37)) (v 38).toInt.toNat = some d := fun _ => hdp
  refine lv_aload_n hx hb dX12_product_0 rfl (lv_at hl 0 rfl) ?_
  have t12010 : 0 ≤ (v 30).toInt ∧ (v 30).toInt ≤ 120 := hI.1 30 _ _ rfl
  have t12011 : 0 ≤ (v 37).toInt ∧ (v 37).toInt ≤ 9 := hI.1 37 _ _ rfl
  have t12012 : 0 ≤ (v 38).toInt ∧ (v 38).toInt ≤ 120 := hI.1 38 _ _ rfl
  have t12013 : 0 ≤ (v 39).toInt ∧ (v 39).toInt ≤ 120 := hI.1 39 _ _ rfl
  have t12014 : 0 ≤ (v 41).toInt ∧ (v 41).toInt ≤ 8 := hI.1 41 _ _ rfl
  refine va_callv (va_runV (As := []) (rest := []) ⟨hx, hb, hml, hown, hwd⟩ (c_X12_operand_7 l dC dI g c adK adV v F rc H.size  d hg hI (by have h9 : v 38 = v 38 := rfl; (try rw [h9]); clear h9; have h9 : v 39 = v 39 := rfl; (try rw [h9]); clear h9; have h9 : v 30 = v 30 := rfl; (try rw [h9]); clear h9; have h9 : v 40 = v 40 := rfl; (try rw [h9]); clear h9; have h9 : v 41 = v 41 := rfl; (try rw [h9]); clear h9; omega) (by have h9 : v 37 = (v 37) := rfl; have h8 : v 38 = (v 38) := rfl; (try rw [h9]); (try rw [h8]); exact hd (by omega))) (cwV 0 hwd (gV wk_1030 wk_1035 wk_1036 wk_1037 wk_5) rfl rfl rfl (by decide +kernel) ⟨Nat.le_of_ble_eq_true rfl, Nat.le_of_ble_eq_true rfl⟩) ⟨PM.blind, va_recv hK hP (ci := 12) (q0 := 0) rfl rfl, fun U hU hW => ⟨rfl, PM.at hK hE hP hS hU hW⟩⟩ rfl rfl hl.1 rfl (lv_room (Nat.le_of_ble_eq_true rfl)) dX12_product_1 ⟨Nat.le_of_ble_eq_true rfl, Nat.le_of_ble_eq_true rfl⟩) hS (fun q _ h => (freeM hS) q h) (freeM hS) (fun u t H1 locs ht hvm hw hB hz1 hk1 hS => ?_)
  unfold BM at hB
  rw [ht] at hB
  obtain ⟨v12016, F12017, rc9⟩ := u
  obtain ⟨hI, hrc, hf12018, hG12019, hw⟩ := hw
  dsimp only at hI hrc hB hf12018 hG12019 hw
  have hF := frCF (by decide) hG12019 hF
  rw [hrc] at hB
  have hP : va_P (dC, dI) classes (wM g c v12016 F12017 rc) H1 := hB
  have hw : ((v 39).toInt ≤ (v12016 39).toInt ∧ (v12016 39).toInt ≤ (v 30).toInt ∧ (v 38).toInt ≤ (v12016 38).toInt ∧ (v12016 38).toInt - (v 38).toInt ≤ (v12016 39).toInt - (v 39).toInt ∧ (v 41).toInt ≤ (v12016 41).toInt ∧ ((v12016 40).toInt < 0 → (v12016 41).toInt = (v 41).toInt)) ∧ keepL (v 37) (F 28) (F 29) (F12017 28) (F12017 29) ∧ ((v12016 40).toInt < 0 → dp (F12017 28) (F12017 29) (bI (v 37)) (v12016 38).toInt.toNat = some (d + 1)) := hw
  have hw_r12015 := hw
  have t12020 : 0 ≤ (v12016 38).toInt ∧ (v12016 38).toInt ≤ 120 := hI.1 38 _ _ rfl
  have t12021 : 0 ≤ (v12016 39).toInt ∧ (v12016 39).toInt ≤ 120 := hI.1 39 _ _ rfl
  have t12022 : 0 ≤ (v12016 41).toInt ∧ (v12016 41).toInt ≤ 8 := hI.1 41 _ _ rfl
  generalize H1 = H at hP hS ⊢
  have hk := hk.tr hw_r12015.2.1
  have hd := hw_r12015.2.2
  have lp12023 : ∀ (n : Nat) (v_lp12023 : Nat → Int32) (F_lp12023 : Nat → Nat → Int32) (H : Heap) (locs : List Loc) (ls : Array Slot), ((v 39).toInt ≤ (v_lp12023 39).toInt ∧ (v_lp12023 39).toInt ≤ (v 30).toInt ∧ (v 38).toInt ≤ (v_lp12023 38).toInt ∧ (v_lp12023 38).toInt - (v 38).toInt ≤ (v_lp12023 39).toInt - (v 39).toInt ∧ (v 41).toInt ≤ (v_lp12023 41).toInt ∧ ((v_lp12023 40).toInt < 0 → (v_lp12023 41).toInt = (v 41).toInt)) → (keepL (v 37) (F 28) (F 29) (F_lp12023 28) (F_lp12023 29)) → (((v_lp12023 40).toInt < 0 → dp (F_lp12023 28) (F_lp12023 29) (bI (v 37)) (v_lp12023 38).toInt.toNat = some (d + 1))) → (121 - (v_lp12023 39).toInt ≤ (n : Int)) → (∀ k, k ∉ ([38, 39, 40, 41, 42] : List Nat) → v_lp12023 k = v12016 k) → IM v_lp12023 F_lp12023 → (∀ k, k ∉ ([28, 29] : List Nat) → F_lp12023 k = F k) → va_P (dC, dI) classes (wM g c v_lp12023 F_lp12023 rc) H → va_S (AM g s.heap.size) s.heap H locs → lv_has ls 2 [(0, .ref (g 0))] → W p l e (headSpec (Cond.code yX12_product cX12_product 2 none :: wA) ({ frames := 8, cells := 0, slots := 0, locals := 320 })).room s m ([.ref (g 0)] : List Value).toArray below meth c0 H locs 0 0 (MQ below (va_Qv (fun (u : StM) => IM u.1 u.2.1 ∧ u.2.2 = rc ∧ (∀ k, k ∉ ([38, 39, 40, 41, 42] : List Nat) → u.1 k = v k) ∧ (∀ k, k ∉ ([28, 29] : List Nat) → u.2.1 k = F k) ∧ (((v 39).toInt ≤ (u.1 39).toInt ∧ (u.1 39).toInt ≤ (v 30).toInt ∧ (v 38).toInt ≤ (u.1 38).toInt ∧ (u.1 38).toInt - (v 38).toInt ≤ (u.1 39).toInt - (v 39).toInt ∧ (v 41).toInt ≤ (u.1 41).toInt ∧ ((u.1 40).toInt < 0 → (u.1 41).toInt = (v 41).toInt)) ∧ keepL (v 37) (F 28) (F 29) (u.2.1 28) (u.2.1 29) ∧ ((u.1 40).toInt < 0 → dp (u.2.1 28) (u.2.1 29) (bI (v 37)) (u.1 38).toInt.toNat = some (d + 1)))) (BM dC dI g c) (AM g s.heap.size)) ([.ref (g 0)] : List Value).toArray s 0 0 (AM g s.heap.size)) (F0 m 4 ls []) := by
    intro n
    induction n with
    | zero =>
      intro v_lp12023 F_lp12023 H locs ls t12024 t12025 t12026 hm hf_lp12023 hI hF hP hS hl
      exfalso
      have hI1 := hI.1
      omega
    | succ n ih_lp12023 =>
      intro v_lp12023 F_lp12023 H locs ls t12024 t12025 t12026 hm hf_lp12023 hI hF hP hS hl
      have hk := t12025
      have hd := t12026
      refine lv_aload_n hx hb dX12_product_4 rfl (lv_at hl 0 rfl) ?_
      refine va_get (D := (dC, dI)) (ci := 12) (v := .int (v_lp12023 40)) (C := RX12) (T := TX12) (N := 63) hx hb hwd inA_X12 hown hK hP 0 rfl rfl 40 (by decide) (hwd _ wk_1005) (fun _ h9 => h9) rfl dX12_product_5 ?_
      refine lv_if_ge (tgt := 57) hx hb dX12_product_8 (by decide) (fun c12027 => ?_) (fun c12027 => ?_)
      · skip
        have t12028 := cv_le (a := 0) (by decide) (b := (v_lp12023 40).toInt) rfl c12027
        have hP9 : va_P (dC, dI) classes (wM g c v_lp12023 F_lp12023 rc) H := hP
        exact W.vret hx hb hr (fun t ht hW => ⟨⟨(v_lp12023, F_lp12023, rc), rfl, ⟨hI, rfl, (frC (by decide) hf_lp12023 (frC (by decide) hf12018 (fun _ _ => rfl))), hF, (by show ((v 39).toInt ≤ (v_lp12023 39).toInt ∧ (v_lp12023 39).toInt ≤ (v 30).toInt ∧ (v 38).toInt ≤ (v_lp12023 38).toInt ∧ (v_lp12023 38).toInt - (v 38).toInt ≤ (v_lp12023 39).toInt - (v 39).toInt ∧ (v 41).toInt ≤ (v_lp12023 41).toInt ∧ ((v_lp12023 40).toInt < 0 → (v_lp12023 41).toInt = (v 41).toInt)) ∧ keepL (v 37) (F 28) (F 29) (F_lp12023 28) (F_lp12023 29) ∧ ((v_lp12023 40).toInt < 0 → dp (F_lp12023 28) (F_lp12023 29) (bI (v 37)) (v_lp12023 38).toInt.toNat = some (d + 1)); exact ⟨by omega, hk, fun hf => (hd (by omega)).trans (congrArg some (by omega))⟩)⟩, (by show va_P _ _ _ t.heap; rw [ht]; exact hP9)⟩, hS.F ht⟩) hS.2.2 dX12_product_57
      · skip
        have t12029 := cv_nle (a := 0) (by decide) (b := (v_lp12023 40).toInt) rfl c12027
        refine lv_aload_n hx hb dX12_product_11 rfl (lv_at hl 0 rfl) ?_
        have t12030 : 0 ≤ (v 30).toInt ∧ (v 30).toInt ≤ 120 := by have h9 := hI.1 30 _ _ rfl; rw [show v_lp12023 30 = v 30 from (hf_lp12023 30 (by decide)).trans (hf12018 30 (by decide))] at h9; exact h9
        have t12031 : 0 ≤ (v_lp12023 39).toInt ∧ (v_lp12023 39).toInt ≤ 120 := hI.1 39 _ _ rfl
        refine va_calli (va_runV (As := []) (rest := []) ⟨hx, hb, hml, hown, hwd⟩ (c_X12_look l dC dI g c adK adV v_lp12023 F_lp12023 rc H.size  hg hI ) (cwV 0 hwd (gV wk_1017 wk_1014 wk_1015 wk_1016 wk_5) rfl rfl rfl (by decide +kernel) ⟨Nat.le_of_ble_eq_true rfl, Nat.le_of_ble_eq_true rfl⟩) ⟨PM.blind, va_recv hK hP (ci := 12) (q0 := 0) rfl rfl, fun U hU hW => ⟨rfl, PM.at hK hE hP hS hU hW⟩⟩ rfl rfl hl.1 rfl (lv_room (Nat.le_of_ble_eq_true rfl)) dX12_product_12 ⟨Nat.le_of_ble_eq_true rfl, Nat.le_of_ble_eq_true rfl⟩) hS (fun q _ h => (freeM hS) q h) (freeM hS) (fun r12032 u t H1 locs ht hvm hw hB hz1 hk1 hS => ?_)
        unfold BM at hB
        rw [ht] at hB
        have hP : va_P (dC, dI) classes (wM g c v_lp12023 F_lp12023 rc) H1 := hB
        have hw : r12032.toInt = lkM (v_lp12023 39) (v_lp12023 30) (F_lp12023 24) ∧ ((v_lp12023 39).toInt < (v_lp12023 30).toInt ∨ r12032.toInt = -1) := hw
        rw [show v_lp12023 30 = v 30 from (hf_lp12023 30 (by decide)).trans (hf12018 30 (by decide))] at hw
        rw [hF 24 (by decide)] at hw
        have hw_r12032 := hw
        generalize H1 = H at hP hS ⊢
        refine lv_bipush (v := 42) hx hb dX12_product_15 (by decide) ?_
        refine lv_icmp_eq (tgt := 29) hx hb dX12_product_17 (by decide) (fun c12033 => ?_) (fun c12033 => ?_)
        · skip
          have t12034 := cv_eq (a := r12032.toInt) rfl (b := 42) (by decide) c12033
          refine lv_aload_n hx hb dX12_product_29 rfl (lv_at hl 0 rfl) ?_
          have t12035 : 0 ≤ (v 30).toInt ∧ (v 30).toInt ≤ 120 := by have h9 := hI.1 30 _ _ rfl; rw [show v_lp12023 30 = v 30 from (hf_lp12023 30 (by decide)).trans (hf12018 30 (by decide))] at h9; exact h9
          have t12036 : 0 ≤ (v_lp12023 39).toInt ∧ (v_lp12023 39).toInt ≤ 120 := hI.1 39 _ _ rfl
          refine va_calli (va_runV (As := []) (rest := []) ⟨hx, hb, hml, hown, hwd⟩ (c_X12_look l dC dI g c adK adV v_lp12023 F_lp12023 rc H.size  hg hI ) (cwV 0 hwd (gV wk_1017 wk_1014 wk_1015 wk_1016 wk_5) rfl rfl rfl (by decide +kernel) ⟨Nat.le_of_ble_eq_true rfl, Nat.le_of_ble_eq_true rfl⟩) ⟨PM.blind, va_recv hK hP (ci := 12) (q0 := 0) rfl rfl, fun U hU hW => ⟨rfl, PM.at hK hE hP hS hU hW⟩⟩ rfl rfl hl.1 rfl (lv_room (Nat.le_of_ble_eq_true rfl)) dX12_product_30 ⟨Nat.le_of_ble_eq_true rfl, Nat.le_of_ble_eq_true rfl⟩) hS (fun q _ h => (freeM hS) q h) (freeM hS) (fun r12037 u t H1 locs ht hvm hw hB hz1 hk1 hS => ?_)
          unfold BM at hB
          rw [ht] at hB
          have hP : va_P (dC, dI) classes (wM g c v_lp12023 F_lp12023 rc) H1 := hB
          have hw : r12037.toInt = lkM (v_lp12023 39) (v_lp12023 30) (F_lp12023 24) ∧ ((v_lp12023 39).toInt < (v_lp12023 30).toInt ∨ r12037.toInt = -1) := hw
          rw [show v_lp12023 30 = v 30 from (hf_lp12023 30 (by decide)).trans (hf12018 30 (by decide))] at hw
          rw [hF 24 (by decide)] at hw
          have hw_r12037 := hw
          generalize H1 = H at hP hS ⊢
          refine lv_istore_n (lv' := [(1, .int r12037), (0, .ref (g 0))]) hx hb dX12_product_33 rfl hl (by decide) rfl (fun ls hl => ?_)
          refine lv_aload_n hx hb dX12_product_34 rfl (lv_at hl 1 rfl) ?_
          refine lv_dup hx hb dX12_product_35 rfl ?_
          refine va_get (D := (dC, dI)) (ci := 12) (v := .int (v_lp12023 39)) (C := RX12) (T := TX12) (N := 63) hx hb hwd inA_X12 hown hK hP 0 rfl rfl 39 (by decide) (hwd _ wk_1004) (fun _ h9 => h9) rfl dX12_product_36 ?_
          have t12038 : 0 ≤ (v_lp12023 39).toInt ∧ (v_lp12023 39).toInt ≤ 120 := hI.1 39 _ _ rfl
          refine lv_iconst (v := 1) hx hb dX12_product_39 (by decide) ?_
          refine lv_iadd hx hb dX12_product_40 ?_
          refine lv_topi (fun z12039 e12040 => ?_)
          try (have t12041 := tadd e12040 (a := (v_lp12023 39).toInt) rfl (b := 1) (by decide) (by omega))
          refine va_put (D := (dC, dI)) (ci := 12) (v := .int z12039) (ty := .int) (C := RX12) (T := TX12) (N := 63) (fs := fsM_0 g v_lp12023 rc) hx hb hwd inA_X12 tyX12 tyX12_ok nmX12 hown hK hP (DM hg) hS 0 rfl rfl 39 (by decide) (hwd _ wk_1004) (fun _ h9 => h9) rfl (by decide +kernel) rfl rfl (Nat.le_of_ble_eq_true rfl) dX12_product_41 (fun H locs hP _ hS => ?_)
          have hP := va_P_eq (pM_39 g c _ _ _ _) hP
          have hI := IM.put hI 39 z12039 rfl (by omega)
          refine lv_aload_n hx hb dX12_product_44 rfl (lv_at hl 1 rfl) ?_
          have t12042 : 0 ≤ (v 30).toInt ∧ (v 30).toInt ≤ 120 := by have h9 := hI.1 30 _ _ rfl; rw [show (va_up v_lp12023 39 z12039) 30 = v 30 from (hf_lp12023 30 (by decide)).trans (hf12018 30 (by decide))] at h9; exact h9
          have t12043 : 0 ≤ (v 37).toInt ∧ (v 37).toInt ≤ 9 := by have h9 := hI.1 37 _ _ rfl; rw [show (va_up v_lp12023 39 z12039) 37 = v 37 from (hf_lp12023 37 (by decide)).trans (hf12018 37 (by decide))] at h9; exact h9
          have t12044 : 0 ≤ (v_lp12023 38).toInt ∧ (v_lp12023 38).toInt ≤ 120 := hI.1 38 _ _ rfl
          have t12045 : 0 ≤ z12039.toInt ∧ z12039.toInt ≤ 120 := hI.1 39 _ _ rfl
          have t12046 : 0 ≤ (v_lp12023 41).toInt ∧ (v_lp12023 41).toInt ≤ 8 := hI.1 41 _ _ rfl
          refine va_callv (va_runV (As := []) (rest := []) ⟨hx, hb, hml, hown, hwd⟩ (c_X12_operand_7 l dC dI g c adK adV (va_up v_lp12023 39 z12039) F_lp12023 rc H.size  (d + 1) hg hI (by have h9 : (va_up v_lp12023 39 z12039) 38 = v_lp12023 38 := rfl; (try rw [h9]); clear h9; have h9 : (va_up v_lp12023 39 z12039) 39 = z12039 := rfl; (try rw [h9]); clear h9; have h9 : (va_up v_lp12023 39 z12039) 30 = v 30 := (hf_lp12023 30 (by decide)).trans (hf12018 30 (by decide)); (try rw [h9]); clear h9; have h9 : (va_up v_lp12023 39 z12039) 40 = v_lp12023 40 := rfl; (try rw [h9]); clear h9; have h9 : (va_up v_lp12023 39 z12039) 41 = v_lp12023 41 := rfl; (try rw [h9]); clear h9; omega) (by have h9 : (va_up v_lp12023 39 z12039) 37 = (v 37) := (hf_lp12023 37 (by decide)).trans (hf12018 37 (by decide)); have h8 : (va_up v_lp12023 39 z12039) 38 = (v_lp12023 38) := rfl; (try rw [h9]); (try rw [h8]); exact hd (by omega))) (cwV 0 hwd (gV wk_1030 wk_1035 wk_1036 wk_1037 wk_5) rfl rfl rfl (by decide +kernel) ⟨Nat.le_of_ble_eq_true rfl, Nat.le_of_ble_eq_true rfl⟩) ⟨PM.blind, va_recv hK hP (ci := 12) (q0 := 0) rfl rfl, fun U hU hW => ⟨rfl, PM.at hK hE hP hS hU hW⟩⟩ rfl rfl hl.1 rfl (lv_room (Nat.le_of_ble_eq_true rfl)) dX12_product_45 ⟨Nat.le_of_ble_eq_true rfl, Nat.le_of_ble_eq_true rfl⟩) hS (fun q _ h => (freeM hS) q h) (freeM hS) (fun u t H1 locs ht hvm hw hB hz1 hk1 hS => ?_)
          unfold BM at hB
          rw [ht] at hB
          obtain ⟨v12048, F12049, rc9⟩ := u
          obtain ⟨hI, hrc, hf12050, hG12051, hw⟩ := hw
          dsimp only at hI hrc hB hf12050 hG12051 hw
          have hF := frCF (by decide) hG12051 hF
          rw [hrc] at hB
          have hP : va_P (dC, dI) classes (wM g c v12048 F12049 rc) H1 := hB
          have hw : (z12039.toInt ≤ (v12048 39).toInt ∧ (v12048 39).toInt ≤ ((va_up v_lp12023 39 z12039) 30).toInt ∧ (v_lp12023 38).toInt ≤ (v12048 38).toInt ∧ (v12048 38).toInt - (v_lp12023 38).toInt ≤ (v12048 39).toInt - z12039.toInt ∧ (v_lp12023 41).toInt ≤ (v12048 41).toInt ∧ ((v12048 40).toInt < 0 → (v12048 41).toInt = (v_lp12023 41).toInt)) ∧ keepL ((va_up v_lp12023 39 z12039) 37) (F_lp12023 28) (F_lp12023 29) (F12049 28) (F12049 29) ∧ ((v12048 40).toInt < 0 → dp (F12049 28) (F12049 29) (bI ((va_up v_lp12023 39 z12039) 37)) (v12048 38).toInt.toNat = some ((d + 1) + 1)) := hw
          rw [show (va_up v_lp12023 39 z12039) 30 = v 30 from (hf_lp12023 30 (by decide)).trans (hf12018 30 (by decide))] at hw
          rw [show (va_up v_lp12023 39 z12039) 37 = v 37 from (hf_lp12023 37 (by decide)).trans (hf12018 37 (by decide))] at hw
          have hw_r12047 := hw
          have t12052 : 0 ≤ (v12048 38).toInt ∧ (v12048 38).toInt ≤ 120 := hI.1 38 _ _ rfl
          have t12053 : 0 ≤ (v12048 39).toInt ∧ (v12048 39).toInt ≤ 120 := hI.1 39 _ _ rfl
          have t12054 : 0 ≤ (v12048 41).toInt ∧ (v12048 41).toInt ≤ 8 := hI.1 41 _ _ rfl
          generalize H1 = H at hP hS ⊢
          have hk := hk.tr hw_r12047.2.1
          have hd := hw_r12047.2.2
          refine lv_aload_n hx hb dX12_product_48 rfl (lv_at hl 1 rfl) ?_
          refine lv_iload_n hx hb dX12_product_49 rfl (lv_at hl 0 rfl) ?_
          refine lv_iconst (v := 0) hx hb dX12_product_50 (by decide) ?_
          have t12055 : 0 ≤ (v 37).toInt ∧ (v 37).toInt ≤ 9 := by have h9 := hI.1 37 _ _ rfl; rw [show v12048 37 = v 37 from (hf12050 37 (by decide)).trans ((hf_lp12023 37 (by decide)).trans (hf12018 37 (by decide)))] at h9; exact h9
          have t12056 : 0 ≤ (v12048 38).toInt ∧ (v12048 38).toInt ≤ 120 := hI.1 38 _ _ rfl
          refine va_callv (va_runV (As := [.int r12037, .int 0]) (rest := []) ⟨hx, hb, hml, hown, hwd⟩ (c_X12_lay l dC dI g c adK adV v12048 F12049 rc H.size r12037 0 hg hI (by have h9 : v12048 38 = v12048 38 := rfl; rw [h9]; omega)) (cwV 2 hwd (gV wk_1021 wk_1018 wk_1019 wk_1020 wk_5) rfl rfl rfl (by decide +kernel) ⟨Nat.le_of_ble_eq_true rfl, Nat.le_of_ble_eq_true rfl⟩) ⟨PM.blind, va_recv hK hP (ci := 12) (q0 := 0) rfl rfl, fun U hU hW => ⟨rfl, PM.at hK hE hP hS hU hW⟩⟩ rfl rfl hl.1 rfl (lv_room (Nat.le_of_ble_eq_true rfl)) dX12_product_51 ⟨Nat.le_of_ble_eq_true rfl, Nat.le_of_ble_eq_true rfl⟩) hS (fun q _ h => (freeM hS) q h) (freeM hS) (fun u t H1 locs ht hvm hw hB hz1 hk1 hS => ?_)
          unfold BM at hB
          rw [ht] at hB
          obtain ⟨v12058, F12059, rc9⟩ := u
          obtain ⟨hI, hrc, hf12060, hG12061, hw⟩ := hw
          dsimp only at hI hrc hB hf12060 hG12061 hw
          have hF := frCF (by decide) hG12061 hF
          rw [hrc] at hB
          have hP : va_P (dC, dI) classes (wM g c v12058 F12059 rc) H1 := hB
          have hw : (v12058 38).toInt = (v12048 38).toInt + 1 ∧ keepL (v12048 37) (F12049 28) (F12049 29) (F12059 28) (F12059 29) ∧ dp (F12059 28) (F12059 29) (bI (v12048 37)) ((v12048 38).toInt.toNat + 1) = dpS (dp (F12049 28) (F12049 29) (bI (v12048 37)) (v12048 38).toInt.toNat) r12037 (0 : Int32) := hw
          rw [show v12048 37 = v 37 from (hf12050 37 (by decide)).trans ((hf_lp12023 37 (by decide)).trans (hf12018 37 (by decide)))] at hw
          have hw_r12057 := hw
          have t12062 : 0 ≤ (v12058 38).toInt ∧ (v12058 38).toInt ≤ 120 := hI.1 38 _ _ rfl
          have k12063 : (0 : Int32).toInt = 0 := by decide
          generalize H1 = H at hP hS ⊢
          have hk := hk.tr hw_r12057.2.1
          have hd : (v12048 40).toInt < 0 → dp (F12059 28) (F12059 29) (bI (v 37)) (v12058 38).toInt.toNat = some (((d + 1) + 1) - 1) := fun hf => (by have e9 : (v12058 38).toInt.toNat = (v12048 38).toInt.toNat + 1 := (by omega); rw [e9, hw_r12057.2.2, hd hf]; exact dpS_5 (by omega) (by omega) (by omega) (by omega) (by omega))
          refine lv_goto (tgt := 4) hx hb dX12_product_54 (by decide) ?_
          exact ih_lp12023  v12058 F12059 _ _ _ (by have h9 : v12058 39 = v12048 39 := hf12060 39 (by decide); (try rw [h9]); clear h9; have h9 : v12058 38 = v12058 38 := rfl; (try rw [h9]); clear h9; have h9 : v12058 41 = v12048 41 := hf12060 41 (by decide); (try rw [h9]); clear h9; have h9 : v12058 40 = v12048 40 := hf12060 40 (by decide); (try rw [h9]); clear h9; omega) hk (by have h9 : v12058 40 = v12048 40 := hf12060 40 (by decide); (try rw [h9]); clear h9; have h9 : v12058 38 = v12058 38 := rfl; (try rw [h9]); clear h9; exact fun hf => (hd (by omega)).trans (congrArg some (by omega))) (by have h9 : v12058 39 = v12048 39 := hf12060 39 (by decide); rw [h9]; omega) (frC (by decide) hf12060 (frC (by decide) hf12050 (frU (by decide) hf_lp12023))) hI hF hP hS (lv_sub hl [1] rfl)
        · skip
          have t12064 := cv_ne (a := r12032.toInt) rfl (b := 42) (by decide) c12033
          refine lv_aload_n hx hb dX12_product_20 rfl (lv_at hl 0 rfl) ?_
          have t12065 : 0 ≤ (v 30).toInt ∧ (v 30).toInt ≤ 120 := by have h9 := hI.1 30 _ _ rfl; rw [show v_lp12023 30 = v 30 from (hf_lp12023 30 (by decide)).trans (hf12018 30 (by decide))] at h9; exact h9
          have t12066 : 0 ≤ (v_lp12023 39).toInt ∧ (v_lp12023 39).toInt ≤ 120 := hI.1 39 _ _ rfl
          refine va_calli (va_runV (As := []) (rest := []) ⟨hx, hb, hml, hown, hwd⟩ (c_X12_look l dC dI g c adK adV v_lp12023 F_lp12023 rc H.size  hg hI ) (cwV 0 hwd (gV wk_1017 wk_1014 wk_1015 wk_1016 wk_5) rfl rfl rfl (by decide +kernel) ⟨Nat.le_of_ble_eq_true rfl, Nat.le_of_ble_eq_true rfl⟩) ⟨PM.blind, va_recv hK hP (ci := 12) (q0 := 0) rfl rfl, fun U hU hW => ⟨rfl, PM.at hK hE hP hS hU hW⟩⟩ rfl rfl hl.1 rfl (lv_room (Nat.le_of_ble_eq_true rfl)) dX12_product_21 ⟨Nat.le_of_ble_eq_true rfl, Nat.le_of_ble_eq_true rfl⟩) hS (fun q _ h => (freeM hS) q h) (freeM hS) (fun r12067 u t H1 locs ht hvm hw hB hz1 hk1 hS => ?_)
          unfold BM at hB
          rw [ht] at hB
          have hP : va_P (dC, dI) classes (wM g c v_lp12023 F_lp12023 rc) H1 := hB
          have hw : r12067.toInt = lkM (v_lp12023 39) (v_lp12023 30) (F_lp12023 24) ∧ ((v_lp12023 39).toInt < (v_lp12023 30).toInt ∨ r12067.toInt = -1) := hw
          rw [show v_lp12023 30 = v 30 from (hf_lp12023 30 (by decide)).trans (hf12018 30 (by decide))] at hw
          rw [hF 24 (by decide)] at hw
          have hw_r12067 := hw
          generalize H1 = H at hP hS ⊢
          refine lv_bipush (v := 47) hx hb dX12_product_24 (by decide) ?_
          refine lv_icmp_ne (tgt := 57) hx hb dX12_product_26 (by decide) (fun c12068 => ?_) (fun c12068 => ?_)
          · skip
            have t12069 := cv_ne (a := r12067.toInt) rfl (b := 47) (by decide) c12068
            have hP9 : va_P (dC, dI) classes (wM g c v_lp12023 F_lp12023 rc) H := hP
            exact W.vret hx hb hr (fun t ht hW => ⟨⟨(v_lp12023, F_lp12023, rc), rfl, ⟨hI, rfl, (frC (by decide) hf_lp12023 (frC (by decide) hf12018 (fun _ _ => rfl))), hF, (by show ((v 39).toInt ≤ (v_lp12023 39).toInt ∧ (v_lp12023 39).toInt ≤ (v 30).toInt ∧ (v 38).toInt ≤ (v_lp12023 38).toInt ∧ (v_lp12023 38).toInt - (v 38).toInt ≤ (v_lp12023 39).toInt - (v 39).toInt ∧ (v 41).toInt ≤ (v_lp12023 41).toInt ∧ ((v_lp12023 40).toInt < 0 → (v_lp12023 41).toInt = (v 41).toInt)) ∧ keepL (v 37) (F 28) (F 29) (F_lp12023 28) (F_lp12023 29) ∧ ((v_lp12023 40).toInt < 0 → dp (F_lp12023 28) (F_lp12023 29) (bI (v 37)) (v_lp12023 38).toInt.toNat = some (d + 1)); exact ⟨by omega, hk, fun hf => (hd (by omega)).trans (congrArg some (by omega))⟩)⟩, (by show va_P _ _ _ t.heap; rw [ht]; exact hP9)⟩, hS.F ht⟩) hS.2.2 dX12_product_57
          · skip
            have t12070 := cv_eq (a := r12067.toInt) rfl (b := 47) (by decide) c12068
            refine lv_aload_n hx hb dX12_product_29 rfl (lv_at hl 0 rfl) ?_
            have t12071 : 0 ≤ (v 30).toInt ∧ (v 30).toInt ≤ 120 := by have h9 := hI.1 30 _ _ rfl; rw [show v_lp12023 30 = v 30 from (hf_lp12023 30 (by decide)).trans (hf12018 30 (by decide))] at h9; exact h9
            have t12072 : 0 ≤ (v_lp12023 39).toInt ∧ (v_lp12023 39).toInt ≤ 120 := hI.1 39 _ _ rfl
            refine va_calli (va_runV (As := []) (rest := []) ⟨hx, hb, hml, hown, hwd⟩ (c_X12_look l dC dI g c adK adV v_lp12023 F_lp12023 rc H.size  hg hI ) (cwV 0 hwd (gV wk_1017 wk_1014 wk_1015 wk_1016 wk_5) rfl rfl rfl (by decide +kernel) ⟨Nat.le_of_ble_eq_true rfl, Nat.le_of_ble_eq_true rfl⟩) ⟨PM.blind, va_recv hK hP (ci := 12) (q0 := 0) rfl rfl, fun U hU hW => ⟨rfl, PM.at hK hE hP hS hU hW⟩⟩ rfl rfl hl.1 rfl (lv_room (Nat.le_of_ble_eq_true rfl)) dX12_product_30 ⟨Nat.le_of_ble_eq_true rfl, Nat.le_of_ble_eq_true rfl⟩) hS (fun q _ h => (freeM hS) q h) (freeM hS) (fun r12073 u t H1 locs ht hvm hw hB hz1 hk1 hS => ?_)
            unfold BM at hB
            rw [ht] at hB
            have hP : va_P (dC, dI) classes (wM g c v_lp12023 F_lp12023 rc) H1 := hB
            have hw : r12073.toInt = lkM (v_lp12023 39) (v_lp12023 30) (F_lp12023 24) ∧ ((v_lp12023 39).toInt < (v_lp12023 30).toInt ∨ r12073.toInt = -1) := hw
            rw [show v_lp12023 30 = v 30 from (hf_lp12023 30 (by decide)).trans (hf12018 30 (by decide))] at hw
            rw [hF 24 (by decide)] at hw
            have hw_r12073 := hw
            generalize H1 = H at hP hS ⊢
            refine lv_istore_n (lv' := [(1, .int r12073), (0, .ref (g 0))]) hx hb dX12_product_33 rfl hl (by decide) rfl (fun ls hl => ?_)
            refine lv_aload_n hx hb dX12_product_34 rfl (lv_at hl 1 rfl) ?_
            refine lv_dup hx hb dX12_product_35 rfl ?_
            refine va_get (D := (dC, dI)) (ci := 12) (v := .int (v_lp12023 39)) (C := RX12) (T := TX12) (N := 63) hx hb hwd inA_X12 hown hK hP 0 rfl rfl 39 (by decide) (hwd _ wk_1004) (fun _ h9 => h9) rfl dX12_product_36 ?_
            have t12074 : 0 ≤ (v_lp12023 39).toInt ∧ (v_lp12023 39).toInt ≤ 120 := hI.1 39 _ _ rfl
            refine lv_iconst (v := 1) hx hb dX12_product_39 (by decide) ?_
            refine lv_iadd hx hb dX12_product_40 ?_
            refine lv_topi (fun z12075 e12076 => ?_)
            try (have t12077 := tadd e12076 (a := (v_lp12023 39).toInt) rfl (b := 1) (by decide) (by omega))
            refine va_put (D := (dC, dI)) (ci := 12) (v := .int z12075) (ty := .int) (C := RX12) (T := TX12) (N := 63) (fs := fsM_0 g v_lp12023 rc) hx hb hwd inA_X12 tyX12 tyX12_ok nmX12 hown hK hP (DM hg) hS 0 rfl rfl 39 (by decide) (hwd _ wk_1004) (fun _ h9 => h9) rfl (by decide +kernel) rfl rfl (Nat.le_of_ble_eq_true rfl) dX12_product_41 (fun H locs hP _ hS => ?_)
            have hP := va_P_eq (pM_39 g c _ _ _ _) hP
            have hI := IM.put hI 39 z12075 rfl (by omega)
            refine lv_aload_n hx hb dX12_product_44 rfl (lv_at hl 1 rfl) ?_
            have t12078 : 0 ≤ (v 30).toInt ∧ (v 30).toInt ≤ 120 := by have h9 := hI.1 30 _ _ rfl; rw [show (va_up v_lp12023 39 z12075) 30 = v 30 from (hf_lp12023 30 (by decide)).trans (hf12018 30 (by decide))] at h9; exact h9
            have t12079 : 0 ≤ (v 37).toInt ∧ (v 37).toInt ≤ 9 := by have h9 := hI.1 37 _ _ rfl; rw [show (va_up v_lp12023 39 z12075) 37 = v 37 from (hf_lp12023 37 (by decide)).trans (hf12018 37 (by decide))] at h9; exact h9
            have t12080 : 0 ≤ (v_lp12023 38).toInt ∧ (v_lp12023 38).toInt ≤ 120 := hI.1 38 _ _ rfl
            have t12081 : 0 ≤ z12075.toInt ∧ z12075.toInt ≤ 120 := hI.1 39 _ _ rfl
            have t12082 : 0 ≤ (v_lp12023 41).toInt ∧ (v_lp12023 41).toInt ≤ 8 := hI.1 41 _ _ rfl
            refine va_callv (va_runV (As := []) (rest := []) ⟨hx, hb, hml, hown, hwd⟩ (c_X12_operand_7 l dC dI g c adK adV (va_up v_lp12023 39 z12075) F_lp12023 rc H.size  (d + 1) hg hI (by have h9 : (va_up v_lp12023 39 z12075) 38 = v_lp12023 38 := rfl; (try rw [h9]); clear h9; have h9 : (va_up v_lp12023 39 z12075) 39 = z12075 := rfl; (try rw [h9]); clear h9; have h9 : (va_up v_lp12023 39 z12075) 30 = v 30 := (hf_lp12023 30 (by decide)).trans (hf12018 30 (by decide)); (try rw [h9]); clear h9; have h9 : (va_up v_lp12023 39 z12075) 40 = v_lp12023 40 := rfl; (try rw [h9]); clear h9; have h9 : (va_up v_lp12023 39 z12075) 41 = v_lp12023 41 := rfl; (try rw [h9]); clear h9; omega) (by have h9 : (va_up v_lp12023 39 z12075) 37 = (v 37) := (hf_lp12023 37 (by decide)).trans (hf12018 37 (by decide)); have h8 : (va_up v_lp12023 39 z12075) 38 = (v_lp12023 38) := rfl; (try rw [h9]); (try rw [h8]); exact hd (by omega))) (cwV 0 hwd (gV wk_1030 wk_1035 wk_1036 wk_1037 wk_5) rfl rfl rfl (by decide +kernel) ⟨Nat.le_of_ble_eq_true rfl, Nat.le_of_ble_eq_true rfl⟩) ⟨PM.blind, va_recv hK hP (ci := 12) (q0 := 0) rfl rfl, fun U hU hW => ⟨rfl, PM.at hK hE hP hS hU hW⟩⟩ rfl rfl hl.1 rfl (lv_room (Nat.le_of_ble_eq_true rfl)) dX12_product_45 ⟨Nat.le_of_ble_eq_true rfl, Nat.le_of_ble_eq_true rfl⟩) hS (fun q _ h => (freeM hS) q h) (freeM hS) (fun u t H1 locs ht hvm hw hB hz1 hk1 hS => ?_)
            unfold BM at hB
            rw [ht] at hB
            obtain ⟨v12084, F12085, rc9⟩ := u
            obtain ⟨hI, hrc, hf12086, hG12087, hw⟩ := hw
            dsimp only at hI hrc hB hf12086 hG12087 hw
            have hF := frCF (by decide) hG12087 hF
            rw [hrc] at hB
            have hP : va_P (dC, dI) classes (wM g c v12084 F12085 rc) H1 := hB
            have hw : (z12075.toInt ≤ (v12084 39).toInt ∧ (v12084 39).toInt ≤ ((va_up v_lp12023 39 z12075) 30).toInt ∧ (v_lp12023 38).toInt ≤ (v12084 38).toInt ∧ (v12084 38).toInt - (v_lp12023 38).toInt ≤ (v12084 39).toInt - z12075.toInt ∧ (v_lp12023 41).toInt ≤ (v12084 41).toInt ∧ ((v12084 40).toInt < 0 → (v12084 41).toInt = (v_lp12023 41).toInt)) ∧ keepL ((va_up v_lp12023 39 z12075) 37) (F_lp12023 28) (F_lp12023 29) (F12085 28) (F12085 29) ∧ ((v12084 40).toInt < 0 → dp (F12085 28) (F12085 29) (bI ((va_up v_lp12023 39 z12075) 37)) (v12084 38).toInt.toNat = some ((d + 1) + 1)) := hw
            rw [show (va_up v_lp12023 39 z12075) 30 = v 30 from (hf_lp12023 30 (by decide)).trans (hf12018 30 (by decide))] at hw
            rw [show (va_up v_lp12023 39 z12075) 37 = v 37 from (hf_lp12023 37 (by decide)).trans (hf12018 37 (by decide))] at hw
            have hw_r12083 := hw
            have t12088 : 0 ≤ (v12084 38).toInt ∧ (v12084 38).toInt ≤ 120 := hI.1 38 _ _ rfl
            have t12089 : 0 ≤ (v12084 39).toInt ∧ (v12084 39).toInt ≤ 120 := hI.1 39 _ _ rfl
            have t12090 : 0 ≤ (v12084 41).toInt ∧ (v12084 41).toInt ≤ 8 := hI.1 41 _ _ rfl
            generalize H1 = H at hP hS ⊢
            have hk := hk.tr hw_r12083.2.1
            have hd := hw_r12083.2.2
            refine lv_aload_n hx hb dX12_product_48 rfl (lv_at hl 1 rfl) ?_
            refine lv_iload_n hx hb dX12_product_49 rfl (lv_at hl 0 rfl) ?_
            refine lv_iconst (v := 0) hx hb dX12_product_50 (by decide) ?_
            have t12091 : 0 ≤ (v 37).toInt ∧ (v 37).toInt ≤ 9 := by have h9 := hI.1 37 _ _ rfl; rw [show v12084 37 = v 37 from (hf12086 37 (by decide)).trans ((hf_lp12023 37 (by decide)).trans (hf12018 37 (by decide)))] at h9; exact h9
            have t12092 : 0 ≤ (v12084 38).toInt ∧ (v12084 38).toInt ≤ 120 := hI.1 38 _ _ rfl
            refine va_callv (va_runV (As := [.int r12073, .int 0]) (rest := []) ⟨hx, hb, hml, hown, hwd⟩ (c_X12_lay l dC dI g c adK adV v12084 F12085 rc H.size r12073 0 hg hI (by have h9 : v12084 38 = v12084 38 := rfl; rw [h9]; omega)) (cwV 2 hwd (gV wk_1021 wk_1018 wk_1019 wk_1020 wk_5) rfl rfl rfl (by decide +kernel) ⟨Nat.le_of_ble_eq_true rfl, Nat.le_of_ble_eq_true rfl⟩) ⟨PM.blind, va_recv hK hP (ci := 12) (q0 := 0) rfl rfl, fun U hU hW => ⟨rfl, PM.at hK hE hP hS hU hW⟩⟩ rfl rfl hl.1 rfl (lv_room (Nat.le_of_ble_eq_true rfl)) dX12_product_51 ⟨Nat.le_of_ble_eq_true rfl, Nat.le_of_ble_eq_true rfl⟩) hS (fun q _ h => (freeM hS) q h) (freeM hS) (fun u t H1 locs ht hvm hw hB hz1 hk1 hS => ?_)
            unfold BM at hB
            rw [ht] at hB
            obtain ⟨v12094, F12095, rc9⟩ := u
            obtain ⟨hI, hrc, hf12096, hG12097, hw⟩ := hw
            dsimp only at hI hrc hB hf12096 hG12097 hw
            have hF := frCF (by decide) hG12097 hF
            rw [hrc] at hB
            have hP : va_P (dC, dI) classes (wM g c v12094 F12095 rc) H1 := hB
            have hw : (v12094 38).toInt = (v12084 38).toInt + 1 ∧ keepL (v12084 37) (F12085 28) (F12085 29) (F12095 28) (F12095 29) ∧ dp (F12095 28) (F12095 29) (bI (v12084 37)) ((v12084 38).toInt.toNat + 1) = dpS (dp (F12085 28) (F12085 29) (bI (v12084 37)) (v12084 38).toInt.toNat) r12073 (0 : Int32) := hw
            rw [show v12084 37 = v 37 from (hf12086 37 (by decide)).trans ((hf_lp12023 37 (by decide)).trans (hf12018 37 (by decide)))] at hw
            have hw_r12093 := hw
            have t12098 : 0 ≤ (v12094 38).toInt ∧ (v12094 38).toInt ≤ 120 := hI.1 38 _ _ rfl
            have k12099 : (0 : Int32).toInt = 0 := by decide
            generalize H1 = H at hP hS ⊢
            have hk := hk.tr hw_r12093.2.1
            have hd : (v12084 40).toInt < 0 → dp (F12095 28) (F12095 29) (bI (v 37)) (v12094 38).toInt.toNat = some (((d + 1) + 1) - 1) := fun hf => (by have e9 : (v12094 38).toInt.toNat = (v12084 38).toInt.toNat + 1 := (by omega); rw [e9, hw_r12093.2.2, hd hf]; exact dpS_5 (by omega) (by omega) (by omega) (by omega) (by omega))
            refine lv_goto (tgt := 4) hx hb dX12_product_54 (by decide) ?_
            exact ih_lp12023  v12094 F12095 _ _ _ (by have h9 : v12094 39 = v12084 39 := hf12096 39 (by decide); (try rw [h9]); clear h9; have h9 : v12094 38 = v12094 38 := rfl; (try rw [h9]); clear h9; have h9 : v12094 41 = v12084 41 := hf12096 41 (by decide); (try rw [h9]); clear h9; have h9 : v12094 40 = v12084 40 := hf12096 40 (by decide); (try rw [h9]); clear h9; omega) hk (by have h9 : v12094 40 = v12084 40 := hf12096 40 (by decide); (try rw [h9]); clear h9; have h9 : v12094 38 = v12094 38 := rfl; (try rw [h9]); clear h9; exact fun hf => (hd (by omega)).trans (congrArg some (by omega))) (by have h9 : v12094 39 = v12084 39 := hf12096 39 (by decide); rw [h9]; omega) (frC (by decide) hf12096 (frC (by decide) hf12086 (frU (by decide) hf_lp12023))) hI hF hP hS (lv_sub hl [1] rfl)
  obtain ⟨n9, hn9⟩ : ∃ n : Nat, 121 - (v12016 39).toInt ≤ (n : Int) := ⟨((121 - (v12016 39).toInt : Int)).toNat, by omega⟩
  exact lp12023 n9  v12016 F12017 H _ ls (by have h9 : v12016 39 = v12016 39 := rfl; (try rw [h9]); clear h9; have h9 : v12016 38 = v12016 38 := rfl; (try rw [h9]); clear h9; have h9 : v12016 41 = v12016 41 := rfl; (try rw [h9]); clear h9; have h9 : v12016 40 = v12016 40 := rfl; (try rw [h9]); clear h9; omega) hk (by have h9 : v12016 40 = v12016 40 := rfl; (try rw [h9]); clear h9; have h9 : v12016 38 = v12016 38 := rfl; (try rw [h9]); clear h9; exact fun hf => (hd (by omega)).trans (congrArg some (by omega))) (by have h9 : v12016 39 = v12016 39 := rfl; rw [h9]; omega) (fun _ _ => rfl) hI hF hP hS hl
set_option maxHeartbeats 8000000 in
set_option maxRecDepth 100000 in
theorem c_X12_sum_7 (l : Launch) (dC : Nat → ClassId) (dI : Nat → Nat → Nat) (g : Nat → Nat) (c : Nat → ClassId) (adK adV : Nat → Nat) (v : Nat → Int32) (F : Nat → Nat → Int32) (rc sz : Nat) (d : Nat) (hg : injM g) (hI : IM v F) (hq : (v 38).toInt ≤ (v 39).toInt ∧ (v 39).toInt ≤ (v 30).toInt ∧ (v 40).toInt < 0 ∧ (v 41).toInt = 7) (hdp : dp (F 28) (F 29) (bI (v 37)) (v 38).toInt.toNat = some d) : Met l yX12_sum (Cond.code yX12_sum cX12_sum 2 none :: wA) ({ frames := 9, cells := 0, slots := 0, locals := 360 }) (va_Pc [.ref (g 0)] (PM dC dI g c adK adV v F rc sz)) (va_Qv (fun (u : StM) => IM u.1 u.2.1 ∧ u.2.2 = rc ∧ (∀ k, k ∉ ([38, 39, 40, 41, 42] : List Nat) → u.1 k = v k) ∧ (∀ k, k ∉ ([28, 29] : List Nat) → u.2.1 k = F k) ∧ (((v 39).toInt ≤ (u.1 39).toInt ∧ (u.1 39).toInt ≤ (v 30).toInt ∧ (v 38).toInt ≤ (u.1 38).toInt ∧ (u.1 38).toInt - (v 38).toInt ≤ (u.1 39).toInt - (v 39).toInt ∧ (v 41).toInt ≤ (u.1 41).toInt ∧ ((u.1 40).toInt < 0 → (u.1 41).toInt = (v 41).toInt)) ∧ keepL (v 37) (F 28) (F 29) (u.2.1 28) (u.2.1 29) ∧ ((u.1 40).toInt < 0 → dp (u.2.1 28) (u.2.1 29) (bI (v 37)) (u.1 38).toInt.toNat = some (d + 1)))) (BM dC dI g c) (AM g sz)) 0 0 (AM g sz) := by
  refine Met.ofW (cc := cX12_sum) (maxL := 2) (ret := none) (by decide) rfl ?_
  intro p e s m args below meth c0 s₁ B hml hv
  obtain ⟨rfl, hsz, hP, hK, hE⟩ := hv
  have hx := B.exec
  have hb := B.bytes
  have hr := B.returns
  have hts := atoms_spec (ws := Cond.code yX12_sum cX12_sum 2 none :: wA) B.pre
  have hwd : ∀ w ∈ wA, w.before _ s = true := fun w h => hts w (List.mem_cons_of_mem _ h)
  have hown : s.vm.findClass RX12 = some m.cls := findClass_of_methodNamed B.named
  have hlocks := B.notSynchronized
  subst hsz
  have hl := lv_entry ([.ref (g 0)]) (n := 2) (Nat.le_of_ble_eq_true rfl)
  rw [lg_entry_eq]
  generalize (lg_sl ([.ref (g 0)]) ++ List.replicate (2 - (lg_sl ([.ref (g 0)])).length) Slot.unset).toArray = ls at hl ⊢
  have hl : lv_has ls 2 [(0, .ref (g 0))] := hl
  obtain ⟨H, eH⟩ : ∃ z, z = s.heap := ⟨_, rfl⟩
  have hP : va_P (dC, dI) classes (wM g c v F rc) H := by rw [eH]; exact hP
  have hS : va_S (AM g s.heap.size) s.heap H [] := by rw [eH]; exact va_S.rf
  refine my_heap eH ?_
  have hF : ∀ k, k ∉ ([28, 29] : List Nat) → F k = F k := fun _ _ => rfl
  have hb30 : 0 ≤ (v 30).toInt ∧ (v 30).toInt ≤ 120 := hI.1 30 _ _ rfl
  have hb37 : 0 ≤ (v 37).toInt ∧ (v 37).toInt ≤ 9 := hI.1 37 _ _ rfl
  have hb38 : 0 ≤ (v 38).toInt ∧ (v 38).toInt ≤ 120 := hI.1 38 _ _ rfl
  have hb39 : 0 ≤ (v 39).toInt ∧ (v 39).toInt ≤ 120 := hI.1 39 _ _ rfl
  have hb41 : 0 ≤ (v 41).toInt ∧ (v 41).toInt ≤ 8 := hI.1 41 _ _ rfl
  have hk : keepL (v 37) (F 28) (F 29) (F 28) (F 29) := keepL.rf
  have hd : (v 40).toInt < 0 → dp (F 28) (F 29) (bI (v 37)) (v 38).toInt.toNat = some d := fun _ => hdp
  refine lv_aload_n hx hb dX12_sum_0 rfl (lv_at hl 0 rfl) ?_
  have t12190 : 0 ≤ (v 30).toInt ∧ (v 30).toInt ≤ 120 := hI.1 30 _ _ rfl
  have t12191 : 0 ≤ (v 37).toInt ∧ (v 37).toInt ≤ 9 := hI.1 37 _ _ rfl
  have t12192 : 0 ≤ (v 38).toInt ∧ (v 38).toInt ≤ 120 := hI.1 38 _ _ rfl
  have t12193 : 0 ≤ (v 39).toInt ∧ (v 39).toInt ≤ 120 := hI.1 39 _ _ rfl
  have t12194 : 0 ≤ (v 41).toInt ∧ (v 41).toInt ≤ 8 := hI.1 41 _ _ rfl
  refine va_callv (va_runV (As := []) (rest := []) ⟨hx, hb, hml, hown, hwd⟩ (c_X12_product_7 l dC dI g c adK adV v F rc H.size  d hg hI (by have h9 : v 38 = v 38 := rfl; (try rw [h9]); clear h9; have h9 : v 39 = v 39 := rfl; (try rw [h9]); clear h9; have h9 : v 30 = v 30 := rfl; (try rw [h9]); clear h9; have h9 : v 40 = v 40 := rfl; (try rw [h9]); clear h9; have h9 : v 41 = v 41 := rfl; (try rw [h9]); clear h9; omega) (by have h9 : v 37 = (v 37) := rfl; have h8 : v 38 = (v 38) := rfl; (try rw [h9]); (try rw [h8]); exact hd (by omega))) (cwV 0 hwd (gV wk_1042 wk_1044 wk_1045 wk_1046 wk_5) rfl rfl rfl (by decide +kernel) ⟨Nat.le_of_ble_eq_true rfl, Nat.le_of_ble_eq_true rfl⟩) ⟨PM.blind, va_recv hK hP (ci := 12) (q0 := 0) rfl rfl, fun U hU hW => ⟨rfl, PM.at hK hE hP hS hU hW⟩⟩ rfl rfl hl.1 rfl (lv_room (Nat.le_of_ble_eq_true rfl)) dX12_sum_1 ⟨Nat.le_of_ble_eq_true rfl, Nat.le_of_ble_eq_true rfl⟩) hS (fun q _ h => (freeM hS) q h) (freeM hS) (fun u t H1 locs ht hvm hw hB hz1 hk1 hS => ?_)
  unfold BM at hB
  rw [ht] at hB
  obtain ⟨v12196, F12197, rc9⟩ := u
  obtain ⟨hI, hrc, hf12198, hG12199, hw⟩ := hw
  dsimp only at hI hrc hB hf12198 hG12199 hw
  have hF := frCF (by decide) hG12199 hF
  rw [hrc] at hB
  have hP : va_P (dC, dI) classes (wM g c v12196 F12197 rc) H1 := hB
  have hw : ((v 39).toInt ≤ (v12196 39).toInt ∧ (v12196 39).toInt ≤ (v 30).toInt ∧ (v 38).toInt ≤ (v12196 38).toInt ∧ (v12196 38).toInt - (v 38).toInt ≤ (v12196 39).toInt - (v 39).toInt ∧ (v 41).toInt ≤ (v12196 41).toInt ∧ ((v12196 40).toInt < 0 → (v12196 41).toInt = (v 41).toInt)) ∧ keepL (v 37) (F 28) (F 29) (F12197 28) (F12197 29) ∧ ((v12196 40).toInt < 0 → dp (F12197 28) (F12197 29) (bI (v 37)) (v12196 38).toInt.toNat = some (d + 1)) := hw
  have hw_r12195 := hw
  have t12200 : 0 ≤ (v12196 38).toInt ∧ (v12196 38).toInt ≤ 120 := hI.1 38 _ _ rfl
  have t12201 : 0 ≤ (v12196 39).toInt ∧ (v12196 39).toInt ≤ 120 := hI.1 39 _ _ rfl
  have t12202 : 0 ≤ (v12196 41).toInt ∧ (v12196 41).toInt ≤ 8 := hI.1 41 _ _ rfl
  generalize H1 = H at hP hS ⊢
  have hk := hk.tr hw_r12195.2.1
  have hd := hw_r12195.2.2
  have lp12203 : ∀ (n : Nat) (v_lp12203 : Nat → Int32) (F_lp12203 : Nat → Nat → Int32) (H : Heap) (locs : List Loc) (ls : Array Slot), ((v 39).toInt ≤ (v_lp12203 39).toInt ∧ (v_lp12203 39).toInt ≤ (v 30).toInt ∧ (v 38).toInt ≤ (v_lp12203 38).toInt ∧ (v_lp12203 38).toInt - (v 38).toInt ≤ (v_lp12203 39).toInt - (v 39).toInt ∧ (v 41).toInt ≤ (v_lp12203 41).toInt ∧ ((v_lp12203 40).toInt < 0 → (v_lp12203 41).toInt = (v 41).toInt)) → (keepL (v 37) (F 28) (F 29) (F_lp12203 28) (F_lp12203 29)) → (((v_lp12203 40).toInt < 0 → dp (F_lp12203 28) (F_lp12203 29) (bI (v 37)) (v_lp12203 38).toInt.toNat = some (d + 1))) → (121 - (v_lp12203 39).toInt ≤ (n : Int)) → (∀ k, k ∉ ([38, 39, 40, 41, 42] : List Nat) → v_lp12203 k = v12196 k) → IM v_lp12203 F_lp12203 → (∀ k, k ∉ ([28, 29] : List Nat) → F_lp12203 k = F k) → va_P (dC, dI) classes (wM g c v_lp12203 F_lp12203 rc) H → va_S (AM g s.heap.size) s.heap H locs → lv_has ls 2 [(0, .ref (g 0))] → W p l e (headSpec (Cond.code yX12_sum cX12_sum 2 none :: wA) ({ frames := 9, cells := 0, slots := 0, locals := 360 })).room s m ([.ref (g 0)] : List Value).toArray below meth c0 H locs 0 0 (MQ below (va_Qv (fun (u : StM) => IM u.1 u.2.1 ∧ u.2.2 = rc ∧ (∀ k, k ∉ ([38, 39, 40, 41, 42] : List Nat) → u.1 k = v k) ∧ (∀ k, k ∉ ([28, 29] : List Nat) → u.2.1 k = F k) ∧ (((v 39).toInt ≤ (u.1 39).toInt ∧ (u.1 39).toInt ≤ (v 30).toInt ∧ (v 38).toInt ≤ (u.1 38).toInt ∧ (u.1 38).toInt - (v 38).toInt ≤ (u.1 39).toInt - (v 39).toInt ∧ (v 41).toInt ≤ (u.1 41).toInt ∧ ((u.1 40).toInt < 0 → (u.1 41).toInt = (v 41).toInt)) ∧ keepL (v 37) (F 28) (F 29) (u.2.1 28) (u.2.1 29) ∧ ((u.1 40).toInt < 0 → dp (u.2.1 28) (u.2.1 29) (bI (v 37)) (u.1 38).toInt.toNat = some (d + 1)))) (BM dC dI g c) (AM g s.heap.size)) ([.ref (g 0)] : List Value).toArray s 0 0 (AM g s.heap.size)) (F0 m 4 ls []) := by
    intro n
    induction n with
    | zero =>
      intro v_lp12203 F_lp12203 H locs ls t12204 t12205 t12206 hm hf_lp12203 hI hF hP hS hl
      exfalso
      have hI1 := hI.1
      omega
    | succ n ih_lp12203 =>
      intro v_lp12203 F_lp12203 H locs ls t12204 t12205 t12206 hm hf_lp12203 hI hF hP hS hl
      have hk := t12205
      have hd := t12206
      refine lv_aload_n hx hb dX12_sum_4 rfl (lv_at hl 0 rfl) ?_
      refine va_get (D := (dC, dI)) (ci := 12) (v := .int (v_lp12203 40)) (C := RX12) (T := TX12) (N := 63) hx hb hwd inA_X12 hown hK hP 0 rfl rfl 40 (by decide) (hwd _ wk_1005) (fun _ h9 => h9) rfl dX12_sum_5 ?_
      refine lv_if_ge (tgt := 57) hx hb dX12_sum_8 (by decide) (fun c12207 => ?_) (fun c12207 => ?_)
      · skip
        have t12208 := cv_le (a := 0) (by decide) (b := (v_lp12203 40).toInt) rfl c12207
        have hP9 : va_P (dC, dI) classes (wM g c v_lp12203 F_lp12203 rc) H := hP
        exact W.vret hx hb hr (fun t ht hW => ⟨⟨(v_lp12203, F_lp12203, rc), rfl, ⟨hI, rfl, (frC (by decide) hf_lp12203 (frC (by decide) hf12198 (fun _ _ => rfl))), hF, (by show ((v 39).toInt ≤ (v_lp12203 39).toInt ∧ (v_lp12203 39).toInt ≤ (v 30).toInt ∧ (v 38).toInt ≤ (v_lp12203 38).toInt ∧ (v_lp12203 38).toInt - (v 38).toInt ≤ (v_lp12203 39).toInt - (v 39).toInt ∧ (v 41).toInt ≤ (v_lp12203 41).toInt ∧ ((v_lp12203 40).toInt < 0 → (v_lp12203 41).toInt = (v 41).toInt)) ∧ keepL (v 37) (F 28) (F 29) (F_lp12203 28) (F_lp12203 29) ∧ ((v_lp12203 40).toInt < 0 → dp (F_lp12203 28) (F_lp12203 29) (bI (v 37)) (v_lp12203 38).toInt.toNat = some (d + 1)); exact ⟨by omega, hk, fun hf => (hd (by omega)).trans (congrArg some (by omega))⟩)⟩, (by show va_P _ _ _ t.heap; rw [ht]; exact hP9)⟩, hS.F ht⟩) hS.2.2 dX12_sum_57
      · skip
        have t12209 := cv_nle (a := 0) (by decide) (b := (v_lp12203 40).toInt) rfl c12207
        refine lv_aload_n hx hb dX12_sum_11 rfl (lv_at hl 0 rfl) ?_
        have t12210 : 0 ≤ (v 30).toInt ∧ (v 30).toInt ≤ 120 := by have h9 := hI.1 30 _ _ rfl; rw [show v_lp12203 30 = v 30 from (hf_lp12203 30 (by decide)).trans (hf12198 30 (by decide))] at h9; exact h9
        have t12211 : 0 ≤ (v_lp12203 39).toInt ∧ (v_lp12203 39).toInt ≤ 120 := hI.1 39 _ _ rfl
        refine va_calli (va_runV (As := []) (rest := []) ⟨hx, hb, hml, hown, hwd⟩ (c_X12_look l dC dI g c adK adV v_lp12203 F_lp12203 rc H.size  hg hI ) (cwV 0 hwd (gV wk_1017 wk_1014 wk_1015 wk_1016 wk_5) rfl rfl rfl (by decide +kernel) ⟨Nat.le_of_ble_eq_true rfl, Nat.le_of_ble_eq_true rfl⟩) ⟨PM.blind, va_recv hK hP (ci := 12) (q0 := 0) rfl rfl, fun U hU hW => ⟨rfl, PM.at hK hE hP hS hU hW⟩⟩ rfl rfl hl.1 rfl (lv_room (Nat.le_of_ble_eq_true rfl)) dX12_sum_12 ⟨Nat.le_of_ble_eq_true rfl, Nat.le_of_ble_eq_true rfl⟩) hS (fun q _ h => (freeM hS) q h) (freeM hS) (fun r12212 u t H1 locs ht hvm hw hB hz1 hk1 hS => ?_)
        unfold BM at hB
        rw [ht] at hB
        have hP : va_P (dC, dI) classes (wM g c v_lp12203 F_lp12203 rc) H1 := hB
        have hw : r12212.toInt = lkM (v_lp12203 39) (v_lp12203 30) (F_lp12203 24) ∧ ((v_lp12203 39).toInt < (v_lp12203 30).toInt ∨ r12212.toInt = -1) := hw
        rw [show v_lp12203 30 = v 30 from (hf_lp12203 30 (by decide)).trans (hf12198 30 (by decide))] at hw
        rw [hF 24 (by decide)] at hw
        have hw_r12212 := hw
        generalize H1 = H at hP hS ⊢
        refine lv_bipush (v := 43) hx hb dX12_sum_15 (by decide) ?_
        refine lv_icmp_eq (tgt := 29) hx hb dX12_sum_17 (by decide) (fun c12213 => ?_) (fun c12213 => ?_)
        · skip
          have t12214 := cv_eq (a := r12212.toInt) rfl (b := 43) (by decide) c12213
          refine lv_aload_n hx hb dX12_sum_29 rfl (lv_at hl 0 rfl) ?_
          have t12215 : 0 ≤ (v 30).toInt ∧ (v 30).toInt ≤ 120 := by have h9 := hI.1 30 _ _ rfl; rw [show v_lp12203 30 = v 30 from (hf_lp12203 30 (by decide)).trans (hf12198 30 (by decide))] at h9; exact h9
          have t12216 : 0 ≤ (v_lp12203 39).toInt ∧ (v_lp12203 39).toInt ≤ 120 := hI.1 39 _ _ rfl
          refine va_calli (va_runV (As := []) (rest := []) ⟨hx, hb, hml, hown, hwd⟩ (c_X12_look l dC dI g c adK adV v_lp12203 F_lp12203 rc H.size  hg hI ) (cwV 0 hwd (gV wk_1017 wk_1014 wk_1015 wk_1016 wk_5) rfl rfl rfl (by decide +kernel) ⟨Nat.le_of_ble_eq_true rfl, Nat.le_of_ble_eq_true rfl⟩) ⟨PM.blind, va_recv hK hP (ci := 12) (q0 := 0) rfl rfl, fun U hU hW => ⟨rfl, PM.at hK hE hP hS hU hW⟩⟩ rfl rfl hl.1 rfl (lv_room (Nat.le_of_ble_eq_true rfl)) dX12_sum_30 ⟨Nat.le_of_ble_eq_true rfl, Nat.le_of_ble_eq_true rfl⟩) hS (fun q _ h => (freeM hS) q h) (freeM hS) (fun r12217 u t H1 locs ht hvm hw hB hz1 hk1 hS => ?_)
          unfold BM at hB
          rw [ht] at hB
          have hP : va_P (dC, dI) classes (wM g c v_lp12203 F_lp12203 rc) H1 := hB
          have hw : r12217.toInt = lkM (v_lp12203 39) (v_lp12203 30) (F_lp12203 24) ∧ ((v_lp12203 39).toInt < (v_lp12203 30).toInt ∨ r12217.toInt = -1) := hw
          rw [show v_lp12203 30 = v 30 from (hf_lp12203 30 (by decide)).trans (hf12198 30 (by decide))] at hw
          rw [hF 24 (by decide)] at hw
          have hw_r12217 := hw
          generalize H1 = H at hP hS ⊢
          refine lv_istore_n (lv' := [(1, .int r12217), (0, .ref (g 0))]) hx hb dX12_sum_33 rfl hl (by decide) rfl (fun ls hl => ?_)
          refine lv_aload_n hx hb dX12_sum_34 rfl (lv_at hl 1 rfl) ?_
          refine lv_dup hx hb dX12_sum_35 rfl ?_
          refine va_get (D := (dC, dI)) (ci := 12) (v := .int (v_lp12203 39)) (C := RX12) (T := TX12) (N := 63) hx hb hwd inA_X12 hown hK hP 0 rfl rfl 39 (by decide) (hwd _ wk_1004) (fun _ h9 => h9) rfl dX12_sum_36 ?_
          have t12218 : 0 ≤ (v_lp12203 39).toInt ∧ (v_lp12203 39).toInt ≤ 120 := hI.1 39 _ _ rfl
          refine lv_iconst (v := 1) hx hb dX12_sum_39 (by decide) ?_
          refine lv_iadd hx hb dX12_sum_40 ?_
          refine lv_topi (fun z12219 e12220 => ?_)
          try (have t12221 := tadd e12220 (a := (v_lp12203 39).toInt) rfl (b := 1) (by decide) (by omega))
          refine va_put (D := (dC, dI)) (ci := 12) (v := .int z12219) (ty := .int) (C := RX12) (T := TX12) (N := 63) (fs := fsM_0 g v_lp12203 rc) hx hb hwd inA_X12 tyX12 tyX12_ok nmX12 hown hK hP (DM hg) hS 0 rfl rfl 39 (by decide) (hwd _ wk_1004) (fun _ h9 => h9) rfl (by decide +kernel) rfl rfl (Nat.le_of_ble_eq_true rfl) dX12_sum_41 (fun H locs hP _ hS => ?_)
          have hP := va_P_eq (pM_39 g c _ _ _ _) hP
          have hI := IM.put hI 39 z12219 rfl (by omega)
          refine lv_aload_n hx hb dX12_sum_44 rfl (lv_at hl 1 rfl) ?_
          have t12222 : 0 ≤ (v 30).toInt ∧ (v 30).toInt ≤ 120 := by have h9 := hI.1 30 _ _ rfl; rw [show (va_up v_lp12203 39 z12219) 30 = v 30 from (hf_lp12203 30 (by decide)).trans (hf12198 30 (by decide))] at h9; exact h9
          have t12223 : 0 ≤ (v 37).toInt ∧ (v 37).toInt ≤ 9 := by have h9 := hI.1 37 _ _ rfl; rw [show (va_up v_lp12203 39 z12219) 37 = v 37 from (hf_lp12203 37 (by decide)).trans (hf12198 37 (by decide))] at h9; exact h9
          have t12224 : 0 ≤ (v_lp12203 38).toInt ∧ (v_lp12203 38).toInt ≤ 120 := hI.1 38 _ _ rfl
          have t12225 : 0 ≤ z12219.toInt ∧ z12219.toInt ≤ 120 := hI.1 39 _ _ rfl
          have t12226 : 0 ≤ (v_lp12203 41).toInt ∧ (v_lp12203 41).toInt ≤ 8 := hI.1 41 _ _ rfl
          refine va_callv (va_runV (As := []) (rest := []) ⟨hx, hb, hml, hown, hwd⟩ (c_X12_product_7 l dC dI g c adK adV (va_up v_lp12203 39 z12219) F_lp12203 rc H.size  (d + 1) hg hI (by have h9 : (va_up v_lp12203 39 z12219) 38 = v_lp12203 38 := rfl; (try rw [h9]); clear h9; have h9 : (va_up v_lp12203 39 z12219) 39 = z12219 := rfl; (try rw [h9]); clear h9; have h9 : (va_up v_lp12203 39 z12219) 30 = v 30 := (hf_lp12203 30 (by decide)).trans (hf12198 30 (by decide)); (try rw [h9]); clear h9; have h9 : (va_up v_lp12203 39 z12219) 40 = v_lp12203 40 := rfl; (try rw [h9]); clear h9; have h9 : (va_up v_lp12203 39 z12219) 41 = v_lp12203 41 := rfl; (try rw [h9]); clear h9; omega) (by have h9 : (va_up v_lp12203 39 z12219) 37 = (v 37) := (hf_lp12203 37 (by decide)).trans (hf12198 37 (by decide)); have h8 : (va_up v_lp12203 39 z12219) 38 = (v_lp12203 38) := rfl; (try rw [h9]); (try rw [h8]); exact hd (by omega))) (cwV 0 hwd (gV wk_1042 wk_1044 wk_1045 wk_1046 wk_5) rfl rfl rfl (by decide +kernel) ⟨Nat.le_of_ble_eq_true rfl, Nat.le_of_ble_eq_true rfl⟩) ⟨PM.blind, va_recv hK hP (ci := 12) (q0 := 0) rfl rfl, fun U hU hW => ⟨rfl, PM.at hK hE hP hS hU hW⟩⟩ rfl rfl hl.1 rfl (lv_room (Nat.le_of_ble_eq_true rfl)) dX12_sum_45 ⟨Nat.le_of_ble_eq_true rfl, Nat.le_of_ble_eq_true rfl⟩) hS (fun q _ h => (freeM hS) q h) (freeM hS) (fun u t H1 locs ht hvm hw hB hz1 hk1 hS => ?_)
          unfold BM at hB
          rw [ht] at hB
          obtain ⟨v12228, F12229, rc9⟩ := u
          obtain ⟨hI, hrc, hf12230, hG12231, hw⟩ := hw
          dsimp only at hI hrc hB hf12230 hG12231 hw
          have hF := frCF (by decide) hG12231 hF
          rw [hrc] at hB
          have hP : va_P (dC, dI) classes (wM g c v12228 F12229 rc) H1 := hB
          have hw : (z12219.toInt ≤ (v12228 39).toInt ∧ (v12228 39).toInt ≤ ((va_up v_lp12203 39 z12219) 30).toInt ∧ (v_lp12203 38).toInt ≤ (v12228 38).toInt ∧ (v12228 38).toInt - (v_lp12203 38).toInt ≤ (v12228 39).toInt - z12219.toInt ∧ (v_lp12203 41).toInt ≤ (v12228 41).toInt ∧ ((v12228 40).toInt < 0 → (v12228 41).toInt = (v_lp12203 41).toInt)) ∧ keepL ((va_up v_lp12203 39 z12219) 37) (F_lp12203 28) (F_lp12203 29) (F12229 28) (F12229 29) ∧ ((v12228 40).toInt < 0 → dp (F12229 28) (F12229 29) (bI ((va_up v_lp12203 39 z12219) 37)) (v12228 38).toInt.toNat = some ((d + 1) + 1)) := hw
          rw [show (va_up v_lp12203 39 z12219) 30 = v 30 from (hf_lp12203 30 (by decide)).trans (hf12198 30 (by decide))] at hw
          rw [show (va_up v_lp12203 39 z12219) 37 = v 37 from (hf_lp12203 37 (by decide)).trans (hf12198 37 (by decide))] at hw
          have hw_r12227 := hw
          have t12232 : 0 ≤ (v12228 38).toInt ∧ (v12228 38).toInt ≤ 120 := hI.1 38 _ _ rfl
          have t12233 : 0 ≤ (v12228 39).toInt ∧ (v12228 39).toInt ≤ 120 := hI.1 39 _ _ rfl
          have t12234 : 0 ≤ (v12228 41).toInt ∧ (v12228 41).toInt ≤ 8 := hI.1 41 _ _ rfl
          generalize H1 = H at hP hS ⊢
          have hk := hk.tr hw_r12227.2.1
          have hd := hw_r12227.2.2
          refine lv_aload_n hx hb dX12_sum_48 rfl (lv_at hl 1 rfl) ?_
          refine lv_iload_n hx hb dX12_sum_49 rfl (lv_at hl 0 rfl) ?_
          refine lv_iconst (v := 0) hx hb dX12_sum_50 (by decide) ?_
          have t12235 : 0 ≤ (v 37).toInt ∧ (v 37).toInt ≤ 9 := by have h9 := hI.1 37 _ _ rfl; rw [show v12228 37 = v 37 from (hf12230 37 (by decide)).trans ((hf_lp12203 37 (by decide)).trans (hf12198 37 (by decide)))] at h9; exact h9
          have t12236 : 0 ≤ (v12228 38).toInt ∧ (v12228 38).toInt ≤ 120 := hI.1 38 _ _ rfl
          refine va_callv (va_runV (As := [.int r12217, .int 0]) (rest := []) ⟨hx, hb, hml, hown, hwd⟩ (c_X12_lay l dC dI g c adK adV v12228 F12229 rc H.size r12217 0 hg hI (by have h9 : v12228 38 = v12228 38 := rfl; rw [h9]; omega)) (cwV 2 hwd (gV wk_1021 wk_1018 wk_1019 wk_1020 wk_5) rfl rfl rfl (by decide +kernel) ⟨Nat.le_of_ble_eq_true rfl, Nat.le_of_ble_eq_true rfl⟩) ⟨PM.blind, va_recv hK hP (ci := 12) (q0 := 0) rfl rfl, fun U hU hW => ⟨rfl, PM.at hK hE hP hS hU hW⟩⟩ rfl rfl hl.1 rfl (lv_room (Nat.le_of_ble_eq_true rfl)) dX12_sum_51 ⟨Nat.le_of_ble_eq_true rfl, Nat.le_of_ble_eq_true rfl⟩) hS (fun q _ h => (freeM hS) q h) (freeM hS) (fun u t H1 locs ht hvm hw hB hz1 hk1 hS => ?_)
          unfold BM at hB
          rw [ht] at hB
          obtain ⟨v12238, F12239, rc9⟩ := u
          obtain ⟨hI, hrc, hf12240, hG12241, hw⟩ := hw
          dsimp only at hI hrc hB hf12240 hG12241 hw
          have hF := frCF (by decide) hG12241 hF
          rw [hrc] at hB
          have hP : va_P (dC, dI) classes (wM g c v12238 F12239 rc) H1 := hB
          have hw : (v12238 38).toInt = (v12228 38).toInt + 1 ∧ keepL (v12228 37) (F12229 28) (F12229 29) (F12239 28) (F12239 29) ∧ dp (F12239 28) (F12239 29) (bI (v12228 37)) ((v12228 38).toInt.toNat + 1) = dpS (dp (F12229 28) (F12229 29) (bI (v12228 37)) (v12228 38).toInt.toNat) r12217 (0 : Int32) := hw
          rw [show v12228 37 = v 37 from (hf12230 37 (by decide)).trans ((hf_lp12203 37 (by decide)).trans (hf12198 37 (by decide)))] at hw
          have hw_r12237 := hw
          have t12242 : 0 ≤ (v12238 38).toInt ∧ (v12238 38).toInt ≤ 120 := hI.1 38 _ _ rfl
          have k12243 : (0 : Int32).toInt = 0 := by decide
          generalize H1 = H at hP hS ⊢
          have hk := hk.tr hw_r12237.2.1
          have hd : (v12228 40).toInt < 0 → dp (F12239 28) (F12239 29) (bI (v 37)) (v12238 38).toInt.toNat = some (((d + 1) + 1) - 1) := fun hf => (by have e9 : (v12238 38).toInt.toNat = (v12228 38).toInt.toNat + 1 := (by omega); rw [e9, hw_r12237.2.2, hd hf]; exact dpS_5 (by omega) (by omega) (by omega) (by omega) (by omega))
          refine lv_goto (tgt := 4) hx hb dX12_sum_54 (by decide) ?_
          exact ih_lp12203  v12238 F12239 _ _ _ (by have h9 : v12238 39 = v12228 39 := hf12240 39 (by decide); (try rw [h9]); clear h9; have h9 : v12238 38 = v12238 38 := rfl; (try rw [h9]); clear h9; have h9 : v12238 41 = v12228 41 := hf12240 41 (by decide); (try rw [h9]); clear h9; have h9 : v12238 40 = v12228 40 := hf12240 40 (by decide); (try rw [h9]); clear h9; omega) hk (by have h9 : v12238 40 = v12228 40 := hf12240 40 (by decide); (try rw [h9]); clear h9; have h9 : v12238 38 = v12238 38 := rfl; (try rw [h9]); clear h9; exact fun hf => (hd (by omega)).trans (congrArg some (by omega))) (by have h9 : v12238 39 = v12228 39 := hf12240 39 (by decide); rw [h9]; omega) (frC (by decide) hf12240 (frC (by decide) hf12230 (frU (by decide) hf_lp12203))) hI hF hP hS (lv_sub hl [1] rfl)
        · skip
          have t12244 := cv_ne (a := r12212.toInt) rfl (b := 43) (by decide) c12213
          refine lv_aload_n hx hb dX12_sum_20 rfl (lv_at hl 0 rfl) ?_
          have t12245 : 0 ≤ (v 30).toInt ∧ (v 30).toInt ≤ 120 := by have h9 := hI.1 30 _ _ rfl; rw [show v_lp12203 30 = v 30 from (hf_lp12203 30 (by decide)).trans (hf12198 30 (by decide))] at h9; exact h9
          have t12246 : 0 ≤ (v_lp12203 39).toInt ∧ (v_lp12203 39).toInt ≤ 120 := hI.1 39 _ _ rfl
          refine va_calli (va_runV (As := []) (rest := []) ⟨hx, hb, hml, hown, hwd⟩ (c_X12_look l dC dI g c adK adV v_lp12203 F_lp12203 rc H.size  hg hI ) (cwV 0 hwd (gV wk_1017 wk_1014 wk_1015 wk_1016 wk_5) rfl rfl rfl (by decide +kernel) ⟨Nat.le_of_ble_eq_true rfl, Nat.le_of_ble_eq_true rfl⟩) ⟨PM.blind, va_recv hK hP (ci := 12) (q0 := 0) rfl rfl, fun U hU hW => ⟨rfl, PM.at hK hE hP hS hU hW⟩⟩ rfl rfl hl.1 rfl (lv_room (Nat.le_of_ble_eq_true rfl)) dX12_sum_21 ⟨Nat.le_of_ble_eq_true rfl, Nat.le_of_ble_eq_true rfl⟩) hS (fun q _ h => (freeM hS) q h) (freeM hS) (fun r12247 u t H1 locs ht hvm hw hB hz1 hk1 hS => ?_)
          unfold BM at hB
          rw [ht] at hB
          have hP : va_P (dC, dI) classes (wM g c v_lp12203 F_lp12203 rc) H1 := hB
          have hw : r12247.toInt = lkM (v_lp12203 39) (v_lp12203 30) (F_lp12203 24) ∧ ((v_lp12203 39).toInt < (v_lp12203 30).toInt ∨ r12247.toInt = -1) := hw
          rw [show v_lp12203 30 = v 30 from (hf_lp12203 30 (by decide)).trans (hf12198 30 (by decide))] at hw
          rw [hF 24 (by decide)] at hw
          have hw_r12247 := hw
          generalize H1 = H at hP hS ⊢
          refine lv_bipush (v := 45) hx hb dX12_sum_24 (by decide) ?_
          refine lv_icmp_ne (tgt := 57) hx hb dX12_sum_26 (by decide) (fun c12248 => ?_) (fun c12248 => ?_)
          · skip
            have t12249 := cv_ne (a := r12247.toInt) rfl (b := 45) (by decide) c12248
            have hP9 : va_P (dC, dI) classes (wM g c v_lp12203 F_lp12203 rc) H := hP
            exact W.vret hx hb hr (fun t ht hW => ⟨⟨(v_lp12203, F_lp12203, rc), rfl, ⟨hI, rfl, (frC (by decide) hf_lp12203 (frC (by decide) hf12198 (fun _ _ => rfl))), hF, (by show ((v 39).toInt ≤ (v_lp12203 39).toInt ∧ (v_lp12203 39).toInt ≤ (v 30).toInt ∧ (v 38).toInt ≤ (v_lp12203 38).toInt ∧ (v_lp12203 38).toInt - (v 38).toInt ≤ (v_lp12203 39).toInt - (v 39).toInt ∧ (v 41).toInt ≤ (v_lp12203 41).toInt ∧ ((v_lp12203 40).toInt < 0 → (v_lp12203 41).toInt = (v 41).toInt)) ∧ keepL (v 37) (F 28) (F 29) (F_lp12203 28) (F_lp12203 29) ∧ ((v_lp12203 40).toInt < 0 → dp (F_lp12203 28) (F_lp12203 29) (bI (v 37)) (v_lp12203 38).toInt.toNat = some (d + 1)); exact ⟨by omega, hk, fun hf => (hd (by omega)).trans (congrArg some (by omega))⟩)⟩, (by show va_P _ _ _ t.heap; rw [ht]; exact hP9)⟩, hS.F ht⟩) hS.2.2 dX12_sum_57
          · skip
            have t12250 := cv_eq (a := r12247.toInt) rfl (b := 45) (by decide) c12248
            refine lv_aload_n hx hb dX12_sum_29 rfl (lv_at hl 0 rfl) ?_
            have t12251 : 0 ≤ (v 30).toInt ∧ (v 30).toInt ≤ 120 := by have h9 := hI.1 30 _ _ rfl; rw [show v_lp12203 30 = v 30 from (hf_lp12203 30 (by decide)).trans (hf12198 30 (by decide))] at h9; exact h9
            have t12252 : 0 ≤ (v_lp12203 39).toInt ∧ (v_lp12203 39).toInt ≤ 120 := hI.1 39 _ _ rfl
            refine va_calli (va_runV (As := []) (rest := []) ⟨hx, hb, hml, hown, hwd⟩ (c_X12_look l dC dI g c adK adV v_lp12203 F_lp12203 rc H.size  hg hI ) (cwV 0 hwd (gV wk_1017 wk_1014 wk_1015 wk_1016 wk_5) rfl rfl rfl (by decide +kernel) ⟨Nat.le_of_ble_eq_true rfl, Nat.le_of_ble_eq_true rfl⟩) ⟨PM.blind, va_recv hK hP (ci := 12) (q0 := 0) rfl rfl, fun U hU hW => ⟨rfl, PM.at hK hE hP hS hU hW⟩⟩ rfl rfl hl.1 rfl (lv_room (Nat.le_of_ble_eq_true rfl)) dX12_sum_30 ⟨Nat.le_of_ble_eq_true rfl, Nat.le_of_ble_eq_true rfl⟩) hS (fun q _ h => (freeM hS) q h) (freeM hS) (fun r12253 u t H1 locs ht hvm hw hB hz1 hk1 hS => ?_)
            unfold BM at hB
            rw [ht] at hB
            have hP : va_P (dC, dI) classes (wM g c v_lp12203 F_lp12203 rc) H1 := hB
            have hw : r12253.toInt = lkM (v_lp12203 39) (v_lp12203 30) (F_lp12203 24) ∧ ((v_lp12203 39).toInt < (v_lp12203 30).toInt ∨ r12253.toInt = -1) := hw
            rw [show v_lp12203 30 = v 30 from (hf_lp12203 30 (by decide)).trans (hf12198 30 (by decide))] at hw
            rw [hF 24 (by decide)] at hw
            have hw_r12253 := hw
            generalize H1 = H at hP hS ⊢
            refine lv_istore_n (lv' := [(1, .int r12253), (0, .ref (g 0))]) hx hb dX12_sum_33 rfl hl (by decide) rfl (fun ls hl => ?_)
            refine lv_aload_n hx hb dX12_sum_34 rfl (lv_at hl 1 rfl) ?_
            refine lv_dup hx hb dX12_sum_35 rfl ?_
            refine va_get (D := (dC, dI)) (ci := 12) (v := .int (v_lp12203 39)) (C := RX12) (T := TX12) (N := 63) hx hb hwd inA_X12 hown hK hP 0 rfl rfl 39 (by decide) (hwd _ wk_1004) (fun _ h9 => h9) rfl dX12_sum_36 ?_
            have t12254 : 0 ≤ (v_lp12203 39).toInt ∧ (v_lp12203 39).toInt ≤ 120 := hI.1 39 _ _ rfl
            refine lv_iconst (v := 1) hx hb dX12_sum_39 (by decide) ?_
            refine lv_iadd hx hb dX12_sum_40 ?_
            refine lv_topi (fun z12255 e12256 => ?_)
            try (have t12257 := tadd e12256 (a := (v_lp12203 39).toInt) rfl (b := 1) (by decide) (by omega))
            refine va_put (D := (dC, dI)) (ci := 12) (v := .int z12255) (ty := .int) (C := RX12) (T := TX12) (N := 63) (fs := fsM_0 g v_lp12203 rc) hx hb hwd inA_X12 tyX12 tyX12_ok nmX12 hown hK hP (DM hg) hS 0 rfl rfl 39 (by decide) (hwd _ wk_1004) (fun _ h9 => h9) rfl (by decide +kernel) rfl rfl (Nat.le_of_ble_eq_true rfl) dX12_sum_41 (fun H locs hP _ hS => ?_)
            have hP := va_P_eq (pM_39 g c _ _ _ _) hP
            have hI := IM.put hI 39 z12255 rfl (by omega)
            refine lv_aload_n hx hb dX12_sum_44 rfl (lv_at hl 1 rfl) ?_
            have t12258 : 0 ≤ (v 30).toInt ∧ (v 30).toInt ≤ 120 := by have h9 := hI.1 30 _ _ rfl; rw [show (va_up v_lp12203 39 z12255) 30 = v 30 from (hf_lp12203 30 (by decide)).trans (hf12198 30 (by decide))] at h9; exact h9
            have t12259 : 0 ≤ (v 37).toInt ∧ (v 37).toInt ≤ 9 := by have h9 := hI.1 37 _ _ rfl; rw [show (va_up v_lp12203 39 z12255) 37 = v 37 from (hf_lp12203 37 (by decide)).trans (hf12198 37 (by decide))] at h9; exact h9
            have t12260 : 0 ≤ (v_lp12203 38).toInt ∧ (v_lp12203 38).toInt ≤ 120 := hI.1 38 _ _ rfl
            have t12261 : 0 ≤ z12255.toInt ∧ z12255.toInt ≤ 120 := hI.1 39 _ _ rfl
            have t12262 : 0 ≤ (v_lp12203 41).toInt ∧ (v_lp12203 41).toInt ≤ 8 := hI.1 41 _ _ rfl
            refine va_callv (va_runV (As := []) (rest := []) ⟨hx, hb, hml, hown, hwd⟩ (c_X12_product_7 l dC dI g c adK adV (va_up v_lp12203 39 z12255) F_lp12203 rc H.size  (d + 1) hg hI (by have h9 : (va_up v_lp12203 39 z12255) 38 = v_lp12203 38 := rfl; (try rw [h9]); clear h9; have h9 : (va_up v_lp12203 39 z12255) 39 = z12255 := rfl; (try rw [h9]); clear h9; have h9 : (va_up v_lp12203 39 z12255) 30 = v 30 := (hf_lp12203 30 (by decide)).trans (hf12198 30 (by decide)); (try rw [h9]); clear h9; have h9 : (va_up v_lp12203 39 z12255) 40 = v_lp12203 40 := rfl; (try rw [h9]); clear h9; have h9 : (va_up v_lp12203 39 z12255) 41 = v_lp12203 41 := rfl; (try rw [h9]); clear h9; omega) (by have h9 : (va_up v_lp12203 39 z12255) 37 = (v 37) := (hf_lp12203 37 (by decide)).trans (hf12198 37 (by decide)); have h8 : (va_up v_lp12203 39 z12255) 38 = (v_lp12203 38) := rfl; (try rw [h9]); (try rw [h8]); exact hd (by omega))) (cwV 0 hwd (gV wk_1042 wk_1044 wk_1045 wk_1046 wk_5) rfl rfl rfl (by decide +kernel) ⟨Nat.le_of_ble_eq_true rfl, Nat.le_of_ble_eq_true rfl⟩) ⟨PM.blind, va_recv hK hP (ci := 12) (q0 := 0) rfl rfl, fun U hU hW => ⟨rfl, PM.at hK hE hP hS hU hW⟩⟩ rfl rfl hl.1 rfl (lv_room (Nat.le_of_ble_eq_true rfl)) dX12_sum_45 ⟨Nat.le_of_ble_eq_true rfl, Nat.le_of_ble_eq_true rfl⟩) hS (fun q _ h => (freeM hS) q h) (freeM hS) (fun u t H1 locs ht hvm hw hB hz1 hk1 hS => ?_)
            unfold BM at hB
            rw [ht] at hB
            obtain ⟨v12264, F12265, rc9⟩ := u
            obtain ⟨hI, hrc, hf12266, hG12267, hw⟩ := hw
            dsimp only at hI hrc hB hf12266 hG12267 hw
            have hF := frCF (by decide) hG12267 hF
            rw [hrc] at hB
            have hP : va_P (dC, dI) classes (wM g c v12264 F12265 rc) H1 := hB
            have hw : (z12255.toInt ≤ (v12264 39).toInt ∧ (v12264 39).toInt ≤ ((va_up v_lp12203 39 z12255) 30).toInt ∧ (v_lp12203 38).toInt ≤ (v12264 38).toInt ∧ (v12264 38).toInt - (v_lp12203 38).toInt ≤ (v12264 39).toInt - z12255.toInt ∧ (v_lp12203 41).toInt ≤ (v12264 41).toInt ∧ ((v12264 40).toInt < 0 → (v12264 41).toInt = (v_lp12203 41).toInt)) ∧ keepL ((va_up v_lp12203 39 z12255) 37) (F_lp12203 28) (F_lp12203 29) (F12265 28) (F12265 29) ∧ ((v12264 40).toInt < 0 → dp (F12265 28) (F12265 29) (bI ((va_up v_lp12203 39 z12255) 37)) (v12264 38).toInt.toNat = some ((d + 1) + 1)) := hw
            rw [show (va_up v_lp12203 39 z12255) 30 = v 30 from (hf_lp12203 30 (by decide)).trans (hf12198 30 (by decide))] at hw
            rw [show (va_up v_lp12203 39 z12255) 37 = v 37 from (hf_lp12203 37 (by decide)).trans (hf12198 37 (by decide))] at hw
            have hw_r12263 := hw
            have t12268 : 0 ≤ (v12264 38).toInt ∧ (v12264 38).toInt ≤ 120 := hI.1 38 _ _ rfl
            have t12269 : 0 ≤ (v12264 39).toInt ∧ (v12264 39).toInt ≤ 120 := hI.1 39 _ _ rfl
            have t12270 : 0 ≤ (v12264 41).toInt ∧ (v12264 41).toInt ≤ 8 := hI.1 41 _ _ rfl
            generalize H1 = H at hP hS ⊢
            have hk := hk.tr hw_r12263.2.1
            have hd := hw_r12263.2.2
            refine lv_aload_n hx hb dX12_sum_48 rfl (lv_at hl 1 rfl) ?_
            refine lv_iload_n hx hb dX12_sum_49 rfl (lv_at hl 0 rfl) ?_
            refine lv_iconst (v := 0) hx hb dX12_sum_50 (by decide) ?_
            have t12271 : 0 ≤ (v 37).toInt ∧ (v 37).toInt ≤ 9 := by have h9 := hI.1 37 _ _ rfl; rw [show v12264 37 = v 37 from (hf12266 37 (by decide)).trans ((hf_lp12203 37 (by decide)).trans (hf12198 37 (by decide)))] at h9; exact h9
            have t12272 : 0 ≤ (v12264 38).toInt ∧ (v12264 38).toInt ≤ 120 := hI.1 38 _ _ rfl
            refine va_callv (va_runV (As := [.int r12253, .int 0]) (rest := []) ⟨hx, hb, hml, hown, hwd⟩ (c_X12_lay l dC dI g c adK adV v12264 F12265 rc H.size r12253 0 hg hI (by have h9 : v12264 38 = v12264 38 := rfl; rw [h9]; omega)) (cwV 2 hwd (gV wk_1021 wk_1018 wk_1019 wk_1020 wk_5) rfl rfl rfl (by decide +kernel) ⟨Nat.le_of_ble_eq_true rfl, Nat.le_of_ble_eq_true rfl⟩) ⟨PM.blind, va_recv hK hP (ci := 12) (q0 := 0) rfl rfl, fun U hU hW => ⟨rfl, PM.at hK hE hP hS hU hW⟩⟩ rfl rfl hl.1 rfl (lv_room (Nat.le_of_ble_eq_true rfl)) dX12_sum_51 ⟨Nat.le_of_ble_eq_true rfl, Nat.le_of_ble_eq_true rfl⟩) hS (fun q _ h => (freeM hS) q h) (freeM hS) (fun u t H1 locs ht hvm hw hB hz1 hk1 hS => ?_)
            unfold BM at hB
            rw [ht] at hB
            obtain ⟨v12274, F12275, rc9⟩ := u
            obtain ⟨hI, hrc, hf12276, hG12277, hw⟩ := hw
            dsimp only at hI hrc hB hf12276 hG12277 hw
            have hF := frCF (by decide) hG12277 hF
            rw [hrc] at hB
            have hP : va_P (dC, dI) classes (wM g c v12274 F12275 rc) H1 := hB
            have hw : (v12274 38).toInt = (v12264 38).toInt + 1 ∧ keepL (v12264 37) (F12265 28) (F12265 29) (F12275 28) (F12275 29) ∧ dp (F12275 28) (F12275 29) (bI (v12264 37)) ((v12264 38).toInt.toNat + 1) = dpS (dp (F12265 28) (F12265 29) (bI (v12264 37)) (v12264 38).toInt.toNat) r12253 (0 : Int32) := hw
            rw [show v12264 37 = v 37 from (hf12266 37 (by decide)).trans ((hf_lp12203 37 (by decide)).trans (hf12198 37 (by decide)))] at hw
            have hw_r12273 := hw
            have t12278 : 0 ≤ (v12274 38).toInt ∧ (v12274 38).toInt ≤ 120 := hI.1 38 _ _ rfl
            have k12279 : (0 : Int32).toInt = 0 := by decide
            generalize H1 = H at hP hS ⊢
            have hk := hk.tr hw_r12273.2.1
            have hd : (v12264 40).toInt < 0 → dp (F12275 28) (F12275 29) (bI (v 37)) (v12274 38).toInt.toNat = some (((d + 1) + 1) - 1) := fun hf => (by have e9 : (v12274 38).toInt.toNat = (v12264 38).toInt.toNat + 1 := (by omega); rw [e9, hw_r12273.2.2, hd hf]; exact dpS_5 (by omega) (by omega) (by omega) (by omega) (by omega))
            refine lv_goto (tgt := 4) hx hb dX12_sum_54 (by decide) ?_
            exact ih_lp12203  v12274 F12275 _ _ _ (by have h9 : v12274 39 = v12264 39 := hf12276 39 (by decide); (try rw [h9]); clear h9; have h9 : v12274 38 = v12274 38 := rfl; (try rw [h9]); clear h9; have h9 : v12274 41 = v12264 41 := hf12276 41 (by decide); (try rw [h9]); clear h9; have h9 : v12274 40 = v12264 40 := hf12276 40 (by decide); (try rw [h9]); clear h9; omega) hk (by have h9 : v12274 40 = v12264 40 := hf12276 40 (by decide); (try rw [h9]); clear h9; have h9 : v12274 38 = v12274 38 := rfl; (try rw [h9]); clear h9; exact fun hf => (hd (by omega)).trans (congrArg some (by omega))) (by have h9 : v12274 39 = v12264 39 := hf12276 39 (by decide); rw [h9]; omega) (frC (by decide) hf12276 (frC (by decide) hf12266 (frU (by decide) hf_lp12203))) hI hF hP hS (lv_sub hl [1] rfl)
  obtain ⟨n9, hn9⟩ : ∃ n : Nat, 121 - (v12196 39).toInt ≤ (n : Int) := ⟨((121 - (v12196 39).toInt : Int)).toNat, by omega⟩
  exact lp12203 n9  v12196 F12197 H _ ls (by have h9 : v12196 39 = v12196 39 := rfl; (try rw [h9]); clear h9; have h9 : v12196 38 = v12196 38 := rfl; (try rw [h9]); clear h9; have h9 : v12196 41 = v12196 41 := rfl; (try rw [h9]); clear h9; have h9 : v12196 40 = v12196 40 := rfl; (try rw [h9]); clear h9; omega) hk (by have h9 : v12196 40 = v12196 40 := rfl; (try rw [h9]); clear h9; have h9 : v12196 38 = v12196 38 := rfl; (try rw [h9]); clear h9; exact fun hf => (hd (by omega)).trans (congrArg some (by omega))) (by have h9 : v12196 39 = v12196 39 := rfl; rw [h9]; omega) (fun _ _ => rfl) hI hF hP hS hl
set_option maxHeartbeats 8000000 in
set_option maxRecDepth 100000 in
theorem c_X12_either_7 (l : Launch) (dC : Nat → ClassId) (dI : Nat → Nat → Nat) (g : Nat → Nat) (c : Nat → ClassId) (adK adV : Nat → Nat) (v : Nat → Int32) (F : Nat → Nat → Int32) (rc sz : Nat) (d : Nat) (hg : injM g) (hI : IM v F) (hq : (v 38).toInt ≤ (v 39).toInt ∧ (v 39).toInt ≤ (v 30).toInt ∧ (v 40).toInt < 0 ∧ (v 41).toInt = 7) (hdp : dp (F 28) (F 29) (bI (v 37)) (v 38).toInt.toNat = some d) : Met l yX12_either (Cond.code yX12_either cX12_either 2 none :: wA) ({ frames := 10, cells := 0, slots := 0, locals := 400 }) (va_Pc [.ref (g 0)] (PM dC dI g c adK adV v F rc sz)) (va_Qv (fun (u : StM) => IM u.1 u.2.1 ∧ u.2.2 = rc ∧ (∀ k, k ∉ ([38, 39, 40, 41, 42] : List Nat) → u.1 k = v k) ∧ (∀ k, k ∉ ([28, 29] : List Nat) → u.2.1 k = F k) ∧ (((v 39).toInt ≤ (u.1 39).toInt ∧ (u.1 39).toInt ≤ (v 30).toInt ∧ (v 38).toInt ≤ (u.1 38).toInt ∧ (u.1 38).toInt - (v 38).toInt ≤ (u.1 39).toInt - (v 39).toInt ∧ (v 41).toInt ≤ (u.1 41).toInt ∧ ((u.1 40).toInt < 0 → (u.1 41).toInt = (v 41).toInt)) ∧ keepL (v 37) (F 28) (F 29) (u.2.1 28) (u.2.1 29) ∧ ((u.1 40).toInt < 0 → dp (u.2.1 28) (u.2.1 29) (bI (v 37)) (u.1 38).toInt.toNat = some (d + 1)))) (BM dC dI g c) (AM g sz)) 0 0 (AM g sz) := by
  refine Met.ofW (cc := cX12_either) (maxL := 2) (ret := none) (by decide) rfl ?_
  intro p e s m args below meth c0 s₁ B hml hv
  obtain ⟨rfl, hsz, hP, hK, hE⟩ := hv
  have hx := B.exec
  have hb := B.bytes
  have hr := B.returns
  have hts := atoms_spec (ws := Cond.code yX12_either cX12_either 2 none :: wA) B.pre
  have hwd : ∀ w ∈ wA, w.before _ s = true := fun w h => hts w (List.mem_cons_of_mem _ h)
  have hown : s.vm.findClass RX12 = some m.cls := findClass_of_methodNamed B.named
  have hlocks := B.notSynchronized
  subst hsz
  have hl := lv_entry ([.ref (g 0)]) (n := 2) (Nat.le_of_ble_eq_true rfl)
  rw [lg_entry_eq]
  generalize (lg_sl ([.ref (g 0)]) ++ List.replicate (2 - (lg_sl ([.ref (g 0)])).length) Slot.unset).toArray = ls at hl ⊢
  have hl : lv_has ls 2 [(0, .ref (g 0))] := hl
  obtain ⟨H, eH⟩ : ∃ z, z = s.heap := ⟨_, rfl⟩
  have hP : va_P (dC, dI) classes (wM g c v F rc) H := by rw [eH]; exact hP
  have hS : va_S (AM g s.heap.size) s.heap H [] := by rw [eH]; exact va_S.rf
  refine my_heap eH ?_
  have hF : ∀ k, k ∉ ([28, 29] : List Nat) → F k = F k := fun _ _ => rfl
  have hb30 : 0 ≤ (v 30).toInt ∧ (v 30).toInt ≤ 120 := hI.1 30 _ _ rfl
  have hb37 : 0 ≤ (v 37).toInt ∧ (v 37).toInt ≤ 9 := hI.1 37 _ _ rfl
  have hb38 : 0 ≤ (v 38).toInt ∧ (v 38).toInt ≤ 120 := hI.1 38 _ _ rfl
  have hb39 : 0 ≤ (v 39).toInt ∧ (v 39).toInt ≤ 120 := hI.1 39 _ _ rfl
  have hb41 : 0 ≤ (v 41).toInt ∧ (v 41).toInt ≤ 8 := hI.1 41 _ _ rfl
  have hk : keepL (v 37) (F 28) (F 29) (F 28) (F 29) := keepL.rf
  have hd : (v 40).toInt < 0 → dp (F 28) (F 29) (bI (v 37)) (v 38).toInt.toNat = some d := fun _ => hdp
  refine lv_aload_n hx hb dX12_either_0 rfl (lv_at hl 0 rfl) ?_
  have t12781 : 0 ≤ (v 30).toInt ∧ (v 30).toInt ≤ 120 := hI.1 30 _ _ rfl
  have t12782 : 0 ≤ (v 37).toInt ∧ (v 37).toInt ≤ 9 := hI.1 37 _ _ rfl
  have t12783 : 0 ≤ (v 38).toInt ∧ (v 38).toInt ≤ 120 := hI.1 38 _ _ rfl
  have t12784 : 0 ≤ (v 39).toInt ∧ (v 39).toInt ≤ 120 := hI.1 39 _ _ rfl
  have t12785 : 0 ≤ (v 41).toInt ∧ (v 41).toInt ≤ 8 := hI.1 41 _ _ rfl
  refine va_callv (va_runV (As := []) (rest := []) ⟨hx, hb, hml, hown, hwd⟩ (c_X12_sum_7 l dC dI g c adK adV v F rc H.size  d hg hI (by have h9 : v 38 = v 38 := rfl; (try rw [h9]); clear h9; have h9 : v 39 = v 39 := rfl; (try rw [h9]); clear h9; have h9 : v 30 = v 30 := rfl; (try rw [h9]); clear h9; have h9 : v 40 = v 40 := rfl; (try rw [h9]); clear h9; have h9 : v 41 = v 41 := rfl; (try rw [h9]); clear h9; omega) (by have h9 : v 37 = (v 37) := rfl; have h8 : v 38 = (v 38) := rfl; (try rw [h9]); (try rw [h8]); exact hd (by omega))) (cwV 0 hwd (gV wk_1043 wk_1011 wk_1012 wk_1013 wk_5) rfl rfl rfl (by decide +kernel) ⟨Nat.le_of_ble_eq_true rfl, Nat.le_of_ble_eq_true rfl⟩) ⟨PM.blind, va_recv hK hP (ci := 12) (q0 := 0) rfl rfl, fun U hU hW => ⟨rfl, PM.at hK hE hP hS hU hW⟩⟩ rfl rfl hl.1 rfl (lv_room (Nat.le_of_ble_eq_true rfl)) dX12_either_1 ⟨Nat.le_of_ble_eq_true rfl, Nat.le_of_ble_eq_true rfl⟩) hS (fun q _ h => (freeM hS) q h) (freeM hS) (fun u t H1 locs ht hvm hw hB hz1 hk1 hS => ?_)
  unfold BM at hB
  rw [ht] at hB
  obtain ⟨v12787, F12788, rc9⟩ := u
  obtain ⟨hI, hrc, hf12789, hG12790, hw⟩ := hw
  dsimp only at hI hrc hB hf12789 hG12790 hw
  have hF := frCF (by decide) hG12790 hF
  rw [hrc] at hB
  have hP : va_P (dC, dI) classes (wM g c v12787 F12788 rc) H1 := hB
  have hw : ((v 39).toInt ≤ (v12787 39).toInt ∧ (v12787 39).toInt ≤ (v 30).toInt ∧ (v 38).toInt ≤ (v12787 38).toInt ∧ (v12787 38).toInt - (v 38).toInt ≤ (v12787 39).toInt - (v 39).toInt ∧ (v 41).toInt ≤ (v12787 41).toInt ∧ ((v12787 40).toInt < 0 → (v12787 41).toInt = (v 41).toInt)) ∧ keepL (v 37) (F 28) (F 29) (F12788 28) (F12788 29) ∧ ((v12787 40).toInt < 0 → dp (F12788 28) (F12788 29) (bI (v 37)) (v12787 38).toInt.toNat = some (d + 1)) := hw
  have hw_r12786 := hw
  have t12791 : 0 ≤ (v12787 38).toInt ∧ (v12787 38).toInt ≤ 120 := hI.1 38 _ _ rfl
  have t12792 : 0 ≤ (v12787 39).toInt ∧ (v12787 39).toInt ≤ 120 := hI.1 39 _ _ rfl
  have t12793 : 0 ≤ (v12787 41).toInt ∧ (v12787 41).toInt ≤ 8 := hI.1 41 _ _ rfl
  generalize H1 = H at hP hS ⊢
  have hk := hk.tr hw_r12786.2.1
  have hd := hw_r12786.2.2
  refine lv_aload_n hx hb dX12_either_4 rfl (lv_at hl 0 rfl) ?_
  have t12794 : 0 ≤ (v 30).toInt ∧ (v 30).toInt ≤ 120 := by have h9 := hI.1 30 _ _ rfl; rw [show v12787 30 = v 30 from hf12789 30 (by decide)] at h9; exact h9
  have t12795 : 0 ≤ (v12787 39).toInt ∧ (v12787 39).toInt ≤ 120 := hI.1 39 _ _ rfl
  refine va_calli (va_runV (As := []) (rest := []) ⟨hx, hb, hml, hown, hwd⟩ (c_X12_look l dC dI g c adK adV v12787 F12788 rc H.size  hg hI ) (cwV 0 hwd (gV wk_1017 wk_1014 wk_1015 wk_1016 wk_5) rfl rfl rfl (by decide +kernel) ⟨Nat.le_of_ble_eq_true rfl, Nat.le_of_ble_eq_true rfl⟩) ⟨PM.blind, va_recv hK hP (ci := 12) (q0 := 0) rfl rfl, fun U hU hW => ⟨rfl, PM.at hK hE hP hS hU hW⟩⟩ rfl rfl hl.1 rfl (lv_room (Nat.le_of_ble_eq_true rfl)) dX12_either_5 ⟨Nat.le_of_ble_eq_true rfl, Nat.le_of_ble_eq_true rfl⟩) hS (fun q _ h => (freeM hS) q h) (freeM hS) (fun r12796 u t H1 locs ht hvm hw hB hz1 hk1 hS => ?_)
  unfold BM at hB
  rw [ht] at hB
  have hP : va_P (dC, dI) classes (wM g c v12787 F12788 rc) H1 := hB
  have hw : r12796.toInt = lkM (v12787 39) (v12787 30) (F12788 24) ∧ ((v12787 39).toInt < (v12787 30).toInt ∨ r12796.toInt = -1) := hw
  rw [show v12787 30 = v 30 from hf12789 30 (by decide)] at hw
  rw [hF 24 (by decide)] at hw
  have hw_r12796 := hw
  generalize H1 = H at hP hS ⊢
  refine lv_istore_n (lv' := [(1, .int r12796), (0, .ref (g 0))]) hx hb dX12_either_8 rfl hl (by decide) rfl (fun ls hl => ?_)
  refine lv_aload_n hx hb dX12_either_9 rfl (lv_at hl 1 rfl) ?_
  refine va_get (D := (dC, dI)) (ci := 12) (v := .int (v12787 40)) (C := RX12) (T := TX12) (N := 63) hx hb hwd inA_X12 hown hK hP 0 rfl rfl 40 (by decide) (hwd _ wk_1005) (fun _ h9 => h9) rfl dX12_either_10 ?_
  refine lv_if_ge (tgt := 54) hx hb dX12_either_13 (by decide) (fun c12797 => ?_) (fun c12797 => ?_)
  · skip
    have t12798 := cv_le (a := 0) (by decide) (b := (v12787 40).toInt) rfl c12797
    refine lv_aload_n hx hb dX12_either_54 rfl (lv_at hl 1 rfl) ?_
    refine va_get (D := (dC, dI)) (ci := 12) (v := .int (v12787 40)) (C := RX12) (T := TX12) (N := 63) hx hb hwd inA_X12 hown hK hP 0 rfl rfl 40 (by decide) (hwd _ wk_1005) (fun _ h9 => h9) rfl dX12_either_55 ?_
    refine lv_if_ge (tgt := 70) hx hb dX12_either_58 (by decide) (fun c12799 => ?_) (fun c12799 => ?_)
    · skip
      have t12800 := cv_le (a := 0) (by decide) (b := (v12787 40).toInt) rfl c12799
      have hP9 : va_P (dC, dI) classes (wM g c v12787 F12788 rc) H := hP
      exact W.vret hx hb hr (fun t ht hW => ⟨⟨(v12787, F12788, rc), rfl, ⟨hI, rfl, (frC (by decide) hf12789 (fun _ _ => rfl)), hF, (by show ((v 39).toInt ≤ (v12787 39).toInt ∧ (v12787 39).toInt ≤ (v 30).toInt ∧ (v 38).toInt ≤ (v12787 38).toInt ∧ (v12787 38).toInt - (v 38).toInt ≤ (v12787 39).toInt - (v 39).toInt ∧ (v 41).toInt ≤ (v12787 41).toInt ∧ ((v12787 40).toInt < 0 → (v12787 41).toInt = (v 41).toInt)) ∧ keepL (v 37) (F 28) (F 29) (F12788 28) (F12788 29) ∧ ((v12787 40).toInt < 0 → dp (F12788 28) (F12788 29) (bI (v 37)) (v12787 38).toInt.toNat = some (d + 1)); exact ⟨by omega, hk, fun hf => (hd (by omega)).trans (congrArg some (by omega))⟩)⟩, (by show va_P _ _ _ t.heap; rw [ht]; exact hP9)⟩, hS.F ht⟩) hS.2.2 dX12_either_70
    · skip
      have t12801 := cv_nle (a := 0) (by decide) (b := (v12787 40).toInt) rfl c12799
      refine lv_aload_n hx hb dX12_either_61 rfl (lv_at hl 1 rfl) ?_
      have t12802 : 0 ≤ (v 30).toInt ∧ (v 30).toInt ≤ 120 := by have h9 := hI.1 30 _ _ rfl; rw [show v12787 30 = v 30 from hf12789 30 (by decide)] at h9; exact h9
      have t12803 : 0 ≤ (v12787 39).toInt ∧ (v12787 39).toInt ≤ 120 := hI.1 39 _ _ rfl
      refine va_calli (va_runV (As := []) (rest := []) ⟨hx, hb, hml, hown, hwd⟩ (c_X12_look l dC dI g c adK adV v12787 F12788 rc H.size  hg hI ) (cwV 0 hwd (gV wk_1017 wk_1014 wk_1015 wk_1016 wk_5) rfl rfl rfl (by decide +kernel) ⟨Nat.le_of_ble_eq_true rfl, Nat.le_of_ble_eq_true rfl⟩) ⟨PM.blind, va_recv hK hP (ci := 12) (q0 := 0) rfl rfl, fun U hU hW => ⟨rfl, PM.at hK hE hP hS hU hW⟩⟩ rfl rfl hl.1 rfl (lv_room (Nat.le_of_ble_eq_true rfl)) dX12_either_62 ⟨Nat.le_of_ble_eq_true rfl, Nat.le_of_ble_eq_true rfl⟩) hS (fun q _ h => (freeM hS) q h) (freeM hS) (fun r12804 u t H1 locs ht hvm hw hB hz1 hk1 hS => ?_)
      unfold BM at hB
      rw [ht] at hB
      have hP : va_P (dC, dI) classes (wM g c v12787 F12788 rc) H1 := hB
      have hw : r12804.toInt = lkM (v12787 39) (v12787 30) (F12788 24) ∧ ((v12787 39).toInt < (v12787 30).toInt ∨ r12804.toInt = -1) := hw
      rw [show v12787 30 = v 30 from hf12789 30 (by decide)] at hw
      rw [hF 24 (by decide)] at hw
      have hw_r12804 := hw
      generalize H1 = H at hP hS ⊢
      refine lv_bipush (v := 63) hx hb dX12_either_65 (by decide) ?_
      refine lv_icmp_eq (tgt := 71) hx hb dX12_either_67 (by decide) (fun c12805 => ?_) (fun c12805 => ?_)
      · skip
        have t12806 := cv_eq (a := r12804.toInt) rfl (b := 63) (by decide) c12805
        refine lv_aload_n hx hb dX12_either_71 rfl (lv_at hl 1 rfl) ?_
        have t12807 : 0 ≤ (v12787 39).toInt ∧ (v12787 39).toInt ≤ 120 := hI.1 39 _ _ rfl
        have t12808 : 0 ≤ (v12787 41).toInt ∧ (v12787 41).toInt ≤ 8 := hI.1 41 _ _ rfl
        refine va_calli (va_runV (As := []) (rest := []) ⟨hx, hb, hml, hown, hwd⟩ (c_X12_opens l dC dI g c adK adV v12787 F12788 rc H.size  hg hI (by have h9 : v12787 39 = v12787 39 := rfl; (try rw [h9]); clear h9; have h9 : v12787 30 = v 30 := hf12789 30 (by decide); (try rw [h9]); clear h9; omega)) (cwV 0 hwd (gV wk_1025 wk_1022 wk_1023 wk_1024 wk_5) rfl rfl rfl (by decide +kernel) ⟨Nat.le_of_ble_eq_true rfl, Nat.le_of_ble_eq_true rfl⟩) ⟨PM.blind, va_recv hK hP (ci := 12) (q0 := 0) rfl rfl, fun U hU hW => ⟨rfl, PM.at hK hE hP hS hU hW⟩⟩ rfl rfl hl.1 rfl (lv_room (Nat.le_of_ble_eq_true rfl)) dX12_either_72 ⟨Nat.le_of_ble_eq_true rfl, Nat.le_of_ble_eq_true rfl⟩) hS (fun q _ h => (freeM hS) q h) (freeM hS) (fun r12809 u t H1 locs ht hvm hw hB hz1 hk1 hS => ?_)
        unfold BM at hB
        rw [ht] at hB
        obtain ⟨v12810, F12811, rc9⟩ := u
        obtain ⟨hI, hrc, hf12812, hG12813, hw⟩ := hw
        dsimp only at hI hrc hB hf12812 hG12813 hw
        have hF := frCF (by decide) hG12813 hF
        rw [hrc] at hB
        have hP : va_P (dC, dI) classes (wM g c v12810 F12811 rc) H1 := hB
        have hw : (r12809.toInt = 1 ∧ (v12787 41).toInt < 8 ∧ (v12810 41).toInt = (v12787 41).toInt + 1 ∧ (v12810 39).toInt = (v12787 39).toInt + 1 ∧ (v12810 40).toInt = (v12787 40).toInt) ∨ (r12809.toInt = 0 ∧ (v12787 41).toInt = 8 ∧ 0 ≤ (v12810 40).toInt ∧ (v12810 41).toInt = (v12787 41).toInt ∧ (v12810 39).toInt = (v12787 39).toInt) := hw
        have hw_r12809 := hw
        have t12814 : 0 ≤ (v12810 39).toInt ∧ (v12810 39).toInt ≤ 120 := hI.1 39 _ _ rfl
        have t12815 : 0 ≤ (v12810 41).toInt ∧ (v12810 41).toInt ≤ 8 := hI.1 41 _ _ rfl
        generalize H1 = H at hP hS ⊢
        have hk : keepL (v 37) (F 28) (F 29) (F12811 28) (F12811 29) := by rw [hG12813 28 (by decide), hG12813 29 (by decide)]; exact hk
        have hd : (v12810 40).toInt < 0 → dp (F12811 28) (F12811 29) (bI (v 37)) (v12787 38).toInt.toNat = some (d + 1) := fun hf => (by rw [hG12813 28 (by decide), hG12813 29 (by decide)]; exact hd (by omega))
        refine lv_if_ne (tgt := 79) hx hb dX12_either_75 (by decide) (fun c12816 => ?_) (fun c12816 => ?_)
        · skip
          have t12817 := cv_ne (a := r12809.toInt) rfl (b := 0) (by decide) c12816
          refine lv_aload_n hx hb dX12_either_79 rfl (lv_at hl 1 rfl) ?_
          have t12818 : 0 ≤ (v 30).toInt ∧ (v 30).toInt ≤ 120 := by have h9 := hI.1 30 _ _ rfl; rw [show v12810 30 = v 30 from (hf12812 30 (by decide)).trans (hf12789 30 (by decide))] at h9; exact h9
          have t12819 : 0 ≤ (v 37).toInt ∧ (v 37).toInt ≤ 9 := by have h9 := hI.1 37 _ _ rfl; rw [show v12810 37 = v 37 from (hf12812 37 (by decide)).trans (hf12789 37 (by decide))] at h9; exact h9
          have t12820 : 0 ≤ (v12787 38).toInt ∧ (v12787 38).toInt ≤ 120 := by have h9 := hI.1 38 _ _ rfl; rw [show v12810 38 = v12787 38 from hf12812 38 (by decide)] at h9; exact h9
          have t12821 : 0 ≤ (v12810 39).toInt ∧ (v12810 39).toInt ≤ 120 := hI.1 39 _ _ rfl
          have t12822 : 0 ≤ (v12810 41).toInt ∧ (v12810 41).toInt ≤ 8 := hI.1 41 _ _ rfl
          refine va_callv (va_runV (As := []) (rest := []) ⟨hx, hb, hml, hown, hwd⟩ (c_X12_either_8 l dC dI g c adK adV v12810 F12811 rc H.size  (d + 1) hg hI (by have h9 : v12810 38 = v12787 38 := hf12812 38 (by decide); (try rw [h9]); clear h9; have h9 : v12810 39 = v12810 39 := rfl; (try rw [h9]); clear h9; have h9 : v12810 30 = v 30 := (hf12812 30 (by decide)).trans (hf12789 30 (by decide)); (try rw [h9]); clear h9; have h9 : v12810 40 = v12810 40 := rfl; (try rw [h9]); clear h9; have h9 : v12810 41 = v12810 41 := rfl; (try rw [h9]); clear h9; omega) (by have h9 : v12810 37 = (v 37) := (hf12812 37 (by decide)).trans (hf12789 37 (by decide)); have h8 : v12810 38 = (v12787 38) := hf12812 38 (by decide); (try rw [h9]); (try rw [h8]); exact hd (by omega))) (cwV 0 hwd (gV wk_1010 wk_1007 wk_1008 wk_1009 wk_5) rfl rfl rfl (by decide +kernel) ⟨Nat.le_of_ble_eq_true rfl, Nat.le_of_ble_eq_true rfl⟩) ⟨PM.blind, va_recv hK hP (ci := 12) (q0 := 0) rfl rfl, fun U hU hW => ⟨rfl, PM.at hK hE hP hS hU hW⟩⟩ rfl rfl hl.1 rfl (lv_room (Nat.le_of_ble_eq_true rfl)) dX12_either_80 ⟨Nat.le_of_ble_eq_true rfl, Nat.le_of_ble_eq_true rfl⟩) hS (fun q _ h => (freeM hS) q h) (freeM hS) (fun u t H1 locs ht hvm hw hB hz1 hk1 hS => ?_)
          unfold BM at hB
          rw [ht] at hB
          obtain ⟨v12824, F12825, rc9⟩ := u
          obtain ⟨hI, hrc, hf12826, hG12827, hw⟩ := hw
          dsimp only at hI hrc hB hf12826 hG12827 hw
          have hF := frCF (by decide) hG12827 hF
          rw [hrc] at hB
          have hP : va_P (dC, dI) classes (wM g c v12824 F12825 rc) H1 := hB
          have hw : ((v12810 39).toInt ≤ (v12824 39).toInt ∧ (v12824 39).toInt ≤ (v12810 30).toInt ∧ (v12810 38).toInt ≤ (v12824 38).toInt ∧ (v12824 38).toInt - (v12810 38).toInt ≤ (v12824 39).toInt - (v12810 39).toInt ∧ (v12810 41).toInt ≤ (v12824 41).toInt ∧ ((v12824 40).toInt < 0 → (v12824 41).toInt = (v12810 41).toInt)) ∧ keepL (v12810 37) (F12811 28) (F12811 29) (F12825 28) (F12825 29) ∧ ((v12824 40).toInt < 0 → dp (F12825 28) (F12825 29) (bI (v12810 37)) (v12824 38).toInt.toNat = some ((d + 1) + 1)) := hw
          rw [show v12810 30 = v 30 from (hf12812 30 (by decide)).trans (hf12789 30 (by decide))] at hw
          rw [show v12810 38 = v12787 38 from hf12812 38 (by decide)] at hw
          rw [show v12810 37 = v 37 from (hf12812 37 (by decide)).trans (hf12789 37 (by decide))] at hw
          have hw_r12823 := hw
          have t12828 : 0 ≤ (v12824 38).toInt ∧ (v12824 38).toInt ≤ 120 := hI.1 38 _ _ rfl
          have t12829 : 0 ≤ (v12824 39).toInt ∧ (v12824 39).toInt ≤ 120 := hI.1 39 _ _ rfl
          have t12830 : 0 ≤ (v12824 41).toInt ∧ (v12824 41).toInt ≤ 8 := hI.1 41 _ _ rfl
          generalize H1 = H at hP hS ⊢
          have hk := hk.tr hw_r12823.2.1
          have hd := hw_r12823.2.2
          refine lv_aload_n hx hb dX12_either_83 rfl (lv_at hl 1 rfl) ?_
          refine va_get (D := (dC, dI)) (ci := 12) (v := .int (v12824 40)) (C := RX12) (T := TX12) (N := 63) hx hb hwd inA_X12 hown hK hP 0 rfl rfl 40 (by decide) (hwd _ wk_1005) (fun _ h9 => h9) rfl dX12_either_84 ?_
          refine lv_if_lt (tgt := 91) hx hb dX12_either_87 (by decide) (fun c12831 => ?_) (fun c12831 => ?_)
          · skip
            have t12832 := cv_lt (a := (v12824 40).toInt) rfl (b := 0) (by decide) c12831
            refine lv_aload_n hx hb dX12_either_91 rfl (lv_at hl 1 rfl) ?_
            have t12833 : 0 ≤ (v 30).toInt ∧ (v 30).toInt ≤ 120 := by have h9 := hI.1 30 _ _ rfl; rw [show v12824 30 = v 30 from (hf12826 30 (by decide)).trans ((hf12812 30 (by decide)).trans (hf12789 30 (by decide)))] at h9; exact h9
            have t12834 : 0 ≤ (v12824 39).toInt ∧ (v12824 39).toInt ≤ 120 := hI.1 39 _ _ rfl
            refine va_calli (va_runV (As := []) (rest := []) ⟨hx, hb, hml, hown, hwd⟩ (c_X12_look l dC dI g c adK adV v12824 F12825 rc H.size  hg hI ) (cwV 0 hwd (gV wk_1017 wk_1014 wk_1015 wk_1016 wk_5) rfl rfl rfl (by decide +kernel) ⟨Nat.le_of_ble_eq_true rfl, Nat.le_of_ble_eq_true rfl⟩) ⟨PM.blind, va_recv hK hP (ci := 12) (q0 := 0) rfl rfl, fun U hU hW => ⟨rfl, PM.at hK hE hP hS hU hW⟩⟩ rfl rfl hl.1 rfl (lv_room (Nat.le_of_ble_eq_true rfl)) dX12_either_92 ⟨Nat.le_of_ble_eq_true rfl, Nat.le_of_ble_eq_true rfl⟩) hS (fun q _ h => (freeM hS) q h) (freeM hS) (fun r12835 u t H1 locs ht hvm hw hB hz1 hk1 hS => ?_)
            unfold BM at hB
            rw [ht] at hB
            have hP : va_P (dC, dI) classes (wM g c v12824 F12825 rc) H1 := hB
            have hw : r12835.toInt = lkM (v12824 39) (v12824 30) (F12825 24) ∧ ((v12824 39).toInt < (v12824 30).toInt ∨ r12835.toInt = -1) := hw
            rw [show v12824 30 = v 30 from (hf12826 30 (by decide)).trans ((hf12812 30 (by decide)).trans (hf12789 30 (by decide)))] at hw
            rw [hF 24 (by decide)] at hw
            have hw_r12835 := hw
            generalize H1 = H at hP hS ⊢
            refine lv_bipush (v := 58) hx hb dX12_either_95 (by decide) ?_
            refine lv_icmp_eq (tgt := 105) hx hb dX12_either_97 (by decide) (fun c12836 => ?_) (fun c12836 => ?_)
            · skip
              have t12837 := cv_eq (a := r12835.toInt) rfl (b := 58) (by decide) c12836
              refine lv_aload_n hx hb dX12_either_105 rfl (lv_at hl 1 rfl) ?_
              refine lv_dup hx hb dX12_either_106 rfl ?_
              refine va_get (D := (dC, dI)) (ci := 12) (v := .int (v12824 39)) (C := RX12) (T := TX12) (N := 63) hx hb hwd inA_X12 hown hK hP 0 rfl rfl 39 (by decide) (hwd _ wk_1004) (fun _ h9 => h9) rfl dX12_either_107 ?_
              have t12838 : 0 ≤ (v12824 39).toInt ∧ (v12824 39).toInt ≤ 120 := hI.1 39 _ _ rfl
              refine lv_iconst (v := 1) hx hb dX12_either_110 (by decide) ?_
              refine lv_iadd hx hb dX12_either_111 ?_
              refine lv_topi (fun z12839 e12840 => ?_)
              try (have t12841 := tadd e12840 (a := (v12824 39).toInt) rfl (b := 1) (by decide) (by omega))
              refine va_put (D := (dC, dI)) (ci := 12) (v := .int z12839) (ty := .int) (C := RX12) (T := TX12) (N := 63) (fs := fsM_0 g v12824 rc) hx hb hwd inA_X12 tyX12 tyX12_ok nmX12 hown hK hP (DM hg) hS 0 rfl rfl 39 (by decide) (hwd _ wk_1004) (fun _ h9 => h9) rfl (by decide +kernel) rfl rfl (Nat.le_of_ble_eq_true rfl) dX12_either_112 (fun H locs hP _ hS => ?_)
              have hP := va_P_eq (pM_39 g c _ _ _ _) hP
              have hI := IM.put hI 39 z12839 rfl (by omega)
              refine lv_aload_n hx hb dX12_either_115 rfl (lv_at hl 1 rfl) ?_
              have t12842 : 0 ≤ (v 30).toInt ∧ (v 30).toInt ≤ 120 := by have h9 := hI.1 30 _ _ rfl; rw [show (va_up v12824 39 z12839) 30 = v 30 from (hf12826 30 (by decide)).trans ((hf12812 30 (by decide)).trans (hf12789 30 (by decide)))] at h9; exact h9
              have t12843 : 0 ≤ (v 37).toInt ∧ (v 37).toInt ≤ 9 := by have h9 := hI.1 37 _ _ rfl; rw [show (va_up v12824 39 z12839) 37 = v 37 from (hf12826 37 (by decide)).trans ((hf12812 37 (by decide)).trans (hf12789 37 (by decide)))] at h9; exact h9
              have t12844 : 0 ≤ (v12824 38).toInt ∧ (v12824 38).toInt ≤ 120 := hI.1 38 _ _ rfl
              have t12845 : 0 ≤ z12839.toInt ∧ z12839.toInt ≤ 120 := hI.1 39 _ _ rfl
              have t12846 : 0 ≤ (v12824 41).toInt ∧ (v12824 41).toInt ≤ 8 := hI.1 41 _ _ rfl
              refine va_callv (va_runV (As := []) (rest := []) ⟨hx, hb, hml, hown, hwd⟩ (c_X12_either_8 l dC dI g c adK adV (va_up v12824 39 z12839) F12825 rc H.size  ((d + 1) + 1) hg hI (by have h9 : (va_up v12824 39 z12839) 38 = v12824 38 := rfl; (try rw [h9]); clear h9; have h9 : (va_up v12824 39 z12839) 39 = z12839 := rfl; (try rw [h9]); clear h9; have h9 : (va_up v12824 39 z12839) 30 = v 30 := (hf12826 30 (by decide)).trans ((hf12812 30 (by decide)).trans (hf12789 30 (by decide))); (try rw [h9]); clear h9; have h9 : (va_up v12824 39 z12839) 40 = v12824 40 := rfl; (try rw [h9]); clear h9; have h9 : (va_up v12824 39 z12839) 41 = v12824 41 := rfl; (try rw [h9]); clear h9; omega) (by have h9 : (va_up v12824 39 z12839) 37 = (v 37) := (hf12826 37 (by decide)).trans ((hf12812 37 (by decide)).trans (hf12789 37 (by decide))); have h8 : (va_up v12824 39 z12839) 38 = (v12824 38) := rfl; (try rw [h9]); (try rw [h8]); exact hd (by omega))) (cwV 0 hwd (gV wk_1010 wk_1007 wk_1008 wk_1009 wk_5) rfl rfl rfl (by decide +kernel) ⟨Nat.le_of_ble_eq_true rfl, Nat.le_of_ble_eq_true rfl⟩) ⟨PM.blind, va_recv hK hP (ci := 12) (q0 := 0) rfl rfl, fun U hU hW => ⟨rfl, PM.at hK hE hP hS hU hW⟩⟩ rfl rfl hl.1 rfl (lv_room (Nat.le_of_ble_eq_true rfl)) dX12_either_116 ⟨Nat.le_of_ble_eq_true rfl, Nat.le_of_ble_eq_true rfl⟩) hS (fun q _ h => (freeM hS) q h) (freeM hS) (fun u t H1 locs ht hvm hw hB hz1 hk1 hS => ?_)
              unfold BM at hB
              rw [ht] at hB
              obtain ⟨v12848, F12849, rc9⟩ := u
              obtain ⟨hI, hrc, hf12850, hG12851, hw⟩ := hw
              dsimp only at hI hrc hB hf12850 hG12851 hw
              have hF := frCF (by decide) hG12851 hF
              rw [hrc] at hB
              have hP : va_P (dC, dI) classes (wM g c v12848 F12849 rc) H1 := hB
              have hw : (z12839.toInt ≤ (v12848 39).toInt ∧ (v12848 39).toInt ≤ ((va_up v12824 39 z12839) 30).toInt ∧ (v12824 38).toInt ≤ (v12848 38).toInt ∧ (v12848 38).toInt - (v12824 38).toInt ≤ (v12848 39).toInt - z12839.toInt ∧ (v12824 41).toInt ≤ (v12848 41).toInt ∧ ((v12848 40).toInt < 0 → (v12848 41).toInt = (v12824 41).toInt)) ∧ keepL ((va_up v12824 39 z12839) 37) (F12825 28) (F12825 29) (F12849 28) (F12849 29) ∧ ((v12848 40).toInt < 0 → dp (F12849 28) (F12849 29) (bI ((va_up v12824 39 z12839) 37)) (v12848 38).toInt.toNat = some (((d + 1) + 1) + 1)) := hw
              rw [show (va_up v12824 39 z12839) 30 = v 30 from (hf12826 30 (by decide)).trans ((hf12812 30 (by decide)).trans (hf12789 30 (by decide)))] at hw
              rw [show (va_up v12824 39 z12839) 37 = v 37 from (hf12826 37 (by decide)).trans ((hf12812 37 (by decide)).trans (hf12789 37 (by decide)))] at hw
              have hw_r12847 := hw
              have t12852 : 0 ≤ (v12848 38).toInt ∧ (v12848 38).toInt ≤ 120 := hI.1 38 _ _ rfl
              have t12853 : 0 ≤ (v12848 39).toInt ∧ (v12848 39).toInt ≤ 120 := hI.1 39 _ _ rfl
              have t12854 : 0 ≤ (v12848 41).toInt ∧ (v12848 41).toInt ≤ 8 := hI.1 41 _ _ rfl
              generalize H1 = H at hP hS ⊢
              have hk := hk.tr hw_r12847.2.1
              have hd := hw_r12847.2.2
              refine lv_aload_n hx hb dX12_either_119 rfl (lv_at hl 1 rfl) ?_
              refine lv_iconst (v := 4) hx hb dX12_either_120 (by decide) ?_
              refine lv_iconst (v := 0) hx hb dX12_either_121 (by decide) ?_
              have t12855 : 0 ≤ (v 37).toInt ∧ (v 37).toInt ≤ 9 := by have h9 := hI.1 37 _ _ rfl; rw [show v12848 37 = v 37 from (hf12850 37 (by decide)).trans ((hf12826 37 (by decide)).trans ((hf12812 37 (by decide)).trans (hf12789 37 (by decide))))] at h9; exact h9
              have t12856 : 0 ≤ (v12848 38).toInt ∧ (v12848 38).toInt ≤ 120 := hI.1 38 _ _ rfl
              refine va_callv (va_runV (As := [.int 4, .int 0]) (rest := []) ⟨hx, hb, hml, hown, hwd⟩ (c_X12_lay l dC dI g c adK adV v12848 F12849 rc H.size 4 0 hg hI (by have h9 : v12848 38 = v12848 38 := rfl; rw [h9]; omega)) (cwV 2 hwd (gV wk_1021 wk_1018 wk_1019 wk_1020 wk_5) rfl rfl rfl (by decide +kernel) ⟨Nat.le_of_ble_eq_true rfl, Nat.le_of_ble_eq_true rfl⟩) ⟨PM.blind, va_recv hK hP (ci := 12) (q0 := 0) rfl rfl, fun U hU hW => ⟨rfl, PM.at hK hE hP hS hU hW⟩⟩ rfl rfl hl.1 rfl (lv_room (Nat.le_of_ble_eq_true rfl)) dX12_either_122 ⟨Nat.le_of_ble_eq_true rfl, Nat.le_of_ble_eq_true rfl⟩) hS (fun q _ h => (freeM hS) q h) (freeM hS) (fun u t H1 locs ht hvm hw hB hz1 hk1 hS => ?_)
              unfold BM at hB
              rw [ht] at hB
              obtain ⟨v12858, F12859, rc9⟩ := u
              obtain ⟨hI, hrc, hf12860, hG12861, hw⟩ := hw
              dsimp only at hI hrc hB hf12860 hG12861 hw
              have hF := frCF (by decide) hG12861 hF
              rw [hrc] at hB
              have hP : va_P (dC, dI) classes (wM g c v12858 F12859 rc) H1 := hB
              have hw : (v12858 38).toInt = (v12848 38).toInt + 1 ∧ keepL (v12848 37) (F12849 28) (F12849 29) (F12859 28) (F12859 29) ∧ dp (F12859 28) (F12859 29) (bI (v12848 37)) ((v12848 38).toInt.toNat + 1) = dpS (dp (F12849 28) (F12849 29) (bI (v12848 37)) (v12848 38).toInt.toNat) (4 : Int32) (0 : Int32) := hw
              rw [show v12848 37 = v 37 from (hf12850 37 (by decide)).trans ((hf12826 37 (by decide)).trans ((hf12812 37 (by decide)).trans (hf12789 37 (by decide))))] at hw
              have hw_r12857 := hw
              have t12862 : 0 ≤ (v12858 38).toInt ∧ (v12858 38).toInt ≤ 120 := hI.1 38 _ _ rfl
              have k12863 : (4 : Int32).toInt = 4 := by decide
              have k12864 : (0 : Int32).toInt = 0 := by decide
              generalize H1 = H at hP hS ⊢
              have hk := hk.tr hw_r12857.2.1
              have hd : (v12848 40).toInt < 0 → dp (F12859 28) (F12859 29) (bI (v 37)) (v12858 38).toInt.toNat = some ((((d + 1) + 1) + 1) - 2) := fun hf => (by have e9 : (v12858 38).toInt.toNat = (v12848 38).toInt.toNat + 1 := (by omega); rw [e9, hw_r12857.2.2, hd hf]; exact dpS_4 (by decide) (by omega))
              refine lv_aload_n hx hb dX12_either_125 rfl (lv_at hl 1 rfl) ?_
              refine lv_dup hx hb dX12_either_126 rfl ?_
              refine va_get (D := (dC, dI)) (ci := 12) (v := .int (v12858 41)) (C := RX12) (T := TX12) (N := 63) hx hb hwd inA_X12 hown hK hP 0 rfl rfl 41 (by decide) (hwd _ wk_1006) (fun _ h9 => h9) rfl dX12_either_127 ?_
              refine my_top (v := v12848 41) (hf12860 41 (by decide)) ?_
              have t12865 : 0 ≤ (v12848 41).toInt ∧ (v12848 41).toInt ≤ 8 := by have h9 := hI.1 41 _ _ rfl; rw [show v12858 41 = v12848 41 from hf12860 41 (by decide)] at h9; exact h9
              refine lv_iconst (v := 1) hx hb dX12_either_130 (by decide) ?_
              refine lv_isub hx hb dX12_either_131 ?_
              refine lv_topi (fun z12866 e12867 => ?_)
              try (have t12868 := tsub e12867 (a := (v12848 41).toInt) rfl (b := 1) (by decide) (by omega))
              refine va_put (D := (dC, dI)) (ci := 12) (v := .int z12866) (ty := .int) (C := RX12) (T := TX12) (N := 63) (fs := fsM_0 g v12858 rc) hx hb hwd inA_X12 tyX12 tyX12_ok nmX12 hown hK hP (DM hg) hS 0 rfl rfl 41 (by decide) (hwd _ wk_1006) (fun _ h9 => h9) rfl (by decide +kernel) rfl rfl (Nat.le_of_ble_eq_true rfl) dX12_either_132 (fun H locs hP _ hS => ?_)
              have hP := va_P_eq (pM_41 g c _ _ _ _) hP
              have hI := IM.put hI 41 z12866 rfl (by omega)
              have hP9 : va_P (dC, dI) classes (wM g c (va_up v12858 41 z12866) F12859 rc) H := hP
              exact W.vret hx hb hr (fun t ht hW => ⟨⟨((va_up v12858 41 z12866), F12859, rc), rfl, ⟨hI, rfl, (frU (by decide) (frC (by decide) hf12860 (frC (by decide) hf12850 (frU (by decide) (frC (by decide) hf12826 (frC (by decide) hf12812 (frC (by decide) hf12789 (fun _ _ => rfl)))))))), hF, (by show ((v 39).toInt ≤ ((va_up v12858 41 z12866) 39).toInt ∧ ((va_up v12858 41 z12866) 39).toInt ≤ (v 30).toInt ∧ (v 38).toInt ≤ (v12858 38).toInt ∧ (v12858 38).toInt - (v 38).toInt ≤ ((va_up v12858 41 z12866) 39).toInt - (v 39).toInt ∧ (v 41).toInt ≤ z12866.toInt ∧ (((va_up v12858 41 z12866) 40).toInt < 0 → z12866.toInt = (v 41).toInt)) ∧ keepL (v 37) (F 28) (F 29) (F12859 28) (F12859 29) ∧ (((va_up v12858 41 z12866) 40).toInt < 0 → dp (F12859 28) (F12859 29) (bI (v 37)) (v12858 38).toInt.toNat = some (d + 1)); rw [show (va_up v12858 41 z12866) 39 = v12848 39 from hf12860 39 (by decide)]; rw [show (va_up v12858 41 z12866) 40 = v12848 40 from hf12860 40 (by decide)]; exact ⟨by omega, hk, fun hf => (hd (by omega)).trans (congrArg some (by omega))⟩)⟩, (by show va_P _ _ _ t.heap; rw [ht]; exact hP9)⟩, hS.F ht⟩) hS.2.2 dX12_either_135
            · skip
              have t12869 := cv_ne (a := r12835.toInt) rfl (b := 58) (by decide) c12836
              refine lv_aload_n hx hb dX12_either_100 rfl (lv_at hl 1 rfl) ?_
              refine va_callv (va_runV (As := []) (rest := []) ⟨hx, hb, hml, hown, hwd⟩ (c_X12_wrong l dC dI g c adK adV v12824 F12825 rc H.size  hg hI ) (cwV 0 hwd (gV wk_1029 wk_1026 wk_1027 wk_1028 wk_5) rfl rfl rfl (by decide +kernel) ⟨Nat.le_of_ble_eq_true rfl, Nat.le_of_ble_eq_true rfl⟩) ⟨PM.blind, va_recv hK hP (ci := 12) (q0 := 0) rfl rfl, fun U hU hW => ⟨rfl, PM.at hK hE hP hS hU hW⟩⟩ rfl rfl hl.1 rfl (lv_room (Nat.le_of_ble_eq_true rfl)) dX12_either_101 ⟨Nat.le_of_ble_eq_true rfl, Nat.le_of_ble_eq_true rfl⟩) hS (fun q _ h => (freeM hS) q h) (freeM hS) (fun u t H1 locs ht hvm hw hB hz1 hk1 hS => ?_)
              unfold BM at hB
              rw [ht] at hB
              obtain ⟨v12871, F12872, rc9⟩ := u
              obtain ⟨hI, hrc, hf12873, hG12874, hw⟩ := hw
              dsimp only at hI hrc hB hf12873 hG12874 hw
              have hF := frCF (by decide) hG12874 hF
              rw [hrc] at hB
              have hP : va_P (dC, dI) classes (wM g c v12871 F12872 rc) H1 := hB
              have hw : 0 ≤ (v12871 40).toInt := hw
              have hw_r12870 := hw
              generalize H1 = H at hP hS ⊢
              have hk : keepL (v 37) (F 28) (F 29) (F12872 28) (F12872 29) := by rw [hG12874 28 (by decide), hG12874 29 (by decide)]; exact hk
              have hd : (v12871 40).toInt < 0 → dp (F12872 28) (F12872 29) (bI (v 37)) (v12824 38).toInt.toNat = some ((d + 1) + 1) := fun hf => (by rw [hG12874 28 (by decide), hG12874 29 (by decide)]; exact hd (by omega))
              have hP9 : va_P (dC, dI) classes (wM g c v12871 F12872 rc) H := hP
              exact W.vret hx hb hr (fun t ht hW => ⟨⟨(v12871, F12872, rc), rfl, ⟨hI, rfl, (frC (by decide) hf12873 (frC (by decide) hf12826 (frC (by decide) hf12812 (frC (by decide) hf12789 (fun _ _ => rfl))))), hF, (by show ((v 39).toInt ≤ (v12871 39).toInt ∧ (v12871 39).toInt ≤ (v 30).toInt ∧ (v 38).toInt ≤ (v12871 38).toInt ∧ (v12871 38).toInt - (v 38).toInt ≤ (v12871 39).toInt - (v 39).toInt ∧ (v 41).toInt ≤ (v12871 41).toInt ∧ ((v12871 40).toInt < 0 → (v12871 41).toInt = (v 41).toInt)) ∧ keepL (v 37) (F 28) (F 29) (F12872 28) (F12872 29) ∧ ((v12871 40).toInt < 0 → dp (F12872 28) (F12872 29) (bI (v 37)) (v12871 38).toInt.toNat = some (d + 1)); rw [show v12871 39 = v12824 39 from hf12873 39 (by decide)]; rw [show v12871 38 = v12824 38 from hf12873 38 (by decide)]; rw [show v12871 41 = v12824 41 from hf12873 41 (by decide)]; exact ⟨by omega, hk, fun hf => (hd (by omega)).trans (congrArg some (by omega))⟩)⟩, (by show va_P _ _ _ t.heap; rw [ht]; exact hP9)⟩, hS.F ht⟩) hS.2.2 dX12_either_104
          · skip
            have t12875 := cv_nlt (a := (v12824 40).toInt) rfl (b := 0) (by decide) c12831
            have hP9 : va_P (dC, dI) classes (wM g c v12824 F12825 rc) H := hP
            exact W.vret hx hb hr (fun t ht hW => ⟨⟨(v12824, F12825, rc), rfl, ⟨hI, rfl, (frC (by decide) hf12826 (frC (by decide) hf12812 (frC (by decide) hf12789 (fun _ _ => rfl)))), hF, (by show ((v 39).toInt ≤ (v12824 39).toInt ∧ (v12824 39).toInt ≤ (v 30).toInt ∧ (v 38).toInt ≤ (v12824 38).toInt ∧ (v12824 38).toInt - (v 38).toInt ≤ (v12824 39).toInt - (v 39).toInt ∧ (v 41).toInt ≤ (v12824 41).toInt ∧ ((v12824 40).toInt < 0 → (v12824 41).toInt = (v 41).toInt)) ∧ keepL (v 37) (F 28) (F 29) (F12825 28) (F12825 29) ∧ ((v12824 40).toInt < 0 → dp (F12825 28) (F12825 29) (bI (v 37)) (v12824 38).toInt.toNat = some (d + 1)); exact ⟨by omega, hk, fun hf => (hd (by omega)).trans (congrArg some (by omega))⟩)⟩, (by show va_P _ _ _ t.heap; rw [ht]; exact hP9)⟩, hS.F ht⟩) hS.2.2 dX12_either_90
        · skip
          have t12876 := cv_eq (a := r12809.toInt) rfl (b := 0) (by decide) c12816
          have hP9 : va_P (dC, dI) classes (wM g c v12810 F12811 rc) H := hP
          exact W.vret hx hb hr (fun t ht hW => ⟨⟨(v12810, F12811, rc), rfl, ⟨hI, rfl, (frC (by decide) hf12812 (frC (by decide) hf12789 (fun _ _ => rfl))), hF, (by show ((v 39).toInt ≤ (v12810 39).toInt ∧ (v12810 39).toInt ≤ (v 30).toInt ∧ (v 38).toInt ≤ (v12810 38).toInt ∧ (v12810 38).toInt - (v 38).toInt ≤ (v12810 39).toInt - (v 39).toInt ∧ (v 41).toInt ≤ (v12810 41).toInt ∧ ((v12810 40).toInt < 0 → (v12810 41).toInt = (v 41).toInt)) ∧ keepL (v 37) (F 28) (F 29) (F12811 28) (F12811 29) ∧ ((v12810 40).toInt < 0 → dp (F12811 28) (F12811 29) (bI (v 37)) (v12810 38).toInt.toNat = some (d + 1)); rw [show v12810 38 = v12787 38 from hf12812 38 (by decide)]; exact ⟨by omega, hk, fun hf => (hd (by omega)).trans (congrArg some (by omega))⟩)⟩, (by show va_P _ _ _ t.heap; rw [ht]; exact hP9)⟩, hS.F ht⟩) hS.2.2 dX12_either_78
      · skip
        have t12877 := cv_ne (a := r12804.toInt) rfl (b := 63) (by decide) c12805
        have hP9 : va_P (dC, dI) classes (wM g c v12787 F12788 rc) H := hP
        exact W.vret hx hb hr (fun t ht hW => ⟨⟨(v12787, F12788, rc), rfl, ⟨hI, rfl, (frC (by decide) hf12789 (fun _ _ => rfl)), hF, (by show ((v 39).toInt ≤ (v12787 39).toInt ∧ (v12787 39).toInt ≤ (v 30).toInt ∧ (v 38).toInt ≤ (v12787 38).toInt ∧ (v12787 38).toInt - (v 38).toInt ≤ (v12787 39).toInt - (v 39).toInt ∧ (v 41).toInt ≤ (v12787 41).toInt ∧ ((v12787 40).toInt < 0 → (v12787 41).toInt = (v 41).toInt)) ∧ keepL (v 37) (F 28) (F 29) (F12788 28) (F12788 29) ∧ ((v12787 40).toInt < 0 → dp (F12788 28) (F12788 29) (bI (v 37)) (v12787 38).toInt.toNat = some (d + 1)); exact ⟨by omega, hk, fun hf => (hd (by omega)).trans (congrArg some (by omega))⟩)⟩, (by show va_P _ _ _ t.heap; rw [ht]; exact hP9)⟩, hS.F ht⟩) hS.2.2 dX12_either_70
  · skip
    have t12878 := cv_nle (a := 0) (by decide) (b := (v12787 40).toInt) rfl c12797
    refine lv_iload_n hx hb dX12_either_16 rfl (lv_at hl 0 rfl) ?_
    refine lv_bipush (v := 60) hx hb dX12_either_17 (by decide) ?_
    refine lv_icmp_eq (tgt := 34) hx hb dX12_either_19 (by decide) (fun c12879 => ?_) (fun c12879 => ?_)
    · skip
      have t12880 := cv_eq (a := r12796.toInt) rfl (b := 60) (by decide) c12879
      refine lv_aload_n hx hb dX12_either_34 rfl (lv_at hl 1 rfl) ?_
      refine lv_dup hx hb dX12_either_35 rfl ?_
      refine va_get (D := (dC, dI)) (ci := 12) (v := .int (v12787 39)) (C := RX12) (T := TX12) (N := 63) hx hb hwd inA_X12 hown hK hP 0 rfl rfl 39 (by decide) (hwd _ wk_1004) (fun _ h9 => h9) rfl dX12_either_36 ?_
      have t12881 : 0 ≤ (v12787 39).toInt ∧ (v12787 39).toInt ≤ 120 := hI.1 39 _ _ rfl
      refine lv_iconst (v := 1) hx hb dX12_either_39 (by decide) ?_
      refine lv_iadd hx hb dX12_either_40 ?_
      refine lv_topi (fun z12882 e12883 => ?_)
      try (have t12884 := tadd e12883 (a := (v12787 39).toInt) rfl (b := 1) (by decide) (by omega))
      refine va_put (D := (dC, dI)) (ci := 12) (v := .int z12882) (ty := .int) (C := RX12) (T := TX12) (N := 63) (fs := fsM_0 g v12787 rc) hx hb hwd inA_X12 tyX12 tyX12_ok nmX12 hown hK hP (DM hg) hS 0 rfl rfl 39 (by decide) (hwd _ wk_1004) (fun _ h9 => h9) rfl (by decide +kernel) rfl rfl (Nat.le_of_ble_eq_true rfl) dX12_either_41 (fun H locs hP _ hS => ?_)
      have hP := va_P_eq (pM_39 g c _ _ _ _) hP
      have hI := IM.put hI 39 z12882 rfl (by omega)
      refine lv_aload_n hx hb dX12_either_44 rfl (lv_at hl 1 rfl) ?_
      have t12885 : 0 ≤ (v 30).toInt ∧ (v 30).toInt ≤ 120 := by have h9 := hI.1 30 _ _ rfl; rw [show (va_up v12787 39 z12882) 30 = v 30 from hf12789 30 (by decide)] at h9; exact h9
      have t12886 : 0 ≤ (v 37).toInt ∧ (v 37).toInt ≤ 9 := by have h9 := hI.1 37 _ _ rfl; rw [show (va_up v12787 39 z12882) 37 = v 37 from hf12789 37 (by decide)] at h9; exact h9
      have t12887 : 0 ≤ (v12787 38).toInt ∧ (v12787 38).toInt ≤ 120 := hI.1 38 _ _ rfl
      have t12888 : 0 ≤ z12882.toInt ∧ z12882.toInt ≤ 120 := hI.1 39 _ _ rfl
      have t12889 : 0 ≤ (v12787 41).toInt ∧ (v12787 41).toInt ≤ 8 := hI.1 41 _ _ rfl
      refine va_callv (va_runV (As := []) (rest := []) ⟨hx, hb, hml, hown, hwd⟩ (c_X12_sum_7 l dC dI g c adK adV (va_up v12787 39 z12882) F12788 rc H.size  (d + 1) hg hI (by have h9 : (va_up v12787 39 z12882) 38 = v12787 38 := rfl; (try rw [h9]); clear h9; have h9 : (va_up v12787 39 z12882) 39 = z12882 := rfl; (try rw [h9]); clear h9; have h9 : (va_up v12787 39 z12882) 30 = v 30 := hf12789 30 (by decide); (try rw [h9]); clear h9; have h9 : (va_up v12787 39 z12882) 40 = v12787 40 := rfl; (try rw [h9]); clear h9; have h9 : (va_up v12787 39 z12882) 41 = v12787 41 := rfl; (try rw [h9]); clear h9; omega) (by have h9 : (va_up v12787 39 z12882) 37 = (v 37) := hf12789 37 (by decide); have h8 : (va_up v12787 39 z12882) 38 = (v12787 38) := rfl; (try rw [h9]); (try rw [h8]); exact hd (by omega))) (cwV 0 hwd (gV wk_1043 wk_1011 wk_1012 wk_1013 wk_5) rfl rfl rfl (by decide +kernel) ⟨Nat.le_of_ble_eq_true rfl, Nat.le_of_ble_eq_true rfl⟩) ⟨PM.blind, va_recv hK hP (ci := 12) (q0 := 0) rfl rfl, fun U hU hW => ⟨rfl, PM.at hK hE hP hS hU hW⟩⟩ rfl rfl hl.1 rfl (lv_room (Nat.le_of_ble_eq_true rfl)) dX12_either_45 ⟨Nat.le_of_ble_eq_true rfl, Nat.le_of_ble_eq_true rfl⟩) hS (fun q _ h => (freeM hS) q h) (freeM hS) (fun u t H1 locs ht hvm hw hB hz1 hk1 hS => ?_)
      unfold BM at hB
      rw [ht] at hB
      obtain ⟨v12891, F12892, rc9⟩ := u
      obtain ⟨hI, hrc, hf12893, hG12894, hw⟩ := hw
      dsimp only at hI hrc hB hf12893 hG12894 hw
      have hF := frCF (by decide) hG12894 hF
      rw [hrc] at hB
      have hP : va_P (dC, dI) classes (wM g c v12891 F12892 rc) H1 := hB
      have hw : (z12882.toInt ≤ (v12891 39).toInt ∧ (v12891 39).toInt ≤ ((va_up v12787 39 z12882) 30).toInt ∧ (v12787 38).toInt ≤ (v12891 38).toInt ∧ (v12891 38).toInt - (v12787 38).toInt ≤ (v12891 39).toInt - z12882.toInt ∧ (v12787 41).toInt ≤ (v12891 41).toInt ∧ ((v12891 40).toInt < 0 → (v12891 41).toInt = (v12787 41).toInt)) ∧ keepL ((va_up v12787 39 z12882) 37) (F12788 28) (F12788 29) (F12892 28) (F12892 29) ∧ ((v12891 40).toInt < 0 → dp (F12892 28) (F12892 29) (bI ((va_up v12787 39 z12882) 37)) (v12891 38).toInt.toNat = some ((d + 1) + 1)) := hw
      rw [show (va_up v12787 39 z12882) 30 = v 30 from hf12789 30 (by decide)] at hw
      rw [show (va_up v12787 39 z12882) 37 = v 37 from hf12789 37 (by decide)] at hw
      have hw_r12890 := hw
      have t12895 : 0 ≤ (v12891 38).toInt ∧ (v12891 38).toInt ≤ 120 := hI.1 38 _ _ rfl
      have t12896 : 0 ≤ (v12891 39).toInt ∧ (v12891 39).toInt ≤ 120 := hI.1 39 _ _ rfl
      have t12897 : 0 ≤ (v12891 41).toInt ∧ (v12891 41).toInt ≤ 8 := hI.1 41 _ _ rfl
      generalize H1 = H at hP hS ⊢
      have hk := hk.tr hw_r12890.2.1
      have hd := hw_r12890.2.2
      refine lv_aload_n hx hb dX12_either_48 rfl (lv_at hl 1 rfl) ?_
      refine lv_iload_n hx hb dX12_either_49 rfl (lv_at hl 0 rfl) ?_
      refine lv_iconst (v := 0) hx hb dX12_either_50 (by decide) ?_
      have t12898 : 0 ≤ (v 37).toInt ∧ (v 37).toInt ≤ 9 := by have h9 := hI.1 37 _ _ rfl; rw [show v12891 37 = v 37 from (hf12893 37 (by decide)).trans (hf12789 37 (by decide))] at h9; exact h9
      have t12899 : 0 ≤ (v12891 38).toInt ∧ (v12891 38).toInt ≤ 120 := hI.1 38 _ _ rfl
      refine va_callv (va_runV (As := [.int r12796, .int 0]) (rest := []) ⟨hx, hb, hml, hown, hwd⟩ (c_X12_lay l dC dI g c adK adV v12891 F12892 rc H.size r12796 0 hg hI (by have h9 : v12891 38 = v12891 38 := rfl; rw [h9]; omega)) (cwV 2 hwd (gV wk_1021 wk_1018 wk_1019 wk_1020 wk_5) rfl rfl rfl (by decide +kernel) ⟨Nat.le_of_ble_eq_true rfl, Nat.le_of_ble_eq_true rfl⟩) ⟨PM.blind, va_recv hK hP (ci := 12) (q0 := 0) rfl rfl, fun U hU hW => ⟨rfl, PM.at hK hE hP hS hU hW⟩⟩ rfl rfl hl.1 rfl (lv_room (Nat.le_of_ble_eq_true rfl)) dX12_either_51 ⟨Nat.le_of_ble_eq_true rfl, Nat.le_of_ble_eq_true rfl⟩) hS (fun q _ h => (freeM hS) q h) (freeM hS) (fun u t H1 locs ht hvm hw hB hz1 hk1 hS => ?_)
      unfold BM at hB
      rw [ht] at hB
      obtain ⟨v12901, F12902, rc9⟩ := u
      obtain ⟨hI, hrc, hf12903, hG12904, hw⟩ := hw
      dsimp only at hI hrc hB hf12903 hG12904 hw
      have hF := frCF (by decide) hG12904 hF
      rw [hrc] at hB
      have hP : va_P (dC, dI) classes (wM g c v12901 F12902 rc) H1 := hB
      have hw : (v12901 38).toInt = (v12891 38).toInt + 1 ∧ keepL (v12891 37) (F12892 28) (F12892 29) (F12902 28) (F12902 29) ∧ dp (F12902 28) (F12902 29) (bI (v12891 37)) ((v12891 38).toInt.toNat + 1) = dpS (dp (F12892 28) (F12892 29) (bI (v12891 37)) (v12891 38).toInt.toNat) r12796 (0 : Int32) := hw
      rw [show v12891 37 = v 37 from (hf12893 37 (by decide)).trans (hf12789 37 (by decide))] at hw
      have hw_r12900 := hw
      have t12905 : 0 ≤ (v12901 38).toInt ∧ (v12901 38).toInt ≤ 120 := hI.1 38 _ _ rfl
      have k12906 : (0 : Int32).toInt = 0 := by decide
      generalize H1 = H at hP hS ⊢
      have hk := hk.tr hw_r12900.2.1
      have hd : (v12891 40).toInt < 0 → dp (F12902 28) (F12902 29) (bI (v 37)) (v12901 38).toInt.toNat = some (((d + 1) + 1) - 1) := fun hf => (by have e9 : (v12901 38).toInt.toNat = (v12891 38).toInt.toNat + 1 := (by omega); rw [e9, hw_r12900.2.2, hd hf]; exact dpS_5 (by omega) (by omega) (by omega) (by omega) (by omega))
      refine lv_aload_n hx hb dX12_either_54 rfl (lv_at hl 1 rfl) ?_
      refine va_get (D := (dC, dI)) (ci := 12) (v := .int (v12901 40)) (C := RX12) (T := TX12) (N := 63) hx hb hwd inA_X12 hown hK hP 0 rfl rfl 40 (by decide) (hwd _ wk_1005) (fun _ h9 => h9) rfl dX12_either_55 ?_
      refine my_top (v := v12891 40) (hf12903 40 (by decide)) ?_
      refine lv_if_ge (tgt := 70) hx hb dX12_either_58 (by decide) (fun c12907 => ?_) (fun c12907 => ?_)
      · skip
        have t12908 := cv_le (a := 0) (by decide) (b := (v12891 40).toInt) rfl c12907
        have hP9 : va_P (dC, dI) classes (wM g c v12901 F12902 rc) H := hP
        exact W.vret hx hb hr (fun t ht hW => ⟨⟨(v12901, F12902, rc), rfl, ⟨hI, rfl, (frC (by decide) hf12903 (frC (by decide) hf12893 (frU (by decide) (frC (by decide) hf12789 (fun _ _ => rfl))))), hF, (by show ((v 39).toInt ≤ (v12901 39).toInt ∧ (v12901 39).toInt ≤ (v 30).toInt ∧ (v 38).toInt ≤ (v12901 38).toInt ∧ (v12901 38).toInt - (v 38).toInt ≤ (v12901 39).toInt - (v 39).toInt ∧ (v 41).toInt ≤ (v12901 41).toInt ∧ ((v12901 40).toInt < 0 → (v12901 41).toInt = (v 41).toInt)) ∧ keepL (v 37) (F 28) (F 29) (F12902 28) (F12902 29) ∧ ((v12901 40).toInt < 0 → dp (F12902 28) (F12902 29) (bI (v 37)) (v12901 38).toInt.toNat = some (d + 1)); rw [show v12901 39 = v12891 39 from hf12903 39 (by decide)]; rw [show v12901 41 = v12891 41 from hf12903 41 (by decide)]; rw [show v12901 40 = v12891 40 from hf12903 40 (by decide)]; exact ⟨by omega, hk, fun hf => (hd (by omega)).trans (congrArg some (by omega))⟩)⟩, (by show va_P _ _ _ t.heap; rw [ht]; exact hP9)⟩, hS.F ht⟩) hS.2.2 dX12_either_70
      · skip
        have t12909 := cv_nle (a := 0) (by decide) (b := (v12891 40).toInt) rfl c12907
        refine lv_aload_n hx hb dX12_either_61 rfl (lv_at hl 1 rfl) ?_
        have t12910 : 0 ≤ (v 30).toInt ∧ (v 30).toInt ≤ 120 := by have h9 := hI.1 30 _ _ rfl; rw [show v12901 30 = v 30 from (hf12903 30 (by decide)).trans ((hf12893 30 (by decide)).trans (hf12789 30 (by decide)))] at h9; exact h9
        have t12911 : 0 ≤ (v12891 39).toInt ∧ (v12891 39).toInt ≤ 120 := by have h9 := hI.1 39 _ _ rfl; rw [show v12901 39 = v12891 39 from hf12903 39 (by decide)] at h9; exact h9
        refine va_calli (va_runV (As := []) (rest := []) ⟨hx, hb, hml, hown, hwd⟩ (c_X12_look l dC dI g c adK adV v12901 F12902 rc H.size  hg hI ) (cwV 0 hwd (gV wk_1017 wk_1014 wk_1015 wk_1016 wk_5) rfl rfl rfl (by decide +kernel) ⟨Nat.le_of_ble_eq_true rfl, Nat.le_of_ble_eq_true rfl⟩) ⟨PM.blind, va_recv hK hP (ci := 12) (q0 := 0) rfl rfl, fun U hU hW => ⟨rfl, PM.at hK hE hP hS hU hW⟩⟩ rfl rfl hl.1 rfl (lv_room (Nat.le_of_ble_eq_true rfl)) dX12_either_62 ⟨Nat.le_of_ble_eq_true rfl, Nat.le_of_ble_eq_true rfl⟩) hS (fun q _ h => (freeM hS) q h) (freeM hS) (fun r12912 u t H1 locs ht hvm hw hB hz1 hk1 hS => ?_)
        unfold BM at hB
        rw [ht] at hB
        have hP : va_P (dC, dI) classes (wM g c v12901 F12902 rc) H1 := hB
        have hw : r12912.toInt = lkM (v12901 39) (v12901 30) (F12902 24) ∧ ((v12901 39).toInt < (v12901 30).toInt ∨ r12912.toInt = -1) := hw
        rw [show v12901 39 = v12891 39 from hf12903 39 (by decide)] at hw
        rw [show v12901 30 = v 30 from (hf12903 30 (by decide)).trans ((hf12893 30 (by decide)).trans (hf12789 30 (by decide)))] at hw
        rw [hF 24 (by decide)] at hw
        have hw_r12912 := hw
        generalize H1 = H at hP hS ⊢
        refine lv_bipush (v := 63) hx hb dX12_either_65 (by decide) ?_
        refine lv_icmp_eq (tgt := 71) hx hb dX12_either_67 (by decide) (fun c12913 => ?_) (fun c12913 => ?_)
        · skip
          have t12914 := cv_eq (a := r12912.toInt) rfl (b := 63) (by decide) c12913
          refine lv_aload_n hx hb dX12_either_71 rfl (lv_at hl 1 rfl) ?_
          have t12915 : 0 ≤ (v12891 39).toInt ∧ (v12891 39).toInt ≤ 120 := by have h9 := hI.1 39 _ _ rfl; rw [show v12901 39 = v12891 39 from hf12903 39 (by decide)] at h9; exact h9
          have t12916 : 0 ≤ (v12891 41).toInt ∧ (v12891 41).toInt ≤ 8 := by have h9 := hI.1 41 _ _ rfl; rw [show v12901 41 = v12891 41 from hf12903 41 (by decide)] at h9; exact h9
          refine va_calli (va_runV (As := []) (rest := []) ⟨hx, hb, hml, hown, hwd⟩ (c_X12_opens l dC dI g c adK adV v12901 F12902 rc H.size  hg hI (by have h9 : v12901 39 = v12891 39 := hf12903 39 (by decide); (try rw [h9]); clear h9; have h9 : v12901 30 = v 30 := (hf12903 30 (by decide)).trans ((hf12893 30 (by decide)).trans (hf12789 30 (by decide))); (try rw [h9]); clear h9; omega)) (cwV 0 hwd (gV wk_1025 wk_1022 wk_1023 wk_1024 wk_5) rfl rfl rfl (by decide +kernel) ⟨Nat.le_of_ble_eq_true rfl, Nat.le_of_ble_eq_true rfl⟩) ⟨PM.blind, va_recv hK hP (ci := 12) (q0 := 0) rfl rfl, fun U hU hW => ⟨rfl, PM.at hK hE hP hS hU hW⟩⟩ rfl rfl hl.1 rfl (lv_room (Nat.le_of_ble_eq_true rfl)) dX12_either_72 ⟨Nat.le_of_ble_eq_true rfl, Nat.le_of_ble_eq_true rfl⟩) hS (fun q _ h => (freeM hS) q h) (freeM hS) (fun r12917 u t H1 locs ht hvm hw hB hz1 hk1 hS => ?_)
          unfold BM at hB
          rw [ht] at hB
          obtain ⟨v12918, F12919, rc9⟩ := u
          obtain ⟨hI, hrc, hf12920, hG12921, hw⟩ := hw
          dsimp only at hI hrc hB hf12920 hG12921 hw
          have hF := frCF (by decide) hG12921 hF
          rw [hrc] at hB
          have hP : va_P (dC, dI) classes (wM g c v12918 F12919 rc) H1 := hB
          have hw : (r12917.toInt = 1 ∧ (v12901 41).toInt < 8 ∧ (v12918 41).toInt = (v12901 41).toInt + 1 ∧ (v12918 39).toInt = (v12901 39).toInt + 1 ∧ (v12918 40).toInt = (v12901 40).toInt) ∨ (r12917.toInt = 0 ∧ (v12901 41).toInt = 8 ∧ 0 ≤ (v12918 40).toInt ∧ (v12918 41).toInt = (v12901 41).toInt ∧ (v12918 39).toInt = (v12901 39).toInt) := hw
          rw [show v12901 41 = v12891 41 from hf12903 41 (by decide)] at hw
          rw [show v12901 39 = v12891 39 from hf12903 39 (by decide)] at hw
          rw [show v12901 40 = v12891 40 from hf12903 40 (by decide)] at hw
          have hw_r12917 := hw
          have t12922 : 0 ≤ (v12918 39).toInt ∧ (v12918 39).toInt ≤ 120 := hI.1 39 _ _ rfl
          have t12923 : 0 ≤ (v12918 41).toInt ∧ (v12918 41).toInt ≤ 8 := hI.1 41 _ _ rfl
          generalize H1 = H at hP hS ⊢
          have hk : keepL (v 37) (F 28) (F 29) (F12919 28) (F12919 29) := by rw [hG12921 28 (by decide), hG12921 29 (by decide)]; exact hk
          have hd : (v12918 40).toInt < 0 → dp (F12919 28) (F12919 29) (bI (v 37)) (v12901 38).toInt.toNat = some (((d + 1) + 1) - 1) := fun hf => (by rw [hG12921 28 (by decide), hG12921 29 (by decide)]; exact hd (by omega))
          refine lv_if_ne (tgt := 79) hx hb dX12_either_75 (by decide) (fun c12924 => ?_) (fun c12924 => ?_)
          · skip
            have t12925 := cv_ne (a := r12917.toInt) rfl (b := 0) (by decide) c12924
            refine lv_aload_n hx hb dX12_either_79 rfl (lv_at hl 1 rfl) ?_
            have t12926 : 0 ≤ (v 30).toInt ∧ (v 30).toInt ≤ 120 := by have h9 := hI.1 30 _ _ rfl; rw [show v12918 30 = v 30 from (hf12920 30 (by decide)).trans ((hf12903 30 (by decide)).trans ((hf12893 30 (by decide)).trans (hf12789 30 (by decide))))] at h9; exact h9
            have t12927 : 0 ≤ (v 37).toInt ∧ (v 37).toInt ≤ 9 := by have h9 := hI.1 37 _ _ rfl; rw [show v12918 37 = v 37 from (hf12920 37 (by decide)).trans ((hf12903 37 (by decide)).trans ((hf12893 37 (by decide)).trans (hf12789 37 (by decide))))] at h9; exact h9
            have t12928 : 0 ≤ (v12901 38).toInt ∧ (v12901 38).toInt ≤ 120 := by have h9 := hI.1 38 _ _ rfl; rw [show v12918 38 = v12901 38 from hf12920 38 (by decide)] at h9; exact h9
            have t12929 : 0 ≤ (v12918 39).toInt ∧ (v12918 39).toInt ≤ 120 := hI.1 39 _ _ rfl
            have t12930 : 0 ≤ (v12918 41).toInt ∧ (v12918 41).toInt ≤ 8 := hI.1 41 _ _ rfl
            refine va_callv (va_runV (As := []) (rest := []) ⟨hx, hb, hml, hown, hwd⟩ (c_X12_either_8 l dC dI g c adK adV v12918 F12919 rc H.size  (((d + 1) + 1) - 1) hg hI (by have h9 : v12918 38 = v12901 38 := hf12920 38 (by decide); (try rw [h9]); clear h9; have h9 : v12918 39 = v12918 39 := rfl; (try rw [h9]); clear h9; have h9 : v12918 30 = v 30 := (hf12920 30 (by decide)).trans ((hf12903 30 (by decide)).trans ((hf12893 30 (by decide)).trans (hf12789 30 (by decide)))); (try rw [h9]); clear h9; have h9 : v12918 40 = v12918 40 := rfl; (try rw [h9]); clear h9; have h9 : v12918 41 = v12918 41 := rfl; (try rw [h9]); clear h9; omega) (by have h9 : v12918 37 = (v 37) := (hf12920 37 (by decide)).trans ((hf12903 37 (by decide)).trans ((hf12893 37 (by decide)).trans (hf12789 37 (by decide)))); have h8 : v12918 38 = (v12901 38) := hf12920 38 (by decide); (try rw [h9]); (try rw [h8]); exact hd (by omega))) (cwV 0 hwd (gV wk_1010 wk_1007 wk_1008 wk_1009 wk_5) rfl rfl rfl (by decide +kernel) ⟨Nat.le_of_ble_eq_true rfl, Nat.le_of_ble_eq_true rfl⟩) ⟨PM.blind, va_recv hK hP (ci := 12) (q0 := 0) rfl rfl, fun U hU hW => ⟨rfl, PM.at hK hE hP hS hU hW⟩⟩ rfl rfl hl.1 rfl (lv_room (Nat.le_of_ble_eq_true rfl)) dX12_either_80 ⟨Nat.le_of_ble_eq_true rfl, Nat.le_of_ble_eq_true rfl⟩) hS (fun q _ h => (freeM hS) q h) (freeM hS) (fun u t H1 locs ht hvm hw hB hz1 hk1 hS => ?_)
            unfold BM at hB
            rw [ht] at hB
            obtain ⟨v12932, F12933, rc9⟩ := u
            obtain ⟨hI, hrc, hf12934, hG12935, hw⟩ := hw
            dsimp only at hI hrc hB hf12934 hG12935 hw
            have hF := frCF (by decide) hG12935 hF
            rw [hrc] at hB
            have hP : va_P (dC, dI) classes (wM g c v12932 F12933 rc) H1 := hB
            have hw : ((v12918 39).toInt ≤ (v12932 39).toInt ∧ (v12932 39).toInt ≤ (v12918 30).toInt ∧ (v12918 38).toInt ≤ (v12932 38).toInt ∧ (v12932 38).toInt - (v12918 38).toInt ≤ (v12932 39).toInt - (v12918 39).toInt ∧ (v12918 41).toInt ≤ (v12932 41).toInt ∧ ((v12932 40).toInt < 0 → (v12932 41).toInt = (v12918 41).toInt)) ∧ keepL (v12918 37) (F12919 28) (F12919 29) (F12933 28) (F12933 29) ∧ ((v12932 40).toInt < 0 → dp (F12933 28) (F12933 29) (bI (v12918 37)) (v12932 38).toInt.toNat = some ((((d + 1) + 1) - 1) + 1)) := hw
            rw [show v12918 30 = v 30 from (hf12920 30 (by decide)).trans ((hf12903 30 (by decide)).trans ((hf12893 30 (by decide)).trans (hf12789 30 (by decide))))] at hw
            rw [show v12918 38 = v12901 38 from hf12920 38 (by decide)] at hw
            rw [show v12918 37 = v 37 from (hf12920 37 (by decide)).trans ((hf12903 37 (by decide)).trans ((hf12893 37 (by decide)).trans (hf12789 37 (by decide))))] at hw
            have hw_r12931 := hw
            have t12936 : 0 ≤ (v12932 38).toInt ∧ (v12932 38).toInt ≤ 120 := hI.1 38 _ _ rfl
            have t12937 : 0 ≤ (v12932 39).toInt ∧ (v12932 39).toInt ≤ 120 := hI.1 39 _ _ rfl
            have t12938 : 0 ≤ (v12932 41).toInt ∧ (v12932 41).toInt ≤ 8 := hI.1 41 _ _ rfl
            generalize H1 = H at hP hS ⊢
            have hk := hk.tr hw_r12931.2.1
            have hd := hw_r12931.2.2
            refine lv_aload_n hx hb dX12_either_83 rfl (lv_at hl 1 rfl) ?_
            refine va_get (D := (dC, dI)) (ci := 12) (v := .int (v12932 40)) (C := RX12) (T := TX12) (N := 63) hx hb hwd inA_X12 hown hK hP 0 rfl rfl 40 (by decide) (hwd _ wk_1005) (fun _ h9 => h9) rfl dX12_either_84 ?_
            refine lv_if_lt (tgt := 91) hx hb dX12_either_87 (by decide) (fun c12939 => ?_) (fun c12939 => ?_)
            · skip
              have t12940 := cv_lt (a := (v12932 40).toInt) rfl (b := 0) (by decide) c12939
              refine lv_aload_n hx hb dX12_either_91 rfl (lv_at hl 1 rfl) ?_
              have t12941 : 0 ≤ (v 30).toInt ∧ (v 30).toInt ≤ 120 := by have h9 := hI.1 30 _ _ rfl; rw [show v12932 30 = v 30 from (hf12934 30 (by decide)).trans ((hf12920 30 (by decide)).trans ((hf12903 30 (by decide)).trans ((hf12893 30 (by decide)).trans (hf12789 30 (by decide)))))] at h9; exact h9
              have t12942 : 0 ≤ (v12932 39).toInt ∧ (v12932 39).toInt ≤ 120 := hI.1 39 _ _ rfl
              refine va_calli (va_runV (As := []) (rest := []) ⟨hx, hb, hml, hown, hwd⟩ (c_X12_look l dC dI g c adK adV v12932 F12933 rc H.size  hg hI ) (cwV 0 hwd (gV wk_1017 wk_1014 wk_1015 wk_1016 wk_5) rfl rfl rfl (by decide +kernel) ⟨Nat.le_of_ble_eq_true rfl, Nat.le_of_ble_eq_true rfl⟩) ⟨PM.blind, va_recv hK hP (ci := 12) (q0 := 0) rfl rfl, fun U hU hW => ⟨rfl, PM.at hK hE hP hS hU hW⟩⟩ rfl rfl hl.1 rfl (lv_room (Nat.le_of_ble_eq_true rfl)) dX12_either_92 ⟨Nat.le_of_ble_eq_true rfl, Nat.le_of_ble_eq_true rfl⟩) hS (fun q _ h => (freeM hS) q h) (freeM hS) (fun r12943 u t H1 locs ht hvm hw hB hz1 hk1 hS => ?_)
              unfold BM at hB
              rw [ht] at hB
              have hP : va_P (dC, dI) classes (wM g c v12932 F12933 rc) H1 := hB
              have hw : r12943.toInt = lkM (v12932 39) (v12932 30) (F12933 24) ∧ ((v12932 39).toInt < (v12932 30).toInt ∨ r12943.toInt = -1) := hw
              rw [show v12932 30 = v 30 from (hf12934 30 (by decide)).trans ((hf12920 30 (by decide)).trans ((hf12903 30 (by decide)).trans ((hf12893 30 (by decide)).trans (hf12789 30 (by decide)))))] at hw
              rw [hF 24 (by decide)] at hw
              have hw_r12943 := hw
              generalize H1 = H at hP hS ⊢
              refine lv_bipush (v := 58) hx hb dX12_either_95 (by decide) ?_
              refine lv_icmp_eq (tgt := 105) hx hb dX12_either_97 (by decide) (fun c12944 => ?_) (fun c12944 => ?_)
              · skip
                have t12945 := cv_eq (a := r12943.toInt) rfl (b := 58) (by decide) c12944
                refine lv_aload_n hx hb dX12_either_105 rfl (lv_at hl 1 rfl) ?_
                refine lv_dup hx hb dX12_either_106 rfl ?_
                refine va_get (D := (dC, dI)) (ci := 12) (v := .int (v12932 39)) (C := RX12) (T := TX12) (N := 63) hx hb hwd inA_X12 hown hK hP 0 rfl rfl 39 (by decide) (hwd _ wk_1004) (fun _ h9 => h9) rfl dX12_either_107 ?_
                have t12946 : 0 ≤ (v12932 39).toInt ∧ (v12932 39).toInt ≤ 120 := hI.1 39 _ _ rfl
                refine lv_iconst (v := 1) hx hb dX12_either_110 (by decide) ?_
                refine lv_iadd hx hb dX12_either_111 ?_
                refine lv_topi (fun z12947 e12948 => ?_)
                try (have t12949 := tadd e12948 (a := (v12932 39).toInt) rfl (b := 1) (by decide) (by omega))
                refine va_put (D := (dC, dI)) (ci := 12) (v := .int z12947) (ty := .int) (C := RX12) (T := TX12) (N := 63) (fs := fsM_0 g v12932 rc) hx hb hwd inA_X12 tyX12 tyX12_ok nmX12 hown hK hP (DM hg) hS 0 rfl rfl 39 (by decide) (hwd _ wk_1004) (fun _ h9 => h9) rfl (by decide +kernel) rfl rfl (Nat.le_of_ble_eq_true rfl) dX12_either_112 (fun H locs hP _ hS => ?_)
                have hP := va_P_eq (pM_39 g c _ _ _ _) hP
                have hI := IM.put hI 39 z12947 rfl (by omega)
                refine lv_aload_n hx hb dX12_either_115 rfl (lv_at hl 1 rfl) ?_
                have t12950 : 0 ≤ (v 30).toInt ∧ (v 30).toInt ≤ 120 := by have h9 := hI.1 30 _ _ rfl; rw [show (va_up v12932 39 z12947) 30 = v 30 from (hf12934 30 (by decide)).trans ((hf12920 30 (by decide)).trans ((hf12903 30 (by decide)).trans ((hf12893 30 (by decide)).trans (hf12789 30 (by decide)))))] at h9; exact h9
                have t12951 : 0 ≤ (v 37).toInt ∧ (v 37).toInt ≤ 9 := by have h9 := hI.1 37 _ _ rfl; rw [show (va_up v12932 39 z12947) 37 = v 37 from (hf12934 37 (by decide)).trans ((hf12920 37 (by decide)).trans ((hf12903 37 (by decide)).trans ((hf12893 37 (by decide)).trans (hf12789 37 (by decide)))))] at h9; exact h9
                have t12952 : 0 ≤ (v12932 38).toInt ∧ (v12932 38).toInt ≤ 120 := hI.1 38 _ _ rfl
                have t12953 : 0 ≤ z12947.toInt ∧ z12947.toInt ≤ 120 := hI.1 39 _ _ rfl
                have t12954 : 0 ≤ (v12932 41).toInt ∧ (v12932 41).toInt ≤ 8 := hI.1 41 _ _ rfl
                refine va_callv (va_runV (As := []) (rest := []) ⟨hx, hb, hml, hown, hwd⟩ (c_X12_either_8 l dC dI g c adK adV (va_up v12932 39 z12947) F12933 rc H.size  ((((d + 1) + 1) - 1) + 1) hg hI (by have h9 : (va_up v12932 39 z12947) 38 = v12932 38 := rfl; (try rw [h9]); clear h9; have h9 : (va_up v12932 39 z12947) 39 = z12947 := rfl; (try rw [h9]); clear h9; have h9 : (va_up v12932 39 z12947) 30 = v 30 := (hf12934 30 (by decide)).trans ((hf12920 30 (by decide)).trans ((hf12903 30 (by decide)).trans ((hf12893 30 (by decide)).trans (hf12789 30 (by decide))))); (try rw [h9]); clear h9; have h9 : (va_up v12932 39 z12947) 40 = v12932 40 := rfl; (try rw [h9]); clear h9; have h9 : (va_up v12932 39 z12947) 41 = v12932 41 := rfl; (try rw [h9]); clear h9; omega) (by have h9 : (va_up v12932 39 z12947) 37 = (v 37) := (hf12934 37 (by decide)).trans ((hf12920 37 (by decide)).trans ((hf12903 37 (by decide)).trans ((hf12893 37 (by decide)).trans (hf12789 37 (by decide))))); have h8 : (va_up v12932 39 z12947) 38 = (v12932 38) := rfl; (try rw [h9]); (try rw [h8]); exact hd (by omega))) (cwV 0 hwd (gV wk_1010 wk_1007 wk_1008 wk_1009 wk_5) rfl rfl rfl (by decide +kernel) ⟨Nat.le_of_ble_eq_true rfl, Nat.le_of_ble_eq_true rfl⟩) ⟨PM.blind, va_recv hK hP (ci := 12) (q0 := 0) rfl rfl, fun U hU hW => ⟨rfl, PM.at hK hE hP hS hU hW⟩⟩ rfl rfl hl.1 rfl (lv_room (Nat.le_of_ble_eq_true rfl)) dX12_either_116 ⟨Nat.le_of_ble_eq_true rfl, Nat.le_of_ble_eq_true rfl⟩) hS (fun q _ h => (freeM hS) q h) (freeM hS) (fun u t H1 locs ht hvm hw hB hz1 hk1 hS => ?_)
                unfold BM at hB
                rw [ht] at hB
                obtain ⟨v12956, F12957, rc9⟩ := u
                obtain ⟨hI, hrc, hf12958, hG12959, hw⟩ := hw
                dsimp only at hI hrc hB hf12958 hG12959 hw
                have hF := frCF (by decide) hG12959 hF
                rw [hrc] at hB
                have hP : va_P (dC, dI) classes (wM g c v12956 F12957 rc) H1 := hB
                have hw : (z12947.toInt ≤ (v12956 39).toInt ∧ (v12956 39).toInt ≤ ((va_up v12932 39 z12947) 30).toInt ∧ (v12932 38).toInt ≤ (v12956 38).toInt ∧ (v12956 38).toInt - (v12932 38).toInt ≤ (v12956 39).toInt - z12947.toInt ∧ (v12932 41).toInt ≤ (v12956 41).toInt ∧ ((v12956 40).toInt < 0 → (v12956 41).toInt = (v12932 41).toInt)) ∧ keepL ((va_up v12932 39 z12947) 37) (F12933 28) (F12933 29) (F12957 28) (F12957 29) ∧ ((v12956 40).toInt < 0 → dp (F12957 28) (F12957 29) (bI ((va_up v12932 39 z12947) 37)) (v12956 38).toInt.toNat = some (((((d + 1) + 1) - 1) + 1) + 1)) := hw
                rw [show (va_up v12932 39 z12947) 30 = v 30 from (hf12934 30 (by decide)).trans ((hf12920 30 (by decide)).trans ((hf12903 30 (by decide)).trans ((hf12893 30 (by decide)).trans (hf12789 30 (by decide)))))] at hw
                rw [show (va_up v12932 39 z12947) 37 = v 37 from (hf12934 37 (by decide)).trans ((hf12920 37 (by decide)).trans ((hf12903 37 (by decide)).trans ((hf12893 37 (by decide)).trans (hf12789 37 (by decide)))))] at hw
                have hw_r12955 := hw
                have t12960 : 0 ≤ (v12956 38).toInt ∧ (v12956 38).toInt ≤ 120 := hI.1 38 _ _ rfl
                have t12961 : 0 ≤ (v12956 39).toInt ∧ (v12956 39).toInt ≤ 120 := hI.1 39 _ _ rfl
                have t12962 : 0 ≤ (v12956 41).toInt ∧ (v12956 41).toInt ≤ 8 := hI.1 41 _ _ rfl
                generalize H1 = H at hP hS ⊢
                have hk := hk.tr hw_r12955.2.1
                have hd := hw_r12955.2.2
                refine lv_aload_n hx hb dX12_either_119 rfl (lv_at hl 1 rfl) ?_
                refine lv_iconst (v := 4) hx hb dX12_either_120 (by decide) ?_
                refine lv_iconst (v := 0) hx hb dX12_either_121 (by decide) ?_
                have t12963 : 0 ≤ (v 37).toInt ∧ (v 37).toInt ≤ 9 := by have h9 := hI.1 37 _ _ rfl; rw [show v12956 37 = v 37 from (hf12958 37 (by decide)).trans ((hf12934 37 (by decide)).trans ((hf12920 37 (by decide)).trans ((hf12903 37 (by decide)).trans ((hf12893 37 (by decide)).trans (hf12789 37 (by decide))))))] at h9; exact h9
                have t12964 : 0 ≤ (v12956 38).toInt ∧ (v12956 38).toInt ≤ 120 := hI.1 38 _ _ rfl
                refine va_callv (va_runV (As := [.int 4, .int 0]) (rest := []) ⟨hx, hb, hml, hown, hwd⟩ (c_X12_lay l dC dI g c adK adV v12956 F12957 rc H.size 4 0 hg hI (by have h9 : v12956 38 = v12956 38 := rfl; rw [h9]; omega)) (cwV 2 hwd (gV wk_1021 wk_1018 wk_1019 wk_1020 wk_5) rfl rfl rfl (by decide +kernel) ⟨Nat.le_of_ble_eq_true rfl, Nat.le_of_ble_eq_true rfl⟩) ⟨PM.blind, va_recv hK hP (ci := 12) (q0 := 0) rfl rfl, fun U hU hW => ⟨rfl, PM.at hK hE hP hS hU hW⟩⟩ rfl rfl hl.1 rfl (lv_room (Nat.le_of_ble_eq_true rfl)) dX12_either_122 ⟨Nat.le_of_ble_eq_true rfl, Nat.le_of_ble_eq_true rfl⟩) hS (fun q _ h => (freeM hS) q h) (freeM hS) (fun u t H1 locs ht hvm hw hB hz1 hk1 hS => ?_)
                unfold BM at hB
                rw [ht] at hB
                obtain ⟨v12966, F12967, rc9⟩ := u
                obtain ⟨hI, hrc, hf12968, hG12969, hw⟩ := hw
                dsimp only at hI hrc hB hf12968 hG12969 hw
                have hF := frCF (by decide) hG12969 hF
                rw [hrc] at hB
                have hP : va_P (dC, dI) classes (wM g c v12966 F12967 rc) H1 := hB
                have hw : (v12966 38).toInt = (v12956 38).toInt + 1 ∧ keepL (v12956 37) (F12957 28) (F12957 29) (F12967 28) (F12967 29) ∧ dp (F12967 28) (F12967 29) (bI (v12956 37)) ((v12956 38).toInt.toNat + 1) = dpS (dp (F12957 28) (F12957 29) (bI (v12956 37)) (v12956 38).toInt.toNat) (4 : Int32) (0 : Int32) := hw
                rw [show v12956 37 = v 37 from (hf12958 37 (by decide)).trans ((hf12934 37 (by decide)).trans ((hf12920 37 (by decide)).trans ((hf12903 37 (by decide)).trans ((hf12893 37 (by decide)).trans (hf12789 37 (by decide))))))] at hw
                have hw_r12965 := hw
                have t12970 : 0 ≤ (v12966 38).toInt ∧ (v12966 38).toInt ≤ 120 := hI.1 38 _ _ rfl
                have k12971 : (4 : Int32).toInt = 4 := by decide
                have k12972 : (0 : Int32).toInt = 0 := by decide
                generalize H1 = H at hP hS ⊢
                have hk := hk.tr hw_r12965.2.1
                have hd : (v12956 40).toInt < 0 → dp (F12967 28) (F12967 29) (bI (v 37)) (v12966 38).toInt.toNat = some ((((((d + 1) + 1) - 1) + 1) + 1) - 2) := fun hf => (by have e9 : (v12966 38).toInt.toNat = (v12956 38).toInt.toNat + 1 := (by omega); rw [e9, hw_r12965.2.2, hd hf]; exact dpS_4 (by decide) (by omega))
                refine lv_aload_n hx hb dX12_either_125 rfl (lv_at hl 1 rfl) ?_
                refine lv_dup hx hb dX12_either_126 rfl ?_
                refine va_get (D := (dC, dI)) (ci := 12) (v := .int (v12966 41)) (C := RX12) (T := TX12) (N := 63) hx hb hwd inA_X12 hown hK hP 0 rfl rfl 41 (by decide) (hwd _ wk_1006) (fun _ h9 => h9) rfl dX12_either_127 ?_
                refine my_top (v := v12956 41) (hf12968 41 (by decide)) ?_
                have t12973 : 0 ≤ (v12956 41).toInt ∧ (v12956 41).toInt ≤ 8 := by have h9 := hI.1 41 _ _ rfl; rw [show v12966 41 = v12956 41 from hf12968 41 (by decide)] at h9; exact h9
                refine lv_iconst (v := 1) hx hb dX12_either_130 (by decide) ?_
                refine lv_isub hx hb dX12_either_131 ?_
                refine lv_topi (fun z12974 e12975 => ?_)
                try (have t12976 := tsub e12975 (a := (v12956 41).toInt) rfl (b := 1) (by decide) (by omega))
                refine va_put (D := (dC, dI)) (ci := 12) (v := .int z12974) (ty := .int) (C := RX12) (T := TX12) (N := 63) (fs := fsM_0 g v12966 rc) hx hb hwd inA_X12 tyX12 tyX12_ok nmX12 hown hK hP (DM hg) hS 0 rfl rfl 41 (by decide) (hwd _ wk_1006) (fun _ h9 => h9) rfl (by decide +kernel) rfl rfl (Nat.le_of_ble_eq_true rfl) dX12_either_132 (fun H locs hP _ hS => ?_)
                have hP := va_P_eq (pM_41 g c _ _ _ _) hP
                have hI := IM.put hI 41 z12974 rfl (by omega)
                have hP9 : va_P (dC, dI) classes (wM g c (va_up v12966 41 z12974) F12967 rc) H := hP
                exact W.vret hx hb hr (fun t ht hW => ⟨⟨((va_up v12966 41 z12974), F12967, rc), rfl, ⟨hI, rfl, (frU (by decide) (frC (by decide) hf12968 (frC (by decide) hf12958 (frU (by decide) (frC (by decide) hf12934 (frC (by decide) hf12920 (frC (by decide) hf12903 (frC (by decide) hf12893 (frU (by decide) (frC (by decide) hf12789 (fun _ _ => rfl))))))))))), hF, (by show ((v 39).toInt ≤ ((va_up v12966 41 z12974) 39).toInt ∧ ((va_up v12966 41 z12974) 39).toInt ≤ (v 30).toInt ∧ (v 38).toInt ≤ (v12966 38).toInt ∧ (v12966 38).toInt - (v 38).toInt ≤ ((va_up v12966 41 z12974) 39).toInt - (v 39).toInt ∧ (v 41).toInt ≤ z12974.toInt ∧ (((va_up v12966 41 z12974) 40).toInt < 0 → z12974.toInt = (v 41).toInt)) ∧ keepL (v 37) (F 28) (F 29) (F12967 28) (F12967 29) ∧ (((va_up v12966 41 z12974) 40).toInt < 0 → dp (F12967 28) (F12967 29) (bI (v 37)) (v12966 38).toInt.toNat = some (d + 1)); rw [show (va_up v12966 41 z12974) 39 = v12956 39 from hf12968 39 (by decide)]; rw [show (va_up v12966 41 z12974) 40 = v12956 40 from hf12968 40 (by decide)]; exact ⟨by omega, hk, fun hf => (hd (by omega)).trans (congrArg some (by omega))⟩)⟩, (by show va_P _ _ _ t.heap; rw [ht]; exact hP9)⟩, hS.F ht⟩) hS.2.2 dX12_either_135
              · skip
                have t12977 := cv_ne (a := r12943.toInt) rfl (b := 58) (by decide) c12944
                refine lv_aload_n hx hb dX12_either_100 rfl (lv_at hl 1 rfl) ?_
                refine va_callv (va_runV (As := []) (rest := []) ⟨hx, hb, hml, hown, hwd⟩ (c_X12_wrong l dC dI g c adK adV v12932 F12933 rc H.size  hg hI ) (cwV 0 hwd (gV wk_1029 wk_1026 wk_1027 wk_1028 wk_5) rfl rfl rfl (by decide +kernel) ⟨Nat.le_of_ble_eq_true rfl, Nat.le_of_ble_eq_true rfl⟩) ⟨PM.blind, va_recv hK hP (ci := 12) (q0 := 0) rfl rfl, fun U hU hW => ⟨rfl, PM.at hK hE hP hS hU hW⟩⟩ rfl rfl hl.1 rfl (lv_room (Nat.le_of_ble_eq_true rfl)) dX12_either_101 ⟨Nat.le_of_ble_eq_true rfl, Nat.le_of_ble_eq_true rfl⟩) hS (fun q _ h => (freeM hS) q h) (freeM hS) (fun u t H1 locs ht hvm hw hB hz1 hk1 hS => ?_)
                unfold BM at hB
                rw [ht] at hB
                obtain ⟨v12979, F12980, rc9⟩ := u
                obtain ⟨hI, hrc, hf12981, hG12982, hw⟩ := hw
                dsimp only at hI hrc hB hf12981 hG12982 hw
                have hF := frCF (by decide) hG12982 hF
                rw [hrc] at hB
                have hP : va_P (dC, dI) classes (wM g c v12979 F12980 rc) H1 := hB
                have hw : 0 ≤ (v12979 40).toInt := hw
                have hw_r12978 := hw
                generalize H1 = H at hP hS ⊢
                have hk : keepL (v 37) (F 28) (F 29) (F12980 28) (F12980 29) := by rw [hG12982 28 (by decide), hG12982 29 (by decide)]; exact hk
                have hd : (v12979 40).toInt < 0 → dp (F12980 28) (F12980 29) (bI (v 37)) (v12932 38).toInt.toNat = some ((((d + 1) + 1) - 1) + 1) := fun hf => (by rw [hG12982 28 (by decide), hG12982 29 (by decide)]; exact hd (by omega))
                have hP9 : va_P (dC, dI) classes (wM g c v12979 F12980 rc) H := hP
                exact W.vret hx hb hr (fun t ht hW => ⟨⟨(v12979, F12980, rc), rfl, ⟨hI, rfl, (frC (by decide) hf12981 (frC (by decide) hf12934 (frC (by decide) hf12920 (frC (by decide) hf12903 (frC (by decide) hf12893 (frU (by decide) (frC (by decide) hf12789 (fun _ _ => rfl)))))))), hF, (by show ((v 39).toInt ≤ (v12979 39).toInt ∧ (v12979 39).toInt ≤ (v 30).toInt ∧ (v 38).toInt ≤ (v12979 38).toInt ∧ (v12979 38).toInt - (v 38).toInt ≤ (v12979 39).toInt - (v 39).toInt ∧ (v 41).toInt ≤ (v12979 41).toInt ∧ ((v12979 40).toInt < 0 → (v12979 41).toInt = (v 41).toInt)) ∧ keepL (v 37) (F 28) (F 29) (F12980 28) (F12980 29) ∧ ((v12979 40).toInt < 0 → dp (F12980 28) (F12980 29) (bI (v 37)) (v12979 38).toInt.toNat = some (d + 1)); rw [show v12979 39 = v12932 39 from hf12981 39 (by decide)]; rw [show v12979 38 = v12932 38 from hf12981 38 (by decide)]; rw [show v12979 41 = v12932 41 from hf12981 41 (by decide)]; exact ⟨by omega, hk, fun hf => (hd (by omega)).trans (congrArg some (by omega))⟩)⟩, (by show va_P _ _ _ t.heap; rw [ht]; exact hP9)⟩, hS.F ht⟩) hS.2.2 dX12_either_104
            · skip
              have t12983 := cv_nlt (a := (v12932 40).toInt) rfl (b := 0) (by decide) c12939
              have hP9 : va_P (dC, dI) classes (wM g c v12932 F12933 rc) H := hP
              exact W.vret hx hb hr (fun t ht hW => ⟨⟨(v12932, F12933, rc), rfl, ⟨hI, rfl, (frC (by decide) hf12934 (frC (by decide) hf12920 (frC (by decide) hf12903 (frC (by decide) hf12893 (frU (by decide) (frC (by decide) hf12789 (fun _ _ => rfl))))))), hF, (by show ((v 39).toInt ≤ (v12932 39).toInt ∧ (v12932 39).toInt ≤ (v 30).toInt ∧ (v 38).toInt ≤ (v12932 38).toInt ∧ (v12932 38).toInt - (v 38).toInt ≤ (v12932 39).toInt - (v 39).toInt ∧ (v 41).toInt ≤ (v12932 41).toInt ∧ ((v12932 40).toInt < 0 → (v12932 41).toInt = (v 41).toInt)) ∧ keepL (v 37) (F 28) (F 29) (F12933 28) (F12933 29) ∧ ((v12932 40).toInt < 0 → dp (F12933 28) (F12933 29) (bI (v 37)) (v12932 38).toInt.toNat = some (d + 1)); exact ⟨by omega, hk, fun hf => (hd (by omega)).trans (congrArg some (by omega))⟩)⟩, (by show va_P _ _ _ t.heap; rw [ht]; exact hP9)⟩, hS.F ht⟩) hS.2.2 dX12_either_90
          · skip
            have t12984 := cv_eq (a := r12917.toInt) rfl (b := 0) (by decide) c12924
            have hP9 : va_P (dC, dI) classes (wM g c v12918 F12919 rc) H := hP
            exact W.vret hx hb hr (fun t ht hW => ⟨⟨(v12918, F12919, rc), rfl, ⟨hI, rfl, (frC (by decide) hf12920 (frC (by decide) hf12903 (frC (by decide) hf12893 (frU (by decide) (frC (by decide) hf12789 (fun _ _ => rfl)))))), hF, (by show ((v 39).toInt ≤ (v12918 39).toInt ∧ (v12918 39).toInt ≤ (v 30).toInt ∧ (v 38).toInt ≤ (v12918 38).toInt ∧ (v12918 38).toInt - (v 38).toInt ≤ (v12918 39).toInt - (v 39).toInt ∧ (v 41).toInt ≤ (v12918 41).toInt ∧ ((v12918 40).toInt < 0 → (v12918 41).toInt = (v 41).toInt)) ∧ keepL (v 37) (F 28) (F 29) (F12919 28) (F12919 29) ∧ ((v12918 40).toInt < 0 → dp (F12919 28) (F12919 29) (bI (v 37)) (v12918 38).toInt.toNat = some (d + 1)); rw [show v12918 38 = v12901 38 from hf12920 38 (by decide)]; exact ⟨by omega, hk, fun hf => (hd (by omega)).trans (congrArg some (by omega))⟩)⟩, (by show va_P _ _ _ t.heap; rw [ht]; exact hP9)⟩, hS.F ht⟩) hS.2.2 dX12_either_78
        · skip
          have t12985 := cv_ne (a := r12912.toInt) rfl (b := 63) (by decide) c12913
          have hP9 : va_P (dC, dI) classes (wM g c v12901 F12902 rc) H := hP
          exact W.vret hx hb hr (fun t ht hW => ⟨⟨(v12901, F12902, rc), rfl, ⟨hI, rfl, (frC (by decide) hf12903 (frC (by decide) hf12893 (frU (by decide) (frC (by decide) hf12789 (fun _ _ => rfl))))), hF, (by show ((v 39).toInt ≤ (v12901 39).toInt ∧ (v12901 39).toInt ≤ (v 30).toInt ∧ (v 38).toInt ≤ (v12901 38).toInt ∧ (v12901 38).toInt - (v 38).toInt ≤ (v12901 39).toInt - (v 39).toInt ∧ (v 41).toInt ≤ (v12901 41).toInt ∧ ((v12901 40).toInt < 0 → (v12901 41).toInt = (v 41).toInt)) ∧ keepL (v 37) (F 28) (F 29) (F12902 28) (F12902 29) ∧ ((v12901 40).toInt < 0 → dp (F12902 28) (F12902 29) (bI (v 37)) (v12901 38).toInt.toNat = some (d + 1)); rw [show v12901 39 = v12891 39 from hf12903 39 (by decide)]; rw [show v12901 41 = v12891 41 from hf12903 41 (by decide)]; rw [show v12901 40 = v12891 40 from hf12903 40 (by decide)]; exact ⟨by omega, hk, fun hf => (hd (by omega)).trans (congrArg some (by omega))⟩)⟩, (by show va_P _ _ _ t.heap; rw [ht]; exact hP9)⟩, hS.F ht⟩) hS.2.2 dX12_either_70
    · skip
      have t12986 := cv_ne (a := r12796.toInt) rfl (b := 60) (by decide) c12879
      refine lv_iload_n hx hb dX12_either_22 rfl (lv_at hl 0 rfl) ?_
      refine lv_bipush (v := 61) hx hb dX12_either_23 (by decide) ?_
      refine lv_icmp_eq (tgt := 34) hx hb dX12_either_25 (by decide) (fun c12987 => ?_) (fun c12987 => ?_)
      · skip
        have t12988 := cv_eq (a := r12796.toInt) rfl (b := 61) (by decide) c12987
        refine lv_aload_n hx hb dX12_either_34 rfl (lv_at hl 1 rfl) ?_
        refine lv_dup hx hb dX12_either_35 rfl ?_
        refine va_get (D := (dC, dI)) (ci := 12) (v := .int (v12787 39)) (C := RX12) (T := TX12) (N := 63) hx hb hwd inA_X12 hown hK hP 0 rfl rfl 39 (by decide) (hwd _ wk_1004) (fun _ h9 => h9) rfl dX12_either_36 ?_
        have t12989 : 0 ≤ (v12787 39).toInt ∧ (v12787 39).toInt ≤ 120 := hI.1 39 _ _ rfl
        refine lv_iconst (v := 1) hx hb dX12_either_39 (by decide) ?_
        refine lv_iadd hx hb dX12_either_40 ?_
        refine lv_topi (fun z12990 e12991 => ?_)
        try (have t12992 := tadd e12991 (a := (v12787 39).toInt) rfl (b := 1) (by decide) (by omega))
        refine va_put (D := (dC, dI)) (ci := 12) (v := .int z12990) (ty := .int) (C := RX12) (T := TX12) (N := 63) (fs := fsM_0 g v12787 rc) hx hb hwd inA_X12 tyX12 tyX12_ok nmX12 hown hK hP (DM hg) hS 0 rfl rfl 39 (by decide) (hwd _ wk_1004) (fun _ h9 => h9) rfl (by decide +kernel) rfl rfl (Nat.le_of_ble_eq_true rfl) dX12_either_41 (fun H locs hP _ hS => ?_)
        have hP := va_P_eq (pM_39 g c _ _ _ _) hP
        have hI := IM.put hI 39 z12990 rfl (by omega)
        refine lv_aload_n hx hb dX12_either_44 rfl (lv_at hl 1 rfl) ?_
        have t12993 : 0 ≤ (v 30).toInt ∧ (v 30).toInt ≤ 120 := by have h9 := hI.1 30 _ _ rfl; rw [show (va_up v12787 39 z12990) 30 = v 30 from hf12789 30 (by decide)] at h9; exact h9
        have t12994 : 0 ≤ (v 37).toInt ∧ (v 37).toInt ≤ 9 := by have h9 := hI.1 37 _ _ rfl; rw [show (va_up v12787 39 z12990) 37 = v 37 from hf12789 37 (by decide)] at h9; exact h9
        have t12995 : 0 ≤ (v12787 38).toInt ∧ (v12787 38).toInt ≤ 120 := hI.1 38 _ _ rfl
        have t12996 : 0 ≤ z12990.toInt ∧ z12990.toInt ≤ 120 := hI.1 39 _ _ rfl
        have t12997 : 0 ≤ (v12787 41).toInt ∧ (v12787 41).toInt ≤ 8 := hI.1 41 _ _ rfl
        refine va_callv (va_runV (As := []) (rest := []) ⟨hx, hb, hml, hown, hwd⟩ (c_X12_sum_7 l dC dI g c adK adV (va_up v12787 39 z12990) F12788 rc H.size  (d + 1) hg hI (by have h9 : (va_up v12787 39 z12990) 38 = v12787 38 := rfl; (try rw [h9]); clear h9; have h9 : (va_up v12787 39 z12990) 39 = z12990 := rfl; (try rw [h9]); clear h9; have h9 : (va_up v12787 39 z12990) 30 = v 30 := hf12789 30 (by decide); (try rw [h9]); clear h9; have h9 : (va_up v12787 39 z12990) 40 = v12787 40 := rfl; (try rw [h9]); clear h9; have h9 : (va_up v12787 39 z12990) 41 = v12787 41 := rfl; (try rw [h9]); clear h9; omega) (by have h9 : (va_up v12787 39 z12990) 37 = (v 37) := hf12789 37 (by decide); have h8 : (va_up v12787 39 z12990) 38 = (v12787 38) := rfl; (try rw [h9]); (try rw [h8]); exact hd (by omega))) (cwV 0 hwd (gV wk_1043 wk_1011 wk_1012 wk_1013 wk_5) rfl rfl rfl (by decide +kernel) ⟨Nat.le_of_ble_eq_true rfl, Nat.le_of_ble_eq_true rfl⟩) ⟨PM.blind, va_recv hK hP (ci := 12) (q0 := 0) rfl rfl, fun U hU hW => ⟨rfl, PM.at hK hE hP hS hU hW⟩⟩ rfl rfl hl.1 rfl (lv_room (Nat.le_of_ble_eq_true rfl)) dX12_either_45 ⟨Nat.le_of_ble_eq_true rfl, Nat.le_of_ble_eq_true rfl⟩) hS (fun q _ h => (freeM hS) q h) (freeM hS) (fun u t H1 locs ht hvm hw hB hz1 hk1 hS => ?_)
        unfold BM at hB
        rw [ht] at hB
        obtain ⟨v12999, F13000, rc9⟩ := u
        obtain ⟨hI, hrc, hf13001, hG13002, hw⟩ := hw
        dsimp only at hI hrc hB hf13001 hG13002 hw
        have hF := frCF (by decide) hG13002 hF
        rw [hrc] at hB
        have hP : va_P (dC, dI) classes (wM g c v12999 F13000 rc) H1 := hB
        have hw : (z12990.toInt ≤ (v12999 39).toInt ∧ (v12999 39).toInt ≤ ((va_up v12787 39 z12990) 30).toInt ∧ (v12787 38).toInt ≤ (v12999 38).toInt ∧ (v12999 38).toInt - (v12787 38).toInt ≤ (v12999 39).toInt - z12990.toInt ∧ (v12787 41).toInt ≤ (v12999 41).toInt ∧ ((v12999 40).toInt < 0 → (v12999 41).toInt = (v12787 41).toInt)) ∧ keepL ((va_up v12787 39 z12990) 37) (F12788 28) (F12788 29) (F13000 28) (F13000 29) ∧ ((v12999 40).toInt < 0 → dp (F13000 28) (F13000 29) (bI ((va_up v12787 39 z12990) 37)) (v12999 38).toInt.toNat = some ((d + 1) + 1)) := hw
        rw [show (va_up v12787 39 z12990) 30 = v 30 from hf12789 30 (by decide)] at hw
        rw [show (va_up v12787 39 z12990) 37 = v 37 from hf12789 37 (by decide)] at hw
        have hw_r12998 := hw
        have t13003 : 0 ≤ (v12999 38).toInt ∧ (v12999 38).toInt ≤ 120 := hI.1 38 _ _ rfl
        have t13004 : 0 ≤ (v12999 39).toInt ∧ (v12999 39).toInt ≤ 120 := hI.1 39 _ _ rfl
        have t13005 : 0 ≤ (v12999 41).toInt ∧ (v12999 41).toInt ≤ 8 := hI.1 41 _ _ rfl
        generalize H1 = H at hP hS ⊢
        have hk := hk.tr hw_r12998.2.1
        have hd := hw_r12998.2.2
        refine lv_aload_n hx hb dX12_either_48 rfl (lv_at hl 1 rfl) ?_
        refine lv_iload_n hx hb dX12_either_49 rfl (lv_at hl 0 rfl) ?_
        refine lv_iconst (v := 0) hx hb dX12_either_50 (by decide) ?_
        have t13006 : 0 ≤ (v 37).toInt ∧ (v 37).toInt ≤ 9 := by have h9 := hI.1 37 _ _ rfl; rw [show v12999 37 = v 37 from (hf13001 37 (by decide)).trans (hf12789 37 (by decide))] at h9; exact h9
        have t13007 : 0 ≤ (v12999 38).toInt ∧ (v12999 38).toInt ≤ 120 := hI.1 38 _ _ rfl
        refine va_callv (va_runV (As := [.int r12796, .int 0]) (rest := []) ⟨hx, hb, hml, hown, hwd⟩ (c_X12_lay l dC dI g c adK adV v12999 F13000 rc H.size r12796 0 hg hI (by have h9 : v12999 38 = v12999 38 := rfl; rw [h9]; omega)) (cwV 2 hwd (gV wk_1021 wk_1018 wk_1019 wk_1020 wk_5) rfl rfl rfl (by decide +kernel) ⟨Nat.le_of_ble_eq_true rfl, Nat.le_of_ble_eq_true rfl⟩) ⟨PM.blind, va_recv hK hP (ci := 12) (q0 := 0) rfl rfl, fun U hU hW => ⟨rfl, PM.at hK hE hP hS hU hW⟩⟩ rfl rfl hl.1 rfl (lv_room (Nat.le_of_ble_eq_true rfl)) dX12_either_51 ⟨Nat.le_of_ble_eq_true rfl, Nat.le_of_ble_eq_true rfl⟩) hS (fun q _ h => (freeM hS) q h) (freeM hS) (fun u t H1 locs ht hvm hw hB hz1 hk1 hS => ?_)
        unfold BM at hB
        rw [ht] at hB
        obtain ⟨v13009, F13010, rc9⟩ := u
        obtain ⟨hI, hrc, hf13011, hG13012, hw⟩ := hw
        dsimp only at hI hrc hB hf13011 hG13012 hw
        have hF := frCF (by decide) hG13012 hF
        rw [hrc] at hB
        have hP : va_P (dC, dI) classes (wM g c v13009 F13010 rc) H1 := hB
        have hw : (v13009 38).toInt = (v12999 38).toInt + 1 ∧ keepL (v12999 37) (F13000 28) (F13000 29) (F13010 28) (F13010 29) ∧ dp (F13010 28) (F13010 29) (bI (v12999 37)) ((v12999 38).toInt.toNat + 1) = dpS (dp (F13000 28) (F13000 29) (bI (v12999 37)) (v12999 38).toInt.toNat) r12796 (0 : Int32) := hw
        rw [show v12999 37 = v 37 from (hf13001 37 (by decide)).trans (hf12789 37 (by decide))] at hw
        have hw_r13008 := hw
        have t13013 : 0 ≤ (v13009 38).toInt ∧ (v13009 38).toInt ≤ 120 := hI.1 38 _ _ rfl
        have k13014 : (0 : Int32).toInt = 0 := by decide
        generalize H1 = H at hP hS ⊢
        have hk := hk.tr hw_r13008.2.1
        have hd : (v12999 40).toInt < 0 → dp (F13010 28) (F13010 29) (bI (v 37)) (v13009 38).toInt.toNat = some (((d + 1) + 1) - 1) := fun hf => (by have e9 : (v13009 38).toInt.toNat = (v12999 38).toInt.toNat + 1 := (by omega); rw [e9, hw_r13008.2.2, hd hf]; exact dpS_5 (by omega) (by omega) (by omega) (by omega) (by omega))
        refine lv_aload_n hx hb dX12_either_54 rfl (lv_at hl 1 rfl) ?_
        refine va_get (D := (dC, dI)) (ci := 12) (v := .int (v13009 40)) (C := RX12) (T := TX12) (N := 63) hx hb hwd inA_X12 hown hK hP 0 rfl rfl 40 (by decide) (hwd _ wk_1005) (fun _ h9 => h9) rfl dX12_either_55 ?_
        refine my_top (v := v12999 40) (hf13011 40 (by decide)) ?_
        refine lv_if_ge (tgt := 70) hx hb dX12_either_58 (by decide) (fun c13015 => ?_) (fun c13015 => ?_)
        · skip
          have t13016 := cv_le (a := 0) (by decide) (b := (v12999 40).toInt) rfl c13015
          have hP9 : va_P (dC, dI) classes (wM g c v13009 F13010 rc) H := hP
          exact W.vret hx hb hr (fun t ht hW => ⟨⟨(v13009, F13010, rc), rfl, ⟨hI, rfl, (frC (by decide) hf13011 (frC (by decide) hf13001 (frU (by decide) (frC (by decide) hf12789 (fun _ _ => rfl))))), hF, (by show ((v 39).toInt ≤ (v13009 39).toInt ∧ (v13009 39).toInt ≤ (v 30).toInt ∧ (v 38).toInt ≤ (v13009 38).toInt ∧ (v13009 38).toInt - (v 38).toInt ≤ (v13009 39).toInt - (v 39).toInt ∧ (v 41).toInt ≤ (v13009 41).toInt ∧ ((v13009 40).toInt < 0 → (v13009 41).toInt = (v 41).toInt)) ∧ keepL (v 37) (F 28) (F 29) (F13010 28) (F13010 29) ∧ ((v13009 40).toInt < 0 → dp (F13010 28) (F13010 29) (bI (v 37)) (v13009 38).toInt.toNat = some (d + 1)); rw [show v13009 39 = v12999 39 from hf13011 39 (by decide)]; rw [show v13009 41 = v12999 41 from hf13011 41 (by decide)]; rw [show v13009 40 = v12999 40 from hf13011 40 (by decide)]; exact ⟨by omega, hk, fun hf => (hd (by omega)).trans (congrArg some (by omega))⟩)⟩, (by show va_P _ _ _ t.heap; rw [ht]; exact hP9)⟩, hS.F ht⟩) hS.2.2 dX12_either_70
        · skip
          have t13017 := cv_nle (a := 0) (by decide) (b := (v12999 40).toInt) rfl c13015
          refine lv_aload_n hx hb dX12_either_61 rfl (lv_at hl 1 rfl) ?_
          have t13018 : 0 ≤ (v 30).toInt ∧ (v 30).toInt ≤ 120 := by have h9 := hI.1 30 _ _ rfl; rw [show v13009 30 = v 30 from (hf13011 30 (by decide)).trans ((hf13001 30 (by decide)).trans (hf12789 30 (by decide)))] at h9; exact h9
          have t13019 : 0 ≤ (v12999 39).toInt ∧ (v12999 39).toInt ≤ 120 := by have h9 := hI.1 39 _ _ rfl; rw [show v13009 39 = v12999 39 from hf13011 39 (by decide)] at h9; exact h9
          refine va_calli (va_runV (As := []) (rest := []) ⟨hx, hb, hml, hown, hwd⟩ (c_X12_look l dC dI g c adK adV v13009 F13010 rc H.size  hg hI ) (cwV 0 hwd (gV wk_1017 wk_1014 wk_1015 wk_1016 wk_5) rfl rfl rfl (by decide +kernel) ⟨Nat.le_of_ble_eq_true rfl, Nat.le_of_ble_eq_true rfl⟩) ⟨PM.blind, va_recv hK hP (ci := 12) (q0 := 0) rfl rfl, fun U hU hW => ⟨rfl, PM.at hK hE hP hS hU hW⟩⟩ rfl rfl hl.1 rfl (lv_room (Nat.le_of_ble_eq_true rfl)) dX12_either_62 ⟨Nat.le_of_ble_eq_true rfl, Nat.le_of_ble_eq_true rfl⟩) hS (fun q _ h => (freeM hS) q h) (freeM hS) (fun r13020 u t H1 locs ht hvm hw hB hz1 hk1 hS => ?_)
          unfold BM at hB
          rw [ht] at hB
          have hP : va_P (dC, dI) classes (wM g c v13009 F13010 rc) H1 := hB
          have hw : r13020.toInt = lkM (v13009 39) (v13009 30) (F13010 24) ∧ ((v13009 39).toInt < (v13009 30).toInt ∨ r13020.toInt = -1) := hw
          rw [show v13009 39 = v12999 39 from hf13011 39 (by decide)] at hw
          rw [show v13009 30 = v 30 from (hf13011 30 (by decide)).trans ((hf13001 30 (by decide)).trans (hf12789 30 (by decide)))] at hw
          rw [hF 24 (by decide)] at hw
          have hw_r13020 := hw
          generalize H1 = H at hP hS ⊢
          refine lv_bipush (v := 63) hx hb dX12_either_65 (by decide) ?_
          refine lv_icmp_eq (tgt := 71) hx hb dX12_either_67 (by decide) (fun c13021 => ?_) (fun c13021 => ?_)
          · skip
            have t13022 := cv_eq (a := r13020.toInt) rfl (b := 63) (by decide) c13021
            refine lv_aload_n hx hb dX12_either_71 rfl (lv_at hl 1 rfl) ?_
            have t13023 : 0 ≤ (v12999 39).toInt ∧ (v12999 39).toInt ≤ 120 := by have h9 := hI.1 39 _ _ rfl; rw [show v13009 39 = v12999 39 from hf13011 39 (by decide)] at h9; exact h9
            have t13024 : 0 ≤ (v12999 41).toInt ∧ (v12999 41).toInt ≤ 8 := by have h9 := hI.1 41 _ _ rfl; rw [show v13009 41 = v12999 41 from hf13011 41 (by decide)] at h9; exact h9
            refine va_calli (va_runV (As := []) (rest := []) ⟨hx, hb, hml, hown, hwd⟩ (c_X12_opens l dC dI g c adK adV v13009 F13010 rc H.size  hg hI (by have h9 : v13009 39 = v12999 39 := hf13011 39 (by decide); (try rw [h9]); clear h9; have h9 : v13009 30 = v 30 := (hf13011 30 (by decide)).trans ((hf13001 30 (by decide)).trans (hf12789 30 (by decide))); (try rw [h9]); clear h9; omega)) (cwV 0 hwd (gV wk_1025 wk_1022 wk_1023 wk_1024 wk_5) rfl rfl rfl (by decide +kernel) ⟨Nat.le_of_ble_eq_true rfl, Nat.le_of_ble_eq_true rfl⟩) ⟨PM.blind, va_recv hK hP (ci := 12) (q0 := 0) rfl rfl, fun U hU hW => ⟨rfl, PM.at hK hE hP hS hU hW⟩⟩ rfl rfl hl.1 rfl (lv_room (Nat.le_of_ble_eq_true rfl)) dX12_either_72 ⟨Nat.le_of_ble_eq_true rfl, Nat.le_of_ble_eq_true rfl⟩) hS (fun q _ h => (freeM hS) q h) (freeM hS) (fun r13025 u t H1 locs ht hvm hw hB hz1 hk1 hS => ?_)
            unfold BM at hB
            rw [ht] at hB
            obtain ⟨v13026, F13027, rc9⟩ := u
            obtain ⟨hI, hrc, hf13028, hG13029, hw⟩ := hw
            dsimp only at hI hrc hB hf13028 hG13029 hw
            have hF := frCF (by decide) hG13029 hF
            rw [hrc] at hB
            have hP : va_P (dC, dI) classes (wM g c v13026 F13027 rc) H1 := hB
            have hw : (r13025.toInt = 1 ∧ (v13009 41).toInt < 8 ∧ (v13026 41).toInt = (v13009 41).toInt + 1 ∧ (v13026 39).toInt = (v13009 39).toInt + 1 ∧ (v13026 40).toInt = (v13009 40).toInt) ∨ (r13025.toInt = 0 ∧ (v13009 41).toInt = 8 ∧ 0 ≤ (v13026 40).toInt ∧ (v13026 41).toInt = (v13009 41).toInt ∧ (v13026 39).toInt = (v13009 39).toInt) := hw
            rw [show v13009 41 = v12999 41 from hf13011 41 (by decide)] at hw
            rw [show v13009 39 = v12999 39 from hf13011 39 (by decide)] at hw
            rw [show v13009 40 = v12999 40 from hf13011 40 (by decide)] at hw
            have hw_r13025 := hw
            have t13030 : 0 ≤ (v13026 39).toInt ∧ (v13026 39).toInt ≤ 120 := hI.1 39 _ _ rfl
            have t13031 : 0 ≤ (v13026 41).toInt ∧ (v13026 41).toInt ≤ 8 := hI.1 41 _ _ rfl
            generalize H1 = H at hP hS ⊢
            have hk : keepL (v 37) (F 28) (F 29) (F13027 28) (F13027 29) := by rw [hG13029 28 (by decide), hG13029 29 (by decide)]; exact hk
            have hd : (v13026 40).toInt < 0 → dp (F13027 28) (F13027 29) (bI (v 37)) (v13009 38).toInt.toNat = some (((d + 1) + 1) - 1) := fun hf => (by rw [hG13029 28 (by decide), hG13029 29 (by decide)]; exact hd (by omega))
            refine lv_if_ne (tgt := 79) hx hb dX12_either_75 (by decide) (fun c13032 => ?_) (fun c13032 => ?_)
            · skip
              have t13033 := cv_ne (a := r13025.toInt) rfl (b := 0) (by decide) c13032
              refine lv_aload_n hx hb dX12_either_79 rfl (lv_at hl 1 rfl) ?_
              have t13034 : 0 ≤ (v 30).toInt ∧ (v 30).toInt ≤ 120 := by have h9 := hI.1 30 _ _ rfl; rw [show v13026 30 = v 30 from (hf13028 30 (by decide)).trans ((hf13011 30 (by decide)).trans ((hf13001 30 (by decide)).trans (hf12789 30 (by decide))))] at h9; exact h9
              have t13035 : 0 ≤ (v 37).toInt ∧ (v 37).toInt ≤ 9 := by have h9 := hI.1 37 _ _ rfl; rw [show v13026 37 = v 37 from (hf13028 37 (by decide)).trans ((hf13011 37 (by decide)).trans ((hf13001 37 (by decide)).trans (hf12789 37 (by decide))))] at h9; exact h9
              have t13036 : 0 ≤ (v13009 38).toInt ∧ (v13009 38).toInt ≤ 120 := by have h9 := hI.1 38 _ _ rfl; rw [show v13026 38 = v13009 38 from hf13028 38 (by decide)] at h9; exact h9
              have t13037 : 0 ≤ (v13026 39).toInt ∧ (v13026 39).toInt ≤ 120 := hI.1 39 _ _ rfl
              have t13038 : 0 ≤ (v13026 41).toInt ∧ (v13026 41).toInt ≤ 8 := hI.1 41 _ _ rfl
              refine va_callv (va_runV (As := []) (rest := []) ⟨hx, hb, hml, hown, hwd⟩ (c_X12_either_8 l dC dI g c adK adV v13026 F13027 rc H.size  (((d + 1) + 1) - 1) hg hI (by have h9 : v13026 38 = v13009 38 := hf13028 38 (by decide); (try rw [h9]); clear h9; have h9 : v13026 39 = v13026 39 := rfl; (try rw [h9]); clear h9; have h9 : v13026 30 = v 30 := (hf13028 30 (by decide)).trans ((hf13011 30 (by decide)).trans ((hf13001 30 (by decide)).trans (hf12789 30 (by decide)))); (try rw [h9]); clear h9; have h9 : v13026 40 = v13026 40 := rfl; (try rw [h9]); clear h9; have h9 : v13026 41 = v13026 41 := rfl; (try rw [h9]); clear h9; omega) (by have h9 : v13026 37 = (v 37) := (hf13028 37 (by decide)).trans ((hf13011 37 (by decide)).trans ((hf13001 37 (by decide)).trans (hf12789 37 (by decide)))); have h8 : v13026 38 = (v13009 38) := hf13028 38 (by decide); (try rw [h9]); (try rw [h8]); exact hd (by omega))) (cwV 0 hwd (gV wk_1010 wk_1007 wk_1008 wk_1009 wk_5) rfl rfl rfl (by decide +kernel) ⟨Nat.le_of_ble_eq_true rfl, Nat.le_of_ble_eq_true rfl⟩) ⟨PM.blind, va_recv hK hP (ci := 12) (q0 := 0) rfl rfl, fun U hU hW => ⟨rfl, PM.at hK hE hP hS hU hW⟩⟩ rfl rfl hl.1 rfl (lv_room (Nat.le_of_ble_eq_true rfl)) dX12_either_80 ⟨Nat.le_of_ble_eq_true rfl, Nat.le_of_ble_eq_true rfl⟩) hS (fun q _ h => (freeM hS) q h) (freeM hS) (fun u t H1 locs ht hvm hw hB hz1 hk1 hS => ?_)
              unfold BM at hB
              rw [ht] at hB
              obtain ⟨v13040, F13041, rc9⟩ := u
              obtain ⟨hI, hrc, hf13042, hG13043, hw⟩ := hw
              dsimp only at hI hrc hB hf13042 hG13043 hw
              have hF := frCF (by decide) hG13043 hF
              rw [hrc] at hB
              have hP : va_P (dC, dI) classes (wM g c v13040 F13041 rc) H1 := hB
              have hw : ((v13026 39).toInt ≤ (v13040 39).toInt ∧ (v13040 39).toInt ≤ (v13026 30).toInt ∧ (v13026 38).toInt ≤ (v13040 38).toInt ∧ (v13040 38).toInt - (v13026 38).toInt ≤ (v13040 39).toInt - (v13026 39).toInt ∧ (v13026 41).toInt ≤ (v13040 41).toInt ∧ ((v13040 40).toInt < 0 → (v13040 41).toInt = (v13026 41).toInt)) ∧ keepL (v13026 37) (F13027 28) (F13027 29) (F13041 28) (F13041 29) ∧ ((v13040 40).toInt < 0 → dp (F13041 28) (F13041 29) (bI (v13026 37)) (v13040 38).toInt.toNat = some ((((d + 1) + 1) - 1) + 1)) := hw
              rw [show v13026 30 = v 30 from (hf13028 30 (by decide)).trans ((hf13011 30 (by decide)).trans ((hf13001 30 (by decide)).trans (hf12789 30 (by decide))))] at hw
              rw [show v13026 38 = v13009 38 from hf13028 38 (by decide)] at hw
              rw [show v13026 37 = v 37 from (hf13028 37 (by decide)).trans ((hf13011 37 (by decide)).trans ((hf13001 37 (by decide)).trans (hf12789 37 (by decide))))] at hw
              have hw_r13039 := hw
              have t13044 : 0 ≤ (v13040 38).toInt ∧ (v13040 38).toInt ≤ 120 := hI.1 38 _ _ rfl
              have t13045 : 0 ≤ (v13040 39).toInt ∧ (v13040 39).toInt ≤ 120 := hI.1 39 _ _ rfl
              have t13046 : 0 ≤ (v13040 41).toInt ∧ (v13040 41).toInt ≤ 8 := hI.1 41 _ _ rfl
              generalize H1 = H at hP hS ⊢
              have hk := hk.tr hw_r13039.2.1
              have hd := hw_r13039.2.2
              refine lv_aload_n hx hb dX12_either_83 rfl (lv_at hl 1 rfl) ?_
              refine va_get (D := (dC, dI)) (ci := 12) (v := .int (v13040 40)) (C := RX12) (T := TX12) (N := 63) hx hb hwd inA_X12 hown hK hP 0 rfl rfl 40 (by decide) (hwd _ wk_1005) (fun _ h9 => h9) rfl dX12_either_84 ?_
              refine lv_if_lt (tgt := 91) hx hb dX12_either_87 (by decide) (fun c13047 => ?_) (fun c13047 => ?_)
              · skip
                have t13048 := cv_lt (a := (v13040 40).toInt) rfl (b := 0) (by decide) c13047
                refine lv_aload_n hx hb dX12_either_91 rfl (lv_at hl 1 rfl) ?_
                have t13049 : 0 ≤ (v 30).toInt ∧ (v 30).toInt ≤ 120 := by have h9 := hI.1 30 _ _ rfl; rw [show v13040 30 = v 30 from (hf13042 30 (by decide)).trans ((hf13028 30 (by decide)).trans ((hf13011 30 (by decide)).trans ((hf13001 30 (by decide)).trans (hf12789 30 (by decide)))))] at h9; exact h9
                have t13050 : 0 ≤ (v13040 39).toInt ∧ (v13040 39).toInt ≤ 120 := hI.1 39 _ _ rfl
                refine va_calli (va_runV (As := []) (rest := []) ⟨hx, hb, hml, hown, hwd⟩ (c_X12_look l dC dI g c adK adV v13040 F13041 rc H.size  hg hI ) (cwV 0 hwd (gV wk_1017 wk_1014 wk_1015 wk_1016 wk_5) rfl rfl rfl (by decide +kernel) ⟨Nat.le_of_ble_eq_true rfl, Nat.le_of_ble_eq_true rfl⟩) ⟨PM.blind, va_recv hK hP (ci := 12) (q0 := 0) rfl rfl, fun U hU hW => ⟨rfl, PM.at hK hE hP hS hU hW⟩⟩ rfl rfl hl.1 rfl (lv_room (Nat.le_of_ble_eq_true rfl)) dX12_either_92 ⟨Nat.le_of_ble_eq_true rfl, Nat.le_of_ble_eq_true rfl⟩) hS (fun q _ h => (freeM hS) q h) (freeM hS) (fun r13051 u t H1 locs ht hvm hw hB hz1 hk1 hS => ?_)
                unfold BM at hB
                rw [ht] at hB
                have hP : va_P (dC, dI) classes (wM g c v13040 F13041 rc) H1 := hB
                have hw : r13051.toInt = lkM (v13040 39) (v13040 30) (F13041 24) ∧ ((v13040 39).toInt < (v13040 30).toInt ∨ r13051.toInt = -1) := hw
                rw [show v13040 30 = v 30 from (hf13042 30 (by decide)).trans ((hf13028 30 (by decide)).trans ((hf13011 30 (by decide)).trans ((hf13001 30 (by decide)).trans (hf12789 30 (by decide)))))] at hw
                rw [hF 24 (by decide)] at hw
                have hw_r13051 := hw
                generalize H1 = H at hP hS ⊢
                refine lv_bipush (v := 58) hx hb dX12_either_95 (by decide) ?_
                refine lv_icmp_eq (tgt := 105) hx hb dX12_either_97 (by decide) (fun c13052 => ?_) (fun c13052 => ?_)
                · skip
                  have t13053 := cv_eq (a := r13051.toInt) rfl (b := 58) (by decide) c13052
                  refine lv_aload_n hx hb dX12_either_105 rfl (lv_at hl 1 rfl) ?_
                  refine lv_dup hx hb dX12_either_106 rfl ?_
                  refine va_get (D := (dC, dI)) (ci := 12) (v := .int (v13040 39)) (C := RX12) (T := TX12) (N := 63) hx hb hwd inA_X12 hown hK hP 0 rfl rfl 39 (by decide) (hwd _ wk_1004) (fun _ h9 => h9) rfl dX12_either_107 ?_
                  have t13054 : 0 ≤ (v13040 39).toInt ∧ (v13040 39).toInt ≤ 120 := hI.1 39 _ _ rfl
                  refine lv_iconst (v := 1) hx hb dX12_either_110 (by decide) ?_
                  refine lv_iadd hx hb dX12_either_111 ?_
                  refine lv_topi (fun z13055 e13056 => ?_)
                  try (have t13057 := tadd e13056 (a := (v13040 39).toInt) rfl (b := 1) (by decide) (by omega))
                  refine va_put (D := (dC, dI)) (ci := 12) (v := .int z13055) (ty := .int) (C := RX12) (T := TX12) (N := 63) (fs := fsM_0 g v13040 rc) hx hb hwd inA_X12 tyX12 tyX12_ok nmX12 hown hK hP (DM hg) hS 0 rfl rfl 39 (by decide) (hwd _ wk_1004) (fun _ h9 => h9) rfl (by decide +kernel) rfl rfl (Nat.le_of_ble_eq_true rfl) dX12_either_112 (fun H locs hP _ hS => ?_)
                  have hP := va_P_eq (pM_39 g c _ _ _ _) hP
                  have hI := IM.put hI 39 z13055 rfl (by omega)
                  refine lv_aload_n hx hb dX12_either_115 rfl (lv_at hl 1 rfl) ?_
                  have t13058 : 0 ≤ (v 30).toInt ∧ (v 30).toInt ≤ 120 := by have h9 := hI.1 30 _ _ rfl; rw [show (va_up v13040 39 z13055) 30 = v 30 from (hf13042 30 (by decide)).trans ((hf13028 30 (by decide)).trans ((hf13011 30 (by decide)).trans ((hf13001 30 (by decide)).trans (hf12789 30 (by decide)))))] at h9; exact h9
                  have t13059 : 0 ≤ (v 37).toInt ∧ (v 37).toInt ≤ 9 := by have h9 := hI.1 37 _ _ rfl; rw [show (va_up v13040 39 z13055) 37 = v 37 from (hf13042 37 (by decide)).trans ((hf13028 37 (by decide)).trans ((hf13011 37 (by decide)).trans ((hf13001 37 (by decide)).trans (hf12789 37 (by decide)))))] at h9; exact h9
                  have t13060 : 0 ≤ (v13040 38).toInt ∧ (v13040 38).toInt ≤ 120 := hI.1 38 _ _ rfl
                  have t13061 : 0 ≤ z13055.toInt ∧ z13055.toInt ≤ 120 := hI.1 39 _ _ rfl
                  have t13062 : 0 ≤ (v13040 41).toInt ∧ (v13040 41).toInt ≤ 8 := hI.1 41 _ _ rfl
                  refine va_callv (va_runV (As := []) (rest := []) ⟨hx, hb, hml, hown, hwd⟩ (c_X12_either_8 l dC dI g c adK adV (va_up v13040 39 z13055) F13041 rc H.size  ((((d + 1) + 1) - 1) + 1) hg hI (by have h9 : (va_up v13040 39 z13055) 38 = v13040 38 := rfl; (try rw [h9]); clear h9; have h9 : (va_up v13040 39 z13055) 39 = z13055 := rfl; (try rw [h9]); clear h9; have h9 : (va_up v13040 39 z13055) 30 = v 30 := (hf13042 30 (by decide)).trans ((hf13028 30 (by decide)).trans ((hf13011 30 (by decide)).trans ((hf13001 30 (by decide)).trans (hf12789 30 (by decide))))); (try rw [h9]); clear h9; have h9 : (va_up v13040 39 z13055) 40 = v13040 40 := rfl; (try rw [h9]); clear h9; have h9 : (va_up v13040 39 z13055) 41 = v13040 41 := rfl; (try rw [h9]); clear h9; omega) (by have h9 : (va_up v13040 39 z13055) 37 = (v 37) := (hf13042 37 (by decide)).trans ((hf13028 37 (by decide)).trans ((hf13011 37 (by decide)).trans ((hf13001 37 (by decide)).trans (hf12789 37 (by decide))))); have h8 : (va_up v13040 39 z13055) 38 = (v13040 38) := rfl; (try rw [h9]); (try rw [h8]); exact hd (by omega))) (cwV 0 hwd (gV wk_1010 wk_1007 wk_1008 wk_1009 wk_5) rfl rfl rfl (by decide +kernel) ⟨Nat.le_of_ble_eq_true rfl, Nat.le_of_ble_eq_true rfl⟩) ⟨PM.blind, va_recv hK hP (ci := 12) (q0 := 0) rfl rfl, fun U hU hW => ⟨rfl, PM.at hK hE hP hS hU hW⟩⟩ rfl rfl hl.1 rfl (lv_room (Nat.le_of_ble_eq_true rfl)) dX12_either_116 ⟨Nat.le_of_ble_eq_true rfl, Nat.le_of_ble_eq_true rfl⟩) hS (fun q _ h => (freeM hS) q h) (freeM hS) (fun u t H1 locs ht hvm hw hB hz1 hk1 hS => ?_)
                  unfold BM at hB
                  rw [ht] at hB
                  obtain ⟨v13064, F13065, rc9⟩ := u
                  obtain ⟨hI, hrc, hf13066, hG13067, hw⟩ := hw
                  dsimp only at hI hrc hB hf13066 hG13067 hw
                  have hF := frCF (by decide) hG13067 hF
                  rw [hrc] at hB
                  have hP : va_P (dC, dI) classes (wM g c v13064 F13065 rc) H1 := hB
                  have hw : (z13055.toInt ≤ (v13064 39).toInt ∧ (v13064 39).toInt ≤ ((va_up v13040 39 z13055) 30).toInt ∧ (v13040 38).toInt ≤ (v13064 38).toInt ∧ (v13064 38).toInt - (v13040 38).toInt ≤ (v13064 39).toInt - z13055.toInt ∧ (v13040 41).toInt ≤ (v13064 41).toInt ∧ ((v13064 40).toInt < 0 → (v13064 41).toInt = (v13040 41).toInt)) ∧ keepL ((va_up v13040 39 z13055) 37) (F13041 28) (F13041 29) (F13065 28) (F13065 29) ∧ ((v13064 40).toInt < 0 → dp (F13065 28) (F13065 29) (bI ((va_up v13040 39 z13055) 37)) (v13064 38).toInt.toNat = some (((((d + 1) + 1) - 1) + 1) + 1)) := hw
                  rw [show (va_up v13040 39 z13055) 30 = v 30 from (hf13042 30 (by decide)).trans ((hf13028 30 (by decide)).trans ((hf13011 30 (by decide)).trans ((hf13001 30 (by decide)).trans (hf12789 30 (by decide)))))] at hw
                  rw [show (va_up v13040 39 z13055) 37 = v 37 from (hf13042 37 (by decide)).trans ((hf13028 37 (by decide)).trans ((hf13011 37 (by decide)).trans ((hf13001 37 (by decide)).trans (hf12789 37 (by decide)))))] at hw
                  have hw_r13063 := hw
                  have t13068 : 0 ≤ (v13064 38).toInt ∧ (v13064 38).toInt ≤ 120 := hI.1 38 _ _ rfl
                  have t13069 : 0 ≤ (v13064 39).toInt ∧ (v13064 39).toInt ≤ 120 := hI.1 39 _ _ rfl
                  have t13070 : 0 ≤ (v13064 41).toInt ∧ (v13064 41).toInt ≤ 8 := hI.1 41 _ _ rfl
                  generalize H1 = H at hP hS ⊢
                  have hk := hk.tr hw_r13063.2.1
                  have hd := hw_r13063.2.2
                  refine lv_aload_n hx hb dX12_either_119 rfl (lv_at hl 1 rfl) ?_
                  refine lv_iconst (v := 4) hx hb dX12_either_120 (by decide) ?_
                  refine lv_iconst (v := 0) hx hb dX12_either_121 (by decide) ?_
                  have t13071 : 0 ≤ (v 37).toInt ∧ (v 37).toInt ≤ 9 := by have h9 := hI.1 37 _ _ rfl; rw [show v13064 37 = v 37 from (hf13066 37 (by decide)).trans ((hf13042 37 (by decide)).trans ((hf13028 37 (by decide)).trans ((hf13011 37 (by decide)).trans ((hf13001 37 (by decide)).trans (hf12789 37 (by decide))))))] at h9; exact h9
                  have t13072 : 0 ≤ (v13064 38).toInt ∧ (v13064 38).toInt ≤ 120 := hI.1 38 _ _ rfl
                  refine va_callv (va_runV (As := [.int 4, .int 0]) (rest := []) ⟨hx, hb, hml, hown, hwd⟩ (c_X12_lay l dC dI g c adK adV v13064 F13065 rc H.size 4 0 hg hI (by have h9 : v13064 38 = v13064 38 := rfl; rw [h9]; omega)) (cwV 2 hwd (gV wk_1021 wk_1018 wk_1019 wk_1020 wk_5) rfl rfl rfl (by decide +kernel) ⟨Nat.le_of_ble_eq_true rfl, Nat.le_of_ble_eq_true rfl⟩) ⟨PM.blind, va_recv hK hP (ci := 12) (q0 := 0) rfl rfl, fun U hU hW => ⟨rfl, PM.at hK hE hP hS hU hW⟩⟩ rfl rfl hl.1 rfl (lv_room (Nat.le_of_ble_eq_true rfl)) dX12_either_122 ⟨Nat.le_of_ble_eq_true rfl, Nat.le_of_ble_eq_true rfl⟩) hS (fun q _ h => (freeM hS) q h) (freeM hS) (fun u t H1 locs ht hvm hw hB hz1 hk1 hS => ?_)
                  unfold BM at hB
                  rw [ht] at hB
                  obtain ⟨v13074, F13075, rc9⟩ := u
                  obtain ⟨hI, hrc, hf13076, hG13077, hw⟩ := hw
                  dsimp only at hI hrc hB hf13076 hG13077 hw
                  have hF := frCF (by decide) hG13077 hF
                  rw [hrc] at hB
                  have hP : va_P (dC, dI) classes (wM g c v13074 F13075 rc) H1 := hB
                  have hw : (v13074 38).toInt = (v13064 38).toInt + 1 ∧ keepL (v13064 37) (F13065 28) (F13065 29) (F13075 28) (F13075 29) ∧ dp (F13075 28) (F13075 29) (bI (v13064 37)) ((v13064 38).toInt.toNat + 1) = dpS (dp (F13065 28) (F13065 29) (bI (v13064 37)) (v13064 38).toInt.toNat) (4 : Int32) (0 : Int32) := hw
                  rw [show v13064 37 = v 37 from (hf13066 37 (by decide)).trans ((hf13042 37 (by decide)).trans ((hf13028 37 (by decide)).trans ((hf13011 37 (by decide)).trans ((hf13001 37 (by decide)).trans (hf12789 37 (by decide))))))] at hw
                  have hw_r13073 := hw
                  have t13078 : 0 ≤ (v13074 38).toInt ∧ (v13074 38).toInt ≤ 120 := hI.1 38 _ _ rfl
                  have k13079 : (4 : Int32).toInt = 4 := by decide
                  have k13080 : (0 : Int32).toInt = 0 := by decide
                  generalize H1 = H at hP hS ⊢
                  have hk := hk.tr hw_r13073.2.1
                  have hd : (v13064 40).toInt < 0 → dp (F13075 28) (F13075 29) (bI (v 37)) (v13074 38).toInt.toNat = some ((((((d + 1) + 1) - 1) + 1) + 1) - 2) := fun hf => (by have e9 : (v13074 38).toInt.toNat = (v13064 38).toInt.toNat + 1 := (by omega); rw [e9, hw_r13073.2.2, hd hf]; exact dpS_4 (by decide) (by omega))
                  refine lv_aload_n hx hb dX12_either_125 rfl (lv_at hl 1 rfl) ?_
                  refine lv_dup hx hb dX12_either_126 rfl ?_
                  refine va_get (D := (dC, dI)) (ci := 12) (v := .int (v13074 41)) (C := RX12) (T := TX12) (N := 63) hx hb hwd inA_X12 hown hK hP 0 rfl rfl 41 (by decide) (hwd _ wk_1006) (fun _ h9 => h9) rfl dX12_either_127 ?_
                  refine my_top (v := v13064 41) (hf13076 41 (by decide)) ?_
                  have t13081 : 0 ≤ (v13064 41).toInt ∧ (v13064 41).toInt ≤ 8 := by have h9 := hI.1 41 _ _ rfl; rw [show v13074 41 = v13064 41 from hf13076 41 (by decide)] at h9; exact h9
                  refine lv_iconst (v := 1) hx hb dX12_either_130 (by decide) ?_
                  refine lv_isub hx hb dX12_either_131 ?_
                  refine lv_topi (fun z13082 e13083 => ?_)
                  try (have t13084 := tsub e13083 (a := (v13064 41).toInt) rfl (b := 1) (by decide) (by omega))
                  refine va_put (D := (dC, dI)) (ci := 12) (v := .int z13082) (ty := .int) (C := RX12) (T := TX12) (N := 63) (fs := fsM_0 g v13074 rc) hx hb hwd inA_X12 tyX12 tyX12_ok nmX12 hown hK hP (DM hg) hS 0 rfl rfl 41 (by decide) (hwd _ wk_1006) (fun _ h9 => h9) rfl (by decide +kernel) rfl rfl (Nat.le_of_ble_eq_true rfl) dX12_either_132 (fun H locs hP _ hS => ?_)
                  have hP := va_P_eq (pM_41 g c _ _ _ _) hP
                  have hI := IM.put hI 41 z13082 rfl (by omega)
                  have hP9 : va_P (dC, dI) classes (wM g c (va_up v13074 41 z13082) F13075 rc) H := hP
                  exact W.vret hx hb hr (fun t ht hW => ⟨⟨((va_up v13074 41 z13082), F13075, rc), rfl, ⟨hI, rfl, (frU (by decide) (frC (by decide) hf13076 (frC (by decide) hf13066 (frU (by decide) (frC (by decide) hf13042 (frC (by decide) hf13028 (frC (by decide) hf13011 (frC (by decide) hf13001 (frU (by decide) (frC (by decide) hf12789 (fun _ _ => rfl))))))))))), hF, (by show ((v 39).toInt ≤ ((va_up v13074 41 z13082) 39).toInt ∧ ((va_up v13074 41 z13082) 39).toInt ≤ (v 30).toInt ∧ (v 38).toInt ≤ (v13074 38).toInt ∧ (v13074 38).toInt - (v 38).toInt ≤ ((va_up v13074 41 z13082) 39).toInt - (v 39).toInt ∧ (v 41).toInt ≤ z13082.toInt ∧ (((va_up v13074 41 z13082) 40).toInt < 0 → z13082.toInt = (v 41).toInt)) ∧ keepL (v 37) (F 28) (F 29) (F13075 28) (F13075 29) ∧ (((va_up v13074 41 z13082) 40).toInt < 0 → dp (F13075 28) (F13075 29) (bI (v 37)) (v13074 38).toInt.toNat = some (d + 1)); rw [show (va_up v13074 41 z13082) 39 = v13064 39 from hf13076 39 (by decide)]; rw [show (va_up v13074 41 z13082) 40 = v13064 40 from hf13076 40 (by decide)]; exact ⟨by omega, hk, fun hf => (hd (by omega)).trans (congrArg some (by omega))⟩)⟩, (by show va_P _ _ _ t.heap; rw [ht]; exact hP9)⟩, hS.F ht⟩) hS.2.2 dX12_either_135
                · skip
                  have t13085 := cv_ne (a := r13051.toInt) rfl (b := 58) (by decide) c13052
                  refine lv_aload_n hx hb dX12_either_100 rfl (lv_at hl 1 rfl) ?_
                  refine va_callv (va_runV (As := []) (rest := []) ⟨hx, hb, hml, hown, hwd⟩ (c_X12_wrong l dC dI g c adK adV v13040 F13041 rc H.size  hg hI ) (cwV 0 hwd (gV wk_1029 wk_1026 wk_1027 wk_1028 wk_5) rfl rfl rfl (by decide +kernel) ⟨Nat.le_of_ble_eq_true rfl, Nat.le_of_ble_eq_true rfl⟩) ⟨PM.blind, va_recv hK hP (ci := 12) (q0 := 0) rfl rfl, fun U hU hW => ⟨rfl, PM.at hK hE hP hS hU hW⟩⟩ rfl rfl hl.1 rfl (lv_room (Nat.le_of_ble_eq_true rfl)) dX12_either_101 ⟨Nat.le_of_ble_eq_true rfl, Nat.le_of_ble_eq_true rfl⟩) hS (fun q _ h => (freeM hS) q h) (freeM hS) (fun u t H1 locs ht hvm hw hB hz1 hk1 hS => ?_)
                  unfold BM at hB
                  rw [ht] at hB
                  obtain ⟨v13087, F13088, rc9⟩ := u
                  obtain ⟨hI, hrc, hf13089, hG13090, hw⟩ := hw
                  dsimp only at hI hrc hB hf13089 hG13090 hw
                  have hF := frCF (by decide) hG13090 hF
                  rw [hrc] at hB
                  have hP : va_P (dC, dI) classes (wM g c v13087 F13088 rc) H1 := hB
                  have hw : 0 ≤ (v13087 40).toInt := hw
                  have hw_r13086 := hw
                  generalize H1 = H at hP hS ⊢
                  have hk : keepL (v 37) (F 28) (F 29) (F13088 28) (F13088 29) := by rw [hG13090 28 (by decide), hG13090 29 (by decide)]; exact hk
                  have hd : (v13087 40).toInt < 0 → dp (F13088 28) (F13088 29) (bI (v 37)) (v13040 38).toInt.toNat = some ((((d + 1) + 1) - 1) + 1) := fun hf => (by rw [hG13090 28 (by decide), hG13090 29 (by decide)]; exact hd (by omega))
                  have hP9 : va_P (dC, dI) classes (wM g c v13087 F13088 rc) H := hP
                  exact W.vret hx hb hr (fun t ht hW => ⟨⟨(v13087, F13088, rc), rfl, ⟨hI, rfl, (frC (by decide) hf13089 (frC (by decide) hf13042 (frC (by decide) hf13028 (frC (by decide) hf13011 (frC (by decide) hf13001 (frU (by decide) (frC (by decide) hf12789 (fun _ _ => rfl)))))))), hF, (by show ((v 39).toInt ≤ (v13087 39).toInt ∧ (v13087 39).toInt ≤ (v 30).toInt ∧ (v 38).toInt ≤ (v13087 38).toInt ∧ (v13087 38).toInt - (v 38).toInt ≤ (v13087 39).toInt - (v 39).toInt ∧ (v 41).toInt ≤ (v13087 41).toInt ∧ ((v13087 40).toInt < 0 → (v13087 41).toInt = (v 41).toInt)) ∧ keepL (v 37) (F 28) (F 29) (F13088 28) (F13088 29) ∧ ((v13087 40).toInt < 0 → dp (F13088 28) (F13088 29) (bI (v 37)) (v13087 38).toInt.toNat = some (d + 1)); rw [show v13087 39 = v13040 39 from hf13089 39 (by decide)]; rw [show v13087 38 = v13040 38 from hf13089 38 (by decide)]; rw [show v13087 41 = v13040 41 from hf13089 41 (by decide)]; exact ⟨by omega, hk, fun hf => (hd (by omega)).trans (congrArg some (by omega))⟩)⟩, (by show va_P _ _ _ t.heap; rw [ht]; exact hP9)⟩, hS.F ht⟩) hS.2.2 dX12_either_104
              · skip
                have t13091 := cv_nlt (a := (v13040 40).toInt) rfl (b := 0) (by decide) c13047
                have hP9 : va_P (dC, dI) classes (wM g c v13040 F13041 rc) H := hP
                exact W.vret hx hb hr (fun t ht hW => ⟨⟨(v13040, F13041, rc), rfl, ⟨hI, rfl, (frC (by decide) hf13042 (frC (by decide) hf13028 (frC (by decide) hf13011 (frC (by decide) hf13001 (frU (by decide) (frC (by decide) hf12789 (fun _ _ => rfl))))))), hF, (by show ((v 39).toInt ≤ (v13040 39).toInt ∧ (v13040 39).toInt ≤ (v 30).toInt ∧ (v 38).toInt ≤ (v13040 38).toInt ∧ (v13040 38).toInt - (v 38).toInt ≤ (v13040 39).toInt - (v 39).toInt ∧ (v 41).toInt ≤ (v13040 41).toInt ∧ ((v13040 40).toInt < 0 → (v13040 41).toInt = (v 41).toInt)) ∧ keepL (v 37) (F 28) (F 29) (F13041 28) (F13041 29) ∧ ((v13040 40).toInt < 0 → dp (F13041 28) (F13041 29) (bI (v 37)) (v13040 38).toInt.toNat = some (d + 1)); exact ⟨by omega, hk, fun hf => (hd (by omega)).trans (congrArg some (by omega))⟩)⟩, (by show va_P _ _ _ t.heap; rw [ht]; exact hP9)⟩, hS.F ht⟩) hS.2.2 dX12_either_90
            · skip
              have t13092 := cv_eq (a := r13025.toInt) rfl (b := 0) (by decide) c13032
              have hP9 : va_P (dC, dI) classes (wM g c v13026 F13027 rc) H := hP
              exact W.vret hx hb hr (fun t ht hW => ⟨⟨(v13026, F13027, rc), rfl, ⟨hI, rfl, (frC (by decide) hf13028 (frC (by decide) hf13011 (frC (by decide) hf13001 (frU (by decide) (frC (by decide) hf12789 (fun _ _ => rfl)))))), hF, (by show ((v 39).toInt ≤ (v13026 39).toInt ∧ (v13026 39).toInt ≤ (v 30).toInt ∧ (v 38).toInt ≤ (v13026 38).toInt ∧ (v13026 38).toInt - (v 38).toInt ≤ (v13026 39).toInt - (v 39).toInt ∧ (v 41).toInt ≤ (v13026 41).toInt ∧ ((v13026 40).toInt < 0 → (v13026 41).toInt = (v 41).toInt)) ∧ keepL (v 37) (F 28) (F 29) (F13027 28) (F13027 29) ∧ ((v13026 40).toInt < 0 → dp (F13027 28) (F13027 29) (bI (v 37)) (v13026 38).toInt.toNat = some (d + 1)); rw [show v13026 38 = v13009 38 from hf13028 38 (by decide)]; exact ⟨by omega, hk, fun hf => (hd (by omega)).trans (congrArg some (by omega))⟩)⟩, (by show va_P _ _ _ t.heap; rw [ht]; exact hP9)⟩, hS.F ht⟩) hS.2.2 dX12_either_78
          · skip
            have t13093 := cv_ne (a := r13020.toInt) rfl (b := 63) (by decide) c13021
            have hP9 : va_P (dC, dI) classes (wM g c v13009 F13010 rc) H := hP
            exact W.vret hx hb hr (fun t ht hW => ⟨⟨(v13009, F13010, rc), rfl, ⟨hI, rfl, (frC (by decide) hf13011 (frC (by decide) hf13001 (frU (by decide) (frC (by decide) hf12789 (fun _ _ => rfl))))), hF, (by show ((v 39).toInt ≤ (v13009 39).toInt ∧ (v13009 39).toInt ≤ (v 30).toInt ∧ (v 38).toInt ≤ (v13009 38).toInt ∧ (v13009 38).toInt - (v 38).toInt ≤ (v13009 39).toInt - (v 39).toInt ∧ (v 41).toInt ≤ (v13009 41).toInt ∧ ((v13009 40).toInt < 0 → (v13009 41).toInt = (v 41).toInt)) ∧ keepL (v 37) (F 28) (F 29) (F13010 28) (F13010 29) ∧ ((v13009 40).toInt < 0 → dp (F13010 28) (F13010 29) (bI (v 37)) (v13009 38).toInt.toNat = some (d + 1)); rw [show v13009 39 = v12999 39 from hf13011 39 (by decide)]; rw [show v13009 41 = v12999 41 from hf13011 41 (by decide)]; rw [show v13009 40 = v12999 40 from hf13011 40 (by decide)]; exact ⟨by omega, hk, fun hf => (hd (by omega)).trans (congrArg some (by omega))⟩)⟩, (by show va_P _ _ _ t.heap; rw [ht]; exact hP9)⟩, hS.F ht⟩) hS.2.2 dX12_either_70
      · skip
        have t13094 := cv_ne (a := r12796.toInt) rfl (b := 61) (by decide) c12987
        refine lv_iload_n hx hb dX12_either_28 rfl (lv_at hl 0 rfl) ?_
        refine lv_bipush (v := 62) hx hb dX12_either_29 (by decide) ?_
        refine lv_icmp_ne (tgt := 54) hx hb dX12_either_31 (by decide) (fun c13095 => ?_) (fun c13095 => ?_)
        · skip
          have t13096 := cv_ne (a := r12796.toInt) rfl (b := 62) (by decide) c13095
          refine lv_aload_n hx hb dX12_either_54 rfl (lv_at hl 1 rfl) ?_
          refine va_get (D := (dC, dI)) (ci := 12) (v := .int (v12787 40)) (C := RX12) (T := TX12) (N := 63) hx hb hwd inA_X12 hown hK hP 0 rfl rfl 40 (by decide) (hwd _ wk_1005) (fun _ h9 => h9) rfl dX12_either_55 ?_
          refine lv_if_ge (tgt := 70) hx hb dX12_either_58 (by decide) (fun c13097 => ?_) (fun c13097 => ?_)
          · skip
            have t13098 := cv_le (a := 0) (by decide) (b := (v12787 40).toInt) rfl c13097
            have hP9 : va_P (dC, dI) classes (wM g c v12787 F12788 rc) H := hP
            exact W.vret hx hb hr (fun t ht hW => ⟨⟨(v12787, F12788, rc), rfl, ⟨hI, rfl, (frC (by decide) hf12789 (fun _ _ => rfl)), hF, (by show ((v 39).toInt ≤ (v12787 39).toInt ∧ (v12787 39).toInt ≤ (v 30).toInt ∧ (v 38).toInt ≤ (v12787 38).toInt ∧ (v12787 38).toInt - (v 38).toInt ≤ (v12787 39).toInt - (v 39).toInt ∧ (v 41).toInt ≤ (v12787 41).toInt ∧ ((v12787 40).toInt < 0 → (v12787 41).toInt = (v 41).toInt)) ∧ keepL (v 37) (F 28) (F 29) (F12788 28) (F12788 29) ∧ ((v12787 40).toInt < 0 → dp (F12788 28) (F12788 29) (bI (v 37)) (v12787 38).toInt.toNat = some (d + 1)); exact ⟨by omega, hk, fun hf => (hd (by omega)).trans (congrArg some (by omega))⟩)⟩, (by show va_P _ _ _ t.heap; rw [ht]; exact hP9)⟩, hS.F ht⟩) hS.2.2 dX12_either_70
          · skip
            have t13099 := cv_nle (a := 0) (by decide) (b := (v12787 40).toInt) rfl c13097
            refine lv_aload_n hx hb dX12_either_61 rfl (lv_at hl 1 rfl) ?_
            have t13100 : 0 ≤ (v 30).toInt ∧ (v 30).toInt ≤ 120 := by have h9 := hI.1 30 _ _ rfl; rw [show v12787 30 = v 30 from hf12789 30 (by decide)] at h9; exact h9
            have t13101 : 0 ≤ (v12787 39).toInt ∧ (v12787 39).toInt ≤ 120 := hI.1 39 _ _ rfl
            refine va_calli (va_runV (As := []) (rest := []) ⟨hx, hb, hml, hown, hwd⟩ (c_X12_look l dC dI g c adK adV v12787 F12788 rc H.size  hg hI ) (cwV 0 hwd (gV wk_1017 wk_1014 wk_1015 wk_1016 wk_5) rfl rfl rfl (by decide +kernel) ⟨Nat.le_of_ble_eq_true rfl, Nat.le_of_ble_eq_true rfl⟩) ⟨PM.blind, va_recv hK hP (ci := 12) (q0 := 0) rfl rfl, fun U hU hW => ⟨rfl, PM.at hK hE hP hS hU hW⟩⟩ rfl rfl hl.1 rfl (lv_room (Nat.le_of_ble_eq_true rfl)) dX12_either_62 ⟨Nat.le_of_ble_eq_true rfl, Nat.le_of_ble_eq_true rfl⟩) hS (fun q _ h => (freeM hS) q h) (freeM hS) (fun r13102 u t H1 locs ht hvm hw hB hz1 hk1 hS => ?_)
            unfold BM at hB
            rw [ht] at hB
            have hP : va_P (dC, dI) classes (wM g c v12787 F12788 rc) H1 := hB
            have hw : r13102.toInt = lkM (v12787 39) (v12787 30) (F12788 24) ∧ ((v12787 39).toInt < (v12787 30).toInt ∨ r13102.toInt = -1) := hw
            rw [show v12787 30 = v 30 from hf12789 30 (by decide)] at hw
            rw [hF 24 (by decide)] at hw
            have hw_r13102 := hw
            generalize H1 = H at hP hS ⊢
            refine lv_bipush (v := 63) hx hb dX12_either_65 (by decide) ?_
            refine lv_icmp_eq (tgt := 71) hx hb dX12_either_67 (by decide) (fun c13103 => ?_) (fun c13103 => ?_)
            · skip
              have t13104 := cv_eq (a := r13102.toInt) rfl (b := 63) (by decide) c13103
              refine lv_aload_n hx hb dX12_either_71 rfl (lv_at hl 1 rfl) ?_
              have t13105 : 0 ≤ (v12787 39).toInt ∧ (v12787 39).toInt ≤ 120 := hI.1 39 _ _ rfl
              have t13106 : 0 ≤ (v12787 41).toInt ∧ (v12787 41).toInt ≤ 8 := hI.1 41 _ _ rfl
              refine va_calli (va_runV (As := []) (rest := []) ⟨hx, hb, hml, hown, hwd⟩ (c_X12_opens l dC dI g c adK adV v12787 F12788 rc H.size  hg hI (by have h9 : v12787 39 = v12787 39 := rfl; (try rw [h9]); clear h9; have h9 : v12787 30 = v 30 := hf12789 30 (by decide); (try rw [h9]); clear h9; omega)) (cwV 0 hwd (gV wk_1025 wk_1022 wk_1023 wk_1024 wk_5) rfl rfl rfl (by decide +kernel) ⟨Nat.le_of_ble_eq_true rfl, Nat.le_of_ble_eq_true rfl⟩) ⟨PM.blind, va_recv hK hP (ci := 12) (q0 := 0) rfl rfl, fun U hU hW => ⟨rfl, PM.at hK hE hP hS hU hW⟩⟩ rfl rfl hl.1 rfl (lv_room (Nat.le_of_ble_eq_true rfl)) dX12_either_72 ⟨Nat.le_of_ble_eq_true rfl, Nat.le_of_ble_eq_true rfl⟩) hS (fun q _ h => (freeM hS) q h) (freeM hS) (fun r13107 u t H1 locs ht hvm hw hB hz1 hk1 hS => ?_)
              unfold BM at hB
              rw [ht] at hB
              obtain ⟨v13108, F13109, rc9⟩ := u
              obtain ⟨hI, hrc, hf13110, hG13111, hw⟩ := hw
              dsimp only at hI hrc hB hf13110 hG13111 hw
              have hF := frCF (by decide) hG13111 hF
              rw [hrc] at hB
              have hP : va_P (dC, dI) classes (wM g c v13108 F13109 rc) H1 := hB
              have hw : (r13107.toInt = 1 ∧ (v12787 41).toInt < 8 ∧ (v13108 41).toInt = (v12787 41).toInt + 1 ∧ (v13108 39).toInt = (v12787 39).toInt + 1 ∧ (v13108 40).toInt = (v12787 40).toInt) ∨ (r13107.toInt = 0 ∧ (v12787 41).toInt = 8 ∧ 0 ≤ (v13108 40).toInt ∧ (v13108 41).toInt = (v12787 41).toInt ∧ (v13108 39).toInt = (v12787 39).toInt) := hw
              have hw_r13107 := hw
              have t13112 : 0 ≤ (v13108 39).toInt ∧ (v13108 39).toInt ≤ 120 := hI.1 39 _ _ rfl
              have t13113 : 0 ≤ (v13108 41).toInt ∧ (v13108 41).toInt ≤ 8 := hI.1 41 _ _ rfl
              generalize H1 = H at hP hS ⊢
              have hk : keepL (v 37) (F 28) (F 29) (F13109 28) (F13109 29) := by rw [hG13111 28 (by decide), hG13111 29 (by decide)]; exact hk
              have hd : (v13108 40).toInt < 0 → dp (F13109 28) (F13109 29) (bI (v 37)) (v12787 38).toInt.toNat = some (d + 1) := fun hf => (by rw [hG13111 28 (by decide), hG13111 29 (by decide)]; exact hd (by omega))
              refine lv_if_ne (tgt := 79) hx hb dX12_either_75 (by decide) (fun c13114 => ?_) (fun c13114 => ?_)
              · skip
                have t13115 := cv_ne (a := r13107.toInt) rfl (b := 0) (by decide) c13114
                refine lv_aload_n hx hb dX12_either_79 rfl (lv_at hl 1 rfl) ?_
                have t13116 : 0 ≤ (v 30).toInt ∧ (v 30).toInt ≤ 120 := by have h9 := hI.1 30 _ _ rfl; rw [show v13108 30 = v 30 from (hf13110 30 (by decide)).trans (hf12789 30 (by decide))] at h9; exact h9
                have t13117 : 0 ≤ (v 37).toInt ∧ (v 37).toInt ≤ 9 := by have h9 := hI.1 37 _ _ rfl; rw [show v13108 37 = v 37 from (hf13110 37 (by decide)).trans (hf12789 37 (by decide))] at h9; exact h9
                have t13118 : 0 ≤ (v12787 38).toInt ∧ (v12787 38).toInt ≤ 120 := by have h9 := hI.1 38 _ _ rfl; rw [show v13108 38 = v12787 38 from hf13110 38 (by decide)] at h9; exact h9
                have t13119 : 0 ≤ (v13108 39).toInt ∧ (v13108 39).toInt ≤ 120 := hI.1 39 _ _ rfl
                have t13120 : 0 ≤ (v13108 41).toInt ∧ (v13108 41).toInt ≤ 8 := hI.1 41 _ _ rfl
                refine va_callv (va_runV (As := []) (rest := []) ⟨hx, hb, hml, hown, hwd⟩ (c_X12_either_8 l dC dI g c adK adV v13108 F13109 rc H.size  (d + 1) hg hI (by have h9 : v13108 38 = v12787 38 := hf13110 38 (by decide); (try rw [h9]); clear h9; have h9 : v13108 39 = v13108 39 := rfl; (try rw [h9]); clear h9; have h9 : v13108 30 = v 30 := (hf13110 30 (by decide)).trans (hf12789 30 (by decide)); (try rw [h9]); clear h9; have h9 : v13108 40 = v13108 40 := rfl; (try rw [h9]); clear h9; have h9 : v13108 41 = v13108 41 := rfl; (try rw [h9]); clear h9; omega) (by have h9 : v13108 37 = (v 37) := (hf13110 37 (by decide)).trans (hf12789 37 (by decide)); have h8 : v13108 38 = (v12787 38) := hf13110 38 (by decide); (try rw [h9]); (try rw [h8]); exact hd (by omega))) (cwV 0 hwd (gV wk_1010 wk_1007 wk_1008 wk_1009 wk_5) rfl rfl rfl (by decide +kernel) ⟨Nat.le_of_ble_eq_true rfl, Nat.le_of_ble_eq_true rfl⟩) ⟨PM.blind, va_recv hK hP (ci := 12) (q0 := 0) rfl rfl, fun U hU hW => ⟨rfl, PM.at hK hE hP hS hU hW⟩⟩ rfl rfl hl.1 rfl (lv_room (Nat.le_of_ble_eq_true rfl)) dX12_either_80 ⟨Nat.le_of_ble_eq_true rfl, Nat.le_of_ble_eq_true rfl⟩) hS (fun q _ h => (freeM hS) q h) (freeM hS) (fun u t H1 locs ht hvm hw hB hz1 hk1 hS => ?_)
                unfold BM at hB
                rw [ht] at hB
                obtain ⟨v13122, F13123, rc9⟩ := u
                obtain ⟨hI, hrc, hf13124, hG13125, hw⟩ := hw
                dsimp only at hI hrc hB hf13124 hG13125 hw
                have hF := frCF (by decide) hG13125 hF
                rw [hrc] at hB
                have hP : va_P (dC, dI) classes (wM g c v13122 F13123 rc) H1 := hB
                have hw : ((v13108 39).toInt ≤ (v13122 39).toInt ∧ (v13122 39).toInt ≤ (v13108 30).toInt ∧ (v13108 38).toInt ≤ (v13122 38).toInt ∧ (v13122 38).toInt - (v13108 38).toInt ≤ (v13122 39).toInt - (v13108 39).toInt ∧ (v13108 41).toInt ≤ (v13122 41).toInt ∧ ((v13122 40).toInt < 0 → (v13122 41).toInt = (v13108 41).toInt)) ∧ keepL (v13108 37) (F13109 28) (F13109 29) (F13123 28) (F13123 29) ∧ ((v13122 40).toInt < 0 → dp (F13123 28) (F13123 29) (bI (v13108 37)) (v13122 38).toInt.toNat = some ((d + 1) + 1)) := hw
                rw [show v13108 30 = v 30 from (hf13110 30 (by decide)).trans (hf12789 30 (by decide))] at hw
                rw [show v13108 38 = v12787 38 from hf13110 38 (by decide)] at hw
                rw [show v13108 37 = v 37 from (hf13110 37 (by decide)).trans (hf12789 37 (by decide))] at hw
                have hw_r13121 := hw
                have t13126 : 0 ≤ (v13122 38).toInt ∧ (v13122 38).toInt ≤ 120 := hI.1 38 _ _ rfl
                have t13127 : 0 ≤ (v13122 39).toInt ∧ (v13122 39).toInt ≤ 120 := hI.1 39 _ _ rfl
                have t13128 : 0 ≤ (v13122 41).toInt ∧ (v13122 41).toInt ≤ 8 := hI.1 41 _ _ rfl
                generalize H1 = H at hP hS ⊢
                have hk := hk.tr hw_r13121.2.1
                have hd := hw_r13121.2.2
                refine lv_aload_n hx hb dX12_either_83 rfl (lv_at hl 1 rfl) ?_
                refine va_get (D := (dC, dI)) (ci := 12) (v := .int (v13122 40)) (C := RX12) (T := TX12) (N := 63) hx hb hwd inA_X12 hown hK hP 0 rfl rfl 40 (by decide) (hwd _ wk_1005) (fun _ h9 => h9) rfl dX12_either_84 ?_
                refine lv_if_lt (tgt := 91) hx hb dX12_either_87 (by decide) (fun c13129 => ?_) (fun c13129 => ?_)
                · skip
                  have t13130 := cv_lt (a := (v13122 40).toInt) rfl (b := 0) (by decide) c13129
                  refine lv_aload_n hx hb dX12_either_91 rfl (lv_at hl 1 rfl) ?_
                  have t13131 : 0 ≤ (v 30).toInt ∧ (v 30).toInt ≤ 120 := by have h9 := hI.1 30 _ _ rfl; rw [show v13122 30 = v 30 from (hf13124 30 (by decide)).trans ((hf13110 30 (by decide)).trans (hf12789 30 (by decide)))] at h9; exact h9
                  have t13132 : 0 ≤ (v13122 39).toInt ∧ (v13122 39).toInt ≤ 120 := hI.1 39 _ _ rfl
                  refine va_calli (va_runV (As := []) (rest := []) ⟨hx, hb, hml, hown, hwd⟩ (c_X12_look l dC dI g c adK adV v13122 F13123 rc H.size  hg hI ) (cwV 0 hwd (gV wk_1017 wk_1014 wk_1015 wk_1016 wk_5) rfl rfl rfl (by decide +kernel) ⟨Nat.le_of_ble_eq_true rfl, Nat.le_of_ble_eq_true rfl⟩) ⟨PM.blind, va_recv hK hP (ci := 12) (q0 := 0) rfl rfl, fun U hU hW => ⟨rfl, PM.at hK hE hP hS hU hW⟩⟩ rfl rfl hl.1 rfl (lv_room (Nat.le_of_ble_eq_true rfl)) dX12_either_92 ⟨Nat.le_of_ble_eq_true rfl, Nat.le_of_ble_eq_true rfl⟩) hS (fun q _ h => (freeM hS) q h) (freeM hS) (fun r13133 u t H1 locs ht hvm hw hB hz1 hk1 hS => ?_)
                  unfold BM at hB
                  rw [ht] at hB
                  have hP : va_P (dC, dI) classes (wM g c v13122 F13123 rc) H1 := hB
                  have hw : r13133.toInt = lkM (v13122 39) (v13122 30) (F13123 24) ∧ ((v13122 39).toInt < (v13122 30).toInt ∨ r13133.toInt = -1) := hw
                  rw [show v13122 30 = v 30 from (hf13124 30 (by decide)).trans ((hf13110 30 (by decide)).trans (hf12789 30 (by decide)))] at hw
                  rw [hF 24 (by decide)] at hw
                  have hw_r13133 := hw
                  generalize H1 = H at hP hS ⊢
                  refine lv_bipush (v := 58) hx hb dX12_either_95 (by decide) ?_
                  refine lv_icmp_eq (tgt := 105) hx hb dX12_either_97 (by decide) (fun c13134 => ?_) (fun c13134 => ?_)
                  · skip
                    have t13135 := cv_eq (a := r13133.toInt) rfl (b := 58) (by decide) c13134
                    refine lv_aload_n hx hb dX12_either_105 rfl (lv_at hl 1 rfl) ?_
                    refine lv_dup hx hb dX12_either_106 rfl ?_
                    refine va_get (D := (dC, dI)) (ci := 12) (v := .int (v13122 39)) (C := RX12) (T := TX12) (N := 63) hx hb hwd inA_X12 hown hK hP 0 rfl rfl 39 (by decide) (hwd _ wk_1004) (fun _ h9 => h9) rfl dX12_either_107 ?_
                    have t13136 : 0 ≤ (v13122 39).toInt ∧ (v13122 39).toInt ≤ 120 := hI.1 39 _ _ rfl
                    refine lv_iconst (v := 1) hx hb dX12_either_110 (by decide) ?_
                    refine lv_iadd hx hb dX12_either_111 ?_
                    refine lv_topi (fun z13137 e13138 => ?_)
                    try (have t13139 := tadd e13138 (a := (v13122 39).toInt) rfl (b := 1) (by decide) (by omega))
                    refine va_put (D := (dC, dI)) (ci := 12) (v := .int z13137) (ty := .int) (C := RX12) (T := TX12) (N := 63) (fs := fsM_0 g v13122 rc) hx hb hwd inA_X12 tyX12 tyX12_ok nmX12 hown hK hP (DM hg) hS 0 rfl rfl 39 (by decide) (hwd _ wk_1004) (fun _ h9 => h9) rfl (by decide +kernel) rfl rfl (Nat.le_of_ble_eq_true rfl) dX12_either_112 (fun H locs hP _ hS => ?_)
                    have hP := va_P_eq (pM_39 g c _ _ _ _) hP
                    have hI := IM.put hI 39 z13137 rfl (by omega)
                    refine lv_aload_n hx hb dX12_either_115 rfl (lv_at hl 1 rfl) ?_
                    have t13140 : 0 ≤ (v 30).toInt ∧ (v 30).toInt ≤ 120 := by have h9 := hI.1 30 _ _ rfl; rw [show (va_up v13122 39 z13137) 30 = v 30 from (hf13124 30 (by decide)).trans ((hf13110 30 (by decide)).trans (hf12789 30 (by decide)))] at h9; exact h9
                    have t13141 : 0 ≤ (v 37).toInt ∧ (v 37).toInt ≤ 9 := by have h9 := hI.1 37 _ _ rfl; rw [show (va_up v13122 39 z13137) 37 = v 37 from (hf13124 37 (by decide)).trans ((hf13110 37 (by decide)).trans (hf12789 37 (by decide)))] at h9; exact h9
                    have t13142 : 0 ≤ (v13122 38).toInt ∧ (v13122 38).toInt ≤ 120 := hI.1 38 _ _ rfl
                    have t13143 : 0 ≤ z13137.toInt ∧ z13137.toInt ≤ 120 := hI.1 39 _ _ rfl
                    have t13144 : 0 ≤ (v13122 41).toInt ∧ (v13122 41).toInt ≤ 8 := hI.1 41 _ _ rfl
                    refine va_callv (va_runV (As := []) (rest := []) ⟨hx, hb, hml, hown, hwd⟩ (c_X12_either_8 l dC dI g c adK adV (va_up v13122 39 z13137) F13123 rc H.size  ((d + 1) + 1) hg hI (by have h9 : (va_up v13122 39 z13137) 38 = v13122 38 := rfl; (try rw [h9]); clear h9; have h9 : (va_up v13122 39 z13137) 39 = z13137 := rfl; (try rw [h9]); clear h9; have h9 : (va_up v13122 39 z13137) 30 = v 30 := (hf13124 30 (by decide)).trans ((hf13110 30 (by decide)).trans (hf12789 30 (by decide))); (try rw [h9]); clear h9; have h9 : (va_up v13122 39 z13137) 40 = v13122 40 := rfl; (try rw [h9]); clear h9; have h9 : (va_up v13122 39 z13137) 41 = v13122 41 := rfl; (try rw [h9]); clear h9; omega) (by have h9 : (va_up v13122 39 z13137) 37 = (v 37) := (hf13124 37 (by decide)).trans ((hf13110 37 (by decide)).trans (hf12789 37 (by decide))); have h8 : (va_up v13122 39 z13137) 38 = (v13122 38) := rfl; (try rw [h9]); (try rw [h8]); exact hd (by omega))) (cwV 0 hwd (gV wk_1010 wk_1007 wk_1008 wk_1009 wk_5) rfl rfl rfl (by decide +kernel) ⟨Nat.le_of_ble_eq_true rfl, Nat.le_of_ble_eq_true rfl⟩) ⟨PM.blind, va_recv hK hP (ci := 12) (q0 := 0) rfl rfl, fun U hU hW => ⟨rfl, PM.at hK hE hP hS hU hW⟩⟩ rfl rfl hl.1 rfl (lv_room (Nat.le_of_ble_eq_true rfl)) dX12_either_116 ⟨Nat.le_of_ble_eq_true rfl, Nat.le_of_ble_eq_true rfl⟩) hS (fun q _ h => (freeM hS) q h) (freeM hS) (fun u t H1 locs ht hvm hw hB hz1 hk1 hS => ?_)
                    unfold BM at hB
                    rw [ht] at hB
                    obtain ⟨v13146, F13147, rc9⟩ := u
                    obtain ⟨hI, hrc, hf13148, hG13149, hw⟩ := hw
                    dsimp only at hI hrc hB hf13148 hG13149 hw
                    have hF := frCF (by decide) hG13149 hF
                    rw [hrc] at hB
                    have hP : va_P (dC, dI) classes (wM g c v13146 F13147 rc) H1 := hB
                    have hw : (z13137.toInt ≤ (v13146 39).toInt ∧ (v13146 39).toInt ≤ ((va_up v13122 39 z13137) 30).toInt ∧ (v13122 38).toInt ≤ (v13146 38).toInt ∧ (v13146 38).toInt - (v13122 38).toInt ≤ (v13146 39).toInt - z13137.toInt ∧ (v13122 41).toInt ≤ (v13146 41).toInt ∧ ((v13146 40).toInt < 0 → (v13146 41).toInt = (v13122 41).toInt)) ∧ keepL ((va_up v13122 39 z13137) 37) (F13123 28) (F13123 29) (F13147 28) (F13147 29) ∧ ((v13146 40).toInt < 0 → dp (F13147 28) (F13147 29) (bI ((va_up v13122 39 z13137) 37)) (v13146 38).toInt.toNat = some (((d + 1) + 1) + 1)) := hw
                    rw [show (va_up v13122 39 z13137) 30 = v 30 from (hf13124 30 (by decide)).trans ((hf13110 30 (by decide)).trans (hf12789 30 (by decide)))] at hw
                    rw [show (va_up v13122 39 z13137) 37 = v 37 from (hf13124 37 (by decide)).trans ((hf13110 37 (by decide)).trans (hf12789 37 (by decide)))] at hw
                    have hw_r13145 := hw
                    have t13150 : 0 ≤ (v13146 38).toInt ∧ (v13146 38).toInt ≤ 120 := hI.1 38 _ _ rfl
                    have t13151 : 0 ≤ (v13146 39).toInt ∧ (v13146 39).toInt ≤ 120 := hI.1 39 _ _ rfl
                    have t13152 : 0 ≤ (v13146 41).toInt ∧ (v13146 41).toInt ≤ 8 := hI.1 41 _ _ rfl
                    generalize H1 = H at hP hS ⊢
                    have hk := hk.tr hw_r13145.2.1
                    have hd := hw_r13145.2.2
                    refine lv_aload_n hx hb dX12_either_119 rfl (lv_at hl 1 rfl) ?_
                    refine lv_iconst (v := 4) hx hb dX12_either_120 (by decide) ?_
                    refine lv_iconst (v := 0) hx hb dX12_either_121 (by decide) ?_
                    have t13153 : 0 ≤ (v 37).toInt ∧ (v 37).toInt ≤ 9 := by have h9 := hI.1 37 _ _ rfl; rw [show v13146 37 = v 37 from (hf13148 37 (by decide)).trans ((hf13124 37 (by decide)).trans ((hf13110 37 (by decide)).trans (hf12789 37 (by decide))))] at h9; exact h9
                    have t13154 : 0 ≤ (v13146 38).toInt ∧ (v13146 38).toInt ≤ 120 := hI.1 38 _ _ rfl
                    refine va_callv (va_runV (As := [.int 4, .int 0]) (rest := []) ⟨hx, hb, hml, hown, hwd⟩ (c_X12_lay l dC dI g c adK adV v13146 F13147 rc H.size 4 0 hg hI (by have h9 : v13146 38 = v13146 38 := rfl; rw [h9]; omega)) (cwV 2 hwd (gV wk_1021 wk_1018 wk_1019 wk_1020 wk_5) rfl rfl rfl (by decide +kernel) ⟨Nat.le_of_ble_eq_true rfl, Nat.le_of_ble_eq_true rfl⟩) ⟨PM.blind, va_recv hK hP (ci := 12) (q0 := 0) rfl rfl, fun U hU hW => ⟨rfl, PM.at hK hE hP hS hU hW⟩⟩ rfl rfl hl.1 rfl (lv_room (Nat.le_of_ble_eq_true rfl)) dX12_either_122 ⟨Nat.le_of_ble_eq_true rfl, Nat.le_of_ble_eq_true rfl⟩) hS (fun q _ h => (freeM hS) q h) (freeM hS) (fun u t H1 locs ht hvm hw hB hz1 hk1 hS => ?_)
                    unfold BM at hB
                    rw [ht] at hB
                    obtain ⟨v13156, F13157, rc9⟩ := u
                    obtain ⟨hI, hrc, hf13158, hG13159, hw⟩ := hw
                    dsimp only at hI hrc hB hf13158 hG13159 hw
                    have hF := frCF (by decide) hG13159 hF
                    rw [hrc] at hB
                    have hP : va_P (dC, dI) classes (wM g c v13156 F13157 rc) H1 := hB
                    have hw : (v13156 38).toInt = (v13146 38).toInt + 1 ∧ keepL (v13146 37) (F13147 28) (F13147 29) (F13157 28) (F13157 29) ∧ dp (F13157 28) (F13157 29) (bI (v13146 37)) ((v13146 38).toInt.toNat + 1) = dpS (dp (F13147 28) (F13147 29) (bI (v13146 37)) (v13146 38).toInt.toNat) (4 : Int32) (0 : Int32) := hw
                    rw [show v13146 37 = v 37 from (hf13148 37 (by decide)).trans ((hf13124 37 (by decide)).trans ((hf13110 37 (by decide)).trans (hf12789 37 (by decide))))] at hw
                    have hw_r13155 := hw
                    have t13160 : 0 ≤ (v13156 38).toInt ∧ (v13156 38).toInt ≤ 120 := hI.1 38 _ _ rfl
                    have k13161 : (4 : Int32).toInt = 4 := by decide
                    have k13162 : (0 : Int32).toInt = 0 := by decide
                    generalize H1 = H at hP hS ⊢
                    have hk := hk.tr hw_r13155.2.1
                    have hd : (v13146 40).toInt < 0 → dp (F13157 28) (F13157 29) (bI (v 37)) (v13156 38).toInt.toNat = some ((((d + 1) + 1) + 1) - 2) := fun hf => (by have e9 : (v13156 38).toInt.toNat = (v13146 38).toInt.toNat + 1 := (by omega); rw [e9, hw_r13155.2.2, hd hf]; exact dpS_4 (by decide) (by omega))
                    refine lv_aload_n hx hb dX12_either_125 rfl (lv_at hl 1 rfl) ?_
                    refine lv_dup hx hb dX12_either_126 rfl ?_
                    refine va_get (D := (dC, dI)) (ci := 12) (v := .int (v13156 41)) (C := RX12) (T := TX12) (N := 63) hx hb hwd inA_X12 hown hK hP 0 rfl rfl 41 (by decide) (hwd _ wk_1006) (fun _ h9 => h9) rfl dX12_either_127 ?_
                    refine my_top (v := v13146 41) (hf13158 41 (by decide)) ?_
                    have t13163 : 0 ≤ (v13146 41).toInt ∧ (v13146 41).toInt ≤ 8 := by have h9 := hI.1 41 _ _ rfl; rw [show v13156 41 = v13146 41 from hf13158 41 (by decide)] at h9; exact h9
                    refine lv_iconst (v := 1) hx hb dX12_either_130 (by decide) ?_
                    refine lv_isub hx hb dX12_either_131 ?_
                    refine lv_topi (fun z13164 e13165 => ?_)
                    try (have t13166 := tsub e13165 (a := (v13146 41).toInt) rfl (b := 1) (by decide) (by omega))
                    refine va_put (D := (dC, dI)) (ci := 12) (v := .int z13164) (ty := .int) (C := RX12) (T := TX12) (N := 63) (fs := fsM_0 g v13156 rc) hx hb hwd inA_X12 tyX12 tyX12_ok nmX12 hown hK hP (DM hg) hS 0 rfl rfl 41 (by decide) (hwd _ wk_1006) (fun _ h9 => h9) rfl (by decide +kernel) rfl rfl (Nat.le_of_ble_eq_true rfl) dX12_either_132 (fun H locs hP _ hS => ?_)
                    have hP := va_P_eq (pM_41 g c _ _ _ _) hP
                    have hI := IM.put hI 41 z13164 rfl (by omega)
                    have hP9 : va_P (dC, dI) classes (wM g c (va_up v13156 41 z13164) F13157 rc) H := hP
                    exact W.vret hx hb hr (fun t ht hW => ⟨⟨((va_up v13156 41 z13164), F13157, rc), rfl, ⟨hI, rfl, (frU (by decide) (frC (by decide) hf13158 (frC (by decide) hf13148 (frU (by decide) (frC (by decide) hf13124 (frC (by decide) hf13110 (frC (by decide) hf12789 (fun _ _ => rfl)))))))), hF, (by show ((v 39).toInt ≤ ((va_up v13156 41 z13164) 39).toInt ∧ ((va_up v13156 41 z13164) 39).toInt ≤ (v 30).toInt ∧ (v 38).toInt ≤ (v13156 38).toInt ∧ (v13156 38).toInt - (v 38).toInt ≤ ((va_up v13156 41 z13164) 39).toInt - (v 39).toInt ∧ (v 41).toInt ≤ z13164.toInt ∧ (((va_up v13156 41 z13164) 40).toInt < 0 → z13164.toInt = (v 41).toInt)) ∧ keepL (v 37) (F 28) (F 29) (F13157 28) (F13157 29) ∧ (((va_up v13156 41 z13164) 40).toInt < 0 → dp (F13157 28) (F13157 29) (bI (v 37)) (v13156 38).toInt.toNat = some (d + 1)); rw [show (va_up v13156 41 z13164) 39 = v13146 39 from hf13158 39 (by decide)]; rw [show (va_up v13156 41 z13164) 40 = v13146 40 from hf13158 40 (by decide)]; exact ⟨by omega, hk, fun hf => (hd (by omega)).trans (congrArg some (by omega))⟩)⟩, (by show va_P _ _ _ t.heap; rw [ht]; exact hP9)⟩, hS.F ht⟩) hS.2.2 dX12_either_135
                  · skip
                    have t13167 := cv_ne (a := r13133.toInt) rfl (b := 58) (by decide) c13134
                    refine lv_aload_n hx hb dX12_either_100 rfl (lv_at hl 1 rfl) ?_
                    refine va_callv (va_runV (As := []) (rest := []) ⟨hx, hb, hml, hown, hwd⟩ (c_X12_wrong l dC dI g c adK adV v13122 F13123 rc H.size  hg hI ) (cwV 0 hwd (gV wk_1029 wk_1026 wk_1027 wk_1028 wk_5) rfl rfl rfl (by decide +kernel) ⟨Nat.le_of_ble_eq_true rfl, Nat.le_of_ble_eq_true rfl⟩) ⟨PM.blind, va_recv hK hP (ci := 12) (q0 := 0) rfl rfl, fun U hU hW => ⟨rfl, PM.at hK hE hP hS hU hW⟩⟩ rfl rfl hl.1 rfl (lv_room (Nat.le_of_ble_eq_true rfl)) dX12_either_101 ⟨Nat.le_of_ble_eq_true rfl, Nat.le_of_ble_eq_true rfl⟩) hS (fun q _ h => (freeM hS) q h) (freeM hS) (fun u t H1 locs ht hvm hw hB hz1 hk1 hS => ?_)
                    unfold BM at hB
                    rw [ht] at hB
                    obtain ⟨v13169, F13170, rc9⟩ := u
                    obtain ⟨hI, hrc, hf13171, hG13172, hw⟩ := hw
                    dsimp only at hI hrc hB hf13171 hG13172 hw
                    have hF := frCF (by decide) hG13172 hF
                    rw [hrc] at hB
                    have hP : va_P (dC, dI) classes (wM g c v13169 F13170 rc) H1 := hB
                    have hw : 0 ≤ (v13169 40).toInt := hw
                    have hw_r13168 := hw
                    generalize H1 = H at hP hS ⊢
                    have hk : keepL (v 37) (F 28) (F 29) (F13170 28) (F13170 29) := by rw [hG13172 28 (by decide), hG13172 29 (by decide)]; exact hk
                    have hd : (v13169 40).toInt < 0 → dp (F13170 28) (F13170 29) (bI (v 37)) (v13122 38).toInt.toNat = some ((d + 1) + 1) := fun hf => (by rw [hG13172 28 (by decide), hG13172 29 (by decide)]; exact hd (by omega))
                    have hP9 : va_P (dC, dI) classes (wM g c v13169 F13170 rc) H := hP
                    exact W.vret hx hb hr (fun t ht hW => ⟨⟨(v13169, F13170, rc), rfl, ⟨hI, rfl, (frC (by decide) hf13171 (frC (by decide) hf13124 (frC (by decide) hf13110 (frC (by decide) hf12789 (fun _ _ => rfl))))), hF, (by show ((v 39).toInt ≤ (v13169 39).toInt ∧ (v13169 39).toInt ≤ (v 30).toInt ∧ (v 38).toInt ≤ (v13169 38).toInt ∧ (v13169 38).toInt - (v 38).toInt ≤ (v13169 39).toInt - (v 39).toInt ∧ (v 41).toInt ≤ (v13169 41).toInt ∧ ((v13169 40).toInt < 0 → (v13169 41).toInt = (v 41).toInt)) ∧ keepL (v 37) (F 28) (F 29) (F13170 28) (F13170 29) ∧ ((v13169 40).toInt < 0 → dp (F13170 28) (F13170 29) (bI (v 37)) (v13169 38).toInt.toNat = some (d + 1)); rw [show v13169 39 = v13122 39 from hf13171 39 (by decide)]; rw [show v13169 38 = v13122 38 from hf13171 38 (by decide)]; rw [show v13169 41 = v13122 41 from hf13171 41 (by decide)]; exact ⟨by omega, hk, fun hf => (hd (by omega)).trans (congrArg some (by omega))⟩)⟩, (by show va_P _ _ _ t.heap; rw [ht]; exact hP9)⟩, hS.F ht⟩) hS.2.2 dX12_either_104
                · skip
                  have t13173 := cv_nlt (a := (v13122 40).toInt) rfl (b := 0) (by decide) c13129
                  have hP9 : va_P (dC, dI) classes (wM g c v13122 F13123 rc) H := hP
                  exact W.vret hx hb hr (fun t ht hW => ⟨⟨(v13122, F13123, rc), rfl, ⟨hI, rfl, (frC (by decide) hf13124 (frC (by decide) hf13110 (frC (by decide) hf12789 (fun _ _ => rfl)))), hF, (by show ((v 39).toInt ≤ (v13122 39).toInt ∧ (v13122 39).toInt ≤ (v 30).toInt ∧ (v 38).toInt ≤ (v13122 38).toInt ∧ (v13122 38).toInt - (v 38).toInt ≤ (v13122 39).toInt - (v 39).toInt ∧ (v 41).toInt ≤ (v13122 41).toInt ∧ ((v13122 40).toInt < 0 → (v13122 41).toInt = (v 41).toInt)) ∧ keepL (v 37) (F 28) (F 29) (F13123 28) (F13123 29) ∧ ((v13122 40).toInt < 0 → dp (F13123 28) (F13123 29) (bI (v 37)) (v13122 38).toInt.toNat = some (d + 1)); exact ⟨by omega, hk, fun hf => (hd (by omega)).trans (congrArg some (by omega))⟩)⟩, (by show va_P _ _ _ t.heap; rw [ht]; exact hP9)⟩, hS.F ht⟩) hS.2.2 dX12_either_90
              · skip
                have t13174 := cv_eq (a := r13107.toInt) rfl (b := 0) (by decide) c13114
                have hP9 : va_P (dC, dI) classes (wM g c v13108 F13109 rc) H := hP
                exact W.vret hx hb hr (fun t ht hW => ⟨⟨(v13108, F13109, rc), rfl, ⟨hI, rfl, (frC (by decide) hf13110 (frC (by decide) hf12789 (fun _ _ => rfl))), hF, (by show ((v 39).toInt ≤ (v13108 39).toInt ∧ (v13108 39).toInt ≤ (v 30).toInt ∧ (v 38).toInt ≤ (v13108 38).toInt ∧ (v13108 38).toInt - (v 38).toInt ≤ (v13108 39).toInt - (v 39).toInt ∧ (v 41).toInt ≤ (v13108 41).toInt ∧ ((v13108 40).toInt < 0 → (v13108 41).toInt = (v 41).toInt)) ∧ keepL (v 37) (F 28) (F 29) (F13109 28) (F13109 29) ∧ ((v13108 40).toInt < 0 → dp (F13109 28) (F13109 29) (bI (v 37)) (v13108 38).toInt.toNat = some (d + 1)); rw [show v13108 38 = v12787 38 from hf13110 38 (by decide)]; exact ⟨by omega, hk, fun hf => (hd (by omega)).trans (congrArg some (by omega))⟩)⟩, (by show va_P _ _ _ t.heap; rw [ht]; exact hP9)⟩, hS.F ht⟩) hS.2.2 dX12_either_78
            · skip
              have t13175 := cv_ne (a := r13102.toInt) rfl (b := 63) (by decide) c13103
              have hP9 : va_P (dC, dI) classes (wM g c v12787 F12788 rc) H := hP
              exact W.vret hx hb hr (fun t ht hW => ⟨⟨(v12787, F12788, rc), rfl, ⟨hI, rfl, (frC (by decide) hf12789 (fun _ _ => rfl)), hF, (by show ((v 39).toInt ≤ (v12787 39).toInt ∧ (v12787 39).toInt ≤ (v 30).toInt ∧ (v 38).toInt ≤ (v12787 38).toInt ∧ (v12787 38).toInt - (v 38).toInt ≤ (v12787 39).toInt - (v 39).toInt ∧ (v 41).toInt ≤ (v12787 41).toInt ∧ ((v12787 40).toInt < 0 → (v12787 41).toInt = (v 41).toInt)) ∧ keepL (v 37) (F 28) (F 29) (F12788 28) (F12788 29) ∧ ((v12787 40).toInt < 0 → dp (F12788 28) (F12788 29) (bI (v 37)) (v12787 38).toInt.toNat = some (d + 1)); exact ⟨by omega, hk, fun hf => (hd (by omega)).trans (congrArg some (by omega))⟩)⟩, (by show va_P _ _ _ t.heap; rw [ht]; exact hP9)⟩, hS.F ht⟩) hS.2.2 dX12_either_70
        · skip
          have t13176 := cv_eq (a := r12796.toInt) rfl (b := 62) (by decide) c13095
          refine lv_aload_n hx hb dX12_either_34 rfl (lv_at hl 1 rfl) ?_
          refine lv_dup hx hb dX12_either_35 rfl ?_
          refine va_get (D := (dC, dI)) (ci := 12) (v := .int (v12787 39)) (C := RX12) (T := TX12) (N := 63) hx hb hwd inA_X12 hown hK hP 0 rfl rfl 39 (by decide) (hwd _ wk_1004) (fun _ h9 => h9) rfl dX12_either_36 ?_
          have t13177 : 0 ≤ (v12787 39).toInt ∧ (v12787 39).toInt ≤ 120 := hI.1 39 _ _ rfl
          refine lv_iconst (v := 1) hx hb dX12_either_39 (by decide) ?_
          refine lv_iadd hx hb dX12_either_40 ?_
          refine lv_topi (fun z13178 e13179 => ?_)
          try (have t13180 := tadd e13179 (a := (v12787 39).toInt) rfl (b := 1) (by decide) (by omega))
          refine va_put (D := (dC, dI)) (ci := 12) (v := .int z13178) (ty := .int) (C := RX12) (T := TX12) (N := 63) (fs := fsM_0 g v12787 rc) hx hb hwd inA_X12 tyX12 tyX12_ok nmX12 hown hK hP (DM hg) hS 0 rfl rfl 39 (by decide) (hwd _ wk_1004) (fun _ h9 => h9) rfl (by decide +kernel) rfl rfl (Nat.le_of_ble_eq_true rfl) dX12_either_41 (fun H locs hP _ hS => ?_)
          have hP := va_P_eq (pM_39 g c _ _ _ _) hP
          have hI := IM.put hI 39 z13178 rfl (by omega)
          refine lv_aload_n hx hb dX12_either_44 rfl (lv_at hl 1 rfl) ?_
          have t13181 : 0 ≤ (v 30).toInt ∧ (v 30).toInt ≤ 120 := by have h9 := hI.1 30 _ _ rfl; rw [show (va_up v12787 39 z13178) 30 = v 30 from hf12789 30 (by decide)] at h9; exact h9
          have t13182 : 0 ≤ (v 37).toInt ∧ (v 37).toInt ≤ 9 := by have h9 := hI.1 37 _ _ rfl; rw [show (va_up v12787 39 z13178) 37 = v 37 from hf12789 37 (by decide)] at h9; exact h9
          have t13183 : 0 ≤ (v12787 38).toInt ∧ (v12787 38).toInt ≤ 120 := hI.1 38 _ _ rfl
          have t13184 : 0 ≤ z13178.toInt ∧ z13178.toInt ≤ 120 := hI.1 39 _ _ rfl
          have t13185 : 0 ≤ (v12787 41).toInt ∧ (v12787 41).toInt ≤ 8 := hI.1 41 _ _ rfl
          refine va_callv (va_runV (As := []) (rest := []) ⟨hx, hb, hml, hown, hwd⟩ (c_X12_sum_7 l dC dI g c adK adV (va_up v12787 39 z13178) F12788 rc H.size  (d + 1) hg hI (by have h9 : (va_up v12787 39 z13178) 38 = v12787 38 := rfl; (try rw [h9]); clear h9; have h9 : (va_up v12787 39 z13178) 39 = z13178 := rfl; (try rw [h9]); clear h9; have h9 : (va_up v12787 39 z13178) 30 = v 30 := hf12789 30 (by decide); (try rw [h9]); clear h9; have h9 : (va_up v12787 39 z13178) 40 = v12787 40 := rfl; (try rw [h9]); clear h9; have h9 : (va_up v12787 39 z13178) 41 = v12787 41 := rfl; (try rw [h9]); clear h9; omega) (by have h9 : (va_up v12787 39 z13178) 37 = (v 37) := hf12789 37 (by decide); have h8 : (va_up v12787 39 z13178) 38 = (v12787 38) := rfl; (try rw [h9]); (try rw [h8]); exact hd (by omega))) (cwV 0 hwd (gV wk_1043 wk_1011 wk_1012 wk_1013 wk_5) rfl rfl rfl (by decide +kernel) ⟨Nat.le_of_ble_eq_true rfl, Nat.le_of_ble_eq_true rfl⟩) ⟨PM.blind, va_recv hK hP (ci := 12) (q0 := 0) rfl rfl, fun U hU hW => ⟨rfl, PM.at hK hE hP hS hU hW⟩⟩ rfl rfl hl.1 rfl (lv_room (Nat.le_of_ble_eq_true rfl)) dX12_either_45 ⟨Nat.le_of_ble_eq_true rfl, Nat.le_of_ble_eq_true rfl⟩) hS (fun q _ h => (freeM hS) q h) (freeM hS) (fun u t H1 locs ht hvm hw hB hz1 hk1 hS => ?_)
          unfold BM at hB
          rw [ht] at hB
          obtain ⟨v13187, F13188, rc9⟩ := u
          obtain ⟨hI, hrc, hf13189, hG13190, hw⟩ := hw
          dsimp only at hI hrc hB hf13189 hG13190 hw
          have hF := frCF (by decide) hG13190 hF
          rw [hrc] at hB
          have hP : va_P (dC, dI) classes (wM g c v13187 F13188 rc) H1 := hB
          have hw : (z13178.toInt ≤ (v13187 39).toInt ∧ (v13187 39).toInt ≤ ((va_up v12787 39 z13178) 30).toInt ∧ (v12787 38).toInt ≤ (v13187 38).toInt ∧ (v13187 38).toInt - (v12787 38).toInt ≤ (v13187 39).toInt - z13178.toInt ∧ (v12787 41).toInt ≤ (v13187 41).toInt ∧ ((v13187 40).toInt < 0 → (v13187 41).toInt = (v12787 41).toInt)) ∧ keepL ((va_up v12787 39 z13178) 37) (F12788 28) (F12788 29) (F13188 28) (F13188 29) ∧ ((v13187 40).toInt < 0 → dp (F13188 28) (F13188 29) (bI ((va_up v12787 39 z13178) 37)) (v13187 38).toInt.toNat = some ((d + 1) + 1)) := hw
          rw [show (va_up v12787 39 z13178) 30 = v 30 from hf12789 30 (by decide)] at hw
          rw [show (va_up v12787 39 z13178) 37 = v 37 from hf12789 37 (by decide)] at hw
          have hw_r13186 := hw
          have t13191 : 0 ≤ (v13187 38).toInt ∧ (v13187 38).toInt ≤ 120 := hI.1 38 _ _ rfl
          have t13192 : 0 ≤ (v13187 39).toInt ∧ (v13187 39).toInt ≤ 120 := hI.1 39 _ _ rfl
          have t13193 : 0 ≤ (v13187 41).toInt ∧ (v13187 41).toInt ≤ 8 := hI.1 41 _ _ rfl
          generalize H1 = H at hP hS ⊢
          have hk := hk.tr hw_r13186.2.1
          have hd := hw_r13186.2.2
          refine lv_aload_n hx hb dX12_either_48 rfl (lv_at hl 1 rfl) ?_
          refine lv_iload_n hx hb dX12_either_49 rfl (lv_at hl 0 rfl) ?_
          refine lv_iconst (v := 0) hx hb dX12_either_50 (by decide) ?_
          have t13194 : 0 ≤ (v 37).toInt ∧ (v 37).toInt ≤ 9 := by have h9 := hI.1 37 _ _ rfl; rw [show v13187 37 = v 37 from (hf13189 37 (by decide)).trans (hf12789 37 (by decide))] at h9; exact h9
          have t13195 : 0 ≤ (v13187 38).toInt ∧ (v13187 38).toInt ≤ 120 := hI.1 38 _ _ rfl
          refine va_callv (va_runV (As := [.int r12796, .int 0]) (rest := []) ⟨hx, hb, hml, hown, hwd⟩ (c_X12_lay l dC dI g c adK adV v13187 F13188 rc H.size r12796 0 hg hI (by have h9 : v13187 38 = v13187 38 := rfl; rw [h9]; omega)) (cwV 2 hwd (gV wk_1021 wk_1018 wk_1019 wk_1020 wk_5) rfl rfl rfl (by decide +kernel) ⟨Nat.le_of_ble_eq_true rfl, Nat.le_of_ble_eq_true rfl⟩) ⟨PM.blind, va_recv hK hP (ci := 12) (q0 := 0) rfl rfl, fun U hU hW => ⟨rfl, PM.at hK hE hP hS hU hW⟩⟩ rfl rfl hl.1 rfl (lv_room (Nat.le_of_ble_eq_true rfl)) dX12_either_51 ⟨Nat.le_of_ble_eq_true rfl, Nat.le_of_ble_eq_true rfl⟩) hS (fun q _ h => (freeM hS) q h) (freeM hS) (fun u t H1 locs ht hvm hw hB hz1 hk1 hS => ?_)
          unfold BM at hB
          rw [ht] at hB
          obtain ⟨v13197, F13198, rc9⟩ := u
          obtain ⟨hI, hrc, hf13199, hG13200, hw⟩ := hw
          dsimp only at hI hrc hB hf13199 hG13200 hw
          have hF := frCF (by decide) hG13200 hF
          rw [hrc] at hB
          have hP : va_P (dC, dI) classes (wM g c v13197 F13198 rc) H1 := hB
          have hw : (v13197 38).toInt = (v13187 38).toInt + 1 ∧ keepL (v13187 37) (F13188 28) (F13188 29) (F13198 28) (F13198 29) ∧ dp (F13198 28) (F13198 29) (bI (v13187 37)) ((v13187 38).toInt.toNat + 1) = dpS (dp (F13188 28) (F13188 29) (bI (v13187 37)) (v13187 38).toInt.toNat) r12796 (0 : Int32) := hw
          rw [show v13187 37 = v 37 from (hf13189 37 (by decide)).trans (hf12789 37 (by decide))] at hw
          have hw_r13196 := hw
          have t13201 : 0 ≤ (v13197 38).toInt ∧ (v13197 38).toInt ≤ 120 := hI.1 38 _ _ rfl
          have k13202 : (0 : Int32).toInt = 0 := by decide
          generalize H1 = H at hP hS ⊢
          have hk := hk.tr hw_r13196.2.1
          have hd : (v13187 40).toInt < 0 → dp (F13198 28) (F13198 29) (bI (v 37)) (v13197 38).toInt.toNat = some (((d + 1) + 1) - 1) := fun hf => (by have e9 : (v13197 38).toInt.toNat = (v13187 38).toInt.toNat + 1 := (by omega); rw [e9, hw_r13196.2.2, hd hf]; exact dpS_5 (by omega) (by omega) (by omega) (by omega) (by omega))
          refine lv_aload_n hx hb dX12_either_54 rfl (lv_at hl 1 rfl) ?_
          refine va_get (D := (dC, dI)) (ci := 12) (v := .int (v13197 40)) (C := RX12) (T := TX12) (N := 63) hx hb hwd inA_X12 hown hK hP 0 rfl rfl 40 (by decide) (hwd _ wk_1005) (fun _ h9 => h9) rfl dX12_either_55 ?_
          refine my_top (v := v13187 40) (hf13199 40 (by decide)) ?_
          refine lv_if_ge (tgt := 70) hx hb dX12_either_58 (by decide) (fun c13203 => ?_) (fun c13203 => ?_)
          · skip
            have t13204 := cv_le (a := 0) (by decide) (b := (v13187 40).toInt) rfl c13203
            have hP9 : va_P (dC, dI) classes (wM g c v13197 F13198 rc) H := hP
            exact W.vret hx hb hr (fun t ht hW => ⟨⟨(v13197, F13198, rc), rfl, ⟨hI, rfl, (frC (by decide) hf13199 (frC (by decide) hf13189 (frU (by decide) (frC (by decide) hf12789 (fun _ _ => rfl))))), hF, (by show ((v 39).toInt ≤ (v13197 39).toInt ∧ (v13197 39).toInt ≤ (v 30).toInt ∧ (v 38).toInt ≤ (v13197 38).toInt ∧ (v13197 38).toInt - (v 38).toInt ≤ (v13197 39).toInt - (v 39).toInt ∧ (v 41).toInt ≤ (v13197 41).toInt ∧ ((v13197 40).toInt < 0 → (v13197 41).toInt = (v 41).toInt)) ∧ keepL (v 37) (F 28) (F 29) (F13198 28) (F13198 29) ∧ ((v13197 40).toInt < 0 → dp (F13198 28) (F13198 29) (bI (v 37)) (v13197 38).toInt.toNat = some (d + 1)); rw [show v13197 39 = v13187 39 from hf13199 39 (by decide)]; rw [show v13197 41 = v13187 41 from hf13199 41 (by decide)]; rw [show v13197 40 = v13187 40 from hf13199 40 (by decide)]; exact ⟨by omega, hk, fun hf => (hd (by omega)).trans (congrArg some (by omega))⟩)⟩, (by show va_P _ _ _ t.heap; rw [ht]; exact hP9)⟩, hS.F ht⟩) hS.2.2 dX12_either_70
          · skip
            have t13205 := cv_nle (a := 0) (by decide) (b := (v13187 40).toInt) rfl c13203
            refine lv_aload_n hx hb dX12_either_61 rfl (lv_at hl 1 rfl) ?_
            have t13206 : 0 ≤ (v 30).toInt ∧ (v 30).toInt ≤ 120 := by have h9 := hI.1 30 _ _ rfl; rw [show v13197 30 = v 30 from (hf13199 30 (by decide)).trans ((hf13189 30 (by decide)).trans (hf12789 30 (by decide)))] at h9; exact h9
            have t13207 : 0 ≤ (v13187 39).toInt ∧ (v13187 39).toInt ≤ 120 := by have h9 := hI.1 39 _ _ rfl; rw [show v13197 39 = v13187 39 from hf13199 39 (by decide)] at h9; exact h9
            refine va_calli (va_runV (As := []) (rest := []) ⟨hx, hb, hml, hown, hwd⟩ (c_X12_look l dC dI g c adK adV v13197 F13198 rc H.size  hg hI ) (cwV 0 hwd (gV wk_1017 wk_1014 wk_1015 wk_1016 wk_5) rfl rfl rfl (by decide +kernel) ⟨Nat.le_of_ble_eq_true rfl, Nat.le_of_ble_eq_true rfl⟩) ⟨PM.blind, va_recv hK hP (ci := 12) (q0 := 0) rfl rfl, fun U hU hW => ⟨rfl, PM.at hK hE hP hS hU hW⟩⟩ rfl rfl hl.1 rfl (lv_room (Nat.le_of_ble_eq_true rfl)) dX12_either_62 ⟨Nat.le_of_ble_eq_true rfl, Nat.le_of_ble_eq_true rfl⟩) hS (fun q _ h => (freeM hS) q h) (freeM hS) (fun r13208 u t H1 locs ht hvm hw hB hz1 hk1 hS => ?_)
            unfold BM at hB
            rw [ht] at hB
            have hP : va_P (dC, dI) classes (wM g c v13197 F13198 rc) H1 := hB
            have hw : r13208.toInt = lkM (v13197 39) (v13197 30) (F13198 24) ∧ ((v13197 39).toInt < (v13197 30).toInt ∨ r13208.toInt = -1) := hw
            rw [show v13197 39 = v13187 39 from hf13199 39 (by decide)] at hw
            rw [show v13197 30 = v 30 from (hf13199 30 (by decide)).trans ((hf13189 30 (by decide)).trans (hf12789 30 (by decide)))] at hw
            rw [hF 24 (by decide)] at hw
            have hw_r13208 := hw
            generalize H1 = H at hP hS ⊢
            refine lv_bipush (v := 63) hx hb dX12_either_65 (by decide) ?_
            refine lv_icmp_eq (tgt := 71) hx hb dX12_either_67 (by decide) (fun c13209 => ?_) (fun c13209 => ?_)
            · skip
              have t13210 := cv_eq (a := r13208.toInt) rfl (b := 63) (by decide) c13209
              refine lv_aload_n hx hb dX12_either_71 rfl (lv_at hl 1 rfl) ?_
              have t13211 : 0 ≤ (v13187 39).toInt ∧ (v13187 39).toInt ≤ 120 := by have h9 := hI.1 39 _ _ rfl; rw [show v13197 39 = v13187 39 from hf13199 39 (by decide)] at h9; exact h9
              have t13212 : 0 ≤ (v13187 41).toInt ∧ (v13187 41).toInt ≤ 8 := by have h9 := hI.1 41 _ _ rfl; rw [show v13197 41 = v13187 41 from hf13199 41 (by decide)] at h9; exact h9
              refine va_calli (va_runV (As := []) (rest := []) ⟨hx, hb, hml, hown, hwd⟩ (c_X12_opens l dC dI g c adK adV v13197 F13198 rc H.size  hg hI (by have h9 : v13197 39 = v13187 39 := hf13199 39 (by decide); (try rw [h9]); clear h9; have h9 : v13197 30 = v 30 := (hf13199 30 (by decide)).trans ((hf13189 30 (by decide)).trans (hf12789 30 (by decide))); (try rw [h9]); clear h9; omega)) (cwV 0 hwd (gV wk_1025 wk_1022 wk_1023 wk_1024 wk_5) rfl rfl rfl (by decide +kernel) ⟨Nat.le_of_ble_eq_true rfl, Nat.le_of_ble_eq_true rfl⟩) ⟨PM.blind, va_recv hK hP (ci := 12) (q0 := 0) rfl rfl, fun U hU hW => ⟨rfl, PM.at hK hE hP hS hU hW⟩⟩ rfl rfl hl.1 rfl (lv_room (Nat.le_of_ble_eq_true rfl)) dX12_either_72 ⟨Nat.le_of_ble_eq_true rfl, Nat.le_of_ble_eq_true rfl⟩) hS (fun q _ h => (freeM hS) q h) (freeM hS) (fun r13213 u t H1 locs ht hvm hw hB hz1 hk1 hS => ?_)
              unfold BM at hB
              rw [ht] at hB
              obtain ⟨v13214, F13215, rc9⟩ := u
              obtain ⟨hI, hrc, hf13216, hG13217, hw⟩ := hw
              dsimp only at hI hrc hB hf13216 hG13217 hw
              have hF := frCF (by decide) hG13217 hF
              rw [hrc] at hB
              have hP : va_P (dC, dI) classes (wM g c v13214 F13215 rc) H1 := hB
              have hw : (r13213.toInt = 1 ∧ (v13197 41).toInt < 8 ∧ (v13214 41).toInt = (v13197 41).toInt + 1 ∧ (v13214 39).toInt = (v13197 39).toInt + 1 ∧ (v13214 40).toInt = (v13197 40).toInt) ∨ (r13213.toInt = 0 ∧ (v13197 41).toInt = 8 ∧ 0 ≤ (v13214 40).toInt ∧ (v13214 41).toInt = (v13197 41).toInt ∧ (v13214 39).toInt = (v13197 39).toInt) := hw
              rw [show v13197 41 = v13187 41 from hf13199 41 (by decide)] at hw
              rw [show v13197 39 = v13187 39 from hf13199 39 (by decide)] at hw
              rw [show v13197 40 = v13187 40 from hf13199 40 (by decide)] at hw
              have hw_r13213 := hw
              have t13218 : 0 ≤ (v13214 39).toInt ∧ (v13214 39).toInt ≤ 120 := hI.1 39 _ _ rfl
              have t13219 : 0 ≤ (v13214 41).toInt ∧ (v13214 41).toInt ≤ 8 := hI.1 41 _ _ rfl
              generalize H1 = H at hP hS ⊢
              have hk : keepL (v 37) (F 28) (F 29) (F13215 28) (F13215 29) := by rw [hG13217 28 (by decide), hG13217 29 (by decide)]; exact hk
              have hd : (v13214 40).toInt < 0 → dp (F13215 28) (F13215 29) (bI (v 37)) (v13197 38).toInt.toNat = some (((d + 1) + 1) - 1) := fun hf => (by rw [hG13217 28 (by decide), hG13217 29 (by decide)]; exact hd (by omega))
              refine lv_if_ne (tgt := 79) hx hb dX12_either_75 (by decide) (fun c13220 => ?_) (fun c13220 => ?_)
              · skip
                have t13221 := cv_ne (a := r13213.toInt) rfl (b := 0) (by decide) c13220
                refine lv_aload_n hx hb dX12_either_79 rfl (lv_at hl 1 rfl) ?_
                have t13222 : 0 ≤ (v 30).toInt ∧ (v 30).toInt ≤ 120 := by have h9 := hI.1 30 _ _ rfl; rw [show v13214 30 = v 30 from (hf13216 30 (by decide)).trans ((hf13199 30 (by decide)).trans ((hf13189 30 (by decide)).trans (hf12789 30 (by decide))))] at h9; exact h9
                have t13223 : 0 ≤ (v 37).toInt ∧ (v 37).toInt ≤ 9 := by have h9 := hI.1 37 _ _ rfl; rw [show v13214 37 = v 37 from (hf13216 37 (by decide)).trans ((hf13199 37 (by decide)).trans ((hf13189 37 (by decide)).trans (hf12789 37 (by decide))))] at h9; exact h9
                have t13224 : 0 ≤ (v13197 38).toInt ∧ (v13197 38).toInt ≤ 120 := by have h9 := hI.1 38 _ _ rfl; rw [show v13214 38 = v13197 38 from hf13216 38 (by decide)] at h9; exact h9
                have t13225 : 0 ≤ (v13214 39).toInt ∧ (v13214 39).toInt ≤ 120 := hI.1 39 _ _ rfl
                have t13226 : 0 ≤ (v13214 41).toInt ∧ (v13214 41).toInt ≤ 8 := hI.1 41 _ _ rfl
                refine va_callv (va_runV (As := []) (rest := []) ⟨hx, hb, hml, hown, hwd⟩ (c_X12_either_8 l dC dI g c adK adV v13214 F13215 rc H.size  (((d + 1) + 1) - 1) hg hI (by have h9 : v13214 38 = v13197 38 := hf13216 38 (by decide); (try rw [h9]); clear h9; have h9 : v13214 39 = v13214 39 := rfl; (try rw [h9]); clear h9; have h9 : v13214 30 = v 30 := (hf13216 30 (by decide)).trans ((hf13199 30 (by decide)).trans ((hf13189 30 (by decide)).trans (hf12789 30 (by decide)))); (try rw [h9]); clear h9; have h9 : v13214 40 = v13214 40 := rfl; (try rw [h9]); clear h9; have h9 : v13214 41 = v13214 41 := rfl; (try rw [h9]); clear h9; omega) (by have h9 : v13214 37 = (v 37) := (hf13216 37 (by decide)).trans ((hf13199 37 (by decide)).trans ((hf13189 37 (by decide)).trans (hf12789 37 (by decide)))); have h8 : v13214 38 = (v13197 38) := hf13216 38 (by decide); (try rw [h9]); (try rw [h8]); exact hd (by omega))) (cwV 0 hwd (gV wk_1010 wk_1007 wk_1008 wk_1009 wk_5) rfl rfl rfl (by decide +kernel) ⟨Nat.le_of_ble_eq_true rfl, Nat.le_of_ble_eq_true rfl⟩) ⟨PM.blind, va_recv hK hP (ci := 12) (q0 := 0) rfl rfl, fun U hU hW => ⟨rfl, PM.at hK hE hP hS hU hW⟩⟩ rfl rfl hl.1 rfl (lv_room (Nat.le_of_ble_eq_true rfl)) dX12_either_80 ⟨Nat.le_of_ble_eq_true rfl, Nat.le_of_ble_eq_true rfl⟩) hS (fun q _ h => (freeM hS) q h) (freeM hS) (fun u t H1 locs ht hvm hw hB hz1 hk1 hS => ?_)
                unfold BM at hB
                rw [ht] at hB
                obtain ⟨v13228, F13229, rc9⟩ := u
                obtain ⟨hI, hrc, hf13230, hG13231, hw⟩ := hw
                dsimp only at hI hrc hB hf13230 hG13231 hw
                have hF := frCF (by decide) hG13231 hF
                rw [hrc] at hB
                have hP : va_P (dC, dI) classes (wM g c v13228 F13229 rc) H1 := hB
                have hw : ((v13214 39).toInt ≤ (v13228 39).toInt ∧ (v13228 39).toInt ≤ (v13214 30).toInt ∧ (v13214 38).toInt ≤ (v13228 38).toInt ∧ (v13228 38).toInt - (v13214 38).toInt ≤ (v13228 39).toInt - (v13214 39).toInt ∧ (v13214 41).toInt ≤ (v13228 41).toInt ∧ ((v13228 40).toInt < 0 → (v13228 41).toInt = (v13214 41).toInt)) ∧ keepL (v13214 37) (F13215 28) (F13215 29) (F13229 28) (F13229 29) ∧ ((v13228 40).toInt < 0 → dp (F13229 28) (F13229 29) (bI (v13214 37)) (v13228 38).toInt.toNat = some ((((d + 1) + 1) - 1) + 1)) := hw
                rw [show v13214 30 = v 30 from (hf13216 30 (by decide)).trans ((hf13199 30 (by decide)).trans ((hf13189 30 (by decide)).trans (hf12789 30 (by decide))))] at hw
                rw [show v13214 38 = v13197 38 from hf13216 38 (by decide)] at hw
                rw [show v13214 37 = v 37 from (hf13216 37 (by decide)).trans ((hf13199 37 (by decide)).trans ((hf13189 37 (by decide)).trans (hf12789 37 (by decide))))] at hw
                have hw_r13227 := hw
                have t13232 : 0 ≤ (v13228 38).toInt ∧ (v13228 38).toInt ≤ 120 := hI.1 38 _ _ rfl
                have t13233 : 0 ≤ (v13228 39).toInt ∧ (v13228 39).toInt ≤ 120 := hI.1 39 _ _ rfl
                have t13234 : 0 ≤ (v13228 41).toInt ∧ (v13228 41).toInt ≤ 8 := hI.1 41 _ _ rfl
                generalize H1 = H at hP hS ⊢
                have hk := hk.tr hw_r13227.2.1
                have hd := hw_r13227.2.2
                refine lv_aload_n hx hb dX12_either_83 rfl (lv_at hl 1 rfl) ?_
                refine va_get (D := (dC, dI)) (ci := 12) (v := .int (v13228 40)) (C := RX12) (T := TX12) (N := 63) hx hb hwd inA_X12 hown hK hP 0 rfl rfl 40 (by decide) (hwd _ wk_1005) (fun _ h9 => h9) rfl dX12_either_84 ?_
                refine lv_if_lt (tgt := 91) hx hb dX12_either_87 (by decide) (fun c13235 => ?_) (fun c13235 => ?_)
                · skip
                  have t13236 := cv_lt (a := (v13228 40).toInt) rfl (b := 0) (by decide) c13235
                  refine lv_aload_n hx hb dX12_either_91 rfl (lv_at hl 1 rfl) ?_
                  have t13237 : 0 ≤ (v 30).toInt ∧ (v 30).toInt ≤ 120 := by have h9 := hI.1 30 _ _ rfl; rw [show v13228 30 = v 30 from (hf13230 30 (by decide)).trans ((hf13216 30 (by decide)).trans ((hf13199 30 (by decide)).trans ((hf13189 30 (by decide)).trans (hf12789 30 (by decide)))))] at h9; exact h9
                  have t13238 : 0 ≤ (v13228 39).toInt ∧ (v13228 39).toInt ≤ 120 := hI.1 39 _ _ rfl
                  refine va_calli (va_runV (As := []) (rest := []) ⟨hx, hb, hml, hown, hwd⟩ (c_X12_look l dC dI g c adK adV v13228 F13229 rc H.size  hg hI ) (cwV 0 hwd (gV wk_1017 wk_1014 wk_1015 wk_1016 wk_5) rfl rfl rfl (by decide +kernel) ⟨Nat.le_of_ble_eq_true rfl, Nat.le_of_ble_eq_true rfl⟩) ⟨PM.blind, va_recv hK hP (ci := 12) (q0 := 0) rfl rfl, fun U hU hW => ⟨rfl, PM.at hK hE hP hS hU hW⟩⟩ rfl rfl hl.1 rfl (lv_room (Nat.le_of_ble_eq_true rfl)) dX12_either_92 ⟨Nat.le_of_ble_eq_true rfl, Nat.le_of_ble_eq_true rfl⟩) hS (fun q _ h => (freeM hS) q h) (freeM hS) (fun r13239 u t H1 locs ht hvm hw hB hz1 hk1 hS => ?_)
                  unfold BM at hB
                  rw [ht] at hB
                  have hP : va_P (dC, dI) classes (wM g c v13228 F13229 rc) H1 := hB
                  have hw : r13239.toInt = lkM (v13228 39) (v13228 30) (F13229 24) ∧ ((v13228 39).toInt < (v13228 30).toInt ∨ r13239.toInt = -1) := hw
                  rw [show v13228 30 = v 30 from (hf13230 30 (by decide)).trans ((hf13216 30 (by decide)).trans ((hf13199 30 (by decide)).trans ((hf13189 30 (by decide)).trans (hf12789 30 (by decide)))))] at hw
                  rw [hF 24 (by decide)] at hw
                  have hw_r13239 := hw
                  generalize H1 = H at hP hS ⊢
                  refine lv_bipush (v := 58) hx hb dX12_either_95 (by decide) ?_
                  refine lv_icmp_eq (tgt := 105) hx hb dX12_either_97 (by decide) (fun c13240 => ?_) (fun c13240 => ?_)
                  · skip
                    have t13241 := cv_eq (a := r13239.toInt) rfl (b := 58) (by decide) c13240
                    refine lv_aload_n hx hb dX12_either_105 rfl (lv_at hl 1 rfl) ?_
                    refine lv_dup hx hb dX12_either_106 rfl ?_
                    refine va_get (D := (dC, dI)) (ci := 12) (v := .int (v13228 39)) (C := RX12) (T := TX12) (N := 63) hx hb hwd inA_X12 hown hK hP 0 rfl rfl 39 (by decide) (hwd _ wk_1004) (fun _ h9 => h9) rfl dX12_either_107 ?_
                    have t13242 : 0 ≤ (v13228 39).toInt ∧ (v13228 39).toInt ≤ 120 := hI.1 39 _ _ rfl
                    refine lv_iconst (v := 1) hx hb dX12_either_110 (by decide) ?_
                    refine lv_iadd hx hb dX12_either_111 ?_
                    refine lv_topi (fun z13243 e13244 => ?_)
                    try (have t13245 := tadd e13244 (a := (v13228 39).toInt) rfl (b := 1) (by decide) (by omega))
                    refine va_put (D := (dC, dI)) (ci := 12) (v := .int z13243) (ty := .int) (C := RX12) (T := TX12) (N := 63) (fs := fsM_0 g v13228 rc) hx hb hwd inA_X12 tyX12 tyX12_ok nmX12 hown hK hP (DM hg) hS 0 rfl rfl 39 (by decide) (hwd _ wk_1004) (fun _ h9 => h9) rfl (by decide +kernel) rfl rfl (Nat.le_of_ble_eq_true rfl) dX12_either_112 (fun H locs hP _ hS => ?_)
                    have hP := va_P_eq (pM_39 g c _ _ _ _) hP
                    have hI := IM.put hI 39 z13243 rfl (by omega)
                    refine lv_aload_n hx hb dX12_either_115 rfl (lv_at hl 1 rfl) ?_
                    have t13246 : 0 ≤ (v 30).toInt ∧ (v 30).toInt ≤ 120 := by have h9 := hI.1 30 _ _ rfl; rw [show (va_up v13228 39 z13243) 30 = v 30 from (hf13230 30 (by decide)).trans ((hf13216 30 (by decide)).trans ((hf13199 30 (by decide)).trans ((hf13189 30 (by decide)).trans (hf12789 30 (by decide)))))] at h9; exact h9
                    have t13247 : 0 ≤ (v 37).toInt ∧ (v 37).toInt ≤ 9 := by have h9 := hI.1 37 _ _ rfl; rw [show (va_up v13228 39 z13243) 37 = v 37 from (hf13230 37 (by decide)).trans ((hf13216 37 (by decide)).trans ((hf13199 37 (by decide)).trans ((hf13189 37 (by decide)).trans (hf12789 37 (by decide)))))] at h9; exact h9
                    have t13248 : 0 ≤ (v13228 38).toInt ∧ (v13228 38).toInt ≤ 120 := hI.1 38 _ _ rfl
                    have t13249 : 0 ≤ z13243.toInt ∧ z13243.toInt ≤ 120 := hI.1 39 _ _ rfl
                    have t13250 : 0 ≤ (v13228 41).toInt ∧ (v13228 41).toInt ≤ 8 := hI.1 41 _ _ rfl
                    refine va_callv (va_runV (As := []) (rest := []) ⟨hx, hb, hml, hown, hwd⟩ (c_X12_either_8 l dC dI g c adK adV (va_up v13228 39 z13243) F13229 rc H.size  ((((d + 1) + 1) - 1) + 1) hg hI (by have h9 : (va_up v13228 39 z13243) 38 = v13228 38 := rfl; (try rw [h9]); clear h9; have h9 : (va_up v13228 39 z13243) 39 = z13243 := rfl; (try rw [h9]); clear h9; have h9 : (va_up v13228 39 z13243) 30 = v 30 := (hf13230 30 (by decide)).trans ((hf13216 30 (by decide)).trans ((hf13199 30 (by decide)).trans ((hf13189 30 (by decide)).trans (hf12789 30 (by decide))))); (try rw [h9]); clear h9; have h9 : (va_up v13228 39 z13243) 40 = v13228 40 := rfl; (try rw [h9]); clear h9; have h9 : (va_up v13228 39 z13243) 41 = v13228 41 := rfl; (try rw [h9]); clear h9; omega) (by have h9 : (va_up v13228 39 z13243) 37 = (v 37) := (hf13230 37 (by decide)).trans ((hf13216 37 (by decide)).trans ((hf13199 37 (by decide)).trans ((hf13189 37 (by decide)).trans (hf12789 37 (by decide))))); have h8 : (va_up v13228 39 z13243) 38 = (v13228 38) := rfl; (try rw [h9]); (try rw [h8]); exact hd (by omega))) (cwV 0 hwd (gV wk_1010 wk_1007 wk_1008 wk_1009 wk_5) rfl rfl rfl (by decide +kernel) ⟨Nat.le_of_ble_eq_true rfl, Nat.le_of_ble_eq_true rfl⟩) ⟨PM.blind, va_recv hK hP (ci := 12) (q0 := 0) rfl rfl, fun U hU hW => ⟨rfl, PM.at hK hE hP hS hU hW⟩⟩ rfl rfl hl.1 rfl (lv_room (Nat.le_of_ble_eq_true rfl)) dX12_either_116 ⟨Nat.le_of_ble_eq_true rfl, Nat.le_of_ble_eq_true rfl⟩) hS (fun q _ h => (freeM hS) q h) (freeM hS) (fun u t H1 locs ht hvm hw hB hz1 hk1 hS => ?_)
                    unfold BM at hB
                    rw [ht] at hB
                    obtain ⟨v13252, F13253, rc9⟩ := u
                    obtain ⟨hI, hrc, hf13254, hG13255, hw⟩ := hw
                    dsimp only at hI hrc hB hf13254 hG13255 hw
                    have hF := frCF (by decide) hG13255 hF
                    rw [hrc] at hB
                    have hP : va_P (dC, dI) classes (wM g c v13252 F13253 rc) H1 := hB
                    have hw : (z13243.toInt ≤ (v13252 39).toInt ∧ (v13252 39).toInt ≤ ((va_up v13228 39 z13243) 30).toInt ∧ (v13228 38).toInt ≤ (v13252 38).toInt ∧ (v13252 38).toInt - (v13228 38).toInt ≤ (v13252 39).toInt - z13243.toInt ∧ (v13228 41).toInt ≤ (v13252 41).toInt ∧ ((v13252 40).toInt < 0 → (v13252 41).toInt = (v13228 41).toInt)) ∧ keepL ((va_up v13228 39 z13243) 37) (F13229 28) (F13229 29) (F13253 28) (F13253 29) ∧ ((v13252 40).toInt < 0 → dp (F13253 28) (F13253 29) (bI ((va_up v13228 39 z13243) 37)) (v13252 38).toInt.toNat = some (((((d + 1) + 1) - 1) + 1) + 1)) := hw
                    rw [show (va_up v13228 39 z13243) 30 = v 30 from (hf13230 30 (by decide)).trans ((hf13216 30 (by decide)).trans ((hf13199 30 (by decide)).trans ((hf13189 30 (by decide)).trans (hf12789 30 (by decide)))))] at hw
                    rw [show (va_up v13228 39 z13243) 37 = v 37 from (hf13230 37 (by decide)).trans ((hf13216 37 (by decide)).trans ((hf13199 37 (by decide)).trans ((hf13189 37 (by decide)).trans (hf12789 37 (by decide)))))] at hw
                    have hw_r13251 := hw
                    have t13256 : 0 ≤ (v13252 38).toInt ∧ (v13252 38).toInt ≤ 120 := hI.1 38 _ _ rfl
                    have t13257 : 0 ≤ (v13252 39).toInt ∧ (v13252 39).toInt ≤ 120 := hI.1 39 _ _ rfl
                    have t13258 : 0 ≤ (v13252 41).toInt ∧ (v13252 41).toInt ≤ 8 := hI.1 41 _ _ rfl
                    generalize H1 = H at hP hS ⊢
                    have hk := hk.tr hw_r13251.2.1
                    have hd := hw_r13251.2.2
                    refine lv_aload_n hx hb dX12_either_119 rfl (lv_at hl 1 rfl) ?_
                    refine lv_iconst (v := 4) hx hb dX12_either_120 (by decide) ?_
                    refine lv_iconst (v := 0) hx hb dX12_either_121 (by decide) ?_
                    have t13259 : 0 ≤ (v 37).toInt ∧ (v 37).toInt ≤ 9 := by have h9 := hI.1 37 _ _ rfl; rw [show v13252 37 = v 37 from (hf13254 37 (by decide)).trans ((hf13230 37 (by decide)).trans ((hf13216 37 (by decide)).trans ((hf13199 37 (by decide)).trans ((hf13189 37 (by decide)).trans (hf12789 37 (by decide))))))] at h9; exact h9
                    have t13260 : 0 ≤ (v13252 38).toInt ∧ (v13252 38).toInt ≤ 120 := hI.1 38 _ _ rfl
                    refine va_callv (va_runV (As := [.int 4, .int 0]) (rest := []) ⟨hx, hb, hml, hown, hwd⟩ (c_X12_lay l dC dI g c adK adV v13252 F13253 rc H.size 4 0 hg hI (by have h9 : v13252 38 = v13252 38 := rfl; rw [h9]; omega)) (cwV 2 hwd (gV wk_1021 wk_1018 wk_1019 wk_1020 wk_5) rfl rfl rfl (by decide +kernel) ⟨Nat.le_of_ble_eq_true rfl, Nat.le_of_ble_eq_true rfl⟩) ⟨PM.blind, va_recv hK hP (ci := 12) (q0 := 0) rfl rfl, fun U hU hW => ⟨rfl, PM.at hK hE hP hS hU hW⟩⟩ rfl rfl hl.1 rfl (lv_room (Nat.le_of_ble_eq_true rfl)) dX12_either_122 ⟨Nat.le_of_ble_eq_true rfl, Nat.le_of_ble_eq_true rfl⟩) hS (fun q _ h => (freeM hS) q h) (freeM hS) (fun u t H1 locs ht hvm hw hB hz1 hk1 hS => ?_)
                    unfold BM at hB
                    rw [ht] at hB
                    obtain ⟨v13262, F13263, rc9⟩ := u
                    obtain ⟨hI, hrc, hf13264, hG13265, hw⟩ := hw
                    dsimp only at hI hrc hB hf13264 hG13265 hw
                    have hF := frCF (by decide) hG13265 hF
                    rw [hrc] at hB
                    have hP : va_P (dC, dI) classes (wM g c v13262 F13263 rc) H1 := hB
                    have hw : (v13262 38).toInt = (v13252 38).toInt + 1 ∧ keepL (v13252 37) (F13253 28) (F13253 29) (F13263 28) (F13263 29) ∧ dp (F13263 28) (F13263 29) (bI (v13252 37)) ((v13252 38).toInt.toNat + 1) = dpS (dp (F13253 28) (F13253 29) (bI (v13252 37)) (v13252 38).toInt.toNat) (4 : Int32) (0 : Int32) := hw
                    rw [show v13252 37 = v 37 from (hf13254 37 (by decide)).trans ((hf13230 37 (by decide)).trans ((hf13216 37 (by decide)).trans ((hf13199 37 (by decide)).trans ((hf13189 37 (by decide)).trans (hf12789 37 (by decide))))))] at hw
                    have hw_r13261 := hw
                    have t13266 : 0 ≤ (v13262 38).toInt ∧ (v13262 38).toInt ≤ 120 := hI.1 38 _ _ rfl
                    have k13267 : (4 : Int32).toInt = 4 := by decide
                    have k13268 : (0 : Int32).toInt = 0 := by decide
                    generalize H1 = H at hP hS ⊢
                    have hk := hk.tr hw_r13261.2.1
                    have hd : (v13252 40).toInt < 0 → dp (F13263 28) (F13263 29) (bI (v 37)) (v13262 38).toInt.toNat = some ((((((d + 1) + 1) - 1) + 1) + 1) - 2) := fun hf => (by have e9 : (v13262 38).toInt.toNat = (v13252 38).toInt.toNat + 1 := (by omega); rw [e9, hw_r13261.2.2, hd hf]; exact dpS_4 (by decide) (by omega))
                    refine lv_aload_n hx hb dX12_either_125 rfl (lv_at hl 1 rfl) ?_
                    refine lv_dup hx hb dX12_either_126 rfl ?_
                    refine va_get (D := (dC, dI)) (ci := 12) (v := .int (v13262 41)) (C := RX12) (T := TX12) (N := 63) hx hb hwd inA_X12 hown hK hP 0 rfl rfl 41 (by decide) (hwd _ wk_1006) (fun _ h9 => h9) rfl dX12_either_127 ?_
                    refine my_top (v := v13252 41) (hf13264 41 (by decide)) ?_
                    have t13269 : 0 ≤ (v13252 41).toInt ∧ (v13252 41).toInt ≤ 8 := by have h9 := hI.1 41 _ _ rfl; rw [show v13262 41 = v13252 41 from hf13264 41 (by decide)] at h9; exact h9
                    refine lv_iconst (v := 1) hx hb dX12_either_130 (by decide) ?_
                    refine lv_isub hx hb dX12_either_131 ?_
                    refine lv_topi (fun z13270 e13271 => ?_)
                    try (have t13272 := tsub e13271 (a := (v13252 41).toInt) rfl (b := 1) (by decide) (by omega))
                    refine va_put (D := (dC, dI)) (ci := 12) (v := .int z13270) (ty := .int) (C := RX12) (T := TX12) (N := 63) (fs := fsM_0 g v13262 rc) hx hb hwd inA_X12 tyX12 tyX12_ok nmX12 hown hK hP (DM hg) hS 0 rfl rfl 41 (by decide) (hwd _ wk_1006) (fun _ h9 => h9) rfl (by decide +kernel) rfl rfl (Nat.le_of_ble_eq_true rfl) dX12_either_132 (fun H locs hP _ hS => ?_)
                    have hP := va_P_eq (pM_41 g c _ _ _ _) hP
                    have hI := IM.put hI 41 z13270 rfl (by omega)
                    have hP9 : va_P (dC, dI) classes (wM g c (va_up v13262 41 z13270) F13263 rc) H := hP
                    exact W.vret hx hb hr (fun t ht hW => ⟨⟨((va_up v13262 41 z13270), F13263, rc), rfl, ⟨hI, rfl, (frU (by decide) (frC (by decide) hf13264 (frC (by decide) hf13254 (frU (by decide) (frC (by decide) hf13230 (frC (by decide) hf13216 (frC (by decide) hf13199 (frC (by decide) hf13189 (frU (by decide) (frC (by decide) hf12789 (fun _ _ => rfl))))))))))), hF, (by show ((v 39).toInt ≤ ((va_up v13262 41 z13270) 39).toInt ∧ ((va_up v13262 41 z13270) 39).toInt ≤ (v 30).toInt ∧ (v 38).toInt ≤ (v13262 38).toInt ∧ (v13262 38).toInt - (v 38).toInt ≤ ((va_up v13262 41 z13270) 39).toInt - (v 39).toInt ∧ (v 41).toInt ≤ z13270.toInt ∧ (((va_up v13262 41 z13270) 40).toInt < 0 → z13270.toInt = (v 41).toInt)) ∧ keepL (v 37) (F 28) (F 29) (F13263 28) (F13263 29) ∧ (((va_up v13262 41 z13270) 40).toInt < 0 → dp (F13263 28) (F13263 29) (bI (v 37)) (v13262 38).toInt.toNat = some (d + 1)); rw [show (va_up v13262 41 z13270) 39 = v13252 39 from hf13264 39 (by decide)]; rw [show (va_up v13262 41 z13270) 40 = v13252 40 from hf13264 40 (by decide)]; exact ⟨by omega, hk, fun hf => (hd (by omega)).trans (congrArg some (by omega))⟩)⟩, (by show va_P _ _ _ t.heap; rw [ht]; exact hP9)⟩, hS.F ht⟩) hS.2.2 dX12_either_135
                  · skip
                    have t13273 := cv_ne (a := r13239.toInt) rfl (b := 58) (by decide) c13240
                    refine lv_aload_n hx hb dX12_either_100 rfl (lv_at hl 1 rfl) ?_
                    refine va_callv (va_runV (As := []) (rest := []) ⟨hx, hb, hml, hown, hwd⟩ (c_X12_wrong l dC dI g c adK adV v13228 F13229 rc H.size  hg hI ) (cwV 0 hwd (gV wk_1029 wk_1026 wk_1027 wk_1028 wk_5) rfl rfl rfl (by decide +kernel) ⟨Nat.le_of_ble_eq_true rfl, Nat.le_of_ble_eq_true rfl⟩) ⟨PM.blind, va_recv hK hP (ci := 12) (q0 := 0) rfl rfl, fun U hU hW => ⟨rfl, PM.at hK hE hP hS hU hW⟩⟩ rfl rfl hl.1 rfl (lv_room (Nat.le_of_ble_eq_true rfl)) dX12_either_101 ⟨Nat.le_of_ble_eq_true rfl, Nat.le_of_ble_eq_true rfl⟩) hS (fun q _ h => (freeM hS) q h) (freeM hS) (fun u t H1 locs ht hvm hw hB hz1 hk1 hS => ?_)
                    unfold BM at hB
                    rw [ht] at hB
                    obtain ⟨v13275, F13276, rc9⟩ := u
                    obtain ⟨hI, hrc, hf13277, hG13278, hw⟩ := hw
                    dsimp only at hI hrc hB hf13277 hG13278 hw
                    have hF := frCF (by decide) hG13278 hF
                    rw [hrc] at hB
                    have hP : va_P (dC, dI) classes (wM g c v13275 F13276 rc) H1 := hB
                    have hw : 0 ≤ (v13275 40).toInt := hw
                    have hw_r13274 := hw
                    generalize H1 = H at hP hS ⊢
                    have hk : keepL (v 37) (F 28) (F 29) (F13276 28) (F13276 29) := by rw [hG13278 28 (by decide), hG13278 29 (by decide)]; exact hk
                    have hd : (v13275 40).toInt < 0 → dp (F13276 28) (F13276 29) (bI (v 37)) (v13228 38).toInt.toNat = some ((((d + 1) + 1) - 1) + 1) := fun hf => (by rw [hG13278 28 (by decide), hG13278 29 (by decide)]; exact hd (by omega))
                    have hP9 : va_P (dC, dI) classes (wM g c v13275 F13276 rc) H := hP
                    exact W.vret hx hb hr (fun t ht hW => ⟨⟨(v13275, F13276, rc), rfl, ⟨hI, rfl, (frC (by decide) hf13277 (frC (by decide) hf13230 (frC (by decide) hf13216 (frC (by decide) hf13199 (frC (by decide) hf13189 (frU (by decide) (frC (by decide) hf12789 (fun _ _ => rfl)))))))), hF, (by show ((v 39).toInt ≤ (v13275 39).toInt ∧ (v13275 39).toInt ≤ (v 30).toInt ∧ (v 38).toInt ≤ (v13275 38).toInt ∧ (v13275 38).toInt - (v 38).toInt ≤ (v13275 39).toInt - (v 39).toInt ∧ (v 41).toInt ≤ (v13275 41).toInt ∧ ((v13275 40).toInt < 0 → (v13275 41).toInt = (v 41).toInt)) ∧ keepL (v 37) (F 28) (F 29) (F13276 28) (F13276 29) ∧ ((v13275 40).toInt < 0 → dp (F13276 28) (F13276 29) (bI (v 37)) (v13275 38).toInt.toNat = some (d + 1)); rw [show v13275 39 = v13228 39 from hf13277 39 (by decide)]; rw [show v13275 38 = v13228 38 from hf13277 38 (by decide)]; rw [show v13275 41 = v13228 41 from hf13277 41 (by decide)]; exact ⟨by omega, hk, fun hf => (hd (by omega)).trans (congrArg some (by omega))⟩)⟩, (by show va_P _ _ _ t.heap; rw [ht]; exact hP9)⟩, hS.F ht⟩) hS.2.2 dX12_either_104
                · skip
                  have t13279 := cv_nlt (a := (v13228 40).toInt) rfl (b := 0) (by decide) c13235
                  have hP9 : va_P (dC, dI) classes (wM g c v13228 F13229 rc) H := hP
                  exact W.vret hx hb hr (fun t ht hW => ⟨⟨(v13228, F13229, rc), rfl, ⟨hI, rfl, (frC (by decide) hf13230 (frC (by decide) hf13216 (frC (by decide) hf13199 (frC (by decide) hf13189 (frU (by decide) (frC (by decide) hf12789 (fun _ _ => rfl))))))), hF, (by show ((v 39).toInt ≤ (v13228 39).toInt ∧ (v13228 39).toInt ≤ (v 30).toInt ∧ (v 38).toInt ≤ (v13228 38).toInt ∧ (v13228 38).toInt - (v 38).toInt ≤ (v13228 39).toInt - (v 39).toInt ∧ (v 41).toInt ≤ (v13228 41).toInt ∧ ((v13228 40).toInt < 0 → (v13228 41).toInt = (v 41).toInt)) ∧ keepL (v 37) (F 28) (F 29) (F13229 28) (F13229 29) ∧ ((v13228 40).toInt < 0 → dp (F13229 28) (F13229 29) (bI (v 37)) (v13228 38).toInt.toNat = some (d + 1)); exact ⟨by omega, hk, fun hf => (hd (by omega)).trans (congrArg some (by omega))⟩)⟩, (by show va_P _ _ _ t.heap; rw [ht]; exact hP9)⟩, hS.F ht⟩) hS.2.2 dX12_either_90
              · skip
                have t13280 := cv_eq (a := r13213.toInt) rfl (b := 0) (by decide) c13220
                have hP9 : va_P (dC, dI) classes (wM g c v13214 F13215 rc) H := hP
                exact W.vret hx hb hr (fun t ht hW => ⟨⟨(v13214, F13215, rc), rfl, ⟨hI, rfl, (frC (by decide) hf13216 (frC (by decide) hf13199 (frC (by decide) hf13189 (frU (by decide) (frC (by decide) hf12789 (fun _ _ => rfl)))))), hF, (by show ((v 39).toInt ≤ (v13214 39).toInt ∧ (v13214 39).toInt ≤ (v 30).toInt ∧ (v 38).toInt ≤ (v13214 38).toInt ∧ (v13214 38).toInt - (v 38).toInt ≤ (v13214 39).toInt - (v 39).toInt ∧ (v 41).toInt ≤ (v13214 41).toInt ∧ ((v13214 40).toInt < 0 → (v13214 41).toInt = (v 41).toInt)) ∧ keepL (v 37) (F 28) (F 29) (F13215 28) (F13215 29) ∧ ((v13214 40).toInt < 0 → dp (F13215 28) (F13215 29) (bI (v 37)) (v13214 38).toInt.toNat = some (d + 1)); rw [show v13214 38 = v13197 38 from hf13216 38 (by decide)]; exact ⟨by omega, hk, fun hf => (hd (by omega)).trans (congrArg some (by omega))⟩)⟩, (by show va_P _ _ _ t.heap; rw [ht]; exact hP9)⟩, hS.F ht⟩) hS.2.2 dX12_either_78
            · skip
              have t13281 := cv_ne (a := r13208.toInt) rfl (b := 63) (by decide) c13209
              have hP9 : va_P (dC, dI) classes (wM g c v13197 F13198 rc) H := hP
              exact W.vret hx hb hr (fun t ht hW => ⟨⟨(v13197, F13198, rc), rfl, ⟨hI, rfl, (frC (by decide) hf13199 (frC (by decide) hf13189 (frU (by decide) (frC (by decide) hf12789 (fun _ _ => rfl))))), hF, (by show ((v 39).toInt ≤ (v13197 39).toInt ∧ (v13197 39).toInt ≤ (v 30).toInt ∧ (v 38).toInt ≤ (v13197 38).toInt ∧ (v13197 38).toInt - (v 38).toInt ≤ (v13197 39).toInt - (v 39).toInt ∧ (v 41).toInt ≤ (v13197 41).toInt ∧ ((v13197 40).toInt < 0 → (v13197 41).toInt = (v 41).toInt)) ∧ keepL (v 37) (F 28) (F 29) (F13198 28) (F13198 29) ∧ ((v13197 40).toInt < 0 → dp (F13198 28) (F13198 29) (bI (v 37)) (v13197 38).toInt.toNat = some (d + 1)); rw [show v13197 39 = v13187 39 from hf13199 39 (by decide)]; rw [show v13197 41 = v13187 41 from hf13199 41 (by decide)]; rw [show v13197 40 = v13187 40 from hf13199 40 (by decide)]; exact ⟨by omega, hk, fun hf => (hd (by omega)).trans (congrArg some (by omega))⟩)⟩, (by show va_P _ _ _ t.heap; rw [ht]; exact hP9)⟩, hS.F ht⟩) hS.2.2 dX12_either_70
