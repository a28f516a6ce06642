set_option maxHeartbeats 8000000 in
set_option maxRecDepth 100000 in
theorem c_X12_operand_5 (l : Launch) (dC : Nat → ClassId) (dI : Nat → Nat → Nat) (g : Nat → Nat) (c : Nat → ClassId) (adK adV : Nat → Nat) (v : Nat → Int32) (F : Nat → Nat → Int32) (rc sz : Nat) (d : Nat) (hg : injM g) (hI : IM v F) (hq : (v 38).toInt ≤ (v 39).toInt ∧ (v 39).toInt ≤ (v 30).toInt ∧ (v 40).toInt < 0 ∧ (v 41).toInt = 5) (hdp : dp (F 28) (F 29) (bI (v 37)) (v 38).toInt.toNat = some d) : Met l yX12_operand (Cond.code yX12_operand cX12_operand 2 none :: wA) ({ frames := 15, cells := 0, slots := 0, locals := 600 }) (va_Pc [.ref (g 0)] (PM dC dI g c adK adV v F rc sz)) (va_Qv (fun (u : StM) => IM u.1 u.2.1 ∧ u.2.2 = rc ∧ (∀ k, k ∉ ([38, 39, 40, 41, 42] : List Nat) → u.1 k = v k) ∧ (∀ k, k ∉ ([28, 29] : List Nat) → u.2.1 k = F k) ∧ (((v 39).toInt ≤ (u.1 39).toInt ∧ (u.1 39).toInt ≤ (v 30).toInt ∧ (v 38).toInt ≤ (u.1 38).toInt ∧ (u.1 38).toInt - (v 38).toInt ≤ (u.1 39).toInt - (v 39).toInt ∧ (v 41).toInt ≤ (u.1 41).toInt ∧ ((u.1 40).toInt < 0 → (u.1 41).toInt = (v 41).toInt)) ∧ keepL (v 37) (F 28) (F 29) (u.2.1 28) (u.2.1 29) ∧ ((u.1 40).toInt < 0 → dp (u.2.1 28) (u.2.1 29) (bI (v 37)) (u.1 38).toInt.toNat = some (d + 1)))) (BM dC dI g c) (AM g sz)) 0 0 (AM g sz) := by
  refine Met.ofW (cc := cX12_operand) (maxL := 2) (ret := none) (by decide) rfl ?_
  intro p e s m args below meth c0 s₁ B hml hv
  obtain ⟨rfl, hsz, hP, hK, hE⟩ := hv
  have hx := B.exec
  have hb := B.bytes
  have hr := B.returns
  have hts := atoms_spec (ws := Cond.code yX12_operand cX12_operand 2 none :: wA) B.pre
  have hwd : ∀ w ∈ wA, w.before _ s = true := fun w h => hts w (List.mem_cons_of_mem _ h)
  have hown : s.vm.findClass RX12 = some m.cls := findClass_of_methodNamed B.named
  have hlocks := B.notSynchronized
  subst hsz
  have hl := lv_entry ([.ref (g 0)]) (n := 2) (Nat.le_of_ble_eq_true rfl)
  rw [lg_entry_eq]
  generalize (lg_sl ([.ref (g 0)]) ++ List.replicate (2 - (lg_sl ([.ref (g 0)])).length) Slot.unset).toArray = ls at hl ⊢
  have hl : lv_has ls 2 [(0, .ref (g 0))] := hl
  obtain ⟨H, eH⟩ : ∃ z, z = s.heap := ⟨_, rfl⟩
  have hP : va_P (dC, dI) classes (wM g c v F rc) H := by rw [eH]; exact hP
  have hS : va_S (AM g s.heap.size) s.heap H [] := by rw [eH]; exact va_S.rf
  refine my_heap eH ?_
  have hF : ∀ k, k ∉ ([28, 29] : List Nat) → F k = F k := fun _ _ => rfl
  have hb30 : 0 ≤ (v 30).toInt ∧ (v 30).toInt ≤ 120 := hI.1 30 _ _ rfl
  have hb37 : 0 ≤ (v 37).toInt ∧ (v 37).toInt ≤ 9 := hI.1 37 _ _ rfl
  have hb38 : 0 ≤ (v 38).toInt ∧ (v 38).toInt ≤ 120 := hI.1 38 _ _ rfl
  have hb39 : 0 ≤ (v 39).toInt ∧ (v 39).toInt ≤ 120 := hI.1 39 _ _ rfl
  have hb41 : 0 ≤ (v 41).toInt ∧ (v 41).toInt ≤ 8 := hI.1 41 _ _ rfl
  have hk : keepL (v 37) (F 28) (F 29) (F 28) (F 29) := keepL.rf
  have hd : (v 40).toInt < 0 → dp (F 28) (F 29) (bI (v 37)) (v 38).toInt.toNat = some d := fun _ => hdp
  refine lv_aload_n hx hb dX12_operand_0 rfl (lv_at hl 0 rfl) ?_
  have t15043 : 0 ≤ (v 30).toInt ∧ (v 30).toInt ≤ 120 := hI.1 30 _ _ rfl
  have t15044 : 0 ≤ (v 39).toInt ∧ (v 39).toInt ≤ 120 := hI.1 39 _ _ rfl
  refine va_calli (va_runV (As := []) (rest := []) ⟨hx, hb, hml, hown, hwd⟩ (c_X12_look l dC dI g c adK adV v F rc H.size  hg hI ) (cwV 0 hwd (gV wk_1017 wk_1014 wk_1015 wk_1016 wk_5) rfl rfl rfl (by decide +kernel) ⟨Nat.le_of_ble_eq_true rfl, Nat.le_of_ble_eq_true rfl⟩) ⟨PM.blind, va_recv hK hP (ci := 12) (q0 := 0) rfl rfl, fun U hU hW => ⟨rfl, PM.at hK hE hP hS hU hW⟩⟩ rfl rfl hl.1 rfl (lv_room (Nat.le_of_ble_eq_true rfl)) dX12_operand_1 ⟨Nat.le_of_ble_eq_true rfl, Nat.le_of_ble_eq_true rfl⟩) hS (fun q _ h => (freeM hS) q h) (freeM hS) (fun r15045 u t H1 locs ht hvm hw hB hz1 hk1 hS => ?_)
  unfold BM at hB
  rw [ht] at hB
  have hP : va_P (dC, dI) classes (wM g c v F rc) H1 := hB
  have hw : r15045.toInt = lkM (v 39) (v 30) (F 24) ∧ ((v 39).toInt < (v 30).toInt ∨ r15045.toInt = -1) := hw
  have hw_r15045 := hw
  generalize H1 = H at hP hS ⊢
  refine lv_istore_n (lv' := [(1, .int r15045), (0, .ref (g 0))]) hx hb dX12_operand_4 rfl hl (by decide) rfl (fun ls hl => ?_)
  refine lv_iload_n hx hb dX12_operand_5 rfl (lv_at hl 0 rfl) ?_
  refine va_calli (va_runS (As := [.int r15045]) (rest := []) ⟨hx, hb, hml, hown, hwd⟩ (c_X12_nameOf l dC dI g c adK adV v F rc H.size r15045 hg hI ) (va_cwS 1 hwd (gT wk_1034 wk_1032 wk_1033 wk_5) rfl rfl rfl (by decide +kernel) ⟨Nat.le_of_ble_eq_true rfl, Nat.le_of_ble_eq_true rfl⟩) ⟨PM.blind, fun U hU hW => ⟨rfl, PM.at hK hE hP hS hU hW⟩⟩ rfl rfl hl.1 rfl (lv_room (Nat.le_of_ble_eq_true rfl)) dX12_operand_6 ⟨Nat.le_of_ble_eq_true rfl, Nat.le_of_ble_eq_true rfl⟩) hS (fun q _ h => (freeM hS) q h) (freeM hS) (fun r15046 u t H1 locs ht hvm hw hB hz1 hk1 hS => ?_)
  unfold BM at hB
  rw [ht] at hB
  have hP : va_P (dC, dI) classes (wM g c v F rc) H1 := hB
  have hw : r15046.toInt = nmM r15045 ∧ (-1 ≤ r15046.toInt ∧ r15046.toInt ≤ 5) := hw
  have hw_r15046 := hw
  generalize H1 = H at hP hS ⊢
  have np_r15046 := nmM_pos r15045
  refine lv_if_lt (tgt := 34) hx hb dX12_operand_9 (by decide) (fun c15047 => ?_) (fun c15047 => ?_)
  · skip
    have t15048 := cv_lt (a := r15046.toInt) rfl (b := 0) (by decide) c15047
    refine lv_iload_n hx hb dX12_operand_34 rfl (lv_at hl 0 rfl) ?_
    refine lv_bipush (v := 45) hx hb dX12_operand_35 (by decide) ?_
    refine lv_icmp_ne (tgt := 71) hx hb dX12_operand_37 (by decide) (fun c15049 => ?_) (fun c15049 => ?_)
    · skip
      have t15050 := cv_ne (a := r15045.toInt) rfl (b := 45) (by decide) c15049
      refine lv_iload_n hx hb dX12_operand_71 rfl (lv_at hl 0 rfl) ?_
      refine lv_bipush (v := 40) hx hb dX12_operand_72 (by decide) ?_
      refine lv_icmp_ne (tgt := 134) hx hb dX12_operand_74 (by decide) (fun c15051 => ?_) (fun c15051 => ?_)
      · skip
        have t15052 := cv_ne (a := r15045.toInt) rfl (b := 40) (by decide) c15051
        refine lv_aload_n hx hb dX12_operand_134 rfl (lv_at hl 1 rfl) ?_
        have t15053 : 0 ≤ (v 30).toInt ∧ (v 30).toInt ≤ 120 := hI.1 30 _ _ rfl
        have t15054 : 0 ≤ (v 39).toInt ∧ (v 39).toInt ≤ 120 := hI.1 39 _ _ rfl
        refine va_calli (va_runV (As := []) (rest := []) ⟨hx, hb, hml, hown, hwd⟩ (c_X12_digits l dC dI g c adK adV v F rc H.size  hg hI (by have h9 : v 39 = v 39 := rfl; (try rw [h9]); clear h9; have h9 : v 30 = v 30 := rfl; (try rw [h9]); clear h9; omega)) (cwV 0 hwd (gV wk_1041 wk_1038 wk_1039 wk_1040 wk_5) rfl rfl rfl (by decide +kernel) ⟨Nat.le_of_ble_eq_true rfl, Nat.le_of_ble_eq_true rfl⟩) ⟨PM.blind, va_recv hK hP (ci := 12) (q0 := 0) rfl rfl, fun U hU hW => ⟨rfl, PM.at hK hE hP hS hU hW⟩⟩ rfl rfl hl.1 rfl (lv_room (Nat.le_of_ble_eq_true rfl)) dX12_operand_135 ⟨Nat.le_of_ble_eq_true rfl, Nat.le_of_ble_eq_true rfl⟩) hS (fun q _ h => (freeM hS) q h) (freeM hS) (fun r15055 u t H1 locs ht hvm hw hB hz1 hk1 hS => ?_)
        unfold BM at hB
        rw [ht] at hB
        obtain ⟨v15056, F15057, rc9⟩ := u
        obtain ⟨hI, hrc, hf15058, hG15059, hw⟩ := hw
        dsimp only at hI hrc hB hf15058 hG15059 hw
        have hF := frCF (by decide) hG15059 hF
        rw [hrc] at hB
        have hP : va_P (dC, dI) classes (wM g c v15056 F15057 rc) H1 := hB
        have hw : (r15055.toInt = 1 ∧ (v 39).toInt < (v15056 39).toInt ∧ (v15056 39).toInt ≤ (v 30).toInt ∧ (v15056 40).toInt = (v 40).toInt) ∨ (r15055.toInt = 0 ∧ 0 ≤ (v15056 40).toInt ∧ (v 39).toInt ≤ (v15056 39).toInt ∧ (v15056 39).toInt ≤ (v 30).toInt) := hw
        have hw_r15055 := hw
        have t15060 : 0 ≤ (v15056 39).toInt ∧ (v15056 39).toInt ≤ 120 := hI.1 39 _ _ rfl
        generalize H1 = H at hP hS ⊢
        have hk : keepL (v 37) (F 28) (F 29) (F15057 28) (F15057 29) := by rw [hG15059 28 (by decide), hG15059 29 (by decide)]; exact hk
        have hd : (v15056 40).toInt < 0 → dp (F15057 28) (F15057 29) (bI (v 37)) (v 38).toInt.toNat = some d := fun hf => (by rw [hG15059 28 (by decide), hG15059 29 (by decide)]; exact hd (by omega))
        refine lv_if_eq (tgt := 150) hx hb dX12_operand_138 (by decide) (fun c15061 => ?_) (fun c15061 => ?_)
        · skip
          have t15062 := cv_eq (a := r15055.toInt) rfl (b := 0) (by decide) c15061
          have hP9 : va_P (dC, dI) classes (wM g c v15056 F15057 rc) H := hP
          exact W.vret hx hb hr (fun t ht hW => ⟨⟨(v15056, F15057, rc), rfl, ⟨hI, rfl, (frC (by decide) hf15058 (fun _ _ => rfl)), hF, (by show ((v 39).toInt ≤ (v15056 39).toInt ∧ (v15056 39).toInt ≤ (v 30).toInt ∧ (v 38).toInt ≤ (v15056 38).toInt ∧ (v15056 38).toInt - (v 38).toInt ≤ (v15056 39).toInt - (v 39).toInt ∧ (v 41).toInt ≤ (v15056 41).toInt ∧ ((v15056 40).toInt < 0 → (v15056 41).toInt = (v 41).toInt)) ∧ keepL (v 37) (F 28) (F 29) (F15057 28) (F15057 29) ∧ ((v15056 40).toInt < 0 → dp (F15057 28) (F15057 29) (bI (v 37)) (v15056 38).toInt.toNat = some (d + 1)); rw [show v15056 38 = v 38 from hf15058 38 (by decide)]; rw [show v15056 41 = v 41 from hf15058 41 (by decide)]; exact ⟨by omega, hk, fun hf => (hd (by omega)).trans (congrArg some (by omega))⟩)⟩, (by show va_P _ _ _ t.heap; rw [ht]; exact hP9)⟩, hS.F ht⟩) hS.2.2 dX12_operand_150
        · skip
          have t15063 := cv_ne (a := r15055.toInt) rfl (b := 0) (by decide) c15061
          refine lv_aload_n hx hb dX12_operand_141 rfl (lv_at hl 1 rfl) ?_
          refine lv_iconst (v := 1) hx hb dX12_operand_142 (by decide) ?_
          refine lv_aload_n hx hb dX12_operand_143 rfl (lv_at hl 1 rfl) ?_
          refine va_get (D := (dC, dI)) (ci := 12) (v := .int (v15056 42)) (C := RX12) (T := TX12) (N := 63) hx hb hwd inA_X12 hown hK hP 0 rfl rfl 42 (by decide) (hwd _ wk_1031) (fun _ h9 => h9) rfl dX12_operand_144 ?_
          have t15064 : 0 ≤ (v 37).toInt ∧ (v 37).toInt ≤ 9 := by have h9 := hI.1 37 _ _ rfl; rw [show v15056 37 = v 37 from hf15058 37 (by decide)] at h9; exact h9
          have t15065 : 0 ≤ (v 38).toInt ∧ (v 38).toInt ≤ 120 := by have h9 := hI.1 38 _ _ rfl; rw [show v15056 38 = v 38 from hf15058 38 (by decide)] at h9; exact h9
          refine va_callv (va_runV (As := [.int 1, .int (v15056 42)]) (rest := []) ⟨hx, hb, hml, hown, hwd⟩ (c_X12_lay l dC dI g c adK adV v15056 F15057 rc H.size 1 (v15056 42) hg hI (by have h9 : v15056 38 = v 38 := hf15058 38 (by decide); rw [h9]; omega)) (cwV 2 hwd (gV wk_1021 wk_1018 wk_1019 wk_1020 wk_5) rfl rfl rfl (by decide +kernel) ⟨Nat.le_of_ble_eq_true rfl, Nat.le_of_ble_eq_true rfl⟩) ⟨PM.blind, va_recv hK hP (ci := 12) (q0 := 0) rfl rfl, fun U hU hW => ⟨rfl, PM.at hK hE hP hS hU hW⟩⟩ rfl rfl hl.1 rfl (lv_room (Nat.le_of_ble_eq_true rfl)) dX12_operand_147 ⟨Nat.le_of_ble_eq_true rfl, Nat.le_of_ble_eq_true rfl⟩) hS (fun q _ h => (freeM hS) q h) (freeM hS) (fun u t H1 locs ht hvm hw hB hz1 hk1 hS => ?_)
          unfold BM at hB
          rw [ht] at hB
          obtain ⟨v15067, F15068, rc9⟩ := u
          obtain ⟨hI, hrc, hf15069, hG15070, hw⟩ := hw
          dsimp only at hI hrc hB hf15069 hG15070 hw
          have hF := frCF (by decide) hG15070 hF
          rw [hrc] at hB
          have hP : va_P (dC, dI) classes (wM g c v15067 F15068 rc) H1 := hB
          have hw : (v15067 38).toInt = (v15056 38).toInt + 1 ∧ keepL (v15056 37) (F15057 28) (F15057 29) (F15068 28) (F15068 29) ∧ dp (F15068 28) (F15068 29) (bI (v15056 37)) ((v15056 38).toInt.toNat + 1) = dpS (dp (F15057 28) (F15057 29) (bI (v15056 37)) (v15056 38).toInt.toNat) (1 : Int32) (v15056 42) := hw
          rw [show v15056 38 = v 38 from hf15058 38 (by decide)] at hw
          rw [show v15056 37 = v 37 from hf15058 37 (by decide)] at hw
          have hw_r15066 := hw
          have t15071 : 0 ≤ (v15067 38).toInt ∧ (v15067 38).toInt ≤ 120 := hI.1 38 _ _ rfl
          have k15072 : (1 : Int32).toInt = 1 := by decide
          generalize H1 = H at hP hS ⊢
          have hk := hk.tr hw_r15066.2.1
          have hd : (v15056 40).toInt < 0 → dp (F15068 28) (F15068 29) (bI (v 37)) (v15067 38).toInt.toNat = some (d + 1) := fun hf => (by have e9 : (v15067 38).toInt.toNat = (v 38).toInt.toNat + 1 := (by omega); rw [e9, hw_r15066.2.2, hd hf]; exact dpS_1 (by decide))
          have hP9 : va_P (dC, dI) classes (wM g c v15067 F15068 rc) H := hP
          exact W.vret hx hb hr (fun t ht hW => ⟨⟨(v15067, F15068, rc), rfl, ⟨hI, rfl, (frC (by decide) hf15069 (frC (by decide) hf15058 (fun _ _ => rfl))), hF, (by show ((v 39).toInt ≤ (v15067 39).toInt ∧ (v15067 39).toInt ≤ (v 30).toInt ∧ (v 38).toInt ≤ (v15067 38).toInt ∧ (v15067 38).toInt - (v 38).toInt ≤ (v15067 39).toInt - (v 39).toInt ∧ (v 41).toInt ≤ (v15067 41).toInt ∧ ((v15067 40).toInt < 0 → (v15067 41).toInt = (v 41).toInt)) ∧ keepL (v 37) (F 28) (F 29) (F15068 28) (F15068 29) ∧ ((v15067 40).toInt < 0 → dp (F15068 28) (F15068 29) (bI (v 37)) (v15067 38).toInt.toNat = some (d + 1)); rw [show v15067 39 = v15056 39 from hf15069 39 (by decide)]; rw [show v15067 41 = v 41 from (hf15069 41 (by decide)).trans (hf15058 41 (by decide))]; rw [show v15067 40 = v15056 40 from hf15069 40 (by decide)]; exact ⟨by omega, hk, fun hf => (hd (by omega)).trans (congrArg some (by omega))⟩)⟩, (by show va_P _ _ _ t.heap; rw [ht]; exact hP9)⟩, hS.F ht⟩) hS.2.2 dX12_operand_150
      · skip
        have t15073 := cv_eq (a := r15045.toInt) rfl (b := 40) (by decide) c15051
        refine lv_aload_n hx hb dX12_operand_77 rfl (lv_at hl 1 rfl) ?_
        have t15074 : 0 ≤ (v 39).toInt ∧ (v 39).toInt ≤ 120 := hI.1 39 _ _ rfl
        have t15075 : 0 ≤ (v 41).toInt ∧ (v 41).toInt ≤ 8 := hI.1 41 _ _ rfl
        refine va_calli (va_runV (As := []) (rest := []) ⟨hx, hb, hml, hown, hwd⟩ (c_X12_opens l dC dI g c adK adV v F rc H.size  hg hI (by have h9 : v 39 = v 39 := rfl; (try rw [h9]); clear h9; have h9 : v 30 = v 30 := rfl; (try rw [h9]); clear h9; omega)) (cwV 0 hwd (gV wk_1025 wk_1022 wk_1023 wk_1024 wk_5) rfl rfl rfl (by decide +kernel) ⟨Nat.le_of_ble_eq_true rfl, Nat.le_of_ble_eq_true rfl⟩) ⟨PM.blind, va_recv hK hP (ci := 12) (q0 := 0) rfl rfl, fun U hU hW => ⟨rfl, PM.at hK hE hP hS hU hW⟩⟩ rfl rfl hl.1 rfl (lv_room (Nat.le_of_ble_eq_true rfl)) dX12_operand_78 ⟨Nat.le_of_ble_eq_true rfl, Nat.le_of_ble_eq_true rfl⟩) hS (fun q _ h => (freeM hS) q h) (freeM hS) (fun r15076 u t H1 locs ht hvm hw hB hz1 hk1 hS => ?_)
        unfold BM at hB
        rw [ht] at hB
        obtain ⟨v15077, F15078, rc9⟩ := u
        obtain ⟨hI, hrc, hf15079, hG15080, hw⟩ := hw
        dsimp only at hI hrc hB hf15079 hG15080 hw
        have hF := frCF (by decide) hG15080 hF
        rw [hrc] at hB
        have hP : va_P (dC, dI) classes (wM g c v15077 F15078 rc) H1 := hB
        have hw : (r15076.toInt = 1 ∧ (v 41).toInt < 8 ∧ (v15077 41).toInt = (v 41).toInt + 1 ∧ (v15077 39).toInt = (v 39).toInt + 1 ∧ (v15077 40).toInt = (v 40).toInt) ∨ (r15076.toInt = 0 ∧ (v 41).toInt = 8 ∧ 0 ≤ (v15077 40).toInt ∧ (v15077 41).toInt = (v 41).toInt ∧ (v15077 39).toInt = (v 39).toInt) := hw
        have hw_r15076 := hw
        have t15081 : 0 ≤ (v15077 39).toInt ∧ (v15077 39).toInt ≤ 120 := hI.1 39 _ _ rfl
        have t15082 : 0 ≤ (v15077 41).toInt ∧ (v15077 41).toInt ≤ 8 := hI.1 41 _ _ rfl
        generalize H1 = H at hP hS ⊢
        have hk : keepL (v 37) (F 28) (F 29) (F15078 28) (F15078 29) := by rw [hG15080 28 (by decide), hG15080 29 (by decide)]; exact hk
        have hd : (v15077 40).toInt < 0 → dp (F15078 28) (F15078 29) (bI (v 37)) (v 38).toInt.toNat = some d := fun hf => (by rw [hG15080 28 (by decide), hG15080 29 (by decide)]; exact hd (by omega))
        refine lv_if_ne (tgt := 85) hx hb dX12_operand_81 (by decide) (fun c15083 => ?_) (fun c15083 => ?_)
        · skip
          have t15084 := cv_ne (a := r15076.toInt) rfl (b := 0) (by decide) c15083
          refine lv_aload_n hx hb dX12_operand_85 rfl (lv_at hl 1 rfl) ?_
          have t15085 : 0 ≤ (v 30).toInt ∧ (v 30).toInt ≤ 120 := by have h9 := hI.1 30 _ _ rfl; rw [show v15077 30 = v 30 from hf15079 30 (by decide)] at h9; exact h9
          have t15086 : 0 ≤ (v 37).toInt ∧ (v 37).toInt ≤ 9 := by have h9 := hI.1 37 _ _ rfl; rw [show v15077 37 = v 37 from hf15079 37 (by decide)] at h9; exact h9
          have t15087 : 0 ≤ (v 38).toInt ∧ (v 38).toInt ≤ 120 := by have h9 := hI.1 38 _ _ rfl; rw [show v15077 38 = v 38 from hf15079 38 (by decide)] at h9; exact h9
          have t15088 : 0 ≤ (v15077 39).toInt ∧ (v15077 39).toInt ≤ 120 := hI.1 39 _ _ rfl
          have t15089 : 0 ≤ (v15077 41).toInt ∧ (v15077 41).toInt ≤ 8 := hI.1 41 _ _ rfl
          refine va_callv (va_runV (As := []) (rest := []) ⟨hx, hb, hml, hown, hwd⟩ (c_X12_either_6 l dC dI g c adK adV v15077 F15078 rc H.size  d hg hI (by have h9 : v15077 38 = v 38 := hf15079 38 (by decide); (try rw [h9]); clear h9; have h9 : v15077 39 = v15077 39 := rfl; (try rw [h9]); clear h9; have h9 : v15077 30 = v 30 := hf15079 30 (by decide); (try rw [h9]); clear h9; have h9 : v15077 40 = v15077 40 := rfl; (try rw [h9]); clear h9; have h9 : v15077 41 = v15077 41 := rfl; (try rw [h9]); clear h9; omega) (by have h9 : v15077 37 = (v 37) := hf15079 37 (by decide); have h8 : v15077 38 = (v 38) := hf15079 38 (by decide); (try rw [h9]); (try rw [h8]); exact hd (by omega))) (cwV 0 hwd (gV wk_1010 wk_1007 wk_1008 wk_1009 wk_5) rfl rfl rfl (by decide +kernel) ⟨Nat.le_of_ble_eq_true rfl, Nat.le_of_ble_eq_true rfl⟩) ⟨PM.blind, va_recv hK hP (ci := 12) (q0 := 0) rfl rfl, fun U hU hW => ⟨rfl, PM.at hK hE hP hS hU hW⟩⟩ rfl rfl hl.1 rfl (lv_room (Nat.le_of_ble_eq_true rfl)) dX12_operand_86 ⟨Nat.le_of_ble_eq_true rfl, Nat.le_of_ble_eq_true rfl⟩) hS (fun q _ h => (freeM hS) q h) (freeM hS) (fun u t H1 locs ht hvm hw hB hz1 hk1 hS => ?_)
          unfold BM at hB
          rw [ht] at hB
          obtain ⟨v15091, F15092, rc9⟩ := u
          obtain ⟨hI, hrc, hf15093, hG15094, hw⟩ := hw
          dsimp only at hI hrc hB hf15093 hG15094 hw
          have hF := frCF (by decide) hG15094 hF
          rw [hrc] at hB
          have hP : va_P (dC, dI) classes (wM g c v15091 F15092 rc) H1 := hB
          have hw : ((v15077 39).toInt ≤ (v15091 39).toInt ∧ (v15091 39).toInt ≤ (v15077 30).toInt ∧ (v15077 38).toInt ≤ (v15091 38).toInt ∧ (v15091 38).toInt - (v15077 38).toInt ≤ (v15091 39).toInt - (v15077 39).toInt ∧ (v15077 41).toInt ≤ (v15091 41).toInt ∧ ((v15091 40).toInt < 0 → (v15091 41).toInt = (v15077 41).toInt)) ∧ keepL (v15077 37) (F15078 28) (F15078 29) (F15092 28) (F15092 29) ∧ ((v15091 40).toInt < 0 → dp (F15092 28) (F15092 29) (bI (v15077 37)) (v15091 38).toInt.toNat = some (d + 1)) := hw
          rw [show v15077 30 = v 30 from hf15079 30 (by decide)] at hw
          rw [show v15077 38 = v 38 from hf15079 38 (by decide)] at hw
          rw [show v15077 37 = v 37 from hf15079 37 (by decide)] at hw
          have hw_r15090 := hw
          have t15095 : 0 ≤ (v15091 38).toInt ∧ (v15091 38).toInt ≤ 120 := hI.1 38 _ _ rfl
          have t15096 : 0 ≤ (v15091 39).toInt ∧ (v15091 39).toInt ≤ 120 := hI.1 39 _ _ rfl
          have t15097 : 0 ≤ (v15091 41).toInt ∧ (v15091 41).toInt ≤ 8 := hI.1 41 _ _ rfl
          generalize H1 = H at hP hS ⊢
          have hk := hk.tr hw_r15090.2.1
          have hd := hw_r15090.2.2
          refine lv_aload_n hx hb dX12_operand_89 rfl (lv_at hl 1 rfl) ?_
          refine va_get (D := (dC, dI)) (ci := 12) (v := .int (v15091 40)) (C := RX12) (T := TX12) (N := 63) hx hb hwd inA_X12 hown hK hP 0 rfl rfl 40 (by decide) (hwd _ wk_1005) (fun _ h9 => h9) rfl dX12_operand_90 ?_
          refine lv_if_lt (tgt := 97) hx hb dX12_operand_93 (by decide) (fun c15098 => ?_) (fun c15098 => ?_)
          · skip
            have t15099 := cv_lt (a := (v15091 40).toInt) rfl (b := 0) (by decide) c15098
            refine lv_aload_n hx hb dX12_operand_97 rfl (lv_at hl 1 rfl) ?_
            have t15100 : 0 ≤ (v 30).toInt ∧ (v 30).toInt ≤ 120 := by have h9 := hI.1 30 _ _ rfl; rw [show v15091 30 = v 30 from (hf15093 30 (by decide)).trans (hf15079 30 (by decide))] at h9; exact h9
            have t15101 : 0 ≤ (v15091 39).toInt ∧ (v15091 39).toInt ≤ 120 := hI.1 39 _ _ rfl
            refine va_calli (va_runV (As := []) (rest := []) ⟨hx, hb, hml, hown, hwd⟩ (c_X12_look l dC dI g c adK adV v15091 F15092 rc H.size  hg hI ) (cwV 0 hwd (gV wk_1017 wk_1014 wk_1015 wk_1016 wk_5) rfl rfl rfl (by decide +kernel) ⟨Nat.le_of_ble_eq_true rfl, Nat.le_of_ble_eq_true rfl⟩) ⟨PM.blind, va_recv hK hP (ci := 12) (q0 := 0) rfl rfl, fun U hU hW => ⟨rfl, PM.at hK hE hP hS hU hW⟩⟩ rfl rfl hl.1 rfl (lv_room (Nat.le_of_ble_eq_true rfl)) dX12_operand_98 ⟨Nat.le_of_ble_eq_true rfl, Nat.le_of_ble_eq_true rfl⟩) hS (fun q _ h => (freeM hS) q h) (freeM hS) (fun r15102 u t H1 locs ht hvm hw hB hz1 hk1 hS => ?_)
            unfold BM at hB
            rw [ht] at hB
            have hP : va_P (dC, dI) classes (wM g c v15091 F15092 rc) H1 := hB
            have hw : r15102.toInt = lkM (v15091 39) (v15091 30) (F15092 24) ∧ ((v15091 39).toInt < (v15091 30).toInt ∨ r15102.toInt = -1) := hw
            rw [show v15091 30 = v 30 from (hf15093 30 (by decide)).trans (hf15079 30 (by decide))] at hw
            rw [hF 24 (by decide)] at hw
            have hw_r15102 := hw
            generalize H1 = H at hP hS ⊢
            refine lv_bipush (v := 41) hx hb dX12_operand_101 (by decide) ?_
            refine lv_icmp_eq (tgt := 111) hx hb dX12_operand_103 (by decide) (fun c15103 => ?_) (fun c15103 => ?_)
            · skip
              have t15104 := cv_eq (a := r15102.toInt) rfl (b := 41) (by decide) c15103
              refine lv_aload_n hx hb dX12_operand_111 rfl (lv_at hl 1 rfl) ?_
              refine lv_dup hx hb dX12_operand_112 rfl ?_
              refine va_get (D := (dC, dI)) (ci := 12) (v := .int (v15091 39)) (C := RX12) (T := TX12) (N := 63) hx hb hwd inA_X12 hown hK hP 0 rfl rfl 39 (by decide) (hwd _ wk_1004) (fun _ h9 => h9) rfl dX12_operand_113 ?_
              have t15105 : 0 ≤ (v15091 39).toInt ∧ (v15091 39).toInt ≤ 120 := hI.1 39 _ _ rfl
              refine lv_iconst (v := 1) hx hb dX12_operand_116 (by decide) ?_
              refine lv_iadd hx hb dX12_operand_117 ?_
              refine lv_topi (fun z15106 e15107 => ?_)
              try (have t15108 := tadd e15107 (a := (v15091 39).toInt) rfl (b := 1) (by decide) (by omega))
              refine va_put (D := (dC, dI)) (ci := 12) (v := .int z15106) (ty := .int) (C := RX12) (T := TX12) (N := 63) (fs := fsM_0 g v15091 rc) hx hb hwd inA_X12 tyX12 tyX12_ok nmX12 hown hK hP (DM hg) hS 0 rfl rfl 39 (by decide) (hwd _ wk_1004) (fun _ h9 => h9) rfl (by decide +kernel) rfl rfl (Nat.le_of_ble_eq_true rfl) dX12_operand_118 (fun H locs hP _ hS => ?_)
              have hP := va_P_eq (pM_39 g c _ _ _ _) hP
              have hI := IM.put hI 39 z15106 rfl (by omega)
              refine lv_aload_n hx hb dX12_operand_121 rfl (lv_at hl 1 rfl) ?_
              refine lv_dup hx hb dX12_operand_122 rfl ?_
              refine va_get (D := (dC, dI)) (ci := 12) (v := .int (v15091 41)) (C := RX12) (T := TX12) (N := 63) hx hb hwd inA_X12 hown hK hP 0 rfl rfl 41 (by decide) (hwd _ wk_1006) (fun _ h9 => h9) rfl dX12_operand_123 ?_
              have t15109 : 0 ≤ (v15091 41).toInt ∧ (v15091 41).toInt ≤ 8 := hI.1 41 _ _ rfl
              refine lv_iconst (v := 1) hx hb dX12_operand_126 (by decide) ?_
              refine lv_isub hx hb dX12_operand_127 ?_
              refine lv_topi (fun z15110 e15111 => ?_)
              try (have t15112 := tsub e15111 (a := (v15091 41).toInt) rfl (b := 1) (by decide) (by omega))
              refine va_put (D := (dC, dI)) (ci := 12) (v := .int z15110) (ty := .int) (C := RX12) (T := TX12) (N := 63) (fs := fsM_0 g (va_up v15091 39 z15106) rc) hx hb hwd inA_X12 tyX12 tyX12_ok nmX12 hown hK hP (DM hg) hS 0 rfl rfl 41 (by decide) (hwd _ wk_1006) (fun _ h9 => h9) rfl (by decide +kernel) rfl rfl (Nat.le_of_ble_eq_true rfl) dX12_operand_128 (fun H locs hP _ hS => ?_)
              have hP := va_P_eq (pM_41 g c _ _ _ _) hP
              have hI := IM.put hI 41 z15110 rfl (by omega)
              refine lv_goto (tgt := 150) hx hb dX12_operand_131 (by decide) ?_
              have hP9 : va_P (dC, dI) classes (wM g c (va_up (va_up v15091 39 z15106) 41 z15110) F15092 rc) H := hP
              exact W.vret hx hb hr (fun t ht hW => ⟨⟨((va_up (va_up v15091 39 z15106) 41 z15110), F15092, rc), rfl, ⟨hI, rfl, (frU (by decide) (frU (by decide) (frC (by decide) hf15093 (frC (by decide) hf15079 (fun _ _ => rfl))))), hF, (by show ((v 39).toInt ≤ z15106.toInt ∧ z15106.toInt ≤ (v 30).toInt ∧ (v 38).toInt ≤ (v15091 38).toInt ∧ (v15091 38).toInt - (v 38).toInt ≤ z15106.toInt - (v 39).toInt ∧ (v 41).toInt ≤ z15110.toInt ∧ ((v15091 40).toInt < 0 → z15110.toInt = (v 41).toInt)) ∧ keepL (v 37) (F 28) (F 29) (F15092 28) (F15092 29) ∧ ((v15091 40).toInt < 0 → dp (F15092 28) (F15092 29) (bI (v 37)) (v15091 38).toInt.toNat = some (d + 1)); exact ⟨by omega, hk, fun hf => (hd (by omega)).trans (congrArg some (by omega))⟩)⟩, (by show va_P _ _ _ t.heap; rw [ht]; exact hP9)⟩, hS.F ht⟩) hS.2.2 dX12_operand_150
            · skip
              have t15113 := cv_ne (a := r15102.toInt) rfl (b := 41) (by decide) c15103
              refine lv_aload_n hx hb dX12_operand_106 rfl (lv_at hl 1 rfl) ?_
              refine va_callv (va_runV (As := []) (rest := []) ⟨hx, hb, hml, hown, hwd⟩ (c_X12_wrong l dC dI g c adK adV v15091 F15092 rc H.size  hg hI ) (cwV 0 hwd (gV wk_1029 wk_1026 wk_1027 wk_1028 wk_5) rfl rfl rfl (by decide +kernel) ⟨Nat.le_of_ble_eq_true rfl, Nat.le_of_ble_eq_true rfl⟩) ⟨PM.blind, va_recv hK hP (ci := 12) (q0 := 0) rfl rfl, fun U hU hW => ⟨rfl, PM.at hK hE hP hS hU hW⟩⟩ rfl rfl hl.1 rfl (lv_room (Nat.le_of_ble_eq_true rfl)) dX12_operand_107 ⟨Nat.le_of_ble_eq_true rfl, Nat.le_of_ble_eq_true rfl⟩) hS (fun q _ h => (freeM hS) q h) (freeM hS) (fun u t H1 locs ht hvm hw hB hz1 hk1 hS => ?_)
              unfold BM at hB
              rw [ht] at hB
              obtain ⟨v15115, F15116, rc9⟩ := u
              obtain ⟨hI, hrc, hf15117, hG15118, hw⟩ := hw
              dsimp only at hI hrc hB hf15117 hG15118 hw
              have hF := frCF (by decide) hG15118 hF
              rw [hrc] at hB
              have hP : va_P (dC, dI) classes (wM g c v15115 F15116 rc) H1 := hB
              have hw : 0 ≤ (v15115 40).toInt := hw
              have hw_r15114 := hw
              generalize H1 = H at hP hS ⊢
              have hk : keepL (v 37) (F 28) (F 29) (F15116 28) (F15116 29) := by rw [hG15118 28 (by decide), hG15118 29 (by decide)]; exact hk
              have hd : (v15115 40).toInt < 0 → dp (F15116 28) (F15116 29) (bI (v 37)) (v15091 38).toInt.toNat = some (d + 1) := fun hf => (by rw [hG15118 28 (by decide), hG15118 29 (by decide)]; exact hd (by omega))
              have hP9 : va_P (dC, dI) classes (wM g c v15115 F15116 rc) H := hP
              exact W.vret hx hb hr (fun t ht hW => ⟨⟨(v15115, F15116, rc), rfl, ⟨hI, rfl, (frC (by decide) hf15117 (frC (by decide) hf15093 (frC (by decide) hf15079 (fun _ _ => rfl)))), hF, (by show ((v 39).toInt ≤ (v15115 39).toInt ∧ (v15115 39).toInt ≤ (v 30).toInt ∧ (v 38).toInt ≤ (v15115 38).toInt ∧ (v15115 38).toInt - (v 38).toInt ≤ (v15115 39).toInt - (v 39).toInt ∧ (v 41).toInt ≤ (v15115 41).toInt ∧ ((v15115 40).toInt < 0 → (v15115 41).toInt = (v 41).toInt)) ∧ keepL (v 37) (F 28) (F 29) (F15116 28) (F15116 29) ∧ ((v15115 40).toInt < 0 → dp (F15116 28) (F15116 29) (bI (v 37)) (v15115 38).toInt.toNat = some (d + 1)); rw [show v15115 39 = v15091 39 from hf15117 39 (by decide)]; rw [show v15115 38 = v15091 38 from hf15117 38 (by decide)]; rw [show v15115 41 = v15091 41 from hf15117 41 (by decide)]; exact ⟨by omega, hk, fun hf => (hd (by omega)).trans (congrArg some (by omega))⟩)⟩, (by show va_P _ _ _ t.heap; rw [ht]; exact hP9)⟩, hS.F ht⟩) hS.2.2 dX12_operand_110
          · skip
            have t15119 := cv_nlt (a := (v15091 40).toInt) rfl (b := 0) (by decide) c15098
            have hP9 : va_P (dC, dI) classes (wM g c v15091 F15092 rc) H := hP
            exact W.vret hx hb hr (fun t ht hW => ⟨⟨(v15091, F15092, rc), rfl, ⟨hI, rfl, (frC (by decide) hf15093 (frC (by decide) hf15079 (fun _ _ => rfl))), hF, (by show ((v 39).toInt ≤ (v15091 39).toInt ∧ (v15091 39).toInt ≤ (v 30).toInt ∧ (v 38).toInt ≤ (v15091 38).toInt ∧ (v15091 38).toInt - (v 38).toInt ≤ (v15091 39).toInt - (v 39).toInt ∧ (v 41).toInt ≤ (v15091 41).toInt ∧ ((v15091 40).toInt < 0 → (v15091 41).toInt = (v 41).toInt)) ∧ keepL (v 37) (F 28) (F 29) (F15092 28) (F15092 29) ∧ ((v15091 40).toInt < 0 → dp (F15092 28) (F15092 29) (bI (v 37)) (v15091 38).toInt.toNat = some (d + 1)); exact ⟨by omega, hk, fun hf => (hd (by omega)).trans (congrArg some (by omega))⟩)⟩, (by show va_P _ _ _ t.heap; rw [ht]; exact hP9)⟩, hS.F ht⟩) hS.2.2 dX12_operand_96
        · skip
          have t15120 := cv_eq (a := r15076.toInt) rfl (b := 0) (by decide) c15083
          have hP9 : va_P (dC, dI) classes (wM g c v15077 F15078 rc) H := hP
          exact W.vret hx hb hr (fun t ht hW => ⟨⟨(v15077, F15078, rc), rfl, ⟨hI, rfl, (frC (by decide) hf15079 (fun _ _ => rfl)), hF, (by show ((v 39).toInt ≤ (v15077 39).toInt ∧ (v15077 39).toInt ≤ (v 30).toInt ∧ (v 38).toInt ≤ (v15077 38).toInt ∧ (v15077 38).toInt - (v 38).toInt ≤ (v15077 39).toInt - (v 39).toInt ∧ (v 41).toInt ≤ (v15077 41).toInt ∧ ((v15077 40).toInt < 0 → (v15077 41).toInt = (v 41).toInt)) ∧ keepL (v 37) (F 28) (F 29) (F15078 28) (F15078 29) ∧ ((v15077 40).toInt < 0 → dp (F15078 28) (F15078 29) (bI (v 37)) (v15077 38).toInt.toNat = some (d + 1)); rw [show v15077 38 = v 38 from hf15079 38 (by decide)]; exact ⟨by omega, hk, fun hf => (hd (by omega)).trans (congrArg some (by omega))⟩)⟩, (by show va_P _ _ _ t.heap; rw [ht]; exact hP9)⟩, hS.F ht⟩) hS.2.2 dX12_operand_84
    · skip
      have t15121 := cv_eq (a := r15045.toInt) rfl (b := 45) (by decide) c15049
      refine lv_aload_n hx hb dX12_operand_40 rfl (lv_at hl 1 rfl) ?_
      have t15122 : 0 ≤ (v 39).toInt ∧ (v 39).toInt ≤ 120 := hI.1 39 _ _ rfl
      have t15123 : 0 ≤ (v 41).toInt ∧ (v 41).toInt ≤ 8 := hI.1 41 _ _ rfl
      refine va_calli (va_runV (As := []) (rest := []) ⟨hx, hb, hml, hown, hwd⟩ (c_X12_opens l dC dI g c adK adV v F rc H.size  hg hI (by have h9 : v 39 = v 39 := rfl; (try rw [h9]); clear h9; have h9 : v 30 = v 30 := rfl; (try rw [h9]); clear h9; omega)) (cwV 0 hwd (gV wk_1025 wk_1022 wk_1023 wk_1024 wk_5) rfl rfl rfl (by decide +kernel) ⟨Nat.le_of_ble_eq_true rfl, Nat.le_of_ble_eq_true rfl⟩) ⟨PM.blind, va_recv hK hP (ci := 12) (q0 := 0) rfl rfl, fun U hU hW => ⟨rfl, PM.at hK hE hP hS hU hW⟩⟩ rfl rfl hl.1 rfl (lv_room (Nat.le_of_ble_eq_true rfl)) dX12_operand_41 ⟨Nat.le_of_ble_eq_true rfl, Nat.le_of_ble_eq_true rfl⟩) hS (fun q _ h => (freeM hS) q h) (freeM hS) (fun r15124 u t H1 locs ht hvm hw hB hz1 hk1 hS => ?_)
      unfold BM at hB
      rw [ht] at hB
      obtain ⟨v15125, F15126, rc9⟩ := u
      obtain ⟨hI, hrc, hf15127, hG15128, hw⟩ := hw
      dsimp only at hI hrc hB hf15127 hG15128 hw
      have hF := frCF (by decide) hG15128 hF
      rw [hrc] at hB
      have hP : va_P (dC, dI) classes (wM g c v15125 F15126 rc) H1 := hB
      have hw : (r15124.toInt = 1 ∧ (v 41).toInt < 8 ∧ (v15125 41).toInt = (v 41).toInt + 1 ∧ (v15125 39).toInt = (v 39).toInt + 1 ∧ (v15125 40).toInt = (v 40).toInt) ∨ (r15124.toInt = 0 ∧ (v 41).toInt = 8 ∧ 0 ≤ (v15125 40).toInt ∧ (v15125 41).toInt = (v 41).toInt ∧ (v15125 39).toInt = (v 39).toInt) := hw
      have hw_r15124 := hw
      have t15129 : 0 ≤ (v15125 39).toInt ∧ (v15125 39).toInt ≤ 120 := hI.1 39 _ _ rfl
      have t15130 : 0 ≤ (v15125 41).toInt ∧ (v15125 41).toInt ≤ 8 := hI.1 41 _ _ rfl
      generalize H1 = H at hP hS ⊢
      have hk : keepL (v 37) (F 28) (F 29) (F15126 28) (F15126 29) := by rw [hG15128 28 (by decide), hG15128 29 (by decide)]; exact hk
      have hd : (v15125 40).toInt < 0 → dp (F15126 28) (F15126 29) (bI (v 37)) (v 38).toInt.toNat = some d := fun hf => (by rw [hG15128 28 (by decide), hG15128 29 (by decide)]; exact hd (by omega))
      refine lv_if_ne (tgt := 48) hx hb dX12_operand_44 (by decide) (fun c15131 => ?_) (fun c15131 => ?_)
      · skip
        have t15132 := cv_ne (a := r15124.toInt) rfl (b := 0) (by decide) c15131
        refine lv_aload_n hx hb dX12_operand_48 rfl (lv_at hl 1 rfl) ?_
        have t15133 : 0 ≤ (v 30).toInt ∧ (v 30).toInt ≤ 120 := by have h9 := hI.1 30 _ _ rfl; rw [show v15125 30 = v 30 from hf15127 30 (by decide)] at h9; exact h9
        have t15134 : 0 ≤ (v 37).toInt ∧ (v 37).toInt ≤ 9 := by have h9 := hI.1 37 _ _ rfl; rw [show v15125 37 = v 37 from hf15127 37 (by decide)] at h9; exact h9
        have t15135 : 0 ≤ (v 38).toInt ∧ (v 38).toInt ≤ 120 := by have h9 := hI.1 38 _ _ rfl; rw [show v15125 38 = v 38 from hf15127 38 (by decide)] at h9; exact h9
        have t15136 : 0 ≤ (v15125 39).toInt ∧ (v15125 39).toInt ≤ 120 := hI.1 39 _ _ rfl
        have t15137 : 0 ≤ (v15125 41).toInt ∧ (v15125 41).toInt ≤ 8 := hI.1 41 _ _ rfl
        refine va_callv (va_runV (As := []) (rest := []) ⟨hx, hb, hml, hown, hwd⟩ (c_X12_operand_6 l dC dI g c adK adV v15125 F15126 rc H.size  d hg hI (by have h9 : v15125 38 = v 38 := hf15127 38 (by decide); (try rw [h9]); clear h9; have h9 : v15125 39 = v15125 39 := rfl; (try rw [h9]); clear h9; have h9 : v15125 30 = v 30 := hf15127 30 (by decide); (try rw [h9]); clear h9; have h9 : v15125 40 = v15125 40 := rfl; (try rw [h9]); clear h9; have h9 : v15125 41 = v15125 41 := rfl; (try rw [h9]); clear h9; omega) (by have h9 : v15125 37 = (v 37) := hf15127 37 (by decide); have h8 : v15125 38 = (v 38) := hf15127 38 (by decide); (try rw [h9]); (try rw [h8]); exact hd (by omega))) (cwV 0 hwd (gV wk_1030 wk_1035 wk_1036 wk_1037 wk_5) rfl rfl rfl (by decide +kernel) ⟨Nat.le_of_ble_eq_true rfl, Nat.le_of_ble_eq_true rfl⟩) ⟨PM.blind, va_recv hK hP (ci := 12) (q0 := 0) rfl rfl, fun U hU hW => ⟨rfl, PM.at hK hE hP hS hU hW⟩⟩ rfl rfl hl.1 rfl (lv_room (Nat.le_of_ble_eq_true rfl)) dX12_operand_49 ⟨Nat.le_of_ble_eq_true rfl, Nat.le_of_ble_eq_true rfl⟩) hS (fun q _ h => (freeM hS) q h) (freeM hS) (fun u t H1 locs ht hvm hw hB hz1 hk1 hS => ?_)
        unfold BM at hB
        rw [ht] at hB
        obtain ⟨v15139, F15140, rc9⟩ := u
        obtain ⟨hI, hrc, hf15141, hG15142, hw⟩ := hw
        dsimp only at hI hrc hB hf15141 hG15142 hw
        have hF := frCF (by decide) hG15142 hF
        rw [hrc] at hB
        have hP : va_P (dC, dI) classes (wM g c v15139 F15140 rc) H1 := hB
        have hw : ((v15125 39).toInt ≤ (v15139 39).toInt ∧ (v15139 39).toInt ≤ (v15125 30).toInt ∧ (v15125 38).toInt ≤ (v15139 38).toInt ∧ (v15139 38).toInt - (v15125 38).toInt ≤ (v15139 39).toInt - (v15125 39).toInt ∧ (v15125 41).toInt ≤ (v15139 41).toInt ∧ ((v15139 40).toInt < 0 → (v15139 41).toInt = (v15125 41).toInt)) ∧ keepL (v15125 37) (F15126 28) (F15126 29) (F15140 28) (F15140 29) ∧ ((v15139 40).toInt < 0 → dp (F15140 28) (F15140 29) (bI (v15125 37)) (v15139 38).toInt.toNat = some (d + 1)) := hw
        rw [show v15125 30 = v 30 from hf15127 30 (by decide)] at hw
        rw [show v15125 38 = v 38 from hf15127 38 (by decide)] at hw
        rw [show v15125 37 = v 37 from hf15127 37 (by decide)] at hw
        have hw_r15138 := hw
        have t15143 : 0 ≤ (v15139 38).toInt ∧ (v15139 38).toInt ≤ 120 := hI.1 38 _ _ rfl
        have t15144 : 0 ≤ (v15139 39).toInt ∧ (v15139 39).toInt ≤ 120 := hI.1 39 _ _ rfl
        have t15145 : 0 ≤ (v15139 41).toInt ∧ (v15139 41).toInt ≤ 8 := hI.1 41 _ _ rfl
        generalize H1 = H at hP hS ⊢
        have hk := hk.tr hw_r15138.2.1
        have hd := hw_r15138.2.2
        refine lv_aload_n hx hb dX12_operand_52 rfl (lv_at hl 1 rfl) ?_
        refine lv_iconst (v := 3) hx hb dX12_operand_53 (by decide) ?_
        refine lv_iconst (v := 0) hx hb dX12_operand_54 (by decide) ?_
        have t15146 : 0 ≤ (v 37).toInt ∧ (v 37).toInt ≤ 9 := by have h9 := hI.1 37 _ _ rfl; rw [show v15139 37 = v 37 from (hf15141 37 (by decide)).trans (hf15127 37 (by decide))] at h9; exact h9
        have t15147 : 0 ≤ (v15139 38).toInt ∧ (v15139 38).toInt ≤ 120 := hI.1 38 _ _ rfl
        refine va_callv (va_runV (As := [.int 3, .int 0]) (rest := []) ⟨hx, hb, hml, hown, hwd⟩ (c_X12_lay l dC dI g c adK adV v15139 F15140 rc H.size 3 0 hg hI (by have h9 : v15139 38 = v15139 38 := rfl; rw [h9]; omega)) (cwV 2 hwd (gV wk_1021 wk_1018 wk_1019 wk_1020 wk_5) rfl rfl rfl (by decide +kernel) ⟨Nat.le_of_ble_eq_true rfl, Nat.le_of_ble_eq_true rfl⟩) ⟨PM.blind, va_recv hK hP (ci := 12) (q0 := 0) rfl rfl, fun U hU hW => ⟨rfl, PM.at hK hE hP hS hU hW⟩⟩ rfl rfl hl.1 rfl (lv_room (Nat.le_of_ble_eq_true rfl)) dX12_operand_55 ⟨Nat.le_of_ble_eq_true rfl, Nat.le_of_ble_eq_true rfl⟩) hS (fun q _ h => (freeM hS) q h) (freeM hS) (fun u t H1 locs ht hvm hw hB hz1 hk1 hS => ?_)
        unfold BM at hB
        rw [ht] at hB
        obtain ⟨v15149, F15150, rc9⟩ := u
        obtain ⟨hI, hrc, hf15151, hG15152, hw⟩ := hw
        dsimp only at hI hrc hB hf15151 hG15152 hw
        have hF := frCF (by decide) hG15152 hF
        rw [hrc] at hB
        have hP : va_P (dC, dI) classes (wM g c v15149 F15150 rc) H1 := hB
        have hw : (v15149 38).toInt = (v15139 38).toInt + 1 ∧ keepL (v15139 37) (F15140 28) (F15140 29) (F15150 28) (F15150 29) ∧ dp (F15150 28) (F15150 29) (bI (v15139 37)) ((v15139 38).toInt.toNat + 1) = dpS (dp (F15140 28) (F15140 29) (bI (v15139 37)) (v15139 38).toInt.toNat) (3 : Int32) (0 : Int32) := hw
        rw [show v15139 37 = v 37 from (hf15141 37 (by decide)).trans (hf15127 37 (by decide))] at hw
        have hw_r15148 := hw
        have t15153 : 0 ≤ (v15149 38).toInt ∧ (v15149 38).toInt ≤ 120 := hI.1 38 _ _ rfl
        have k15154 : (3 : Int32).toInt = 3 := by decide
        have k15155 : (0 : Int32).toInt = 0 := by decide
        generalize H1 = H at hP hS ⊢
        have hk := hk.tr hw_r15148.2.1
        have hd : (v15139 40).toInt < 0 → dp (F15150 28) (F15150 29) (bI (v 37)) (v15149 38).toInt.toNat = some (d + 1) := fun hf => (by have e9 : (v15149 38).toInt.toNat = (v15139 38).toInt.toNat + 1 := (by omega); rw [e9, hw_r15148.2.2, hd hf]; exact dpS_3 (by decide) (by omega))
        refine lv_aload_n hx hb dX12_operand_58 rfl (lv_at hl 1 rfl) ?_
        refine lv_dup hx hb dX12_operand_59 rfl ?_
        refine va_get (D := (dC, dI)) (ci := 12) (v := .int (v15149 41)) (C := RX12) (T := TX12) (N := 63) hx hb hwd inA_X12 hown hK hP 0 rfl rfl 41 (by decide) (hwd _ wk_1006) (fun _ h9 => h9) rfl dX12_operand_60 ?_
        refine my_top (v := v15139 41) (hf15151 41 (by decide)) ?_
        have t15156 : 0 ≤ (v15139 41).toInt ∧ (v15139 41).toInt ≤ 8 := by have h9 := hI.1 41 _ _ rfl; rw [show v15149 41 = v15139 41 from hf15151 41 (by decide)] at h9; exact h9
        refine lv_iconst (v := 1) hx hb dX12_operand_63 (by decide) ?_
        refine lv_isub hx hb dX12_operand_64 ?_
        refine lv_topi (fun z15157 e15158 => ?_)
        try (have t15159 := tsub e15158 (a := (v15139 41).toInt) rfl (b := 1) (by decide) (by omega))
        refine va_put (D := (dC, dI)) (ci := 12) (v := .int z15157) (ty := .int) (C := RX12) (T := TX12) (N := 63) (fs := fsM_0 g v15149 rc) hx hb hwd inA_X12 tyX12 tyX12_ok nmX12 hown hK hP (DM hg) hS 0 rfl rfl 41 (by decide) (hwd _ wk_1006) (fun _ h9 => h9) rfl (by decide +kernel) rfl rfl (Nat.le_of_ble_eq_true rfl) dX12_operand_65 (fun H locs hP _ hS => ?_)
        have hP := va_P_eq (pM_41 g c _ _ _ _) hP
        have hI := IM.put hI 41 z15157 rfl (by omega)
        refine lv_goto (tgt := 150) hx hb dX12_operand_68 (by decide) ?_
        have hP9 : va_P (dC, dI) classes (wM g c (va_up v15149 41 z15157) F15150 rc) H := hP
        exact W.vret hx hb hr (fun t ht hW => ⟨⟨((va_up v15149 41 z15157), F15150, rc), rfl, ⟨hI, rfl, (frU (by decide) (frC (by decide) hf15151 (frC (by decide) hf15141 (frC (by decide) hf15127 (fun _ _ => rfl))))), hF, (by show ((v 39).toInt ≤ ((va_up v15149 41 z15157) 39).toInt ∧ ((va_up v15149 41 z15157) 39).toInt ≤ (v 30).toInt ∧ (v 38).toInt ≤ (v15149 38).toInt ∧ (v15149 38).toInt - (v 38).toInt ≤ ((va_up v15149 41 z15157) 39).toInt - (v 39).toInt ∧ (v 41).toInt ≤ z15157.toInt ∧ (((va_up v15149 41 z15157) 40).toInt < 0 → z15157.toInt = (v 41).toInt)) ∧ keepL (v 37) (F 28) (F 29) (F15150 28) (F15150 29) ∧ (((va_up v15149 41 z15157) 40).toInt < 0 → dp (F15150 28) (F15150 29) (bI (v 37)) (v15149 38).toInt.toNat = some (d + 1)); rw [show (va_up v15149 41 z15157) 39 = v15139 39 from hf15151 39 (by decide)]; rw [show (va_up v15149 41 z15157) 40 = v15139 40 from hf15151 40 (by decide)]; exact ⟨by omega, hk, fun hf => (hd (by omega)).trans (congrArg some (by omega))⟩)⟩, (by show va_P _ _ _ t.heap; rw [ht]; exact hP9)⟩, hS.F ht⟩) hS.2.2 dX12_operand_150
      · skip
        have t15160 := cv_eq (a := r15124.toInt) rfl (b := 0) (by decide) c15131
        have hP9 : va_P (dC, dI) classes (wM g c v15125 F15126 rc) H := hP
        exact W.vret hx hb hr (fun t ht hW => ⟨⟨(v15125, F15126, rc), rfl, ⟨hI, rfl, (frC (by decide) hf15127 (fun _ _ => rfl)), hF, (by show ((v 39).toInt ≤ (v15125 39).toInt ∧ (v15125 39).toInt ≤ (v 30).toInt ∧ (v 38).toInt ≤ (v15125 38).toInt ∧ (v15125 38).toInt - (v 38).toInt ≤ (v15125 39).toInt - (v 39).toInt ∧ (v 41).toInt ≤ (v15125 41).toInt ∧ ((v15125 40).toInt < 0 → (v15125 41).toInt = (v 41).toInt)) ∧ keepL (v 37) (F 28) (F 29) (F15126 28) (F15126 29) ∧ ((v15125 40).toInt < 0 → dp (F15126 28) (F15126 29) (bI (v 37)) (v15125 38).toInt.toNat = some (d + 1)); rw [show v15125 38 = v 38 from hf15127 38 (by decide)]; exact ⟨by omega, hk, fun hf => (hd (by omega)).trans (congrArg some (by omega))⟩)⟩, (by show va_P _ _ _ t.heap; rw [ht]; exact hP9)⟩, hS.F ht⟩) hS.2.2 dX12_operand_47
  · skip
    have t15161 := cv_nlt (a := r15046.toInt) rfl (b := 0) (by decide) c15047
    refine lv_aload_n hx hb dX12_operand_12 rfl (lv_at hl 1 rfl) ?_
    refine lv_iconst (v := 2) hx hb dX12_operand_13 (by decide) ?_
    refine lv_iload_n hx hb dX12_operand_14 rfl (lv_at hl 0 rfl) ?_
    refine va_calli (va_runS (As := [.int r15045]) (rest := [.int 2, .ref (g 0)]) ⟨hx, hb, hml, hown, hwd⟩ (c_X12_nameOf l dC dI g c adK adV v F rc H.size r15045 hg hI ) (va_cwS 1 hwd (gT wk_1034 wk_1032 wk_1033 wk_5) rfl rfl rfl (by decide +kernel) ⟨Nat.le_of_ble_eq_true rfl, Nat.le_of_ble_eq_true rfl⟩) ⟨PM.blind, fun U hU hW => ⟨rfl, PM.at hK hE hP hS hU hW⟩⟩ rfl rfl hl.1 rfl (lv_room (Nat.le_of_ble_eq_true rfl)) dX12_operand_15 ⟨Nat.le_of_ble_eq_true rfl, Nat.le_of_ble_eq_true rfl⟩) hS (fun q _ h => (freeM hS) q h) (freeM hS) (fun r15162 u t H1 locs ht hvm hw hB hz1 hk1 hS => ?_)
    unfold BM at hB
    rw [ht] at hB
    have hP : va_P (dC, dI) classes (wM g c v F rc) H1 := hB
    have hw : r15162.toInt = nmM r15045 ∧ (-1 ≤ r15162.toInt ∧ r15162.toInt ≤ 5) := hw
    have hw_r15162 := hw
    generalize H1 = H at hP hS ⊢
    have np_r15162 := nmM_pos r15045
    have t15163 : 0 ≤ (v 37).toInt ∧ (v 37).toInt ≤ 9 := hI.1 37 _ _ rfl
    have t15164 : 0 ≤ (v 38).toInt ∧ (v 38).toInt ≤ 120 := hI.1 38 _ _ rfl
    refine va_callv (va_runV (As := [.int 2, .int r15162]) (rest := []) ⟨hx, hb, hml, hown, hwd⟩ (c_X12_lay l dC dI g c adK adV v F rc H.size 2 r15162 hg hI (by have h9 : v 38 = v 38 := rfl; rw [h9]; omega)) (cwV 2 hwd (gV wk_1021 wk_1018 wk_1019 wk_1020 wk_5) rfl rfl rfl (by decide +kernel) ⟨Nat.le_of_ble_eq_true rfl, Nat.le_of_ble_eq_true rfl⟩) ⟨PM.blind, va_recv hK hP (ci := 12) (q0 := 0) rfl rfl, fun U hU hW => ⟨rfl, PM.at hK hE hP hS hU hW⟩⟩ rfl rfl hl.1 rfl (lv_room (Nat.le_of_ble_eq_true rfl)) dX12_operand_18 ⟨Nat.le_of_ble_eq_true rfl, Nat.le_of_ble_eq_true rfl⟩) hS (fun q _ h => (freeM hS) q h) (freeM hS) (fun u t H1 locs ht hvm hw hB hz1 hk1 hS => ?_)
    unfold BM at hB
    rw [ht] at hB
    obtain ⟨v15166, F15167, rc9⟩ := u
    obtain ⟨hI, hrc, hf15168, hG15169, hw⟩ := hw
    dsimp only at hI hrc hB hf15168 hG15169 hw
    have hF := frCF (by decide) hG15169 hF
    rw [hrc] at hB
    have hP : va_P (dC, dI) classes (wM g c v15166 F15167 rc) H1 := hB
    have hw : (v15166 38).toInt = (v 38).toInt + 1 ∧ keepL (v 37) (F 28) (F 29) (F15167 28) (F15167 29) ∧ dp (F15167 28) (F15167 29) (bI (v 37)) ((v 38).toInt.toNat + 1) = dpS (dp (F 28) (F 29) (bI (v 37)) (v 38).toInt.toNat) (2 : Int32) r15162 := hw
    have hw_r15165 := hw
    have t15170 : 0 ≤ (v15166 38).toInt ∧ (v15166 38).toInt ≤ 120 := hI.1 38 _ _ rfl
    have k15171 : (2 : Int32).toInt = 2 := by decide
    generalize H1 = H at hP hS ⊢
    have hk := hk.tr hw_r15165.2.1
    have hd : (v 40).toInt < 0 → dp (F15167 28) (F15167 29) (bI (v 37)) (v15166 38).toInt.toNat = some (d + 1) := fun hf => (by have e9 : (v15166 38).toInt.toNat = (v 38).toInt.toNat + 1 := (by omega); rw [e9, hw_r15165.2.2, hd hf]; exact dpS_2 (by decide) (by omega))
    refine lv_aload_n hx hb dX12_operand_21 rfl (lv_at hl 1 rfl) ?_
    refine lv_dup hx hb dX12_operand_22 rfl ?_
    refine va_get (D := (dC, dI)) (ci := 12) (v := .int (v15166 39)) (C := RX12) (T := TX12) (N := 63) hx hb hwd inA_X12 hown hK hP 0 rfl rfl 39 (by decide) (hwd _ wk_1004) (fun _ h9 => h9) rfl dX12_operand_23 ?_
    refine my_top (v := v 39) (hf15168 39 (by decide)) ?_
    have t15172 : 0 ≤ (v 39).toInt ∧ (v 39).toInt ≤ 120 := by have h9 := hI.1 39 _ _ rfl; rw [show v15166 39 = v 39 from hf15168 39 (by decide)] at h9; exact h9
    refine lv_iconst (v := 1) hx hb dX12_operand_26 (by decide) ?_
    refine lv_iadd hx hb dX12_operand_27 ?_
    refine lv_topi (fun z15173 e15174 => ?_)
    try (have t15175 := tadd e15174 (a := (v 39).toInt) rfl (b := 1) (by decide) (by omega))
    refine va_put (D := (dC, dI)) (ci := 12) (v := .int z15173) (ty := .int) (C := RX12) (T := TX12) (N := 63) (fs := fsM_0 g v15166 rc) hx hb hwd inA_X12 tyX12 tyX12_ok nmX12 hown hK hP (DM hg) hS 0 rfl rfl 39 (by decide) (hwd _ wk_1004) (fun _ h9 => h9) rfl (by decide +kernel) rfl rfl (Nat.le_of_ble_eq_true rfl) dX12_operand_28 (fun H locs hP _ hS => ?_)
    have hP := va_P_eq (pM_39 g c _ _ _ _) hP
    have hI := IM.put hI 39 z15173 rfl (by omega)
    refine lv_goto (tgt := 150) hx hb dX12_operand_31 (by decide) ?_
    have hP9 : va_P (dC, dI) classes (wM g c (va_up v15166 39 z15173) F15167 rc) H := hP
    exact W.vret hx hb hr (fun t ht hW => ⟨⟨((va_up v15166 39 z15173), F15167, rc), rfl, ⟨hI, rfl, (frU (by decide) (frC (by decide) hf15168 (fun _ _ => rfl))), hF, (by show ((v 39).toInt ≤ z15173.toInt ∧ z15173.toInt ≤ (v 30).toInt ∧ (v 38).toInt ≤ (v15166 38).toInt ∧ (v15166 38).toInt - (v 38).toInt ≤ z15173.toInt - (v 39).toInt ∧ (v 41).toInt ≤ ((va_up v15166 39 z15173) 41).toInt ∧ (((va_up v15166 39 z15173) 40).toInt < 0 → ((va_up v15166 39 z15173) 41).toInt = (v 41).toInt)) ∧ keepL (v 37) (F 28) (F 29) (F15167 28) (F15167 29) ∧ (((va_up v15166 39 z15173) 40).toInt < 0 → dp (F15167 28) (F15167 29) (bI (v 37)) (v15166 38).toInt.toNat = some (d + 1)); rw [show (va_up v15166 39 z15173) 41 = v 41 from hf15168 41 (by decide)]; rw [show (va_up v15166 39 z15173) 40 = v 40 from hf15168 40 (by decide)]; exact ⟨by omega, hk, fun hf => (hd (by omega)).trans (congrArg some (by omega))⟩)⟩, (by show va_P _ _ _ t.heap; rw [ht]; exact hP9)⟩, hS.F ht⟩) hS.2.2 dX12_operand_150
set_option maxHeartbeats 8000000 in
set_option maxRecDepth 100000 in
theorem c_X12_product_5 (l : Launch) (dC : Nat → ClassId) (dI : Nat → Nat → Nat) (g : Nat → Nat) (c : Nat → ClassId) (adK adV : Nat → Nat) (v : Nat → Int32) (F : Nat → Nat → Int32) (rc sz : Nat) (d : Nat) (hg : injM g) (hI : IM v F) (hq : (v 38).toInt ≤ (v 39).toInt ∧ (v 39).toInt ≤ (v 30).toInt ∧ (v 40).toInt < 0 ∧ (v 41).toInt = 5) (hdp : dp (F 28) (F 29) (bI (v 37)) (v 38).toInt.toNat = some d) : Met l yX12_product (Cond.code yX12_product cX12_product 2 none :: wA) ({ frames := 16, cells := 0, slots := 0, locals := 640 }) (va_Pc [.ref (g 0)] (PM dC dI g c adK adV v F rc sz)) (va_Qv (fun (u : StM) => IM u.1 u.2.1 ∧ u.2.2 = rc ∧ (∀ k, k ∉ ([38, 39, 40, 41, 42] : List Nat) → u.1 k = v k) ∧ (∀ k, k ∉ ([28, 29] : List Nat) → u.2.1 k = F k) ∧ (((v 39).toInt ≤ (u.1 39).toInt ∧ (u.1 39).toInt ≤ (v 30).toInt ∧ (v 38).toInt ≤ (u.1 38).toInt ∧ (u.1 38).toInt - (v 38).toInt ≤ (u.1 39).toInt - (v 39).toInt ∧ (v 41).toInt ≤ (u.1 41).toInt ∧ ((u.1 40).toInt < 0 → (u.1 41).toInt = (v 41).toInt)) ∧ keepL (v 37) (F 28) (F 29) (u.2.1 28) (u.2.1 29) ∧ ((u.1 40).toInt < 0 → dp (u.2.1 28) (u.2.1 29) (bI (v 37)) (u.1 38).toInt.toNat = some (d + 1)))) (BM dC dI g c) (AM g sz)) 0 0 (AM g sz) := by
  refine Met.ofW (cc := cX12_product) (maxL := 2) (ret := none) (by decide) rfl ?_
  intro p e s m args below meth c0 s₁ B hml hv
  obtain ⟨rfl, hsz, hP, hK, hE⟩ := hv
  have hx := B.exec
  have hb := B.bytes
  have hr := B.returns
  have hts := atoms_spec (ws := Cond.code yX12_product cX12_product 2 none :: wA) B.pre
  have hwd : ∀ w ∈ wA, w.before _ s = true := fun w h => hts w (List.mem_cons_of_mem _ h)
  have hown : s.vm.findClass RX12 = some m.cls := findClass_of_methodNamed B.named
  have hlocks := B.notSynchronized
  subst hsz
  have hl := lv_entry ([.ref (g 0)]) (n := 2) (Nat.le_of_ble_eq_true rfl)
  rw [lg_entry_eq]
  generalize (lg_sl ([.ref (g 0)]) ++ List.replicate (2 - (lg_sl ([.ref (g 0)])).length) Slot.unset).toArray = ls at hl ⊢
  have hl : lv_has ls 2 [(0, .ref (g 0))] := hl
  obtain ⟨H, eH⟩ : ∃ z, z = s.heap := ⟨_, rfl⟩
  have hP : va_P (dC, dI) classes (wM g c v F rc) H := by rw [eH]; exact hP
  have hS : va_S (AM g s.heap.size) s.heap H [] := by rw [eH]; exact va_S.rf
  refine my_heap eH ?_
  have hF : ∀ k, k ∉ ([28, 29] : List Nat) → F k = F k := fun _ _ => rfl
  have hb30 : 0 ≤ (v 30).toInt ∧ (v 30).toInt ≤ 120 := hI.1 30 _ _ rfl
  have hb37 : 0 ≤ (v 37).toInt ∧ (v 37).toInt ≤ 9 := hI.1 37 _ _ rfl
  have hb38 : 0 ≤ (v 38).toInt ∧ (v 38).toInt ≤ 120 := hI.1 38 _ _ rfl
  have hb39 : 0 ≤ (v 39).toInt ∧ (v 39).toInt ≤ 120 := hI.1 39 _ _ rfl
  have hb41 : 0 ≤ (v 41).toInt ∧ (v 41).toInt ≤ 8 := hI.1 41 _ _ rfl
  have hk : keepL (v 37) (F 28) (F 29) (F 28) (F 29) := keepL.rf
  have hd : (v 40).toInt < 0 → dp (F 28) (F 29) (bI (v 37)) (v 38).toInt.toNat = some d := fun _ => hdp
  refine lv_aload_n hx hb dX12_product_0 rfl (lv_at hl 0 rfl) ?_
  have t15266 : 0 ≤ (v 30).toInt ∧ (v 30).toInt ≤ 120 := hI.1 30 _ _ rfl
  have t15267 : 0 ≤ (v 37).toInt ∧ (v 37).toInt ≤ 9 := hI.1 37 _ _ rfl
  have t15268 : 0 ≤ (v 38).toInt ∧ (v 38).toInt ≤ 120 := hI.1 38 _ _ rfl
  have t15269 : 0 ≤ (v 39).toInt ∧ (v 39).toInt ≤ 120 := hI.1 39 _ _ rfl
  have t15270 : 0 ≤ (v 41).toInt ∧ (v 41).toInt ≤ 8 := hI.1 41 _ _ rfl
  refine va_callv (va_runV (As := []) (rest := []) ⟨hx, hb, hml, hown, hwd⟩ (c_X12_operand_5 l dC dI g c adK adV v F rc H.size  d hg hI (by have h9 : v 38 = v 38 := rfl; (try rw [h9]); clear h9; have h9 : v 39 = v 39 := rfl; (try rw [h9]); clear h9; have h9 : v 30 = v 30 := rfl; (try rw [h9]); clear h9; have h9 : v 40 = v 40 := rfl; (try rw [h9]); clear h9; have h9 : v 41 = v 41 := rfl; (try rw [h9]); clear h9; omega) (by have h9 : v 37 = (v 37) := rfl; have h8 : v 38 = (v 38) := rfl; (try rw [h9]); (try rw [h8]); exact hd (by omega))) (cwV 0 hwd (gV wk_1030 wk_1035 wk_1036 wk_1037 wk_5) rfl rfl rfl (by decide +kernel) ⟨Nat.le_of_ble_eq_true rfl, Nat.le_of_ble_eq_true rfl⟩) ⟨PM.blind, va_recv hK hP (ci := 12) (q0 := 0) rfl rfl, fun U hU hW => ⟨rfl, PM.at hK hE hP hS hU hW⟩⟩ rfl rfl hl.1 rfl (lv_room (Nat.le_of_ble_eq_true rfl)) dX12_product_1 ⟨Nat.le_of_ble_eq_true rfl, Nat.le_of_ble_eq_true rfl⟩) hS (fun q _ h => (freeM hS) q h) (freeM hS) (fun u t H1 locs ht hvm hw hB hz1 hk1 hS => ?_)
  unfold BM at hB
  rw [ht] at hB
  obtain ⟨v15272, F15273, rc9⟩ := u
  obtain ⟨hI, hrc, hf15274, hG15275, hw⟩ := hw
  dsimp only at hI hrc hB hf15274 hG15275 hw
  have hF := frCF (by decide) hG15275 hF
  rw [hrc] at hB
  have hP : va_P (dC, dI) classes (wM g c v15272 F15273 rc) H1 := hB
  have hw : ((v 39).toInt ≤ (v15272 39).toInt ∧ (v15272 39).toInt ≤ (v 30).toInt ∧ (v 38).toInt ≤ (v15272 38).toInt ∧ (v15272 38).toInt - (v 38).toInt ≤ (v15272 39).toInt - (v 39).toInt ∧ (v 41).toInt ≤ (v15272 41).toInt ∧ ((v15272 40).toInt < 0 → (v15272 41).toInt = (v 41).toInt)) ∧ keepL (v 37) (F 28) (F 29) (F15273 28) (F15273 29) ∧ ((v15272 40).toInt < 0 → dp (F15273 28) (F15273 29) (bI (v 37)) (v15272 38).toInt.toNat = some (d + 1)) := hw
  have hw_r15271 := hw
  have t15276 : 0 ≤ (v15272 38).toInt ∧ (v15272 38).toInt ≤ 120 := hI.1 38 _ _ rfl
  have t15277 : 0 ≤ (v15272 39).toInt ∧ (v15272 39).toInt ≤ 120 := hI.1 39 _ _ rfl
  have t15278 : 0 ≤ (v15272 41).toInt ∧ (v15272 41).toInt ≤ 8 := hI.1 41 _ _ rfl
  generalize H1 = H at hP hS ⊢
  have hk := hk.tr hw_r15271.2.1
  have hd := hw_r15271.2.2
  have lp15279 : ∀ (n : Nat) (v_lp15279 : Nat → Int32) (F_lp15279 : Nat → Nat → Int32) (H : Heap) (locs : List Loc) (ls : Array Slot), ((v 39).toInt ≤ (v_lp15279 39).toInt ∧ (v_lp15279 39).toInt ≤ (v 30).toInt ∧ (v 38).toInt ≤ (v_lp15279 38).toInt ∧ (v_lp15279 38).toInt - (v 38).toInt ≤ (v_lp15279 39).toInt - (v 39).toInt ∧ (v 41).toInt ≤ (v_lp15279 41).toInt ∧ ((v_lp15279 40).toInt < 0 → (v_lp15279 41).toInt = (v 41).toInt)) → (keepL (v 37) (F 28) (F 29) (F_lp15279 28) (F_lp15279 29)) → (((v_lp15279 40).toInt < 0 → dp (F_lp15279 28) (F_lp15279 29) (bI (v 37)) (v_lp15279 38).toInt.toNat = some (d + 1))) → (121 - (v_lp15279 39).toInt ≤ (n : Int)) → (∀ k, k ∉ ([38, 39, 40, 41, 42] : List Nat) → v_lp15279 k = v15272 k) → IM v_lp15279 F_lp15279 → (∀ k, k ∉ ([28, 29] : List Nat) → F_lp15279 k = F k) → va_P (dC, dI) classes (wM g c v_lp15279 F_lp15279 rc) H → va_S (AM g s.heap.size) s.heap H locs → lv_has ls 2 [(0, .ref (g 0))] → W p l e (headSpec (Cond.code yX12_product cX12_product 2 none :: wA) ({ frames := 16, cells := 0, slots := 0, locals := 640 })).room s m ([.ref (g 0)] : List Value).toArray below meth c0 H locs 0 0 (MQ below (va_Qv (fun (u : StM) => IM u.1 u.2.1 ∧ u.2.2 = rc ∧ (∀ k, k ∉ ([38, 39, 40, 41, 42] : List Nat) → u.1 k = v k) ∧ (∀ k, k ∉ ([28, 29] : List Nat) → u.2.1 k = F k) ∧ (((v 39).toInt ≤ (u.1 39).toInt ∧ (u.1 39).toInt ≤ (v 30).toInt ∧ (v 38).toInt ≤ (u.1 38).toInt ∧ (u.1 38).toInt - (v 38).toInt ≤ (u.1 39).toInt - (v 39).toInt ∧ (v 41).toInt ≤ (u.1 41).toInt ∧ ((u.1 40).toInt < 0 → (u.1 41).toInt = (v 41).toInt)) ∧ keepL (v 37) (F 28) (F 29) (u.2.1 28) (u.2.1 29) ∧ ((u.1 40).toInt < 0 → dp (u.2.1 28) (u.2.1 29) (bI (v 37)) (u.1 38).toInt.toNat = some (d + 1)))) (BM dC dI g c) (AM g s.heap.size)) ([.ref (g 0)] : List Value).toArray s 0 0 (AM g s.heap.size)) (F0 m 4 ls []) := by
    intro n
    induction n with
    | zero =>
      intro v_lp15279 F_lp15279 H locs ls t15280 t15281 t15282 hm hf_lp15279 hI hF hP hS hl
      exfalso
      have hI1 := hI.1
      omega
    | succ n ih_lp15279 =>
      intro v_lp15279 F_lp15279 H locs ls t15280 t15281 t15282 hm hf_lp15279 hI hF hP hS hl
      have hk := t15281
      have hd := t15282
      refine lv_aload_n hx hb dX12_product_4 rfl (lv_at hl 0 rfl) ?_
      refine va_get (D := (dC, dI)) (ci := 12) (v := .int (v_lp15279 40)) (C := RX12) (T := TX12) (N := 63) hx hb hwd inA_X12 hown hK hP 0 rfl rfl 40 (by decide) (hwd _ wk_1005) (fun _ h9 => h9) rfl dX12_product_5 ?_
      refine lv_if_ge (tgt := 57) hx hb dX12_product_8 (by decide) (fun c15283 => ?_) (fun c15283 => ?_)
      · skip
        have t15284 := cv_le (a := 0) (by decide) (b := (v_lp15279 40).toInt) rfl c15283
        have hP9 : va_P (dC, dI) classes (wM g c v_lp15279 F_lp15279 rc) H := hP
        exact W.vret hx hb hr (fun t ht hW => ⟨⟨(v_lp15279, F_lp15279, rc), rfl, ⟨hI, rfl, (frC (by decide) hf_lp15279 (frC (by decide) hf15274 (fun _ _ => rfl))), hF, (by show ((v 39).toInt ≤ (v_lp15279 39).toInt ∧ (v_lp15279 39).toInt ≤ (v 30).toInt ∧ (v 38).toInt ≤ (v_lp15279 38).toInt ∧ (v_lp15279 38).toInt - (v 38).toInt ≤ (v_lp15279 39).toInt - (v 39).toInt ∧ (v 41).toInt ≤ (v_lp15279 41).toInt ∧ ((v_lp15279 40).toInt < 0 → (v_lp15279 41).toInt = (v 41).toInt)) ∧ keepL (v 37) (F 28) (F 29) (F_lp15279 28) (F_lp15279 29) ∧ ((v_lp15279 40).toInt < 0 → dp (F_lp15279 28) (F_lp15279 29) (bI (v 37)) (v_lp15279 38).toInt.toNat = some (d + 1)); exact ⟨by omega, hk, fun hf => (hd (by omega)).trans (congrArg some (by omega))⟩)⟩, (by show va_P _ _ _ t.heap; rw [ht]; exact hP9)⟩, hS.F ht⟩) hS.2.2 dX12_product_57
      · skip
        have t15285 := cv_nle (a := 0) (by decide) (b := (v_lp15279 40).toInt) rfl c15283
        refine lv_aload_n hx hb dX12_product_11 rfl (lv_at hl 0 rfl) ?_
        have t15286 : 0 ≤ (v 30).toInt ∧ (v 30).toInt ≤ 120 := by have h9 := hI.1 30 _ _ rfl; rw [show v_lp15279 30 = v 30 from (hf_lp15279 30 (by decide)).trans (hf15274 30 (by decide))] at h9; exact h9
        have t15287 : 0 ≤ (v_lp15279 39).toInt ∧ (v_lp15279 39).toInt ≤ 120 := hI.1 39 _ _ rfl
        refine va_calli (va_runV (As := []) (rest := []) ⟨hx, hb, hml, hown, hwd⟩ (c_X12_look l dC dI g c adK adV v_lp15279 F_lp15279 rc H.size  hg hI ) (cwV 0 hwd (gV wk_1017 wk_1014 wk_1015 wk_1016 wk_5) rfl rfl rfl (by decide +kernel) ⟨Nat.le_of_ble_eq_true rfl, Nat.le_of_ble_eq_true rfl⟩) ⟨PM.blind, va_recv hK hP (ci := 12) (q0 := 0) rfl rfl, fun U hU hW => ⟨rfl, PM.at hK hE hP hS hU hW⟩⟩ rfl rfl hl.1 rfl (lv_room (Nat.le_of_ble_eq_true rfl)) dX12_product_12 ⟨Nat.le_of_ble_eq_true rfl, Nat.le_of_ble_eq_true rfl⟩) hS (fun q _ h => (freeM hS) q h) (freeM hS) (fun r15288 u t H1 locs ht hvm hw hB hz1 hk1 hS => ?_)
        unfold BM at hB
        rw [ht] at hB
        have hP : va_P (dC, dI) classes (wM g c v_lp15279 F_lp15279 rc) H1 := hB
        have hw : r15288.toInt = lkM (v_lp15279 39) (v_lp15279 30) (F_lp15279 24) ∧ ((v_lp15279 39).toInt < (v_lp15279 30).toInt ∨ r15288.toInt = -1) := hw
        rw [show v_lp15279 30 = v 30 from (hf_lp15279 30 (by decide)).trans (hf15274 30 (by decide))] at hw
        rw [hF 24 (by decide)] at hw
        have hw_r15288 := hw
        generalize H1 = H at hP hS ⊢
        refine lv_bipush (v := 42) hx hb dX12_product_15 (by decide) ?_
        refine lv_icmp_eq (tgt := 29) hx hb dX12_product_17 (by decide) (fun c15289 => ?_) (fun c15289 => ?_)
        · skip
          have t15290 := cv_eq (a := r15288.toInt) rfl (b := 42) (by decide) c15289
          refine lv_aload_n hx hb dX12_product_29 rfl (lv_at hl 0 rfl) ?_
          have t15291 : 0 ≤ (v 30).toInt ∧ (v 30).toInt ≤ 120 := by have h9 := hI.1 30 _ _ rfl; rw [show v_lp15279 30 = v 30 from (hf_lp15279 30 (by decide)).trans (hf15274 30 (by decide))] at h9; exact h9
          have t15292 : 0 ≤ (v_lp15279 39).toInt ∧ (v_lp15279 39).toInt ≤ 120 := hI.1 39 _ _ rfl
          refine va_calli (va_runV (As := []) (rest := []) ⟨hx, hb, hml, hown, hwd⟩ (c_X12_look l dC dI g c adK adV v_lp15279 F_lp15279 rc H.size  hg hI ) (cwV 0 hwd (gV wk_1017 wk_1014 wk_1015 wk_1016 wk_5) rfl rfl rfl (by decide +kernel) ⟨Nat.le_of_ble_eq_true rfl, Nat.le_of_ble_eq_true rfl⟩) ⟨PM.blind, va_recv hK hP (ci := 12) (q0 := 0) rfl rfl, fun U hU hW => ⟨rfl, PM.at hK hE hP hS hU hW⟩⟩ rfl rfl hl.1 rfl (lv_room (Nat.le_of_ble_eq_true rfl)) dX12_product_30 ⟨Nat.le_of_ble_eq_true rfl, Nat.le_of_ble_eq_true rfl⟩) hS (fun q _ h => (freeM hS) q h) (freeM hS) (fun r15293 u t H1 locs ht hvm hw hB hz1 hk1 hS => ?_)
          unfold BM at hB
          rw [ht] at hB
          have hP : va_P (dC, dI) classes (wM g c v_lp15279 F_lp15279 rc) H1 := hB
          have hw : r15293.toInt = lkM (v_lp15279 39) (v_lp15279 30) (F_lp15279 24) ∧ ((v_lp15279 39).toInt < (v_lp15279 30).toInt ∨ r15293.toInt = -1) := hw
          rw [show v_lp15279 30 = v 30 from (hf_lp15279 30 (by decide)).trans (hf15274 30 (by decide))] at hw
          rw [hF 24 (by decide)] at hw
          have hw_r15293 := hw
          generalize H1 = H at hP hS ⊢
          refine lv_istore_n (lv' := [(1, .int r15293), (0, .ref (g 0))]) hx hb dX12_product_33 rfl hl (by decide) rfl (fun ls hl => ?_)
          refine lv_aload_n hx hb dX12_product_34 rfl (lv_at hl 1 rfl) ?_
          refine lv_dup hx hb dX12_product_35 rfl ?_
          refine va_get (D := (dC, dI)) (ci := 12) (v := .int (v_lp15279 39)) (C := RX12) (T := TX12) (N := 63) hx hb hwd inA_X12 hown hK hP 0 rfl rfl 39 (by decide) (hwd _ wk_1004) (fun _ h9 => h9) rfl dX12_product_36 ?_
          have t15294 : 0 ≤ (v_lp15279 39).toInt ∧ (v_lp15279 39).toInt ≤ 120 := hI.1 39 _ _ rfl
          refine lv_iconst (v := 1) hx hb dX12_product_39 (by decide) ?_
          refine lv_iadd hx hb dX12_product_40 ?_
          refine lv_topi (fun z15295 e15296 => ?_)
          try (have t15297 := tadd e15296 (a := (v_lp15279 39).toInt) rfl (b := 1) (by decide) (by omega))
          refine va_put (D := (dC, dI)) (ci := 12) (v := .int z15295) (ty := .int) (C := RX12) (T := TX12) (N := 63) (fs := fsM_0 g v_lp15279 rc) hx hb hwd inA_X12 tyX12 tyX12_ok nmX12 hown hK hP (DM hg) hS 0 rfl rfl 39 (by decide) (hwd _ wk_1004) (fun _ h9 => h9) rfl (by decide +kernel) rfl rfl (Nat.le_of_ble_eq_true rfl) dX12_product_41 (fun H locs hP _ hS => ?_)
          have hP := va_P_eq (pM_39 g c _ _ _ _) hP
          have hI := IM.put hI 39 z15295 rfl (by omega)
          refine lv_aload_n hx hb dX12_product_44 rfl (lv_at hl 1 rfl) ?_
          have t15298 : 0 ≤ (v 30).toInt ∧ (v 30).toInt ≤ 120 := by have h9 := hI.1 30 _ _ rfl; rw [show (va_up v_lp15279 39 z15295) 30 = v 30 from (hf_lp15279 30 (by decide)).trans (hf15274 30 (by decide))] at h9; exact h9
          have t15299 : 0 ≤ (v 37).toInt ∧ (v 37).toInt ≤ 9 := by have h9 := hI.1 37 _ _ rfl; rw [show (va_up v_lp15279 39 z15295) 37 = v 37 from (hf_lp15279 37 (by decide)).trans (hf15274 37 (by decide))] at h9; exact h9
          have t15300 : 0 ≤ (v_lp15279 38).toInt ∧ (v_lp15279 38).toInt ≤ 120 := hI.1 38 _ _ rfl
          have t15301 : 0 ≤ z15295.toInt ∧ z15295.toInt ≤ 120 := hI.1 39 _ _ rfl
          have t15302 : 0 ≤ (v_lp15279 41).toInt ∧ (v_lp15279 41).toInt ≤ 8 := hI.1 41 _ _ rfl
          refine va_callv (va_runV (As := []) (rest := []) ⟨hx, hb, hml, hown, hwd⟩ (c_X12_operand_5 l dC dI g c adK adV (va_up v_lp15279 39 z15295) F_lp15279 rc H.size  (d + 1) hg hI (by have h9 : (va_up v_lp15279 39 z15295) 38 = v_lp15279 38 := rfl; (try rw [h9]); clear h9; have h9 : (va_up v_lp15279 39 z15295) 39 = z15295 := rfl; (try rw [h9]); clear h9; have h9 : (va_up v_lp15279 39 z15295) 30 = v 30 := (hf_lp15279 30 (by decide)).trans (hf15274 30 (by decide)); (try rw [h9]); clear h9; have h9 : (va_up v_lp15279 39 z15295) 40 = v_lp15279 40 := rfl; (try rw [h9]); clear h9; have h9 : (va_up v_lp15279 39 z15295) 41 = v_lp15279 41 := rfl; (try rw [h9]); clear h9; omega) (by have h9 : (va_up v_lp15279 39 z15295) 37 = (v 37) := (hf_lp15279 37 (by decide)).trans (hf15274 37 (by decide)); have h8 : (va_up v_lp15279 39 z15295) 38 = (v_lp15279 38) := rfl; (try rw [h9]); (try rw [h8]); exact hd (by omega))) (cwV 0 hwd (gV wk_1030 wk_1035 wk_1036 wk_1037 wk_5) rfl rfl rfl (by decide +kernel) ⟨Nat.le_of_ble_eq_true rfl, Nat.le_of_ble_eq_true rfl⟩) ⟨PM.blind, va_recv hK hP (ci := 12) (q0 := 0) rfl rfl, fun U hU hW => ⟨rfl, PM.at hK hE hP hS hU hW⟩⟩ rfl rfl hl.1 rfl (lv_room (Nat.le_of_ble_eq_true rfl)) dX12_product_45 ⟨Nat.le_of_ble_eq_true rfl, Nat.le_of_ble_eq_true rfl⟩) hS (fun q _ h => (freeM hS) q h) (freeM hS) (fun u t H1 locs ht hvm hw hB hz1 hk1 hS => ?_)
          unfold BM at hB
          rw [ht] at hB
          obtain ⟨v15304, F15305, rc9⟩ := u
          obtain ⟨hI, hrc, hf15306, hG15307, hw⟩ := hw
          dsimp only at hI hrc hB hf15306 hG15307 hw
          have hF := frCF (by decide) hG15307 hF
          rw [hrc] at hB
          have hP : va_P (dC, dI) classes (wM g c v15304 F15305 rc) H1 := hB
          have hw : (z15295.toInt ≤ (v15304 39).toInt ∧ (v15304 39).toInt ≤ ((va_up v_lp15279 39 z15295) 30).toInt ∧ (v_lp15279 38).toInt ≤ (v15304 38).toInt ∧ (v15304 38).toInt - (v_lp15279 38).toInt ≤ (v15304 39).toInt - z15295.toInt ∧ (v_lp15279 41).toInt ≤ (v15304 41).toInt ∧ ((v15304 40).toInt < 0 → (v15304 41).toInt = (v_lp15279 41).toInt)) ∧ keepL ((va_up v_lp15279 39 z15295) 37) (F_lp15279 28) (F_lp15279 29) (F15305 28) (F15305 29) ∧ ((v15304 40).toInt < 0 → dp (F15305 28) (F15305 29) (bI ((va_up v_lp15279 39 z15295) 37)) (v15304 38).toInt.toNat = some ((d + 1) + 1)) := hw
          rw [show (va_up v_lp15279 39 z15295) 30 = v 30 from (hf_lp15279 30 (by decide)).trans (hf15274 30 (by decide))] at hw
          rw [show (va_up v_lp15279 39 z15295) 37 = v 37 from (hf_lp15279 37 (by decide)).trans (hf15274 37 (by decide))] at hw
          have hw_r15303 := hw
          have t15308 : 0 ≤ (v15304 38).toInt ∧ (v15304 38).toInt ≤ 120 := hI.1 38 _ _ rfl
          have t15309 : 0 ≤ (v15304 39).toInt ∧ (v15304 39).toInt ≤ 120 := hI.1 39 _ _ rfl
          have t15310 : 0 ≤ (v15304 41).toInt ∧ (v15304 41).toInt ≤ 8 := hI.1 41 _ _ rfl
          generalize H1 = H at hP hS ⊢
          have hk := hk.tr hw_r15303.2.1
          have hd := hw_r15303.2.2
          refine lv_aload_n hx hb dX12_product_48 rfl (lv_at hl 1 rfl) ?_
          refine lv_iload_n hx hb dX12_product_49 rfl (lv_at hl 0 rfl) ?_
          refine lv_iconst (v := 0) hx hb dX12_product_50 (by decide) ?_
          have t15311 : 0 ≤ (v 37).toInt ∧ (v 37).toInt ≤ 9 := by have h9 := hI.1 37 _ _ rfl; rw [show v15304 37 = v 37 from (hf15306 37 (by decide)).trans ((hf_lp15279 37 (by decide)).trans (hf15274 37 (by decide)))] at h9; exact h9
          have t15312 : 0 ≤ (v15304 38).toInt ∧ (v15304 38).toInt ≤ 120 := hI.1 38 _ _ rfl
          refine va_callv (va_runV (As := [.int r15293, .int 0]) (rest := []) ⟨hx, hb, hml, hown, hwd⟩ (c_X12_lay l dC dI g c adK adV v15304 F15305 rc H.size r15293 0 hg hI (by have h9 : v15304 38 = v15304 38 := rfl; rw [h9]; omega)) (cwV 2 hwd (gV wk_1021 wk_1018 wk_1019 wk_1020 wk_5) rfl rfl rfl (by decide +kernel) ⟨Nat.le_of_ble_eq_true rfl, Nat.le_of_ble_eq_true rfl⟩) ⟨PM.blind, va_recv hK hP (ci := 12) (q0 := 0) rfl rfl, fun U hU hW => ⟨rfl, PM.at hK hE hP hS hU hW⟩⟩ rfl rfl hl.1 rfl (lv_room (Nat.le_of_ble_eq_true rfl)) dX12_product_51 ⟨Nat.le_of_ble_eq_true rfl, Nat.le_of_ble_eq_true rfl⟩) hS (fun q _ h => (freeM hS) q h) (freeM hS) (fun u t H1 locs ht hvm hw hB hz1 hk1 hS => ?_)
          unfold BM at hB
          rw [ht] at hB
          obtain ⟨v15314, F15315, rc9⟩ := u
          obtain ⟨hI, hrc, hf15316, hG15317, hw⟩ := hw
          dsimp only at hI hrc hB hf15316 hG15317 hw
          have hF := frCF (by decide) hG15317 hF
          rw [hrc] at hB
          have hP : va_P (dC, dI) classes (wM g c v15314 F15315 rc) H1 := hB
          have hw : (v15314 38).toInt = (v15304 38).toInt + 1 ∧ keepL (v15304 37) (F15305 28) (F15305 29) (F15315 28) (F15315 29) ∧ dp (F15315 28) (F15315 29) (bI (v15304 37)) ((v15304 38).toInt.toNat + 1) = dpS (dp (F15305 28) (F15305 29) (bI (v15304 37)) (v15304 38).toInt.toNat) r15293 (0 : Int32) := hw
          rw [show v15304 37 = v 37 from (hf15306 37 (by decide)).trans ((hf_lp15279 37 (by decide)).trans (hf15274 37 (by decide)))] at hw
          have hw_r15313 := hw
          have t15318 : 0 ≤ (v15314 38).toInt ∧ (v15314 38).toInt ≤ 120 := hI.1 38 _ _ rfl
          have k15319 : (0 : Int32).toInt = 0 := by decide
          generalize H1 = H at hP hS ⊢
          have hk := hk.tr hw_r15313.2.1
          have hd : (v15304 40).toInt < 0 → dp (F15315 28) (F15315 29) (bI (v 37)) (v15314 38).toInt.toNat = some (((d + 1) + 1) - 1) := fun hf => (by have e9 : (v15314 38).toInt.toNat = (v15304 38).toInt.toNat + 1 := (by omega); rw [e9, hw_r15313.2.2, hd hf]; exact dpS_5 (by omega) (by omega) (by omega) (by omega) (by omega))
          refine lv_goto (tgt := 4) hx hb dX12_product_54 (by decide) ?_
          exact ih_lp15279  v15314 F15315 _ _ _ (by have h9 : v15314 39 = v15304 39 := hf15316 39 (by decide); (try rw [h9]); clear h9; have h9 : v15314 38 = v15314 38 := rfl; (try rw [h9]); clear h9; have h9 : v15314 41 = v15304 41 := hf15316 41 (by decide); (try rw [h9]); clear h9; have h9 : v15314 40 = v15304 40 := hf15316 40 (by decide); (try rw [h9]); clear h9; omega) hk (by have h9 : v15314 40 = v15304 40 := hf15316 40 (by decide); (try rw [h9]); clear h9; have h9 : v15314 38 = v15314 38 := rfl; (try rw [h9]); clear h9; exact fun hf => (hd (by omega)).trans (congrArg some (by omega))) (by have h9 : v15314 39 = v15304 39 := hf15316 39 (by decide); rw [h9]; omega) (frC (by decide) hf15316 (frC (by decide) hf15306 (frU (by decide) hf_lp15279))) hI hF hP hS (lv_sub hl [1] rfl)
        · skip
          have t15320 := cv_ne (a := r15288.toInt) rfl (b := 42) (by decide) c15289
          refine lv_aload_n hx hb dX12_product_20 rfl (lv_at hl 0 rfl) ?_
          have t15321 : 0 ≤ (v 30).toInt ∧ (v 30).toInt ≤ 120 := by have h9 := hI.1 30 _ _ rfl; rw [show v_lp15279 30 = v 30 from (hf_lp15279 30 (by decide)).trans (hf15274 30 (by decide))] at h9; exact h9
          have t15322 : 0 ≤ (v_lp15279 39).toInt ∧ (v_lp15279 39).toInt ≤ 120 := hI.1 39 _ _ rfl
          refine va_calli (va_runV (As := []) (rest := []) ⟨hx, hb, hml, hown, hwd⟩ (c_X12_look l dC dI g c adK adV v_lp15279 F_lp15279 rc H.size  hg hI ) (cwV 0 hwd (gV wk_1017 wk_1014 wk_1015 wk_1016 wk_5) rfl rfl rfl (by decide +kernel) ⟨Nat.le_of_ble_eq_true rfl, Nat.le_of_ble_eq_true rfl⟩) ⟨PM.blind, va_recv hK hP (ci := 12) (q0 := 0) rfl rfl, fun U hU hW => ⟨rfl, PM.at hK hE hP hS hU hW⟩⟩ rfl rfl hl.1 rfl (lv_room (Nat.le_of_ble_eq_true rfl)) dX12_product_21 ⟨Nat.le_of_ble_eq_true rfl, Nat.le_of_ble_eq_true rfl⟩) hS (fun q _ h => (freeM hS) q h) (freeM hS) (fun r15323 u t H1 locs ht hvm hw hB hz1 hk1 hS => ?_)
          unfold BM at hB
          rw [ht] at hB
          have hP : va_P (dC, dI) classes (wM g c v_lp15279 F_lp15279 rc) H1 := hB
          have hw : r15323.toInt = lkM (v_lp15279 39) (v_lp15279 30) (F_lp15279 24) ∧ ((v_lp15279 39).toInt < (v_lp15279 30).toInt ∨ r15323.toInt = -1) := hw
          rw [show v_lp15279 30 = v 30 from (hf_lp15279 30 (by decide)).trans (hf15274 30 (by decide))] at hw
          rw [hF 24 (by decide)] at hw
          have hw_r15323 := hw
          generalize H1 = H at hP hS ⊢
          refine lv_bipush (v := 47) hx hb dX12_product_24 (by decide) ?_
          refine lv_icmp_ne (tgt := 57) hx hb dX12_product_26 (by decide) (fun c15324 => ?_) (fun c15324 => ?_)
          · skip
            have t15325 := cv_ne (a := r15323.toInt) rfl (b := 47) (by decide) c15324
            have hP9 : va_P (dC, dI) classes (wM g c v_lp15279 F_lp15279 rc) H := hP
            exact W.vret hx hb hr (fun t ht hW => ⟨⟨(v_lp15279, F_lp15279, rc), rfl, ⟨hI, rfl, (frC (by decide) hf_lp15279 (frC (by decide) hf15274 (fun _ _ => rfl))), hF, (by show ((v 39).toInt ≤ (v_lp15279 39).toInt ∧ (v_lp15279 39).toInt ≤ (v 30).toInt ∧ (v 38).toInt ≤ (v_lp15279 38).toInt ∧ (v_lp15279 38).toInt - (v 38).toInt ≤ (v_lp15279 39).toInt - (v 39).toInt ∧ (v 41).toInt ≤ (v_lp15279 41).toInt ∧ ((v_lp15279 40).toInt < 0 → (v_lp15279 41).toInt = (v 41).toInt)) ∧ keepL (v 37) (F 28) (F 29) (F_lp15279 28) (F_lp15279 29) ∧ ((v_lp15279 40).toInt < 0 → dp (F_lp15279 28) (F_lp15279 29) (bI (v 37)) (v_lp15279 38).toInt.toNat = some (d + 1)); exact ⟨by omega, hk, fun hf => (hd (by omega)).trans (congrArg some (by omega))⟩)⟩, (by show va_P _ _ _ t.heap; rw [ht]; exact hP9)⟩, hS.F ht⟩) hS.2.2 dX12_product_57
          · skip
            have t15326 := cv_eq (a := r15323.toInt) rfl (b := 47) (by decide) c15324
            refine lv_aload_n hx hb dX12_product_29 rfl (lv_at hl 0 rfl) ?_
            have t15327 : 0 ≤ (v 30).toInt ∧ (v 30).toInt ≤ 120 := by have h9 := hI.1 30 _ _ rfl; rw [show v_lp15279 30 = v 30 from (hf_lp15279 30 (by decide)).trans (hf15274 30 (by decide))] at h9; exact h9
            have t15328 : 0 ≤ (v_lp15279 39).toInt ∧ (v_lp15279 39).toInt ≤ 120 := hI.1 39 _ _ rfl
            refine va_calli (va_runV (As := []) (rest := []) ⟨hx, hb, hml, hown, hwd⟩ (c_X12_look l dC dI g c adK adV v_lp15279 F_lp15279 rc H.size  hg hI ) (cwV 0 hwd (gV wk_1017 wk_1014 wk_1015 wk_1016 wk_5) rfl rfl rfl (by decide +kernel) ⟨Nat.le_of_ble_eq_true rfl, Nat.le_of_ble_eq_true rfl⟩) ⟨PM.blind, va_recv hK hP (ci := 12) (q0 := 0) rfl rfl, fun U hU hW => ⟨rfl, PM.at hK hE hP hS hU hW⟩⟩ rfl rfl hl.1 rfl (lv_room (Nat.le_of_ble_eq_true rfl)) dX12_product_30 ⟨Nat.le_of_ble_eq_true rfl, Nat.le_of_ble_eq_true rfl⟩) hS (fun q _ h => (freeM hS) q h) (freeM hS) (fun r15329 u t H1 locs ht hvm hw hB hz1 hk1 hS => ?_)
            unfold BM at hB
            rw [ht] at hB
            have hP : va_P (dC, dI) classes (wM g c v_lp15279 F_lp15279 rc) H1 := hB
            have hw : r15329.toInt = lkM (v_lp15279 39) (v_lp15279 30) (F_lp15279 24) ∧ ((v_lp15279 39).toInt < (v_lp15279 30).toInt ∨ r15329.toInt = -1) := hw
            rw [show v_lp15279 30 = v 30 from (hf_lp15279 30 (by decide)).trans (hf15274 30 (by decide))] at hw
            rw [hF 24 (by decide)] at hw
            have hw_r15329 := hw
            generalize H1 = H at hP hS ⊢
            refine lv_istore_n (lv' := [(1, .int r15329), (0, .ref (g 0))]) hx hb dX12_product_33 rfl hl (by decide) rfl (fun ls hl => ?_)
            refine lv_aload_n hx hb dX12_product_34 rfl (lv_at hl 1 rfl) ?_
            refine lv_dup hx hb dX12_product_35 rfl ?_
            refine va_get (D := (dC, dI)) (ci := 12) (v := .int (v_lp15279 39)) (C := RX12) (T := TX12) (N := 63) hx hb hwd inA_X12 hown hK hP 0 rfl rfl 39 (by decide) (hwd _ wk_1004) (fun _ h9 => h9) rfl dX12_product_36 ?_
            have t15330 : 0 ≤ (v_lp15279 39).toInt ∧ (v_lp15279 39).toInt ≤ 120 := hI.1 39 _ _ rfl
            refine lv_iconst (v := 1) hx hb dX12_product_39 (by decide) ?_
            refine lv_iadd hx hb dX12_product_40 ?_
            refine lv_topi (fun z15331 e15332 => ?_)
            try (have t15333 := tadd e15332 (a := (v_lp15279 39).toInt) rfl (b := 1) (by decide) (by omega))
            refine va_put (D := (dC, dI)) (ci := 12) (v := .int z15331) (ty := .int) (C := RX12) (T := TX12) (N := 63) (fs := fsM_0 g v_lp15279 rc) hx hb hwd inA_X12 tyX12 tyX12_ok nmX12 hown hK hP (DM hg) hS 0 rfl rfl 39 (by decide) (hwd _ wk_1004) (fun _ h9 => h9) rfl (by decide +kernel) rfl rfl (Nat.le_of_ble_eq_true rfl) dX12_product_41 (fun H locs hP _ hS => ?_)
            have hP := va_P_eq (pM_39 g c _ _ _ _) hP
            have hI := IM.put hI 39 z15331 rfl (by omega)
            refine lv_aload_n hx hb dX12_product_44 rfl (lv_at hl 1 rfl) ?_
            have t15334 : 0 ≤ (v 30).toInt ∧ (v 30).toInt ≤ 120 := by have h9 := hI.1 30 _ _ rfl; rw [show (va_up v_lp15279 39 z15331) 30 = v 30 from (hf_lp15279 30 (by decide)).trans (hf15274 30 (by decide))] at h9; exact h9
            have t15335 : 0 ≤ (v 37).toInt ∧ (v 37).toInt ≤ 9 := by have h9 := hI.1 37 _ _ rfl; rw [show (va_up v_lp15279 39 z15331) 37 = v 37 from (hf_lp15279 37 (by decide)).trans (hf15274 37 (by decide))] at h9; exact h9
            have t15336 : 0 ≤ (v_lp15279 38).toInt ∧ (v_lp15279 38).toInt ≤ 120 := hI.1 38 _ _ rfl
            have t15337 : 0 ≤ z15331.toInt ∧ z15331.toInt ≤ 120 := hI.1 39 _ _ rfl
            have t15338 : 0 ≤ (v_lp15279 41).toInt ∧ (v_lp15279 41).toInt ≤ 8 := hI.1 41 _ _ rfl
            refine va_callv (va_runV (As := []) (rest := []) ⟨hx, hb, hml, hown, hwd⟩ (c_X12_operand_5 l dC dI g c adK adV (va_up v_lp15279 39 z15331) F_lp15279 rc H.size  (d + 1) hg hI (by have h9 : (va_up v_lp15279 39 z15331) 38 = v_lp15279 38 := rfl; (try rw [h9]); clear h9; have h9 : (va_up v_lp15279 39 z15331) 39 = z15331 := rfl; (try rw [h9]); clear h9; have h9 : (va_up v_lp15279 39 z15331) 30 = v 30 := (hf_lp15279 30 (by decide)).trans (hf15274 30 (by decide)); (try rw [h9]); clear h9; have h9 : (va_up v_lp15279 39 z15331) 40 = v_lp15279 40 := rfl; (try rw [h9]); clear h9; have h9 : (va_up v_lp15279 39 z15331) 41 = v_lp15279 41 := rfl; (try rw [h9]); clear h9; omega) (by have h9 : (va_up v_lp15279 39 z15331) 37 = (v 37) := (hf_lp15279 37 (by decide)).trans (hf15274 37 (by decide)); have h8 : (va_up v_lp15279 39 z15331) 38 = (v_lp15279 38) := rfl; (try rw [h9]); (try rw [h8]); exact hd (by omega))) (cwV 0 hwd (gV wk_1030 wk_1035 wk_1036 wk_1037 wk_5) rfl rfl rfl (by decide +kernel) ⟨Nat.le_of_ble_eq_true rfl, Nat.le_of_ble_eq_true rfl⟩) ⟨PM.blind, va_recv hK hP (ci := 12) (q0 := 0) rfl rfl, fun U hU hW => ⟨rfl, PM.at hK hE hP hS hU hW⟩⟩ rfl rfl hl.1 rfl (lv_room (Nat.le_of_ble_eq_true rfl)) dX12_product_45 ⟨Nat.le_of_ble_eq_true rfl, Nat.le_of_ble_eq_true rfl⟩) hS (fun q _ h => (freeM hS) q h) (freeM hS) (fun u t H1 locs ht hvm hw hB hz1 hk1 hS => ?_)
            unfold BM at hB
            rw [ht] at hB
            obtain ⟨v15340, F15341, rc9⟩ := u
            obtain ⟨hI, hrc, hf15342, hG15343, hw⟩ := hw
            dsimp only at hI hrc hB hf15342 hG15343 hw
            have hF := frCF (by decide) hG15343 hF
            rw [hrc] at hB
            have hP : va_P (dC, dI) classes (wM g c v15340 F15341 rc) H1 := hB
            have hw : (z15331.toInt ≤ (v15340 39).toInt ∧ (v15340 39).toInt ≤ ((va_up v_lp15279 39 z15331) 30).toInt ∧ (v_lp15279 38).toInt ≤ (v15340 38).toInt ∧ (v15340 38).toInt - (v_lp15279 38).toInt ≤ (v15340 39).toInt - z15331.toInt ∧ (v_lp15279 41).toInt ≤ (v15340 41).toInt ∧ ((v15340 40).toInt < 0 → (v15340 41).toInt = (v_lp15279 41).toInt)) ∧ keepL ((va_up v_lp15279 39 z15331) 37) (F_lp15279 28) (F_lp15279 29) (F15341 28) (F15341 29) ∧ ((v15340 40).toInt < 0 → dp (F15341 28) (F15341 29) (bI ((va_up v_lp15279 39 z15331) 37)) (v15340 38).toInt.toNat = some ((d + 1) + 1)) := hw
            rw [show (va_up v_lp15279 39 z15331) 30 = v 30 from (hf_lp15279 30 (by decide)).trans (hf15274 30 (by decide))] at hw
            rw [show (va_up v_lp15279 39 z15331) 37 = v 37 from (hf_lp15279 37 (by decide)).trans (hf15274 37 (by decide))] at hw
            have hw_r15339 := hw
            have t15344 : 0 ≤ (v15340 38).toInt ∧ (v15340 38).toInt ≤ 120 := hI.1 38 _ _ rfl
            have t15345 : 0 ≤ (v15340 39).toInt ∧ (v15340 39).toInt ≤ 120 := hI.1 39 _ _ rfl
            have t15346 : 0 ≤ (v15340 41).toInt ∧ (v15340 41).toInt ≤ 8 := hI.1 41 _ _ rfl
            generalize H1 = H at hP hS ⊢
            have hk := hk.tr hw_r15339.2.1
            have hd := hw_r15339.2.2
            refine lv_aload_n hx hb dX12_product_48 rfl (lv_at hl 1 rfl) ?_
            refine lv_iload_n hx hb dX12_product_49 rfl (lv_at hl 0 rfl) ?_
            refine lv_iconst (v := 0) hx hb dX12_product_50 (by decide) ?_
            have t15347 : 0 ≤ (v 37).toInt ∧ (v 37).toInt ≤ 9 := by have h9 := hI.1 37 _ _ rfl; rw [show v15340 37 = v 37 from (hf15342 37 (by decide)).trans ((hf_lp15279 37 (by decide)).trans (hf15274 37 (by decide)))] at h9; exact h9
            have t15348 : 0 ≤ (v15340 38).toInt ∧ (v15340 38).toInt ≤ 120 := hI.1 38 _ _ rfl
            refine va_callv (va_runV (As := [.int r15329, .int 0]) (rest := []) ⟨hx, hb, hml, hown, hwd⟩ (c_X12_lay l dC dI g c adK adV v15340 F15341 rc H.size r15329 0 hg hI (by have h9 : v15340 38 = v15340 38 := rfl; rw [h9]; omega)) (cwV 2 hwd (gV wk_1021 wk_1018 wk_1019 wk_1020 wk_5) rfl rfl rfl (by decide +kernel) ⟨Nat.le_of_ble_eq_true rfl, Nat.le_of_ble_eq_true rfl⟩) ⟨PM.blind, va_recv hK hP (ci := 12) (q0 := 0) rfl rfl, fun U hU hW => ⟨rfl, PM.at hK hE hP hS hU hW⟩⟩ rfl rfl hl.1 rfl (lv_room (Nat.le_of_ble_eq_true rfl)) dX12_product_51 ⟨Nat.le_of_ble_eq_true rfl, Nat.le_of_ble_eq_true rfl⟩) hS (fun q _ h => (freeM hS) q h) (freeM hS) (fun u t H1 locs ht hvm hw hB hz1 hk1 hS => ?_)
            unfold BM at hB
            rw [ht] at hB
            obtain ⟨v15350, F15351, rc9⟩ := u
            obtain ⟨hI, hrc, hf15352, hG15353, hw⟩ := hw
            dsimp only at hI hrc hB hf15352 hG15353 hw
            have hF := frCF (by decide) hG15353 hF
            rw [hrc] at hB
            have hP : va_P (dC, dI) classes (wM g c v15350 F15351 rc) H1 := hB
            have hw : (v15350 38).toInt = (v15340 38).toInt + 1 ∧ keepL (v15340 37) (F15341 28) (F15341 29) (F15351 28) (F15351 29) ∧ dp (F15351 28) (F15351 29) (bI (v15340 37)) ((v15340 38).toInt.toNat + 1) = dpS (dp (F15341 28) (F15341 29) (bI (v15340 37)) (v15340 38).toInt.toNat) r15329 (0 : Int32) := hw
            rw [show v15340 37 = v 37 from (hf15342 37 (by decide)).trans ((hf_lp15279 37 (by decide)).trans (hf15274 37 (by decide)))] at hw
            have hw_r15349 := hw
            have t15354 : 0 ≤ (v15350 38).toInt ∧ (v15350 38).toInt ≤ 120 := hI.1 38 _ _ rfl
            have k15355 : (0 : Int32).toInt = 0 := by decide
            generalize H1 = H at hP hS ⊢
            have hk := hk.tr hw_r15349.2.1
            have hd : (v15340 40).toInt < 0 → dp (F15351 28) (F15351 29) (bI (v 37)) (v15350 38).toInt.toNat = some (((d + 1) + 1) - 1) := fun hf => (by have e9 : (v15350 38).toInt.toNat = (v15340 38).toInt.toNat + 1 := (by omega); rw [e9, hw_r15349.2.2, hd hf]; exact dpS_5 (by omega) (by omega) (by omega) (by omega) (by omega))
            refine lv_goto (tgt := 4) hx hb dX12_product_54 (by decide) ?_
            exact ih_lp15279  v15350 F15351 _ _ _ (by have h9 : v15350 39 = v15340 39 := hf15352 39 (by decide); (try rw [h9]); clear h9; have h9 : v15350 38 = v15350 38 := rfl; (try rw [h9]); clear h9; have h9 : v15350 41 = v15340 41 := hf15352 41 (by decide); (try rw [h9]); clear h9; have h9 : v15350 40 = v15340 40 := hf15352 40 (by decide); (try rw [h9]); clear h9; omega) hk (by have h9 : v15350 40 = v15340 40 := hf15352 40 (by decide); (try rw [h9]); clear h9; have h9 : v15350 38 = v15350 38 := rfl; (try rw [h9]); clear h9; exact fun hf => (hd (by omega)).trans (congrArg some (by omega))) (by have h9 : v15350 39 = v15340 39 := hf15352 39 (by decide); rw [h9]; omega) (frC (by decide) hf15352 (frC (by decide) hf15342 (frU (by decide) hf_lp15279))) hI hF hP hS (lv_sub hl [1] rfl)
  obtain ⟨n9, hn9⟩ : ∃ n : Nat, 121 - (v15272 39).toInt ≤ (n : Int) := ⟨((121 - (v15272 39).toInt : Int)).toNat, by omega⟩
  exact lp15279 n9  v15272 F15273 H _ ls (by have h9 : v15272 39 = v15272 39 := rfl; (try rw [h9]); clear h9; have h9 : v15272 38 = v15272 38 := rfl; (try rw [h9]); clear h9; have h9 : v15272 41 = v15272 41 := rfl; (try rw [h9]); clear h9; have h9 : v15272 40 = v15272 40 := rfl; (try rw [h9]); clear h9; omega) hk (by have h9 : v15272 40 = v15272 40 := rfl; (try rw [h9]); clear h9; have h9 : v15272 38 = v15272 38 := rfl; (try rw [h9]); clear h9; exact fun hf => (hd (by omega)).trans (congrArg some (by omega))) (by have h9 : v15272 39 = v15272 39 := rfl; rw [h9]; omega) (fun _ _ => rfl) hI hF hP hS hl
set_option maxHeartbeats 8000000 in
set_option maxRecDepth 100000 in
theorem c_X12_sum_5 (l : Launch) (dC : Nat → ClassId) (dI : Nat → Nat → Nat) (g : Nat → Nat) (c : Nat → ClassId) (adK adV : Nat → Nat) (v : Nat → Int32) (F : Nat → Nat → Int32) (rc sz : Nat) (d : Nat) (hg : injM g) (hI : IM v F) (hq : (v 38).toInt ≤ (v 39).toInt ∧ (v 39).toInt ≤ (v 30).toInt ∧ (v 40).toInt < 0 ∧ (v 41).toInt = 5) (hdp : dp (F 28) (F 29) (bI (v 37)) (v 38).toInt.toNat = some d) : Met l yX12_sum (Cond.code yX12_sum cX12_sum 2 none :: wA) ({ frames := 17, cells := 0, slots := 0, locals := 680 }) (va_Pc [.ref (g 0)] (PM dC dI g c adK adV v F rc sz)) (va_Qv (fun (u : StM) => IM u.1 u.2.1 ∧ u.2.2 = rc ∧ (∀ k, k ∉ ([38, 39, 40, 41, 42] : List Nat) → u.1 k = v k) ∧ (∀ k, k ∉ ([28, 29] : List Nat) → u.2.1 k = F k) ∧ (((v 39).toInt ≤ (u.1 39).toInt ∧ (u.1 39).toInt ≤ (v 30).toInt ∧ (v 38).toInt ≤ (u.1 38).toInt ∧ (u.1 38).toInt - (v 38).toInt ≤ (u.1 39).toInt - (v 39).toInt ∧ (v 41).toInt ≤ (u.1 41).toInt ∧ ((u.1 40).toInt < 0 → (u.1 41).toInt = (v 41).toInt)) ∧ keepL (v 37) (F 28) (F 29) (u.2.1 28) (u.2.1 29) ∧ ((u.1 40).toInt < 0 → dp (u.2.1 28) (u.2.1 29) (bI (v 37)) (u.1 38).toInt.toNat = some (d + 1)))) (BM dC dI g c) (AM g sz)) 0 0 (AM g sz) := by
  refine Met.ofW (cc := cX12_sum) (maxL := 2) (ret := none) (by decide) rfl ?_
  intro p e s m args below meth c0 s₁ B hml hv
  obtain ⟨rfl, hsz, hP, hK, hE⟩ := hv
  have hx := B.exec
  have hb := B.bytes
  have hr := B.returns
  have hts := atoms_spec (ws := Cond.code yX12_sum cX12_sum 2 none :: wA) B.pre
  have hwd : ∀ w ∈ wA, w.before _ s = true := fun w h => hts w (List.mem_cons_of_mem _ h)
  have hown : s.vm.findClass RX12 = some m.cls := findClass_of_methodNamed B.named
  have hlocks := B.notSynchronized
  subst hsz
  have hl := lv_entry ([.ref (g 0)]) (n := 2) (Nat.le_of_ble_eq_true rfl)
  rw [lg_entry_eq]
  generalize (lg_sl ([.ref (g 0)]) ++ List.replicate (2 - (lg_sl ([.ref (g 0)])).length) Slot.unset).toArray = ls at hl ⊢
  have hl : lv_has ls 2 [(0, .ref (g 0))] := hl
  obtain ⟨H, eH⟩ : ∃ z, z = s.heap := ⟨_, rfl⟩
  have hP : va_P (dC, dI) classes (wM g c v F rc) H := by rw [eH]; exact hP
  have hS : va_S (AM g s.heap.size) s.heap H [] := by rw [eH]; exact va_S.rf
  refine my_heap eH ?_
  have hF : ∀ k, k ∉ ([28, 29] : List Nat) → F k = F k := fun _ _ => rfl
  have hb30 : 0 ≤ (v 30).toInt ∧ (v 30).toInt ≤ 120 := hI.1 30 _ _ rfl
  have hb37 : 0 ≤ (v 37).toInt ∧ (v 37).toInt ≤ 9 := hI.1 37 _ _ rfl
  have hb38 : 0 ≤ (v 38).toInt ∧ (v 38).toInt ≤ 120 := hI.1 38 _ _ rfl
  have hb39 : 0 ≤ (v 39).toInt ∧ (v 39).toInt ≤ 120 := hI.1 39 _ _ rfl
  have hb41 : 0 ≤ (v 41).toInt ∧ (v 41).toInt ≤ 8 := hI.1 41 _ _ rfl
  have hk : keepL (v 37) (F 28) (F 29) (F 28) (F 29) := keepL.rf
  have hd : (v 40).toInt < 0 → dp (F 28) (F 29) (bI (v 37)) (v 38).toInt.toNat = some d := fun _ => hdp
  refine lv_aload_n hx hb dX12_sum_0 rfl (lv_at hl 0 rfl) ?_
  have t15446 : 0 ≤ (v 30).toInt ∧ (v 30).toInt ≤ 120 := hI.1 30 _ _ rfl
  have t15447 : 0 ≤ (v 37).toInt ∧ (v 37).toInt ≤ 9 := hI.1 37 _ _ rfl
  have t15448 : 0 ≤ (v 38).toInt ∧ (v 38).toInt ≤ 120 := hI.1 38 _ _ rfl
  have t15449 : 0 ≤ (v 39).toInt ∧ (v 39).toInt ≤ 120 := hI.1 39 _ _ rfl
  have t15450 : 0 ≤ (v 41).toInt ∧ (v 41).toInt ≤ 8 := hI.1 41 _ _ rfl
  refine va_callv (va_runV (As := []) (rest := []) ⟨hx, hb, hml, hown, hwd⟩ (c_X12_product_5 l dC dI g c adK adV v F rc H.size  d hg hI (by have h9 : v 38 = v 38 := rfl; (try rw [h9]); clear h9; have h9 : v 39 = v 39 := rfl; (try rw [h9]); clear h9; have h9 : v 30 = v 30 := rfl; (try rw [h9]); clear h9; have h9 : v 40 = v 40 := rfl; (try rw [h9]); clear h9; have h9 : v 41 = v 41 := rfl; (try rw [h9]); clear h9; omega) (by have h9 : v 37 = (v 37) := rfl; have h8 : v 38 = (v 38) := rfl; (try rw [h9]); (try rw [h8]); exact hd (by omega))) (cwV 0 hwd (gV wk_1042 wk_1044 wk_1045 wk_1046 wk_5) rfl rfl rfl (by decide +kernel) ⟨Nat.le_of_ble_eq_true rfl, Nat.le_of_ble_eq_true rfl⟩) ⟨PM.blind, va_recv hK hP (ci := 12) (q0 := 0) rfl rfl, fun U hU hW => ⟨rfl, PM.at hK hE hP hS hU hW⟩⟩ rfl rfl hl.1 rfl (lv_room (Nat.le_of_ble_eq_true rfl)) dX12_sum_1 ⟨Nat.le_of_ble_eq_true rfl, Nat.le_of_ble_eq_true rfl⟩) hS (fun q _ h => (freeM hS) q h) (freeM hS) (fun u t H1 locs ht hvm hw hB hz1 hk1 hS => ?_)
  unfold BM at hB
  rw [ht] at hB
  obtain ⟨v15452, F15453, rc9⟩ := u
  obtain ⟨hI, hrc, hf15454, hG15455, hw⟩ := hw
  dsimp only at hI hrc hB hf15454 hG15455 hw
  have hF := frCF (by decide) hG15455 hF
  rw [hrc] at hB
  have hP : va_P (dC, dI) classes (wM g c v15452 F15453 rc) H1 := hB
  have hw : ((v 39).toInt ≤ (v15452 39).toInt ∧ (v15452 39).toInt ≤ (v 30).toInt ∧ (v 38).toInt ≤ (v15452 38).toInt ∧ (v15452 38).toInt - (v 38).toInt ≤ (v15452 39).toInt - (v 39).toInt ∧ (v 41).toInt ≤ (v15452 41).toInt ∧ ((v15452 40).toInt < 0 → (v15452 41).toInt = (v 41).toInt)) ∧ keepL (v 37) (F 28) (F 29) (F15453 28) (F15453 29) ∧ ((v15452 40).toInt < 0 → dp (F15453 28) (F15453 29) (bI (v 37)) (v15452 38).toInt.toNat = some (d + 1)) := hw
  have hw_r15451 := hw
  have t15456 : 0 ≤ (v15452 38).toInt ∧ (v15452 38).toInt ≤ 120 := hI.1 38 _ _ rfl
  have t15457 : 0 ≤ (v15452 39).toInt ∧ (v15452 39).toInt ≤ 120 := hI.1 39 _ _ rfl
  have t15458 : 0 ≤ (v15452 41).toInt ∧ (v15452 41).toInt ≤ 8 := hI.1 41 _ _ rfl
  generalize H1 = H at hP hS ⊢
  have hk := hk.tr hw_r15451.2.1
  have hd := hw_r15451.2.2
  have lp15459 : ∀ (n : Nat) (v_lp15459 : Nat → Int32) (F_lp15459 : Nat → Nat → Int32) (H : Heap) (locs : List Loc) (ls : Array Slot), ((v 39).toInt ≤ (v_lp15459 39).toInt ∧ (v_lp15459 39).toInt ≤ (v 30).toInt ∧ (v 38).toInt ≤ (v_lp15459 38).toInt ∧ (v_lp15459 38).toInt - (v 38).toInt ≤ (v_lp15459 39).toInt - (v 39).toInt ∧ (v 41).toInt ≤ (v_lp15459 41).toInt ∧ ((v_lp15459 40).toInt < 0 → (v_lp15459 41).toInt = (v 41).toInt)) → (keepL (v 37) (F 28) (F 29) (F_lp15459 28) (F_lp15459 29)) → (((v_lp15459 40).toInt < 0 → dp (F_lp15459 28) (F_lp15459 29) (bI (v 37)) (v_lp15459 38).toInt.toNat = some (d + 1))) → (121 - (v_lp15459 39).toInt ≤ (n : Int)) → (∀ k, k ∉ ([38, 39, 40, 41, 42] : List Nat) → v_lp15459 k = v15452 k) → IM v_lp15459 F_lp15459 → (∀ k, k ∉ ([28, 29] : List Nat) → F_lp15459 k = F k) → va_P (dC, dI) classes (wM g c v_lp15459 F_lp15459 rc) H → va_S (AM g s.heap.size) s.heap H locs → lv_has ls 2 [(0, .ref (g 0))] → W p l e (headSpec (Cond.code yX12_sum cX12_sum 2 none :: wA) ({ frames := 17, cells := 0, slots := 0, locals := 680 })).room s m ([.ref (g 0)] : List Value).toArray below meth c0 H locs 0 0 (MQ below (va_Qv (fun (u : StM) => IM u.1 u.2.1 ∧ u.2.2 = rc ∧ (∀ k, k ∉ ([38, 39, 40, 41, 42] : List Nat) → u.1 k = v k) ∧ (∀ k, k ∉ ([28, 29] : List Nat) → u.2.1 k = F k) ∧ (((v 39).toInt ≤ (u.1 39).toInt ∧ (u.1 39).toInt ≤ (v 30).toInt ∧ (v 38).toInt ≤ (u.1 38).toInt ∧ (u.1 38).toInt - (v 38).toInt ≤ (u.1 39).toInt - (v 39).toInt ∧ (v 41).toInt ≤ (u.1 41).toInt ∧ ((u.1 40).toInt < 0 → (u.1 41).toInt = (v 41).toInt)) ∧ keepL (v 37) (F 28) (F 29) (u.2.1 28) (u.2.1 29) ∧ ((u.1 40).toInt < 0 → dp (u.2.1 28) (u.2.1 29) (bI (v 37)) (u.1 38).toInt.toNat = some (d + 1)))) (BM dC dI g c) (AM g s.heap.size)) ([.ref (g 0)] : List Value).toArray s 0 0 (AM g s.heap.size)) (F0 m 4 ls []) := by
    intro n
    induction n with
    | zero =>
      intro v_lp15459 F_lp15459 H locs ls t15460 t15461 t15462 hm hf_lp15459 hI hF hP hS hl
      exfalso
      have hI1 := hI.1
      omega
    | succ n ih_lp15459 =>
      intro v_lp15459 F_lp15459 H locs ls t15460 t15461 t15462 hm hf_lp15459 hI hF hP hS hl
      have hk := t15461
      have hd := t15462
      refine lv_aload_n hx hb dX12_sum_4 rfl (lv_at hl 0 rfl) ?_
      refine va_get (D := (dC, dI)) (ci := 12) (v := .int (v_lp15459 40)) (C := RX12) (T := TX12) (N := 63) hx hb hwd inA_X12 hown hK hP 0 rfl rfl 40 (by decide) (hwd _ wk_1005) (fun _ h9 => h9) rfl dX12_sum_5 ?_
      refine lv_if_ge (tgt := 57) hx hb dX12_sum_8 (by decide) (fun c15463 => ?_) (fun c15463 => ?_)
      · skip
        have t15464 := cv_le (a := 0) (by decide) (b := (v_lp15459 40).toInt) rfl c15463
        have hP9 : va_P (dC, dI) classes (wM g c v_lp15459 F_lp15459 rc) H := hP
        exact W.vret hx hb hr (fun t ht hW => ⟨⟨(v_lp15459, F_lp15459, rc), rfl, ⟨hI, rfl, (frC (by decide) hf_lp15459 (frC (by decide) hf15454 (fun _ _ => rfl))), hF, (by show ((v 39).toInt ≤ (v_lp15459 39).toInt ∧ (v_lp15459 39).toInt ≤ (v 30).toInt ∧ (v 38).toInt ≤ (v_lp15459 38).toInt ∧ (v_lp15459 38).toInt - (v 38).toInt ≤ (v_lp15459 39).toInt - (v 39).toInt ∧ (v 41).toInt ≤ (v_lp15459 41).toInt ∧ ((v_lp15459 40).toInt < 0 → (v_lp15459 41).toInt = (v 41).toInt)) ∧ keepL (v 37) (F 28) (F 29) (F_lp15459 28) (F_lp15459 29) ∧ ((v_lp15459 40).toInt < 0 → dp (F_lp15459 28) (F_lp15459 29) (bI (v 37)) (v_lp15459 38).toInt.toNat = some (d + 1)); exact ⟨by omega, hk, fun hf => (hd (by omega)).trans (congrArg some (by omega))⟩)⟩, (by show va_P _ _ _ t.heap; rw [ht]; exact hP9)⟩, hS.F ht⟩) hS.2.2 dX12_sum_57
      · skip
        have t15465 := cv_nle (a := 0) (by decide) (b := (v_lp15459 40).toInt) rfl c15463
        refine lv_aload_n hx hb dX12_sum_11 rfl (lv_at hl 0 rfl) ?_
        have t15466 : 0 ≤ (v 30).toInt ∧ (v 30).toInt ≤ 120 := by have h9 := hI.1 30 _ _ rfl; rw [show v_lp15459 30 = v 30 from (hf_lp15459 30 (by decide)).trans (hf15454 30 (by decide))] at h9; exact h9
        have t15467 : 0 ≤ (v_lp15459 39).toInt ∧ (v_lp15459 39).toInt ≤ 120 := hI.1 39 _ _ rfl
        refine va_calli (va_runV (As := []) (rest := []) ⟨hx, hb, hml, hown, hwd⟩ (c_X12_look l dC dI g c adK adV v_lp15459 F_lp15459 rc H.size  hg hI ) (cwV 0 hwd (gV wk_1017 wk_1014 wk_1015 wk_1016 wk_5) rfl rfl rfl (by decide +kernel) ⟨Nat.le_of_ble_eq_true rfl, Nat.le_of_ble_eq_true rfl⟩) ⟨PM.blind, va_recv hK hP (ci := 12) (q0 := 0) rfl rfl, fun U hU hW => ⟨rfl, PM.at hK hE hP hS hU hW⟩⟩ rfl rfl hl.1 rfl (lv_room (Nat.le_of_ble_eq_true rfl)) dX12_sum_12 ⟨Nat.le_of_ble_eq_true rfl, Nat.le_of_ble_eq_true rfl⟩) hS (fun q _ h => (freeM hS) q h) (freeM hS) (fun r15468 u t H1 locs ht hvm hw hB hz1 hk1 hS => ?_)
        unfold BM at hB
        rw [ht] at hB
        have hP : va_P (dC, dI) classes (wM g c v_lp15459 F_lp15459 rc) H1 := hB
        have hw : r15468.toInt = lkM (v_lp15459 39) (v_lp15459 30) (F_lp15459 24) ∧ ((v_lp15459 39).toInt < (v_lp15459 30).toInt ∨ r15468.toInt = -1) := hw
        rw [show v_lp15459 30 = v 30 from (hf_lp15459 30 (by decide)).trans (hf15454 30 (by decide))] at hw
        rw [hF 24 (by decide)] at hw
        have hw_r15468 := hw
        generalize H1 = H at hP hS ⊢
        refine lv_bipush (v := 43) hx hb dX12_sum_15 (by decide) ?_
        refine lv_icmp_eq (tgt := 29) hx hb dX12_sum_17 (by decide) (fun c15469 => ?_) (fun c15469 => ?_)
        · skip
          have t15470 := cv_eq (a := r15468.toInt) rfl (b := 43) (by decide) c15469
          refine lv_aload_n hx hb dX12_sum_29 rfl (lv_at hl 0 rfl) ?_
          have t15471 : 0 ≤ (v 30).toInt ∧ (v 30).toInt ≤ 120 := by have h9 := hI.1 30 _ _ rfl; rw [show v_lp15459 30 = v 30 from (hf_lp15459 30 (by decide)).trans (hf15454 30 (by decide))] at h9; exact h9
          have t15472 : 0 ≤ (v_lp15459 39).toInt ∧ (v_lp15459 39).toInt ≤ 120 := hI.1 39 _ _ rfl
          refine va_calli (va_runV (As := []) (rest := []) ⟨hx, hb, hml, hown, hwd⟩ (c_X12_look l dC dI g c adK adV v_lp15459 F_lp15459 rc H.size  hg hI ) (cwV 0 hwd (gV wk_1017 wk_1014 wk_1015 wk_1016 wk_5) rfl rfl rfl (by decide +kernel) ⟨Nat.le_of_ble_eq_true rfl, Nat.le_of_ble_eq_true rfl⟩) ⟨PM.blind, va_recv hK hP (ci := 12) (q0 := 0) rfl rfl, fun U hU hW => ⟨rfl, PM.at hK hE hP hS hU hW⟩⟩ rfl rfl hl.1 rfl (lv_room (Nat.le_of_ble_eq_true rfl)) dX12_sum_30 ⟨Nat.le_of_ble_eq_true rfl, Nat.le_of_ble_eq_true rfl⟩) hS (fun q _ h => (freeM hS) q h) (freeM hS) (fun r15473 u t H1 locs ht hvm hw hB hz1 hk1 hS => ?_)
          unfold BM at hB
          rw [ht] at hB
          have hP : va_P (dC, dI) classes (wM g c v_lp15459 F_lp15459 rc) H1 := hB
          have hw : r15473.toInt = lkM (v_lp15459 39) (v_lp15459 30) (F_lp15459 24) ∧ ((v_lp15459 39).toInt < (v_lp15459 30).toInt ∨ r15473.toInt = -1) := hw
          rw [show v_lp15459 30 = v 30 from (hf_lp15459 30 (by decide)).trans (hf15454 30 (by decide))] at hw
          rw [hF 24 (by decide)] at hw
          have hw_r15473 := hw
          generalize H1 = H at hP hS ⊢
          refine lv_istore_n (lv' := [(1, .int r15473), (0, .ref (g 0))]) hx hb dX12_sum_33 rfl hl (by decide) rfl (fun ls hl => ?_)
          refine lv_aload_n hx hb dX12_sum_34 rfl (lv_at hl 1 rfl) ?_
          refine lv_dup hx hb dX12_sum_35 rfl ?_
          refine va_get (D := (dC, dI)) (ci := 12) (v := .int (v_lp15459 39)) (C := RX12) (T := TX12) (N := 63) hx hb hwd inA_X12 hown hK hP 0 rfl rfl 39 (by decide) (hwd _ wk_1004) (fun _ h9 => h9) rfl dX12_sum_36 ?_
          have t15474 : 0 ≤ (v_lp15459 39).toInt ∧ (v_lp15459 39).toInt ≤ 120 := hI.1 39 _ _ rfl
          refine lv_iconst (v := 1) hx hb dX12_sum_39 (by decide) ?_
          refine lv_iadd hx hb dX12_sum_40 ?_
          refine lv_topi (fun z15475 e15476 => ?_)
          try (have t15477 := tadd e15476 (a := (v_lp15459 39).toInt) rfl (b := 1) (by decide) (by omega))
          refine va_put (D := (dC, dI)) (ci := 12) (v := .int z15475) (ty := .int) (C := RX12) (T := TX12) (N := 63) (fs := fsM_0 g v_lp15459 rc) hx hb hwd inA_X12 tyX12 tyX12_ok nmX12 hown hK hP (DM hg) hS 0 rfl rfl 39 (by decide) (hwd _ wk_1004) (fun _ h9 => h9) rfl (by decide +kernel) rfl rfl (Nat.le_of_ble_eq_true rfl) dX12_sum_41 (fun H locs hP _ hS => ?_)
          have hP := va_P_eq (pM_39 g c _ _ _ _) hP
          have hI := IM.put hI 39 z15475 rfl (by omega)
          refine lv_aload_n hx hb dX12_sum_44 rfl (lv_at hl 1 rfl) ?_
          have t15478 : 0 ≤ (v 30).toInt ∧ (v 30).toInt ≤ 120 := by have h9 := hI.1 30 _ _ rfl; rw [show (va_up v_lp15459 39 z15475) 30 = v 30 from (hf_lp15459 30 (by decide)).trans (hf15454 30 (by decide))] at h9; exact h9
          have t15479 : 0 ≤ (v 37).toInt ∧ (v 37).toInt ≤ 9 := by have h9 := hI.1 37 _ _ rfl; rw [show (va_up v_lp15459 39 z15475) 37 = v 37 from (hf_lp15459 37 (by decide)).trans (hf15454 37 (by decide))] at h9; exact h9
          have t15480 : 0 ≤ (v_lp15459 38).toInt ∧ (v_lp15459 38).toInt ≤ 120 := hI.1 38 _ _ rfl
          have t15481 : 0 ≤ z15475.toInt ∧ z15475.toInt ≤ 120 := hI.1 39 _ _ rfl
          have t15482 : 0 ≤ (v_lp15459 41).toInt ∧ (v_lp15459 41).toInt ≤ 8 := hI.1 41 _ _ rfl
          refine va_callv (va_runV (As := []) (rest := []) ⟨hx, hb, hml, hown, hwd⟩ (c_X12_product_5 l dC dI g c adK adV (va_up v_lp15459 39 z15475) F_lp15459 rc H.size  (d + 1) hg hI (by have h9 : (va_up v_lp15459 39 z15475) 38 = v_lp15459 38 := rfl; (try rw [h9]); clear h9; have h9 : (va_up v_lp15459 39 z15475) 39 = z15475 := rfl; (try rw [h9]); clear h9; have h9 : (va_up v_lp15459 39 z15475) 30 = v 30 := (hf_lp15459 30 (by decide)).trans (hf15454 30 (by decide)); (try rw [h9]); clear h9; have h9 : (va_up v_lp15459 39 z15475) 40 = v_lp15459 40 := rfl; (try rw [h9]); clear h9; have h9 : (va_up v_lp15459 39 z15475) 41 = v_lp15459 41 := rfl; (try rw [h9]); clear h9; omega) (by have h9 : (va_up v_lp15459 39 z15475) 37 = (v 37) := (hf_lp15459 37 (by decide)).trans (hf15454 37 (by decide)); have h8 : (va_up v_lp15459 39 z15475) 38 = (v_lp15459 38) := rfl; (try rw [h9]); (try rw [h8]); exact hd (by omega))) (cwV 0 hwd (gV wk_1042 wk_1044 wk_1045 wk_1046 wk_5) rfl rfl rfl (by decide +kernel) ⟨Nat.le_of_ble_eq_true rfl, Nat.le_of_ble_eq_true rfl⟩) ⟨PM.blind, va_recv hK hP (ci := 12) (q0 := 0) rfl rfl, fun U hU hW => ⟨rfl, PM.at hK hE hP hS hU hW⟩⟩ rfl rfl hl.1 rfl (lv_room (Nat.le_of_ble_eq_true rfl)) dX12_sum_45 ⟨Nat.le_of_ble_eq_true rfl, Nat.le_of_ble_eq_true rfl⟩) hS (fun q _ h => (freeM hS) q h) (freeM hS) (fun u t H1 locs ht hvm hw hB hz1 hk1 hS => ?_)
          unfold BM at hB
          rw [ht] at hB
          obtain ⟨v15484, F15485, rc9⟩ := u
          obtain ⟨hI, hrc, hf15486, hG15487, hw⟩ := hw
          dsimp only at hI hrc hB hf15486 hG15487 hw
          have hF := frCF (by decide) hG15487 hF
          rw [hrc] at hB
          have hP : va_P (dC, dI) classes (wM g c v15484 F15485 rc) H1 := hB
          have hw : (z15475.toInt ≤ (v15484 39).toInt ∧ (v15484 39).toInt ≤ ((va_up v_lp15459 39 z15475) 30).toInt ∧ (v_lp15459 38).toInt ≤ (v15484 38).toInt ∧ (v15484 38).toInt - (v_lp15459 38).toInt ≤ (v15484 39).toInt - z15475.toInt ∧ (v_lp15459 41).toInt ≤ (v15484 41).toInt ∧ ((v15484 40).toInt < 0 → (v15484 41).toInt = (v_lp15459 41).toInt)) ∧ keepL ((va_up v_lp15459 39 z15475) 37) (F_lp15459 28) (F_lp15459 29) (F15485 28) (F15485 29) ∧ ((v15484 40).toInt < 0 → dp (F15485 28) (F15485 29) (bI ((va_up v_lp15459 39 z15475) 37)) (v15484 38).toInt.toNat = some ((d + 1) + 1)) := hw
          rw [show (va_up v_lp15459 39 z15475) 30 = v 30 from (hf_lp15459 30 (by decide)).trans (hf15454 30 (by decide))] at hw
          rw [show (va_up v_lp15459 39 z15475) 37 = v 37 from (hf_lp15459 37 (by decide)).trans (hf15454 37 (by decide))] at hw
          have hw_r15483 := hw
          have t15488 : 0 ≤ (v15484 38).toInt ∧ (v15484 38).toInt ≤ 120 := hI.1 38 _ _ rfl
          have t15489 : 0 ≤ (v15484 39).toInt ∧ (v15484 39).toInt ≤ 120 := hI.1 39 _ _ rfl
          have t15490 : 0 ≤ (v15484 41).toInt ∧ (v15484 41).toInt ≤ 8 := hI.1 41 _ _ rfl
          generalize H1 = H at hP hS ⊢
          have hk := hk.tr hw_r15483.2.1
          have hd := hw_r15483.2.2
          refine lv_aload_n hx hb dX12_sum_48 rfl (lv_at hl 1 rfl) ?_
          refine lv_iload_n hx hb dX12_sum_49 rfl (lv_at hl 0 rfl) ?_
          refine lv_iconst (v := 0) hx hb dX12_sum_50 (by decide) ?_
          have t15491 : 0 ≤ (v 37).toInt ∧ (v 37).toInt ≤ 9 := by have h9 := hI.1 37 _ _ rfl; rw [show v15484 37 = v 37 from (hf15486 37 (by decide)).trans ((hf_lp15459 37 (by decide)).trans (hf15454 37 (by decide)))] at h9; exact h9
          have t15492 : 0 ≤ (v15484 38).toInt ∧ (v15484 38).toInt ≤ 120 := hI.1 38 _ _ rfl
          refine va_callv (va_runV (As := [.int r15473, .int 0]) (rest := []) ⟨hx, hb, hml, hown, hwd⟩ (c_X12_lay l dC dI g c adK adV v15484 F15485 rc H.size r15473 0 hg hI (by have h9 : v15484 38 = v15484 38 := rfl; rw [h9]; omega)) (cwV 2 hwd (gV wk_1021 wk_1018 wk_1019 wk_1020 wk_5) rfl rfl rfl (by decide +kernel) ⟨Nat.le_of_ble_eq_true rfl, Nat.le_of_ble_eq_true rfl⟩) ⟨PM.blind, va_recv hK hP (ci := 12) (q0 := 0) rfl rfl, fun U hU hW => ⟨rfl, PM.at hK hE hP hS hU hW⟩⟩ rfl rfl hl.1 rfl (lv_room (Nat.le_of_ble_eq_true rfl)) dX12_sum_51 ⟨Nat.le_of_ble_eq_true rfl, Nat.le_of_ble_eq_true rfl⟩) hS (fun q _ h => (freeM hS) q h) (freeM hS) (fun u t H1 locs ht hvm hw hB hz1 hk1 hS => ?_)
          unfold BM at hB
          rw [ht] at hB
          obtain ⟨v15494, F15495, rc9⟩ := u
          obtain ⟨hI, hrc, hf15496, hG15497, hw⟩ := hw
          dsimp only at hI hrc hB hf15496 hG15497 hw
          have hF := frCF (by decide) hG15497 hF
          rw [hrc] at hB
          have hP : va_P (dC, dI) classes (wM g c v15494 F15495 rc) H1 := hB
          have hw : (v15494 38).toInt = (v15484 38).toInt + 1 ∧ keepL (v15484 37) (F15485 28) (F15485 29) (F15495 28) (F15495 29) ∧ dp (F15495 28) (F15495 29) (bI (v15484 37)) ((v15484 38).toInt.toNat + 1) = dpS (dp (F15485 28) (F15485 29) (bI (v15484 37)) (v15484 38).toInt.toNat) r15473 (0 : Int32) := hw
          rw [show v15484 37 = v 37 from (hf15486 37 (by decide)).trans ((hf_lp15459 37 (by decide)).trans (hf15454 37 (by decide)))] at hw
          have hw_r15493 := hw
          have t15498 : 0 ≤ (v15494 38).toInt ∧ (v15494 38).toInt ≤ 120 := hI.1 38 _ _ rfl
          have k15499 : (0 : Int32).toInt = 0 := by decide
          generalize H1 = H at hP hS ⊢
          have hk := hk.tr hw_r15493.2.1
          have hd : (v15484 40).toInt < 0 → dp (F15495 28) (F15495 29) (bI (v 37)) (v15494 38).toInt.toNat = some (((d + 1) + 1) - 1) := fun hf => (by have e9 : (v15494 38).toInt.toNat = (v15484 38).toInt.toNat + 1 := (by omega); rw [e9, hw_r15493.2.2, hd hf]; exact dpS_5 (by omega) (by omega) (by omega) (by omega) (by omega))
          refine lv_goto (tgt := 4) hx hb dX12_sum_54 (by decide) ?_
          exact ih_lp15459  v15494 F15495 _ _ _ (by have h9 : v15494 39 = v15484 39 := hf15496 39 (by decide); (try rw [h9]); clear h9; have h9 : v15494 38 = v15494 38 := rfl; (try rw [h9]); clear h9; have h9 : v15494 41 = v15484 41 := hf15496 41 (by decide); (try rw [h9]); clear h9; have h9 : v15494 40 = v15484 40 := hf15496 40 (by decide); (try rw [h9]); clear h9; omega) hk (by have h9 : v15494 40 = v15484 40 := hf15496 40 (by decide); (try rw [h9]); clear h9; have h9 : v15494 38 = v15494 38 := rfl; (try rw [h9]); clear h9; exact fun hf => (hd (by omega)).trans (congrArg some (by omega))) (by have h9 : v15494 39 = v15484 39 := hf15496 39 (by decide); rw [h9]; omega) (frC (by decide) hf15496 (frC (by decide) hf15486 (frU (by decide) hf_lp15459))) hI hF hP hS (lv_sub hl [1] rfl)
        · skip
          have t15500 := cv_ne (a := r15468.toInt) rfl (b := 43) (by decide) c15469
          refine lv_aload_n hx hb dX12_sum_20 rfl (lv_at hl 0 rfl) ?_
          have t15501 : 0 ≤ (v 30).toInt ∧ (v 30).toInt ≤ 120 := by have h9 := hI.1 30 _ _ rfl; rw [show v_lp15459 30 = v 30 from (hf_lp15459 30 (by decide)).trans (hf15454 30 (by decide))] at h9; exact h9
          have t15502 : 0 ≤ (v_lp15459 39).toInt ∧ (v_lp15459 39).toInt ≤ 120 := hI.1 39 _ _ rfl
          refine va_calli (va_runV (As := []) (rest := []) ⟨hx, hb, hml, hown, hwd⟩ (c_X12_look l dC dI g c adK adV v_lp15459 F_lp15459 rc H.size  hg hI ) (cwV 0 hwd (gV wk_1017 wk_1014 wk_1015 wk_1016 wk_5) rfl rfl rfl (by decide +kernel) ⟨Nat.le_of_ble_eq_true rfl, Nat.le_of_ble_eq_true rfl⟩) ⟨PM.blind, va_recv hK hP (ci := 12) (q0 := 0) rfl rfl, fun U hU hW => ⟨rfl, PM.at hK hE hP hS hU hW⟩⟩ rfl rfl hl.1 rfl (lv_room (Nat.le_of_ble_eq_true rfl)) dX12_sum_21 ⟨Nat.le_of_ble_eq_true rfl, Nat.le_of_ble_eq_true rfl⟩) hS (fun q _ h => (freeM hS) q h) (freeM hS) (fun r15503 u t H1 locs ht hvm hw hB hz1 hk1 hS => ?_)
          unfold BM at hB
          rw [ht] at hB
          have hP : va_P (dC, dI) classes (wM g c v_lp15459 F_lp15459 rc) H1 := hB
          have hw : r15503.toInt = lkM (v_lp15459 39) (v_lp15459 30) (F_lp15459 24) ∧ ((v_lp15459 39).toInt < (v_lp15459 30).toInt ∨ r15503.toInt = -1) := hw
          rw [show v_lp15459 30 = v 30 from (hf_lp15459 30 (by decide)).trans (hf15454 30 (by decide))] at hw
          rw [hF 24 (by decide)] at hw
          have hw_r15503 := hw
          generalize H1 = H at hP hS ⊢
          refine lv_bipush (v := 45) hx hb dX12_sum_24 (by decide) ?_
          refine lv_icmp_ne (tgt := 57) hx hb dX12_sum_26 (by decide) (fun c15504 => ?_) (fun c15504 => ?_)
          · skip
            have t15505 := cv_ne (a := r15503.toInt) rfl (b := 45) (by decide) c15504
            have hP9 : va_P (dC, dI) classes (wM g c v_lp15459 F_lp15459 rc) H := hP
            exact W.vret hx hb hr (fun t ht hW => ⟨⟨(v_lp15459, F_lp15459, rc), rfl, ⟨hI, rfl, (frC (by decide) hf_lp15459 (frC (by decide) hf15454 (fun _ _ => rfl))), hF, (by show ((v 39).toInt ≤ (v_lp15459 39).toInt ∧ (v_lp15459 39).toInt ≤ (v 30).toInt ∧ (v 38).toInt ≤ (v_lp15459 38).toInt ∧ (v_lp15459 38).toInt - (v 38).toInt ≤ (v_lp15459 39).toInt - (v 39).toInt ∧ (v 41).toInt ≤ (v_lp15459 41).toInt ∧ ((v_lp15459 40).toInt < 0 → (v_lp15459 41).toInt = (v 41).toInt)) ∧ keepL (v 37) (F 28) (F 29) (F_lp15459 28) (F_lp15459 29) ∧ ((v_lp15459 40).toInt < 0 → dp (F_lp15459 28) (F_lp15459 29) (bI (v 37)) (v_lp15459 38).toInt.toNat = some (d + 1)); exact ⟨by omega, hk, fun hf => (hd (by omega)).trans (congrArg some (by omega))⟩)⟩, (by show va_P _ _ _ t.heap; rw [ht]; exact hP9)⟩, hS.F ht⟩) hS.2.2 dX12_sum_57
          · skip
            have t15506 := cv_eq (a := r15503.toInt) rfl (b := 45) (by decide) c15504
            refine lv_aload_n hx hb dX12_sum_29 rfl (lv_at hl 0 rfl) ?_
            have t15507 : 0 ≤ (v 30).toInt ∧ (v 30).toInt ≤ 120 := by have h9 := hI.1 30 _ _ rfl; rw [show v_lp15459 30 = v 30 from (hf_lp15459 30 (by decide)).trans (hf15454 30 (by decide))] at h9; exact h9
            have t15508 : 0 ≤ (v_lp15459 39).toInt ∧ (v_lp15459 39).toInt ≤ 120 := hI.1 39 _ _ rfl
            refine va_calli (va_runV (As := []) (rest := []) ⟨hx, hb, hml, hown, hwd⟩ (c_X12_look l dC dI g c adK adV v_lp15459 F_lp15459 rc H.size  hg hI ) (cwV 0 hwd (gV wk_1017 wk_1014 wk_1015 wk_1016 wk_5) rfl rfl rfl (by decide +kernel) ⟨Nat.le_of_ble_eq_true rfl, Nat.le_of_ble_eq_true rfl⟩) ⟨PM.blind, va_recv hK hP (ci := 12) (q0 := 0) rfl rfl, fun U hU hW => ⟨rfl, PM.at hK hE hP hS hU hW⟩⟩ rfl rfl hl.1 rfl (lv_room (Nat.le_of_ble_eq_true rfl)) dX12_sum_30 ⟨Nat.le_of_ble_eq_true rfl, Nat.le_of_ble_eq_true rfl⟩) hS (fun q _ h => (freeM hS) q h) (freeM hS) (fun r15509 u t H1 locs ht hvm hw hB hz1 hk1 hS => ?_)
            unfold BM at hB
            rw [ht] at hB
            have hP : va_P (dC, dI) classes (wM g c v_lp15459 F_lp15459 rc) H1 := hB
            have hw : r15509.toInt = lkM (v_lp15459 39) (v_lp15459 30) (F_lp15459 24) ∧ ((v_lp15459 39).toInt < (v_lp15459 30).toInt ∨ r15509.toInt = -1) := hw
            rw [show v_lp15459 30 = v 30 from (hf_lp15459 30 (by decide)).trans (hf15454 30 (by decide))] at hw
            rw [hF 24 (by decide)] at hw
            have hw_r15509 := hw
            generalize H1 = H at hP hS ⊢
            refine lv_istore_n (lv' := [(1, .int r15509), (0, .ref (g 0))]) hx hb dX12_sum_33 rfl hl (by decide) rfl (fun ls hl => ?_)
            refine lv_aload_n hx hb dX12_sum_34 rfl (lv_at hl 1 rfl) ?_
            refine lv_dup hx hb dX12_sum_35 rfl ?_
            refine va_get (D := (dC, dI)) (ci := 12) (v := .int (v_lp15459 39)) (C := RX12) (T := TX12) (N := 63) hx hb hwd inA_X12 hown hK hP 0 rfl rfl 39 (by decide) (hwd _ wk_1004) (fun _ h9 => h9) rfl dX12_sum_36 ?_
            have t15510 : 0 ≤ (v_lp15459 39).toInt ∧ (v_lp15459 39).toInt ≤ 120 := hI.1 39 _ _ rfl
            refine lv_iconst (v := 1) hx hb dX12_sum_39 (by decide) ?_
            refine lv_iadd hx hb dX12_sum_40 ?_
            refine lv_topi (fun z15511 e15512 => ?_)
            try (have t15513 := tadd e15512 (a := (v_lp15459 39).toInt) rfl (b := 1) (by decide) (by omega))
            refine va_put (D := (dC, dI)) (ci := 12) (v := .int z15511) (ty := .int) (C := RX12) (T := TX12) (N := 63) (fs := fsM_0 g v_lp15459 rc) hx hb hwd inA_X12 tyX12 tyX12_ok nmX12 hown hK hP (DM hg) hS 0 rfl rfl 39 (by decide) (hwd _ wk_1004) (fun _ h9 => h9) rfl (by decide +kernel) rfl rfl (Nat.le_of_ble_eq_true rfl) dX12_sum_41 (fun H locs hP _ hS => ?_)
            have hP := va_P_eq (pM_39 g c _ _ _ _) hP
            have hI := IM.put hI 39 z15511 rfl (by omega)
            refine lv_aload_n hx hb dX12_sum_44 rfl (lv_at hl 1 rfl) ?_
            have t15514 : 0 ≤ (v 30).toInt ∧ (v 30).toInt ≤ 120 := by have h9 := hI.1 30 _ _ rfl; rw [show (va_up v_lp15459 39 z15511) 30 = v 30 from (hf_lp15459 30 (by decide)).trans (hf15454 30 (by decide))] at h9; exact h9
            have t15515 : 0 ≤ (v 37).toInt ∧ (v 37).toInt ≤ 9 := by have h9 := hI.1 37 _ _ rfl; rw [show (va_up v_lp15459 39 z15511) 37 = v 37 from (hf_lp15459 37 (by decide)).trans (hf15454 37 (by decide))] at h9; exact h9
            have t15516 : 0 ≤ (v_lp15459 38).toInt ∧ (v_lp15459 38).toInt ≤ 120 := hI.1 38 _ _ rfl
            have t15517 : 0 ≤ z15511.toInt ∧ z15511.toInt ≤ 120 := hI.1 39 _ _ rfl
            have t15518 : 0 ≤ (v_lp15459 41).toInt ∧ (v_lp15459 41).toInt ≤ 8 := hI.1 41 _ _ rfl
            refine va_callv (va_runV (As := []) (rest := []) ⟨hx, hb, hml, hown, hwd⟩ (c_X12_product_5 l dC dI g c adK adV (va_up v_lp15459 39 z15511) F_lp15459 rc H.size  (d + 1) hg hI (by have h9 : (va_up v_lp15459 39 z15511) 38 = v_lp15459 38 := rfl; (try rw [h9]); clear h9; have h9 : (va_up v_lp15459 39 z15511) 39 = z15511 := rfl; (try rw [h9]); clear h9; have h9 : (va_up v_lp15459 39 z15511) 30 = v 30 := (hf_lp15459 30 (by decide)).trans (hf15454 30 (by decide)); (try rw [h9]); clear h9; have h9 : (va_up v_lp15459 39 z15511) 40 = v_lp15459 40 := rfl; (try rw [h9]); clear h9; have h9 : (va_up v_lp15459 39 z15511) 41 = v_lp15459 41 := rfl; (try rw [h9]); clear h9; omega) (by have h9 : (va_up v_lp15459 39 z15511) 37 = (v 37) := (hf_lp15459 37 (by decide)).trans (hf15454 37 (by decide)); have h8 : (va_up v_lp15459 39 z15511) 38 = (v_lp15459 38) := rfl; (try rw [h9]); (try rw [h8]); exact hd (by omega))) (cwV 0 hwd (gV wk_1042 wk_1044 wk_1045 wk_1046 wk_5) rfl rfl rfl (by decide +kernel) ⟨Nat.le_of_ble_eq_true rfl, Nat.le_of_ble_eq_true rfl⟩) ⟨PM.blind, va_recv hK hP (ci := 12) (q0 := 0) rfl rfl, fun U hU hW => ⟨rfl, PM.at hK hE hP hS hU hW⟩⟩ rfl rfl hl.1 rfl (lv_room (Nat.le_of_ble_eq_true rfl)) dX12_sum_45 ⟨Nat.le_of_ble_eq_true rfl, Nat.le_of_ble_eq_true rfl⟩) hS (fun q _ h => (freeM hS) q h) (freeM hS) (fun u t H1 locs ht hvm hw hB hz1 hk1 hS => ?_)
            unfold BM at hB
            rw [ht] at hB
            obtain ⟨v15520, F15521, rc9⟩ := u
            obtain ⟨hI, hrc, hf15522, hG15523, hw⟩ := hw
            dsimp only at hI hrc hB hf15522 hG15523 hw
            have hF := frCF (by decide) hG15523 hF
            rw [hrc] at hB
            have hP : va_P (dC, dI) classes (wM g c v15520 F15521 rc) H1 := hB
            have hw : (z15511.toInt ≤ (v15520 39).toInt ∧ (v15520 39).toInt ≤ ((va_up v_lp15459 39 z15511) 30).toInt ∧ (v_lp15459 38).toInt ≤ (v15520 38).toInt ∧ (v15520 38).toInt - (v_lp15459 38).toInt ≤ (v15520 39).toInt - z15511.toInt ∧ (v_lp15459 41).toInt ≤ (v15520 41).toInt ∧ ((v15520 40).toInt < 0 → (v15520 41).toInt = (v_lp15459 41).toInt)) ∧ keepL ((va_up v_lp15459 39 z15511) 37) (F_lp15459 28) (F_lp15459 29) (F15521 28) (F15521 29) ∧ ((v15520 40).toInt < 0 → dp (F15521 28) (F15521 29) (bI ((va_up v_lp15459 39 z15511) 37)) (v15520 38).toInt.toNat = some ((d + 1) + 1)) := hw
            rw [show (va_up v_lp15459 39 z15511) 30 = v 30 from (hf_lp15459 30 (by decide)).trans (hf15454 30 (by decide))] at hw
            rw [show (va_up v_lp15459 39 z15511) 37 = v 37 from (hf_lp15459 37 (by decide)).trans (hf15454 37 (by decide))] at hw
            have hw_r15519 := hw
            have t15524 : 0 ≤ (v15520 38).toInt ∧ (v15520 38).toInt ≤ 120 := hI.1 38 _ _ rfl
            have t15525 : 0 ≤ (v15520 39).toInt ∧ (v15520 39).toInt ≤ 120 := hI.1 39 _ _ rfl
            have t15526 : 0 ≤ (v15520 41).toInt ∧ (v15520 41).toInt ≤ 8 := hI.1 41 _ _ rfl
            generalize H1 = H at hP hS ⊢
            have hk := hk.tr hw_r15519.2.1
            have hd := hw_r15519.2.2
            refine lv_aload_n hx hb dX12_sum_48 rfl (lv_at hl 1 rfl) ?_
            refine lv_iload_n hx hb dX12_sum_49 rfl (lv_at hl 0 rfl) ?_
            refine lv_iconst (v := 0) hx hb dX12_sum_50 (by decide) ?_
            have t15527 : 0 ≤ (v 37).toInt ∧ (v 37).toInt ≤ 9 := by have h9 := hI.1 37 _ _ rfl; rw [show v15520 37 = v 37 from (hf15522 37 (by decide)).trans ((hf_lp15459 37 (by decide)).trans (hf15454 37 (by decide)))] at h9; exact h9
            have t15528 : 0 ≤ (v15520 38).toInt ∧ (v15520 38).toInt ≤ 120 := hI.1 38 _ _ rfl
            refine va_callv (va_runV (As := [.int r15509, .int 0]) (rest := []) ⟨hx, hb, hml, hown, hwd⟩ (c_X12_lay l dC dI g c adK adV v15520 F15521 rc H.size r15509 0 hg hI (by have h9 : v15520 38 = v15520 38 := rfl; rw [h9]; omega)) (cwV 2 hwd (gV wk_1021 wk_1018 wk_1019 wk_1020 wk_5) rfl rfl rfl (by decide +kernel) ⟨Nat.le_of_ble_eq_true rfl, Nat.le_of_ble_eq_true rfl⟩) ⟨PM.blind, va_recv hK hP (ci := 12) (q0 := 0) rfl rfl, fun U hU hW => ⟨rfl, PM.at hK hE hP hS hU hW⟩⟩ rfl rfl hl.1 rfl (lv_room (Nat.le_of_ble_eq_true rfl)) dX12_sum_51 ⟨Nat.le_of_ble_eq_true rfl, Nat.le_of_ble_eq_true rfl⟩) hS (fun q _ h => (freeM hS) q h) (freeM hS) (fun u t H1 locs ht hvm hw hB hz1 hk1 hS => ?_)
            unfold BM at hB
            rw [ht] at hB
            obtain ⟨v15530, F15531, rc9⟩ := u
            obtain ⟨hI, hrc, hf15532, hG15533, hw⟩ := hw
            dsimp only at hI hrc hB hf15532 hG15533 hw
            have hF := frCF (by decide) hG15533 hF
            rw [hrc] at hB
            have hP : va_P (dC, dI) classes (wM g c v15530 F15531 rc) H1 := hB
            have hw : (v15530 38).toInt = (v15520 38).toInt + 1 ∧ keepL (v15520 37) (F15521 28) (F15521 29) (F15531 28) (F15531 29) ∧ dp (F15531 28) (F15531 29) (bI (v15520 37)) ((v15520 38).toInt.toNat + 1) = dpS (dp (F15521 28) (F15521 29) (bI (v15520 37)) (v15520 38).toInt.toNat) r15509 (0 : Int32) := hw
            rw [show v15520 37 = v 37 from (hf15522 37 (by decide)).trans ((hf_lp15459 37 (by decide)).trans (hf15454 37 (by decide)))] at hw
            have hw_r15529 := hw
            have t15534 : 0 ≤ (v15530 38).toInt ∧ (v15530 38).toInt ≤ 120 := hI.1 38 _ _ rfl
            have k15535 : (0 : Int32).toInt = 0 := by decide
            generalize H1 = H at hP hS ⊢
            have hk := hk.tr hw_r15529.2.1
            have hd : (v15520 40).toInt < 0 → dp (F15531 28) (F15531 29) (bI (v 37)) (v15530 38).toInt.toNat = some (((d + 1) + 1) - 1) := fun hf => (by have e9 : (v15530 38).toInt.toNat = (v15520 38).toInt.toNat + 1 := (by omega); rw [e9, hw_r15529.2.2, hd hf]; exact dpS_5 (by omega) (by omega) (by omega) (by omega) (by omega))
            refine lv_goto (tgt := 4) hx hb dX12_sum_54 (by decide) ?_
            exact ih_lp15459  v15530 F15531 _ _ _ (by have h9 : v15530 39 = v15520 39 := hf15532 39 (by decide); (try rw [h9]); clear h9; have h9 : v15530 38 = v15530 38 := rfl; (try rw [h9]); clear h9; have h9 : v15530 41 = v15520 41 := hf15532 41 (by decide); (try rw [h9]); clear h9; have h9 : v15530 40 = v15520 40 := hf15532 40 (by decide); (try rw [h9]); clear h9; omega) hk (by have h9 : v15530 40 = v15520 40 := hf15532 40 (by decide); (try rw [h9]); clear h9; have h9 : v15530 38 = v15530 38 := rfl; (try rw [h9]); clear h9; exact fun hf => (hd (by omega)).trans (congrArg some (by omega))) (by have h9 : v15530 39 = v15520 39 := hf15532 39 (by decide); rw [h9]; omega) (frC (by decide) hf15532 (frC (by decide) hf15522 (frU (by decide) hf_lp15459))) hI hF hP hS (lv_sub hl [1] rfl)
  obtain ⟨n9, hn9⟩ : ∃ n : Nat, 121 - (v15452 39).toInt ≤ (n : Int) := ⟨((121 - (v15452 39).toInt : Int)).toNat, by omega⟩
  exact lp15459 n9  v15452 F15453 H _ ls (by have h9 : v15452 39 = v15452 39 := rfl; (try rw [h9]); clear h9; have h9 : v15452 38 = v15452 38 := rfl; (try rw [h9]); clear h9; have h9 : v15452 41 = v15452 41 := rfl; (try rw [h9]); clear h9; have h9 : v15452 40 = v15452 40 := rfl; (try rw [h9]); clear h9; omega) hk (by have h9 : v15452 40 = v15452 40 := rfl; (try rw [h9]); clear h9; have h9 : v15452 38 = v15452 38 := rfl; (try rw [h9]); clear h9; exact fun hf => (hd (by omega)).trans (congrArg some (by omega))) (by have h9 : v15452 39 = v15452 39 := rfl; rw [h9]; omega) (fun _ _ => rfl) hI hF hP hS hl
set_option maxHeartbeats 8000000 in
set_option maxRecDepth 100000 in
theorem c_X12_either_5 (l : Launch) (dC : Nat → ClassId) (dI : Nat → Nat → Nat) (g : Nat → Nat) (c : Nat → ClassId) (adK adV : Nat → Nat) (v : Nat → Int32) (F : Nat → Nat → Int32) (rc sz : Nat) (d : Nat) (hg : injM g) (hI : IM v F) (hq : (v 38).toInt ≤ (v 39).toInt ∧ (v 39).toInt ≤ (v 30).toInt ∧ (v 40).toInt < 0 ∧ (v 41).toInt = 5) (hdp : dp (F 28) (F 29) (bI (v 37)) (v 38).toInt.toNat = some d) : Met l yX12_either (Cond.code yX12_either cX12_either 2 none :: wA) ({ frames := 18, cells := 0, slots := 0, locals := 720 }) (va_Pc [.ref (g 0)] (PM dC dI g c adK adV v F rc sz)) (va_Qv (fun (u : StM) => IM u.1 u.2.1 ∧ u.2.2 = rc ∧ (∀ k, k ∉ ([38, 39, 40, 41, 42] : List Nat) → u.1 k = v k) ∧ (∀ k, k ∉ ([28, 29] : List Nat) → u.2.1 k = F k) ∧ (((v 39).toInt ≤ (u.1 39).toInt ∧ (u.1 39).toInt ≤ (v 30).toInt ∧ (v 38).toInt ≤ (u.1 38).toInt ∧ (u.1 38).toInt - (v 38).toInt ≤ (u.1 39).toInt - (v 39).toInt ∧ (v 41).toInt ≤ (u.1 41).toInt ∧ ((u.1 40).toInt < 0 → (u.1 41).toInt = (v 41).toInt)) ∧ keepL (v 37) (F 28) (F 29) (u.2.1 28) (u.2.1 29) ∧ ((u.1 40).toInt < 0 → dp (u.2.1 28) (u.2.1 29) (bI (v 37)) (u.1 38).toInt.toNat = some (d + 1)))) (BM dC dI g c) (AM g sz)) 0 0 (AM g sz) := by
  refine Met.ofW (cc := cX12_either) (maxL := 2) (ret := none) (by decide) rfl ?_
  intro p e s m args below meth c0 s₁ B hml hv
  obtain ⟨rfl, hsz, hP, hK, hE⟩ := hv
  have hx := B.exec
  have hb := B.bytes
  have hr := B.returns
  have hts := atoms_spec (ws := Cond.code yX12_either cX12_either 2 none :: wA) B.pre
  have hwd : ∀ w ∈ wA, w.before _ s = true := fun w h => hts w (List.mem_cons_of_mem _ h)
  have hown : s.vm.findClass RX12 = some m.cls := findClass_of_methodNamed B.named
  have hlocks := B.notSynchronized
  subst hsz
  have hl := lv_entry ([.ref (g 0)]) (n := 2) (Nat.le_of_ble_eq_true rfl)
  rw [lg_entry_eq]
  generalize (lg_sl ([.ref (g 0)]) ++ List.replicate (2 - (lg_sl ([.ref (g 0)])).length) Slot.unset).toArray = ls at hl ⊢
  have hl : lv_has ls 2 [(0, .ref (g 0))] := hl
  obtain ⟨H, eH⟩ : ∃ z, z = s.heap := ⟨_, rfl⟩
  have hP : va_P (dC, dI) classes (wM g c v F rc) H := by rw [eH]; exact hP
  have hS : va_S (AM g s.heap.size) s.heap H [] := by rw [eH]; exact va_S.rf
  refine my_heap eH ?_
  have hF : ∀ k, k ∉ ([28, 29] : List Nat) → F k = F k := fun _ _ => rfl
  have hb30 : 0 ≤ (v 30).toInt ∧ (v 30).toInt ≤ 120 := hI.1 30 _ _ rfl
  have hb37 : 0 ≤ (v 37).toInt ∧ (v 37).toInt ≤ 9 := hI.1 37 _ _ rfl
  have hb38 : 0 ≤ (v 38).toInt ∧ (v 38).toInt ≤ 120 := hI.1 38 _ _ rfl
  have hb39 : 0 ≤ (v 39).toInt ∧ (v 39).toInt ≤ 120 := hI.1 39 _ _ rfl
  have hb41 : 0 ≤ (v 41).toInt ∧ (v 41).toInt ≤ 8 := hI.1 41 _ _ rfl
  have hk : keepL (v 37) (F 28) (F 29) (F 28) (F 29) := keepL.rf
  have hd : (v 40).toInt < 0 → dp (F 28) (F 29) (bI (v 37)) (v 38).toInt.toNat = some d := fun _ => hdp
  refine lv_aload_n hx hb dX12_either_0 rfl (lv_at hl 0 rfl) ?_
  have t16037 : 0 ≤ (v 30).toInt ∧ (v 30).toInt ≤ 120 := hI.1 30 _ _ rfl
  have t16038 : 0 ≤ (v 37).toInt ∧ (v 37).toInt ≤ 9 := hI.1 37 _ _ rfl
  have t16039 : 0 ≤ (v 38).toInt ∧ (v 38).toInt ≤ 120 := hI.1 38 _ _ rfl
  have t16040 : 0 ≤ (v 39).toInt ∧ (v 39).toInt ≤ 120 := hI.1 39 _ _ rfl
  have t16041 : 0 ≤ (v 41).toInt ∧ (v 41).toInt ≤ 8 := hI.1 41 _ _ rfl
  refine va_callv (va_runV (As := []) (rest := []) ⟨hx, hb, hml, hown, hwd⟩ (c_X12_sum_5 l dC dI g c adK adV v F rc H.size  d hg hI (by have h9 : v 38 = v 38 := rfl; (try rw [h9]); clear h9; have h9 : v 39 = v 39 := rfl; (try rw [h9]); clear h9; have h9 : v 30 = v 30 := rfl; (try rw [h9]); clear h9; have h9 : v 40 = v 40 := rfl; (try rw [h9]); clear h9; have h9 : v 41 = v 41 := rfl; (try rw [h9]); clear h9; omega) (by have h9 : v 37 = (v 37) := rfl; have h8 : v 38 = (v 38) := rfl; (try rw [h9]); (try rw [h8]); exact hd (by omega))) (cwV 0 hwd (gV wk_1043 wk_1011 wk_1012 wk_1013 wk_5) rfl rfl rfl (by decide +kernel) ⟨Nat.le_of_ble_eq_true rfl, Nat.le_of_ble_eq_true rfl⟩) ⟨PM.blind, va_recv hK hP (ci := 12) (q0 := 0) rfl rfl, fun U hU hW => ⟨rfl, PM.at hK hE hP hS hU hW⟩⟩ rfl rfl hl.1 rfl (lv_room (Nat.le_of_ble_eq_true rfl)) dX12_either_1 ⟨Nat.le_of_ble_eq_true rfl, Nat.le_of_ble_eq_true rfl⟩) hS (fun q _ h => (freeM hS) q h) (freeM hS) (fun u t H1 locs ht hvm hw hB hz1 hk1 hS => ?_)
  unfold BM at hB
  rw [ht] at hB
  obtain ⟨v16043, F16044, rc9⟩ := u
  obtain ⟨hI, hrc, hf16045, hG16046, hw⟩ := hw
  dsimp only at hI hrc hB hf16045 hG16046 hw
  have hF := frCF (by decide) hG16046 hF
  rw [hrc] at hB
  have hP : va_P (dC, dI) classes (wM g c v16043 F16044 rc) H1 := hB
  have hw : ((v 39).toInt ≤ (v16043 39).toInt ∧ (v16043 39).toInt ≤ (v 30).toInt ∧ (v 38).toInt ≤ (v16043 38).toInt ∧ (v16043 38).toInt - (v 38).toInt ≤ (v16043 39).toInt - (v 39).toInt ∧ (v 41).toInt ≤ (v16043 41).toInt ∧ ((v16043 40).toInt < 0 → (v16043 41).toInt = (v 41).toInt)) ∧ keepL (v 37) (F 28) (F 29) (F16044 28) (F16044 29) ∧ ((v16043 40).toInt < 0 → dp (F16044 28) (F16044 29) (bI (v 37)) (v16043 38).toInt.toNat = some (d + 1)) := hw
  have hw_r16042 := hw
  have t16047 : 0 ≤ (v16043 38).toInt ∧ (v16043 38).toInt ≤ 120 := hI.1 38 _ _ rfl
  have t16048 : 0 ≤ (v16043 39).toInt ∧ (v16043 39).toInt ≤ 120 := hI.1 39 _ _ rfl
  have t16049 : 0 ≤ (v16043 41).toInt ∧ (v16043 41).toInt ≤ 8 := hI.1 41 _ _ rfl
  generalize H1 = H at hP hS ⊢
  have hk := hk.tr hw_r16042.2.1
  have hd := hw_r16042.2.2
  refine lv_aload_n hx hb dX12_either_4 rfl (lv_at hl 0 rfl) ?_
  have t16050 : 0 ≤ (v 30).toInt ∧ (v 30).toInt ≤ 120 := by have h9 := hI.1 30 _ _ rfl; rw [show v16043 30 = v 30 from hf16045 30 (by decide)] at h9; exact h9
  have t16051 : 0 ≤ (v16043 39).toInt ∧ (v16043 39).toInt ≤ 120 := hI.1 39 _ _ rfl
  refine va_calli (va_runV (As := []) (rest := []) ⟨hx, hb, hml, hown, hwd⟩ (c_X12_look l dC dI g c adK adV v16043 F16044 rc H.size  hg hI ) (cwV 0 hwd (gV wk_1017 wk_1014 wk_1015 wk_1016 wk_5) rfl rfl rfl (by decide +kernel) ⟨Nat.le_of_ble_eq_true rfl, Nat.le_of_ble_eq_true rfl⟩) ⟨PM.blind, va_recv hK hP (ci := 12) (q0 := 0) rfl rfl, fun U hU hW => ⟨rfl, PM.at hK hE hP hS hU hW⟩⟩ rfl rfl hl.1 rfl (lv_room (Nat.le_of_ble_eq_true rfl)) dX12_either_5 ⟨Nat.le_of_ble_eq_true rfl, Nat.le_of_ble_eq_true rfl⟩) hS (fun q _ h => (freeM hS) q h) (freeM hS) (fun r16052 u t H1 locs ht hvm hw hB hz1 hk1 hS => ?_)
  unfold BM at hB
  rw [ht] at hB
  have hP : va_P (dC, dI) classes (wM g c v16043 F16044 rc) H1 := hB
  have hw : r16052.toInt = lkM (v16043 39) (v16043 30) (F16044 24) ∧ ((v16043 39).toInt < (v16043 30).toInt ∨ r16052.toInt = -1) := hw
  rw [show v16043 30 = v 30 from hf16045 30 (by decide)] at hw
  rw [hF 24 (by decide)] at hw
  have hw_r16052 := hw
  generalize H1 = H at hP hS ⊢
  refine lv_istore_n (lv' := [(1, .int r16052), (0, .ref (g 0))]) hx hb dX12_either_8 rfl hl (by decide) rfl (fun ls hl => ?_)
  refine lv_aload_n hx hb dX12_either_9 rfl (lv_at hl 1 rfl) ?_
  refine va_get (D := (dC, dI)) (ci := 12) (v := .int (v16043 40)) (C := RX12) (T := TX12) (N := 63) hx hb hwd inA_X12 hown hK hP 0 rfl rfl 40 (by decide) (hwd _ wk_1005) (fun _ h9 => h9) rfl dX12_either_10 ?_
  refine lv_if_ge (tgt := 54) hx hb dX12_either_13 (by decide) (fun c16053 => ?_) (fun c16053 => ?_)
  · skip
    have t16054 := cv_le (a := 0) (by decide) (b := (v16043 40).toInt) rfl c16053
    refine lv_aload_n hx hb dX12_either_54 rfl (lv_at hl 1 rfl) ?_
    refine va_get (D := (dC, dI)) (ci := 12) (v := .int (v16043 40)) (C := RX12) (T := TX12) (N := 63) hx hb hwd inA_X12 hown hK hP 0 rfl rfl 40 (by decide) (hwd _ wk_1005) (fun _ h9 => h9) rfl dX12_either_55 ?_
    refine lv_if_ge (tgt := 70) hx hb dX12_either_58 (by decide) (fun c16055 => ?_) (fun c16055 => ?_)
    · skip
      have t16056 := cv_le (a := 0) (by decide) (b := (v16043 40).toInt) rfl c16055
      have hP9 : va_P (dC, dI) classes (wM g c v16043 F16044 rc) H := hP
      exact W.vret hx hb hr (fun t ht hW => ⟨⟨(v16043, F16044, rc), rfl, ⟨hI, rfl, (frC (by decide) hf16045 (fun _ _ => rfl)), hF, (by show ((v 39).toInt ≤ (v16043 39).toInt ∧ (v16043 39).toInt ≤ (v 30).toInt ∧ (v 38).toInt ≤ (v16043 38).toInt ∧ (v16043 38).toInt - (v 38).toInt ≤ (v16043 39).toInt - (v 39).toInt ∧ (v 41).toInt ≤ (v16043 41).toInt ∧ ((v16043 40).toInt < 0 → (v16043 41).toInt = (v 41).toInt)) ∧ keepL (v 37) (F 28) (F 29) (F16044 28) (F16044 29) ∧ ((v16043 40).toInt < 0 → dp (F16044 28) (F16044 29) (bI (v 37)) (v16043 38).toInt.toNat = some (d + 1)); exact ⟨by omega, hk, fun hf => (hd (by omega)).trans (congrArg some (by omega))⟩)⟩, (by show va_P _ _ _ t.heap; rw [ht]; exact hP9)⟩, hS.F ht⟩) hS.2.2 dX12_either_70
    · skip
      have t16057 := cv_nle (a := 0) (by decide) (b := (v16043 40).toInt) rfl c16055
      refine lv_aload_n hx hb dX12_either_61 rfl (lv_at hl 1 rfl) ?_
      have t16058 : 0 ≤ (v 30).toInt ∧ (v 30).toInt ≤ 120 := by have h9 := hI.1 30 _ _ rfl; rw [show v16043 30 = v 30 from hf16045 30 (by decide)] at h9; exact h9
      have t16059 : 0 ≤ (v16043 39).toInt ∧ (v16043 39).toInt ≤ 120 := hI.1 39 _ _ rfl
      refine va_calli (va_runV (As := []) (rest := []) ⟨hx, hb, hml, hown, hwd⟩ (c_X12_look l dC dI g c adK adV v16043 F16044 rc H.size  hg hI ) (cwV 0 hwd (gV wk_1017 wk_1014 wk_1015 wk_1016 wk_5) rfl rfl rfl (by decide +kernel) ⟨Nat.le_of_ble_eq_true rfl, Nat.le_of_ble_eq_true rfl⟩) ⟨PM.blind, va_recv hK hP (ci := 12) (q0 := 0) rfl rfl, fun U hU hW => ⟨rfl, PM.at hK hE hP hS hU hW⟩⟩ rfl rfl hl.1 rfl (lv_room (Nat.le_of_ble_eq_true rfl)) dX12_either_62 ⟨Nat.le_of_ble_eq_true rfl, Nat.le_of_ble_eq_true rfl⟩) hS (fun q _ h => (freeM hS) q h) (freeM hS) (fun r16060 u t H1 locs ht hvm hw hB hz1 hk1 hS => ?_)
      unfold BM at hB
      rw [ht] at hB
      have hP : va_P (dC, dI) classes (wM g c v16043 F16044 rc) H1 := hB
      have hw : r16060.toInt = lkM (v16043 39) (v16043 30) (F16044 24) ∧ ((v16043 39).toInt < (v16043 30).toInt ∨ r16060.toInt = -1) := hw
      rw [show v16043 30 = v 30 from hf16045 30 (by decide)] at hw
      rw [hF 24 (by decide)] at hw
      have hw_r16060 := hw
      generalize H1 = H at hP hS ⊢
      refine lv_bipush (v := 63) hx hb dX12_either_65 (by decide) ?_
      refine lv_icmp_eq (tgt := 71) hx hb dX12_either_67 (by decide) (fun c16061 => ?_) (fun c16061 => ?_)
      · skip
        have t16062 := cv_eq (a := r16060.toInt) rfl (b := 63) (by decide) c16061
        refine lv_aload_n hx hb dX12_either_71 rfl (lv_at hl 1 rfl) ?_
        have t16063 : 0 ≤ (v16043 39).toInt ∧ (v16043 39).toInt ≤ 120 := hI.1 39 _ _ rfl
        have t16064 : 0 ≤ (v16043 41).toInt ∧ (v16043 41).toInt ≤ 8 := hI.1 41 _ _ rfl
        refine va_calli (va_runV (As := []) (rest := []) ⟨hx, hb, hml, hown, hwd⟩ (c_X12_opens l dC dI g c adK adV v16043 F16044 rc H.size  hg hI (by have h9 : v16043 39 = v16043 39 := rfl; (try rw [h9]); clear h9; have h9 : v16043 30 = v 30 := hf16045 30 (by decide); (try rw [h9]); clear h9; omega)) (cwV 0 hwd (gV wk_1025 wk_1022 wk_1023 wk_1024 wk_5) rfl rfl rfl (by decide +kernel) ⟨Nat.le_of_ble_eq_true rfl, Nat.le_of_ble_eq_true rfl⟩) ⟨PM.blind, va_recv hK hP (ci := 12) (q0 := 0) rfl rfl, fun U hU hW => ⟨rfl, PM.at hK hE hP hS hU hW⟩⟩ rfl rfl hl.1 rfl (lv_room (Nat.le_of_ble_eq_true rfl)) dX12_either_72 ⟨Nat.le_of_ble_eq_true rfl, Nat.le_of_ble_eq_true rfl⟩) hS (fun q _ h => (freeM hS) q h) (freeM hS) (fun r16065 u t H1 locs ht hvm hw hB hz1 hk1 hS => ?_)
        unfold BM at hB
        rw [ht] at hB
        obtain ⟨v16066, F16067, rc9⟩ := u
        obtain ⟨hI, hrc, hf16068, hG16069, hw⟩ := hw
        dsimp only at hI hrc hB hf16068 hG16069 hw
        have hF := frCF (by decide) hG16069 hF
        rw [hrc] at hB
        have hP : va_P (dC, dI) classes (wM g c v16066 F16067 rc) H1 := hB
        have hw : (r16065.toInt = 1 ∧ (v16043 41).toInt < 8 ∧ (v16066 41).toInt = (v16043 41).toInt + 1 ∧ (v16066 39).toInt = (v16043 39).toInt + 1 ∧ (v16066 40).toInt = (v16043 40).toInt) ∨ (r16065.toInt = 0 ∧ (v16043 41).toInt = 8 ∧ 0 ≤ (v16066 40).toInt ∧ (v16066 41).toInt = (v16043 41).toInt ∧ (v16066 39).toInt = (v16043 39).toInt) := hw
        have hw_r16065 := hw
        have t16070 : 0 ≤ (v16066 39).toInt ∧ (v16066 39).toInt ≤ 120 := hI.1 39 _ _ rfl
        have t16071 : 0 ≤ (v16066 41).toInt ∧ (v16066 41).toInt ≤ 8 := hI.1 41 _ _ rfl
        generalize H1 = H at hP hS ⊢
        have hk : keepL (v 37) (F 28) (F 29) (F16067 28) (F16067 29) := by rw [hG16069 28 (by decide), hG16069 29 (by decide)]; exact hk
        have hd : (v16066 40).toInt < 0 → dp (F16067 28) (F16067 29) (bI (v 37)) (v16043 38).toInt.toNat = some (d + 1) := fun hf => (by rw [hG16069 28 (by decide), hG16069 29 (by decide)]; exact hd (by omega))
        refine lv_if_ne (tgt := 79) hx hb dX12_either_75 (by decide) (fun c16072 => ?_) (fun c16072 => ?_)
        · skip
          have t16073 := cv_ne (a := r16065.toInt) rfl (b := 0) (by decide) c16072
          refine lv_aload_n hx hb dX12_either_79 rfl (lv_at hl 1 rfl) ?_
          have t16074 : 0 ≤ (v 30).toInt ∧ (v 30).toInt ≤ 120 := by have h9 := hI.1 30 _ _ rfl; rw [show v16066 30 = v 30 from (hf16068 30 (by decide)).trans (hf16045 30 (by decide))] at h9; exact h9
          have t16075 : 0 ≤ (v 37).toInt ∧ (v 37).toInt ≤ 9 := by have h9 := hI.1 37 _ _ rfl; rw [show v16066 37 = v 37 from (hf16068 37 (by decide)).trans (hf16045 37 (by decide))] at h9; exact h9
          have t16076 : 0 ≤ (v16043 38).toInt ∧ (v16043 38).toInt ≤ 120 := by have h9 := hI.1 38 _ _ rfl; rw [show v16066 38 = v16043 38 from hf16068 38 (by decide)] at h9; exact h9
          have t16077 : 0 ≤ (v16066 39).toInt ∧ (v16066 39).toInt ≤ 120 := hI.1 39 _ _ rfl
          have t16078 : 0 ≤ (v16066 41).toInt ∧ (v16066 41).toInt ≤ 8 := hI.1 41 _ _ rfl
          refine va_callv (va_runV (As := []) (rest := []) ⟨hx, hb, hml, hown, hwd⟩ (c_X12_either_6 l dC dI g c adK adV v16066 F16067 rc H.size  (d + 1) hg hI (by have h9 : v16066 38 = v16043 38 := hf16068 38 (by decide); (try rw [h9]); clear h9; have h9 : v16066 39 = v16066 39 := rfl; (try rw [h9]); clear h9; have h9 : v16066 30 = v 30 := (hf16068 30 (by decide)).trans (hf16045 30 (by decide)); (try rw [h9]); clear h9; have h9 : v16066 40 = v16066 40 := rfl; (try rw [h9]); clear h9; have h9 : v16066 41 = v16066 41 := rfl; (try rw [h9]); clear h9; omega) (by have h9 : v16066 37 = (v 37) := (hf16068 37 (by decide)).trans (hf16045 37 (by decide)); have h8 : v16066 38 = (v16043 38) := hf16068 38 (by decide); (try rw [h9]); (try rw [h8]); exact hd (by omega))) (cwV 0 hwd (gV wk_1010 wk_1007 wk_1008 wk_1009 wk_5) rfl rfl rfl (by decide +kernel) ⟨Nat.le_of_ble_eq_true rfl, Nat.le_of_ble_eq_true rfl⟩) ⟨PM.blind, va_recv hK hP (ci := 12) (q0 := 0) rfl rfl, fun U hU hW => ⟨rfl, PM.at hK hE hP hS hU hW⟩⟩ rfl rfl hl.1 rfl (lv_room (Nat.le_of_ble_eq_true rfl)) dX12_either_80 ⟨Nat.le_of_ble_eq_true rfl, Nat.le_of_ble_eq_true rfl⟩) hS (fun q _ h => (freeM hS) q h) (freeM hS) (fun u t H1 locs ht hvm hw hB hz1 hk1 hS => ?_)
          unfold BM at hB
          rw [ht] at hB
          obtain ⟨v16080, F16081, rc9⟩ := u
          obtain ⟨hI, hrc, hf16082, hG16083, hw⟩ := hw
          dsimp only at hI hrc hB hf16082 hG16083 hw
          have hF := frCF (by decide) hG16083 hF
          rw [hrc] at hB
          have hP : va_P (dC, dI) classes (wM g c v16080 F16081 rc) H1 := hB
          have hw : ((v16066 39).toInt ≤ (v16080 39).toInt ∧ (v16080 39).toInt ≤ (v16066 30).toInt ∧ (v16066 38).toInt ≤ (v16080 38).toInt ∧ (v16080 38).toInt - (v16066 38).toInt ≤ (v16080 39).toInt - (v16066 39).toInt ∧ (v16066 41).toInt ≤ (v16080 41).toInt ∧ ((v16080 40).toInt < 0 → (v16080 41).toInt = (v16066 41).toInt)) ∧ keepL (v16066 37) (F16067 28) (F16067 29) (F16081 28) (F16081 29) ∧ ((v16080 40).toInt < 0 → dp (F16081 28) (F16081 29) (bI (v16066 37)) (v16080 38).toInt.toNat = some ((d + 1) + 1)) := hw
          rw [show v16066 30 = v 30 from (hf16068 30 (by decide)).trans (hf16045 30 (by decide))] at hw
          rw [show v16066 38 = v16043 38 from hf16068 38 (by decide)] at hw
          rw [show v16066 37 = v 37 from (hf16068 37 (by decide)).trans (hf16045 37 (by decide))] at hw
          have hw_r16079 := hw
          have t16084 : 0 ≤ (v16080 38).toInt ∧ (v16080 38).toInt ≤ 120 := hI.1 38 _ _ rfl
          have t16085 : 0 ≤ (v16080 39).toInt ∧ (v16080 39).toInt ≤ 120 := hI.1 39 _ _ rfl
          have t16086 : 0 ≤ (v16080 41).toInt ∧ (v16080 41).toInt ≤ 8 := hI.1 41 _ _ rfl
          generalize H1 = H at hP hS ⊢
          have hk := hk.tr hw_r16079.2.1
          have hd := hw_r16079.2.2
          refine lv_aload_n hx hb dX12_either_83 rfl (lv_at hl 1 rfl) ?_
          refine va_get (D := (dC, dI)) (ci := 12) (v := .int (v16080 40)) (C := RX12) (T := TX12) (N := 63) hx hb hwd inA_X12 hown hK hP 0 rfl rfl 40 (by decide) (hwd _ wk_1005) (fun _ h9 => h9) rfl dX12_either_84 ?_
          refine lv_if_lt (tgt := 91) hx hb dX12_either_87 (by decide) (fun c16087 => ?_) (fun c16087 => ?_)
          · skip
            have t16088 := cv_lt (a := (v16080 40).toInt) rfl (b := 0) (by decide) c16087
            refine lv_aload_n hx hb dX12_either_91 rfl (lv_at hl 1 rfl) ?_
            have t16089 : 0 ≤ (v 30).toInt ∧ (v 30).toInt ≤ 120 := by have h9 := hI.1 30 _ _ rfl; rw [show v16080 30 = v 30 from (hf16082 30 (by decide)).trans ((hf16068 30 (by decide)).trans (hf16045 30 (by decide)))] at h9; exact h9
            have t16090 : 0 ≤ (v16080 39).toInt ∧ (v16080 39).toInt ≤ 120 := hI.1 39 _ _ rfl
            refine va_calli (va_runV (As := []) (rest := []) ⟨hx, hb, hml, hown, hwd⟩ (c_X12_look l dC dI g c adK adV v16080 F16081 rc H.size  hg hI ) (cwV 0 hwd (gV wk_1017 wk_1014 wk_1015 wk_1016 wk_5) rfl rfl rfl (by decide +kernel) ⟨Nat.le_of_ble_eq_true rfl, Nat.le_of_ble_eq_true rfl⟩) ⟨PM.blind, va_recv hK hP (ci := 12) (q0 := 0) rfl rfl, fun U hU hW => ⟨rfl, PM.at hK hE hP hS hU hW⟩⟩ rfl rfl hl.1 rfl (lv_room (Nat.le_of_ble_eq_true rfl)) dX12_either_92 ⟨Nat.le_of_ble_eq_true rfl, Nat.le_of_ble_eq_true rfl⟩) hS (fun q _ h => (freeM hS) q h) (freeM hS) (fun r16091 u t H1 locs ht hvm hw hB hz1 hk1 hS => ?_)
            unfold BM at hB
            rw [ht] at hB
            have hP : va_P (dC, dI) classes (wM g c v16080 F16081 rc) H1 := hB
            have hw : r16091.toInt = lkM (v16080 39) (v16080 30) (F16081 24) ∧ ((v16080 39).toInt < (v16080 30).toInt ∨ r16091.toInt = -1) := hw
            rw [show v16080 30 = v 30 from (hf16082 30 (by decide)).trans ((hf16068 30 (by decide)).trans (hf16045 30 (by decide)))] at hw
            rw [hF 24 (by decide)] at hw
            have hw_r16091 := hw
            generalize H1 = H at hP hS ⊢
            refine lv_bipush (v := 58) hx hb dX12_either_95 (by decide) ?_
            refine lv_icmp_eq (tgt := 105) hx hb dX12_either_97 (by decide) (fun c16092 => ?_) (fun c16092 => ?_)
            · skip
              have t16093 := cv_eq (a := r16091.toInt) rfl (b := 58) (by decide) c16092
              refine lv_aload_n hx hb dX12_either_105 rfl (lv_at hl 1 rfl) ?_
              refine lv_dup hx hb dX12_either_106 rfl ?_
              refine va_get (D := (dC, dI)) (ci := 12) (v := .int (v16080 39)) (C := RX12) (T := TX12) (N := 63) hx hb hwd inA_X12 hown hK hP 0 rfl rfl 39 (by decide) (hwd _ wk_1004) (fun _ h9 => h9) rfl dX12_either_107 ?_
              have t16094 : 0 ≤ (v16080 39).toInt ∧ (v16080 39).toInt ≤ 120 := hI.1 39 _ _ rfl
              refine lv_iconst (v := 1) hx hb dX12_either_110 (by decide) ?_
              refine lv_iadd hx hb dX12_either_111 ?_
              refine lv_topi (fun z16095 e16096 => ?_)
              try (have t16097 := tadd e16096 (a := (v16080 39).toInt) rfl (b := 1) (by decide) (by omega))
              refine va_put (D := (dC, dI)) (ci := 12) (v := .int z16095) (ty := .int) (C := RX12) (T := TX12) (N := 63) (fs := fsM_0 g v16080 rc) hx hb hwd inA_X12 tyX12 tyX12_ok nmX12 hown hK hP (DM hg) hS 0 rfl rfl 39 (by decide) (hwd _ wk_1004) (fun _ h9 => h9) rfl (by decide +kernel) rfl rfl (Nat.le_of_ble_eq_true rfl) dX12_either_112 (fun H locs hP _ hS => ?_)
              have hP := va_P_eq (pM_39 g c _ _ _ _) hP
              have hI := IM.put hI 39 z16095 rfl (by omega)
              refine lv_aload_n hx hb dX12_either_115 rfl (lv_at hl 1 rfl) ?_
              have t16098 : 0 ≤ (v 30).toInt ∧ (v 30).toInt ≤ 120 := by have h9 := hI.1 30 _ _ rfl; rw [show (va_up v16080 39 z16095) 30 = v 30 from (hf16082 30 (by decide)).trans ((hf16068 30 (by decide)).trans (hf16045 30 (by decide)))] at h9; exact h9
              have t16099 : 0 ≤ (v 37).toInt ∧ (v 37).toInt ≤ 9 := by have h9 := hI.1 37 _ _ rfl; rw [show (va_up v16080 39 z16095) 37 = v 37 from (hf16082 37 (by decide)).trans ((hf16068 37 (by decide)).trans (hf16045 37 (by decide)))] at h9; exact h9
              have t16100 : 0 ≤ (v16080 38).toInt ∧ (v16080 38).toInt ≤ 120 := hI.1 38 _ _ rfl
              have t16101 : 0 ≤ z16095.toInt ∧ z16095.toInt ≤ 120 := hI.1 39 _ _ rfl
              have t16102 : 0 ≤ (v16080 41).toInt ∧ (v16080 41).toInt ≤ 8 := hI.1 41 _ _ rfl
              refine va_callv (va_runV (As := []) (rest := []) ⟨hx, hb, hml, hown, hwd⟩ (c_X12_either_6 l dC dI g c adK adV (va_up v16080 39 z16095) F16081 rc H.size  ((d + 1) + 1) hg hI (by have h9 : (va_up v16080 39 z16095) 38 = v16080 38 := rfl; (try rw [h9]); clear h9; have h9 : (va_up v16080 39 z16095) 39 = z16095 := rfl; (try rw [h9]); clear h9; have h9 : (va_up v16080 39 z16095) 30 = v 30 := (hf16082 30 (by decide)).trans ((hf16068 30 (by decide)).trans (hf16045 30 (by decide))); (try rw [h9]); clear h9; have h9 : (va_up v16080 39 z16095) 40 = v16080 40 := rfl; (try rw [h9]); clear h9; have h9 : (va_up v16080 39 z16095) 41 = v16080 41 := rfl; (try rw [h9]); clear h9; omega) (by have h9 : (va_up v16080 39 z16095) 37 = (v 37) := (hf16082 37 (by decide)).trans ((hf16068 37 (by decide)).trans (hf16045 37 (by decide))); have h8 : (va_up v16080 39 z16095) 38 = (v16080 38) := rfl; (try rw [h9]); (try rw [h8]); exact hd (by omega))) (cwV 0 hwd (gV wk_1010 wk_1007 wk_1008 wk_1009 wk_5) rfl rfl rfl (by decide +kernel) ⟨Nat.le_of_ble_eq_true rfl, Nat.le_of_ble_eq_true rfl⟩) ⟨PM.blind, va_recv hK hP (ci := 12) (q0 := 0) rfl rfl, fun U hU hW => ⟨rfl, PM.at hK hE hP hS hU hW⟩⟩ rfl rfl hl.1 rfl (lv_room (Nat.le_of_ble_eq_true rfl)) dX12_either_116 ⟨Nat.le_of_ble_eq_true rfl, Nat.le_of_ble_eq_true rfl⟩) hS (fun q _ h => (freeM hS) q h) (freeM hS) (fun u t H1 locs ht hvm hw hB hz1 hk1 hS => ?_)
              unfold BM at hB
              rw [ht] at hB
              obtain ⟨v16104, F16105, rc9⟩ := u
              obtain ⟨hI, hrc, hf16106, hG16107, hw⟩ := hw
              dsimp only at hI hrc hB hf16106 hG16107 hw
              have hF := frCF (by decide) hG16107 hF
              rw [hrc] at hB
              have hP : va_P (dC, dI) classes (wM g c v16104 F16105 rc) H1 := hB
              have hw : (z16095.toInt ≤ (v16104 39).toInt ∧ (v16104 39).toInt ≤ ((va_up v16080 39 z16095) 30).toInt ∧ (v16080 38).toInt ≤ (v16104 38).toInt ∧ (v16104 38).toInt - (v16080 38).toInt ≤ (v16104 39).toInt - z16095.toInt ∧ (v16080 41).toInt ≤ (v16104 41).toInt ∧ ((v16104 40).toInt < 0 → (v16104 41).toInt = (v16080 41).toInt)) ∧ keepL ((va_up v16080 39 z16095) 37) (F16081 28) (F16081 29) (F16105 28) (F16105 29) ∧ ((v16104 40).toInt < 0 → dp (F16105 28) (F16105 29) (bI ((va_up v16080 39 z16095) 37)) (v16104 38).toInt.toNat = some (((d + 1) + 1) + 1)) := hw
              rw [show (va_up v16080 39 z16095) 30 = v 30 from (hf16082 30 (by decide)).trans ((hf16068 30 (by decide)).trans (hf16045 30 (by decide)))] at hw
              rw [show (va_up v16080 39 z16095) 37 = v 37 from (hf16082 37 (by decide)).trans ((hf16068 37 (by decide)).trans (hf16045 37 (by decide)))] at hw
              have hw_r16103 := hw
              have t16108 : 0 ≤ (v16104 38).toInt ∧ (v16104 38).toInt ≤ 120 := hI.1 38 _ _ rfl
              have t16109 : 0 ≤ (v16104 39).toInt ∧ (v16104 39).toInt ≤ 120 := hI.1 39 _ _ rfl
              have t16110 : 0 ≤ (v16104 41).toInt ∧ (v16104 41).toInt ≤ 8 := hI.1 41 _ _ rfl
              generalize H1 = H at hP hS ⊢
              have hk := hk.tr hw_r16103.2.1
              have hd := hw_r16103.2.2
              refine lv_aload_n hx hb dX12_either_119 rfl (lv_at hl 1 rfl) ?_
              refine lv_iconst (v := 4) hx hb dX12_either_120 (by decide) ?_
              refine lv_iconst (v := 0) hx hb dX12_either_121 (by decide) ?_
              have t16111 : 0 ≤ (v 37).toInt ∧ (v 37).toInt ≤ 9 := by have h9 := hI.1 37 _ _ rfl; rw [show v16104 37 = v 37 from (hf16106 37 (by decide)).trans ((hf16082 37 (by decide)).trans ((hf16068 37 (by decide)).trans (hf16045 37 (by decide))))] at h9; exact h9
              have t16112 : 0 ≤ (v16104 38).toInt ∧ (v16104 38).toInt ≤ 120 := hI.1 38 _ _ rfl
              refine va_callv (va_runV (As := [.int 4, .int 0]) (rest := []) ⟨hx, hb, hml, hown, hwd⟩ (c_X12_lay l dC dI g c adK adV v16104 F16105 rc H.size 4 0 hg hI (by have h9 : v16104 38 = v16104 38 := rfl; rw [h9]; omega)) (cwV 2 hwd (gV wk_1021 wk_1018 wk_1019 wk_1020 wk_5) rfl rfl rfl (by decide +kernel) ⟨Nat.le_of_ble_eq_true rfl, Nat.le_of_ble_eq_true rfl⟩) ⟨PM.blind, va_recv hK hP (ci := 12) (q0 := 0) rfl rfl, fun U hU hW => ⟨rfl, PM.at hK hE hP hS hU hW⟩⟩ rfl rfl hl.1 rfl (lv_room (Nat.le_of_ble_eq_true rfl)) dX12_either_122 ⟨Nat.le_of_ble_eq_true rfl, Nat.le_of_ble_eq_true rfl⟩) hS (fun q _ h => (freeM hS) q h) (freeM hS) (fun u t H1 locs ht hvm hw hB hz1 hk1 hS => ?_)
              unfold BM at hB
              rw [ht] at hB
              obtain ⟨v16114, F16115, rc9⟩ := u
              obtain ⟨hI, hrc, hf16116, hG16117, hw⟩ := hw
              dsimp only at hI hrc hB hf16116 hG16117 hw
              have hF := frCF (by decide) hG16117 hF
              rw [hrc] at hB
              have hP : va_P (dC, dI) classes (wM g c v16114 F16115 rc) H1 := hB
              have hw : (v16114 38).toInt = (v16104 38).toInt + 1 ∧ keepL (v16104 37) (F16105 28) (F16105 29) (F16115 28) (F16115 29) ∧ dp (F16115 28) (F16115 29) (bI (v16104 37)) ((v16104 38).toInt.toNat + 1) = dpS (dp (F16105 28) (F16105 29) (bI (v16104 37)) (v16104 38).toInt.toNat) (4 : Int32) (0 : Int32) := hw
              rw [show v16104 37 = v 37 from (hf16106 37 (by decide)).trans ((hf16082 37 (by decide)).trans ((hf16068 37 (by decide)).trans (hf16045 37 (by decide))))] at hw
              have hw_r16113 := hw
              have t16118 : 0 ≤ (v16114 38).toInt ∧ (v16114 38).toInt ≤ 120 := hI.1 38 _ _ rfl
              have k16119 : (4 : Int32).toInt = 4 := by decide
              have k16120 : (0 : Int32).toInt = 0 := by decide
              generalize H1 = H at hP hS ⊢
              have hk := hk.tr hw_r16113.2.1
              have hd : (v16104 40).toInt < 0 → dp (F16115 28) (F16115 29) (bI (v 37)) (v16114 38).toInt.toNat = some ((((d + 1) + 1) + 1) - 2) := fun hf => (by have e9 : (v16114 38).toInt.toNat = (v16104 38).toInt.toNat + 1 := (by omega); rw [e9, hw_r16113.2.2, hd hf]; exact dpS_4 (by decide) (by omega))
              refine lv_aload_n hx hb dX12_either_125 rfl (lv_at hl 1 rfl) ?_
              refine lv_dup hx hb dX12_either_126 rfl ?_
              refine va_get (D := (dC, dI)) (ci := 12) (v := .int (v16114 41)) (C := RX12) (T := TX12) (N := 63) hx hb hwd inA_X12 hown hK hP 0 rfl rfl 41 (by decide) (hwd _ wk_1006) (fun _ h9 => h9) rfl dX12_either_127 ?_
              refine my_top (v := v16104 41) (hf16116 41 (by decide)) ?_
              have t16121 : 0 ≤ (v16104 41).toInt ∧ (v16104 41).toInt ≤ 8 := by have h9 := hI.1 41 _ _ rfl; rw [show v16114 41 = v16104 41 from hf16116 41 (by decide)] at h9; exact h9
              refine lv_iconst (v := 1) hx hb dX12_either_130 (by decide) ?_
              refine lv_isub hx hb dX12_either_131 ?_
              refine lv_topi (fun z16122 e16123 => ?_)
              try (have t16124 := tsub e16123 (a := (v16104 41).toInt) rfl (b := 1) (by decide) (by omega))
              refine va_put (D := (dC, dI)) (ci := 12) (v := .int z16122) (ty := .int) (C := RX12) (T := TX12) (N := 63) (fs := fsM_0 g v16114 rc) hx hb hwd inA_X12 tyX12 tyX12_ok nmX12 hown hK hP (DM hg) hS 0 rfl rfl 41 (by decide) (hwd _ wk_1006) (fun _ h9 => h9) rfl (by decide +kernel) rfl rfl (Nat.le_of_ble_eq_true rfl) dX12_either_132 (fun H locs hP _ hS => ?_)
              have hP := va_P_eq (pM_41 g c _ _ _ _) hP
              have hI := IM.put hI 41 z16122 rfl (by omega)
              have hP9 : va_P (dC, dI) classes (wM g c (va_up v16114 41 z16122) F16115 rc) H := hP
              exact W.vret hx hb hr (fun t ht hW => ⟨⟨((va_up v16114 41 z16122), F16115, rc), rfl, ⟨hI, rfl, (frU (by decide) (frC (by decide) hf16116 (frC (by decide) hf16106 (frU (by decide) (frC (by decide) hf16082 (frC (by decide) hf16068 (frC (by decide) hf16045 (fun _ _ => rfl)))))))), hF, (by show ((v 39).toInt ≤ ((va_up v16114 41 z16122) 39).toInt ∧ ((va_up v16114 41 z16122) 39).toInt ≤ (v 30).toInt ∧ (v 38).toInt ≤ (v16114 38).toInt ∧ (v16114 38).toInt - (v 38).toInt ≤ ((va_up v16114 41 z16122) 39).toInt - (v 39).toInt ∧ (v 41).toInt ≤ z16122.toInt ∧ (((va_up v16114 41 z16122) 40).toInt < 0 → z16122.toInt = (v 41).toInt)) ∧ keepL (v 37) (F 28) (F 29) (F16115 28) (F16115 29) ∧ (((va_up v16114 41 z16122) 40).toInt < 0 → dp (F16115 28) (F16115 29) (bI (v 37)) (v16114 38).toInt.toNat = some (d + 1)); rw [show (va_up v16114 41 z16122) 39 = v16104 39 from hf16116 39 (by decide)]; rw [show (va_up v16114 41 z16122) 40 = v16104 40 from hf16116 40 (by decide)]; exact ⟨by omega, hk, fun hf => (hd (by omega)).trans (congrArg some (by omega))⟩)⟩, (by show va_P _ _ _ t.heap; rw [ht]; exact hP9)⟩, hS.F ht⟩) hS.2.2 dX12_either_135
            · skip
              have t16125 := cv_ne (a := r16091.toInt) rfl (b := 58) (by decide) c16092
              refine lv_aload_n hx hb dX12_either_100 rfl (lv_at hl 1 rfl) ?_
              refine va_callv (va_runV (As := []) (rest := []) ⟨hx, hb, hml, hown, hwd⟩ (c_X12_wrong l dC dI g c adK adV v16080 F16081 rc H.size  hg hI ) (cwV 0 hwd (gV wk_1029 wk_1026 wk_1027 wk_1028 wk_5) rfl rfl rfl (by decide +kernel) ⟨Nat.le_of_ble_eq_true rfl, Nat.le_of_ble_eq_true rfl⟩) ⟨PM.blind, va_recv hK hP (ci := 12) (q0 := 0) rfl rfl, fun U hU hW => ⟨rfl, PM.at hK hE hP hS hU hW⟩⟩ rfl rfl hl.1 rfl (lv_room (Nat.le_of_ble_eq_true rfl)) dX12_either_101 ⟨Nat.le_of_ble_eq_true rfl, Nat.le_of_ble_eq_true rfl⟩) hS (fun q _ h => (freeM hS) q h) (freeM hS) (fun u t H1 locs ht hvm hw hB hz1 hk1 hS => ?_)
              unfold BM at hB
              rw [ht] at hB
              obtain ⟨v16127, F16128, rc9⟩ := u
              obtain ⟨hI, hrc, hf16129, hG16130, hw⟩ := hw
              dsimp only at hI hrc hB hf16129 hG16130 hw
              have hF := frCF (by decide) hG16130 hF
              rw [hrc] at hB
              have hP : va_P (dC, dI) classes (wM g c v16127 F16128 rc) H1 := hB
              have hw : 0 ≤ (v16127 40).toInt := hw
              have hw_r16126 := hw
              generalize H1 = H at hP hS ⊢
              have hk : keepL (v 37) (F 28) (F 29) (F16128 28) (F16128 29) := by rw [hG16130 28 (by decide), hG16130 29 (by decide)]; exact hk
              have hd : (v16127 40).toInt < 0 → dp (F16128 28) (F16128 29) (bI (v 37)) (v16080 38).toInt.toNat = some ((d + 1) + 1) := fun hf => (by rw [hG16130 28 (by decide), hG16130 29 (by decide)]; exact hd (by omega))
              have hP9 : va_P (dC, dI) classes (wM g c v16127 F16128 rc) H := hP
              exact W.vret hx hb hr (fun t ht hW => ⟨⟨(v16127, F16128, rc), rfl, ⟨hI, rfl, (frC (by decide) hf16129 (frC (by decide) hf16082 (frC (by decide) hf16068 (frC (by decide) hf16045 (fun _ _ => rfl))))), hF, (by show ((v 39).toInt ≤ (v16127 39).toInt ∧ (v16127 39).toInt ≤ (v 30).toInt ∧ (v 38).toInt ≤ (v16127 38).toInt ∧ (v16127 38).toInt - (v 38).toInt ≤ (v16127 39).toInt - (v 39).toInt ∧ (v 41).toInt ≤ (v16127 41).toInt ∧ ((v16127 40).toInt < 0 → (v16127 41).toInt = (v 41).toInt)) ∧ keepL (v 37) (F 28) (F 29) (F16128 28) (F16128 29) ∧ ((v16127 40).toInt < 0 → dp (F16128 28) (F16128 29) (bI (v 37)) (v16127 38).toInt.toNat = some (d + 1)); rw [show v16127 39 = v16080 39 from hf16129 39 (by decide)]; rw [show v16127 38 = v16080 38 from hf16129 38 (by decide)]; rw [show v16127 41 = v16080 41 from hf16129 41 (by decide)]; exact ⟨by omega, hk, fun hf => (hd (by omega)).trans (congrArg some (by omega))⟩)⟩, (by show va_P _ _ _ t.heap; rw [ht]; exact hP9)⟩, hS.F ht⟩) hS.2.2 dX12_either_104
          · skip
            have t16131 := cv_nlt (a := (v16080 40).toInt) rfl (b := 0) (by decide) c16087
            have hP9 : va_P (dC, dI) classes (wM g c v16080 F16081 rc) H := hP
            exact W.vret hx hb hr (fun t ht hW => ⟨⟨(v16080, F16081, rc), rfl, ⟨hI, rfl, (frC (by decide) hf16082 (frC (by decide) hf16068 (frC (by decide) hf16045 (fun _ _ => rfl)))), hF, (by show ((v 39).toInt ≤ (v16080 39).toInt ∧ (v16080 39).toInt ≤ (v 30).toInt ∧ (v 38).toInt ≤ (v16080 38).toInt ∧ (v16080 38).toInt - (v 38).toInt ≤ (v16080 39).toInt - (v 39).toInt ∧ (v 41).toInt ≤ (v16080 41).toInt ∧ ((v16080 40).toInt < 0 → (v16080 41).toInt = (v 41).toInt)) ∧ keepL (v 37) (F 28) (F 29) (F16081 28) (F16081 29) ∧ ((v16080 40).toInt < 0 → dp (F16081 28) (F16081 29) (bI (v 37)) (v16080 38).toInt.toNat = some (d + 1)); exact ⟨by omega, hk, fun hf => (hd (by omega)).trans (congrArg some (by omega))⟩)⟩, (by show va_P _ _ _ t.heap; rw [ht]; exact hP9)⟩, hS.F ht⟩) hS.2.2 dX12_either_90
        · skip
          have t16132 := cv_eq (a := r16065.toInt) rfl (b := 0) (by decide) c16072
          have hP9 : va_P (dC, dI) classes (wM g c v16066 F16067 rc) H := hP
          exact W.vret hx hb hr (fun t ht hW => ⟨⟨(v16066, F16067, rc), rfl, ⟨hI, rfl, (frC (by decide) hf16068 (frC (by decide) hf16045 (fun _ _ => rfl))), hF, (by show ((v 39).toInt ≤ (v16066 39).toInt ∧ (v16066 39).toInt ≤ (v 30).toInt ∧ (v 38).toInt ≤ (v16066 38).toInt ∧ (v16066 38).toInt - (v 38).toInt ≤ (v16066 39).toInt - (v 39).toInt ∧ (v 41).toInt ≤ (v16066 41).toInt ∧ ((v16066 40).toInt < 0 → (v16066 41).toInt = (v 41).toInt)) ∧ keepL (v 37) (F 28) (F 29) (F16067 28) (F16067 29) ∧ ((v16066 40).toInt < 0 → dp (F16067 28) (F16067 29) (bI (v 37)) (v16066 38).toInt.toNat = some (d + 1)); rw [show v16066 38 = v16043 38 from hf16068 38 (by decide)]; exact ⟨by omega, hk, fun hf => (hd (by omega)).trans (congrArg some (by omega))⟩)⟩, (by show va_P _ _ _ t.heap; rw [ht]; exact hP9)⟩, hS.F ht⟩) hS.2.2 dX12_either_78
      · skip
        have t16133 := cv_ne (a := r16060.toInt) rfl (b := 63) (by decide) c16061
        have hP9 : va_P (dC, dI) classes (wM g c v16043 F16044 rc) H := hP
        exact W.vret hx hb hr (fun t ht hW => ⟨⟨(v16043, F16044, rc), rfl, ⟨hI, rfl, (frC (by decide) hf16045 (fun _ _ => rfl)), hF, (by show ((v 39).toInt ≤ (v16043 39).toInt ∧ (v16043 39).toInt ≤ (v 30).toInt ∧ (v 38).toInt ≤ (v16043 38).toInt ∧ (v16043 38).toInt - (v 38).toInt ≤ (v16043 39).toInt - (v 39).toInt ∧ (v 41).toInt ≤ (v16043 41).toInt ∧ ((v16043 40).toInt < 0 → (v16043 41).toInt = (v 41).toInt)) ∧ keepL (v 37) (F 28) (F 29) (F16044 28) (F16044 29) ∧ ((v16043 40).toInt < 0 → dp (F16044 28) (F16044 29) (bI (v 37)) (v16043 38).toInt.toNat = some (d + 1)); exact ⟨by omega, hk, fun hf => (hd (by omega)).trans (congrArg some (by omega))⟩)⟩, (by show va_P _ _ _ t.heap; rw [ht]; exact hP9)⟩, hS.F ht⟩) hS.2.2 dX12_either_70
  · skip
    have t16134 := cv_nle (a := 0) (by decide) (b := (v16043 40).toInt) rfl c16053
    refine lv_iload_n hx hb dX12_either_16 rfl (lv_at hl 0 rfl) ?_
    refine lv_bipush (v := 60) hx hb dX12_either_17 (by decide) ?_
    refine lv_icmp_eq (tgt := 34) hx hb dX12_either_19 (by decide) (fun c16135 => ?_) (fun c16135 => ?_)
    · skip
      have t16136 := cv_eq (a := r16052.toInt) rfl (b := 60) (by decide) c16135
      refine lv_aload_n hx hb dX12_either_34 rfl (lv_at hl 1 rfl) ?_
      refine lv_dup hx hb dX12_either_35 rfl ?_
      refine va_get (D := (dC, dI)) (ci := 12) (v := .int (v16043 39)) (C := RX12) (T := TX12) (N := 63) hx hb hwd inA_X12 hown hK hP 0 rfl rfl 39 (by decide) (hwd _ wk_1004) (fun _ h9 => h9) rfl dX12_either_36 ?_
      have t16137 : 0 ≤ (v16043 39).toInt ∧ (v16043 39).toInt ≤ 120 := hI.1 39 _ _ rfl
      refine lv_iconst (v := 1) hx hb dX12_either_39 (by decide) ?_
      refine lv_iadd hx hb dX12_either_40 ?_
      refine lv_topi (fun z16138 e16139 => ?_)
      try (have t16140 := tadd e16139 (a := (v16043 39).toInt) rfl (b := 1) (by decide) (by omega))
      refine va_put (D := (dC, dI)) (ci := 12) (v := .int z16138) (ty := .int) (C := RX12) (T := TX12) (N := 63) (fs := fsM_0 g v16043 rc) hx hb hwd inA_X12 tyX12 tyX12_ok nmX12 hown hK hP (DM hg) hS 0 rfl rfl 39 (by decide) (hwd _ wk_1004) (fun _ h9 => h9) rfl (by decide +kernel) rfl rfl (Nat.le_of_ble_eq_true rfl) dX12_either_41 (fun H locs hP _ hS => ?_)
      have hP := va_P_eq (pM_39 g c _ _ _ _) hP
      have hI := IM.put hI 39 z16138 rfl (by omega)
      refine lv_aload_n hx hb dX12_either_44 rfl (lv_at hl 1 rfl) ?_
      have t16141 : 0 ≤ (v 30).toInt ∧ (v 30).toInt ≤ 120 := by have h9 := hI.1 30 _ _ rfl; rw [show (va_up v16043 39 z16138) 30 = v 30 from hf16045 30 (by decide)] at h9; exact h9
      have t16142 : 0 ≤ (v 37).toInt ∧ (v 37).toInt ≤ 9 := by have h9 := hI.1 37 _ _ rfl; rw [show (va_up v16043 39 z16138) 37 = v 37 from hf16045 37 (by decide)] at h9; exact h9
      have t16143 : 0 ≤ (v16043 38).toInt ∧ (v16043 38).toInt ≤ 120 := hI.1 38 _ _ rfl
      have t16144 : 0 ≤ z16138.toInt ∧ z16138.toInt ≤ 120 := hI.1 39 _ _ rfl
      have t16145 : 0 ≤ (v16043 41).toInt ∧ (v16043 41).toInt ≤ 8 := hI.1 41 _ _ rfl
      refine va_callv (va_runV (As := []) (rest := []) ⟨hx, hb, hml, hown, hwd⟩ (c_X12_sum_5 l dC dI g c adK adV (va_up v16043 39 z16138) F16044 rc H.size  (d + 1) hg hI (by have h9 : (va_up v16043 39 z16138) 38 = v16043 38 := rfl; (try rw [h9]); clear h9; have h9 : (va_up v16043 39 z16138) 39 = z16138 := rfl; (try rw [h9]); clear h9; have h9 : (va_up v16043 39 z16138) 30 = v 30 := hf16045 30 (by decide); (try rw [h9]); clear h9; have h9 : (va_up v16043 39 z16138) 40 = v16043 40 := rfl; (try rw [h9]); clear h9; have h9 : (va_up v16043 39 z16138) 41 = v16043 41 := rfl; (try rw [h9]); clear h9; omega) (by have h9 : (va_up v16043 39 z16138) 37 = (v 37) := hf16045 37 (by decide); have h8 : (va_up v16043 39 z16138) 38 = (v16043 38) := rfl; (try rw [h9]); (try rw [h8]); exact hd (by omega))) (cwV 0 hwd (gV wk_1043 wk_1011 wk_1012 wk_1013 wk_5) rfl rfl rfl (by decide +kernel) ⟨Nat.le_of_ble_eq_true rfl, Nat.le_of_ble_eq_true rfl⟩) ⟨PM.blind, va_recv hK hP (ci := 12) (q0 := 0) rfl rfl, fun U hU hW => ⟨rfl, PM.at hK hE hP hS hU hW⟩⟩ rfl rfl hl.1 rfl (lv_room (Nat.le_of_ble_eq_true rfl)) dX12_either_45 ⟨Nat.le_of_ble_eq_true rfl, Nat.le_of_ble_eq_true rfl⟩) hS (fun q _ h => (freeM hS) q h) (freeM hS) (fun u t H1 locs ht hvm hw hB hz1 hk1 hS => ?_)
      unfold BM at hB
      rw [ht] at hB
      obtain ⟨v16147, F16148, rc9⟩ := u
      obtain ⟨hI, hrc, hf16149, hG16150, hw⟩ := hw
      dsimp only at hI hrc hB hf16149 hG16150 hw
      have hF := frCF (by decide) hG16150 hF
      rw [hrc] at hB
      have hP : va_P (dC, dI) classes (wM g c v16147 F16148 rc) H1 := hB
      have hw : (z16138.toInt ≤ (v16147 39).toInt ∧ (v16147 39).toInt ≤ ((va_up v16043 39 z16138) 30).toInt ∧ (v16043 38).toInt ≤ (v16147 38).toInt ∧ (v16147 38).toInt - (v16043 38).toInt ≤ (v16147 39).toInt - z16138.toInt ∧ (v16043 41).toInt ≤ (v16147 41).toInt ∧ ((v16147 40).toInt < 0 → (v16147 41).toInt = (v16043 41).toInt)) ∧ keepL ((va_up v16043 39 z16138) 37) (F16044 28) (F16044 29) (F16148 28) (F16148 29) ∧ ((v16147 40).toInt < 0 → dp (F16148 28) (F16148 29) (bI ((va_up v16043 39 z16138) 37)) (v16147 38).toInt.toNat = some ((d + 1) + 1)) := hw
      rw [show (va_up v16043 39 z16138) 30 = v 30 from hf16045 30 (by decide)] at hw
      rw [show (va_up v16043 39 z16138) 37 = v 37 from hf16045 37 (by decide)] at hw
      have hw_r16146 := hw
      have t16151 : 0 ≤ (v16147 38).toInt ∧ (v16147 38).toInt ≤ 120 := hI.1 38 _ _ rfl
      have t16152 : 0 ≤ (v16147 39).toInt ∧ (v16147 39).toInt ≤ 120 := hI.1 39 _ _ rfl
      have t16153 : 0 ≤ (v16147 41).toInt ∧ (v16147 41).toInt ≤ 8 := hI.1 41 _ _ rfl
      generalize H1 = H at hP hS ⊢
      have hk := hk.tr hw_r16146.2.1
      have hd := hw_r16146.2.2
      refine lv_aload_n hx hb dX12_either_48 rfl (lv_at hl 1 rfl) ?_
      refine lv_iload_n hx hb dX12_either_49 rfl (lv_at hl 0 rfl) ?_
      refine lv_iconst (v := 0) hx hb dX12_either_50 (by decide) ?_
      have t16154 : 0 ≤ (v 37).toInt ∧ (v 37).toInt ≤ 9 := by have h9 := hI.1 37 _ _ rfl; rw [show v16147 37 = v 37 from (hf16149 37 (by decide)).trans (hf16045 37 (by decide))] at h9; exact h9
      have t16155 : 0 ≤ (v16147 38).toInt ∧ (v16147 38).toInt ≤ 120 := hI.1 38 _ _ rfl
      refine va_callv (va_runV (As := [.int r16052, .int 0]) (rest := []) ⟨hx, hb, hml, hown, hwd⟩ (c_X12_lay l dC dI g c adK adV v16147 F16148 rc H.size r16052 0 hg hI (by have h9 : v16147 38 = v16147 38 := rfl; rw [h9]; omega)) (cwV 2 hwd (gV wk_1021 wk_1018 wk_1019 wk_1020 wk_5) rfl rfl rfl (by decide +kernel) ⟨Nat.le_of_ble_eq_true rfl, Nat.le_of_ble_eq_true rfl⟩) ⟨PM.blind, va_recv hK hP (ci := 12) (q0 := 0) rfl rfl, fun U hU hW => ⟨rfl, PM.at hK hE hP hS hU hW⟩⟩ rfl rfl hl.1 rfl (lv_room (Nat.le_of_ble_eq_true rfl)) dX12_either_51 ⟨Nat.le_of_ble_eq_true rfl, Nat.le_of_ble_eq_true rfl⟩) hS (fun q _ h => (freeM hS) q h) (freeM hS) (fun u t H1 locs ht hvm hw hB hz1 hk1 hS => ?_)
      unfold BM at hB
      rw [ht] at hB
      obtain ⟨v16157, F16158, rc9⟩ := u
      obtain ⟨hI, hrc, hf16159, hG16160, hw⟩ := hw
      dsimp only at hI hrc hB hf16159 hG16160 hw
      have hF := frCF (by decide) hG16160 hF
      rw [hrc] at hB
      have hP : va_P (dC, dI) classes (wM g c v16157 F16158 rc) H1 := hB
      have hw : (v16157 38).toInt = (v16147 38).toInt + 1 ∧ keepL (v16147 37) (F16148 28) (F16148 29) (F16158 28) (F16158 29) ∧ dp (F16158 28) (F16158 29) (bI (v16147 37)) ((v16147 38).toInt.toNat + 1) = dpS (dp (F16148 28) (F16148 29) (bI (v16147 37)) (v16147 38).toInt.toNat) r16052 (0 : Int32) := hw
      rw [show v16147 37 = v 37 from (hf16149 37 (by decide)).trans (hf16045 37 (by decide))] at hw
      have hw_r16156 := hw
      have t16161 : 0 ≤ (v16157 38).toInt ∧ (v16157 38).toInt ≤ 120 := hI.1 38 _ _ rfl
      have k16162 : (0 : Int32).toInt = 0 := by decide
      generalize H1 = H at hP hS ⊢
      have hk := hk.tr hw_r16156.2.1
      have hd : (v16147 40).toInt < 0 → dp (F16158 28) (F16158 29) (bI (v 37)) (v16157 38).toInt.toNat = some (((d + 1) + 1) - 1) := fun hf => (by have e9 : (v16157 38).toInt.toNat = (v16147 38).toInt.toNat + 1 := (by omega); rw [e9, hw_r16156.2.2, hd hf]; exact dpS_5 (by omega) (by omega) (by omega) (by omega) (by omega))
      refine lv_aload_n hx hb dX12_either_54 rfl (lv_at hl 1 rfl) ?_
      refine va_get (D := (dC, dI)) (ci := 12) (v := .int (v16157 40)) (C := RX12) (T := TX12) (N := 63) hx hb hwd inA_X12 hown hK hP 0 rfl rfl 40 (by decide) (hwd _ wk_1005) (fun _ h9 => h9) rfl dX12_either_55 ?_
      refine my_top (v := v16147 40) (hf16159 40 (by decide)) ?_
      refine lv_if_ge (tgt := 70) hx hb dX12_either_58 (by decide) (fun c16163 => ?_) (fun c16163 => ?_)
      · skip
        have t16164 := cv_le (a := 0) (by decide) (b := (v16147 40).toInt) rfl c16163
        have hP9 : va_P (dC, dI) classes (wM g c v16157 F16158 rc) H := hP
        exact W.vret hx hb hr (fun t ht hW => ⟨⟨(v16157, F16158, rc), rfl, ⟨hI, rfl, (frC (by decide) hf16159 (frC (by decide) hf16149 (frU (by decide) (frC (by decide) hf16045 (fun _ _ => rfl))))), hF, (by show ((v 39).toInt ≤ (v16157 39).toInt ∧ (v16157 39).toInt ≤ (v 30).toInt ∧ (v 38).toInt ≤ (v16157 38).toInt ∧ (v16157 38).toInt - (v 38).toInt ≤ (v16157 39).toInt - (v 39).toInt ∧ (v 41).toInt ≤ (v16157 41).toInt ∧ ((v16157 40).toInt < 0 → (v16157 41).toInt = (v 41).toInt)) ∧ keepL (v 37) (F 28) (F 29) (F16158 28) (F16158 29) ∧ ((v16157 40).toInt < 0 → dp (F16158 28) (F16158 29) (bI (v 37)) (v16157 38).toInt.toNat = some (d + 1)); rw [show v16157 39 = v16147 39 from hf16159 39 (by decide)]; rw [show v16157 41 = v16147 41 from hf16159 41 (by decide)]; rw [show v16157 40 = v16147 40 from hf16159 40 (by decide)]; exact ⟨by omega, hk, fun hf => (hd (by omega)).trans (congrArg some (by omega))⟩)⟩, (by show va_P _ _ _ t.heap; rw [ht]; exact hP9)⟩, hS.F ht⟩) hS.2.2 dX12_either_70
      · skip
        have t16165 := cv_nle (a := 0) (by decide) (b := (v16147 40).toInt) rfl c16163
        refine lv_aload_n hx hb dX12_either_61 rfl (lv_at hl 1 rfl) ?_
        have t16166 : 0 ≤ (v 30).toInt ∧ (v 30).toInt ≤ 120 := by have h9 := hI.1 30 _ _ rfl; rw [show v16157 30 = v 30 from (hf16159 30 (by decide)).trans ((hf16149 30 (by decide)).trans (hf16045 30 (by decide)))] at h9; exact h9
        have t16167 : 0 ≤ (v16147 39).toInt ∧ (v16147 39).toInt ≤ 120 := by have h9 := hI.1 39 _ _ rfl; rw [show v16157 39 = v16147 39 from hf16159 39 (by decide)] at h9; exact h9
        refine va_calli (va_runV (As := []) (rest := []) ⟨hx, hb, hml, hown, hwd⟩ (c_X12_look l dC dI g c adK adV v16157 F16158 rc H.size  hg hI ) (cwV 0 hwd (gV wk_1017 wk_1014 wk_1015 wk_1016 wk_5) rfl rfl rfl (by decide +kernel) ⟨Nat.le_of_ble_eq_true rfl, Nat.le_of_ble_eq_true rfl⟩) ⟨PM.blind, va_recv hK hP (ci := 12) (q0 := 0) rfl rfl, fun U hU hW => ⟨rfl, PM.at hK hE hP hS hU hW⟩⟩ rfl rfl hl.1 rfl (lv_room (Nat.le_of_ble_eq_true rfl)) dX12_either_62 ⟨Nat.le_of_ble_eq_true rfl, Nat.le_of_ble_eq_true rfl⟩) hS (fun q _ h => (freeM hS) q h) (freeM hS) (fun r16168 u t H1 locs ht hvm hw hB hz1 hk1 hS => ?_)
        unfold BM at hB
        rw [ht] at hB
        have hP : va_P (dC, dI) classes (wM g c v16157 F16158 rc) H1 := hB
        have hw : r16168.toInt = lkM (v16157 39) (v16157 30) (F16158 24) ∧ ((v16157 39).toInt < (v16157 30).toInt ∨ r16168.toInt = -1) := hw
        rw [show v16157 39 = v16147 39 from hf16159 39 (by decide)] at hw
        rw [show v16157 30 = v 30 from (hf16159 30 (by decide)).trans ((hf16149 30 (by decide)).trans (hf16045 30 (by decide)))] at hw
        rw [hF 24 (by decide)] at hw
        have hw_r16168 := hw
        generalize H1 = H at hP hS ⊢
        refine lv_bipush (v := 63) hx hb dX12_either_65 (by decide) ?_
        refine lv_icmp_eq (tgt := 71) hx hb dX12_either_67 (by decide) (fun c16169 => ?_) (fun c16169 => ?_)
        · skip
          have t16170 := cv_eq (a := r16168.toInt) rfl (b := 63) (by decide) c16169
          refine lv_aload_n hx hb dX12_either_71 rfl (lv_at hl 1 rfl) ?_
          have t16171 : 0 ≤ (v16147 39).toInt ∧ (v16147 39).toInt ≤ 120 := by have h9 := hI.1 39 _ _ rfl; rw [show v16157 39 = v16147 39 from hf16159 39 (by decide)] at h9; exact h9
          have t16172 : 0 ≤ (v16147 41).toInt ∧ (v16147 41).toInt ≤ 8 := by have h9 := hI.1 41 _ _ rfl; rw [show v16157 41 = v16147 41 from hf16159 41 (by decide)] at h9; exact h9
          refine va_calli (va_runV (As := []) (rest := []) ⟨hx, hb, hml, hown, hwd⟩ (c_X12_opens l dC dI g c adK adV v16157 F16158 rc H.size  hg hI (by have h9 : v16157 39 = v16147 39 := hf16159 39 (by decide); (try rw [h9]); clear h9; have h9 : v16157 30 = v 30 := (hf16159 30 (by decide)).trans ((hf16149 30 (by decide)).trans (hf16045 30 (by decide))); (try rw [h9]); clear h9; omega)) (cwV 0 hwd (gV wk_1025 wk_1022 wk_1023 wk_1024 wk_5) rfl rfl rfl (by decide +kernel) ⟨Nat.le_of_ble_eq_true rfl, Nat.le_of_ble_eq_true rfl⟩) ⟨PM.blind, va_recv hK hP (ci := 12) (q0 := 0) rfl rfl, fun U hU hW => ⟨rfl, PM.at hK hE hP hS hU hW⟩⟩ rfl rfl hl.1 rfl (lv_room (Nat.le_of_ble_eq_true rfl)) dX12_either_72 ⟨Nat.le_of_ble_eq_true rfl, Nat.le_of_ble_eq_true rfl⟩) hS (fun q _ h => (freeM hS) q h) (freeM hS) (fun r16173 u t H1 locs ht hvm hw hB hz1 hk1 hS => ?_)
          unfold BM at hB
          rw [ht] at hB
          obtain ⟨v16174, F16175, rc9⟩ := u
          obtain ⟨hI, hrc, hf16176, hG16177, hw⟩ := hw
          dsimp only at hI hrc hB hf16176 hG16177 hw
          have hF := frCF (by decide) hG16177 hF
          rw [hrc] at hB
          have hP : va_P (dC, dI) classes (wM g c v16174 F16175 rc) H1 := hB
          have hw : (r16173.toInt = 1 ∧ (v16157 41).toInt < 8 ∧ (v16174 41).toInt = (v16157 41).toInt + 1 ∧ (v16174 39).toInt = (v16157 39).toInt + 1 ∧ (v16174 40).toInt = (v16157 40).toInt) ∨ (r16173.toInt = 0 ∧ (v16157 41).toInt = 8 ∧ 0 ≤ (v16174 40).toInt ∧ (v16174 41).toInt = (v16157 41).toInt ∧ (v16174 39).toInt = (v16157 39).toInt) := hw
          rw [show v16157 41 = v16147 41 from hf16159 41 (by decide)] at hw
          rw [show v16157 39 = v16147 39 from hf16159 39 (by decide)] at hw
          rw [show v16157 40 = v16147 40 from hf16159 40 (by decide)] at hw
          have hw_r16173 := hw
          have t16178 : 0 ≤ (v16174 39).toInt ∧ (v16174 39).toInt ≤ 120 := hI.1 39 _ _ rfl
          have t16179 : 0 ≤ (v16174 41).toInt ∧ (v16174 41).toInt ≤ 8 := hI.1 41 _ _ rfl
          generalize H1 = H at hP hS ⊢
          have hk : keepL (v 37) (F 28) (F 29) (F16175 28) (F16175 29) := by rw [hG16177 28 (by decide), hG16177 29 (by decide)]; exact hk
          have hd : (v16174 40).toInt < 0 → dp (F16175 28) (F16175 29) (bI (v 37)) (v16157 38).toInt.toNat = some (((d + 1) + 1) - 1) := fun hf => (by rw [hG16177 28 (by decide), hG16177 29 (by decide)]; exact hd (by omega))
          refine lv_if_ne (tgt := 79) hx hb dX12_either_75 (by decide) (fun c16180 => ?_) (fun c16180 => ?_)
          · skip
            have t16181 := cv_ne (a := r16173.toInt) rfl (b := 0) (by decide) c16180
            refine lv_aload_n hx hb dX12_either_79 rfl (lv_at hl 1 rfl) ?_
            have t16182 : 0 ≤ (v 30).toInt ∧ (v 30).toInt ≤ 120 := by have h9 := hI.1 30 _ _ rfl; rw [show v16174 30 = v 30 from (hf16176 30 (by decide)).trans ((hf16159 30 (by decide)).trans ((hf16149 30 (by decide)).trans (hf16045 30 (by decide))))] at h9; exact h9
            have t16183 : 0 ≤ (v 37).toInt ∧ (v 37).toInt ≤ 9 := by have h9 := hI.1 37 _ _ rfl; rw [show v16174 37 = v 37 from (hf16176 37 (by decide)).trans ((hf16159 37 (by decide)).trans ((hf16149 37 (by decide)).trans (hf16045 37 (by decide))))] at h9; exact h9
            have t16184 : 0 ≤ (v16157 38).toInt ∧ (v16157 38).toInt ≤ 120 := by have h9 := hI.1 38 _ _ rfl; rw [show v16174 38 = v16157 38 from hf16176 38 (by decide)] at h9; exact h9
            have t16185 : 0 ≤ (v16174 39).toInt ∧ (v16174 39).toInt ≤ 120 := hI.1 39 _ _ rfl
            have t16186 : 0 ≤ (v16174 41).toInt ∧ (v16174 41).toInt ≤ 8 := hI.1 41 _ _ rfl
            refine va_callv (va_runV (As := []) (rest := []) ⟨hx, hb, hml, hown, hwd⟩ (c_X12_either_6 l dC dI g c adK adV v16174 F16175 rc H.size  (((d + 1) + 1) - 1) hg hI (by have h9 : v16174 38 = v16157 38 := hf16176 38 (by decide); (try rw [h9]); clear h9; have h9 : v16174 39 = v16174 39 := rfl; (try rw [h9]); clear h9; have h9 : v16174 30 = v 30 := (hf16176 30 (by decide)).trans ((hf16159 30 (by decide)).trans ((hf16149 30 (by decide)).trans (hf16045 30 (by decide)))); (try rw [h9]); clear h9; have h9 : v16174 40 = v16174 40 := rfl; (try rw [h9]); clear h9; have h9 : v16174 41 = v16174 41 := rfl; (try rw [h9]); clear h9; omega) (by have h9 : v16174 37 = (v 37) := (hf16176 37 (by decide)).trans ((hf16159 37 (by decide)).trans ((hf16149 37 (by decide)).trans (hf16045 37 (by decide)))); have h8 : v16174 38 = (v16157 38) := hf16176 38 (by decide); (try rw [h9]); (try rw [h8]); exact hd (by omega))) (cwV 0 hwd (gV wk_1010 wk_1007 wk_1008 wk_1009 wk_5) rfl rfl rfl (by decide +kernel) ⟨Nat.le_of_ble_eq_true rfl, Nat.le_of_ble_eq_true rfl⟩) ⟨PM.blind, va_recv hK hP (ci := 12) (q0 := 0) rfl rfl, fun U hU hW => ⟨rfl, PM.at hK hE hP hS hU hW⟩⟩ rfl rfl hl.1 rfl (lv_room (Nat.le_of_ble_eq_true rfl)) dX12_either_80 ⟨Nat.le_of_ble_eq_true rfl, Nat.le_of_ble_eq_true rfl⟩) hS (fun q _ h => (freeM hS) q h) (freeM hS) (fun u t H1 locs ht hvm hw hB hz1 hk1 hS => ?_)
            unfold BM at hB
            rw [ht] at hB
            obtain ⟨v16188, F16189, rc9⟩ := u
            obtain ⟨hI, hrc, hf16190, hG16191, hw⟩ := hw
            dsimp only at hI hrc hB hf16190 hG16191 hw
            have hF := frCF (by decide) hG16191 hF
            rw [hrc] at hB
            have hP : va_P (dC, dI) classes (wM g c v16188 F16189 rc) H1 := hB
            have hw : ((v16174 39).toInt ≤ (v16188 39).toInt ∧ (v16188 39).toInt ≤ (v16174 30).toInt ∧ (v16174 38).toInt ≤ (v16188 38).toInt ∧ (v16188 38).toInt - (v16174 38).toInt ≤ (v16188 39).toInt - (v16174 39).toInt ∧ (v16174 41).toInt ≤ (v16188 41).toInt ∧ ((v16188 40).toInt < 0 → (v16188 41).toInt = (v16174 41).toInt)) ∧ keepL (v16174 37) (F16175 28) (F16175 29) (F16189 28) (F16189 29) ∧ ((v16188 40).toInt < 0 → dp (F16189 28) (F16189 29) (bI (v16174 37)) (v16188 38).toInt.toNat = some ((((d + 1) + 1) - 1) + 1)) := hw
            rw [show v16174 30 = v 30 from (hf16176 30 (by decide)).trans ((hf16159 30 (by decide)).trans ((hf16149 30 (by decide)).trans (hf16045 30 (by decide))))] at hw
            rw [show v16174 38 = v16157 38 from hf16176 38 (by decide)] at hw
            rw [show v16174 37 = v 37 from (hf16176 37 (by decide)).trans ((hf16159 37 (by decide)).trans ((hf16149 37 (by decide)).trans (hf16045 37 (by decide))))] at hw
            have hw_r16187 := hw
            have t16192 : 0 ≤ (v16188 38).toInt ∧ (v16188 38).toInt ≤ 120 := hI.1 38 _ _ rfl
            have t16193 : 0 ≤ (v16188 39).toInt ∧ (v16188 39).toInt ≤ 120 := hI.1 39 _ _ rfl
            have t16194 : 0 ≤ (v16188 41).toInt ∧ (v16188 41).toInt ≤ 8 := hI.1 41 _ _ rfl
            generalize H1 = H at hP hS ⊢
            have hk := hk.tr hw_r16187.2.1
            have hd := hw_r16187.2.2
            refine lv_aload_n hx hb dX12_either_83 rfl (lv_at hl 1 rfl) ?_
            refine va_get (D := (dC, dI)) (ci := 12) (v := .int (v16188 40)) (C := RX12) (T := TX12) (N := 63) hx hb hwd inA_X12 hown hK hP 0 rfl rfl 40 (by decide) (hwd _ wk_1005) (fun _ h9 => h9) rfl dX12_either_84 ?_
            refine lv_if_lt (tgt := 91) hx hb dX12_either_87 (by decide) (fun c16195 => ?_) (fun c16195 => ?_)
            · skip
              have t16196 := cv_lt (a := (v16188 40).toInt) rfl (b := 0) (by decide) c16195
              refine lv_aload_n hx hb dX12_either_91 rfl (lv_at hl 1 rfl) ?_
              have t16197 : 0 ≤ (v 30).toInt ∧ (v 30).toInt ≤ 120 := by have h9 := hI.1 30 _ _ rfl; rw [show v16188 30 = v 30 from (hf16190 30 (by decide)).trans ((hf16176 30 (by decide)).trans ((hf16159 30 (by decide)).trans ((hf16149 30 (by decide)).trans (hf16045 30 (by decide)))))] at h9; exact h9
              have t16198 : 0 ≤ (v16188 39).toInt ∧ (v16188 39).toInt ≤ 120 := hI.1 39 _ _ rfl
              refine va_calli (va_runV (As := []) (rest := []) ⟨hx, hb, hml, hown, hwd⟩ (c_X12_look l dC dI g c adK adV v16188 F16189 rc H.size  hg hI ) (cwV 0 hwd (gV wk_1017 wk_1014 wk_1015 wk_1016 wk_5) rfl rfl rfl (by decide +kernel) ⟨Nat.le_of_ble_eq_true rfl, Nat.le_of_ble_eq_true rfl⟩) ⟨PM.blind, va_recv hK hP (ci := 12) (q0 := 0) rfl rfl, fun U hU hW => ⟨rfl, PM.at hK hE hP hS hU hW⟩⟩ rfl rfl hl.1 rfl (lv_room (Nat.le_of_ble_eq_true rfl)) dX12_either_92 ⟨Nat.le_of_ble_eq_true rfl, Nat.le_of_ble_eq_true rfl⟩) hS (fun q _ h => (freeM hS) q h) (freeM hS) (fun r16199 u t H1 locs ht hvm hw hB hz1 hk1 hS => ?_)
              unfold BM at hB
              rw [ht] at hB
              have hP : va_P (dC, dI) classes (wM g c v16188 F16189 rc) H1 := hB
              have hw : r16199.toInt = lkM (v16188 39) (v16188 30) (F16189 24) ∧ ((v16188 39).toInt < (v16188 30).toInt ∨ r16199.toInt = -1) := hw
              rw [show v16188 30 = v 30 from (hf16190 30 (by decide)).trans ((hf16176 30 (by decide)).trans ((hf16159 30 (by decide)).trans ((hf16149 30 (by decide)).trans (hf16045 30 (by decide)))))] at hw
              rw [hF 24 (by decide)] at hw
              have hw_r16199 := hw
              generalize H1 = H at hP hS ⊢
              refine lv_bipush (v := 58) hx hb dX12_either_95 (by decide) ?_
              refine lv_icmp_eq (tgt := 105) hx hb dX12_either_97 (by decide) (fun c16200 => ?_) (fun c16200 => ?_)
              · skip
                have t16201 := cv_eq (a := r16199.toInt) rfl (b := 58) (by decide) c16200
                refine lv_aload_n hx hb dX12_either_105 rfl (lv_at hl 1 rfl) ?_
                refine lv_dup hx hb dX12_either_106 rfl ?_
                refine va_get (D := (dC, dI)) (ci := 12) (v := .int (v16188 39)) (C := RX12) (T := TX12) (N := 63) hx hb hwd inA_X12 hown hK hP 0 rfl rfl 39 (by decide) (hwd _ wk_1004) (fun _ h9 => h9) rfl dX12_either_107 ?_
                have t16202 : 0 ≤ (v16188 39).toInt ∧ (v16188 39).toInt ≤ 120 := hI.1 39 _ _ rfl
                refine lv_iconst (v := 1) hx hb dX12_either_110 (by decide) ?_
                refine lv_iadd hx hb dX12_either_111 ?_
                refine lv_topi (fun z16203 e16204 => ?_)
                try (have t16205 := tadd e16204 (a := (v16188 39).toInt) rfl (b := 1) (by decide) (by omega))
                refine va_put (D := (dC, dI)) (ci := 12) (v := .int z16203) (ty := .int) (C := RX12) (T := TX12) (N := 63) (fs := fsM_0 g v16188 rc) hx hb hwd inA_X12 tyX12 tyX12_ok nmX12 hown hK hP (DM hg) hS 0 rfl rfl 39 (by decide) (hwd _ wk_1004) (fun _ h9 => h9) rfl (by decide +kernel) rfl rfl (Nat.le_of_ble_eq_true rfl) dX12_either_112 (fun H locs hP _ hS => ?_)
                have hP := va_P_eq (pM_39 g c _ _ _ _) hP
                have hI := IM.put hI 39 z16203 rfl (by omega)
                refine lv_aload_n hx hb dX12_either_115 rfl (lv_at hl 1 rfl) ?_
                have t16206 : 0 ≤ (v 30).toInt ∧ (v 30).toInt ≤ 120 := by have h9 := hI.1 30 _ _ rfl; rw [show (va_up v16188 39 z16203) 30 = v 30 from (hf16190 30 (by decide)).trans ((hf16176 30 (by decide)).trans ((hf16159 30 (by decide)).trans ((hf16149 30 (by decide)).trans (hf16045 30 (by decide)))))] at h9; exact h9
                have t16207 : 0 ≤ (v 37).toInt ∧ (v 37).toInt ≤ 9 := by have h9 := hI.1 37 _ _ rfl; rw [show (va_up v16188 39 z16203) 37 = v 37 from (hf16190 37 (by decide)).trans ((hf16176 37 (by decide)).trans ((hf16159 37 (by decide)).trans ((hf16149 37 (by decide)).trans (hf16045 37 (by decide)))))] at h9; exact h9
                have t16208 : 0 ≤ (v16188 38).toInt ∧ (v16188 38).toInt ≤ 120 := hI.1 38 _ _ rfl
                have t16209 : 0 ≤ z16203.toInt ∧ z16203.toInt ≤ 120 := hI.1 39 _ _ rfl
                have t16210 : 0 ≤ (v16188 41).toInt ∧ (v16188 41).toInt ≤ 8 := hI.1 41 _ _ rfl
                refine va_callv (va_runV (As := []) (rest := []) ⟨hx, hb, hml, hown, hwd⟩ (c_X12_either_6 l dC dI g c adK adV (va_up v16188 39 z16203) F16189 rc H.size  ((((d + 1) + 1) - 1) + 1) hg hI (by have h9 : (va_up v16188 39 z16203) 38 = v16188 38 := rfl; (try rw [h9]); clear h9; have h9 : (va_up v16188 39 z16203) 39 = z16203 := rfl; (try rw [h9]); clear h9; have h9 : (va_up v16188 39 z16203) 30 = v 30 := (hf16190 30 (by decide)).trans ((hf16176 30 (by decide)).trans ((hf16159 30 (by decide)).trans ((hf16149 30 (by decide)).trans (hf16045 30 (by decide))))); (try rw [h9]); clear h9; have h9 : (va_up v16188 39 z16203) 40 = v16188 40 := rfl; (try rw [h9]); clear h9; have h9 : (va_up v16188 39 z16203) 41 = v16188 41 := rfl; (try rw [h9]); clear h9; omega) (by have h9 : (va_up v16188 39 z16203) 37 = (v 37) := (hf16190 37 (by decide)).trans ((hf16176 37 (by decide)).trans ((hf16159 37 (by decide)).trans ((hf16149 37 (by decide)).trans (hf16045 37 (by decide))))); have h8 : (va_up v16188 39 z16203) 38 = (v16188 38) := rfl; (try rw [h9]); (try rw [h8]); exact hd (by omega))) (cwV 0 hwd (gV wk_1010 wk_1007 wk_1008 wk_1009 wk_5) rfl rfl rfl (by decide +kernel) ⟨Nat.le_of_ble_eq_true rfl, Nat.le_of_ble_eq_true rfl⟩) ⟨PM.blind, va_recv hK hP (ci := 12) (q0 := 0) rfl rfl, fun U hU hW => ⟨rfl, PM.at hK hE hP hS hU hW⟩⟩ rfl rfl hl.1 rfl (lv_room (Nat.le_of_ble_eq_true rfl)) dX12_either_116 ⟨Nat.le_of_ble_eq_true rfl, Nat.le_of_ble_eq_true rfl⟩) hS (fun q _ h => (freeM hS) q h) (freeM hS) (fun u t H1 locs ht hvm hw hB hz1 hk1 hS => ?_)
                unfold BM at hB
                rw [ht] at hB
                obtain ⟨v16212, F16213, rc9⟩ := u
                obtain ⟨hI, hrc, hf16214, hG16215, hw⟩ := hw
                dsimp only at hI hrc hB hf16214 hG16215 hw
                have hF := frCF (by decide) hG16215 hF
                rw [hrc] at hB
                have hP : va_P (dC, dI) classes (wM g c v16212 F16213 rc) H1 := hB
                have hw : (z16203.toInt ≤ (v16212 39).toInt ∧ (v16212 39).toInt ≤ ((va_up v16188 39 z16203) 30).toInt ∧ (v16188 38).toInt ≤ (v16212 38).toInt ∧ (v16212 38).toInt - (v16188 38).toInt ≤ (v16212 39).toInt - z16203.toInt ∧ (v16188 41).toInt ≤ (v16212 41).toInt ∧ ((v16212 40).toInt < 0 → (v16212 41).toInt = (v16188 41).toInt)) ∧ keepL ((va_up v16188 39 z16203) 37) (F16189 28) (F16189 29) (F16213 28) (F16213 29) ∧ ((v16212 40).toInt < 0 → dp (F16213 28) (F16213 29) (bI ((va_up v16188 39 z16203) 37)) (v16212 38).toInt.toNat = some (((((d + 1) + 1) - 1) + 1) + 1)) := hw
                rw [show (va_up v16188 39 z16203) 30 = v 30 from (hf16190 30 (by decide)).trans ((hf16176 30 (by decide)).trans ((hf16159 30 (by decide)).trans ((hf16149 30 (by decide)).trans (hf16045 30 (by decide)))))] at hw
                rw [show (va_up v16188 39 z16203) 37 = v 37 from (hf16190 37 (by decide)).trans ((hf16176 37 (by decide)).trans ((hf16159 37 (by decide)).trans ((hf16149 37 (by decide)).trans (hf16045 37 (by decide)))))] at hw
                have hw_r16211 := hw
                have t16216 : 0 ≤ (v16212 38).toInt ∧ (v16212 38).toInt ≤ 120 := hI.1 38 _ _ rfl
                have t16217 : 0 ≤ (v16212 39).toInt ∧ (v16212 39).toInt ≤ 120 := hI.1 39 _ _ rfl
                have t16218 : 0 ≤ (v16212 41).toInt ∧ (v16212 41).toInt ≤ 8 := hI.1 41 _ _ rfl
                generalize H1 = H at hP hS ⊢
                have hk := hk.tr hw_r16211.2.1
                have hd := hw_r16211.2.2
                refine lv_aload_n hx hb dX12_either_119 rfl (lv_at hl 1 rfl) ?_
                refine lv_iconst (v := 4) hx hb dX12_either_120 (by decide) ?_
                refine lv_iconst (v := 0) hx hb dX12_either_121 (by decide) ?_
                have t16219 : 0 ≤ (v 37).toInt ∧ (v 37).toInt ≤ 9 := by have h9 := hI.1 37 _ _ rfl; rw [show v16212 37 = v 37 from (hf16214 37 (by decide)).trans ((hf16190 37 (by decide)).trans ((hf16176 37 (by decide)).trans ((hf16159 37 (by decide)).trans ((hf16149 37 (by decide)).trans (hf16045 37 (by decide))))))] at h9; exact h9
                have t16220 : 0 ≤ (v16212 38).toInt ∧ (v16212 38).toInt ≤ 120 := hI.1 38 _ _ rfl
                refine va_callv (va_runV (As := [.int 4, .int 0]) (rest := []) ⟨hx, hb, hml, hown, hwd⟩ (c_X12_lay l dC dI g c adK adV v16212 F16213 rc H.size 4 0 hg hI (by have h9 : v16212 38 = v16212 38 := rfl; rw [h9]; omega)) (cwV 2 hwd (gV wk_1021 wk_1018 wk_1019 wk_1020 wk_5) rfl rfl rfl (by decide +kernel) ⟨Nat.le_of_ble_eq_true rfl, Nat.le_of_ble_eq_true rfl⟩) ⟨PM.blind, va_recv hK hP (ci := 12) (q0 := 0) rfl rfl, fun U hU hW => ⟨rfl, PM.at hK hE hP hS hU hW⟩⟩ rfl rfl hl.1 rfl (lv_room (Nat.le_of_ble_eq_true rfl)) dX12_either_122 ⟨Nat.le_of_ble_eq_true rfl, Nat.le_of_ble_eq_true rfl⟩) hS (fun q _ h => (freeM hS) q h) (freeM hS) (fun u t H1 locs ht hvm hw hB hz1 hk1 hS => ?_)
                unfold BM at hB
                rw [ht] at hB
                obtain ⟨v16222, F16223, rc9⟩ := u
                obtain ⟨hI, hrc, hf16224, hG16225, hw⟩ := hw
                dsimp only at hI hrc hB hf16224 hG16225 hw
                have hF := frCF (by decide) hG16225 hF
                rw [hrc] at hB
                have hP : va_P (dC, dI) classes (wM g c v16222 F16223 rc) H1 := hB
                have hw : (v16222 38).toInt = (v16212 38).toInt + 1 ∧ keepL (v16212 37) (F16213 28) (F16213 29) (F16223 28) (F16223 29) ∧ dp (F16223 28) (F16223 29) (bI (v16212 37)) ((v16212 38).toInt.toNat + 1) = dpS (dp (F16213 28) (F16213 29) (bI (v16212 37)) (v16212 38).toInt.toNat) (4 : Int32) (0 : Int32) := hw
                rw [show v16212 37 = v 37 from (hf16214 37 (by decide)).trans ((hf16190 37 (by decide)).trans ((hf16176 37 (by decide)).trans ((hf16159 37 (by decide)).trans ((hf16149 37 (by decide)).trans (hf16045 37 (by decide))))))] at hw
                have hw_r16221 := hw
                have t16226 : 0 ≤ (v16222 38).toInt ∧ (v16222 38).toInt ≤ 120 := hI.1 38 _ _ rfl
                have k16227 : (4 : Int32).toInt = 4 := by decide
                have k16228 : (0 : Int32).toInt = 0 := by decide
                generalize H1 = H at hP hS ⊢
                have hk := hk.tr hw_r16221.2.1
                have hd : (v16212 40).toInt < 0 → dp (F16223 28) (F16223 29) (bI (v 37)) (v16222 38).toInt.toNat = some ((((((d + 1) + 1) - 1) + 1) + 1) - 2) := fun hf => (by have e9 : (v16222 38).toInt.toNat = (v16212 38).toInt.toNat + 1 := (by omega); rw [e9, hw_r16221.2.2, hd hf]; exact dpS_4 (by decide) (by omega))
                refine lv_aload_n hx hb dX12_either_125 rfl (lv_at hl 1 rfl) ?_
                refine lv_dup hx hb dX12_either_126 rfl ?_
                refine va_get (D := (dC, dI)) (ci := 12) (v := .int (v16222 41)) (C := RX12) (T := TX12) (N := 63) hx hb hwd inA_X12 hown hK hP 0 rfl rfl 41 (by decide) (hwd _ wk_1006) (fun _ h9 => h9) rfl dX12_either_127 ?_
                refine my_top (v := v16212 41) (hf16224 41 (by decide)) ?_
                have t16229 : 0 ≤ (v16212 41).toInt ∧ (v16212 41).toInt ≤ 8 := by have h9 := hI.1 41 _ _ rfl; rw [show v16222 41 = v16212 41 from hf16224 41 (by decide)] at h9; exact h9
                refine lv_iconst (v := 1) hx hb dX12_either_130 (by decide) ?_
                refine lv_isub hx hb dX12_either_131 ?_
                refine lv_topi (fun z16230 e16231 => ?_)
                try (have t16232 := tsub e16231 (a := (v16212 41).toInt) rfl (b := 1) (by decide) (by omega))
                refine va_put (D := (dC, dI)) (ci := 12) (v := .int z16230) (ty := .int) (C := RX12) (T := TX12) (N := 63) (fs := fsM_0 g v16222 rc) hx hb hwd inA_X12 tyX12 tyX12_ok nmX12 hown hK hP (DM hg) hS 0 rfl rfl 41 (by decide) (hwd _ wk_1006) (fun _ h9 => h9) rfl (by decide +kernel) rfl rfl (Nat.le_of_ble_eq_true rfl) dX12_either_132 (fun H locs hP _ hS => ?_)
                have hP := va_P_eq (pM_41 g c _ _ _ _) hP
                have hI := IM.put hI 41 z16230 rfl (by omega)
                have hP9 : va_P (dC, dI) classes (wM g c (va_up v16222 41 z16230) F16223 rc) H := hP
                exact W.vret hx hb hr (fun t ht hW => ⟨⟨((va_up v16222 41 z16230), F16223, rc), rfl, ⟨hI, rfl, (frU (by decide) (frC (by decide) hf16224 (frC (by decide) hf16214 (frU (by decide) (frC (by decide) hf16190 (frC (by decide) hf16176 (frC (by decide) hf16159 (frC (by decide) hf16149 (frU (by decide) (frC (by decide) hf16045 (fun _ _ => rfl))))))))))), hF, (by show ((v 39).toInt ≤ ((va_up v16222 41 z16230) 39).toInt ∧ ((va_up v16222 41 z16230) 39).toInt ≤ (v 30).toInt ∧ (v 38).toInt ≤ (v16222 38).toInt ∧ (v16222 38).toInt - (v 38).toInt ≤ ((va_up v16222 41 z16230) 39).toInt - (v 39).toInt ∧ (v 41).toInt ≤ z16230.toInt ∧ (((va_up v16222 41 z16230) 40).toInt < 0 → z16230.toInt = (v 41).toInt)) ∧ keepL (v 37) (F 28) (F 29) (F16223 28) (F16223 29) ∧ (((va_up v16222 41 z16230) 40).toInt < 0 → dp (F16223 28) (F16223 29) (bI (v 37)) (v16222 38).toInt.toNat = some (d + 1)); rw [show (va_up v16222 41 z16230) 39 = v16212 39 from hf16224 39 (by decide)]; rw [show (va_up v16222 41 z16230) 40 = v16212 40 from hf16224 40 (by decide)]; exact ⟨by omega, hk, fun hf => (hd (by omega)).trans (congrArg some (by omega))⟩)⟩, (by show va_P _ _ _ t.heap; rw [ht]; exact hP9)⟩, hS.F ht⟩) hS.2.2 dX12_either_135
              · skip
                have t16233 := cv_ne (a := r16199.toInt) rfl (b := 58) (by decide) c16200
                refine lv_aload_n hx hb dX12_either_100 rfl (lv_at hl 1 rfl) ?_
                refine va_callv (va_runV (As := []) (rest := []) ⟨hx, hb, hml, hown, hwd⟩ (c_X12_wrong l dC dI g c adK adV v16188 F16189 rc H.size  hg hI ) (cwV 0 hwd (gV wk_1029 wk_1026 wk_1027 wk_1028 wk_5) rfl rfl rfl (by decide +kernel) ⟨Nat.le_of_ble_eq_true rfl, Nat.le_of_ble_eq_true rfl⟩) ⟨PM.blind, va_recv hK hP (ci := 12) (q0 := 0) rfl rfl, fun U hU hW => ⟨rfl, PM.at hK hE hP hS hU hW⟩⟩ rfl rfl hl.1 rfl (lv_room (Nat.le_of_ble_eq_true rfl)) dX12_either_101 ⟨Nat.le_of_ble_eq_true rfl, Nat.le_of_ble_eq_true rfl⟩) hS (fun q _ h => (freeM hS) q h) (freeM hS) (fun u t H1 locs ht hvm hw hB hz1 hk1 hS => ?_)
                unfold BM at hB
                rw [ht] at hB
                obtain ⟨v16235, F16236, rc9⟩ := u
                obtain ⟨hI, hrc, hf16237, hG16238, hw⟩ := hw
                dsimp only at hI hrc hB hf16237 hG16238 hw
                have hF := frCF (by decide) hG16238 hF
                rw [hrc] at hB
                have hP : va_P (dC, dI) classes (wM g c v16235 F16236 rc) H1 := hB
                have hw : 0 ≤ (v16235 40).toInt := hw
                have hw_r16234 := hw
                generalize H1 = H at hP hS ⊢
                have hk : keepL (v 37) (F 28) (F 29) (F16236 28) (F16236 29) := by rw [hG16238 28 (by decide), hG16238 29 (by decide)]; exact hk
                have hd : (v16235 40).toInt < 0 → dp (F16236 28) (F16236 29) (bI (v 37)) (v16188 38).toInt.toNat = some ((((d + 1) + 1) - 1) + 1) := fun hf => (by rw [hG16238 28 (by decide), hG16238 29 (by decide)]; exact hd (by omega))
                have hP9 : va_P (dC, dI) classes (wM g c v16235 F16236 rc) H := hP
                exact W.vret hx hb hr (fun t ht hW => ⟨⟨(v16235, F16236, rc), rfl, ⟨hI, rfl, (frC (by decide) hf16237 (frC (by decide) hf16190 (frC (by decide) hf16176 (frC (by decide) hf16159 (frC (by decide) hf16149 (frU (by decide) (frC (by decide) hf16045 (fun _ _ => rfl)))))))), hF, (by show ((v 39).toInt ≤ (v16235 39).toInt ∧ (v16235 39).toInt ≤ (v 30).toInt ∧ (v 38).toInt ≤ (v16235 38).toInt ∧ (v16235 38).toInt - (v 38).toInt ≤ (v16235 39).toInt - (v 39).toInt ∧ (v 41).toInt ≤ (v16235 41).toInt ∧ ((v16235 40).toInt < 0 → (v16235 41).toInt = (v 41).toInt)) ∧ keepL (v 37) (F 28) (F 29) (F16236 28) (F16236 29) ∧ ((v16235 40).toInt < 0 → dp (F16236 28) (F16236 29) (bI (v 37)) (v16235 38).toInt.toNat = some (d + 1)); rw [show v16235 39 = v16188 39 from hf16237 39 (by decide)]; rw [show v16235 38 = v16188 38 from hf16237 38 (by decide)]; rw [show v16235 41 = v16188 41 from hf16237 41 (by decide)]; exact ⟨by omega, hk, fun hf => (hd (by omega)).trans (congrArg some (by omega))⟩)⟩, (by show va_P _ _ _ t.heap; rw [ht]; exact hP9)⟩, hS.F ht⟩) hS.2.2 dX12_either_104
            · skip
              have t16239 := cv_nlt (a := (v16188 40).toInt) rfl (b := 0) (by decide) c16195
              have hP9 : va_P (dC, dI) classes (wM g c v16188 F16189 rc) H := hP
              exact W.vret hx hb hr (fun t ht hW => ⟨⟨(v16188, F16189, rc), rfl, ⟨hI, rfl, (frC (by decide) hf16190 (frC (by decide) hf16176 (frC (by decide) hf16159 (frC (by decide) hf16149 (frU (by decide) (frC (by decide) hf16045 (fun _ _ => rfl))))))), hF, (by show ((v 39).toInt ≤ (v16188 39).toInt ∧ (v16188 39).toInt ≤ (v 30).toInt ∧ (v 38).toInt ≤ (v16188 38).toInt ∧ (v16188 38).toInt - (v 38).toInt ≤ (v16188 39).toInt - (v 39).toInt ∧ (v 41).toInt ≤ (v16188 41).toInt ∧ ((v16188 40).toInt < 0 → (v16188 41).toInt = (v 41).toInt)) ∧ keepL (v 37) (F 28) (F 29) (F16189 28) (F16189 29) ∧ ((v16188 40).toInt < 0 → dp (F16189 28) (F16189 29) (bI (v 37)) (v16188 38).toInt.toNat = some (d + 1)); exact ⟨by omega, hk, fun hf => (hd (by omega)).trans (congrArg some (by omega))⟩)⟩, (by show va_P _ _ _ t.heap; rw [ht]; exact hP9)⟩, hS.F ht⟩) hS.2.2 dX12_either_90
          · skip
            have t16240 := cv_eq (a := r16173.toInt) rfl (b := 0) (by decide) c16180
            have hP9 : va_P (dC, dI) classes (wM g c v16174 F16175 rc) H := hP
            exact W.vret hx hb hr (fun t ht hW => ⟨⟨(v16174, F16175, rc), rfl, ⟨hI, rfl, (frC (by decide) hf16176 (frC (by decide) hf16159 (frC (by decide) hf16149 (frU (by decide) (frC (by decide) hf16045 (fun _ _ => rfl)))))), hF, (by show ((v 39).toInt ≤ (v16174 39).toInt ∧ (v16174 39).toInt ≤ (v 30).toInt ∧ (v 38).toInt ≤ (v16174 38).toInt ∧ (v16174 38).toInt - (v 38).toInt ≤ (v16174 39).toInt - (v 39).toInt ∧ (v 41).toInt ≤ (v16174 41).toInt ∧ ((v16174 40).toInt < 0 → (v16174 41).toInt = (v 41).toInt)) ∧ keepL (v 37) (F 28) (F 29) (F16175 28) (F16175 29) ∧ ((v16174 40).toInt < 0 → dp (F16175 28) (F16175 29) (bI (v 37)) (v16174 38).toInt.toNat = some (d + 1)); rw [show v16174 38 = v16157 38 from hf16176 38 (by decide)]; exact ⟨by omega, hk, fun hf => (hd (by omega)).trans (congrArg some (by omega))⟩)⟩, (by show va_P _ _ _ t.heap; rw [ht]; exact hP9)⟩, hS.F ht⟩) hS.2.2 dX12_either_78
        · skip
          have t16241 := cv_ne (a := r16168.toInt) rfl (b := 63) (by decide) c16169
          have hP9 : va_P (dC, dI) classes (wM g c v16157 F16158 rc) H := hP
          exact W.vret hx hb hr (fun t ht hW => ⟨⟨(v16157, F16158, rc), rfl, ⟨hI, rfl, (frC (by decide) hf16159 (frC (by decide) hf16149 (frU (by decide) (frC (by decide) hf16045 (fun _ _ => rfl))))), hF, (by show ((v 39).toInt ≤ (v16157 39).toInt ∧ (v16157 39).toInt ≤ (v 30).toInt ∧ (v 38).toInt ≤ (v16157 38).toInt ∧ (v16157 38).toInt - (v 38).toInt ≤ (v16157 39).toInt - (v 39).toInt ∧ (v 41).toInt ≤ (v16157 41).toInt ∧ ((v16157 40).toInt < 0 → (v16157 41).toInt = (v 41).toInt)) ∧ keepL (v 37) (F 28) (F 29) (F16158 28) (F16158 29) ∧ ((v16157 40).toInt < 0 → dp (F16158 28) (F16158 29) (bI (v 37)) (v16157 38).toInt.toNat = some (d + 1)); rw [show v16157 39 = v16147 39 from hf16159 39 (by decide)]; rw [show v16157 41 = v16147 41 from hf16159 41 (by decide)]; rw [show v16157 40 = v16147 40 from hf16159 40 (by decide)]; exact ⟨by omega, hk, fun hf => (hd (by omega)).trans (congrArg some (by omega))⟩)⟩, (by show va_P _ _ _ t.heap; rw [ht]; exact hP9)⟩, hS.F ht⟩) hS.2.2 dX12_either_70
    · skip
      have t16242 := cv_ne (a := r16052.toInt) rfl (b := 60) (by decide) c16135
      refine lv_iload_n hx hb dX12_either_22 rfl (lv_at hl 0 rfl) ?_
      refine lv_bipush (v := 61) hx hb dX12_either_23 (by decide) ?_
      refine lv_icmp_eq (tgt := 34) hx hb dX12_either_25 (by decide) (fun c16243 => ?_) (fun c16243 => ?_)
      · skip
        have t16244 := cv_eq (a := r16052.toInt) rfl (b := 61) (by decide) c16243
        refine lv_aload_n hx hb dX12_either_34 rfl (lv_at hl 1 rfl) ?_
        refine lv_dup hx hb dX12_either_35 rfl ?_
        refine va_get (D := (dC, dI)) (ci := 12) (v := .int (v16043 39)) (C := RX12) (T := TX12) (N := 63) hx hb hwd inA_X12 hown hK hP 0 rfl rfl 39 (by decide) (hwd _ wk_1004) (fun _ h9 => h9) rfl dX12_either_36 ?_
        have t16245 : 0 ≤ (v16043 39).toInt ∧ (v16043 39).toInt ≤ 120 := hI.1 39 _ _ rfl
        refine lv_iconst (v := 1) hx hb dX12_either_39 (by decide) ?_
        refine lv_iadd hx hb dX12_either_40 ?_
        refine lv_topi (fun z16246 e16247 => ?_)
        try (have t16248 := tadd e16247 (a := (v16043 39).toInt) rfl (b := 1) (by decide) (by omega))
        refine va_put (D := (dC, dI)) (ci := 12) (v := .int z16246) (ty := .int) (C := RX12) (T := TX12) (N := 63) (fs := fsM_0 g v16043 rc) hx hb hwd inA_X12 tyX12 tyX12_ok nmX12 hown hK hP (DM hg) hS 0 rfl rfl 39 (by decide) (hwd _ wk_1004) (fun _ h9 => h9) rfl (by decide +kernel) rfl rfl (Nat.le_of_ble_eq_true rfl) dX12_either_41 (fun H locs hP _ hS => ?_)
        have hP := va_P_eq (pM_39 g c _ _ _ _) hP
        have hI := IM.put hI 39 z16246 rfl (by omega)
        refine lv_aload_n hx hb dX12_either_44 rfl (lv_at hl 1 rfl) ?_
        have t16249 : 0 ≤ (v 30).toInt ∧ (v 30).toInt ≤ 120 := by have h9 := hI.1 30 _ _ rfl; rw [show (va_up v16043 39 z16246) 30 = v 30 from hf16045 30 (by decide)] at h9; exact h9
        have t16250 : 0 ≤ (v 37).toInt ∧ (v 37).toInt ≤ 9 := by have h9 := hI.1 37 _ _ rfl; rw [show (va_up v16043 39 z16246) 37 = v 37 from hf16045 37 (by decide)] at h9; exact h9
        have t16251 : 0 ≤ (v16043 38).toInt ∧ (v16043 38).toInt ≤ 120 := hI.1 38 _ _ rfl
        have t16252 : 0 ≤ z16246.toInt ∧ z16246.toInt ≤ 120 := hI.1 39 _ _ rfl
        have t16253 : 0 ≤ (v16043 41).toInt ∧ (v16043 41).toInt ≤ 8 := hI.1 41 _ _ rfl
        refine va_callv (va_runV (As := []) (rest := []) ⟨hx, hb, hml, hown, hwd⟩ (c_X12_sum_5 l dC dI g c adK adV (va_up v16043 39 z16246) F16044 rc H.size  (d + 1) hg hI (by have h9 : (va_up v16043 39 z16246) 38 = v16043 38 := rfl; (try rw [h9]); clear h9; have h9 : (va_up v16043 39 z16246) 39 = z16246 := rfl; (try rw [h9]); clear h9; have h9 : (va_up v16043 39 z16246) 30 = v 30 := hf16045 30 (by decide); (try rw [h9]); clear h9; have h9 : (va_up v16043 39 z16246) 40 = v16043 40 := rfl; (try rw [h9]); clear h9; have h9 : (va_up v16043 39 z16246) 41 = v16043 41 := rfl; (try rw [h9]); clear h9; omega) (by have h9 : (va_up v16043 39 z16246) 37 = (v 37) := hf16045 37 (by decide); have h8 : (va_up v16043 39 z16246) 38 = (v16043 38) := rfl; (try rw [h9]); (try rw [h8]); exact hd (by omega))) (cwV 0 hwd (gV wk_1043 wk_1011 wk_1012 wk_1013 wk_5) rfl rfl rfl (by decide +kernel) ⟨Nat.le_of_ble_eq_true rfl, Nat.le_of_ble_eq_true rfl⟩) ⟨PM.blind, va_recv hK hP (ci := 12) (q0 := 0) rfl rfl, fun U hU hW => ⟨rfl, PM.at hK hE hP hS hU hW⟩⟩ rfl rfl hl.1 rfl (lv_room (Nat.le_of_ble_eq_true rfl)) dX12_either_45 ⟨Nat.le_of_ble_eq_true rfl, Nat.le_of_ble_eq_true rfl⟩) hS (fun q _ h => (freeM hS) q h) (freeM hS) (fun u t H1 locs ht hvm hw hB hz1 hk1 hS => ?_)
        unfold BM at hB
        rw [ht] at hB
        obtain ⟨v16255, F16256, rc9⟩ := u
        obtain ⟨hI, hrc, hf16257, hG16258, hw⟩ := hw
        dsimp only at hI hrc hB hf16257 hG16258 hw
        have hF := frCF (by decide) hG16258 hF
        rw [hrc] at hB
        have hP : va_P (dC, dI) classes (wM g c v16255 F16256 rc) H1 := hB
        have hw : (z16246.toInt ≤ (v16255 39).toInt ∧ (v16255 39).toInt ≤ ((va_up v16043 39 z16246) 30).toInt ∧ (v16043 38).toInt ≤ (v16255 38).toInt ∧ (v16255 38).toInt - (v16043 38).toInt ≤ (v16255 39).toInt - z16246.toInt ∧ (v16043 41).toInt ≤ (v16255 41).toInt ∧ ((v16255 40).toInt < 0 → (v16255 41).toInt = (v16043 41).toInt)) ∧ keepL ((va_up v16043 39 z16246) 37) (F16044 28) (F16044 29) (F16256 28) (F16256 29) ∧ ((v16255 40).toInt < 0 → dp (F16256 28) (F16256 29) (bI ((va_up v16043 39 z16246) 37)) (v16255 38).toInt.toNat = some ((d + 1) + 1)) := hw
        rw [show (va_up v16043 39 z16246) 30 = v 30 from hf16045 30 (by decide)] at hw
        rw [show (va_up v16043 39 z16246) 37 = v 37 from hf16045 37 (by decide)] at hw
        have hw_r16254 := hw
        have t16259 : 0 ≤ (v16255 38).toInt ∧ (v16255 38).toInt ≤ 120 := hI.1 38 _ _ rfl
        have t16260 : 0 ≤ (v16255 39).toInt ∧ (v16255 39).toInt ≤ 120 := hI.1 39 _ _ rfl
        have t16261 : 0 ≤ (v16255 41).toInt ∧ (v16255 41).toInt ≤ 8 := hI.1 41 _ _ rfl
        generalize H1 = H at hP hS ⊢
        have hk := hk.tr hw_r16254.2.1
        have hd := hw_r16254.2.2
        refine lv_aload_n hx hb dX12_either_48 rfl (lv_at hl 1 rfl) ?_
        refine lv_iload_n hx hb dX12_either_49 rfl (lv_at hl 0 rfl) ?_
        refine lv_iconst (v := 0) hx hb dX12_either_50 (by decide) ?_
        have t16262 : 0 ≤ (v 37).toInt ∧ (v 37).toInt ≤ 9 := by have h9 := hI.1 37 _ _ rfl; rw [show v16255 37 = v 37 from (hf16257 37 (by decide)).trans (hf16045 37 (by decide))] at h9; exact h9
        have t16263 : 0 ≤ (v16255 38).toInt ∧ (v16255 38).toInt ≤ 120 := hI.1 38 _ _ rfl
        refine va_callv (va_runV (As := [.int r16052, .int 0]) (rest := []) ⟨hx, hb, hml, hown, hwd⟩ (c_X12_lay l dC dI g c adK adV v16255 F16256 rc H.size r16052 0 hg hI (by have h9 : v16255 38 = v16255 38 := rfl; rw [h9]; omega)) (cwV 2 hwd (gV wk_1021 wk_1018 wk_1019 wk_1020 wk_5) rfl rfl rfl (by decide +kernel) ⟨Nat.le_of_ble_eq_true rfl, Nat.le_of_ble_eq_true rfl⟩) ⟨PM.blind, va_recv hK hP (ci := 12) (q0 := 0) rfl rfl, fun U hU hW => ⟨rfl, PM.at hK hE hP hS hU hW⟩⟩ rfl rfl hl.1 rfl (lv_room (Nat.le_of_ble_eq_true rfl)) dX12_either_51 ⟨Nat.le_of_ble_eq_true rfl, Nat.le_of_ble_eq_true rfl⟩) hS (fun q _ h => (freeM hS) q h) (freeM hS) (fun u t H1 locs ht hvm hw hB hz1 hk1 hS => ?_)
        unfold BM at hB
        rw [ht] at hB
        obtain ⟨v16265, F16266, rc9⟩ := u
        obtain ⟨hI, hrc, hf16267, hG16268, hw⟩ := hw
        dsimp only at hI hrc hB hf16267 hG16268 hw
        have hF := frCF (by decide) hG16268 hF
        rw [hrc] at hB
        have hP : va_P (dC, dI) classes (wM g c v16265 F16266 rc) H1 := hB
        have hw : (v16265 38).toInt = (v16255 38).toInt + 1 ∧ keepL (v16255 37) (F16256 28) (F16256 29) (F16266 28) (F16266 29) ∧ dp (F16266 28) (F16266 29) (bI (v16255 37)) ((v16255 38).toInt.toNat + 1) = dpS (dp (F16256 28) (F16256 29) (bI (v16255 37)) (v16255 38).toInt.toNat) r16052 (0 : Int32) := hw
        rw [show v16255 37 = v 37 from (hf16257 37 (by decide)).trans (hf16045 37 (by decide))] at hw
        have hw_r16264 := hw
        have t16269 : 0 ≤ (v16265 38).toInt ∧ (v16265 38).toInt ≤ 120 := hI.1 38 _ _ rfl
        have k16270 : (0 : Int32).toInt = 0 := by decide
        generalize H1 = H at hP hS ⊢
        have hk := hk.tr hw_r16264.2.1
        have hd : (v16255 40).toInt < 0 → dp (F16266 28) (F16266 29) (bI (v 37)) (v16265 38).toInt.toNat = some (((d + 1) + 1) - 1) := fun hf => (by have e9 : (v16265 38).toInt.toNat = (v16255 38).toInt.toNat + 1 := (by omega); rw [e9, hw_r16264.2.2, hd hf]; exact dpS_5 (by omega) (by omega) (by omega) (by omega) (by omega))
        refine lv_aload_n hx hb dX12_either_54 rfl (lv_at hl 1 rfl) ?_
        refine va_get (D := (dC, dI)) (ci := 12) (v := .int (v16265 40)) (C := RX12) (T := TX12) (N := 63) hx hb hwd inA_X12 hown hK hP 0 rfl rfl 40 (by decide) (hwd _ wk_1005) (fun _ h9 => h9) rfl dX12_either_55 ?_
        refine my_top (v := v16255 40) (hf16267 40 (by decide)) ?_
        refine lv_if_ge (tgt := 70) hx hb dX12_either_58 (by decide) (fun c16271 => ?_) (fun c16271 => ?_)
        · skip
          have t16272 := cv_le (a := 0) (by decide) (b := (v16255 40).toInt) rfl c16271
          have hP9 : va_P (dC, dI) classes (wM g c v16265 F16266 rc) H := hP
          exact W.vret hx hb hr (fun t ht hW => ⟨⟨(v16265, F16266, rc), rfl, ⟨hI, rfl, (frC (by decide) hf16267 (frC (by decide) hf16257 (frU (by decide) (frC (by decide) hf16045 (fun _ _ => rfl))))), hF, (by show ((v 39).toInt ≤ (v16265 39).toInt ∧ (v16265 39).toInt ≤ (v 30).toInt ∧ (v 38).toInt ≤ (v16265 38).toInt ∧ (v16265 38).toInt - (v 38).toInt ≤ (v16265 39).toInt - (v 39).toInt ∧ (v 41).toInt ≤ (v16265 41).toInt ∧ ((v16265 40).toInt < 0 → (v16265 41).toInt = (v 41).toInt)) ∧ keepL (v 37) (F 28) (F 29) (F16266 28) (F16266 29) ∧ ((v16265 40).toInt < 0 → dp (F16266 28) (F16266 29) (bI (v 37)) (v16265 38).toInt.toNat = some (d + 1)); rw [show v16265 39 = v16255 39 from hf16267 39 (by decide)]; rw [show v16265 41 = v16255 41 from hf16267 41 (by decide)]; rw [show v16265 40 = v16255 40 from hf16267 40 (by decide)]; exact ⟨by omega, hk, fun hf => (hd (by omega)).trans (congrArg some (by omega))⟩)⟩, (by show va_P _ _ _ t.heap; rw [ht]; exact hP9)⟩, hS.F ht⟩) hS.2.2 dX12_either_70
        · skip
          have t16273 := cv_nle (a := 0) (by decide) (b := (v16255 40).toInt) rfl c16271
          refine lv_aload_n hx hb dX12_either_61 rfl (lv_at hl 1 rfl) ?_
          have t16274 : 0 ≤ (v 30).toInt ∧ (v 30).toInt ≤ 120 := by have h9 := hI.1 30 _ _ rfl; rw [show v16265 30 = v 30 from (hf16267 30 (by decide)).trans ((hf16257 30 (by decide)).trans (hf16045 30 (by decide)))] at h9; exact h9
          have t16275 : 0 ≤ (v16255 39).toInt ∧ (v16255 39).toInt ≤ 120 := by have h9 := hI.1 39 _ _ rfl; rw [show v16265 39 = v16255 39 from hf16267 39 (by decide)] at h9; exact h9
          refine va_calli (va_runV (As := []) (rest := []) ⟨hx, hb, hml, hown, hwd⟩ (c_X12_look l dC dI g c adK adV v16265 F16266 rc H.size  hg hI ) (cwV 0 hwd (gV wk_1017 wk_1014 wk_1015 wk_1016 wk_5) rfl rfl rfl (by decide +kernel) ⟨Nat.le_of_ble_eq_true rfl, Nat.le_of_ble_eq_true rfl⟩) ⟨PM.blind, va_recv hK hP (ci := 12) (q0 := 0) rfl rfl, fun U hU hW => ⟨rfl, PM.at hK hE hP hS hU hW⟩⟩ rfl rfl hl.1 rfl (lv_room (Nat.le_of_ble_eq_true rfl)) dX12_either_62 ⟨Nat.le_of_ble_eq_true rfl, Nat.le_of_ble_eq_true rfl⟩) hS (fun q _ h => (freeM hS) q h) (freeM hS) (fun r16276 u t H1 locs ht hvm hw hB hz1 hk1 hS => ?_)
          unfold BM at hB
          rw [ht] at hB
          have hP : va_P (dC, dI) classes (wM g c v16265 F16266 rc) H1 := hB
          have hw : r16276.toInt = lkM (v16265 39) (v16265 30) (F16266 24) ∧ ((v16265 39).toInt < (v16265 30).toInt ∨ r16276.toInt = -1) := hw
          rw [show v16265 39 = v16255 39 from hf16267 39 (by decide)] at hw
          rw [show v16265 30 = v 30 from (hf16267 30 (by decide)).trans ((hf16257 30 (by decide)).trans (hf16045 30 (by decide)))] at hw
          rw [hF 24 (by decide)] at hw
          have hw_r16276 := hw
          generalize H1 = H at hP hS ⊢
          refine lv_bipush (v := 63) hx hb dX12_either_65 (by decide) ?_
          refine lv_icmp_eq (tgt := 71) hx hb dX12_either_67 (by decide) (fun c16277 => ?_) (fun c16277 => ?_)
          · skip
            have t16278 := cv_eq (a := r16276.toInt) rfl (b := 63) (by decide) c16277
            refine lv_aload_n hx hb dX12_either_71 rfl (lv_at hl 1 rfl) ?_
            have t16279 : 0 ≤ (v16255 39).toInt ∧ (v16255 39).toInt ≤ 120 := by have h9 := hI.1 39 _ _ rfl; rw [show v16265 39 = v16255 39 from hf16267 39 (by decide)] at h9; exact h9
            have t16280 : 0 ≤ (v16255 41).toInt ∧ (v16255 41).toInt ≤ 8 := by have h9 := hI.1 41 _ _ rfl; rw [show v16265 41 = v16255 41 from hf16267 41 (by decide)] at h9; exact h9
            refine va_calli (va_runV (As := []) (rest := []) ⟨hx, hb, hml, hown, hwd⟩ (c_X12_opens l dC dI g c adK adV v16265 F16266 rc H.size  hg hI (by have h9 : v16265 39 = v16255 39 := hf16267 39 (by decide); (try rw [h9]); clear h9; have h9 : v16265 30 = v 30 := (hf16267 30 (by decide)).trans ((hf16257 30 (by decide)).trans (hf16045 30 (by decide))); (try rw [h9]); clear h9; omega)) (cwV 0 hwd (gV wk_1025 wk_1022 wk_1023 wk_1024 wk_5) rfl rfl rfl (by decide +kernel) ⟨Nat.le_of_ble_eq_true rfl, Nat.le_of_ble_eq_true rfl⟩) ⟨PM.blind, va_recv hK hP (ci := 12) (q0 := 0) rfl rfl, fun U hU hW => ⟨rfl, PM.at hK hE hP hS hU hW⟩⟩ rfl rfl hl.1 rfl (lv_room (Nat.le_of_ble_eq_true rfl)) dX12_either_72 ⟨Nat.le_of_ble_eq_true rfl, Nat.le_of_ble_eq_true rfl⟩) hS (fun q _ h => (freeM hS) q h) (freeM hS) (fun r16281 u t H1 locs ht hvm hw hB hz1 hk1 hS => ?_)
            unfold BM at hB
            rw [ht] at hB
            obtain ⟨v16282, F16283, rc9⟩ := u
            obtain ⟨hI, hrc, hf16284, hG16285, hw⟩ := hw
            dsimp only at hI hrc hB hf16284 hG16285 hw
            have hF := frCF (by decide) hG16285 hF
            rw [hrc] at hB
            have hP : va_P (dC, dI) classes (wM g c v16282 F16283 rc) H1 := hB
            have hw : (r16281.toInt = 1 ∧ (v16265 41).toInt < 8 ∧ (v16282 41).toInt = (v16265 41).toInt + 1 ∧ (v16282 39).toInt = (v16265 39).toInt + 1 ∧ (v16282 40).toInt = (v16265 40).toInt) ∨ (r16281.toInt = 0 ∧ (v16265 41).toInt = 8 ∧ 0 ≤ (v16282 40).toInt ∧ (v16282 41).toInt = (v16265 41).toInt ∧ (v16282 39).toInt = (v16265 39).toInt) := hw
            rw [show v16265 41 = v16255 41 from hf16267 41 (by decide)] at hw
            rw [show v16265 39 = v16255 39 from hf16267 39 (by decide)] at hw
            rw [show v16265 40 = v16255 40 from hf16267 40 (by decide)] at hw
            have hw_r16281 := hw
            have t16286 : 0 ≤ (v16282 39).toInt ∧ (v16282 39).toInt ≤ 120 := hI.1 39 _ _ rfl
            have t16287 : 0 ≤ (v16282 41).toInt ∧ (v16282 41).toInt ≤ 8 := hI.1 41 _ _ rfl
            generalize H1 = H at hP hS ⊢
            have hk : keepL (v 37) (F 28) (F 29) (F16283 28) (F16283 29) := by rw [hG16285 28 (by decide), hG16285 29 (by decide)]; exact hk
            have hd : (v16282 40).toInt < 0 → dp (F16283 28) (F16283 29) (bI (v 37)) (v16265 38).toInt.toNat = some (((d + 1) + 1) - 1) := fun hf => (by rw [hG16285 28 (by decide), hG16285 29 (by decide)]; exact hd (by omega))
            refine lv_if_ne (tgt := 79) hx hb dX12_either_75 (by decide) (fun c16288 => ?_) (fun c16288 => ?_)
            · skip
              have t16289 := cv_ne (a := r16281.toInt) rfl (b := 0) (by decide) c16288
              refine lv_aload_n hx hb dX12_either_79 rfl (lv_at hl 1 rfl) ?_
              have t16290 : 0 ≤ (v 30).toInt ∧ (v 30).toInt ≤ 120 := by have h9 := hI.1 30 _ _ rfl; rw [show v16282 30 = v 30 from (hf16284 30 (by decide)).trans ((hf16267 30 (by decide)).trans ((hf16257 30 (by decide)).trans (hf16045 30 (by decide))))] at h9; exact h9
              have t16291 : 0 ≤ (v 37).toInt ∧ (v 37).toInt ≤ 9 := by have h9 := hI.1 37 _ _ rfl; rw [show v16282 37 = v 37 from (hf16284 37 (by decide)).trans ((hf16267 37 (by decide)).trans ((hf16257 37 (by decide)).trans (hf16045 37 (by decide))))] at h9; exact h9
              have t16292 : 0 ≤ (v16265 38).toInt ∧ (v16265 38).toInt ≤ 120 := by have h9 := hI.1 38 _ _ rfl; rw [show v16282 38 = v16265 38 from hf16284 38 (by decide)] at h9; exact h9
              have t16293 : 0 ≤ (v16282 39).toInt ∧ (v16282 39).toInt ≤ 120 := hI.1 39 _ _ rfl
              have t16294 : 0 ≤ (v16282 41).toInt ∧ (v16282 41).toInt ≤ 8 := hI.1 41 _ _ rfl
              refine va_callv (va_runV (As := []) (rest := []) ⟨hx, hb, hml, hown, hwd⟩ (c_X12_either_6 l dC dI g c adK adV v16282 F16283 rc H.size  (((d + 1) + 1) - 1) hg hI (by have h9 : v16282 38 = v16265 38 := hf16284 38 (by decide); (try rw [h9]); clear h9; have h9 : v16282 39 = v16282 39 := rfl; (try rw [h9]); clear h9; have h9 : v16282 30 = v 30 := (hf16284 30 (by decide)).trans ((hf16267 30 (by decide)).trans ((hf16257 30 (by decide)).trans (hf16045 30 (by decide)))); (try rw [h9]); clear h9; have h9 : v16282 40 = v16282 40 := rfl; (try rw [h9]); clear h9; have h9 : v16282 41 = v16282 41 := rfl; (try rw [h9]); clear h9; omega) (by have h9 : v16282 37 = (v 37) := (hf16284 37 (by decide)).trans ((hf16267 37 (by decide)).trans ((hf16257 37 (by decide)).trans (hf16045 37 (by decide)))); have h8 : v16282 38 = (v16265 38) := hf16284 38 (by decide); (try rw [h9]); (try rw [h8]); exact hd (by omega))) (cwV 0 hwd (gV wk_1010 wk_1007 wk_1008 wk_1009 wk_5) rfl rfl rfl (by decide +kernel) ⟨Nat.le_of_ble_eq_true rfl, Nat.le_of_ble_eq_true rfl⟩) ⟨PM.blind, va_recv hK hP (ci := 12) (q0 := 0) rfl rfl, fun U hU hW => ⟨rfl, PM.at hK hE hP hS hU hW⟩⟩ rfl rfl hl.1 rfl (lv_room (Nat.le_of_ble_eq_true rfl)) dX12_either_80 ⟨Nat.le_of_ble_eq_true rfl, Nat.le_of_ble_eq_true rfl⟩) hS (fun q _ h => (freeM hS) q h) (freeM hS) (fun u t H1 locs ht hvm hw hB hz1 hk1 hS => ?_)
              unfold BM at hB
              rw [ht] at hB
              obtain ⟨v16296, F16297, rc9⟩ := u
              obtain ⟨hI, hrc, hf16298, hG16299, hw⟩ := hw
              dsimp only at hI hrc hB hf16298 hG16299 hw
              have hF := frCF (by decide) hG16299 hF
              rw [hrc] at hB
              have hP : va_P (dC, dI) classes (wM g c v16296 F16297 rc) H1 := hB
              have hw : ((v16282 39).toInt ≤ (v16296 39).toInt ∧ (v16296 39).toInt ≤ (v16282 30).toInt ∧ (v16282 38).toInt ≤ (v16296 38).toInt ∧ (v16296 38).toInt - (v16282 38).toInt ≤ (v16296 39).toInt - (v16282 39).toInt ∧ (v16282 41).toInt ≤ (v16296 41).toInt ∧ ((v16296 40).toInt < 0 → (v16296 41).toInt = (v16282 41).toInt)) ∧ keepL (v16282 37) (F16283 28) (F16283 29) (F16297 28) (F16297 29) ∧ ((v16296 40).toInt < 0 → dp (F16297 28) (F16297 29) (bI (v16282 37)) (v16296 38).toInt.toNat = some ((((d + 1) + 1) - 1) + 1)) := hw
              rw [show v16282 30 = v 30 from (hf16284 30 (by decide)).trans ((hf16267 30 (by decide)).trans ((hf16257 30 (by decide)).trans (hf16045 30 (by decide))))] at hw
              rw [show v16282 38 = v16265 38 from hf16284 38 (by decide)] at hw
              rw [show v16282 37 = v 37 from (hf16284 37 (by decide)).trans ((hf16267 37 (by decide)).trans ((hf16257 37 (by decide)).trans (hf16045 37 (by decide))))] at hw
              have hw_r16295 := hw
              have t16300 : 0 ≤ (v16296 38).toInt ∧ (v16296 38).toInt ≤ 120 := hI.1 38 _ _ rfl
              have t16301 : 0 ≤ (v16296 39).toInt ∧ (v16296 39).toInt ≤ 120 := hI.1 39 _ _ rfl
              have t16302 : 0 ≤ (v16296 41).toInt ∧ (v16296 41).toInt ≤ 8 := hI.1 41 _ _ rfl
              generalize H1 = H at hP hS ⊢
              have hk := hk.tr hw_r16295.2.1
              have hd := hw_r16295.2.2
              refine lv_aload_n hx hb dX12_either_83 rfl (lv_at hl 1 rfl) ?_
              refine va_get (D := (dC, dI)) (ci := 12) (v := .int (v16296 40)) (C := RX12) (T := TX12) (N := 63) hx hb hwd inA_X12 hown hK hP 0 rfl rfl 40 (by decide) (hwd _ wk_1005) (fun _ h9 => h9) rfl dX12_either_84 ?_
              refine lv_if_lt (tgt := 91) hx hb dX12_either_87 (by decide) (fun c16303 => ?_) (fun c16303 => ?_)
              · skip
                have t16304 := cv_lt (a := (v16296 40).toInt) rfl (b := 0) (by decide) c16303
                refine lv_aload_n hx hb dX12_either_91 rfl (lv_at hl 1 rfl) ?_
                have t16305 : 0 ≤ (v 30).toInt ∧ (v 30).toInt ≤ 120 := by have h9 := hI.1 30 _ _ rfl; rw [show v16296 30 = v 30 from (hf16298 30 (by decide)).trans ((hf16284 30 (by decide)).trans ((hf16267 30 (by decide)).trans ((hf16257 30 (by decide)).trans (hf16045 30 (by decide)))))] at h9; exact h9
                have t16306 : 0 ≤ (v16296 39).toInt ∧ (v16296 39).toInt ≤ 120 := hI.1 39 _ _ rfl
                refine va_calli (va_runV (As := []) (rest := []) ⟨hx, hb, hml, hown, hwd⟩ (c_X12_look l dC dI g c adK adV v16296 F16297 rc H.size  hg hI ) (cwV 0 hwd (gV wk_1017 wk_1014 wk_1015 wk_1016 wk_5) rfl rfl rfl (by decide +kernel) ⟨Nat.le_of_ble_eq_true rfl, Nat.le_of_ble_eq_true rfl⟩) ⟨PM.blind, va_recv hK hP (ci := 12) (q0 := 0) rfl rfl, fun U hU hW => ⟨rfl, PM.at hK hE hP hS hU hW⟩⟩ rfl rfl hl.1 rfl (lv_room (Nat.le_of_ble_eq_true rfl)) dX12_either_92 ⟨Nat.le_of_ble_eq_true rfl, Nat.le_of_ble_eq_true rfl⟩) hS (fun q _ h => (freeM hS) q h) (freeM hS) (fun r16307 u t H1 locs ht hvm hw hB hz1 hk1 hS => ?_)
                unfold BM at hB
                rw [ht] at hB
                have hP : va_P (dC, dI) classes (wM g c v16296 F16297 rc) H1 := hB
                have hw : r16307.toInt = lkM (v16296 39) (v16296 30) (F16297 24) ∧ ((v16296 39).toInt < (v16296 30).toInt ∨ r16307.toInt = -1) := hw
                rw [show v16296 30 = v 30 from (hf16298 30 (by decide)).trans ((hf16284 30 (by decide)).trans ((hf16267 30 (by decide)).trans ((hf16257 30 (by decide)).trans (hf16045 30 (by decide)))))] at hw
                rw [hF 24 (by decide)] at hw
                have hw_r16307 := hw
                generalize H1 = H at hP hS ⊢
                refine lv_bipush (v := 58) hx hb dX12_either_95 (by decide) ?_
                refine lv_icmp_eq (tgt := 105) hx hb dX12_either_97 (by decide) (fun c16308 => ?_) (fun c16308 => ?_)
                · skip
                  have t16309 := cv_eq (a := r16307.toInt) rfl (b := 58) (by decide) c16308
                  refine lv_aload_n hx hb dX12_either_105 rfl (lv_at hl 1 rfl) ?_
                  refine lv_dup hx hb dX12_either_106 rfl ?_
                  refine va_get (D := (dC, dI)) (ci := 12) (v := .int (v16296 39)) (C := RX12) (T := TX12) (N := 63) hx hb hwd inA_X12 hown hK hP 0 rfl rfl 39 (by decide) (hwd _ wk_1004) (fun _ h9 => h9) rfl dX12_either_107 ?_
                  have t16310 : 0 ≤ (v16296 39).toInt ∧ (v16296 39).toInt ≤ 120 := hI.1 39 _ _ rfl
                  refine lv_iconst (v := 1) hx hb dX12_either_110 (by decide) ?_
                  refine lv_iadd hx hb dX12_either_111 ?_
                  refine lv_topi (fun z16311 e16312 => ?_)
                  try (have t16313 := tadd e16312 (a := (v16296 39).toInt) rfl (b := 1) (by decide) (by omega))
                  refine va_put (D := (dC, dI)) (ci := 12) (v := .int z16311) (ty := .int) (C := RX12) (T := TX12) (N := 63) (fs := fsM_0 g v16296 rc) hx hb hwd inA_X12 tyX12 tyX12_ok nmX12 hown hK hP (DM hg) hS 0 rfl rfl 39 (by decide) (hwd _ wk_1004) (fun _ h9 => h9) rfl (by decide +kernel) rfl rfl (Nat.le_of_ble_eq_true rfl) dX12_either_112 (fun H locs hP _ hS => ?_)
                  have hP := va_P_eq (pM_39 g c _ _ _ _) hP
                  have hI := IM.put hI 39 z16311 rfl (by omega)
                  refine lv_aload_n hx hb dX12_either_115 rfl (lv_at hl 1 rfl) ?_
                  have t16314 : 0 ≤ (v 30).toInt ∧ (v 30).toInt ≤ 120 := by have h9 := hI.1 30 _ _ rfl; rw [show (va_up v16296 39 z16311) 30 = v 30 from (hf16298 30 (by decide)).trans ((hf16284 30 (by decide)).trans ((hf16267 30 (by decide)).trans ((hf16257 30 (by decide)).trans (hf16045 30 (by decide)))))] at h9; exact h9
                  have t16315 : 0 ≤ (v 37).toInt ∧ (v 37).toInt ≤ 9 := by have h9 := hI.1 37 _ _ rfl; rw [show (va_up v16296 39 z16311) 37 = v 37 from (hf16298 37 (by decide)).trans ((hf16284 37 (by decide)).trans ((hf16267 37 (by decide)).trans ((hf16257 37 (by decide)).trans (hf16045 37 (by decide)))))] at h9; exact h9
                  have t16316 : 0 ≤ (v16296 38).toInt ∧ (v16296 38).toInt ≤ 120 := hI.1 38 _ _ rfl
                  have t16317 : 0 ≤ z16311.toInt ∧ z16311.toInt ≤ 120 := hI.1 39 _ _ rfl
                  have t16318 : 0 ≤ (v16296 41).toInt ∧ (v16296 41).toInt ≤ 8 := hI.1 41 _ _ rfl
                  refine va_callv (va_runV (As := []) (rest := []) ⟨hx, hb, hml, hown, hwd⟩ (c_X12_either_6 l dC dI g c adK adV (va_up v16296 39 z16311) F16297 rc H.size  ((((d + 1) + 1) - 1) + 1) hg hI (by have h9 : (va_up v16296 39 z16311) 38 = v16296 38 := rfl; (try rw [h9]); clear h9; have h9 : (va_up v16296 39 z16311) 39 = z16311 := rfl; (try rw [h9]); clear h9; have h9 : (va_up v16296 39 z16311) 30 = v 30 := (hf16298 30 (by decide)).trans ((hf16284 30 (by decide)).trans ((hf16267 30 (by decide)).trans ((hf16257 30 (by decide)).trans (hf16045 30 (by decide))))); (try rw [h9]); clear h9; have h9 : (va_up v16296 39 z16311) 40 = v16296 40 := rfl; (try rw [h9]); clear h9; have h9 : (va_up v16296 39 z16311) 41 = v16296 41 := rfl; (try rw [h9]); clear h9; omega) (by have h9 : (va_up v16296 39 z16311) 37 = (v 37) := (hf16298 37 (by decide)).trans ((hf16284 37 (by decide)).trans ((hf16267 37 (by decide)).trans ((hf16257 37 (by decide)).trans (hf16045 37 (by decide))))); have h8 : (va_up v16296 39 z16311) 38 = (v16296 38) := rfl; (try rw [h9]); (try rw [h8]); exact hd (by omega))) (cwV 0 hwd (gV wk_1010 wk_1007 wk_1008 wk_1009 wk_5) rfl rfl rfl (by decide +kernel) ⟨Nat.le_of_ble_eq_true rfl, Nat.le_of_ble_eq_true rfl⟩) ⟨PM.blind, va_recv hK hP (ci := 12) (q0 := 0) rfl rfl, fun U hU hW => ⟨rfl, PM.at hK hE hP hS hU hW⟩⟩ rfl rfl hl.1 rfl (lv_room (Nat.le_of_ble_eq_true rfl)) dX12_either_116 ⟨Nat.le_of_ble_eq_true rfl, Nat.le_of_ble_eq_true rfl⟩) hS (fun q _ h => (freeM hS) q h) (freeM hS) (fun u t H1 locs ht hvm hw hB hz1 hk1 hS => ?_)
                  unfold BM at hB
                  rw [ht] at hB
                  obtain ⟨v16320, F16321, rc9⟩ := u
                  obtain ⟨hI, hrc, hf16322, hG16323, hw⟩ := hw
                  dsimp only at hI hrc hB hf16322 hG16323 hw
                  have hF := frCF (by decide) hG16323 hF
                  rw [hrc] at hB
                  have hP : va_P (dC, dI) classes (wM g c v16320 F16321 rc) H1 := hB
                  have hw : (z16311.toInt ≤ (v16320 39).toInt ∧ (v16320 39).toInt ≤ ((va_up v16296 39 z16311) 30).toInt ∧ (v16296 38).toInt ≤ (v16320 38).toInt ∧ (v16320 38).toInt - (v16296 38).toInt ≤ (v16320 39).toInt - z16311.toInt ∧ (v16296 41).toInt ≤ (v16320 41).toInt ∧ ((v16320 40).toInt < 0 → (v16320 41).toInt = (v16296 41).toInt)) ∧ keepL ((va_up v16296 39 z16311) 37) (F16297 28) (F16297 29) (F16321 28) (F16321 29) ∧ ((v16320 40).toInt < 0 → dp (F16321 28) (F16321 29) (bI ((va_up v16296 39 z16311) 37)) (v16320 38).toInt.toNat = some (((((d + 1) + 1) - 1) + 1) + 1)) := hw
                  rw [show (va_up v16296 39 z16311) 30 = v 30 from (hf16298 30 (by decide)).trans ((hf16284 30 (by decide)).trans ((hf16267 30 (by decide)).trans ((hf16257 30 (by decide)).trans (hf16045 30 (by decide)))))] at hw
                  rw [show (va_up v16296 39 z16311) 37 = v 37 from (hf16298 37 (by decide)).trans ((hf16284 37 (by decide)).trans ((hf16267 37 (by decide)).trans ((hf16257 37 (by decide)).trans (hf16045 37 (by decide)))))] at hw
                  have hw_r16319 := hw
                  have t16324 : 0 ≤ (v16320 38).toInt ∧ (v16320 38).toInt ≤ 120 := hI.1 38 _ _ rfl
                  have t16325 : 0 ≤ (v16320 39).toInt ∧ (v16320 39).toInt ≤ 120 := hI.1 39 _ _ rfl
                  have t16326 : 0 ≤ (v16320 41).toInt ∧ (v16320 41).toInt ≤ 8 := hI.1 41 _ _ rfl
                  generalize H1 = H at hP hS ⊢
                  have hk := hk.tr hw_r16319.2.1
                  have hd := hw_r16319.2.2
                  refine lv_aload_n hx hb dX12_either_119 rfl (lv_at hl 1 rfl) ?_
                  refine lv_iconst (v := 4) hx hb dX12_either_120 (by decide) ?_
                  refine lv_iconst (v := 0) hx hb dX12_either_121 (by decide) ?_
                  have t16327 : 0 ≤ (v 37).toInt ∧ (v 37).toInt ≤ 9 := by have h9 := hI.1 37 _ _ rfl; rw [show v16320 37 = v 37 from (hf16322 37 (by decide)).trans ((hf16298 37 (by decide)).trans ((hf16284 37 (by decide)).trans ((hf16267 37 (by decide)).trans ((hf16257 37 (by decide)).trans (hf16045 37 (by decide))))))] at h9; exact h9
                  have t16328 : 0 ≤ (v16320 38).toInt ∧ (v16320 38).toInt ≤ 120 := hI.1 38 _ _ rfl
                  refine va_callv (va_runV (As := [.int 4, .int 0]) (rest := []) ⟨hx, hb, hml, hown, hwd⟩ (c_X12_lay l dC dI g c adK adV v16320 F16321 rc H.size 4 0 hg hI (by have h9 : v16320 38 = v16320 38 := rfl; rw [h9]; omega)) (cwV 2 hwd (gV wk_1021 wk_1018 wk_1019 wk_1020 wk_5) rfl rfl rfl (by decide +kernel) ⟨Nat.le_of_ble_eq_true rfl, Nat.le_of_ble_eq_true rfl⟩) ⟨PM.blind, va_recv hK hP (ci := 12) (q0 := 0) rfl rfl, fun U hU hW => ⟨rfl, PM.at hK hE hP hS hU hW⟩⟩ rfl rfl hl.1 rfl (lv_room (Nat.le_of_ble_eq_true rfl)) dX12_either_122 ⟨Nat.le_of_ble_eq_true rfl, Nat.le_of_ble_eq_true rfl⟩) hS (fun q _ h => (freeM hS) q h) (freeM hS) (fun u t H1 locs ht hvm hw hB hz1 hk1 hS => ?_)
                  unfold BM at hB
                  rw [ht] at hB
                  obtain ⟨v16330, F16331, rc9⟩ := u
                  obtain ⟨hI, hrc, hf16332, hG16333, hw⟩ := hw
                  dsimp only at hI hrc hB hf16332 hG16333 hw
                  have hF := frCF (by decide) hG16333 hF
                  rw [hrc] at hB
                  have hP : va_P (dC, dI) classes (wM g c v16330 F16331 rc) H1 := hB
                  have hw : (v16330 38).toInt = (v16320 38).toInt + 1 ∧ keepL (v16320 37) (F16321 28) (F16321 29) (F16331 28) (F16331 29) ∧ dp (F16331 28) (F16331 29) (bI (v16320 37)) ((v16320 38).toInt.toNat + 1) = dpS (dp (F16321 28) (F16321 29) (bI (v16320 37)) (v16320 38).toInt.toNat) (4 : Int32) (0 : Int32) := hw
                  rw [show v16320 37 = v 37 from (hf16322 37 (by decide)).trans ((hf16298 37 (by decide)).trans ((hf16284 37 (by decide)).trans ((hf16267 37 (by decide)).trans ((hf16257 37 (by decide)).trans (hf16045 37 (by decide))))))] at hw
                  have hw_r16329 := hw
                  have t16334 : 0 ≤ (v16330 38).toInt ∧ (v16330 38).toInt ≤ 120 := hI.1 38 _ _ rfl
                  have k16335 : (4 : Int32).toInt = 4 := by decide
                  have k16336 : (0 : Int32).toInt = 0 := by decide
                  generalize H1 = H at hP hS ⊢
                  have hk := hk.tr hw_r16329.2.1
                  have hd : (v16320 40).toInt < 0 → dp (F16331 28) (F16331 29) (bI (v 37)) (v16330 38).toInt.toNat = some ((((((d + 1) + 1) - 1) + 1) + 1) - 2) := fun hf => (by have e9 : (v16330 38).toInt.toNat = (v16320 38).toInt.toNat + 1 := (by omega); rw [e9, hw_r16329.2.2, hd hf]; exact dpS_4 (by decide) (by omega))
                  refine lv_aload_n hx hb dX12_either_125 rfl (lv_at hl 1 rfl) ?_
                  refine lv_dup hx hb dX12_either_126 rfl ?_
                  refine va_get (D := (dC, dI)) (ci := 12) (v := .int (v16330 41)) (C := RX12) (T := TX12) (N := 63) hx hb hwd inA_X12 hown hK hP 0 rfl rfl 41 (by decide) (hwd _ wk_1006) (fun _ h9 => h9) rfl dX12_either_127 ?_
                  refine my_top (v := v16320 41) (hf16332 41 (by decide)) ?_
                  have t16337 : 0 ≤ (v16320 41).toInt ∧ (v16320 41).toInt ≤ 8 := by have h9 := hI.1 41 _ _ rfl; rw [show v16330 41 = v16320 41 from hf16332 41 (by decide)] at h9; exact h9
                  refine lv_iconst (v := 1) hx hb dX12_either_130 (by decide) ?_
                  refine lv_isub hx hb dX12_either_131 ?_
                  refine lv_topi (fun z16338 e16339 => ?_)
                  try (have t16340 := tsub e16339 (a := (v16320 41).toInt) rfl (b := 1) (by decide) (by omega))
                  refine va_put (D := (dC, dI)) (ci := 12) (v := .int z16338) (ty := .int) (C := RX12) (T := TX12) (N := 63) (fs := fsM_0 g v16330 rc) hx hb hwd inA_X12 tyX12 tyX12_ok nmX12 hown hK hP (DM hg) hS 0 rfl rfl 41 (by decide) (hwd _ wk_1006) (fun _ h9 => h9) rfl (by decide +kernel) rfl rfl (Nat.le_of_ble_eq_true rfl) dX12_either_132 (fun H locs hP _ hS => ?_)
                  have hP := va_P_eq (pM_41 g c _ _ _ _) hP
                  have hI := IM.put hI 41 z16338 rfl (by omega)
                  have hP9 : va_P (dC, dI) classes (wM g c (va_up v16330 41 z16338) F16331 rc) H := hP
                  exact W.vret hx hb hr (fun t ht hW => ⟨⟨((va_up v16330 41 z16338), F16331, rc), rfl, ⟨hI, rfl, (frU (by decide) (frC (by decide) hf16332 (frC (by decide) hf16322 (frU (by decide) (frC (by decide) hf16298 (frC (by decide) hf16284 (frC (by decide) hf16267 (frC (by decide) hf16257 (frU (by decide) (frC (by decide) hf16045 (fun _ _ => rfl))))))))))), hF, (by show ((v 39).toInt ≤ ((va_up v16330 41 z16338) 39).toInt ∧ ((va_up v16330 41 z16338) 39).toInt ≤ (v 30).toInt ∧ (v 38).toInt ≤ (v16330 38).toInt ∧ (v16330 38).toInt - (v 38).toInt ≤ ((va_up v16330 41 z16338) 39).toInt - (v 39).toInt ∧ (v 41).toInt ≤ z16338.toInt ∧ (((va_up v16330 41 z16338) 40).toInt < 0 → z16338.toInt = (v 41).toInt)) ∧ keepL (v 37) (F 28) (F 29) (F16331 28) (F16331 29) ∧ (((va_up v16330 41 z16338) 40).toInt < 0 → dp (F16331 28) (F16331 29) (bI (v 37)) (v16330 38).toInt.toNat = some (d + 1)); rw [show (va_up v16330 41 z16338) 39 = v16320 39 from hf16332 39 (by decide)]; rw [show (va_up v16330 41 z16338) 40 = v16320 40 from hf16332 40 (by decide)]; exact ⟨by omega, hk, fun hf => (hd (by omega)).trans (congrArg some (by omega))⟩)⟩, (by show va_P _ _ _ t.heap; rw [ht]; exact hP9)⟩, hS.F ht⟩) hS.2.2 dX12_either_135
                · skip
                  have t16341 := cv_ne (a := r16307.toInt) rfl (b := 58) (by decide) c16308
                  refine lv_aload_n hx hb dX12_either_100 rfl (lv_at hl 1 rfl) ?_
                  refine va_callv (va_runV (As := []) (rest := []) ⟨hx, hb, hml, hown, hwd⟩ (c_X12_wrong l dC dI g c adK adV v16296 F16297 rc H.size  hg hI ) (cwV 0 hwd (gV wk_1029 wk_1026 wk_1027 wk_1028 wk_5) rfl rfl rfl (by decide +kernel) ⟨Nat.le_of_ble_eq_true rfl, Nat.le_of_ble_eq_true rfl⟩) ⟨PM.blind, va_recv hK hP (ci := 12) (q0 := 0) rfl rfl, fun U hU hW => ⟨rfl, PM.at hK hE hP hS hU hW⟩⟩ rfl rfl hl.1 rfl (lv_room (Nat.le_of_ble_eq_true rfl)) dX12_either_101 ⟨Nat.le_of_ble_eq_true rfl, Nat.le_of_ble_eq_true rfl⟩) hS (fun q _ h => (freeM hS) q h) (freeM hS) (fun u t H1 locs ht hvm hw hB hz1 hk1 hS => ?_)
                  unfold BM at hB
                  rw [ht] at hB
                  obtain ⟨v16343, F16344, rc9⟩ := u
                  obtain ⟨hI, hrc, hf16345, hG16346, hw⟩ := hw
                  dsimp only at hI hrc hB hf16345 hG16346 hw
                  have hF := frCF (by decide) hG16346 hF
                  rw [hrc] at hB
                  have hP : va_P (dC, dI) classes (wM g c v16343 F16344 rc) H1 := hB
                  have hw : 0 ≤ (v16343 40).toInt := hw
                  have hw_r16342 := hw
                  generalize H1 = H at hP hS ⊢
                  have hk : keepL (v 37) (F 28) (F 29) (F16344 28) (F16344 29) := by rw [hG16346 28 (by decide), hG16346 29 (by decide)]; exact hk
                  have hd : (v16343 40).toInt < 0 → dp (F16344 28) (F16344 29) (bI (v 37)) (v16296 38).toInt.toNat = some ((((d + 1) + 1) - 1) + 1) := fun hf => (by rw [hG16346 28 (by decide), hG16346 29 (by decide)]; exact hd (by omega))
                  have hP9 : va_P (dC, dI) classes (wM g c v16343 F16344 rc) H := hP
                  exact W.vret hx hb hr (fun t ht hW => ⟨⟨(v16343, F16344, rc), rfl, ⟨hI, rfl, (frC (by decide) hf16345 (frC (by decide) hf16298 (frC (by decide) hf16284 (frC (by decide) hf16267 (frC (by decide) hf16257 (frU (by decide) (frC (by decide) hf16045 (fun _ _ => rfl)))))))), hF, (by show ((v 39).toInt ≤ (v16343 39).toInt ∧ (v16343 39).toInt ≤ (v 30).toInt ∧ (v 38).toInt ≤ (v16343 38).toInt ∧ (v16343 38).toInt - (v 38).toInt ≤ (v16343 39).toInt - (v 39).toInt ∧ (v 41).toInt ≤ (v16343 41).toInt ∧ ((v16343 40).toInt < 0 → (v16343 41).toInt = (v 41).toInt)) ∧ keepL (v 37) (F 28) (F 29) (F16344 28) (F16344 29) ∧ ((v16343 40).toInt < 0 → dp (F16344 28) (F16344 29) (bI (v 37)) (v16343 38).toInt.toNat = some (d + 1)); rw [show v16343 39 = v16296 39 from hf16345 39 (by decide)]; rw [show v16343 38 = v16296 38 from hf16345 38 (by decide)]; rw [show v16343 41 = v16296 41 from hf16345 41 (by decide)]; exact ⟨by omega, hk, fun hf => (hd (by omega)).trans (congrArg some (by omega))⟩)⟩, (by show va_P _ _ _ t.heap; rw [ht]; exact hP9)⟩, hS.F ht⟩) hS.2.2 dX12_either_104
              · skip
                have t16347 := cv_nlt (a := (v16296 40).toInt) rfl (b := 0) (by decide) c16303
                have hP9 : va_P (dC, dI) classes (wM g c v16296 F16297 rc) H := hP
                exact W.vret hx hb hr (fun t ht hW => ⟨⟨(v16296, F16297, rc), rfl, ⟨hI, rfl, (frC (by decide) hf16298 (frC (by decide) hf16284 (frC (by decide) hf16267 (frC (by decide) hf16257 (frU (by decide) (frC (by decide) hf16045 (fun _ _ => rfl))))))), hF, (by show ((v 39).toInt ≤ (v16296 39).toInt ∧ (v16296 39).toInt ≤ (v 30).toInt ∧ (v 38).toInt ≤ (v16296 38).toInt ∧ (v16296 38).toInt - (v 38).toInt ≤ (v16296 39).toInt - (v 39).toInt ∧ (v 41).toInt ≤ (v16296 41).toInt ∧ ((v16296 40).toInt < 0 → (v16296 41).toInt = (v 41).toInt)) ∧ keepL (v 37) (F 28) (F 29) (F16297 28) (F16297 29) ∧ ((v16296 40).toInt < 0 → dp (F16297 28) (F16297 29) (bI (v 37)) (v16296 38).toInt.toNat = some (d + 1)); exact ⟨by omega, hk, fun hf => (hd (by omega)).trans (congrArg some (by omega))⟩)⟩, (by show va_P _ _ _ t.heap; rw [ht]; exact hP9)⟩, hS.F ht⟩) hS.2.2 dX12_either_90
            · skip
              have t16348 := cv_eq (a := r16281.toInt) rfl (b := 0) (by decide) c16288
              have hP9 : va_P (dC, dI) classes (wM g c v16282 F16283 rc) H := hP
              exact W.vret hx hb hr (fun t ht hW => ⟨⟨(v16282, F16283, rc), rfl, ⟨hI, rfl, (frC (by decide) hf16284 (frC (by decide) hf16267 (frC (by decide) hf16257 (frU (by decide) (frC (by decide) hf16045 (fun _ _ => rfl)))))), hF, (by show ((v 39).toInt ≤ (v16282 39).toInt ∧ (v16282 39).toInt ≤ (v 30).toInt ∧ (v 38).toInt ≤ (v16282 38).toInt ∧ (v16282 38).toInt - (v 38).toInt ≤ (v16282 39).toInt - (v 39).toInt ∧ (v 41).toInt ≤ (v16282 41).toInt ∧ ((v16282 40).toInt < 0 → (v16282 41).toInt = (v 41).toInt)) ∧ keepL (v 37) (F 28) (F 29) (F16283 28) (F16283 29) ∧ ((v16282 40).toInt < 0 → dp (F16283 28) (F16283 29) (bI (v 37)) (v16282 38).toInt.toNat = some (d + 1)); rw [show v16282 38 = v16265 38 from hf16284 38 (by decide)]; exact ⟨by omega, hk, fun hf => (hd (by omega)).trans (congrArg some (by omega))⟩)⟩, (by show va_P _ _ _ t.heap; rw [ht]; exact hP9)⟩, hS.F ht⟩) hS.2.2 dX12_either_78
          · skip
            have t16349 := cv_ne (a := r16276.toInt) rfl (b := 63) (by decide) c16277
            have hP9 : va_P (dC, dI) classes (wM g c v16265 F16266 rc) H := hP
            exact W.vret hx hb hr (fun t ht hW => ⟨⟨(v16265, F16266, rc), rfl, ⟨hI, rfl, (frC (by decide) hf16267 (frC (by decide) hf16257 (frU (by decide) (frC (by decide) hf16045 (fun _ _ => rfl))))), hF, (by show ((v 39).toInt ≤ (v16265 39).toInt ∧ (v16265 39).toInt ≤ (v 30).toInt ∧ (v 38).toInt ≤ (v16265 38).toInt ∧ (v16265 38).toInt - (v 38).toInt ≤ (v16265 39).toInt - (v 39).toInt ∧ (v 41).toInt ≤ (v16265 41).toInt ∧ ((v16265 40).toInt < 0 → (v16265 41).toInt = (v 41).toInt)) ∧ keepL (v 37) (F 28) (F 29) (F16266 28) (F16266 29) ∧ ((v16265 40).toInt < 0 → dp (F16266 28) (F16266 29) (bI (v 37)) (v16265 38).toInt.toNat = some (d + 1)); rw [show v16265 39 = v16255 39 from hf16267 39 (by decide)]; rw [show v16265 41 = v16255 41 from hf16267 41 (by decide)]; rw [show v16265 40 = v16255 40 from hf16267 40 (by decide)]; exact ⟨by omega, hk, fun hf => (hd (by omega)).trans (congrArg some (by omega))⟩)⟩, (by show va_P _ _ _ t.heap; rw [ht]; exact hP9)⟩, hS.F ht⟩) hS.2.2 dX12_either_70
      · skip
        have t16350 := cv_ne (a := r16052.toInt) rfl (b := 61) (by decide) c16243
        refine lv_iload_n hx hb dX12_either_28 rfl (lv_at hl 0 rfl) ?_
        refine lv_bipush (v := 62) hx hb dX12_either_29 (by decide) ?_
        refine lv_icmp_ne (tgt := 54) hx hb dX12_either_31 (by decide) (fun c16351 => ?_) (fun c16351 => ?_)
        · skip
          have t16352 := cv_ne (a := r16052.toInt) rfl (b := 62) (by decide) c16351
          refine lv_aload_n hx hb dX12_either_54 rfl (lv_at hl 1 rfl) ?_
          refine va_get (D := (dC, dI)) (ci := 12) (v := .int (v16043 40)) (C := RX12) (T := TX12) (N := 63) hx hb hwd inA_X12 hown hK hP 0 rfl rfl 40 (by decide) (hwd _ wk_1005) (fun _ h9 => h9) rfl dX12_either_55 ?_
          refine lv_if_ge (tgt := 70) hx hb dX12_either_58 (by decide) (fun c16353 => ?_) (fun c16353 => ?_)
          · skip
            have t16354 := cv_le (a := 0) (by decide) (b := (v16043 40).toInt) rfl c16353
            have hP9 : va_P (dC, dI) classes (wM g c v16043 F16044 rc) H := hP
            exact W.vret hx hb hr (fun t ht hW => ⟨⟨(v16043, F16044, rc), rfl, ⟨hI, rfl, (frC (by decide) hf16045 (fun _ _ => rfl)), hF, (by show ((v 39).toInt ≤ (v16043 39).toInt ∧ (v16043 39).toInt ≤ (v 30).toInt ∧ (v 38).toInt ≤ (v16043 38).toInt ∧ (v16043 38).toInt - (v 38).toInt ≤ (v16043 39).toInt - (v 39).toInt ∧ (v 41).toInt ≤ (v16043 41).toInt ∧ ((v16043 40).toInt < 0 → (v16043 41).toInt = (v 41).toInt)) ∧ keepL (v 37) (F 28) (F 29) (F16044 28) (F16044 29) ∧ ((v16043 40).toInt < 0 → dp (F16044 28) (F16044 29) (bI (v 37)) (v16043 38).toInt.toNat = some (d + 1)); exact ⟨by omega, hk, fun hf => (hd (by omega)).trans (congrArg some (by omega))⟩)⟩, (by show va_P _ _ _ t.heap; rw [ht]; exact hP9)⟩, hS.F ht⟩) hS.2.2 dX12_either_70
          · skip
            have t16355 := cv_nle (a := 0) (by decide) (b := (v16043 40).toInt) rfl c16353
            refine lv_aload_n hx hb dX12_either_61 rfl (lv_at hl 1 rfl) ?_
            have t16356 : 0 ≤ (v 30).toInt ∧ (v 30).toInt ≤ 120 := by have h9 := hI.1 30 _ _ rfl; rw [show v16043 30 = v 30 from hf16045 30 (by decide)] at h9; exact h9
            have t16357 : 0 ≤ (v16043 39).toInt ∧ (v16043 39).toInt ≤ 120 := hI.1 39 _ _ rfl
            refine va_calli (va_runV (As := []) (rest := []) ⟨hx, hb, hml, hown, hwd⟩ (c_X12_look l dC dI g c adK adV v16043 F16044 rc H.size  hg hI ) (cwV 0 hwd (gV wk_1017 wk_1014 wk_1015 wk_1016 wk_5) rfl rfl rfl (by decide +kernel) ⟨Nat.le_of_ble_eq_true rfl, Nat.le_of_ble_eq_true rfl⟩) ⟨PM.blind, va_recv hK hP (ci := 12) (q0 := 0) rfl rfl, fun U hU hW => ⟨rfl, PM.at hK hE hP hS hU hW⟩⟩ rfl rfl hl.1 rfl (lv_room (Nat.le_of_ble_eq_true rfl)) dX12_either_62 ⟨Nat.le_of_ble_eq_true rfl, Nat.le_of_ble_eq_true rfl⟩) hS (fun q _ h => (freeM hS) q h) (freeM hS) (fun r16358 u t H1 locs ht hvm hw hB hz1 hk1 hS => ?_)
            unfold BM at hB
            rw [ht] at hB
            have hP : va_P (dC, dI) classes (wM g c v16043 F16044 rc) H1 := hB
            have hw : r16358.toInt = lkM (v16043 39) (v16043 30) (F16044 24) ∧ ((v16043 39).toInt < (v16043 30).toInt ∨ r16358.toInt = -1) := hw
            rw [show v16043 30 = v 30 from hf16045 30 (by decide)] at hw
            rw [hF 24 (by decide)] at hw
            have hw_r16358 := hw
            generalize H1 = H at hP hS ⊢
            refine lv_bipush (v := 63) hx hb dX12_either_65 (by decide) ?_
            refine lv_icmp_eq (tgt := 71) hx hb dX12_either_67 (by decide) (fun c16359 => ?_) (fun c16359 => ?_)
            · skip
              have t16360 := cv_eq (a := r16358.toInt) rfl (b := 63) (by decide) c16359
              refine lv_aload_n hx hb dX12_either_71 rfl (lv_at hl 1 rfl) ?_
              have t16361 : 0 ≤ (v16043 39).toInt ∧ (v16043 39).toInt ≤ 120 := hI.1 39 _ _ rfl
              have t16362 : 0 ≤ (v16043 41).toInt ∧ (v16043 41).toInt ≤ 8 := hI.1 41 _ _ rfl
              refine va_calli (va_runV (As := []) (rest := []) ⟨hx, hb, hml, hown, hwd⟩ (c_X12_opens l dC dI g c adK adV v16043 F16044 rc H.size  hg hI (by have h9 : v16043 39 = v16043 39 := rfl; (try rw [h9]); clear h9; have h9 : v16043 30 = v 30 := hf16045 30 (by decide); (try rw [h9]); clear h9; omega)) (cwV 0 hwd (gV wk_1025 wk_1022 wk_1023 wk_1024 wk_5) rfl rfl rfl (by decide +kernel) ⟨Nat.le_of_ble_eq_true rfl, Nat.le_of_ble_eq_true rfl⟩) ⟨PM.blind, va_recv hK hP (ci := 12) (q0 := 0) rfl rfl, fun U hU hW => ⟨rfl, PM.at hK hE hP hS hU hW⟩⟩ rfl rfl hl.1 rfl (lv_room (Nat.le_of_ble_eq_true rfl)) dX12_either_72 ⟨Nat.le_of_ble_eq_true rfl, Nat.le_of_ble_eq_true rfl⟩) hS (fun q _ h => (freeM hS) q h) (freeM hS) (fun r16363 u t H1 locs ht hvm hw hB hz1 hk1 hS => ?_)
              unfold BM at hB
              rw [ht] at hB
              obtain ⟨v16364, F16365, rc9⟩ := u
              obtain ⟨hI, hrc, hf16366, hG16367, hw⟩ := hw
              dsimp only at hI hrc hB hf16366 hG16367 hw
              have hF := frCF (by decide) hG16367 hF
              rw [hrc] at hB
              have hP : va_P (dC, dI) classes (wM g c v16364 F16365 rc) H1 := hB
              have hw : (r16363.toInt = 1 ∧ (v16043 41).toInt < 8 ∧ (v16364 41).toInt = (v16043 41).toInt + 1 ∧ (v16364 39).toInt = (v16043 39).toInt + 1 ∧ (v16364 40).toInt = (v16043 40).toInt) ∨ (r16363.toInt = 0 ∧ (v16043 41).toInt = 8 ∧ 0 ≤ (v16364 40).toInt ∧ (v16364 41).toInt = (v16043 41).toInt ∧ (v16364 39).toInt = (v16043 39).toInt) := hw
              have hw_r16363 := hw
              have t16368 : 0 ≤ (v16364 39).toInt ∧ (v16364 39).toInt ≤ 120 := hI.1 39 _ _ rfl
              have t16369 : 0 ≤ (v16364 41).toInt ∧ (v16364 41).toInt ≤ 8 := hI.1 41 _ _ rfl
              generalize H1 = H at hP hS ⊢
              have hk : keepL (v 37) (F 28) (F 29) (F16365 28) (F16365 29) := by rw [hG16367 28 (by decide), hG16367 29 (by decide)]; exact hk
              have hd : (v16364 40).toInt < 0 → dp (F16365 28) (F16365 29) (bI (v 37)) (v16043 38).toInt.toNat = some (d + 1) := fun hf => (by rw [hG16367 28 (by decide), hG16367 29 (by decide)]; exact hd (by omega))
              refine lv_if_ne (tgt := 79) hx hb dX12_either_75 (by decide) (fun c16370 => ?_) (fun c16370 => ?_)
              · skip
                have t16371 := cv_ne (a := r16363.toInt) rfl (b := 0) (by decide) c16370
                refine lv_aload_n hx hb dX12_either_79 rfl (lv_at hl 1 rfl) ?_
                have t16372 : 0 ≤ (v 30).toInt ∧ (v 30).toInt ≤ 120 := by have h9 := hI.1 30 _ _ rfl; rw [show v16364 30 = v 30 from (hf16366 30 (by decide)).trans (hf16045 30 (by decide))] at h9; exact h9
                have t16373 : 0 ≤ (v 37).toInt ∧ (v 37).toInt ≤ 9 := by have h9 := hI.1 37 _ _ rfl; rw [show v16364 37 = v 37 from (hf16366 37 (by decide)).trans (hf16045 37 (by decide))] at h9; exact h9
                have t16374 : 0 ≤ (v16043 38).toInt ∧ (v16043 38).toInt ≤ 120 := by have h9 := hI.1 38 _ _ rfl; rw [show v16364 38 = v16043 38 from hf16366 38 (by decide)] at h9; exact h9
                have t16375 : 0 ≤ (v16364 39).toInt ∧ (v16364 39).toInt ≤ 120 := hI.1 39 _ _ rfl
                have t16376 : 0 ≤ (v16364 41).toInt ∧ (v16364 41).toInt ≤ 8 := hI.1 41 _ _ rfl
                refine va_callv (va_runV (As := []) (rest := []) ⟨hx, hb, hml, hown, hwd⟩ (c_X12_either_6 l dC dI g c adK adV v16364 F16365 rc H.size  (d + 1) hg hI (by have h9 : v16364 38 = v16043 38 := hf16366 38 (by decide); (try rw [h9]); clear h9; have h9 : v16364 39 = v16364 39 := rfl; (try rw [h9]); clear h9; have h9 : v16364 30 = v 30 := (hf16366 30 (by decide)).trans (hf16045 30 (by decide)); (try rw [h9]); clear h9; have h9 : v16364 40 = v16364 40 := rfl; (try rw [h9]); clear h9; have h9 : v16364 41 = v16364 41 := rfl; (try rw [h9]); clear h9; omega) (by have h9 : v16364 37 = (v 37) := (hf16366 37 (by decide)).trans (hf16045 37 (by decide)); have h8 : v16364 38 = (v16043 38) := hf16366 38 (by decide); (try rw [h9]); (try rw [h8]); exact hd (by omega))) (cwV 0 hwd (gV wk_1010 wk_1007 wk_1008 wk_1009 wk_5) rfl rfl rfl (by decide +kernel) ⟨Nat.le_of_ble_eq_true rfl, Nat.le_of_ble_eq_true rfl⟩) ⟨PM.blind, va_recv hK hP (ci := 12) (q0 := 0) rfl rfl, fun U hU hW => ⟨rfl, PM.at hK hE hP hS hU hW⟩⟩ rfl rfl hl.1 rfl (lv_room (Nat.le_of_ble_eq_true rfl)) dX12_either_80 ⟨Nat.le_of_ble_eq_true rfl, Nat.le_of_ble_eq_true rfl⟩) hS (fun q _ h => (freeM hS) q h) (freeM hS) (fun u t H1 locs ht hvm hw hB hz1 hk1 hS => ?_)
                unfold BM at hB
                rw [ht] at hB
                obtain ⟨v16378, F16379, rc9⟩ := u
                obtain ⟨hI, hrc, hf16380, hG16381, hw⟩ := hw
                dsimp only at hI hrc hB hf16380 hG16381 hw
                have hF := frCF (by decide) hG16381 hF
                rw [hrc] at hB
                have hP : va_P (dC, dI) classes (wM g c v16378 F16379 rc) H1 := hB
                have hw : ((v16364 39).toInt ≤ (v16378 39).toInt ∧ (v16378 39).toInt ≤ (v16364 30).toInt ∧ (v16364 38).toInt ≤ (v16378 38).toInt ∧ (v16378 38).toInt - (v16364 38).toInt ≤ (v16378 39).toInt - (v16364 39).toInt ∧ (v16364 41).toInt ≤ (v16378 41).toInt ∧ ((v16378 40).toInt < 0 → (v16378 41).toInt = (v16364 41).toInt)) ∧ keepL (v16364 37) (F16365 28) (F16365 29) (F16379 28) (F16379 29) ∧ ((v16378 40).toInt < 0 → dp (F16379 28) (F16379 29) (bI (v16364 37)) (v16378 38).toInt.toNat = some ((d + 1) + 1)) := hw
                rw [show v16364 30 = v 30 from (hf16366 30 (by decide)).trans (hf16045 30 (by decide))] at hw
                rw [show v16364 38 = v16043 38 from hf16366 38 (by decide)] at hw
                rw [show v16364 37 = v 37 from (hf16366 37 (by decide)).trans (hf16045 37 (by decide))] at hw
                have hw_r16377 := hw
                have t16382 : 0 ≤ (v16378 38).toInt ∧ (v16378 38).toInt ≤ 120 := hI.1 38 _ _ rfl
                have t16383 : 0 ≤ (v16378 39).toInt ∧ (v16378 39).toInt ≤ 120 := hI.1 39 _ _ rfl
                have t16384 : 0 ≤ (v16378 41).toInt ∧ (v16378 41).toInt ≤ 8 := hI.1 41 _ _ rfl
                generalize H1 = H at hP hS ⊢
                have hk := hk.tr hw_r16377.2.1
                have hd := hw_r16377.2.2
                refine lv_aload_n hx hb dX12_either_83 rfl (lv_at hl 1 rfl) ?_
                refine va_get (D := (dC, dI)) (ci := 12) (v := .int (v16378 40)) (C := RX12) (T := TX12) (N := 63) hx hb hwd inA_X12 hown hK hP 0 rfl rfl 40 (by decide) (hwd _ wk_1005) (fun _ h9 => h9) rfl dX12_either_84 ?_
                refine lv_if_lt (tgt := 91) hx hb dX12_either_87 (by decide) (fun c16385 => ?_) (fun c16385 => ?_)
                · skip
                  have t16386 := cv_lt (a := (v16378 40).toInt) rfl (b := 0) (by decide) c16385
                  refine lv_aload_n hx hb dX12_either_91 rfl (lv_at hl 1 rfl) ?_
                  have t16387 : 0 ≤ (v 30).toInt ∧ (v 30).toInt ≤ 120 := by have h9 := hI.1 30 _ _ rfl; rw [show v16378 30 = v 30 from (hf16380 30 (by decide)).trans ((hf16366 30 (by decide)).trans (hf16045 30 (by decide)))] at h9; exact h9
                  have t16388 : 0 ≤ (v16378 39).toInt ∧ (v16378 39).toInt ≤ 120 := hI.1 39 _ _ rfl
                  refine va_calli (va_runV (As := []) (rest := []) ⟨hx, hb, hml, hown, hwd⟩ (c_X12_look l dC dI g c adK adV v16378 F16379 rc H.size  hg hI ) (cwV 0 hwd (gV wk_1017 wk_1014 wk_1015 wk_1016 wk_5) rfl rfl rfl (by decide +kernel) ⟨Nat.le_of_ble_eq_true rfl, Nat.le_of_ble_eq_true rfl⟩) ⟨PM.blind, va_recv hK hP (ci := 12) (q0 := 0) rfl rfl, fun U hU hW => ⟨rfl, PM.at hK hE hP hS hU hW⟩⟩ rfl rfl hl.1 rfl (lv_room (Nat.le_of_ble_eq_true rfl)) dX12_either_92 ⟨Nat.le_of_ble_eq_true rfl, Nat.le_of_ble_eq_true rfl⟩) hS (fun q _ h => (freeM hS) q h) (freeM hS) (fun r16389 u t H1 locs ht hvm hw hB hz1 hk1 hS => ?_)
                  unfold BM at hB
                  rw [ht] at hB
                  have hP : va_P (dC, dI) classes (wM g c v16378 F16379 rc) H1 := hB
                  have hw : r16389.toInt = lkM (v16378 39) (v16378 30) (F16379 24) ∧ ((v16378 39).toInt < (v16378 30).toInt ∨ r16389.toInt = -1) := hw
                  rw [show v16378 30 = v 30 from (hf16380 30 (by decide)).trans ((hf16366 30 (by decide)).trans (hf16045 30 (by decide)))] at hw
                  rw [hF 24 (by decide)] at hw
                  have hw_r16389 := hw
                  generalize H1 = H at hP hS ⊢
                  refine lv_bipush (v := 58) hx hb dX12_either_95 (by decide) ?_
                  refine lv_icmp_eq (tgt := 105) hx hb dX12_either_97 (by decide) (fun c16390 => ?_) (fun c16390 => ?_)
                  · skip
                    have t16391 := cv_eq (a := r16389.toInt) rfl (b := 58) (by decide) c16390
                    refine lv_aload_n hx hb dX12_either_105 rfl (lv_at hl 1 rfl) ?_
                    refine lv_dup hx hb dX12_either_106 rfl ?_
                    refine va_get (D := (dC, dI)) (ci := 12) (v := .int (v16378 39)) (C := RX12) (T := TX12) (N := 63) hx hb hwd inA_X12 hown hK hP 0 rfl rfl 39 (by decide) (hwd _ wk_1004) (fun _ h9 => h9) rfl dX12_either_107 ?_
                    have t16392 : 0 ≤ (v16378 39).toInt ∧ (v16378 39).toInt ≤ 120 := hI.1 39 _ _ rfl
                    refine lv_iconst (v := 1) hx hb dX12_either_110 (by decide) ?_
                    refine lv_iadd hx hb dX12_either_111 ?_
                    refine lv_topi (fun z16393 e16394 => ?_)
                    try (have t16395 := tadd e16394 (a := (v16378 39).toInt) rfl (b := 1) (by decide) (by omega))
                    refine va_put (D := (dC, dI)) (ci := 12) (v := .int z16393) (ty := .int) (C := RX12) (T := TX12) (N := 63) (fs := fsM_0 g v16378 rc) hx hb hwd inA_X12 tyX12 tyX12_ok nmX12 hown hK hP (DM hg) hS 0 rfl rfl 39 (by decide) (hwd _ wk_1004) (fun _ h9 => h9) rfl (by decide +kernel) rfl rfl (Nat.le_of_ble_eq_true rfl) dX12_either_112 (fun H locs hP _ hS => ?_)
                    have hP := va_P_eq (pM_39 g c _ _ _ _) hP
                    have hI := IM.put hI 39 z16393 rfl (by omega)
                    refine lv_aload_n hx hb dX12_either_115 rfl (lv_at hl 1 rfl) ?_
                    have t16396 : 0 ≤ (v 30).toInt ∧ (v 30).toInt ≤ 120 := by have h9 := hI.1 30 _ _ rfl; rw [show (va_up v16378 39 z16393) 30 = v 30 from (hf16380 30 (by decide)).trans ((hf16366 30 (by decide)).trans (hf16045 30 (by decide)))] at h9; exact h9
                    have t16397 : 0 ≤ (v 37).toInt ∧ (v 37).toInt ≤ 9 := by have h9 := hI.1 37 _ _ rfl; rw [show (va_up v16378 39 z16393) 37 = v 37 from (hf16380 37 (by decide)).trans ((hf16366 37 (by decide)).trans (hf16045 37 (by decide)))] at h9; exact h9
                    have t16398 : 0 ≤ (v16378 38).toInt ∧ (v16378 38).toInt ≤ 120 := hI.1 38 _ _ rfl
                    have t16399 : 0 ≤ z16393.toInt ∧ z16393.toInt ≤ 120 := hI.1 39 _ _ rfl
                    have t16400 : 0 ≤ (v16378 41).toInt ∧ (v16378 41).toInt ≤ 8 := hI.1 41 _ _ rfl
                    refine va_callv (va_runV (As := []) (rest := []) ⟨hx, hb, hml, hown, hwd⟩ (c_X12_either_6 l dC dI g c adK adV (va_up v16378 39 z16393) F16379 rc H.size  ((d + 1) + 1) hg hI (by have h9 : (va_up v16378 39 z16393) 38 = v16378 38 := rfl; (try rw [h9]); clear h9; have h9 : (va_up v16378 39 z16393) 39 = z16393 := rfl; (try rw [h9]); clear h9; have h9 : (va_up v16378 39 z16393) 30 = v 30 := (hf16380 30 (by decide)).trans ((hf16366 30 (by decide)).trans (hf16045 30 (by decide))); (try rw [h9]); clear h9; have h9 : (va_up v16378 39 z16393) 40 = v16378 40 := rfl; (try rw [h9]); clear h9; have h9 : (va_up v16378 39 z16393) 41 = v16378 41 := rfl; (try rw [h9]); clear h9; omega) (by have h9 : (va_up v16378 39 z16393) 37 = (v 37) := (hf16380 37 (by decide)).trans ((hf16366 37 (by decide)).trans (hf16045 37 (by decide))); have h8 : (va_up v16378 39 z16393) 38 = (v16378 38) := rfl; (try rw [h9]); (try rw [h8]); exact hd (by omega))) (cwV 0 hwd (gV wk_1010 wk_1007 wk_1008 wk_1009 wk_5) rfl rfl rfl (by decide +kernel) ⟨Nat.le_of_ble_eq_true rfl, Nat.le_of_ble_eq_true rfl⟩) ⟨PM.blind, va_recv hK hP (ci := 12) (q0 := 0) rfl rfl, fun U hU hW => ⟨rfl, PM.at hK hE hP hS hU hW⟩⟩ rfl rfl hl.1 rfl (lv_room (Nat.le_of_ble_eq_true rfl)) dX12_either_116 ⟨Nat.le_of_ble_eq_true rfl, Nat.le_of_ble_eq_true rfl⟩) hS (fun q _ h => (freeM hS) q h) (freeM hS) (fun u t H1 locs ht hvm hw hB hz1 hk1 hS => ?_)
                    unfold BM at hB
                    rw [ht] at hB
                    obtain ⟨v16402, F16403, rc9⟩ := u
                    obtain ⟨hI, hrc, hf16404, hG16405, hw⟩ := hw
                    dsimp only at hI hrc hB hf16404 hG16405 hw
                    have hF := frCF (by decide) hG16405 hF
                    rw [hrc] at hB
                    have hP : va_P (dC, dI) classes (wM g c v16402 F16403 rc) H1 := hB
                    have hw : (z16393.toInt ≤ (v16402 39).toInt ∧ (v16402 39).toInt ≤ ((va_up v16378 39 z16393) 30).toInt ∧ (v16378 38).toInt ≤ (v16402 38).toInt ∧ (v16402 38).toInt - (v16378 38).toInt ≤ (v16402 39).toInt - z16393.toInt ∧ (v16378 41).toInt ≤ (v16402 41).toInt ∧ ((v16402 40).toInt < 0 → (v16402 41).toInt = (v16378 41).toInt)) ∧ keepL ((va_up v16378 39 z16393) 37) (F16379 28) (F16379 29) (F16403 28) (F16403 29) ∧ ((v16402 40).toInt < 0 → dp (F16403 28) (F16403 29) (bI ((va_up v16378 39 z16393) 37)) (v16402 38).toInt.toNat = some (((d + 1) + 1) + 1)) := hw
                    rw [show (va_up v16378 39 z16393) 30 = v 30 from (hf16380 30 (by decide)).trans ((hf16366 30 (by decide)).trans (hf16045 30 (by decide)))] at hw
                    rw [show (va_up v16378 39 z16393) 37 = v 37 from (hf16380 37 (by decide)).trans ((hf16366 37 (by decide)).trans (hf16045 37 (by decide)))] at hw
                    have hw_r16401 := hw
                    have t16406 : 0 ≤ (v16402 38).toInt ∧ (v16402 38).toInt ≤ 120 := hI.1 38 _ _ rfl
                    have t16407 : 0 ≤ (v16402 39).toInt ∧ (v16402 39).toInt ≤ 120 := hI.1 39 _ _ rfl
                    have t16408 : 0 ≤ (v16402 41).toInt ∧ (v16402 41).toInt ≤ 8 := hI.1 41 _ _ rfl
                    generalize H1 = H at hP hS ⊢
                    have hk := hk.tr hw_r16401.2.1
                    have hd := hw_r16401.2.2
                    refine lv_aload_n hx hb dX12_either_119 rfl (lv_at hl 1 rfl) ?_
                    refine lv_iconst (v := 4) hx hb dX12_either_120 (by decide) ?_
                    refine lv_iconst (v := 0) hx hb dX12_either_121 (by decide) ?_
                    have t16409 : 0 ≤ (v 37).toInt ∧ (v 37).toInt ≤ 9 := by have h9 := hI.1 37 _ _ rfl; rw [show v16402 37 = v 37 from (hf16404 37 (by decide)).trans ((hf16380 37 (by decide)).trans ((hf16366 37 (by decide)).trans (hf16045 37 (by decide))))] at h9; exact h9
                    have t16410 : 0 ≤ (v16402 38).toInt ∧ (v16402 38).toInt ≤ 120 := hI.1 38 _ _ rfl
                    refine va_callv (va_runV (As := [.int 4, .int 0]) (rest := []) ⟨hx, hb, hml, hown, hwd⟩ (c_X12_lay l dC dI g c adK adV v16402 F16403 rc H.size 4 0 hg hI (by have h9 : v16402 38 = v16402 38 := rfl; rw [h9]; omega)) (cwV 2 hwd (gV wk_1021 wk_1018 wk_1019 wk_1020 wk_5) rfl rfl rfl (by decide +kernel) ⟨Nat.le_of_ble_eq_true rfl, Nat.le_of_ble_eq_true rfl⟩) ⟨PM.blind, va_recv hK hP (ci := 12) (q0 := 0) rfl rfl, fun U hU hW => ⟨rfl, PM.at hK hE hP hS hU hW⟩⟩ rfl rfl hl.1 rfl (lv_room (Nat.le_of_ble_eq_true rfl)) dX12_either_122 ⟨Nat.le_of_ble_eq_true rfl, Nat.le_of_ble_eq_true rfl⟩) hS (fun q _ h => (freeM hS) q h) (freeM hS) (fun u t H1 locs ht hvm hw hB hz1 hk1 hS => ?_)
                    unfold BM at hB
                    rw [ht] at hB
                    obtain ⟨v16412, F16413, rc9⟩ := u
                    obtain ⟨hI, hrc, hf16414, hG16415, hw⟩ := hw
                    dsimp only at hI hrc hB hf16414 hG16415 hw
                    have hF := frCF (by decide) hG16415 hF
                    rw [hrc] at hB
                    have hP : va_P (dC, dI) classes (wM g c v16412 F16413 rc) H1 := hB
                    have hw : (v16412 38).toInt = (v16402 38).toInt + 1 ∧ keepL (v16402 37) (F16403 28) (F16403 29) (F16413 28) (F16413 29) ∧ dp (F16413 28) (F16413 29) (bI (v16402 37)) ((v16402 38).toInt.toNat + 1) = dpS (dp (F16403 28) (F16403 29) (bI (v16402 37)) (v16402 38).toInt.toNat) (4 : Int32) (0 : Int32) := hw
                    rw [show v16402 37 = v 37 from (hf16404 37 (by decide)).trans ((hf16380 37 (by decide)).trans ((hf16366 37 (by decide)).trans (hf16045 37 (by decide))))] at hw
                    have hw_r16411 := hw
                    have t16416 : 0 ≤ (v16412 38).toInt ∧ (v16412 38).toInt ≤ 120 := hI.1 38 _ _ rfl
                    have k16417 : (4 : Int32).toInt = 4 := by decide
                    have k16418 : (0 : Int32).toInt = 0 := by decide
                    generalize H1 = H at hP hS ⊢
                    have hk := hk.tr hw_r16411.2.1
                    have hd : (v16402 40).toInt < 0 → dp (F16413 28) (F16413 29) (bI (v 37)) (v16412 38).toInt.toNat = some ((((d + 1) + 1) + 1) - 2) := fun hf => (by have e9 : (v16412 38).toInt.toNat = (v16402 38).toInt.toNat + 1 := (by omega); rw [e9, hw_r16411.2.2, hd hf]; exact dpS_4 (by decide) (by omega))
                    refine lv_aload_n hx hb dX12_either_125 rfl (lv_at hl 1 rfl) ?_
                    refine lv_dup hx hb dX12_either_126 rfl ?_
                    refine va_get (D := (dC, dI)) (ci := 12) (v := .int (v16412 41)) (C := RX12) (T := TX12) (N := 63) hx hb hwd inA_X12 hown hK hP 0 rfl rfl 41 (by decide) (hwd _ wk_1006) (fun _ h9 => h9) rfl dX12_either_127 ?_
                    refine my_top (v := v16402 41) (hf16414 41 (by decide)) ?_
                    have t16419 : 0 ≤ (v16402 41).toInt ∧ (v16402 41).toInt ≤ 8 := by have h9 := hI.1 41 _ _ rfl; rw [show v16412 41 = v16402 41 from hf16414 41 (by decide)] at h9; exact h9
                    refine lv_iconst (v := 1) hx hb dX12_either_130 (by decide) ?_
                    refine lv_isub hx hb dX12_either_131 ?_
                    refine lv_topi (fun z16420 e16421 => ?_)
                    try (have t16422 := tsub e16421 (a := (v16402 41).toInt) rfl (b := 1) (by decide) (by omega))
                    refine va_put (D := (dC, dI)) (ci := 12) (v := .int z16420) (ty := .int) (C := RX12) (T := TX12) (N := 63) (fs := fsM_0 g v16412 rc) hx hb hwd inA_X12 tyX12 tyX12_ok nmX12 hown hK hP (DM hg) hS 0 rfl rfl 41 (by decide) (hwd _ wk_1006) (fun _ h9 => h9) rfl (by decide +kernel) rfl rfl (Nat.le_of_ble_eq_true rfl) dX12_either_132 (fun H locs hP _ hS => ?_)
                    have hP := va_P_eq (pM_41 g c _ _ _ _) hP
                    have hI := IM.put hI 41 z16420 rfl (by omega)
                    have hP9 : va_P (dC, dI) classes (wM g c (va_up v16412 41 z16420) F16413 rc) H := hP
                    exact W.vret hx hb hr (fun t ht hW => ⟨⟨((va_up v16412 41 z16420), F16413, rc), rfl, ⟨hI, rfl, (frU (by decide) (frC (by decide) hf16414 (frC (by decide) hf16404 (frU (by decide) (frC (by decide) hf16380 (frC (by decide) hf16366 (frC (by decide) hf16045 (fun _ _ => rfl)))))))), hF, (by show ((v 39).toInt ≤ ((va_up v16412 41 z16420) 39).toInt ∧ ((va_up v16412 41 z16420) 39).toInt ≤ (v 30).toInt ∧ (v 38).toInt ≤ (v16412 38).toInt ∧ (v16412 38).toInt - (v 38).toInt ≤ ((va_up v16412 41 z16420) 39).toInt - (v 39).toInt ∧ (v 41).toInt ≤ z16420.toInt ∧ (((va_up v16412 41 z16420) 40).toInt < 0 → z16420.toInt = (v 41).toInt)) ∧ keepL (v 37) (F 28) (F 29) (F16413 28) (F16413 29) ∧ (((va_up v16412 41 z16420) 40).toInt < 0 → dp (F16413 28) (F16413 29) (bI (v 37)) (v16412 38).toInt.toNat = some (d + 1)); rw [show (va_up v16412 41 z16420) 39 = v16402 39 from hf16414 39 (by decide)]; rw [show (va_up v16412 41 z16420) 40 = v16402 40 from hf16414 40 (by decide)]; exact ⟨by omega, hk, fun hf => (hd (by omega)).trans (congrArg some (by omega))⟩)⟩, (by show va_P _ _ _ t.heap; rw [ht]; exact hP9)⟩, hS.F ht⟩) hS.2.2 dX12_either_135
                  · skip
                    have t16423 := cv_ne (a := r16389.toInt) rfl (b := 58) (by decide) c16390
                    refine lv_aload_n hx hb dX12_either_100 rfl (lv_at hl 1 rfl) ?_
                    refine va_callv (va_runV (As := []) (rest := []) ⟨hx, hb, hml, hown, hwd⟩ (c_X12_wrong l dC dI g c adK adV v16378 F16379 rc H.size  hg hI ) (cwV 0 hwd (gV wk_1029 wk_1026 wk_1027 wk_1028 wk_5) rfl rfl rfl (by decide +kernel) ⟨Nat.le_of_ble_eq_true rfl, Nat.le_of_ble_eq_true rfl⟩) ⟨PM.blind, va_recv hK hP (ci := 12) (q0 := 0) rfl rfl, fun U hU hW => ⟨rfl, PM.at hK hE hP hS hU hW⟩⟩ rfl rfl hl.1 rfl (lv_room (Nat.le_of_ble_eq_true rfl)) dX12_either_101 ⟨Nat.le_of_ble_eq_true rfl, Nat.le_of_ble_eq_true rfl⟩) hS (fun q _ h => (freeM hS) q h) (freeM hS) (fun u t H1 locs ht hvm hw hB hz1 hk1 hS => ?_)
                    unfold BM at hB
                    rw [ht] at hB
                    obtain ⟨v16425, F16426, rc9⟩ := u
                    obtain ⟨hI, hrc, hf16427, hG16428, hw⟩ := hw
                    dsimp only at hI hrc hB hf16427 hG16428 hw
                    have hF := frCF (by decide) hG16428 hF
                    rw [hrc] at hB
                    have hP : va_P (dC, dI) classes (wM g c v16425 F16426 rc) H1 := hB
                    have hw : 0 ≤ (v16425 40).toInt := hw
                    have hw_r16424 := hw
                    generalize H1 = H at hP hS ⊢
                    have hk : keepL (v 37) (F 28) (F 29) (F16426 28) (F16426 29) := by rw [hG16428 28 (by decide), hG16428 29 (by decide)]; exact hk
                    have hd : (v16425 40).toInt < 0 → dp (F16426 28) (F16426 29) (bI (v 37)) (v16378 38).toInt.toNat = some ((d + 1) + 1) := fun hf => (by rw [hG16428 28 (by decide), hG16428 29 (by decide)]; exact hd (by omega))
                    have hP9 : va_P (dC, dI) classes (wM g c v16425 F16426 rc) H := hP
                    exact W.vret hx hb hr (fun t ht hW => ⟨⟨(v16425, F16426, rc), rfl, ⟨hI, rfl, (frC (by decide) hf16427 (frC (by decide) hf16380 (frC (by decide) hf16366 (frC (by decide) hf16045 (fun _ _ => rfl))))), hF, (by show ((v 39).toInt ≤ (v16425 39).toInt ∧ (v16425 39).toInt ≤ (v 30).toInt ∧ (v 38).toInt ≤ (v16425 38).toInt ∧ (v16425 38).toInt - (v 38).toInt ≤ (v16425 39).toInt - (v 39).toInt ∧ (v 41).toInt ≤ (v16425 41).toInt ∧ ((v16425 40).toInt < 0 → (v16425 41).toInt = (v 41).toInt)) ∧ keepL (v 37) (F 28) (F 29) (F16426 28) (F16426 29) ∧ ((v16425 40).toInt < 0 → dp (F16426 28) (F16426 29) (bI (v 37)) (v16425 38).toInt.toNat = some (d + 1)); rw [show v16425 39 = v16378 39 from hf16427 39 (by decide)]; rw [show v16425 38 = v16378 38 from hf16427 38 (by decide)]; rw [show v16425 41 = v16378 41 from hf16427 41 (by decide)]; exact ⟨by omega, hk, fun hf => (hd (by omega)).trans (congrArg some (by omega))⟩)⟩, (by show va_P _ _ _ t.heap; rw [ht]; exact hP9)⟩, hS.F ht⟩) hS.2.2 dX12_either_104
                · skip
                  have t16429 := cv_nlt (a := (v16378 40).toInt) rfl (b := 0) (by decide) c16385
                  have hP9 : va_P (dC, dI) classes (wM g c v16378 F16379 rc) H := hP
                  exact W.vret hx hb hr (fun t ht hW => ⟨⟨(v16378, F16379, rc), rfl, ⟨hI, rfl, (frC (by decide) hf16380 (frC (by decide) hf16366 (frC (by decide) hf16045 (fun _ _ => rfl)))), hF, (by show ((v 39).toInt ≤ (v16378 39).toInt ∧ (v16378 39).toInt ≤ (v 30).toInt ∧ (v 38).toInt ≤ (v16378 38).toInt ∧ (v16378 38).toInt - (v 38).toInt ≤ (v16378 39).toInt - (v 39).toInt ∧ (v 41).toInt ≤ (v16378 41).toInt ∧ ((v16378 40).toInt < 0 → (v16378 41).toInt = (v 41).toInt)) ∧ keepL (v 37) (F 28) (F 29) (F16379 28) (F16379 29) ∧ ((v16378 40).toInt < 0 → dp (F16379 28) (F16379 29) (bI (v 37)) (v16378 38).toInt.toNat = some (d + 1)); exact ⟨by omega, hk, fun hf => (hd (by omega)).trans (congrArg some (by omega))⟩)⟩, (by show va_P _ _ _ t.heap; rw [ht]; exact hP9)⟩, hS.F ht⟩) hS.2.2 dX12_either_90
              · skip
                have t16430 := cv_eq (a := r16363.toInt) rfl (b := 0) (by decide) c16370
                have hP9 : va_P (dC, dI) classes (wM g c v16364 F16365 rc) H := hP
                exact W.vret hx hb hr (fun t ht hW => ⟨⟨(v16364, F16365, rc), rfl, ⟨hI, rfl, (frC (by decide) hf16366 (frC (by decide) hf16045 (fun _ _ => rfl))), hF, (by show ((v 39).toInt ≤ (v16364 39).toInt ∧ (v16364 39).toInt ≤ (v 30).toInt ∧ (v 38).toInt ≤ (v16364 38).toInt ∧ (v16364 38).toInt - (v 38).toInt ≤ (v16364 39).toInt - (v 39).toInt ∧ (v 41).toInt ≤ (v16364 41).toInt ∧ ((v16364 40).toInt < 0 → (v16364 41).toInt = (v 41).toInt)) ∧ keepL (v 37) (F 28) (F 29) (F16365 28) (F16365 29) ∧ ((v16364 40).toInt < 0 → dp (F16365 28) (F16365 29) (bI (v 37)) (v16364 38).toInt.toNat = some (d + 1)); rw [show v16364 38 = v16043 38 from hf16366 38 (by decide)]; exact ⟨by omega, hk, fun hf => (hd (by omega)).trans (congrArg some (by omega))⟩)⟩, (by show va_P _ _ _ t.heap; rw [ht]; exact hP9)⟩, hS.F ht⟩) hS.2.2 dX12_either_78
            · skip
              have t16431 := cv_ne (a := r16358.toInt) rfl (b := 63) (by decide) c16359
              have hP9 : va_P (dC, dI) classes (wM g c v16043 F16044 rc) H := hP
              exact W.vret hx hb hr (fun t ht hW => ⟨⟨(v16043, F16044, rc), rfl, ⟨hI, rfl, (frC (by decide) hf16045 (fun _ _ => rfl)), hF, (by show ((v 39).toInt ≤ (v16043 39).toInt ∧ (v16043 39).toInt ≤ (v 30).toInt ∧ (v 38).toInt ≤ (v16043 38).toInt ∧ (v16043 38).toInt - (v 38).toInt ≤ (v16043 39).toInt - (v 39).toInt ∧ (v 41).toInt ≤ (v16043 41).toInt ∧ ((v16043 40).toInt < 0 → (v16043 41).toInt = (v 41).toInt)) ∧ keepL (v 37) (F 28) (F 29) (F16044 28) (F16044 29) ∧ ((v16043 40).toInt < 0 → dp (F16044 28) (F16044 29) (bI (v 37)) (v16043 38).toInt.toNat = some (d + 1)); exact ⟨by omega, hk, fun hf => (hd (by omega)).trans (congrArg some (by omega))⟩)⟩, (by show va_P _ _ _ t.heap; rw [ht]; exact hP9)⟩, hS.F ht⟩) hS.2.2 dX12_either_70
        · skip
          have t16432 := cv_eq (a := r16052.toInt) rfl (b := 62) (by decide) c16351
          refine lv_aload_n hx hb dX12_either_34 rfl (lv_at hl 1 rfl) ?_
          refine lv_dup hx hb dX12_either_35 rfl ?_
          refine va_get (D := (dC, dI)) (ci := 12) (v := .int (v16043 39)) (C := RX12) (T := TX12) (N := 63) hx hb hwd inA_X12 hown hK hP 0 rfl rfl 39 (by decide) (hwd _ wk_1004) (fun _ h9 => h9) rfl dX12_either_36 ?_
          have t16433 : 0 ≤ (v16043 39).toInt ∧ (v16043 39).toInt ≤ 120 := hI.1 39 _ _ rfl
          refine lv_iconst (v := 1) hx hb dX12_either_39 (by decide) ?_
          refine lv_iadd hx hb dX12_either_40 ?_
          refine lv_topi (fun z16434 e16435 => ?_)
          try (have t16436 := tadd e16435 (a := (v16043 39).toInt) rfl (b := 1) (by decide) (by omega))
          refine va_put (D := (dC, dI)) (ci := 12) (v := .int z16434) (ty := .int) (C := RX12) (T := TX12) (N := 63) (fs := fsM_0 g v16043 rc) hx hb hwd inA_X12 tyX12 tyX12_ok nmX12 hown hK hP (DM hg) hS 0 rfl rfl 39 (by decide) (hwd _ wk_1004) (fun _ h9 => h9) rfl (by decide +kernel) rfl rfl (Nat.le_of_ble_eq_true rfl) dX12_either_41 (fun H locs hP _ hS => ?_)
          have hP := va_P_eq (pM_39 g c _ _ _ _) hP
          have hI := IM.put hI 39 z16434 rfl (by omega)
          refine lv_aload_n hx hb dX12_either_44 rfl (lv_at hl 1 rfl) ?_
          have t16437 : 0 ≤ (v 30).toInt ∧ (v 30).toInt ≤ 120 := by have h9 := hI.1 30 _ _ rfl; rw [show (va_up v16043 39 z16434) 30 = v 30 from hf16045 30 (by decide)] at h9; exact h9
          have t16438 : 0 ≤ (v 37).toInt ∧ (v 37).toInt ≤ 9 := by have h9 := hI.1 37 _ _ rfl; rw [show (va_up v16043 39 z16434) 37 = v 37 from hf16045 37 (by decide)] at h9; exact h9
          have t16439 : 0 ≤ (v16043 38).toInt ∧ (v16043 38).toInt ≤ 120 := hI.1 38 _ _ rfl
          have t16440 : 0 ≤ z16434.toInt ∧ z16434.toInt ≤ 120 := hI.1 39 _ _ rfl
          have t16441 : 0 ≤ (v16043 41).toInt ∧ (v16043 41).toInt ≤ 8 := hI.1 41 _ _ rfl
          refine va_callv (va_runV (As := []) (rest := []) ⟨hx, hb, hml, hown, hwd⟩ (c_X12_sum_5 l dC dI g c adK adV (va_up v16043 39 z16434) F16044 rc H.size  (d + 1) hg hI (by have h9 : (va_up v16043 39 z16434) 38 = v16043 38 := rfl; (try rw [h9]); clear h9; have h9 : (va_up v16043 39 z16434) 39 = z16434 := rfl; (try rw [h9]); clear h9; have h9 : (va_up v16043 39 z16434) 30 = v 30 := hf16045 30 (by decide); (try rw [h9]); clear h9; have h9 : (va_up v16043 39 z16434) 40 = v16043 40 := rfl; (try rw [h9]); clear h9; have h9 : (va_up v16043 39 z16434) 41 = v16043 41 := rfl; (try rw [h9]); clear h9; omega) (by have h9 : (va_up v16043 39 z16434) 37 = (v 37) := hf16045 37 (by decide); have h8 : (va_up v16043 39 z16434) 38 = (v16043 38) := rfl; (try rw [h9]); (try rw [h8]); exact hd (by omega))) (cwV 0 hwd (gV wk_1043 wk_1011 wk_1012 wk_1013 wk_5) rfl rfl rfl (by decide +kernel) ⟨Nat.le_of_ble_eq_true rfl, Nat.le_of_ble_eq_true rfl⟩) ⟨PM.blind, va_recv hK hP (ci := 12) (q0 := 0) rfl rfl, fun U hU hW => ⟨rfl, PM.at hK hE hP hS hU hW⟩⟩ rfl rfl hl.1 rfl (lv_room (Nat.le_of_ble_eq_true rfl)) dX12_either_45 ⟨Nat.le_of_ble_eq_true rfl, Nat.le_of_ble_eq_true rfl⟩) hS (fun q _ h => (freeM hS) q h) (freeM hS) (fun u t H1 locs ht hvm hw hB hz1 hk1 hS => ?_)
          unfold BM at hB
          rw [ht] at hB
          obtain ⟨v16443, F16444, rc9⟩ := u
          obtain ⟨hI, hrc, hf16445, hG16446, hw⟩ := hw
          dsimp only at hI hrc hB hf16445 hG16446 hw
          have hF := frCF (by decide) hG16446 hF
          rw [hrc] at hB
          have hP : va_P (dC, dI) classes (wM g c v16443 F16444 rc) H1 := hB
          have hw : (z16434.toInt ≤ (v16443 39).toInt ∧ (v16443 39).toInt ≤ ((va_up v16043 39 z16434) 30).toInt ∧ (v16043 38).toInt ≤ (v16443 38).toInt ∧ (v16443 38).toInt - (v16043 38).toInt ≤ (v16443 39).toInt - z16434.toInt ∧ (v16043 41).toInt ≤ (v16443 41).toInt ∧ ((v16443 40).toInt < 0 → (v16443 41).toInt = (v16043 41).toInt)) ∧ keepL ((va_up v16043 39 z16434) 37) (F16044 28) (F16044 29) (F16444 28) (F16444 29) ∧ ((v16443 40).toInt < 0 → dp (F16444 28) (F16444 29) (bI ((va_up v16043 39 z16434) 37)) (v16443 38).toInt.toNat = some ((d + 1) + 1)) := hw
          rw [show (va_up v16043 39 z16434) 30 = v 30 from hf16045 30 (by decide)] at hw
          rw [show (va_up v16043 39 z16434) 37 = v 37 from hf16045 37 (by decide)] at hw
          have hw_r16442 := hw
          have t16447 : 0 ≤ (v16443 38).toInt ∧ (v16443 38).toInt ≤ 120 := hI.1 38 _ _ rfl
          have t16448 : 0 ≤ (v16443 39).toInt ∧ (v16443 39).toInt ≤ 120 := hI.1 39 _ _ rfl
          have t16449 : 0 ≤ (v16443 41).toInt ∧ (v16443 41).toInt ≤ 8 := hI.1 41 _ _ rfl
          generalize H1 = H at hP hS ⊢
          have hk := hk.tr hw_r16442.2.1
          have hd := hw_r16442.2.2
          refine lv_aload_n hx hb dX12_either_48 rfl (lv_at hl 1 rfl) ?_
          refine lv_iload_n hx hb dX12_either_49 rfl (lv_at hl 0 rfl) ?_
          refine lv_iconst (v := 0) hx hb dX12_either_50 (by decide) ?_
          have t16450 : 0 ≤ (v 37).toInt ∧ (v 37).toInt ≤ 9 := by have h9 := hI.1 37 _ _ rfl; rw [show v16443 37 = v 37 from (hf16445 37 (by decide)).trans (hf16045 37 (by decide))] at h9; exact h9
          have t16451 : 0 ≤ (v16443 38).toInt ∧ (v16443 38).toInt ≤ 120 := hI.1 38 _ _ rfl
          refine va_callv (va_runV (As := [.int r16052, .int 0]) (rest := []) ⟨hx, hb, hml, hown, hwd⟩ (c_X12_lay l dC dI g c adK adV v16443 F16444 rc H.size r16052 0 hg hI (by have h9 : v16443 38 = v16443 38 := rfl; rw [h9]; omega)) (cwV 2 hwd (gV wk_1021 wk_1018 wk_1019 wk_1020 wk_5) rfl rfl rfl (by decide +kernel) ⟨Nat.le_of_ble_eq_true rfl, Nat.le_of_ble_eq_true rfl⟩) ⟨PM.blind, va_recv hK hP (ci := 12) (q0 := 0) rfl rfl, fun U hU hW => ⟨rfl, PM.at hK hE hP hS hU hW⟩⟩ rfl rfl hl.1 rfl (lv_room (Nat.le_of_ble_eq_true rfl)) dX12_either_51 ⟨Nat.le_of_ble_eq_true rfl, Nat.le_of_ble_eq_true rfl⟩) hS (fun q _ h => (freeM hS) q h) (freeM hS) (fun u t H1 locs ht hvm hw hB hz1 hk1 hS => ?_)
          unfold BM at hB
          rw [ht] at hB
          obtain ⟨v16453, F16454, rc9⟩ := u
          obtain ⟨hI, hrc, hf16455, hG16456, hw⟩ := hw
          dsimp only at hI hrc hB hf16455 hG16456 hw
          have hF := frCF (by decide) hG16456 hF
          rw [hrc] at hB
          have hP : va_P (dC, dI) classes (wM g c v16453 F16454 rc) H1 := hB
          have hw : (v16453 38).toInt = (v16443 38).toInt + 1 ∧ keepL (v16443 37) (F16444 28) (F16444 29) (F16454 28) (F16454 29) ∧ dp (F16454 28) (F16454 29) (bI (v16443 37)) ((v16443 38).toInt.toNat + 1) = dpS (dp (F16444 28) (F16444 29) (bI (v16443 37)) (v16443 38).toInt.toNat) r16052 (0 : Int32) := hw
          rw [show v16443 37 = v 37 from (hf16445 37 (by decide)).trans (hf16045 37 (by decide))] at hw
          have hw_r16452 := hw
          have t16457 : 0 ≤ (v16453 38).toInt ∧ (v16453 38).toInt ≤ 120 := hI.1 38 _ _ rfl
          have k16458 : (0 : Int32).toInt = 0 := by decide
          generalize H1 = H at hP hS ⊢
          have hk := hk.tr hw_r16452.2.1
          have hd : (v16443 40).toInt < 0 → dp (F16454 28) (F16454 29) (bI (v 37)) (v16453 38).toInt.toNat = some (((d + 1) + 1) - 1) := fun hf => (by have e9 : (v16453 38).toInt.toNat = (v16443 38).toInt.toNat + 1 := (by omega); rw [e9, hw_r16452.2.2, hd hf]; exact dpS_5 (by omega) (by omega) (by omega) (by omega) (by omega))
          refine lv_aload_n hx hb dX12_either_54 rfl (lv_at hl 1 rfl) ?_
          refine va_get (D := (dC, dI)) (ci := 12) (v := .int (v16453 40)) (C := RX12) (T := TX12) (N := 63) hx hb hwd inA_X12 hown hK hP 0 rfl rfl 40 (by decide) (hwd _ wk_1005) (fun _ h9 => h9) rfl dX12_either_55 ?_
          refine my_top (v := v16443 40) (hf16455 40 (by decide)) ?_
          refine lv_if_ge (tgt := 70) hx hb dX12_either_58 (by decide) (fun c16459 => ?_) (fun c16459 => ?_)
          · skip
            have t16460 := cv_le (a := 0) (by decide) (b := (v16443 40).toInt) rfl c16459
            have hP9 : va_P (dC, dI) classes (wM g c v16453 F16454 rc) H := hP
            exact W.vret hx hb hr (fun t ht hW => ⟨⟨(v16453, F16454, rc), rfl, ⟨hI, rfl, (frC (by decide) hf16455 (frC (by decide) hf16445 (frU (by decide) (frC (by decide) hf16045 (fun _ _ => rfl))))), hF, (by show ((v 39).toInt ≤ (v16453 39).toInt ∧ (v16453 39).toInt ≤ (v 30).toInt ∧ (v 38).toInt ≤ (v16453 38).toInt ∧ (v16453 38).toInt - (v 38).toInt ≤ (v16453 39).toInt - (v 39).toInt ∧ (v 41).toInt ≤ (v16453 41).toInt ∧ ((v16453 40).toInt < 0 → (v16453 41).toInt = (v 41).toInt)) ∧ keepL (v 37) (F 28) (F 29) (F16454 28) (F16454 29) ∧ ((v16453 40).toInt < 0 → dp (F16454 28) (F16454 29) (bI (v 37)) (v16453 38).toInt.toNat = some (d + 1)); rw [show v16453 39 = v16443 39 from hf16455 39 (by decide)]; rw [show v16453 41 = v16443 41 from hf16455 41 (by decide)]; rw [show v16453 40 = v16443 40 from hf16455 40 (by decide)]; exact ⟨by omega, hk, fun hf => (hd (by omega)).trans (congrArg some (by omega))⟩)⟩, (by show va_P _ _ _ t.heap; rw [ht]; exact hP9)⟩, hS.F ht⟩) hS.2.2 dX12_either_70
          · skip
            have t16461 := cv_nle (a := 0) (by decide) (b := (v16443 40).toInt) rfl c16459
            refine lv_aload_n hx hb dX12_either_61 rfl (lv_at hl 1 rfl) ?_
            have t16462 : 0 ≤ (v 30).toInt ∧ (v 30).toInt ≤ 120 := by have h9 := hI.1 30 _ _ rfl; rw [show v16453 30 = v 30 from (hf16455 30 (by decide)).trans ((hf16445 30 (by decide)).trans (hf16045 30 (by decide)))] at h9; exact h9
            have t16463 : 0 ≤ (v16443 39).toInt ∧ (v16443 39).toInt ≤ 120 := by have h9 := hI.1 39 _ _ rfl; rw [show v16453 39 = v16443 39 from hf16455 39 (by decide)] at h9; exact h9
            refine va_calli (va_runV (As := []) (rest := []) ⟨hx, hb, hml, hown, hwd⟩ (c_X12_look l dC dI g c adK adV v16453 F16454 rc H.size  hg hI ) (cwV 0 hwd (gV wk_1017 wk_1014 wk_1015 wk_1016 wk_5) rfl rfl rfl (by decide +kernel) ⟨Nat.le_of_ble_eq_true rfl, Nat.le_of_ble_eq_true rfl⟩) ⟨PM.blind, va_recv hK hP (ci := 12) (q0 := 0) rfl rfl, fun U hU hW => ⟨rfl, PM.at hK hE hP hS hU hW⟩⟩ rfl rfl hl.1 rfl (lv_room (Nat.le_of_ble_eq_true rfl)) dX12_either_62 ⟨Nat.le_of_ble_eq_true rfl, Nat.le_of_ble_eq_true rfl⟩) hS (fun q _ h => (freeM hS) q h) (freeM hS) (fun r16464 u t H1 locs ht hvm hw hB hz1 hk1 hS => ?_)
            unfold BM at hB
            rw [ht] at hB
            have hP : va_P (dC, dI) classes (wM g c v16453 F16454 rc) H1 := hB
            have hw : r16464.toInt = lkM (v16453 39) (v16453 30) (F16454 24) ∧ ((v16453 39).toInt < (v16453 30).toInt ∨ r16464.toInt = -1) := hw
            rw [show v16453 39 = v16443 39 from hf16455 39 (by decide)] at hw
            rw [show v16453 30 = v 30 from (hf16455 30 (by decide)).trans ((hf16445 30 (by decide)).trans (hf16045 30 (by decide)))] at hw
            rw [hF 24 (by decide)] at hw
            have hw_r16464 := hw
            generalize H1 = H at hP hS ⊢
            refine lv_bipush (v := 63) hx hb dX12_either_65 (by decide) ?_
            refine lv_icmp_eq (tgt := 71) hx hb dX12_either_67 (by decide) (fun c16465 => ?_) (fun c16465 => ?_)
            · skip
              have t16466 := cv_eq (a := r16464.toInt) rfl (b := 63) (by decide) c16465
              refine lv_aload_n hx hb dX12_either_71 rfl (lv_at hl 1 rfl) ?_
              have t16467 : 0 ≤ (v16443 39).toInt ∧ (v16443 39).toInt ≤ 120 := by have h9 := hI.1 39 _ _ rfl; rw [show v16453 39 = v16443 39 from hf16455 39 (by decide)] at h9; exact h9
              have t16468 : 0 ≤ (v16443 41).toInt ∧ (v16443 41).toInt ≤ 8 := by have h9 := hI.1 41 _ _ rfl; rw [show v16453 41 = v16443 41 from hf16455 41 (by decide)] at h9; exact h9
              refine va_calli (va_runV (As := []) (rest := []) ⟨hx, hb, hml, hown, hwd⟩ (c_X12_opens l dC dI g c adK adV v16453 F16454 rc H.size  hg hI (by have h9 : v16453 39 = v16443 39 := hf16455 39 (by decide); (try rw [h9]); clear h9; have h9 : v16453 30 = v 30 := (hf16455 30 (by decide)).trans ((hf16445 30 (by decide)).trans (hf16045 30 (by decide))); (try rw [h9]); clear h9; omega)) (cwV 0 hwd (gV wk_1025 wk_1022 wk_1023 wk_1024 wk_5) rfl rfl rfl (by decide +kernel) ⟨Nat.le_of_ble_eq_true rfl, Nat.le_of_ble_eq_true rfl⟩) ⟨PM.blind, va_recv hK hP (ci := 12) (q0 := 0) rfl rfl, fun U hU hW => ⟨rfl, PM.at hK hE hP hS hU hW⟩⟩ rfl rfl hl.1 rfl (lv_room (Nat.le_of_ble_eq_true rfl)) dX12_either_72 ⟨Nat.le_of_ble_eq_true rfl, Nat.le_of_ble_eq_true rfl⟩) hS (fun q _ h => (freeM hS) q h) (freeM hS) (fun r16469 u t H1 locs ht hvm hw hB hz1 hk1 hS => ?_)
              unfold BM at hB
              rw [ht] at hB
              obtain ⟨v16470, F16471, rc9⟩ := u
              obtain ⟨hI, hrc, hf16472, hG16473, hw⟩ := hw
              dsimp only at hI hrc hB hf16472 hG16473 hw
              have hF := frCF (by decide) hG16473 hF
              rw [hrc] at hB
              have hP : va_P (dC, dI) classes (wM g c v16470 F16471 rc) H1 := hB
              have hw : (r16469.toInt = 1 ∧ (v16453 41).toInt < 8 ∧ (v16470 41).toInt = (v16453 41).toInt + 1 ∧ (v16470 39).toInt = (v16453 39).toInt + 1 ∧ (v16470 40).toInt = (v16453 40).toInt) ∨ (r16469.toInt = 0 ∧ (v16453 41).toInt = 8 ∧ 0 ≤ (v16470 40).toInt ∧ (v16470 41).toInt = (v16453 41).toInt ∧ (v16470 39).toInt = (v16453 39).toInt) := hw
              rw [show v16453 41 = v16443 41 from hf16455 41 (by decide)] at hw
              rw [show v16453 39 = v16443 39 from hf16455 39 (by decide)] at hw
              rw [show v16453 40 = v16443 40 from hf16455 40 (by decide)] at hw
              have hw_r16469 := hw
              have t16474 : 0 ≤ (v16470 39).toInt ∧ (v16470 39).toInt ≤ 120 := hI.1 39 _ _ rfl
              have t16475 : 0 ≤ (v16470 41).toInt ∧ (v16470 41).toInt ≤ 8 := hI.1 41 _ _ rfl
              generalize H1 = H at hP hS ⊢
              have hk : keepL (v 37) (F 28) (F 29) (F16471 28) (F16471 29) := by rw [hG16473 28 (by decide), hG16473 29 (by decide)]; exact hk
              have hd : (v16470 40).toInt < 0 → dp (F16471 28) (F16471 29) (bI (v 37)) (v16453 38).toInt.toNat = some (((d + 1) + 1) - 1) := fun hf => (by rw [hG16473 28 (by decide), hG16473 29 (by decide)]; exact hd (by omega))
              refine lv_if_ne (tgt := 79) hx hb dX12_either_75 (by decide) (fun c16476 => ?_) (fun c16476 => ?_)
              · skip
                have t16477 := cv_ne (a := r16469.toInt) rfl (b := 0) (by decide) c16476
                refine lv_aload_n hx hb dX12_either_79 rfl (lv_at hl 1 rfl) ?_
                have t16478 : 0 ≤ (v 30).toInt ∧ (v 30).toInt ≤ 120 := by have h9 := hI.1 30 _ _ rfl; rw [show v16470 30 = v 30 from (hf16472 30 (by decide)).trans ((hf16455 30 (by decide)).trans ((hf16445 30 (by decide)).trans (hf16045 30 (by decide))))] at h9; exact h9
                have t16479 : 0 ≤ (v 37).toInt ∧ (v 37).toInt ≤ 9 := by have h9 := hI.1 37 _ _ rfl; rw [show v16470 37 = v 37 from (hf16472 37 (by decide)).trans ((hf16455 37 (by decide)).trans ((hf16445 37 (by decide)).trans (hf16045 37 (by decide))))] at h9; exact h9
                have t16480 : 0 ≤ (v16453 38).toInt ∧ (v16453 38).toInt ≤ 120 := by have h9 := hI.1 38 _ _ rfl; rw [show v16470 38 = v16453 38 from hf16472 38 (by decide)] at h9; exact h9
                have t16481 : 0 ≤ (v16470 39).toInt ∧ (v16470 39).toInt ≤ 120 := hI.1 39 _ _ rfl
                have t16482 : 0 ≤ (v16470 41).toInt ∧ (v16470 41).toInt ≤ 8 := hI.1 41 _ _ rfl
                refine va_callv (va_runV (As := []) (rest := []) ⟨hx, hb, hml, hown, hwd⟩ (c_X12_either_6 l dC dI g c adK adV v16470 F16471 rc H.size  (((d + 1) + 1) - 1) hg hI (by have h9 : v16470 38 = v16453 38 := hf16472 38 (by decide); (try rw [h9]); clear h9; have h9 : v16470 39 = v16470 39 := rfl; (try rw [h9]); clear h9; have h9 : v16470 30 = v 30 := (hf16472 30 (by decide)).trans ((hf16455 30 (by decide)).trans ((hf16445 30 (by decide)).trans (hf16045 30 (by decide)))); (try rw [h9]); clear h9; have h9 : v16470 40 = v16470 40 := rfl; (try rw [h9]); clear h9; have h9 : v16470 41 = v16470 41 := rfl; (try rw [h9]); clear h9; omega) (by have h9 : v16470 37 = (v 37) := (hf16472 37 (by decide)).trans ((hf16455 37 (by decide)).trans ((hf16445 37 (by decide)).trans (hf16045 37 (by decide)))); have h8 : v16470 38 = (v16453 38) := hf16472 38 (by decide); (try rw [h9]); (try rw [h8]); exact hd (by omega))) (cwV 0 hwd (gV wk_1010 wk_1007 wk_1008 wk_1009 wk_5) rfl rfl rfl (by decide +kernel) ⟨Nat.le_of_ble_eq_true rfl, Nat.le_of_ble_eq_true rfl⟩) ⟨PM.blind, va_recv hK hP (ci := 12) (q0 := 0) rfl rfl, fun U hU hW => ⟨rfl, PM.at hK hE hP hS hU hW⟩⟩ rfl rfl hl.1 rfl (lv_room (Nat.le_of_ble_eq_true rfl)) dX12_either_80 ⟨Nat.le_of_ble_eq_true rfl, Nat.le_of_ble_eq_true rfl⟩) hS (fun q _ h => (freeM hS) q h) (freeM hS) (fun u t H1 locs ht hvm hw hB hz1 hk1 hS => ?_)
                unfold BM at hB
                rw [ht] at hB
                obtain ⟨v16484, F16485, rc9⟩ := u
                obtain ⟨hI, hrc, hf16486, hG16487, hw⟩ := hw
                dsimp only at hI hrc hB hf16486 hG16487 hw
                have hF := frCF (by decide) hG16487 hF
                rw [hrc] at hB
                have hP : va_P (dC, dI) classes (wM g c v16484 F16485 rc) H1 := hB
                have hw : ((v16470 39).toInt ≤ (v16484 39).toInt ∧ (v16484 39).toInt ≤ (v16470 30).toInt ∧ (v16470 38).toInt ≤ (v16484 38).toInt ∧ (v16484 38).toInt - (v16470 38).toInt ≤ (v16484 39).toInt - (v16470 39).toInt ∧ (v16470 41).toInt ≤ (v16484 41).toInt ∧ ((v16484 40).toInt < 0 → (v16484 41).toInt = (v16470 41).toInt)) ∧ keepL (v16470 37) (F16471 28) (F16471 29) (F16485 28) (F16485 29) ∧ ((v16484 40).toInt < 0 → dp (F16485 28) (F16485 29) (bI (v16470 37)) (v16484 38).toInt.toNat = some ((((d + 1) + 1) - 1) + 1)) := hw
                rw [show v16470 30 = v 30 from (hf16472 30 (by decide)).trans ((hf16455 30 (by decide)).trans ((hf16445 30 (by decide)).trans (hf16045 30 (by decide))))] at hw
                rw [show v16470 38 = v16453 38 from hf16472 38 (by decide)] at hw
                rw [show v16470 37 = v 37 from (hf16472 37 (by decide)).trans ((hf16455 37 (by decide)).trans ((hf16445 37 (by decide)).trans (hf16045 37 (by decide))))] at hw
                have hw_r16483 := hw
                have t16488 : 0 ≤ (v16484 38).toInt ∧ (v16484 38).toInt ≤ 120 := hI.1 38 _ _ rfl
                have t16489 : 0 ≤ (v16484 39).toInt ∧ (v16484 39).toInt ≤ 120 := hI.1 39 _ _ rfl
                have t16490 : 0 ≤ (v16484 41).toInt ∧ (v16484 41).toInt ≤ 8 := hI.1 41 _ _ rfl
                generalize H1 = H at hP hS ⊢
                have hk := hk.tr hw_r16483.2.1
                have hd := hw_r16483.2.2
                refine lv_aload_n hx hb dX12_either_83 rfl (lv_at hl 1 rfl) ?_
                refine va_get (D := (dC, dI)) (ci := 12) (v := .int (v16484 40)) (C := RX12) (T := TX12) (N := 63) hx hb hwd inA_X12 hown hK hP 0 rfl rfl 40 (by decide) (hwd _ wk_1005) (fun _ h9 => h9) rfl dX12_either_84 ?_
                refine lv_if_lt (tgt := 91) hx hb dX12_either_87 (by decide) (fun c16491 => ?_) (fun c16491 => ?_)
                · skip
                  have t16492 := cv_lt (a := (v16484 40).toInt) rfl (b := 0) (by decide) c16491
                  refine lv_aload_n hx hb dX12_either_91 rfl (lv_at hl 1 rfl) ?_
                  have t16493 : 0 ≤ (v 30).toInt ∧ (v 30).toInt ≤ 120 := by have h9 := hI.1 30 _ _ rfl; rw [show v16484 30 = v 30 from (hf16486 30 (by decide)).trans ((hf16472 30 (by decide)).trans ((hf16455 30 (by decide)).trans ((hf16445 30 (by decide)).trans (hf16045 30 (by decide)))))] at h9; exact h9
                  have t16494 : 0 ≤ (v16484 39).toInt ∧ (v16484 39).toInt ≤ 120 := hI.1 39 _ _ rfl
                  refine va_calli (va_runV (As := []) (rest := []) ⟨hx, hb, hml, hown, hwd⟩ (c_X12_look l dC dI g c adK adV v16484 F16485 rc H.size  hg hI ) (cwV 0 hwd (gV wk_1017 wk_1014 wk_1015 wk_1016 wk_5) rfl rfl rfl (by decide +kernel) ⟨Nat.le_of_ble_eq_true rfl, Nat.le_of_ble_eq_true rfl⟩) ⟨PM.blind, va_recv hK hP (ci := 12) (q0 := 0) rfl rfl, fun U hU hW => ⟨rfl, PM.at hK hE hP hS hU hW⟩⟩ rfl rfl hl.1 rfl (lv_room (Nat.le_of_ble_eq_true rfl)) dX12_either_92 ⟨Nat.le_of_ble_eq_true rfl, Nat.le_of_ble_eq_true rfl⟩) hS (fun q _ h => (freeM hS) q h) (freeM hS) (fun r16495 u t H1 locs ht hvm hw hB hz1 hk1 hS => ?_)
                  unfold BM at hB
                  rw [ht] at hB
                  have hP : va_P (dC, dI) classes (wM g c v16484 F16485 rc) H1 := hB
                  have hw : r16495.toInt = lkM (v16484 39) (v16484 30) (F16485 24) ∧ ((v16484 39).toInt < (v16484 30).toInt ∨ r16495.toInt = -1) := hw
                  rw [show v16484 30 = v 30 from (hf16486 30 (by decide)).trans ((hf16472 30 (by decide)).trans ((hf16455 30 (by decide)).trans ((hf16445 30 (by decide)).trans (hf16045 30 (by decide)))))] at hw
                  rw [hF 24 (by decide)] at hw
                  have hw_r16495 := hw
                  generalize H1 = H at hP hS ⊢
                  refine lv_bipush (v := 58) hx hb dX12_either_95 (by decide) ?_
                  refine lv_icmp_eq (tgt := 105) hx hb dX12_either_97 (by decide) (fun c16496 => ?_) (fun c16496 => ?_)
                  · skip
                    have t16497 := cv_eq (a := r16495.toInt) rfl (b := 58) (by decide) c16496
                    refine lv_aload_n hx hb dX12_either_105 rfl (lv_at hl 1 rfl) ?_
                    refine lv_dup hx hb dX12_either_106 rfl ?_
                    refine va_get (D := (dC, dI)) (ci := 12) (v := .int (v16484 39)) (C := RX12) (T := TX12) (N := 63) hx hb hwd inA_X12 hown hK hP 0 rfl rfl 39 (by decide) (hwd _ wk_1004) (fun _ h9 => h9) rfl dX12_either_107 ?_
                    have t16498 : 0 ≤ (v16484 39).toInt ∧ (v16484 39).toInt ≤ 120 := hI.1 39 _ _ rfl
                    refine lv_iconst (v := 1) hx hb dX12_either_110 (by decide) ?_
                    refine lv_iadd hx hb dX12_either_111 ?_
                    refine lv_topi (fun z16499 e16500 => ?_)
                    try (have t16501 := tadd e16500 (a := (v16484 39).toInt) rfl (b := 1) (by decide) (by omega))
                    refine va_put (D := (dC, dI)) (ci := 12) (v := .int z16499) (ty := .int) (C := RX12) (T := TX12) (N := 63) (fs := fsM_0 g v16484 rc) hx hb hwd inA_X12 tyX12 tyX12_ok nmX12 hown hK hP (DM hg) hS 0 rfl rfl 39 (by decide) (hwd _ wk_1004) (fun _ h9 => h9) rfl (by decide +kernel) rfl rfl (Nat.le_of_ble_eq_true rfl) dX12_either_112 (fun H locs hP _ hS => ?_)
                    have hP := va_P_eq (pM_39 g c _ _ _ _) hP
                    have hI := IM.put hI 39 z16499 rfl (by omega)
                    refine lv_aload_n hx hb dX12_either_115 rfl (lv_at hl 1 rfl) ?_
                    have t16502 : 0 ≤ (v 30).toInt ∧ (v 30).toInt ≤ 120 := by have h9 := hI.1 30 _ _ rfl; rw [show (va_up v16484 39 z16499) 30 = v 30 from (hf16486 30 (by decide)).trans ((hf16472 30 (by decide)).trans ((hf16455 30 (by decide)).trans ((hf16445 30 (by decide)).trans (hf16045 30 (by decide)))))] at h9; exact h9
                    have t16503 : 0 ≤ (v 37).toInt ∧ (v 37).toInt ≤ 9 := by have h9 := hI.1 37 _ _ rfl; rw [show (va_up v16484 39 z16499) 37 = v 37 from (hf16486 37 (by decide)).trans ((hf16472 37 (by decide)).trans ((hf16455 37 (by decide)).trans ((hf16445 37 (by decide)).trans (hf16045 37 (by decide)))))] at h9; exact h9
                    have t16504 : 0 ≤ (v16484 38).toInt ∧ (v16484 38).toInt ≤ 120 := hI.1 38 _ _ rfl
                    have t16505 : 0 ≤ z16499.toInt ∧ z16499.toInt ≤ 120 := hI.1 39 _ _ rfl
                    have t16506 : 0 ≤ (v16484 41).toInt ∧ (v16484 41).toInt ≤ 8 := hI.1 41 _ _ rfl
                    refine va_callv (va_runV (As := []) (rest := []) ⟨hx, hb, hml, hown, hwd⟩ (c_X12_either_6 l dC dI g c adK adV (va_up v16484 39 z16499) F16485 rc H.size  ((((d + 1) + 1) - 1) + 1) hg hI (by have h9 : (va_up v16484 39 z16499) 38 = v16484 38 := rfl; (try rw [h9]); clear h9; have h9 : (va_up v16484 39 z16499) 39 = z16499 := rfl; (try rw [h9]); clear h9; have h9 : (va_up v16484 39 z16499) 30 = v 30 := (hf16486 30 (by decide)).trans ((hf16472 30 (by decide)).trans ((hf16455 30 (by decide)).trans ((hf16445 30 (by decide)).trans (hf16045 30 (by decide))))); (try rw [h9]); clear h9; have h9 : (va_up v16484 39 z16499) 40 = v16484 40 := rfl; (try rw [h9]); clear h9; have h9 : (va_up v16484 39 z16499) 41 = v16484 41 := rfl; (try rw [h9]); clear h9; omega) (by have h9 : (va_up v16484 39 z16499) 37 = (v 37) := (hf16486 37 (by decide)).trans ((hf16472 37 (by decide)).trans ((hf16455 37 (by decide)).trans ((hf16445 37 (by decide)).trans (hf16045 37 (by decide))))); have h8 : (va_up v16484 39 z16499) 38 = (v16484 38) := rfl; (try rw [h9]); (try rw [h8]); exact hd (by omega))) (cwV 0 hwd (gV wk_1010 wk_1007 wk_1008 wk_1009 wk_5) rfl rfl rfl (by decide +kernel) ⟨Nat.le_of_ble_eq_true rfl, Nat.le_of_ble_eq_true rfl⟩) ⟨PM.blind, va_recv hK hP (ci := 12) (q0 := 0) rfl rfl, fun U hU hW => ⟨rfl, PM.at hK hE hP hS hU hW⟩⟩ rfl rfl hl.1 rfl (lv_room (Nat.le_of_ble_eq_true rfl)) dX12_either_116 ⟨Nat.le_of_ble_eq_true rfl, Nat.le_of_ble_eq_true rfl⟩) hS (fun q _ h => (freeM hS) q h) (freeM hS) (fun u t H1 locs ht hvm hw hB hz1 hk1 hS => ?_)
                    unfold BM at hB
                    rw [ht] at hB
                    obtain ⟨v16508, F16509, rc9⟩ := u
                    obtain ⟨hI, hrc, hf16510, hG16511, hw⟩ := hw
                    dsimp only at hI hrc hB hf16510 hG16511 hw
                    have hF := frCF (by decide) hG16511 hF
                    rw [hrc] at hB
                    have hP : va_P (dC, dI) classes (wM g c v16508 F16509 rc) H1 := hB
                    have hw : (z16499.toInt ≤ (v16508 39).toInt ∧ (v16508 39).toInt ≤ ((va_up v16484 39 z16499) 30).toInt ∧ (v16484 38).toInt ≤ (v16508 38).toInt ∧ (v16508 38).toInt - (v16484 38).toInt ≤ (v16508 39).toInt - z16499.toInt ∧ (v16484 41).toInt ≤ (v16508 41).toInt ∧ ((v16508 40).toInt < 0 → (v16508 41).toInt = (v16484 41).toInt)) ∧ keepL ((va_up v16484 39 z16499) 37) (F16485 28) (F16485 29) (F16509 28) (F16509 29) ∧ ((v16508 40).toInt < 0 → dp (F16509 28) (F16509 29) (bI ((va_up v16484 39 z16499) 37)) (v16508 38).toInt.toNat = some (((((d + 1) + 1) - 1) + 1) + 1)) := hw
                    rw [show (va_up v16484 39 z16499) 30 = v 30 from (hf16486 30 (by decide)).trans ((hf16472 30 (by decide)).trans ((hf16455 30 (by decide)).trans ((hf16445 30 (by decide)).trans (hf16045 30 (by decide)))))] at hw
                    rw [show (va_up v16484 39 z16499) 37 = v 37 from (hf16486 37 (by decide)).trans ((hf16472 37 (by decide)).trans ((hf16455 37 (by decide)).trans ((hf16445 37 (by decide)).trans (hf16045 37 (by decide)))))] at hw
                    have hw_r16507 := hw
                    have t16512 : 0 ≤ (v16508 38).toInt ∧ (v16508 38).toInt ≤ 120 := hI.1 38 _ _ rfl
                    have t16513 : 0 ≤ (v16508 39).toInt ∧ (v16508 39).toInt ≤ 120 := hI.1 39 _ _ rfl
                    have t16514 : 0 ≤ (v16508 41).toInt ∧ (v16508 41).toInt ≤ 8 := hI.1 41 _ _ rfl
                    generalize H1 = H at hP hS ⊢
                    have hk := hk.tr hw_r16507.2.1
                    have hd := hw_r16507.2.2
                    refine lv_aload_n hx hb dX12_either_119 rfl (lv_at hl 1 rfl) ?_
                    refine lv_iconst (v := 4) hx hb dX12_either_120 (by decide) ?_
                    refine lv_iconst (v := 0) hx hb dX12_either_121 (by decide) ?_
                    have t16515 : 0 ≤ (v 37).toInt ∧ (v 37).toInt ≤ 9 := by have h9 := hI.1 37 _ _ rfl; rw [show v16508 37 = v 37 from (hf16510 37 (by decide)).trans ((hf16486 37 (by decide)).trans ((hf16472 37 (by decide)).trans ((hf16455 37 (by decide)).trans ((hf16445 37 (by decide)).trans (hf16045 37 (by decide))))))] at h9; exact h9
                    have t16516 : 0 ≤ (v16508 38).toInt ∧ (v16508 38).toInt ≤ 120 := hI.1 38 _ _ rfl
                    refine va_callv (va_runV (As := [.int 4, .int 0]) (rest := []) ⟨hx, hb, hml, hown, hwd⟩ (c_X12_lay l dC dI g c adK adV v16508 F16509 rc H.size 4 0 hg hI (by have h9 : v16508 38 = v16508 38 := rfl; rw [h9]; omega)) (cwV 2 hwd (gV wk_1021 wk_1018 wk_1019 wk_1020 wk_5) rfl rfl rfl (by decide +kernel) ⟨Nat.le_of_ble_eq_true rfl, Nat.le_of_ble_eq_true rfl⟩) ⟨PM.blind, va_recv hK hP (ci := 12) (q0 := 0) rfl rfl, fun U hU hW => ⟨rfl, PM.at hK hE hP hS hU hW⟩⟩ rfl rfl hl.1 rfl (lv_room (Nat.le_of_ble_eq_true rfl)) dX12_either_122 ⟨Nat.le_of_ble_eq_true rfl, Nat.le_of_ble_eq_true rfl⟩) hS (fun q _ h => (freeM hS) q h) (freeM hS) (fun u t H1 locs ht hvm hw hB hz1 hk1 hS => ?_)
                    unfold BM at hB
                    rw [ht] at hB
                    obtain ⟨v16518, F16519, rc9⟩ := u
                    obtain ⟨hI, hrc, hf16520, hG16521, hw⟩ := hw
                    dsimp only at hI hrc hB hf16520 hG16521 hw
                    have hF := frCF (by decide) hG16521 hF
                    rw [hrc] at hB
                    have hP : va_P (dC, dI) classes (wM g c v16518 F16519 rc) H1 := hB
                    have hw : (v16518 38).toInt = (v16508 38).toInt + 1 ∧ keepL (v16508 37) (F16509 28) (F16509 29) (F16519 28) (F16519 29) ∧ dp (F16519 28) (F16519 29) (bI (v16508 37)) ((v16508 38).toInt.toNat + 1) = dpS (dp (F16509 28) (F16509 29) (bI (v16508 37)) (v16508 38).toInt.toNat) (4 : Int32) (0 : Int32) := hw
                    rw [show v16508 37 = v 37 from (hf16510 37 (by decide)).trans ((hf16486 37 (by decide)).trans ((hf16472 37 (by decide)).trans ((hf16455 37 (by decide)).trans ((hf16445 37 (by decide)).trans (hf16045 37 (by decide))))))] at hw
                    have hw_r16517 := hw
                    have t16522 : 0 ≤ (v16518 38).toInt ∧ (v16518 38).toInt ≤ 120 := hI.1 38 _ _ rfl
                    have k16523 : (4 : Int32).toInt = 4 := by decide
                    have k16524 : (0 : Int32).toInt = 0 := by decide
                    generalize H1 = H at hP hS ⊢
                    have hk := hk.tr hw_r16517.2.1
                    have hd : (v16508 40).toInt < 0 → dp (F16519 28) (F16519 29) (bI (v 37)) (v16518 38).toInt.toNat = some ((((((d + 1) + 1) - 1) + 1) + 1) - 2) := fun hf => (by have e9 : (v16518 38).toInt.toNat = (v16508 38).toInt.toNat + 1 := (by omega); rw [e9, hw_r16517.2.2, hd hf]; exact dpS_4 (by decide) (by omega))
                    refine lv_aload_n hx hb dX12_either_125 rfl (lv_at hl 1 rfl) ?_
                    refine lv_dup hx hb dX12_either_126 rfl ?_
                    refine va_get (D := (dC, dI)) (ci := 12) (v := .int (v16518 41)) (C := RX12) (T := TX12) (N := 63) hx hb hwd inA_X12 hown hK hP 0 rfl rfl 41 (by decide) (hwd _ wk_1006) (fun _ h9 => h9) rfl dX12_either_127 ?_
                    refine my_top (v := v16508 41) (hf16520 41 (by decide)) ?_
                    have t16525 : 0 ≤ (v16508 41).toInt ∧ (v16508 41).toInt ≤ 8 := by have h9 := hI.1 41 _ _ rfl; rw [show v16518 41 = v16508 41 from hf16520 41 (by decide)] at h9; exact h9
                    refine lv_iconst (v := 1) hx hb dX12_either_130 (by decide) ?_
                    refine lv_isub hx hb dX12_either_131 ?_
                    refine lv_topi (fun z16526 e16527 => ?_)
                    try (have t16528 := tsub e16527 (a := (v16508 41).toInt) rfl (b := 1) (by decide) (by omega))
                    refine va_put (D := (dC, dI)) (ci := 12) (v := .int z16526) (ty := .int) (C := RX12) (T := TX12) (N := 63) (fs := fsM_0 g v16518 rc) hx hb hwd inA_X12 tyX12 tyX12_ok nmX12 hown hK hP (DM hg) hS 0 rfl rfl 41 (by decide) (hwd _ wk_1006) (fun _ h9 => h9) rfl (by decide +kernel) rfl rfl (Nat.le_of_ble_eq_true rfl) dX12_either_132 (fun H locs hP _ hS => ?_)
                    have hP := va_P_eq (pM_41 g c _ _ _ _) hP
                    have hI := IM.put hI 41 z16526 rfl (by omega)
                    have hP9 : va_P (dC, dI) classes (wM g c (va_up v16518 41 z16526) F16519 rc) H := hP
                    exact W.vret hx hb hr (fun t ht hW => ⟨⟨((va_up v16518 41 z16526), F16519, rc), rfl, ⟨hI, rfl, (frU (by decide) (frC (by decide) hf16520 (frC (by decide) hf16510 (frU (by decide) (frC (by decide) hf16486 (frC (by decide) hf16472 (frC (by decide) hf16455 (frC (by decide) hf16445 (frU (by decide) (frC (by decide) hf16045 (fun _ _ => rfl))))))))))), hF, (by show ((v 39).toInt ≤ ((va_up v16518 41 z16526) 39).toInt ∧ ((va_up v16518 41 z16526) 39).toInt ≤ (v 30).toInt ∧ (v 38).toInt ≤ (v16518 38).toInt ∧ (v16518 38).toInt - (v 38).toInt ≤ ((va_up v16518 41 z16526) 39).toInt - (v 39).toInt ∧ (v 41).toInt ≤ z16526.toInt ∧ (((va_up v16518 41 z16526) 40).toInt < 0 → z16526.toInt = (v 41).toInt)) ∧ keepL (v 37) (F 28) (F 29) (F16519 28) (F16519 29) ∧ (((va_up v16518 41 z16526) 40).toInt < 0 → dp (F16519 28) (F16519 29) (bI (v 37)) (v16518 38).toInt.toNat = some (d + 1)); rw [show (va_up v16518 41 z16526) 39 = v16508 39 from hf16520 39 (by decide)]; rw [show (va_up v16518 41 z16526) 40 = v16508 40 from hf16520 40 (by decide)]; exact ⟨by omega, hk, fun hf => (hd (by omega)).trans (congrArg some (by omega))⟩)⟩, (by show va_P _ _ _ t.heap; rw [ht]; exact hP9)⟩, hS.F ht⟩) hS.2.2 dX12_either_135
                  · skip
                    have t16529 := cv_ne (a := r16495.toInt) rfl (b := 58) (by decide) c16496
                    refine lv_aload_n hx hb dX12_either_100 rfl (lv_at hl 1 rfl) ?_
                    refine va_callv (va_runV (As := []) (rest := []) ⟨hx, hb, hml, hown, hwd⟩ (c_X12_wrong l dC dI g c adK adV v16484 F16485 rc H.size  hg hI ) (cwV 0 hwd (gV wk_1029 wk_1026 wk_1027 wk_1028 wk_5) rfl rfl rfl (by decide +kernel) ⟨Nat.le_of_ble_eq_true rfl, Nat.le_of_ble_eq_true rfl⟩) ⟨PM.blind, va_recv hK hP (ci := 12) (q0 := 0) rfl rfl, fun U hU hW => ⟨rfl, PM.at hK hE hP hS hU hW⟩⟩ rfl rfl hl.1 rfl (lv_room (Nat.le_of_ble_eq_true rfl)) dX12_either_101 ⟨Nat.le_of_ble_eq_true rfl, Nat.le_of_ble_eq_true rfl⟩) hS (fun q _ h => (freeM hS) q h) (freeM hS) (fun u t H1 locs ht hvm hw hB hz1 hk1 hS => ?_)
                    unfold BM at hB
                    rw [ht] at hB
                    obtain ⟨v16531, F16532, rc9⟩ := u
                    obtain ⟨hI, hrc, hf16533, hG16534, hw⟩ := hw
                    dsimp only at hI hrc hB hf16533 hG16534 hw
                    have hF := frCF (by decide) hG16534 hF
                    rw [hrc] at hB
                    have hP : va_P (dC, dI) classes (wM g c v16531 F16532 rc) H1 := hB
                    have hw : 0 ≤ (v16531 40).toInt := hw
                    have hw_r16530 := hw
                    generalize H1 = H at hP hS ⊢
                    have hk : keepL (v 37) (F 28) (F 29) (F16532 28) (F16532 29) := by rw [hG16534 28 (by decide), hG16534 29 (by decide)]; exact hk
                    have hd : (v16531 40).toInt < 0 → dp (F16532 28) (F16532 29) (bI (v 37)) (v16484 38).toInt.toNat = some ((((d + 1) + 1) - 1) + 1) := fun hf => (by rw [hG16534 28 (by decide), hG16534 29 (by decide)]; exact hd (by omega))
                    have hP9 : va_P (dC, dI) classes (wM g c v16531 F16532 rc) H := hP
                    exact W.vret hx hb hr (fun t ht hW => ⟨⟨(v16531, F16532, rc), rfl, ⟨hI, rfl, (frC (by decide) hf16533 (frC (by decide) hf16486 (frC (by decide) hf16472 (frC (by decide) hf16455 (frC (by decide) hf16445 (frU (by decide) (frC (by decide) hf16045 (fun _ _ => rfl)))))))), hF, (by show ((v 39).toInt ≤ (v16531 39).toInt ∧ (v16531 39).toInt ≤ (v 30).toInt ∧ (v 38).toInt ≤ (v16531 38).toInt ∧ (v16531 38).toInt - (v 38).toInt ≤ (v16531 39).toInt - (v 39).toInt ∧ (v 41).toInt ≤ (v16531 41).toInt ∧ ((v16531 40).toInt < 0 → (v16531 41).toInt = (v 41).toInt)) ∧ keepL (v 37) (F 28) (F 29) (F16532 28) (F16532 29) ∧ ((v16531 40).toInt < 0 → dp (F16532 28) (F16532 29) (bI (v 37)) (v16531 38).toInt.toNat = some (d + 1)); rw [show v16531 39 = v16484 39 from hf16533 39 (by decide)]; rw [show v16531 38 = v16484 38 from hf16533 38 (by decide)]; rw [show v16531 41 = v16484 41 from hf16533 41 (by decide)]; exact ⟨by omega, hk, fun hf => (hd (by omega)).trans (congrArg some (by omega))⟩)⟩, (by show va_P _ _ _ t.heap; rw [ht]; exact hP9)⟩, hS.F ht⟩) hS.2.2 dX12_either_104
                · skip
                  have t16535 := cv_nlt (a := (v16484 40).toInt) rfl (b := 0) (by decide) c16491
                  have hP9 : va_P (dC, dI) classes (wM g c v16484 F16485 rc) H := hP
                  exact W.vret hx hb hr (fun t ht hW => ⟨⟨(v16484, F16485, rc), rfl, ⟨hI, rfl, (frC (by decide) hf16486 (frC (by decide) hf16472 (frC (by decide) hf16455 (frC (by decide) hf16445 (frU (by decide) (frC (by decide) hf16045 (fun _ _ => rfl))))))), hF, (by show ((v 39).toInt ≤ (v16484 39).toInt ∧ (v16484 39).toInt ≤ (v 30).toInt ∧ (v 38).toInt ≤ (v16484 38).toInt ∧ (v16484 38).toInt - (v 38).toInt ≤ (v16484 39).toInt - (v 39).toInt ∧ (v 41).toInt ≤ (v16484 41).toInt ∧ ((v16484 40).toInt < 0 → (v16484 41).toInt = (v 41).toInt)) ∧ keepL (v 37) (F 28) (F 29) (F16485 28) (F16485 29) ∧ ((v16484 40).toInt < 0 → dp (F16485 28) (F16485 29) (bI (v 37)) (v16484 38).toInt.toNat = some (d + 1)); exact ⟨by omega, hk, fun hf => (hd (by omega)).trans (congrArg some (by omega))⟩)⟩, (by show va_P _ _ _ t.heap; rw [ht]; exact hP9)⟩, hS.F ht⟩) hS.2.2 dX12_either_90
              · skip
                have t16536 := cv_eq (a := r16469.toInt) rfl (b := 0) (by decide) c16476
                have hP9 : va_P (dC, dI) classes (wM g c v16470 F16471 rc) H := hP
                exact W.vret hx hb hr (fun t ht hW => ⟨⟨(v16470, F16471, rc), rfl, ⟨hI, rfl, (frC (by decide) hf16472 (frC (by decide) hf16455 (frC (by decide) hf16445 (frU (by decide) (frC (by decide) hf16045 (fun _ _ => rfl)))))), hF, (by show ((v 39).toInt ≤ (v16470 39).toInt ∧ (v16470 39).toInt ≤ (v 30).toInt ∧ (v 38).toInt ≤ (v16470 38).toInt ∧ (v16470 38).toInt - (v 38).toInt ≤ (v16470 39).toInt - (v 39).toInt ∧ (v 41).toInt ≤ (v16470 41).toInt ∧ ((v16470 40).toInt < 0 → (v16470 41).toInt = (v 41).toInt)) ∧ keepL (v 37) (F 28) (F 29) (F16471 28) (F16471 29) ∧ ((v16470 40).toInt < 0 → dp (F16471 28) (F16471 29) (bI (v 37)) (v16470 38).toInt.toNat = some (d + 1)); rw [show v16470 38 = v16453 38 from hf16472 38 (by decide)]; exact ⟨by omega, hk, fun hf => (hd (by omega)).trans (congrArg some (by omega))⟩)⟩, (by show va_P _ _ _ t.heap; rw [ht]; exact hP9)⟩, hS.F ht⟩) hS.2.2 dX12_either_78
            · skip
              have t16537 := cv_ne (a := r16464.toInt) rfl (b := 63) (by decide) c16465
              have hP9 : va_P (dC, dI) classes (wM g c v16453 F16454 rc) H := hP
              exact W.vret hx hb hr (fun t ht hW => ⟨⟨(v16453, F16454, rc), rfl, ⟨hI, rfl, (frC (by decide) hf16455 (frC (by decide) hf16445 (frU (by decide) (frC (by decide) hf16045 (fun _ _ => rfl))))), hF, (by show ((v 39).toInt ≤ (v16453 39).toInt ∧ (v16453 39).toInt ≤ (v 30).toInt ∧ (v 38).toInt ≤ (v16453 38).toInt ∧ (v16453 38).toInt - (v 38).toInt ≤ (v16453 39).toInt - (v 39).toInt ∧ (v 41).toInt ≤ (v16453 41).toInt ∧ ((v16453 40).toInt < 0 → (v16453 41).toInt = (v 41).toInt)) ∧ keepL (v 37) (F 28) (F 29) (F16454 28) (F16454 29) ∧ ((v16453 40).toInt < 0 → dp (F16454 28) (F16454 29) (bI (v 37)) (v16453 38).toInt.toNat = some (d + 1)); rw [show v16453 39 = v16443 39 from hf16455 39 (by decide)]; rw [show v16453 41 = v16443 41 from hf16455 41 (by decide)]; rw [show v16453 40 = v16443 40 from hf16455 40 (by decide)]; exact ⟨by omega, hk, fun hf => (hd (by omega)).trans (congrArg some (by omega))⟩)⟩, (by show va_P _ _ _ t.heap; rw [ht]; exact hP9)⟩, hS.F ht⟩) hS.2.2 dX12_either_70
