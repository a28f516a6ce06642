set_option maxHeartbeats 8000000 in
set_option maxRecDepth 100000 in
theorem c_X12_operand_0 (l : Launch) (dC : Nat → ClassId) (dI : Nat → Nat → Nat) (g : Nat → Nat) (c : Nat → ClassId) (adK adV : Nat → Nat) (v : Nat → Int32) (F : Nat → Nat → Int32) (rc sz : Nat) (d : Nat) (hg : injM g) (hI : IM v F) (hq : (v 38).toInt ≤ (v 39).toInt ∧ (v 39).toInt ≤ (v 30).toInt ∧ (v 40).toInt < 0 ∧ (v 41).toInt = 0) (hdp : dp (F 28) (F 29) (bI (v 37)) (v 38).toInt.toNat = some d) : Met l yX12_operand (Cond.code yX12_operand cX12_operand 2 none :: wA) ({ frames := 35, cells := 0, slots := 0, locals := 1400 }) (va_Pc [.ref (g 0)] (PM dC dI g c adK adV v F rc sz)) (va_Qv (fun (u : StM) => IM u.1 u.2.1 ∧ u.2.2 = rc ∧ (∀ k, k ∉ ([38, 39, 40, 41, 42] : List Nat) → u.1 k = v k) ∧ (∀ k, k ∉ ([28, 29] : List Nat) → u.2.1 k = F k) ∧ (((v 39).toInt ≤ (u.1 39).toInt ∧ (u.1 39).toInt ≤ (v 30).toInt ∧ (v 38).toInt ≤ (u.1 38).toInt ∧ (u.1 38).toInt - (v 38).toInt ≤ (u.1 39).toInt - (v 39).toInt ∧ (v 41).toInt ≤ (u.1 41).toInt ∧ ((u.1 40).toInt < 0 → (u.1 41).toInt = (v 41).toInt)) ∧ keepL (v 37) (F 28) (F 29) (u.2.1 28) (u.2.1 29) ∧ ((u.1 40).toInt < 0 → dp (u.2.1 28) (u.2.1 29) (bI (v 37)) (u.1 38).toInt.toNat = some (d + 1)))) (BM dC dI g c) (AM g sz)) 0 0 (AM g sz) := by
  refine Met.ofW (cc := cX12_operand) (maxL := 2) (ret := none) (by decide) rfl ?_
  intro p e s m args below meth c0 s₁ B hml hv
  obtain ⟨rfl, hsz, hP, hK, hE⟩ := hv
  have hx := B.exec
  have hb := B.bytes
  have hr := B.returns
  have hts := atoms_spec (ws := Cond.code yX12_operand cX12_operand 2 none :: wA) B.pre
  have hwd : ∀ w ∈ wA, w.before _ s = true := fun w h => hts w (List.mem_cons_of_mem _ h)
  have hown : s.vm.findClass RX12 = some m.cls := findClass_of_methodNamed B.named
  have hlocks := B.notSynchronized
  subst hsz
  have hl := lv_entry ([.ref (g 0)]) (n := 2) (Nat.le_of_ble_eq_true rfl)
  rw [lg_entry_eq]
  generalize (lg_sl ([.ref (g 0)]) ++ List.replicate (2 - (lg_sl ([.ref (g 0)])).length) Slot.unset).toArray = ls at hl ⊢
  have hl : lv_has ls 2 [(0, .ref (g 0))] := hl
  obtain ⟨H, eH⟩ : ∃ z, z = s.heap := ⟨_, rfl⟩
  have hP : va_P (dC, dI) classes (wM g c v F rc) H := by rw [eH]; exact hP
  have hS : va_S (AM g s.heap.size) s.heap H [] := by rw [eH]; exact va_S.rf
  refine my_heap eH ?_
  have hF : ∀ k, k ∉ ([28, 29] : List Nat) → F k = F k := fun _ _ => rfl
  have hb30 : 0 ≤ (v 30).toInt ∧ (v 30).toInt ≤ 120 := hI.1 30 _ _ rfl
  have hb37 : 0 ≤ (v 37).toInt ∧ (v 37).toInt ≤ 9 := hI.1 37 _ _ rfl
  have hb38 : 0 ≤ (v 38).toInt ∧ (v 38).toInt ≤ 120 := hI.1 38 _ _ rfl
  have hb39 : 0 ≤ (v 39).toInt ∧ (v 39).toInt ≤ 120 := hI.1 39 _ _ rfl
  have hb41 : 0 ≤ (v 41).toInt ∧ (v 41).toInt ≤ 8 := hI.1 41 _ _ rfl
  have hk : keepL (v 37) (F 28) (F 29) (F 28) (F 29) := keepL.rf
  have hd : (v 40).toInt < 0 → dp (F 28) (F 29) (bI (v 37)) (v 38).toInt.toNat = some d := fun _ => hdp
  refine lv_aload_n hx hb dX12_operand_0 rfl (lv_at hl 0 rfl) ?_
  have t23183 : 0 ≤ (v 30).toInt ∧ (v 30).toInt ≤ 120 := hI.1 30 _ _ rfl
  have t23184 : 0 ≤ (v 39).toInt ∧ (v 39).toInt ≤ 120 := hI.1 39 _ _ rfl
  refine va_calli (va_runV (As := []) (rest := []) ⟨hx, hb, hml, hown, hwd⟩ (c_X12_look l dC dI g c adK adV v F rc H.size  hg hI ) (cwV 0 hwd (gV wk_1017 wk_1014 wk_1015 wk_1016 wk_5) rfl rfl rfl (by decide +kernel) ⟨Nat.le_of_ble_eq_true rfl, Nat.le_of_ble_eq_true rfl⟩) ⟨PM.blind, va_recv hK hP (ci := 12) (q0 := 0) rfl rfl, fun U hU hW => ⟨rfl, PM.at hK hE hP hS hU hW⟩⟩ rfl rfl hl.1 rfl (lv_room (Nat.le_of_ble_eq_true rfl)) dX12_operand_1 ⟨Nat.le_of_ble_eq_true rfl, Nat.le_of_ble_eq_true rfl⟩) hS (fun q _ h => (freeM hS) q h) (freeM hS) (fun r23185 u t H1 locs ht hvm hw hB hz1 hk1 hS => ?_)
  unfold BM at hB
  rw [ht] at hB
  have hP : va_P (dC, dI) classes (wM g c v F rc) H1 := hB
  have hw : r23185.toInt = lkM (v 39) (v 30) (F 24) ∧ ((v 39).toInt < (v 30).toInt ∨ r23185.toInt = -1) := hw
  have hw_r23185 := hw
  generalize H1 = H at hP hS ⊢
  refine lv_istore_n (lv' := [(1, .int r23185), (0, .ref (g 0))]) hx hb dX12_operand_4 rfl hl (by decide) rfl (fun ls hl => ?_)
  refine lv_iload_n hx hb dX12_operand_5 rfl (lv_at hl 0 rfl) ?_
  refine va_calli (va_runS (As := [.int r23185]) (rest := []) ⟨hx, hb, hml, hown, hwd⟩ (c_X12_nameOf l dC dI g c adK adV v F rc H.size r23185 hg hI ) (va_cwS 1 hwd (gT wk_1034 wk_1032 wk_1033 wk_5) rfl rfl rfl (by decide +kernel) ⟨Nat.le_of_ble_eq_true rfl, Nat.le_of_ble_eq_true rfl⟩) ⟨PM.blind, fun U hU hW => ⟨rfl, PM.at hK hE hP hS hU hW⟩⟩ rfl rfl hl.1 rfl (lv_room (Nat.le_of_ble_eq_true rfl)) dX12_operand_6 ⟨Nat.le_of_ble_eq_true rfl, Nat.le_of_ble_eq_true rfl⟩) hS (fun q _ h => (freeM hS) q h) (freeM hS) (fun r23186 u t H1 locs ht hvm hw hB hz1 hk1 hS => ?_)
  unfold BM at hB
  rw [ht] at hB
  have hP : va_P (dC, dI) classes (wM g c v F rc) H1 := hB
  have hw : r23186.toInt = nmM r23185 ∧ (-1 ≤ r23186.toInt ∧ r23186.toInt ≤ 5) := hw
  have hw_r23186 := hw
  generalize H1 = H at hP hS ⊢
  have np_r23186 := nmM_pos r23185
  refine lv_if_lt (tgt := 34) hx hb dX12_operand_9 (by decide) (fun c23187 => ?_) (fun c23187 => ?_)
  · skip
    have t23188 := cv_lt (a := r23186.toInt) rfl (b := 0) (by decide) c23187
    refine lv_iload_n hx hb dX12_operand_34 rfl (lv_at hl 0 rfl) ?_
    refine lv_bipush (v := 45) hx hb dX12_operand_35 (by decide) ?_
    refine lv_icmp_ne (tgt := 71) hx hb dX12_operand_37 (by decide) (fun c23189 => ?_) (fun c23189 => ?_)
    · skip
      have t23190 := cv_ne (a := r23185.toInt) rfl (b := 45) (by decide) c23189
      refine lv_iload_n hx hb dX12_operand_71 rfl (lv_at hl 0 rfl) ?_
      refine lv_bipush (v := 40) hx hb dX12_operand_72 (by decide) ?_
      refine lv_icmp_ne (tgt := 134) hx hb dX12_operand_74 (by decide) (fun c23191 => ?_) (fun c23191 => ?_)
      · skip
        have t23192 := cv_ne (a := r23185.toInt) rfl (b := 40) (by decide) c23191
        refine lv_aload_n hx hb dX12_operand_134 rfl (lv_at hl 1 rfl) ?_
        have t23193 : 0 ≤ (v 30).toInt ∧ (v 30).toInt ≤ 120 := hI.1 30 _ _ rfl
        have t23194 : 0 ≤ (v 39).toInt ∧ (v 39).toInt ≤ 120 := hI.1 39 _ _ rfl
        refine va_calli (va_runV (As := []) (rest := []) ⟨hx, hb, hml, hown, hwd⟩ (c_X12_digits l dC dI g c adK adV v F rc H.size  hg hI (by have h9 : v 39 = v 39 := rfl; (try rw [h9]); clear h9; have h9 : v 30 = v 30 := rfl; (try rw [h9]); clear h9; omega)) (cwV 0 hwd (gV wk_1041 wk_1038 wk_1039 wk_1040 wk_5) rfl rfl rfl (by decide +kernel) ⟨Nat.le_of_ble_eq_true rfl, Nat.le_of_ble_eq_true rfl⟩) ⟨PM.blind, va_recv hK hP (ci := 12) (q0 := 0) rfl rfl, fun U hU hW => ⟨rfl, PM.at hK hE hP hS hU hW⟩⟩ rfl rfl hl.1 rfl (lv_room (Nat.le_of_ble_eq_true rfl)) dX12_operand_135 ⟨Nat.le_of_ble_eq_true rfl, Nat.le_of_ble_eq_true rfl⟩) hS (fun q _ h => (freeM hS) q h) (freeM hS) (fun r23195 u t H1 locs ht hvm hw hB hz1 hk1 hS => ?_)
        unfold BM at hB
        rw [ht] at hB
        obtain ⟨v23196, F23197, rc9⟩ := u
        obtain ⟨hI, hrc, hf23198, hG23199, hw⟩ := hw
        dsimp only at hI hrc hB hf23198 hG23199 hw
        have hF := frCF (by decide) hG23199 hF
        rw [hrc] at hB
        have hP : va_P (dC, dI) classes (wM g c v23196 F23197 rc) H1 := hB
        have hw : (r23195.toInt = 1 ∧ (v 39).toInt < (v23196 39).toInt ∧ (v23196 39).toInt ≤ (v 30).toInt ∧ (v23196 40).toInt = (v 40).toInt) ∨ (r23195.toInt = 0 ∧ 0 ≤ (v23196 40).toInt ∧ (v 39).toInt ≤ (v23196 39).toInt ∧ (v23196 39).toInt ≤ (v 30).toInt) := hw
        have hw_r23195 := hw
        have t23200 : 0 ≤ (v23196 39).toInt ∧ (v23196 39).toInt ≤ 120 := hI.1 39 _ _ rfl
        generalize H1 = H at hP hS ⊢
        have hk : keepL (v 37) (F 28) (F 29) (F23197 28) (F23197 29) := by rw [hG23199 28 (by decide), hG23199 29 (by decide)]; exact hk
        have hd : (v23196 40).toInt < 0 → dp (F23197 28) (F23197 29) (bI (v 37)) (v 38).toInt.toNat = some d := fun hf => (by rw [hG23199 28 (by decide), hG23199 29 (by decide)]; exact hd (by omega))
        refine lv_if_eq (tgt := 150) hx hb dX12_operand_138 (by decide) (fun c23201 => ?_) (fun c23201 => ?_)
        · skip
          have t23202 := cv_eq (a := r23195.toInt) rfl (b := 0) (by decide) c23201
          have hP9 : va_P (dC, dI) classes (wM g c v23196 F23197 rc) H := hP
          exact W.vret hx hb hr (fun t ht hW => ⟨⟨(v23196, F23197, rc), rfl, ⟨hI, rfl, (frC (by decide) hf23198 (fun _ _ => rfl)), hF, (by show ((v 39).toInt ≤ (v23196 39).toInt ∧ (v23196 39).toInt ≤ (v 30).toInt ∧ (v 38).toInt ≤ (v23196 38).toInt ∧ (v23196 38).toInt - (v 38).toInt ≤ (v23196 39).toInt - (v 39).toInt ∧ (v 41).toInt ≤ (v23196 41).toInt ∧ ((v23196 40).toInt < 0 → (v23196 41).toInt = (v 41).toInt)) ∧ keepL (v 37) (F 28) (F 29) (F23197 28) (F23197 29) ∧ ((v23196 40).toInt < 0 → dp (F23197 28) (F23197 29) (bI (v 37)) (v23196 38).toInt.toNat = some (d + 1)); rw [show v23196 38 = v 38 from hf23198 38 (by decide)]; rw [show v23196 41 = v 41 from hf23198 41 (by decide)]; exact ⟨by omega, hk, fun hf => (hd (by omega)).trans (congrArg some (by omega))⟩)⟩, (by show va_P _ _ _ t.heap; rw [ht]; exact hP9)⟩, hS.F ht⟩) hS.2.2 dX12_operand_150
        · skip
          have t23203 := cv_ne (a := r23195.toInt) rfl (b := 0) (by decide) c23201
          refine lv_aload_n hx hb dX12_operand_141 rfl (lv_at hl 1 rfl) ?_
          refine lv_iconst (v := 1) hx hb dX12_operand_142 (by decide) ?_
          refine lv_aload_n hx hb dX12_operand_143 rfl (lv_at hl 1 rfl) ?_
          refine va_get (D := (dC, dI)) (ci := 12) (v := .int (v23196 42)) (C := RX12) (T := TX12) (N := 63) hx hb hwd inA_X12 hown hK hP 0 rfl rfl 42 (by decide) (hwd _ wk_1031) (fun _ h9 => h9) rfl dX12_operand_144 ?_
          have t23204 : 0 ≤ (v 37).toInt ∧ (v 37).toInt ≤ 9 := by have h9 := hI.1 37 _ _ rfl; rw [show v23196 37 = v 37 from hf23198 37 (by decide)] at h9; exact h9
          have t23205 : 0 ≤ (v 38).toInt ∧ (v 38).toInt ≤ 120 := by have h9 := hI.1 38 _ _ rfl; rw [show v23196 38 = v 38 from hf23198 38 (by decide)] at h9; exact h9
          refine va_callv (va_runV (As := [.int 1, .int (v23196 42)]) (rest := []) ⟨hx, hb, hml, hown, hwd⟩ (c_X12_lay l dC dI g c adK adV v23196 F23197 rc H.size 1 (v23196 42) hg hI (by have h9 : v23196 38 = v 38 := hf23198 38 (by decide); rw [h9]; omega)) (cwV 2 hwd (gV wk_1021 wk_1018 wk_1019 wk_1020 wk_5) rfl rfl rfl (by decide +kernel) ⟨Nat.le_of_ble_eq_true rfl, Nat.le_of_ble_eq_true rfl⟩) ⟨PM.blind, va_recv hK hP (ci := 12) (q0 := 0) rfl rfl, fun U hU hW => ⟨rfl, PM.at hK hE hP hS hU hW⟩⟩ rfl rfl hl.1 rfl (lv_room (Nat.le_of_ble_eq_true rfl)) dX12_operand_147 ⟨Nat.le_of_ble_eq_true rfl, Nat.le_of_ble_eq_true rfl⟩) hS (fun q _ h => (freeM hS) q h) (freeM hS) (fun u t H1 locs ht hvm hw hB hz1 hk1 hS => ?_)
          unfold BM at hB
          rw [ht] at hB
          obtain ⟨v23207, F23208, rc9⟩ := u
          obtain ⟨hI, hrc, hf23209, hG23210, hw⟩ := hw
          dsimp only at hI hrc hB hf23209 hG23210 hw
          have hF := frCF (by decide) hG23210 hF
          rw [hrc] at hB
          have hP : va_P (dC, dI) classes (wM g c v23207 F23208 rc) H1 := hB
          have hw : (v23207 38).toInt = (v23196 38).toInt + 1 ∧ keepL (v23196 37) (F23197 28) (F23197 29) (F23208 28) (F23208 29) ∧ dp (F23208 28) (F23208 29) (bI (v23196 37)) ((v23196 38).toInt.toNat + 1) = dpS (dp (F23197 28) (F23197 29) (bI (v23196 37)) (v23196 38).toInt.toNat) (1 : Int32) (v23196 42) := hw
          rw [show v23196 38 = v 38 from hf23198 38 (by decide)] at hw
          rw [show v23196 37 = v 37 from hf23198 37 (by decide)] at hw
          have hw_r23206 := hw
          have t23211 : 0 ≤ (v23207 38).toInt ∧ (v23207 38).toInt ≤ 120 := hI.1 38 _ _ rfl
          have k23212 : (1 : Int32).toInt = 1 := by decide
          generalize H1 = H at hP hS ⊢
          have hk := hk.tr hw_r23206.2.1
          have hd : (v23196 40).toInt < 0 → dp (F23208 28) (F23208 29) (bI (v 37)) (v23207 38).toInt.toNat = some (d + 1) := fun hf => (by have e9 : (v23207 38).toInt.toNat = (v 38).toInt.toNat + 1 := (by omega); rw [e9, hw_r23206.2.2, hd hf]; exact dpS_1 (by decide))
          have hP9 : va_P (dC, dI) classes (wM g c v23207 F23208 rc) H := hP
          exact W.vret hx hb hr (fun t ht hW => ⟨⟨(v23207, F23208, rc), rfl, ⟨hI, rfl, (frC (by decide) hf23209 (frC (by decide) hf23198 (fun _ _ => rfl))), hF, (by show ((v 39).toInt ≤ (v23207 39).toInt ∧ (v23207 39).toInt ≤ (v 30).toInt ∧ (v 38).toInt ≤ (v23207 38).toInt ∧ (v23207 38).toInt - (v 38).toInt ≤ (v23207 39).toInt - (v 39).toInt ∧ (v 41).toInt ≤ (v23207 41).toInt ∧ ((v23207 40).toInt < 0 → (v23207 41).toInt = (v 41).toInt)) ∧ keepL (v 37) (F 28) (F 29) (F23208 28) (F23208 29) ∧ ((v23207 40).toInt < 0 → dp (F23208 28) (F23208 29) (bI (v 37)) (v23207 38).toInt.toNat = some (d + 1)); rw [show v23207 39 = v23196 39 from hf23209 39 (by decide)]; rw [show v23207 41 = v 41 from (hf23209 41 (by decide)).trans (hf23198 41 (by decide))]; rw [show v23207 40 = v23196 40 from hf23209 40 (by decide)]; exact ⟨by omega, hk, fun hf => (hd (by omega)).trans (congrArg some (by omega))⟩)⟩, (by show va_P _ _ _ t.heap; rw [ht]; exact hP9)⟩, hS.F ht⟩) hS.2.2 dX12_operand_150
      · skip
        have t23213 := cv_eq (a := r23185.toInt) rfl (b := 40) (by decide) c23191
        refine lv_aload_n hx hb dX12_operand_77 rfl (lv_at hl 1 rfl) ?_
        have t23214 : 0 ≤ (v 39).toInt ∧ (v 39).toInt ≤ 120 := hI.1 39 _ _ rfl
        have t23215 : 0 ≤ (v 41).toInt ∧ (v 41).toInt ≤ 8 := hI.1 41 _ _ rfl
        refine va_calli (va_runV (As := []) (rest := []) ⟨hx, hb, hml, hown, hwd⟩ (c_X12_opens l dC dI g c adK adV v F rc H.size  hg hI (by have h9 : v 39 = v 39 := rfl; (try rw [h9]); clear h9; have h9 : v 30 = v 30 := rfl; (try rw [h9]); clear h9; omega)) (cwV 0 hwd (gV wk_1025 wk_1022 wk_1023 wk_1024 wk_5) rfl rfl rfl (by decide +kernel) ⟨Nat.le_of_ble_eq_true rfl, Nat.le_of_ble_eq_true rfl⟩) ⟨PM.blind, va_recv hK hP (ci := 12) (q0 := 0) rfl rfl, fun U hU hW => ⟨rfl, PM.at hK hE hP hS hU hW⟩⟩ rfl rfl hl.1 rfl (lv_room (Nat.le_of_ble_eq_true rfl)) dX12_operand_78 ⟨Nat.le_of_ble_eq_true rfl, Nat.le_of_ble_eq_true rfl⟩) hS (fun q _ h => (freeM hS) q h) (freeM hS) (fun r23216 u t H1 locs ht hvm hw hB hz1 hk1 hS => ?_)
        unfold BM at hB
        rw [ht] at hB
        obtain ⟨v23217, F23218, rc9⟩ := u
        obtain ⟨hI, hrc, hf23219, hG23220, hw⟩ := hw
        dsimp only at hI hrc hB hf23219 hG23220 hw
        have hF := frCF (by decide) hG23220 hF
        rw [hrc] at hB
        have hP : va_P (dC, dI) classes (wM g c v23217 F23218 rc) H1 := hB
        have hw : (r23216.toInt = 1 ∧ (v 41).toInt < 8 ∧ (v23217 41).toInt = (v 41).toInt + 1 ∧ (v23217 39).toInt = (v 39).toInt + 1 ∧ (v23217 40).toInt = (v 40).toInt) ∨ (r23216.toInt = 0 ∧ (v 41).toInt = 8 ∧ 0 ≤ (v23217 40).toInt ∧ (v23217 41).toInt = (v 41).toInt ∧ (v23217 39).toInt = (v 39).toInt) := hw
        have hw_r23216 := hw
        have t23221 : 0 ≤ (v23217 39).toInt ∧ (v23217 39).toInt ≤ 120 := hI.1 39 _ _ rfl
        have t23222 : 0 ≤ (v23217 41).toInt ∧ (v23217 41).toInt ≤ 8 := hI.1 41 _ _ rfl
        generalize H1 = H at hP hS ⊢
        have hk : keepL (v 37) (F 28) (F 29) (F23218 28) (F23218 29) := by rw [hG23220 28 (by decide), hG23220 29 (by decide)]; exact hk
        have hd : (v23217 40).toInt < 0 → dp (F23218 28) (F23218 29) (bI (v 37)) (v 38).toInt.toNat = some d := fun hf => (by rw [hG23220 28 (by decide), hG23220 29 (by decide)]; exact hd (by omega))
        refine lv_if_ne (tgt := 85) hx hb dX12_operand_81 (by decide) (fun c23223 => ?_) (fun c23223 => ?_)
        · skip
          have t23224 := cv_ne (a := r23216.toInt) rfl (b := 0) (by decide) c23223
          refine lv_aload_n hx hb dX12_operand_85 rfl (lv_at hl 1 rfl) ?_
          have t23225 : 0 ≤ (v 30).toInt ∧ (v 30).toInt ≤ 120 := by have h9 := hI.1 30 _ _ rfl; rw [show v23217 30 = v 30 from hf23219 30 (by decide)] at h9; exact h9
          have t23226 : 0 ≤ (v 37).toInt ∧ (v 37).toInt ≤ 9 := by have h9 := hI.1 37 _ _ rfl; rw [show v23217 37 = v 37 from hf23219 37 (by decide)] at h9; exact h9
          have t23227 : 0 ≤ (v 38).toInt ∧ (v 38).toInt ≤ 120 := by have h9 := hI.1 38 _ _ rfl; rw [show v23217 38 = v 38 from hf23219 38 (by decide)] at h9; exact h9
          have t23228 : 0 ≤ (v23217 39).toInt ∧ (v23217 39).toInt ≤ 120 := hI.1 39 _ _ rfl
          have t23229 : 0 ≤ (v23217 41).toInt ∧ (v23217 41).toInt ≤ 8 := hI.1 41 _ _ rfl
          refine va_callv (va_runV (As := []) (rest := []) ⟨hx, hb, hml, hown, hwd⟩ (c_X12_either_1 l dC dI g c adK adV v23217 F23218 rc H.size  d hg hI (by have h9 : v23217 38 = v 38 := hf23219 38 (by decide); (try rw [h9]); clear h9; have h9 : v23217 39 = v23217 39 := rfl; (try rw [h9]); clear h9; have h9 : v23217 30 = v 30 := hf23219 30 (by decide); (try rw [h9]); clear h9; have h9 : v23217 40 = v23217 40 := rfl; (try rw [h9]); clear h9; have h9 : v23217 41 = v23217 41 := rfl; (try rw [h9]); clear h9; omega) (by have h9 : v23217 37 = (v 37) := hf23219 37 (by decide); have h8 : v23217 38 = (v 38) := hf23219 38 (by decide); (try rw [h9]); (try rw [h8]); exact hd (by omega))) (cwV 0 hwd (gV wk_1010 wk_1007 wk_1008 wk_1009 wk_5) rfl rfl rfl (by decide +kernel) ⟨Nat.le_of_ble_eq_true rfl, Nat.le_of_ble_eq_true rfl⟩) ⟨PM.blind, va_recv hK hP (ci := 12) (q0 := 0) rfl rfl, fun U hU hW => ⟨rfl, PM.at hK hE hP hS hU hW⟩⟩ rfl rfl hl.1 rfl (lv_room (Nat.le_of_ble_eq_true rfl)) dX12_operand_86 ⟨Nat.le_of_ble_eq_true rfl, Nat.le_of_ble_eq_true rfl⟩) hS (fun q _ h => (freeM hS) q h) (freeM hS) (fun u t H1 locs ht hvm hw hB hz1 hk1 hS => ?_)
          unfold BM at hB
          rw [ht] at hB
          obtain ⟨v23231, F23232, rc9⟩ := u
          obtain ⟨hI, hrc, hf23233, hG23234, hw⟩ := hw
          dsimp only at hI hrc hB hf23233 hG23234 hw
          have hF := frCF (by decide) hG23234 hF
          rw [hrc] at hB
          have hP : va_P (dC, dI) classes (wM g c v23231 F23232 rc) H1 := hB
          have hw : ((v23217 39).toInt ≤ (v23231 39).toInt ∧ (v23231 39).toInt ≤ (v23217 30).toInt ∧ (v23217 38).toInt ≤ (v23231 38).toInt ∧ (v23231 38).toInt - (v23217 38).toInt ≤ (v23231 39).toInt - (v23217 39).toInt ∧ (v23217 41).toInt ≤ (v23231 41).toInt ∧ ((v23231 40).toInt < 0 → (v23231 41).toInt = (v23217 41).toInt)) ∧ keepL (v23217 37) (F23218 28) (F23218 29) (F23232 28) (F23232 29) ∧ ((v23231 40).toInt < 0 → dp (F23232 28) (F23232 29) (bI (v23217 37)) (v23231 38).toInt.toNat = some (d + 1)) := hw
          rw [show v23217 30 = v 30 from hf23219 30 (by decide)] at hw
          rw [show v23217 38 = v 38 from hf23219 38 (by decide)] at hw
          rw [show v23217 37 = v 37 from hf23219 37 (by decide)] at hw
          have hw_r23230 := hw
          have t23235 : 0 ≤ (v23231 38).toInt ∧ (v23231 38).toInt ≤ 120 := hI.1 38 _ _ rfl
          have t23236 : 0 ≤ (v23231 39).toInt ∧ (v23231 39).toInt ≤ 120 := hI.1 39 _ _ rfl
          have t23237 : 0 ≤ (v23231 41).toInt ∧ (v23231 41).toInt ≤ 8 := hI.1 41 _ _ rfl
          generalize H1 = H at hP hS ⊢
          have hk := hk.tr hw_r23230.2.1
          have hd := hw_r23230.2.2
          refine lv_aload_n hx hb dX12_operand_89 rfl (lv_at hl 1 rfl) ?_
          refine va_get (D := (dC, dI)) (ci := 12) (v := .int (v23231 40)) (C := RX12) (T := TX12) (N := 63) hx hb hwd inA_X12 hown hK hP 0 rfl rfl 40 (by decide) (hwd _ wk_1005) (fun _ h9 => h9) rfl dX12_operand_90 ?_
          refine lv_if_lt (tgt := 97) hx hb dX12_operand_93 (by decide) (fun c23238 => ?_) (fun c23238 => ?_)
          · skip
            have t23239 := cv_lt (a := (v23231 40).toInt) rfl (b := 0) (by decide) c23238
            refine lv_aload_n hx hb dX12_operand_97 rfl (lv_at hl 1 rfl) ?_
            have t23240 : 0 ≤ (v 30).toInt ∧ (v 30).toInt ≤ 120 := by have h9 := hI.1 30 _ _ rfl; rw [show v23231 30 = v 30 from (hf23233 30 (by decide)).trans (hf23219 30 (by decide))] at h9; exact h9
            have t23241 : 0 ≤ (v23231 39).toInt ∧ (v23231 39).toInt ≤ 120 := hI.1 39 _ _ rfl
            refine va_calli (va_runV (As := []) (rest := []) ⟨hx, hb, hml, hown, hwd⟩ (c_X12_look l dC dI g c adK adV v23231 F23232 rc H.size  hg hI ) (cwV 0 hwd (gV wk_1017 wk_1014 wk_1015 wk_1016 wk_5) rfl rfl rfl (by decide +kernel) ⟨Nat.le_of_ble_eq_true rfl, Nat.le_of_ble_eq_true rfl⟩) ⟨PM.blind, va_recv hK hP (ci := 12) (q0 := 0) rfl rfl, fun U hU hW => ⟨rfl, PM.at hK hE hP hS hU hW⟩⟩ rfl rfl hl.1 rfl (lv_room (Nat.le_of_ble_eq_true rfl)) dX12_operand_98 ⟨Nat.le_of_ble_eq_true rfl, Nat.le_of_ble_eq_true rfl⟩) hS (fun q _ h => (freeM hS) q h) (freeM hS) (fun r23242 u t H1 locs ht hvm hw hB hz1 hk1 hS => ?_)
            unfold BM at hB
            rw [ht] at hB
            have hP : va_P (dC, dI) classes (wM g c v23231 F23232 rc) H1 := hB
            have hw : r23242.toInt = lkM (v23231 39) (v23231 30) (F23232 24) ∧ ((v23231 39).toInt < (v23231 30).toInt ∨ r23242.toInt = -1) := hw
            rw [show v23231 30 = v 30 from (hf23233 30 (by decide)).trans (hf23219 30 (by decide))] at hw
            rw [hF 24 (by decide)] at hw
            have hw_r23242 := hw
            generalize H1 = H at hP hS ⊢
            refine lv_bipush (v := 41) hx hb dX12_operand_101 (by decide) ?_
            refine lv_icmp_eq (tgt := 111) hx hb dX12_operand_103 (by decide) (fun c23243 => ?_) (fun c23243 => ?_)
            · skip
              have t23244 := cv_eq (a := r23242.toInt) rfl (b := 41) (by decide) c23243
              refine lv_aload_n hx hb dX12_operand_111 rfl (lv_at hl 1 rfl) ?_
              refine lv_dup hx hb dX12_operand_112 rfl ?_
              refine va_get (D := (dC, dI)) (ci := 12) (v := .int (v23231 39)) (C := RX12) (T := TX12) (N := 63) hx hb hwd inA_X12 hown hK hP 0 rfl rfl 39 (by decide) (hwd _ wk_1004) (fun _ h9 => h9) rfl dX12_operand_113 ?_
              have t23245 : 0 ≤ (v23231 39).toInt ∧ (v23231 39).toInt ≤ 120 := hI.1 39 _ _ rfl
              refine lv_iconst (v := 1) hx hb dX12_operand_116 (by decide) ?_
              refine lv_iadd hx hb dX12_operand_117 ?_
              refine lv_topi (fun z23246 e23247 => ?_)
              try (have t23248 := tadd e23247 (a := (v23231 39).toInt) rfl (b := 1) (by decide) (by omega))
              refine va_put (D := (dC, dI)) (ci := 12) (v := .int z23246) (ty := .int) (C := RX12) (T := TX12) (N := 63) (fs := fsM_0 g v23231 rc) hx hb hwd inA_X12 tyX12 tyX12_ok nmX12 hown hK hP (DM hg) hS 0 rfl rfl 39 (by decide) (hwd _ wk_1004) (fun _ h9 => h9) rfl (by decide +kernel) rfl rfl (Nat.le_of_ble_eq_true rfl) dX12_operand_118 (fun H locs hP _ hS => ?_)
              have hP := va_P_eq (pM_39 g c _ _ _ _) hP
              have hI := IM.put hI 39 z23246 rfl (by omega)
              refine lv_aload_n hx hb dX12_operand_121 rfl (lv_at hl 1 rfl) ?_
              refine lv_dup hx hb dX12_operand_122 rfl ?_
              refine va_get (D := (dC, dI)) (ci := 12) (v := .int (v23231 41)) (C := RX12) (T := TX12) (N := 63) hx hb hwd inA_X12 hown hK hP 0 rfl rfl 41 (by decide) (hwd _ wk_1006) (fun _ h9 => h9) rfl dX12_operand_123 ?_
              have t23249 : 0 ≤ (v23231 41).toInt ∧ (v23231 41).toInt ≤ 8 := hI.1 41 _ _ rfl
              refine lv_iconst (v := 1) hx hb dX12_operand_126 (by decide) ?_
              refine lv_isub hx hb dX12_operand_127 ?_
              refine lv_topi (fun z23250 e23251 => ?_)
              try (have t23252 := tsub e23251 (a := (v23231 41).toInt) rfl (b := 1) (by decide) (by omega))
              refine va_put (D := (dC, dI)) (ci := 12) (v := .int z23250) (ty := .int) (C := RX12) (T := TX12) (N := 63) (fs := fsM_0 g (va_up v23231 39 z23246) rc) hx hb hwd inA_X12 tyX12 tyX12_ok nmX12 hown hK hP (DM hg) hS 0 rfl rfl 41 (by decide) (hwd _ wk_1006) (fun _ h9 => h9) rfl (by decide +kernel) rfl rfl (Nat.le_of_ble_eq_true rfl) dX12_operand_128 (fun H locs hP _ hS => ?_)
              have hP := va_P_eq (pM_41 g c _ _ _ _) hP
              have hI := IM.put hI 41 z23250 rfl (by omega)
              refine lv_goto (tgt := 150) hx hb dX12_operand_131 (by decide) ?_
              have hP9 : va_P (dC, dI) classes (wM g c (va_up (va_up v23231 39 z23246) 41 z23250) F23232 rc) H := hP
              exact W.vret hx hb hr (fun t ht hW => ⟨⟨((va_up (va_up v23231 39 z23246) 41 z23250), F23232, rc), rfl, ⟨hI, rfl, (frU (by decide) (frU (by decide) (frC (by decide) hf23233 (frC (by decide) hf23219 (fun _ _ => rfl))))), hF, (by show ((v 39).toInt ≤ z23246.toInt ∧ z23246.toInt ≤ (v 30).toInt ∧ (v 38).toInt ≤ (v23231 38).toInt ∧ (v23231 38).toInt - (v 38).toInt ≤ z23246.toInt - (v 39).toInt ∧ (v 41).toInt ≤ z23250.toInt ∧ ((v23231 40).toInt < 0 → z23250.toInt = (v 41).toInt)) ∧ keepL (v 37) (F 28) (F 29) (F23232 28) (F23232 29) ∧ ((v23231 40).toInt < 0 → dp (F23232 28) (F23232 29) (bI (v 37)) (v23231 38).toInt.toNat = some (d + 1)); exact ⟨by omega, hk, fun hf => (hd (by omega)).trans (congrArg some (by omega))⟩)⟩, (by show va_P _ _ _ t.heap; rw [ht]; exact hP9)⟩, hS.F ht⟩) hS.2.2 dX12_operand_150
            · skip
              have t23253 := cv_ne (a := r23242.toInt) rfl (b := 41) (by decide) c23243
              refine lv_aload_n hx hb dX12_operand_106 rfl (lv_at hl 1 rfl) ?_
              refine va_callv (va_runV (As := []) (rest := []) ⟨hx, hb, hml, hown, hwd⟩ (c_X12_wrong l dC dI g c adK adV v23231 F23232 rc H.size  hg hI ) (cwV 0 hwd (gV wk_1029 wk_1026 wk_1027 wk_1028 wk_5) rfl rfl rfl (by decide +kernel) ⟨Nat.le_of_ble_eq_true rfl, Nat.le_of_ble_eq_true rfl⟩) ⟨PM.blind, va_recv hK hP (ci := 12) (q0 := 0) rfl rfl, fun U hU hW => ⟨rfl, PM.at hK hE hP hS hU hW⟩⟩ rfl rfl hl.1 rfl (lv_room (Nat.le_of_ble_eq_true rfl)) dX12_operand_107 ⟨Nat.le_of_ble_eq_true rfl, Nat.le_of_ble_eq_true rfl⟩) hS (fun q _ h => (freeM hS) q h) (freeM hS) (fun u t H1 locs ht hvm hw hB hz1 hk1 hS => ?_)
              unfold BM at hB
              rw [ht] at hB
              obtain ⟨v23255, F23256, rc9⟩ := u
              obtain ⟨hI, hrc, hf23257, hG23258, hw⟩ := hw
              dsimp only at hI hrc hB hf23257 hG23258 hw
              have hF := frCF (by decide) hG23258 hF
              rw [hrc] at hB
              have hP : va_P (dC, dI) classes (wM g c v23255 F23256 rc) H1 := hB
              have hw : 0 ≤ (v23255 40).toInt := hw
              have hw_r23254 := hw
              generalize H1 = H at hP hS ⊢
              have hk : keepL (v 37) (F 28) (F 29) (F23256 28) (F23256 29) := by rw [hG23258 28 (by decide), hG23258 29 (by decide)]; exact hk
              have hd : (v23255 40).toInt < 0 → dp (F23256 28) (F23256 29) (bI (v 37)) (v23231 38).toInt.toNat = some (d + 1) := fun hf => (by rw [hG23258 28 (by decide), hG23258 29 (by decide)]; exact hd (by omega))
              have hP9 : va_P (dC, dI) classes (wM g c v23255 F23256 rc) H := hP
              exact W.vret hx hb hr (fun t ht hW => ⟨⟨(v23255, F23256, rc), rfl, ⟨hI, rfl, (frC (by decide) hf23257 (frC (by decide) hf23233 (frC (by decide) hf23219 (fun _ _ => rfl)))), hF, (by show ((v 39).toInt ≤ (v23255 39).toInt ∧ (v23255 39).toInt ≤ (v 30).toInt ∧ (v 38).toInt ≤ (v23255 38).toInt ∧ (v23255 38).toInt - (v 38).toInt ≤ (v23255 39).toInt - (v 39).toInt ∧ (v 41).toInt ≤ (v23255 41).toInt ∧ ((v23255 40).toInt < 0 → (v23255 41).toInt = (v 41).toInt)) ∧ keepL (v 37) (F 28) (F 29) (F23256 28) (F23256 29) ∧ ((v23255 40).toInt < 0 → dp (F23256 28) (F23256 29) (bI (v 37)) (v23255 38).toInt.toNat = some (d + 1)); rw [show v23255 39 = v23231 39 from hf23257 39 (by decide)]; rw [show v23255 38 = v23231 38 from hf23257 38 (by decide)]; rw [show v23255 41 = v23231 41 from hf23257 41 (by decide)]; exact ⟨by omega, hk, fun hf => (hd (by omega)).trans (congrArg some (by omega))⟩)⟩, (by show va_P _ _ _ t.heap; rw [ht]; exact hP9)⟩, hS.F ht⟩) hS.2.2 dX12_operand_110
          · skip
            have t23259 := cv_nlt (a := (v23231 40).toInt) rfl (b := 0) (by decide) c23238
            have hP9 : va_P (dC, dI) classes (wM g c v23231 F23232 rc) H := hP
            exact W.vret hx hb hr (fun t ht hW => ⟨⟨(v23231, F23232, rc), rfl, ⟨hI, rfl, (frC (by decide) hf23233 (frC (by decide) hf23219 (fun _ _ => rfl))), hF, (by show ((v 39).toInt ≤ (v23231 39).toInt ∧ (v23231 39).toInt ≤ (v 30).toInt ∧ (v 38).toInt ≤ (v23231 38).toInt ∧ (v23231 38).toInt - (v 38).toInt ≤ (v23231 39).toInt - (v 39).toInt ∧ (v 41).toInt ≤ (v23231 41).toInt ∧ ((v23231 40).toInt < 0 → (v23231 41).toInt = (v 41).toInt)) ∧ keepL (v 37) (F 28) (F 29) (F23232 28) (F23232 29) ∧ ((v23231 40).toInt < 0 → dp (F23232 28) (F23232 29) (bI (v 37)) (v23231 38).toInt.toNat = some (d + 1)); exact ⟨by omega, hk, fun hf => (hd (by omega)).trans (congrArg some (by omega))⟩)⟩, (by show va_P _ _ _ t.heap; rw [ht]; exact hP9)⟩, hS.F ht⟩) hS.2.2 dX12_operand_96
        · skip
          have t23260 := cv_eq (a := r23216.toInt) rfl (b := 0) (by decide) c23223
          have hP9 : va_P (dC, dI) classes (wM g c v23217 F23218 rc) H := hP
          exact W.vret hx hb hr (fun t ht hW => ⟨⟨(v23217, F23218, rc), rfl, ⟨hI, rfl, (frC (by decide) hf23219 (fun _ _ => rfl)), hF, (by show ((v 39).toInt ≤ (v23217 39).toInt ∧ (v23217 39).toInt ≤ (v 30).toInt ∧ (v 38).toInt ≤ (v23217 38).toInt ∧ (v23217 38).toInt - (v 38).toInt ≤ (v23217 39).toInt - (v 39).toInt ∧ (v 41).toInt ≤ (v23217 41).toInt ∧ ((v23217 40).toInt < 0 → (v23217 41).toInt = (v 41).toInt)) ∧ keepL (v 37) (F 28) (F 29) (F23218 28) (F23218 29) ∧ ((v23217 40).toInt < 0 → dp (F23218 28) (F23218 29) (bI (v 37)) (v23217 38).toInt.toNat = some (d + 1)); rw [show v23217 38 = v 38 from hf23219 38 (by decide)]; exact ⟨by omega, hk, fun hf => (hd (by omega)).trans (congrArg some (by omega))⟩)⟩, (by show va_P _ _ _ t.heap; rw [ht]; exact hP9)⟩, hS.F ht⟩) hS.2.2 dX12_operand_84
    · skip
      have t23261 := cv_eq (a := r23185.toInt) rfl (b := 45) (by decide) c23189
      refine lv_aload_n hx hb dX12_operand_40 rfl (lv_at hl 1 rfl) ?_
      have t23262 : 0 ≤ (v 39).toInt ∧ (v 39).toInt ≤ 120 := hI.1 39 _ _ rfl
      have t23263 : 0 ≤ (v 41).toInt ∧ (v 41).toInt ≤ 8 := hI.1 41 _ _ rfl
      refine va_calli (va_runV (As := []) (rest := []) ⟨hx, hb, hml, hown, hwd⟩ (c_X12_opens l dC dI g c adK adV v F rc H.size  hg hI (by have h9 : v 39 = v 39 := rfl; (try rw [h9]); clear h9; have h9 : v 30 = v 30 := rfl; (try rw [h9]); clear h9; omega)) (cwV 0 hwd (gV wk_1025 wk_1022 wk_1023 wk_1024 wk_5) rfl rfl rfl (by decide +kernel) ⟨Nat.le_of_ble_eq_true rfl, Nat.le_of_ble_eq_true rfl⟩) ⟨PM.blind, va_recv hK hP (ci := 12) (q0 := 0) rfl rfl, fun U hU hW => ⟨rfl, PM.at hK hE hP hS hU hW⟩⟩ rfl rfl hl.1 rfl (lv_room (Nat.le_of_ble_eq_true rfl)) dX12_operand_41 ⟨Nat.le_of_ble_eq_true rfl, Nat.le_of_ble_eq_true rfl⟩) hS (fun q _ h => (freeM hS) q h) (freeM hS) (fun r23264 u t H1 locs ht hvm hw hB hz1 hk1 hS => ?_)
      unfold BM at hB
      rw [ht] at hB
      obtain ⟨v23265, F23266, rc9⟩ := u
      obtain ⟨hI, hrc, hf23267, hG23268, hw⟩ := hw
      dsimp only at hI hrc hB hf23267 hG23268 hw
      have hF := frCF (by decide) hG23268 hF
      rw [hrc] at hB
      have hP : va_P (dC, dI) classes (wM g c v23265 F23266 rc) H1 := hB
      have hw : (r23264.toInt = 1 ∧ (v 41).toInt < 8 ∧ (v23265 41).toInt = (v 41).toInt + 1 ∧ (v23265 39).toInt = (v 39).toInt + 1 ∧ (v23265 40).toInt = (v 40).toInt) ∨ (r23264.toInt = 0 ∧ (v 41).toInt = 8 ∧ 0 ≤ (v23265 40).toInt ∧ (v23265 41).toInt = (v 41).toInt ∧ (v23265 39).toInt = (v 39).toInt) := hw
      have hw_r23264 := hw
      have t23269 : 0 ≤ (v23265 39).toInt ∧ (v23265 39).toInt ≤ 120 := hI.1 39 _ _ rfl
      have t23270 : 0 ≤ (v23265 41).toInt ∧ (v23265 41).toInt ≤ 8 := hI.1 41 _ _ rfl
      generalize H1 = H at hP hS ⊢
      have hk : keepL (v 37) (F 28) (F 29) (F23266 28) (F23266 29) := by rw [hG23268 28 (by decide), hG23268 29 (by decide)]; exact hk
      have hd : (v23265 40).toInt < 0 → dp (F23266 28) (F23266 29) (bI (v 37)) (v 38).toInt.toNat = some d := fun hf => (by rw [hG23268 28 (by decide), hG23268 29 (by decide)]; exact hd (by omega))
      refine lv_if_ne (tgt := 48) hx hb dX12_operand_44 (by decide) (fun c23271 => ?_) (fun c23271 => ?_)
      · skip
        have t23272 := cv_ne (a := r23264.toInt) rfl (b := 0) (by decide) c23271
        refine lv_aload_n hx hb dX12_operand_48 rfl (lv_at hl 1 rfl) ?_
        have t23273 : 0 ≤ (v 30).toInt ∧ (v 30).toInt ≤ 120 := by have h9 := hI.1 30 _ _ rfl; rw [show v23265 30 = v 30 from hf23267 30 (by decide)] at h9; exact h9
        have t23274 : 0 ≤ (v 37).toInt ∧ (v 37).toInt ≤ 9 := by have h9 := hI.1 37 _ _ rfl; rw [show v23265 37 = v 37 from hf23267 37 (by decide)] at h9; exact h9
        have t23275 : 0 ≤ (v 38).toInt ∧ (v 38).toInt ≤ 120 := by have h9 := hI.1 38 _ _ rfl; rw [show v23265 38 = v 38 from hf23267 38 (by decide)] at h9; exact h9
        have t23276 : 0 ≤ (v23265 39).toInt ∧ (v23265 39).toInt ≤ 120 := hI.1 39 _ _ rfl
        have t23277 : 0 ≤ (v23265 41).toInt ∧ (v23265 41).toInt ≤ 8 := hI.1 41 _ _ rfl
        refine va_callv (va_runV (As := []) (rest := []) ⟨hx, hb, hml, hown, hwd⟩ (c_X12_operand_1 l dC dI g c adK adV v23265 F23266 rc H.size  d hg hI (by have h9 : v23265 38 = v 38 := hf23267 38 (by decide); (try rw [h9]); clear h9; have h9 : v23265 39 = v23265 39 := rfl; (try rw [h9]); clear h9; have h9 : v23265 30 = v 30 := hf23267 30 (by decide); (try rw [h9]); clear h9; have h9 : v23265 40 = v23265 40 := rfl; (try rw [h9]); clear h9; have h9 : v23265 41 = v23265 41 := rfl; (try rw [h9]); clear h9; omega) (by have h9 : v23265 37 = (v 37) := hf23267 37 (by decide); have h8 : v23265 38 = (v 38) := hf23267 38 (by decide); (try rw [h9]); (try rw [h8]); exact hd (by omega))) (cwV 0 hwd (gV wk_1030 wk_1035 wk_1036 wk_1037 wk_5) rfl rfl rfl (by decide +kernel) ⟨Nat.le_of_ble_eq_true rfl, Nat.le_of_ble_eq_true rfl⟩) ⟨PM.blind, va_recv hK hP (ci := 12) (q0 := 0) rfl rfl, fun U hU hW => ⟨rfl, PM.at hK hE hP hS hU hW⟩⟩ rfl rfl hl.1 rfl (lv_room (Nat.le_of_ble_eq_true rfl)) dX12_operand_49 ⟨Nat.le_of_ble_eq_true rfl, Nat.le_of_ble_eq_true rfl⟩) hS (fun q _ h => (freeM hS) q h) (freeM hS) (fun u t H1 locs ht hvm hw hB hz1 hk1 hS => ?_)
        unfold BM at hB
        rw [ht] at hB
        obtain ⟨v23279, F23280, rc9⟩ := u
        obtain ⟨hI, hrc, hf23281, hG23282, hw⟩ := hw
        dsimp only at hI hrc hB hf23281 hG23282 hw
        have hF := frCF (by decide) hG23282 hF
        rw [hrc] at hB
        have hP : va_P (dC, dI) classes (wM g c v23279 F23280 rc) H1 := hB
        have hw : ((v23265 39).toInt ≤ (v23279 39).toInt ∧ (v23279 39).toInt ≤ (v23265 30).toInt ∧ (v23265 38).toInt ≤ (v23279 38).toInt ∧ (v23279 38).toInt - (v23265 38).toInt ≤ (v23279 39).toInt - (v23265 39).toInt ∧ (v23265 41).toInt ≤ (v23279 41).toInt ∧ ((v23279 40).toInt < 0 → (v23279 41).toInt = (v23265 41).toInt)) ∧ keepL (v23265 37) (F23266 28) (F23266 29) (F23280 28) (F23280 29) ∧ ((v23279 40).toInt < 0 → dp (F23280 28) (F23280 29) (bI (v23265 37)) (v23279 38).toInt.toNat = some (d + 1)) := hw
        rw [show v23265 30 = v 30 from hf23267 30 (by decide)] at hw
        rw [show v23265 38 = v 38 from hf23267 38 (by decide)] at hw
        rw [show v23265 37 = v 37 from hf23267 37 (by decide)] at hw
        have hw_r23278 := hw
        have t23283 : 0 ≤ (v23279 38).toInt ∧ (v23279 38).toInt ≤ 120 := hI.1 38 _ _ rfl
        have t23284 : 0 ≤ (v23279 39).toInt ∧ (v23279 39).toInt ≤ 120 := hI.1 39 _ _ rfl
        have t23285 : 0 ≤ (v23279 41).toInt ∧ (v23279 41).toInt ≤ 8 := hI.1 41 _ _ rfl
        generalize H1 = H at hP hS ⊢
        have hk := hk.tr hw_r23278.2.1
        have hd := hw_r23278.2.2
        refine lv_aload_n hx hb dX12_operand_52 rfl (lv_at hl 1 rfl) ?_
        refine lv_iconst (v := 3) hx hb dX12_operand_53 (by decide) ?_
        refine lv_iconst (v := 0) hx hb dX12_operand_54 (by decide) ?_
        have t23286 : 0 ≤ (v 37).toInt ∧ (v 37).toInt ≤ 9 := by have h9 := hI.1 37 _ _ rfl; rw [show v23279 37 = v 37 from (hf23281 37 (by decide)).trans (hf23267 37 (by decide))] at h9; exact h9
        have t23287 : 0 ≤ (v23279 38).toInt ∧ (v23279 38).toInt ≤ 120 := hI.1 38 _ _ rfl
        refine va_callv (va_runV (As := [.int 3, .int 0]) (rest := []) ⟨hx, hb, hml, hown, hwd⟩ (c_X12_lay l dC dI g c adK adV v23279 F23280 rc H.size 3 0 hg hI (by have h9 : v23279 38 = v23279 38 := rfl; rw [h9]; omega)) (cwV 2 hwd (gV wk_1021 wk_1018 wk_1019 wk_1020 wk_5) rfl rfl rfl (by decide +kernel) ⟨Nat.le_of_ble_eq_true rfl, Nat.le_of_ble_eq_true rfl⟩) ⟨PM.blind, va_recv hK hP (ci := 12) (q0 := 0) rfl rfl, fun U hU hW => ⟨rfl, PM.at hK hE hP hS hU hW⟩⟩ rfl rfl hl.1 rfl (lv_room (Nat.le_of_ble_eq_true rfl)) dX12_operand_55 ⟨Nat.le_of_ble_eq_true rfl, Nat.le_of_ble_eq_true rfl⟩) hS (fun q _ h => (freeM hS) q h) (freeM hS) (fun u t H1 locs ht hvm hw hB hz1 hk1 hS => ?_)
        unfold BM at hB
        rw [ht] at hB
        obtain ⟨v23289, F23290, rc9⟩ := u
        obtain ⟨hI, hrc, hf23291, hG23292, hw⟩ := hw
        dsimp only at hI hrc hB hf23291 hG23292 hw
        have hF := frCF (by decide) hG23292 hF
        rw [hrc] at hB
        have hP : va_P (dC, dI) classes (wM g c v23289 F23290 rc) H1 := hB
        have hw : (v23289 38).toInt = (v23279 38).toInt + 1 ∧ keepL (v23279 37) (F23280 28) (F23280 29) (F23290 28) (F23290 29) ∧ dp (F23290 28) (F23290 29) (bI (v23279 37)) ((v23279 38).toInt.toNat + 1) = dpS (dp (F23280 28) (F23280 29) (bI (v23279 37)) (v23279 38).toInt.toNat) (3 : Int32) (0 : Int32) := hw
        rw [show v23279 37 = v 37 from (hf23281 37 (by decide)).trans (hf23267 37 (by decide))] at hw
        have hw_r23288 := hw
        have t23293 : 0 ≤ (v23289 38).toInt ∧ (v23289 38).toInt ≤ 120 := hI.1 38 _ _ rfl
        have k23294 : (3 : Int32).toInt = 3 := by decide
        have k23295 : (0 : Int32).toInt = 0 := by decide
        generalize H1 = H at hP hS ⊢
        have hk := hk.tr hw_r23288.2.1
        have hd : (v23279 40).toInt < 0 → dp (F23290 28) (F23290 29) (bI (v 37)) (v23289 38).toInt.toNat = some (d + 1) := fun hf => (by have e9 : (v23289 38).toInt.toNat = (v23279 38).toInt.toNat + 1 := (by omega); rw [e9, hw_r23288.2.2, hd hf]; exact dpS_3 (by decide) (by omega))
        refine lv_aload_n hx hb dX12_operand_58 rfl (lv_at hl 1 rfl) ?_
        refine lv_dup hx hb dX12_operand_59 rfl ?_
        refine va_get (D := (dC, dI)) (ci := 12) (v := .int (v23289 41)) (C := RX12) (T := TX12) (N := 63) hx hb hwd inA_X12 hown hK hP 0 rfl rfl 41 (by decide) (hwd _ wk_1006) (fun _ h9 => h9) rfl dX12_operand_60 ?_
        refine my_top (v := v23279 41) (hf23291 41 (by decide)) ?_
        have t23296 : 0 ≤ (v23279 41).toInt ∧ (v23279 41).toInt ≤ 8 := by have h9 := hI.1 41 _ _ rfl; rw [show v23289 41 = v23279 41 from hf23291 41 (by decide)] at h9; exact h9
        refine lv_iconst (v := 1) hx hb dX12_operand_63 (by decide) ?_
        refine lv_isub hx hb dX12_operand_64 ?_
        refine lv_topi (fun z23297 e23298 => ?_)
        try (have t23299 := tsub e23298 (a := (v23279 41).toInt) rfl (b := 1) (by decide) (by omega))
        refine va_put (D := (dC, dI)) (ci := 12) (v := .int z23297) (ty := .int) (C := RX12) (T := TX12) (N := 63) (fs := fsM_0 g v23289 rc) hx hb hwd inA_X12 tyX12 tyX12_ok nmX12 hown hK hP (DM hg) hS 0 rfl rfl 41 (by decide) (hwd _ wk_1006) (fun _ h9 => h9) rfl (by decide +kernel) rfl rfl (Nat.le_of_ble_eq_true rfl) dX12_operand_65 (fun H locs hP _ hS => ?_)
        have hP := va_P_eq (pM_41 g c _ _ _ _) hP
        have hI := IM.put hI 41 z23297 rfl (by omega)
        refine lv_goto (tgt := 150) hx hb dX12_operand_68 (by decide) ?_
        have hP9 : va_P (dC, dI) classes (wM g c (va_up v23289 41 z23297) F23290 rc) H := hP
        exact W.vret hx hb hr (fun t ht hW => ⟨⟨((va_up v23289 41 z23297), F23290, rc), rfl, ⟨hI, rfl, (frU (by decide) (frC (by decide) hf23291 (frC (by decide) hf23281 (frC (by decide) hf23267 (fun _ _ => rfl))))), hF, (by show ((v 39).toInt ≤ ((va_up v23289 41 z23297) 39).toInt ∧ ((va_up v23289 41 z23297) 39).toInt ≤ (v 30).toInt ∧ (v 38).toInt ≤ (v23289 38).toInt ∧ (v23289 38).toInt - (v 38).toInt ≤ ((va_up v23289 41 z23297) 39).toInt - (v 39).toInt ∧ (v 41).toInt ≤ z23297.toInt ∧ (((va_up v23289 41 z23297) 40).toInt < 0 → z23297.toInt = (v 41).toInt)) ∧ keepL (v 37) (F 28) (F 29) (F23290 28) (F23290 29) ∧ (((va_up v23289 41 z23297) 40).toInt < 0 → dp (F23290 28) (F23290 29) (bI (v 37)) (v23289 38).toInt.toNat = some (d + 1)); rw [show (va_up v23289 41 z23297) 39 = v23279 39 from hf23291 39 (by decide)]; rw [show (va_up v23289 41 z23297) 40 = v23279 40 from hf23291 40 (by decide)]; exact ⟨by omega, hk, fun hf => (hd (by omega)).trans (congrArg some (by omega))⟩)⟩, (by show va_P _ _ _ t.heap; rw [ht]; exact hP9)⟩, hS.F ht⟩) hS.2.2 dX12_operand_150
      · skip
        have t23300 := cv_eq (a := r23264.toInt) rfl (b := 0) (by decide) c23271
        have hP9 : va_P (dC, dI) classes (wM g c v23265 F23266 rc) H := hP
        exact W.vret hx hb hr (fun t ht hW => ⟨⟨(v23265, F23266, rc), rfl, ⟨hI, rfl, (frC (by decide) hf23267 (fun _ _ => rfl)), hF, (by show ((v 39).toInt ≤ (v23265 39).toInt ∧ (v23265 39).toInt ≤ (v 30).toInt ∧ (v 38).toInt ≤ (v23265 38).toInt ∧ (v23265 38).toInt - (v 38).toInt ≤ (v23265 39).toInt - (v 39).toInt ∧ (v 41).toInt ≤ (v23265 41).toInt ∧ ((v23265 40).toInt < 0 → (v23265 41).toInt = (v 41).toInt)) ∧ keepL (v 37) (F 28) (F 29) (F23266 28) (F23266 29) ∧ ((v23265 40).toInt < 0 → dp (F23266 28) (F23266 29) (bI (v 37)) (v23265 38).toInt.toNat = some (d + 1)); rw [show v23265 38 = v 38 from hf23267 38 (by decide)]; exact ⟨by omega, hk, fun hf => (hd (by omega)).trans (congrArg some (by omega))⟩)⟩, (by show va_P _ _ _ t.heap; rw [ht]; exact hP9)⟩, hS.F ht⟩) hS.2.2 dX12_operand_47
  · skip
    have t23301 := cv_nlt (a := r23186.toInt) rfl (b := 0) (by decide) c23187
    refine lv_aload_n hx hb dX12_operand_12 rfl (lv_at hl 1 rfl) ?_
    refine lv_iconst (v := 2) hx hb dX12_operand_13 (by decide) ?_
    refine lv_iload_n hx hb dX12_operand_14 rfl (lv_at hl 0 rfl) ?_
    refine va_calli (va_runS (As := [.int r23185]) (rest := [.int 2, .ref (g 0)]) ⟨hx, hb, hml, hown, hwd⟩ (c_X12_nameOf l dC dI g c adK adV v F rc H.size r23185 hg hI ) (va_cwS 1 hwd (gT wk_1034 wk_1032 wk_1033 wk_5) rfl rfl rfl (by decide +kernel) ⟨Nat.le_of_ble_eq_true rfl, Nat.le_of_ble_eq_true rfl⟩) ⟨PM.blind, fun U hU hW => ⟨rfl, PM.at hK hE hP hS hU hW⟩⟩ rfl rfl hl.1 rfl (lv_room (Nat.le_of_ble_eq_true rfl)) dX12_operand_15 ⟨Nat.le_of_ble_eq_true rfl, Nat.le_of_ble_eq_true rfl⟩) hS (fun q _ h => (freeM hS) q h) (freeM hS) (fun r23302 u t H1 locs ht hvm hw hB hz1 hk1 hS => ?_)
    unfold BM at hB
    rw [ht] at hB
    have hP : va_P (dC, dI) classes (wM g c v F rc) H1 := hB
    have hw : r23302.toInt = nmM r23185 ∧ (-1 ≤ r23302.toInt ∧ r23302.toInt ≤ 5) := hw
    have hw_r23302 := hw
    generalize H1 = H at hP hS ⊢
    have np_r23302 := nmM_pos r23185
    have t23303 : 0 ≤ (v 37).toInt ∧ (v 37).toInt ≤ 9 := hI.1 37 _ _ rfl
    have t23304 : 0 ≤ (v 38).toInt ∧ (v 38).toInt ≤ 120 := hI.1 38 _ _ rfl
    refine va_callv (va_runV (As := [.int 2, .int r23302]) (rest := []) ⟨hx, hb, hml, hown, hwd⟩ (c_X12_lay l dC dI g c adK adV v F rc H.size 2 r23302 hg hI (by have h9 : v 38 = v 38 := rfl; rw [h9]; omega)) (cwV 2 hwd (gV wk_1021 wk_1018 wk_1019 wk_1020 wk_5) rfl rfl rfl (by decide +kernel) ⟨Nat.le_of_ble_eq_true rfl, Nat.le_of_ble_eq_true rfl⟩) ⟨PM.blind, va_recv hK hP (ci := 12) (q0 := 0) rfl rfl, fun U hU hW => ⟨rfl, PM.at hK hE hP hS hU hW⟩⟩ rfl rfl hl.1 rfl (lv_room (Nat.le_of_ble_eq_true rfl)) dX12_operand_18 ⟨Nat.le_of_ble_eq_true rfl, Nat.le_of_ble_eq_true rfl⟩) hS (fun q _ h => (freeM hS) q h) (freeM hS) (fun u t H1 locs ht hvm hw hB hz1 hk1 hS => ?_)
    unfold BM at hB
    rw [ht] at hB
    obtain ⟨v23306, F23307, rc9⟩ := u
    obtain ⟨hI, hrc, hf23308, hG23309, hw⟩ := hw
    dsimp only at hI hrc hB hf23308 hG23309 hw
    have hF := frCF (by decide) hG23309 hF
    rw [hrc] at hB
    have hP : va_P (dC, dI) classes (wM g c v23306 F23307 rc) H1 := hB
    have hw : (v23306 38).toInt = (v 38).toInt + 1 ∧ keepL (v 37) (F 28) (F 29) (F23307 28) (F23307 29) ∧ dp (F23307 28) (F23307 29) (bI (v 37)) ((v 38).toInt.toNat + 1) = dpS (dp (F 28) (F 29) (bI (v 37)) (v 38).toInt.toNat) (2 : Int32) r23302 := hw
    have hw_r23305 := hw
    have t23310 : 0 ≤ (v23306 38).toInt ∧ (v23306 38).toInt ≤ 120 := hI.1 38 _ _ rfl
    have k23311 : (2 : Int32).toInt = 2 := by decide
    generalize H1 = H at hP hS ⊢
    have hk := hk.tr hw_r23305.2.1
    have hd : (v 40).toInt < 0 → dp (F23307 28) (F23307 29) (bI (v 37)) (v23306 38).toInt.toNat = some (d + 1) := fun hf => (by have e9 : (v23306 38).toInt.toNat = (v 38).toInt.toNat + 1 := (by omega); rw [e9, hw_r23305.2.2, hd hf]; exact dpS_2 (by decide) (by omega))
    refine lv_aload_n hx hb dX12_operand_21 rfl (lv_at hl 1 rfl) ?_
    refine lv_dup hx hb dX12_operand_22 rfl ?_
    refine va_get (D := (dC, dI)) (ci := 12) (v := .int (v23306 39)) (C := RX12) (T := TX12) (N := 63) hx hb hwd inA_X12 hown hK hP 0 rfl rfl 39 (by decide) (hwd _ wk_1004) (fun _ h9 => h9) rfl dX12_operand_23 ?_
    refine my_top (v := v 39) (hf23308 39 (by decide)) ?_
    have t23312 : 0 ≤ (v 39).toInt ∧ (v 39).toInt ≤ 120 := by have h9 := hI.1 39 _ _ rfl; rw [show v23306 39 = v 39 from hf23308 39 (by decide)] at h9; exact h9
    refine lv_iconst (v := 1) hx hb dX12_operand_26 (by decide) ?_
    refine lv_iadd hx hb dX12_operand_27 ?_
    refine lv_topi (fun z23313 e23314 => ?_)
    try (have t23315 := tadd e23314 (a := (v 39).toInt) rfl (b := 1) (by decide) (by omega))
    refine va_put (D := (dC, dI)) (ci := 12) (v := .int z23313) (ty := .int) (C := RX12) (T := TX12) (N := 63) (fs := fsM_0 g v23306 rc) hx hb hwd inA_X12 tyX12 tyX12_ok nmX12 hown hK hP (DM hg) hS 0 rfl rfl 39 (by decide) (hwd _ wk_1004) (fun _ h9 => h9) rfl (by decide +kernel) rfl rfl (Nat.le_of_ble_eq_true rfl) dX12_operand_28 (fun H locs hP _ hS => ?_)
    have hP := va_P_eq (pM_39 g c _ _ _ _) hP
    have hI := IM.put hI 39 z23313 rfl (by omega)
    refine lv_goto (tgt := 150) hx hb dX12_operand_31 (by decide) ?_
    have hP9 : va_P (dC, dI) classes (wM g c (va_up v23306 39 z23313) F23307 rc) H := hP
    exact W.vret hx hb hr (fun t ht hW => ⟨⟨((va_up v23306 39 z23313), F23307, rc), rfl, ⟨hI, rfl, (frU (by decide) (frC (by decide) hf23308 (fun _ _ => rfl))), hF, (by show ((v 39).toInt ≤ z23313.toInt ∧ z23313.toInt ≤ (v 30).toInt ∧ (v 38).toInt ≤ (v23306 38).toInt ∧ (v23306 38).toInt - (v 38).toInt ≤ z23313.toInt - (v 39).toInt ∧ (v 41).toInt ≤ ((va_up v23306 39 z23313) 41).toInt ∧ (((va_up v23306 39 z23313) 40).toInt < 0 → ((va_up v23306 39 z23313) 41).toInt = (v 41).toInt)) ∧ keepL (v 37) (F 28) (F 29) (F23307 28) (F23307 29) ∧ (((va_up v23306 39 z23313) 40).toInt < 0 → dp (F23307 28) (F23307 29) (bI (v 37)) (v23306 38).toInt.toNat = some (d + 1)); rw [show (va_up v23306 39 z23313) 41 = v 41 from hf23308 41 (by decide)]; rw [show (va_up v23306 39 z23313) 40 = v 40 from hf23308 40 (by decide)]; exact ⟨by omega, hk, fun hf => (hd (by omega)).trans (congrArg some (by omega))⟩)⟩, (by show va_P _ _ _ t.heap; rw [ht]; exact hP9)⟩, hS.F ht⟩) hS.2.2 dX12_operand_150
set_option maxHeartbeats 8000000 in
set_option maxRecDepth 100000 in
theorem c_X12_product_0 (l : Launch) (dC : Nat → ClassId) (dI : Nat → Nat → Nat) (g : Nat → Nat) (c : Nat → ClassId) (adK adV : Nat → Nat) (v : Nat → Int32) (F : Nat → Nat → Int32) (rc sz : Nat) (d : Nat) (hg : injM g) (hI : IM v F) (hq : (v 38).toInt ≤ (v 39).toInt ∧ (v 39).toInt ≤ (v 30).toInt ∧ (v 40).toInt < 0 ∧ (v 41).toInt = 0) (hdp : dp (F 28) (F 29) (bI (v 37)) (v 38).toInt.toNat = some d) : Met l yX12_product (Cond.code yX12_product cX12_product 2 none :: wA) ({ frames := 36, cells := 0, slots := 0, locals := 1440 }) (va_Pc [.ref (g 0)] (PM dC dI g c adK adV v F rc sz)) (va_Qv (fun (u : StM) => IM u.1 u.2.1 ∧ u.2.2 = rc ∧ (∀ k, k ∉ ([38, 39, 40, 41, 42] : List Nat) → u.1 k = v k) ∧ (∀ k, k ∉ ([28, 29] : List Nat) → u.2.1 k = F k) ∧ (((v 39).toInt ≤ (u.1 39).toInt ∧ (u.1 39).toInt ≤ (v 30).toInt ∧ (v 38).toInt ≤ (u.1 38).toInt ∧ (u.1 38).toInt - (v 38).toInt ≤ (u.1 39).toInt - (v 39).toInt ∧ (v 41).toInt ≤ (u.1 41).toInt ∧ ((u.1 40).toInt < 0 → (u.1 41).toInt = (v 41).toInt)) ∧ keepL (v 37) (F 28) (F 29) (u.2.1 28) (u.2.1 29) ∧ ((u.1 40).toInt < 0 → dp (u.2.1 28) (u.2.1 29) (bI (v 37)) (u.1 38).toInt.toNat = some (d + 1)))) (BM dC dI g c) (AM g sz)) 0 0 (AM g sz) := by
  refine Met.ofW (cc := cX12_product) (maxL := 2) (ret := none) (by decide) rfl ?_
  intro p e s m args below meth c0 s₁ B hml hv
  obtain ⟨rfl, hsz, hP, hK, hE⟩ := hv
  have hx := B.exec
  have hb := B.bytes
  have hr := B.returns
  have hts := atoms_spec (ws := Cond.code yX12_product cX12_product 2 none :: wA) B.pre
  have hwd : ∀ w ∈ wA, w.before _ s = true := fun w h => hts w (List.mem_cons_of_mem _ h)
  have hown : s.vm.findClass RX12 = some m.cls := findClass_of_methodNamed B.named
  have hlocks := B.notSynchronized
  subst hsz
  have hl := lv_entry ([.ref (g 0)]) (n := 2) (Nat.le_of_ble_eq_true rfl)
  rw [lg_entry_eq]
  generalize (lg_sl ([.ref (g 0)]) ++ List.replicate (2 - (lg_sl ([.ref (g 0)])).length) Slot.unset).toArray = ls at hl ⊢
  have hl : lv_has ls 2 [(0, .ref (g 0))] := hl
  obtain ⟨H, eH⟩ : ∃ z, z = s.heap := ⟨_, rfl⟩
  have hP : va_P (dC, dI) classes (wM g c v F rc) H := by rw [eH]; exact hP
  have hS : va_S (AM g s.heap.size) s.heap H [] := by rw [eH]; exact va_S.rf
  refine my_heap eH ?_
  have hF : ∀ k, k ∉ ([28, 29] : List Nat) → F k = F k := fun _ _ => rfl
  have hb30 : 0 ≤ (v 30).toInt ∧ (v 30).toInt ≤ 120 := hI.1 30 _ _ rfl
  have hb37 : 0 ≤ (v 37).toInt ∧ (v 37).toInt ≤ 9 := hI.1 37 _ _ rfl
  have hb38 : 0 ≤ (v 38).toInt ∧ (v 38).toInt ≤ 120 := hI.1 38 _ _ rfl
  have hb39 : 0 ≤ (v 39).toInt ∧ (v 39).toInt ≤ 120 := hI.1 39 _ _ rfl
  have hb41 : 0 ≤ (v 41).toInt ∧ (v 41).toInt ≤ 8 := hI.1 41 _ _ rfl
  have hk : keepL (v 37) (F 28) (F 29) (F 28) (F 29) := keepL.rf
  have hd : (v 40).toInt < 0 → dp (F 28) (F 29) (bI (v 37)) (v 38).toInt.toNat = some d := fun _ => hdp
  refine lv_aload_n hx hb dX12_product_0 rfl (lv_at hl 0 rfl) ?_
  have t23406 : 0 ≤ (v 30).toInt ∧ (v 30).toInt ≤ 120 := hI.1 30 _ _ rfl
  have t23407 : 0 ≤ (v 37).toInt ∧ (v 37).toInt ≤ 9 := hI.1 37 _ _ rfl
  have t23408 : 0 ≤ (v 38).toInt ∧ (v 38).toInt ≤ 120 := hI.1 38 _ _ rfl
  have t23409 : 0 ≤ (v 39).toInt ∧ (v 39).toInt ≤ 120 := hI.1 39 _ _ rfl
  have t23410 : 0 ≤ (v 41).toInt ∧ (v 41).toInt ≤ 8 := hI.1 41 _ _ rfl
  refine va_callv (va_runV (As := []) (rest := []) ⟨hx, hb, hml, hown, hwd⟩ (c_X12_operand_0 l dC dI g c adK adV v F rc H.size  d hg hI (by have h9 : v 38 = v 38 := rfl; (try rw [h9]); clear h9; have h9 : v 39 = v 39 := rfl; (try rw [h9]); clear h9; have h9 : v 30 = v 30 := rfl; (try rw [h9]); clear h9; have h9 : v 40 = v 40 := rfl; (try rw [h9]); clear h9; have h9 : v 41 = v 41 := rfl; (try rw [h9]); clear h9; omega) (by have h9 : v 37 = (v 37) := rfl; have h8 : v 38 = (v 38) := rfl; (try rw [h9]); (try rw [h8]); exact hd (by omega))) (cwV 0 hwd (gV wk_1030 wk_1035 wk_1036 wk_1037 wk_5) rfl rfl rfl (by decide +kernel) ⟨Nat.le_of_ble_eq_true rfl, Nat.le_of_ble_eq_true rfl⟩) ⟨PM.blind, va_recv hK hP (ci := 12) (q0 := 0) rfl rfl, fun U hU hW => ⟨rfl, PM.at hK hE hP hS hU hW⟩⟩ rfl rfl hl.1 rfl (lv_room (Nat.le_of_ble_eq_true rfl)) dX12_product_1 ⟨Nat.le_of_ble_eq_true rfl, Nat.le_of_ble_eq_true rfl⟩) hS (fun q _ h => (freeM hS) q h) (freeM hS) (fun u t H1 locs ht hvm hw hB hz1 hk1 hS => ?_)
  unfold BM at hB
  rw [ht] at hB
  obtain ⟨v23412, F23413, rc9⟩ := u
  obtain ⟨hI, hrc, hf23414, hG23415, hw⟩ := hw
  dsimp only at hI hrc hB hf23414 hG23415 hw
  have hF := frCF (by decide) hG23415 hF
  rw [hrc] at hB
  have hP : va_P (dC, dI) classes (wM g c v23412 F23413 rc) H1 := hB
  have hw : ((v 39).toInt ≤ (v23412 39).toInt ∧ (v23412 39).toInt ≤ (v 30).toInt ∧ (v 38).toInt ≤ (v23412 38).toInt ∧ (v23412 38).toInt - (v 38).toInt ≤ (v23412 39).toInt - (v 39).toInt ∧ (v 41).toInt ≤ (v23412 41).toInt ∧ ((v23412 40).toInt < 0 → (v23412 41).toInt = (v 41).toInt)) ∧ keepL (v 37) (F 28) (F 29) (F23413 28) (F23413 29) ∧ ((v23412 40).toInt < 0 → dp (F23413 28) (F23413 29) (bI (v 37)) (v23412 38).toInt.toNat = some (d + 1)) := hw
  have hw_r23411 := hw
  have t23416 : 0 ≤ (v23412 38).toInt ∧ (v23412 38).toInt ≤ 120 := hI.1 38 _ _ rfl
  have t23417 : 0 ≤ (v23412 39).toInt ∧ (v23412 39).toInt ≤ 120 := hI.1 39 _ _ rfl
  have t23418 : 0 ≤ (v23412 41).toInt ∧ (v23412 41).toInt ≤ 8 := hI.1 41 _ _ rfl
  generalize H1 = H at hP hS ⊢
  have hk := hk.tr hw_r23411.2.1
  have hd := hw_r23411.2.2
  have lp23419 : ∀ (n : Nat) (v_lp23419 : Nat → Int32) (F_lp23419 : Nat → Nat → Int32) (H : Heap) (locs : List Loc) (ls : Array Slot), ((v 39).toInt ≤ (v_lp23419 39).toInt ∧ (v_lp23419 39).toInt ≤ (v 30).toInt ∧ (v 38).toInt ≤ (v_lp23419 38).toInt ∧ (v_lp23419 38).toInt - (v 38).toInt ≤ (v_lp23419 39).toInt - (v 39).toInt ∧ (v 41).toInt ≤ (v_lp23419 41).toInt ∧ ((v_lp23419 40).toInt < 0 → (v_lp23419 41).toInt = (v 41).toInt)) → (keepL (v 37) (F 28) (F 29) (F_lp23419 28) (F_lp23419 29)) → (((v_lp23419 40).toInt < 0 → dp (F_lp23419 28) (F_lp23419 29) (bI (v 37)) (v_lp23419 38).toInt.toNat = some (d + 1))) → (121 - (v_lp23419 39).toInt ≤ (n : Int)) → (∀ k, k ∉ ([38, 39, 40, 41, 42] : List Nat) → v_lp23419 k = v23412 k) → IM v_lp23419 F_lp23419 → (∀ k, k ∉ ([28, 29] : List Nat) → F_lp23419 k = F k) → va_P (dC, dI) classes (wM g c v_lp23419 F_lp23419 rc) H → va_S (AM g s.heap.size) s.heap H locs → lv_has ls 2 [(0, .ref (g 0))] → W p l e (headSpec (Cond.code yX12_product cX12_product 2 none :: wA) ({ frames := 36, cells := 0, slots := 0, locals := 1440 })).room s m ([.ref (g 0)] : List Value).toArray below meth c0 H locs 0 0 (MQ below (va_Qv (fun (u : StM) => IM u.1 u.2.1 ∧ u.2.2 = rc ∧ (∀ k, k ∉ ([38, 39, 40, 41, 42] : List Nat) → u.1 k = v k) ∧ (∀ k, k ∉ ([28, 29] : List Nat) → u.2.1 k = F k) ∧ (((v 39).toInt ≤ (u.1 39).toInt ∧ (u.1 39).toInt ≤ (v 30).toInt ∧ (v 38).toInt ≤ (u.1 38).toInt ∧ (u.1 38).toInt - (v 38).toInt ≤ (u.1 39).toInt - (v 39).toInt ∧ (v 41).toInt ≤ (u.1 41).toInt ∧ ((u.1 40).toInt < 0 → (u.1 41).toInt = (v 41).toInt)) ∧ keepL (v 37) (F 28) (F 29) (u.2.1 28) (u.2.1 29) ∧ ((u.1 40).toInt < 0 → dp (u.2.1 28) (u.2.1 29) (bI (v 37)) (u.1 38).toInt.toNat = some (d + 1)))) (BM dC dI g c) (AM g s.heap.size)) ([.ref (g 0)] : List Value).toArray s 0 0 (AM g s.heap.size)) (F0 m 4 ls []) := by
    intro n
    induction n with
    | zero =>
      intro v_lp23419 F_lp23419 H locs ls t23420 t23421 t23422 hm hf_lp23419 hI hF hP hS hl
      exfalso
      have hI1 := hI.1
      omega
    | succ n ih_lp23419 =>
      intro v_lp23419 F_lp23419 H locs ls t23420 t23421 t23422 hm hf_lp23419 hI hF hP hS hl
      have hk := t23421
      have hd := t23422
      refine lv_aload_n hx hb dX12_product_4 rfl (lv_at hl 0 rfl) ?_
      refine va_get (D := (dC, dI)) (ci := 12) (v := .int (v_lp23419 40)) (C := RX12) (T := TX12) (N := 63) hx hb hwd inA_X12 hown hK hP 0 rfl rfl 40 (by decide) (hwd _ wk_1005) (fun _ h9 => h9) rfl dX12_product_5 ?_
      refine lv_if_ge (tgt := 57) hx hb dX12_product_8 (by decide) (fun c23423 => ?_) (fun c23423 => ?_)
      · skip
        have t23424 := cv_le (a := 0) (by decide) (b := (v_lp23419 40).toInt) rfl c23423
        have hP9 : va_P (dC, dI) classes (wM g c v_lp23419 F_lp23419 rc) H := hP
        exact W.vret hx hb hr (fun t ht hW => ⟨⟨(v_lp23419, F_lp23419, rc), rfl, ⟨hI, rfl, (frC (by decide) hf_lp23419 (frC (by decide) hf23414 (fun _ _ => rfl))), hF, (by show ((v 39).toInt ≤ (v_lp23419 39).toInt ∧ (v_lp23419 39).toInt ≤ (v 30).toInt ∧ (v 38).toInt ≤ (v_lp23419 38).toInt ∧ (v_lp23419 38).toInt - (v 38).toInt ≤ (v_lp23419 39).toInt - (v 39).toInt ∧ (v 41).toInt ≤ (v_lp23419 41).toInt ∧ ((v_lp23419 40).toInt < 0 → (v_lp23419 41).toInt = (v 41).toInt)) ∧ keepL (v 37) (F 28) (F 29) (F_lp23419 28) (F_lp23419 29) ∧ ((v_lp23419 40).toInt < 0 → dp (F_lp23419 28) (F_lp23419 29) (bI (v 37)) (v_lp23419 38).toInt.toNat = some (d + 1)); exact ⟨by omega, hk, fun hf => (hd (by omega)).trans (congrArg some (by omega))⟩)⟩, (by show va_P _ _ _ t.heap; rw [ht]; exact hP9)⟩, hS.F ht⟩) hS.2.2 dX12_product_57
      · skip
        have t23425 := cv_nle (a := 0) (by decide) (b := (v_lp23419 40).toInt) rfl c23423
        refine lv_aload_n hx hb dX12_product_11 rfl (lv_at hl 0 rfl) ?_
        have t23426 : 0 ≤ (v 30).toInt ∧ (v 30).toInt ≤ 120 := by have h9 := hI.1 30 _ _ rfl; rw [show v_lp23419 30 = v 30 from (hf_lp23419 30 (by decide)).trans (hf23414 30 (by decide))] at h9; exact h9
        have t23427 : 0 ≤ (v_lp23419 39).toInt ∧ (v_lp23419 39).toInt ≤ 120 := hI.1 39 _ _ rfl
        refine va_calli (va_runV (As := []) (rest := []) ⟨hx, hb, hml, hown, hwd⟩ (c_X12_look l dC dI g c adK adV v_lp23419 F_lp23419 rc H.size  hg hI ) (cwV 0 hwd (gV wk_1017 wk_1014 wk_1015 wk_1016 wk_5) rfl rfl rfl (by decide +kernel) ⟨Nat.le_of_ble_eq_true rfl, Nat.le_of_ble_eq_true rfl⟩) ⟨PM.blind, va_recv hK hP (ci := 12) (q0 := 0) rfl rfl, fun U hU hW => ⟨rfl, PM.at hK hE hP hS hU hW⟩⟩ rfl rfl hl.1 rfl (lv_room (Nat.le_of_ble_eq_true rfl)) dX12_product_12 ⟨Nat.le_of_ble_eq_true rfl, Nat.le_of_ble_eq_true rfl⟩) hS (fun q _ h => (freeM hS) q h) (freeM hS) (fun r23428 u t H1 locs ht hvm hw hB hz1 hk1 hS => ?_)
        unfold BM at hB
        rw [ht] at hB
        have hP : va_P (dC, dI) classes (wM g c v_lp23419 F_lp23419 rc) H1 := hB
        have hw : r23428.toInt = lkM (v_lp23419 39) (v_lp23419 30) (F_lp23419 24) ∧ ((v_lp23419 39).toInt < (v_lp23419 30).toInt ∨ r23428.toInt = -1) := hw
        rw [show v_lp23419 30 = v 30 from (hf_lp23419 30 (by decide)).trans (hf23414 30 (by decide))] at hw
        rw [hF 24 (by decide)] at hw
        have hw_r23428 := hw
        generalize H1 = H at hP hS ⊢
        refine lv_bipush (v := 42) hx hb dX12_product_15 (by decide) ?_
        refine lv_icmp_eq (tgt := 29) hx hb dX12_product_17 (by decide) (fun c23429 => ?_) (fun c23429 => ?_)
        · skip
          have t23430 := cv_eq (a := r23428.toInt) rfl (b := 42) (by decide) c23429
          refine lv_aload_n hx hb dX12_product_29 rfl (lv_at hl 0 rfl) ?_
          have t23431 : 0 ≤ (v 30).toInt ∧ (v 30).toInt ≤ 120 := by have h9 := hI.1 30 _ _ rfl; rw [show v_lp23419 30 = v 30 from (hf_lp23419 30 (by decide)).trans (hf23414 30 (by decide))] at h9; exact h9
          have t23432 : 0 ≤ (v_lp23419 39).toInt ∧ (v_lp23419 39).toInt ≤ 120 := hI.1 39 _ _ rfl
          refine va_calli (va_runV (As := []) (rest := []) ⟨hx, hb, hml, hown, hwd⟩ (c_X12_look l dC dI g c adK adV v_lp23419 F_lp23419 rc H.size  hg hI ) (cwV 0 hwd (gV wk_1017 wk_1014 wk_1015 wk_1016 wk_5) rfl rfl rfl (by decide +kernel) ⟨Nat.le_of_ble_eq_true rfl, Nat.le_of_ble_eq_true rfl⟩) ⟨PM.blind, va_recv hK hP (ci := 12) (q0 := 0) rfl rfl, fun U hU hW => ⟨rfl, PM.at hK hE hP hS hU hW⟩⟩ rfl rfl hl.1 rfl (lv_room (Nat.le_of_ble_eq_true rfl)) dX12_product_30 ⟨Nat.le_of_ble_eq_true rfl, Nat.le_of_ble_eq_true rfl⟩) hS (fun q _ h => (freeM hS) q h) (freeM hS) (fun r23433 u t H1 locs ht hvm hw hB hz1 hk1 hS => ?_)
          unfold BM at hB
          rw [ht] at hB
          have hP : va_P (dC, dI) classes (wM g c v_lp23419 F_lp23419 rc) H1 := hB
          have hw : r23433.toInt = lkM (v_lp23419 39) (v_lp23419 30) (F_lp23419 24) ∧ ((v_lp23419 39).toInt < (v_lp23419 30).toInt ∨ r23433.toInt = -1) := hw
          rw [show v_lp23419 30 = v 30 from (hf_lp23419 30 (by decide)).trans (hf23414 30 (by decide))] at hw
          rw [hF 24 (by decide)] at hw
          have hw_r23433 := hw
          generalize H1 = H at hP hS ⊢
          refine lv_istore_n (lv' := [(1, .int r23433), (0, .ref (g 0))]) hx hb dX12_product_33 rfl hl (by decide) rfl (fun ls hl => ?_)
          refine lv_aload_n hx hb dX12_product_34 rfl (lv_at hl 1 rfl) ?_
          refine lv_dup hx hb dX12_product_35 rfl ?_
          refine va_get (D := (dC, dI)) (ci := 12) (v := .int (v_lp23419 39)) (C := RX12) (T := TX12) (N := 63) hx hb hwd inA_X12 hown hK hP 0 rfl rfl 39 (by decide) (hwd _ wk_1004) (fun _ h9 => h9) rfl dX12_product_36 ?_
          have t23434 : 0 ≤ (v_lp23419 39).toInt ∧ (v_lp23419 39).toInt ≤ 120 := hI.1 39 _ _ rfl
          refine lv_iconst (v := 1) hx hb dX12_product_39 (by decide) ?_
          refine lv_iadd hx hb dX12_product_40 ?_
          refine lv_topi (fun z23435 e23436 => ?_)
          try (have t23437 := tadd e23436 (a := (v_lp23419 39).toInt) rfl (b := 1) (by decide) (by omega))
          refine va_put (D := (dC, dI)) (ci := 12) (v := .int z23435) (ty := .int) (C := RX12) (T := TX12) (N := 63) (fs := fsM_0 g v_lp23419 rc) hx hb hwd inA_X12 tyX12 tyX12_ok nmX12 hown hK hP (DM hg) hS 0 rfl rfl 39 (by decide) (hwd _ wk_1004) (fun _ h9 => h9) rfl (by decide +kernel) rfl rfl (Nat.le_of_ble_eq_true rfl) dX12_product_41 (fun H locs hP _ hS => ?_)
          have hP := va_P_eq (pM_39 g c _ _ _ _) hP
          have hI := IM.put hI 39 z23435 rfl (by omega)
          refine lv_aload_n hx hb dX12_product_44 rfl (lv_at hl 1 rfl) ?_
          have t23438 : 0 ≤ (v 30).toInt ∧ (v 30).toInt ≤ 120 := by have h9 := hI.1 30 _ _ rfl; rw [show (va_up v_lp23419 39 z23435) 30 = v 30 from (hf_lp23419 30 (by decide)).trans (hf23414 30 (by decide))] at h9; exact h9
          have t23439 : 0 ≤ (v 37).toInt ∧ (v 37).toInt ≤ 9 := by have h9 := hI.1 37 _ _ rfl; rw [show (va_up v_lp23419 39 z23435) 37 = v 37 from (hf_lp23419 37 (by decide)).trans (hf23414 37 (by decide))] at h9; exact h9
          have t23440 : 0 ≤ (v_lp23419 38).toInt ∧ (v_lp23419 38).toInt ≤ 120 := hI.1 38 _ _ rfl
          have t23441 : 0 ≤ z23435.toInt ∧ z23435.toInt ≤ 120 := hI.1 39 _ _ rfl
          have t23442 : 0 ≤ (v_lp23419 41).toInt ∧ (v_lp23419 41).toInt ≤ 8 := hI.1 41 _ _ rfl
          refine va_callv (va_runV (As := []) (rest := []) ⟨hx, hb, hml, hown, hwd⟩ (c_X12_operand_0 l dC dI g c adK adV (va_up v_lp23419 39 z23435) F_lp23419 rc H.size  (d + 1) hg hI (by have h9 : (va_up v_lp23419 39 z23435) 38 = v_lp23419 38 := rfl; (try rw [h9]); clear h9; have h9 : (va_up v_lp23419 39 z23435) 39 = z23435 := rfl; (try rw [h9]); clear h9; have h9 : (va_up v_lp23419 39 z23435) 30 = v 30 := (hf_lp23419 30 (by decide)).trans (hf23414 30 (by decide)); (try rw [h9]); clear h9; have h9 : (va_up v_lp23419 39 z23435) 40 = v_lp23419 40 := rfl; (try rw [h9]); clear h9; have h9 : (va_up v_lp23419 39 z23435) 41 = v_lp23419 41 := rfl; (try rw [h9]); clear h9; omega) (by have h9 : (va_up v_lp23419 39 z23435) 37 = (v 37) := (hf_lp23419 37 (by decide)).trans (hf23414 37 (by decide)); have h8 : (va_up v_lp23419 39 z23435) 38 = (v_lp23419 38) := rfl; (try rw [h9]); (try rw [h8]); exact hd (by omega))) (cwV 0 hwd (gV wk_1030 wk_1035 wk_1036 wk_1037 wk_5) rfl rfl rfl (by decide +kernel) ⟨Nat.le_of_ble_eq_true rfl, Nat.le_of_ble_eq_true rfl⟩) ⟨PM.blind, va_recv hK hP (ci := 12) (q0 := 0) rfl rfl, fun U hU hW => ⟨rfl, PM.at hK hE hP hS hU hW⟩⟩ rfl rfl hl.1 rfl (lv_room (Nat.le_of_ble_eq_true rfl)) dX12_product_45 ⟨Nat.le_of_ble_eq_true rfl, Nat.le_of_ble_eq_true rfl⟩) hS (fun q _ h => (freeM hS) q h) (freeM hS) (fun u t H1 locs ht hvm hw hB hz1 hk1 hS => ?_)
          unfold BM at hB
          rw [ht] at hB
          obtain ⟨v23444, F23445, rc9⟩ := u
          obtain ⟨hI, hrc, hf23446, hG23447, hw⟩ := hw
          dsimp only at hI hrc hB hf23446 hG23447 hw
          have hF := frCF (by decide) hG23447 hF
          rw [hrc] at hB
          have hP : va_P (dC, dI) classes (wM g c v23444 F23445 rc) H1 := hB
          have hw : (z23435.toInt ≤ (v23444 39).toInt ∧ (v23444 39).toInt ≤ ((va_up v_lp23419 39 z23435) 30).toInt ∧ (v_lp23419 38).toInt ≤ (v23444 38).toInt ∧ (v23444 38).toInt - (v_lp23419 38).toInt ≤ (v23444 39).toInt - z23435.toInt ∧ (v_lp23419 41).toInt ≤ (v23444 41).toInt ∧ ((v23444 40).toInt < 0 → (v23444 41).toInt = (v_lp23419 41).toInt)) ∧ keepL ((va_up v_lp23419 39 z23435) 37) (F_lp23419 28) (F_lp23419 29) (F23445 28) (F23445 29) ∧ ((v23444 40).toInt < 0 → dp (F23445 28) (F23445 29) (bI ((va_up v_lp23419 39 z23435) 37)) (v23444 38).toInt.toNat = some ((d + 1) + 1)) := hw
          rw [show (va_up v_lp23419 39 z23435) 30 = v 30 from (hf_lp23419 30 (by decide)).trans (hf23414 30 (by decide))] at hw
          rw [show (va_up v_lp23419 39 z23435) 37 = v 37 from (hf_lp23419 37 (by decide)).trans (hf23414 37 (by decide))] at hw
          have hw_r23443 := hw
          have t23448 : 0 ≤ (v23444 38).toInt ∧ (v23444 38).toInt ≤ 120 := hI.1 38 _ _ rfl
          have t23449 : 0 ≤ (v23444 39).toInt ∧ (v23444 39).toInt ≤ 120 := hI.1 39 _ _ rfl
          have t23450 : 0 ≤ (v23444 41).toInt ∧ (v23444 41).toInt ≤ 8 := hI.1 41 _ _ rfl
          generalize H1 = H at hP hS ⊢
          have hk := hk.tr hw_r23443.2.1
          have hd := hw_r23443.2.2
          refine lv_aload_n hx hb dX12_product_48 rfl (lv_at hl 1 rfl) ?_
          refine lv_iload_n hx hb dX12_product_49 rfl (lv_at hl 0 rfl) ?_
          refine lv_iconst (v := 0) hx hb dX12_product_50 (by decide) ?_
          have t23451 : 0 ≤ (v 37).toInt ∧ (v 37).toInt ≤ 9 := by have h9 := hI.1 37 _ _ rfl; rw [show v23444 37 = v 37 from (hf23446 37 (by decide)).trans ((hf_lp23419 37 (by decide)).trans (hf23414 37 (by decide)))] at h9; exact h9
          have t23452 : 0 ≤ (v23444 38).toInt ∧ (v23444 38).toInt ≤ 120 := hI.1 38 _ _ rfl
          refine va_callv (va_runV (As := [.int r23433, .int 0]) (rest := []) ⟨hx, hb, hml, hown, hwd⟩ (c_X12_lay l dC dI g c adK adV v23444 F23445 rc H.size r23433 0 hg hI (by have h9 : v23444 38 = v23444 38 := rfl; rw [h9]; omega)) (cwV 2 hwd (gV wk_1021 wk_1018 wk_1019 wk_1020 wk_5) rfl rfl rfl (by decide +kernel) ⟨Nat.le_of_ble_eq_true rfl, Nat.le_of_ble_eq_true rfl⟩) ⟨PM.blind, va_recv hK hP (ci := 12) (q0 := 0) rfl rfl, fun U hU hW => ⟨rfl, PM.at hK hE hP hS hU hW⟩⟩ rfl rfl hl.1 rfl (lv_room (Nat.le_of_ble_eq_true rfl)) dX12_product_51 ⟨Nat.le_of_ble_eq_true rfl, Nat.le_of_ble_eq_true rfl⟩) hS (fun q _ h => (freeM hS) q h) (freeM hS) (fun u t H1 locs ht hvm hw hB hz1 hk1 hS => ?_)
          unfold BM at hB
          rw [ht] at hB
          obtain ⟨v23454, F23455, rc9⟩ := u
          obtain ⟨hI, hrc, hf23456, hG23457, hw⟩ := hw
          dsimp only at hI hrc hB hf23456 hG23457 hw
          have hF := frCF (by decide) hG23457 hF
          rw [hrc] at hB
          have hP : va_P (dC, dI) classes (wM g c v23454 F23455 rc) H1 := hB
          have hw : (v23454 38).toInt = (v23444 38).toInt + 1 ∧ keepL (v23444 37) (F23445 28) (F23445 29) (F23455 28) (F23455 29) ∧ dp (F23455 28) (F23455 29) (bI (v23444 37)) ((v23444 38).toInt.toNat + 1) = dpS (dp (F23445 28) (F23445 29) (bI (v23444 37)) (v23444 38).toInt.toNat) r23433 (0 : Int32) := hw
          rw [show v23444 37 = v 37 from (hf23446 37 (by decide)).trans ((hf_lp23419 37 (by decide)).trans (hf23414 37 (by decide)))] at hw
          have hw_r23453 := hw
          have t23458 : 0 ≤ (v23454 38).toInt ∧ (v23454 38).toInt ≤ 120 := hI.1 38 _ _ rfl
          have k23459 : (0 : Int32).toInt = 0 := by decide
          generalize H1 = H at hP hS ⊢
          have hk := hk.tr hw_r23453.2.1
          have hd : (v23444 40).toInt < 0 → dp (F23455 28) (F23455 29) (bI (v 37)) (v23454 38).toInt.toNat = some (((d + 1) + 1) - 1) := fun hf => (by have e9 : (v23454 38).toInt.toNat = (v23444 38).toInt.toNat + 1 := (by omega); rw [e9, hw_r23453.2.2, hd hf]; exact dpS_5 (by omega) (by omega) (by omega) (by omega) (by omega))
          refine lv_goto (tgt := 4) hx hb dX12_product_54 (by decide) ?_
          exact ih_lp23419  v23454 F23455 _ _ _ (by have h9 : v23454 39 = v23444 39 := hf23456 39 (by decide); (try rw [h9]); clear h9; have h9 : v23454 38 = v23454 38 := rfl; (try rw [h9]); clear h9; have h9 : v23454 41 = v23444 41 := hf23456 41 (by decide); (try rw [h9]); clear h9; have h9 : v23454 40 = v23444 40 := hf23456 40 (by decide); (try rw [h9]); clear h9; omega) hk (by have h9 : v23454 40 = v23444 40 := hf23456 40 (by decide); (try rw [h9]); clear h9; have h9 : v23454 38 = v23454 38 := rfl; (try rw [h9]); clear h9; exact fun hf => (hd (by omega)).trans (congrArg some (by omega))) (by have h9 : v23454 39 = v23444 39 := hf23456 39 (by decide); rw [h9]; omega) (frC (by decide) hf23456 (frC (by decide) hf23446 (frU (by decide) hf_lp23419))) hI hF hP hS (lv_sub hl [1] rfl)
        · skip
          have t23460 := cv_ne (a := r23428.toInt) rfl (b := 42) (by decide) c23429
          refine lv_aload_n hx hb dX12_product_20 rfl (lv_at hl 0 rfl) ?_
          have t23461 : 0 ≤ (v 30).toInt ∧ (v 30).toInt ≤ 120 := by have h9 := hI.1 30 _ _ rfl; rw [show v_lp23419 30 = v 30 from (hf_lp23419 30 (by decide)).trans (hf23414 30 (by decide))] at h9; exact h9
          have t23462 : 0 ≤ (v_lp23419 39).toInt ∧ (v_lp23419 39).toInt ≤ 120 := hI.1 39 _ _ rfl
          refine va_calli (va_runV (As := []) (rest := []) ⟨hx, hb, hml, hown, hwd⟩ (c_X12_look l dC dI g c adK adV v_lp23419 F_lp23419 rc H.size  hg hI ) (cwV 0 hwd (gV wk_1017 wk_1014 wk_1015 wk_1016 wk_5) rfl rfl rfl (by decide +kernel) ⟨Nat.le_of_ble_eq_true rfl, Nat.le_of_ble_eq_true rfl⟩) ⟨PM.blind, va_recv hK hP (ci := 12) (q0 := 0) rfl rfl, fun U hU hW => ⟨rfl, PM.at hK hE hP hS hU hW⟩⟩ rfl rfl hl.1 rfl (lv_room (Nat.le_of_ble_eq_true rfl)) dX12_product_21 ⟨Nat.le_of_ble_eq_true rfl, Nat.le_of_ble_eq_true rfl⟩) hS (fun q _ h => (freeM hS) q h) (freeM hS) (fun r23463 u t H1 locs ht hvm hw hB hz1 hk1 hS => ?_)
          unfold BM at hB
          rw [ht] at hB
          have hP : va_P (dC, dI) classes (wM g c v_lp23419 F_lp23419 rc) H1 := hB
          have hw : r23463.toInt = lkM (v_lp23419 39) (v_lp23419 30) (F_lp23419 24) ∧ ((v_lp23419 39).toInt < (v_lp23419 30).toInt ∨ r23463.toInt = -1) := hw
          rw [show v_lp23419 30 = v 30 from (hf_lp23419 30 (by decide)).trans (hf23414 30 (by decide))] at hw
          rw [hF 24 (by decide)] at hw
          have hw_r23463 := hw
          generalize H1 = H at hP hS ⊢
          refine lv_bipush (v := 47) hx hb dX12_product_24 (by decide) ?_
          refine lv_icmp_ne (tgt := 57) hx hb dX12_product_26 (by decide) (fun c23464 => ?_) (fun c23464 => ?_)
          · skip
            have t23465 := cv_ne (a := r23463.toInt) rfl (b := 47) (by decide) c23464
            have hP9 : va_P (dC, dI) classes (wM g c v_lp23419 F_lp23419 rc) H := hP
            exact W.vret hx hb hr (fun t ht hW => ⟨⟨(v_lp23419, F_lp23419, rc), rfl, ⟨hI, rfl, (frC (by decide) hf_lp23419 (frC (by decide) hf23414 (fun _ _ => rfl))), hF, (by show ((v 39).toInt ≤ (v_lp23419 39).toInt ∧ (v_lp23419 39).toInt ≤ (v 30).toInt ∧ (v 38).toInt ≤ (v_lp23419 38).toInt ∧ (v_lp23419 38).toInt - (v 38).toInt ≤ (v_lp23419 39).toInt - (v 39).toInt ∧ (v 41).toInt ≤ (v_lp23419 41).toInt ∧ ((v_lp23419 40).toInt < 0 → (v_lp23419 41).toInt = (v 41).toInt)) ∧ keepL (v 37) (F 28) (F 29) (F_lp23419 28) (F_lp23419 29) ∧ ((v_lp23419 40).toInt < 0 → dp (F_lp23419 28) (F_lp23419 29) (bI (v 37)) (v_lp23419 38).toInt.toNat = some (d + 1)); exact ⟨by omega, hk, fun hf => (hd (by omega)).trans (congrArg some (by omega))⟩)⟩, (by show va_P _ _ _ t.heap; rw [ht]; exact hP9)⟩, hS.F ht⟩) hS.2.2 dX12_product_57
          · skip
            have t23466 := cv_eq (a := r23463.toInt) rfl (b := 47) (by decide) c23464
            refine lv_aload_n hx hb dX12_product_29 rfl (lv_at hl 0 rfl) ?_
            have t23467 : 0 ≤ (v 30).toInt ∧ (v 30).toInt ≤ 120 := by have h9 := hI.1 30 _ _ rfl; rw [show v_lp23419 30 = v 30 from (hf_lp23419 30 (by decide)).trans (hf23414 30 (by decide))] at h9; exact h9
            have t23468 : 0 ≤ (v_lp23419 39).toInt ∧ (v_lp23419 39).toInt ≤ 120 := hI.1 39 _ _ rfl
            refine va_calli (va_runV (As := []) (rest := []) ⟨hx, hb, hml, hown, hwd⟩ (c_X12_look l dC dI g c adK adV v_lp23419 F_lp23419 rc H.size  hg hI ) (cwV 0 hwd (gV wk_1017 wk_1014 wk_1015 wk_1016 wk_5) rfl rfl rfl (by decide +kernel) ⟨Nat.le_of_ble_eq_true rfl, Nat.le_of_ble_eq_true rfl⟩) ⟨PM.blind, va_recv hK hP (ci := 12) (q0 := 0) rfl rfl, fun U hU hW => ⟨rfl, PM.at hK hE hP hS hU hW⟩⟩ rfl rfl hl.1 rfl (lv_room (Nat.le_of_ble_eq_true rfl)) dX12_product_30 ⟨Nat.le_of_ble_eq_true rfl, Nat.le_of_ble_eq_true rfl⟩) hS (fun q _ h => (freeM hS) q h) (freeM hS) (fun r23469 u t H1 locs ht hvm hw hB hz1 hk1 hS => ?_)
            unfold BM at hB
            rw [ht] at hB
            have hP : va_P (dC, dI) classes (wM g c v_lp23419 F_lp23419 rc) H1 := hB
            have hw : r23469.toInt = lkM (v_lp23419 39) (v_lp23419 30) (F_lp23419 24) ∧ ((v_lp23419 39).toInt < (v_lp23419 30).toInt ∨ r23469.toInt = -1) := hw
            rw [show v_lp23419 30 = v 30 from (hf_lp23419 30 (by decide)).trans (hf23414 30 (by decide))] at hw
            rw [hF 24 (by decide)] at hw
            have hw_r23469 := hw
            generalize H1 = H at hP hS ⊢
            refine lv_istore_n (lv' := [(1, .int r23469), (0, .ref (g 0))]) hx hb dX12_product_33 rfl hl (by decide) rfl (fun ls hl => ?_)
            refine lv_aload_n hx hb dX12_product_34 rfl (lv_at hl 1 rfl) ?_
            refine lv_dup hx hb dX12_product_35 rfl ?_
            refine va_get (D := (dC, dI)) (ci := 12) (v := .int (v_lp23419 39)) (C := RX12) (T := TX12) (N := 63) hx hb hwd inA_X12 hown hK hP 0 rfl rfl 39 (by decide) (hwd _ wk_1004) (fun _ h9 => h9) rfl dX12_product_36 ?_
            have t23470 : 0 ≤ (v_lp23419 39).toInt ∧ (v_lp23419 39).toInt ≤ 120 := hI.1 39 _ _ rfl
            refine lv_iconst (v := 1) hx hb dX12_product_39 (by decide) ?_
            refine lv_iadd hx hb dX12_product_40 ?_
            refine lv_topi (fun z23471 e23472 => ?_)
            try (have t23473 := tadd e23472 (a := (v_lp23419 39).toInt) rfl (b := 1) (by decide) (by omega))
            refine va_put (D := (dC, dI)) (ci := 12) (v := .int z23471) (ty := .int) (C := RX12) (T := TX12) (N := 63) (fs := fsM_0 g v_lp23419 rc) hx hb hwd inA_X12 tyX12 tyX12_ok nmX12 hown hK hP (DM hg) hS 0 rfl rfl 39 (by decide) (hwd _ wk_1004) (fun _ h9 => h9) rfl (by decide +kernel) rfl rfl (Nat.le_of_ble_eq_true rfl) dX12_product_41 (fun H locs hP _ hS => ?_)
            have hP := va_P_eq (pM_39 g c _ _ _ _) hP
            have hI := IM.put hI 39 z23471 rfl (by omega)
            refine lv_aload_n hx hb dX12_product_44 rfl (lv_at hl 1 rfl) ?_
            have t23474 : 0 ≤ (v 30).toInt ∧ (v 30).toInt ≤ 120 := by have h9 := hI.1 30 _ _ rfl; rw [show (va_up v_lp23419 39 z23471) 30 = v 30 from (hf_lp23419 30 (by decide)).trans (hf23414 30 (by decide))] at h9; exact h9
            have t23475 : 0 ≤ (v 37).toInt ∧ (v 37).toInt ≤ 9 := by have h9 := hI.1 37 _ _ rfl; rw [show (va_up v_lp23419 39 z23471) 37 = v 37 from (hf_lp23419 37 (by decide)).trans (hf23414 37 (by decide))] at h9; exact h9
            have t23476 : 0 ≤ (v_lp23419 38).toInt ∧ (v_lp23419 38).toInt ≤ 120 := hI.1 38 _ _ rfl
            have t23477 : 0 ≤ z23471.toInt ∧ z23471.toInt ≤ 120 := hI.1 39 _ _ rfl
            have t23478 : 0 ≤ (v_lp23419 41).toInt ∧ (v_lp23419 41).toInt ≤ 8 := hI.1 41 _ _ rfl
            refine va_callv (va_runV (As := []) (rest := []) ⟨hx, hb, hml, hown, hwd⟩ (c_X12_operand_0 l dC dI g c adK adV (va_up v_lp23419 39 z23471) F_lp23419 rc H.size  (d + 1) hg hI (by have h9 : (va_up v_lp23419 39 z23471) 38 = v_lp23419 38 := rfl; (try rw [h9]); clear h9; have h9 : (va_up v_lp23419 39 z23471) 39 = z23471 := rfl; (try rw [h9]); clear h9; have h9 : (va_up v_lp23419 39 z23471) 30 = v 30 := (hf_lp23419 30 (by decide)).trans (hf23414 30 (by decide)); (try rw [h9]); clear h9; have h9 : (va_up v_lp23419 39 z23471) 40 = v_lp23419 40 := rfl; (try rw [h9]); clear h9; have h9 : (va_up v_lp23419 39 z23471) 41 = v_lp23419 41 := rfl; (try rw [h9]); clear h9; omega) (by have h9 : (va_up v_lp23419 39 z23471) 37 = (v 37) := (hf_lp23419 37 (by decide)).trans (hf23414 37 (by decide)); have h8 : (va_up v_lp23419 39 z23471) 38 = (v_lp23419 38) := rfl; (try rw [h9]); (try rw [h8]); exact hd (by omega))) (cwV 0 hwd (gV wk_1030 wk_1035 wk_1036 wk_1037 wk_5) rfl rfl rfl (by decide +kernel) ⟨Nat.le_of_ble_eq_true rfl, Nat.le_of_ble_eq_true rfl⟩) ⟨PM.blind, va_recv hK hP (ci := 12) (q0 := 0) rfl rfl, fun U hU hW => ⟨rfl, PM.at hK hE hP hS hU hW⟩⟩ rfl rfl hl.1 rfl (lv_room (Nat.le_of_ble_eq_true rfl)) dX12_product_45 ⟨Nat.le_of_ble_eq_true rfl, Nat.le_of_ble_eq_true rfl⟩) hS (fun q _ h => (freeM hS) q h) (freeM hS) (fun u t H1 locs ht hvm hw hB hz1 hk1 hS => ?_)
            unfold BM at hB
            rw [ht] at hB
            obtain ⟨v23480, F23481, rc9⟩ := u
            obtain ⟨hI, hrc, hf23482, hG23483, hw⟩ := hw
            dsimp only at hI hrc hB hf23482 hG23483 hw
            have hF := frCF (by decide) hG23483 hF
            rw [hrc] at hB
            have hP : va_P (dC, dI) classes (wM g c v23480 F23481 rc) H1 := hB
            have hw : (z23471.toInt ≤ (v23480 39).toInt ∧ (v23480 39).toInt ≤ ((va_up v_lp23419 39 z23471) 30).toInt ∧ (v_lp23419 38).toInt ≤ (v23480 38).toInt ∧ (v23480 38).toInt - (v_lp23419 38).toInt ≤ (v23480 39).toInt - z23471.toInt ∧ (v_lp23419 41).toInt ≤ (v23480 41).toInt ∧ ((v23480 40).toInt < 0 → (v23480 41).toInt = (v_lp23419 41).toInt)) ∧ keepL ((va_up v_lp23419 39 z23471) 37) (F_lp23419 28) (F_lp23419 29) (F23481 28) (F23481 29) ∧ ((v23480 40).toInt < 0 → dp (F23481 28) (F23481 29) (bI ((va_up v_lp23419 39 z23471) 37)) (v23480 38).toInt.toNat = some ((d + 1) + 1)) := hw
            rw [show (va_up v_lp23419 39 z23471) 30 = v 30 from (hf_lp23419 30 (by decide)).trans (hf23414 30 (by decide))] at hw
            rw [show (va_up v_lp23419 39 z23471) 37 = v 37 from (hf_lp23419 37 (by decide)).trans (hf23414 37 (by decide))] at hw
            have hw_r23479 := hw
            have t23484 : 0 ≤ (v23480 38).toInt ∧ (v23480 38).toInt ≤ 120 := hI.1 38 _ _ rfl
            have t23485 : 0 ≤ (v23480 39).toInt ∧ (v23480 39).toInt ≤ 120 := hI.1 39 _ _ rfl
            have t23486 : 0 ≤ (v23480 41).toInt ∧ (v23480 41).toInt ≤ 8 := hI.1 41 _ _ rfl
            generalize H1 = H at hP hS ⊢
            have hk := hk.tr hw_r23479.2.1
            have hd := hw_r23479.2.2
            refine lv_aload_n hx hb dX12_product_48 rfl (lv_at hl 1 rfl) ?_
            refine lv_iload_n hx hb dX12_product_49 rfl (lv_at hl 0 rfl) ?_
            refine lv_iconst (v := 0) hx hb dX12_product_50 (by decide) ?_
            have t23487 : 0 ≤ (v 37).toInt ∧ (v 37).toInt ≤ 9 := by have h9 := hI.1 37 _ _ rfl; rw [show v23480 37 = v 37 from (hf23482 37 (by decide)).trans ((hf_lp23419 37 (by decide)).trans (hf23414 37 (by decide)))] at h9; exact h9
            have t23488 : 0 ≤ (v23480 38).toInt ∧ (v23480 38).toInt ≤ 120 := hI.1 38 _ _ rfl
            refine va_callv (va_runV (As := [.int r23469, .int 0]) (rest := []) ⟨hx, hb, hml, hown, hwd⟩ (c_X12_lay l dC dI g c adK adV v23480 F23481 rc H.size r23469 0 hg hI (by have h9 : v23480 38 = v23480 38 := rfl; rw [h9]; omega)) (cwV 2 hwd (gV wk_1021 wk_1018 wk_1019 wk_1020 wk_5) rfl rfl rfl (by decide +kernel) ⟨Nat.le_of_ble_eq_true rfl, Nat.le_of_ble_eq_true rfl⟩) ⟨PM.blind, va_recv hK hP (ci := 12) (q0 := 0) rfl rfl, fun U hU hW => ⟨rfl, PM.at hK hE hP hS hU hW⟩⟩ rfl rfl hl.1 rfl (lv_room (Nat.le_of_ble_eq_true rfl)) dX12_product_51 ⟨Nat.le_of_ble_eq_true rfl, Nat.le_of_ble_eq_true rfl⟩) hS (fun q _ h => (freeM hS) q h) (freeM hS) (fun u t H1 locs ht hvm hw hB hz1 hk1 hS => ?_)
            unfold BM at hB
            rw [ht] at hB
            obtain ⟨v23490, F23491, rc9⟩ := u
            obtain ⟨hI, hrc, hf23492, hG23493, hw⟩ := hw
            dsimp only at hI hrc hB hf23492 hG23493 hw
            have hF := frCF (by decide) hG23493 hF
            rw [hrc] at hB
            have hP : va_P (dC, dI) classes (wM g c v23490 F23491 rc) H1 := hB
            have hw : (v23490 38).toInt = (v23480 38).toInt + 1 ∧ keepL (v23480 37) (F23481 28) (F23481 29) (F23491 28) (F23491 29) ∧ dp (F23491 28) (F23491 29) (bI (v23480 37)) ((v23480 38).toInt.toNat + 1) = dpS (dp (F23481 28) (F23481 29) (bI (v23480 37)) (v23480 38).toInt.toNat) r23469 (0 : Int32) := hw
            rw [show v23480 37 = v 37 from (hf23482 37 (by decide)).trans ((hf_lp23419 37 (by decide)).trans (hf23414 37 (by decide)))] at hw
            have hw_r23489 := hw
            have t23494 : 0 ≤ (v23490 38).toInt ∧ (v23490 38).toInt ≤ 120 := hI.1 38 _ _ rfl
            have k23495 : (0 : Int32).toInt = 0 := by decide
            generalize H1 = H at hP hS ⊢
            have hk := hk.tr hw_r23489.2.1
            have hd : (v23480 40).toInt < 0 → dp (F23491 28) (F23491 29) (bI (v 37)) (v23490 38).toInt.toNat = some (((d + 1) + 1) - 1) := fun hf => (by have e9 : (v23490 38).toInt.toNat = (v23480 38).toInt.toNat + 1 := (by omega); rw [e9, hw_r23489.2.2, hd hf]; exact dpS_5 (by omega) (by omega) (by omega) (by omega) (by omega))
            refine lv_goto (tgt := 4) hx hb dX12_product_54 (by decide) ?_
            exact ih_lp23419  v23490 F23491 _ _ _ (by have h9 : v23490 39 = v23480 39 := hf23492 39 (by decide); (try rw [h9]); clear h9; have h9 : v23490 38 = v23490 38 := rfl; (try rw [h9]); clear h9; have h9 : v23490 41 = v23480 41 := hf23492 41 (by decide); (try rw [h9]); clear h9; have h9 : v23490 40 = v23480 40 := hf23492 40 (by decide); (try rw [h9]); clear h9; omega) hk (by have h9 : v23490 40 = v23480 40 := hf23492 40 (by decide); (try rw [h9]); clear h9; have h9 : v23490 38 = v23490 38 := rfl; (try rw [h9]); clear h9; exact fun hf => (hd (by omega)).trans (congrArg some (by omega))) (by have h9 : v23490 39 = v23480 39 := hf23492 39 (by decide); rw [h9]; omega) (frC (by decide) hf23492 (frC (by decide) hf23482 (frU (by decide) hf_lp23419))) hI hF hP hS (lv_sub hl [1] rfl)
  obtain ⟨n9, hn9⟩ : ∃ n : Nat, 121 - (v23412 39).toInt ≤ (n : Int) := ⟨((121 - (v23412 39).toInt : Int)).toNat, by omega⟩
  exact lp23419 n9  v23412 F23413 H _ ls (by have h9 : v23412 39 = v23412 39 := rfl; (try rw [h9]); clear h9; have h9 : v23412 38 = v23412 38 := rfl; (try rw [h9]); clear h9; have h9 : v23412 41 = v23412 41 := rfl; (try rw [h9]); clear h9; have h9 : v23412 40 = v23412 40 := rfl; (try rw [h9]); clear h9; omega) hk (by have h9 : v23412 40 = v23412 40 := rfl; (try rw [h9]); clear h9; have h9 : v23412 38 = v23412 38 := rfl; (try rw [h9]); clear h9; exact fun hf => (hd (by omega)).trans (congrArg some (by omega))) (by have h9 : v23412 39 = v23412 39 := rfl; rw [h9]; omega) (fun _ _ => rfl) hI hF hP hS hl
set_option maxHeartbeats 8000000 in
set_option maxRecDepth 100000 in
theorem c_X12_sum_0 (l : Launch) (dC : Nat → ClassId) (dI : Nat → Nat → Nat) (g : Nat → Nat) (c : Nat → ClassId) (adK adV : Nat → Nat) (v : Nat → Int32) (F : Nat → Nat → Int32) (rc sz : Nat) (d : Nat) (hg : injM g) (hI : IM v F) (hq : (v 38).toInt ≤ (v 39).toInt ∧ (v 39).toInt ≤ (v 30).toInt ∧ (v 40).toInt < 0 ∧ (v 41).toInt = 0) (hdp : dp (F 28) (F 29) (bI (v 37)) (v 38).toInt.toNat = some d) : Met l yX12_sum (Cond.code yX12_sum cX12_sum 2 none :: wA) ({ frames := 37, cells := 0, slots := 0, locals := 1480 }) (va_Pc [.ref (g 0)] (PM dC dI g c adK adV v F rc sz)) (va_Qv (fun (u : StM) => IM u.1 u.2.1 ∧ u.2.2 = rc ∧ (∀ k, k ∉ ([38, 39, 40, 41, 42] : List Nat) → u.1 k = v k) ∧ (∀ k, k ∉ ([28, 29] : List Nat) → u.2.1 k = F k) ∧ (((v 39).toInt ≤ (u.1 39).toInt ∧ (u.1 39).toInt ≤ (v 30).toInt ∧ (v 38).toInt ≤ (u.1 38).toInt ∧ (u.1 38).toInt - (v 38).toInt ≤ (u.1 39).toInt - (v 39).toInt ∧ (v 41).toInt ≤ (u.1 41).toInt ∧ ((u.1 40).toInt < 0 → (u.1 41).toInt = (v 41).toInt)) ∧ keepL (v 37) (F 28) (F 29) (u.2.1 28) (u.2.1 29) ∧ ((u.1 40).toInt < 0 → dp (u.2.1 28) (u.2.1 29) (bI (v 37)) (u.1 38).toInt.toNat = some (d + 1)))) (BM dC dI g c) (AM g sz)) 0 0 (AM g sz) := by
  refine Met.ofW (cc := cX12_sum) (maxL := 2) (ret := none) (by decide) rfl ?_
  intro p e s m args below meth c0 s₁ B hml hv
  obtain ⟨rfl, hsz, hP, hK, hE⟩ := hv
  have hx := B.exec
  have hb := B.bytes
  have hr := B.returns
  have hts := atoms_spec (ws := Cond.code yX12_sum cX12_sum 2 none :: wA) B.pre
  have hwd : ∀ w ∈ wA, w.before _ s = true := fun w h => hts w (List.mem_cons_of_mem _ h)
  have hown : s.vm.findClass RX12 = some m.cls := findClass_of_methodNamed B.named
  have hlocks := B.notSynchronized
  subst hsz
  have hl := lv_entry ([.ref (g 0)]) (n := 2) (Nat.le_of_ble_eq_true rfl)
  rw [lg_entry_eq]
  generalize (lg_sl ([.ref (g 0)]) ++ List.replicate (2 - (lg_sl ([.ref (g 0)])).length) Slot.unset).toArray = ls at hl ⊢
  have hl : lv_has ls 2 [(0, .ref (g 0))] := hl
  obtain ⟨H, eH⟩ : ∃ z, z = s.heap := ⟨_, rfl⟩
  have hP : va_P (dC, dI) classes (wM g c v F rc) H := by rw [eH]; exact hP
  have hS : va_S (AM g s.heap.size) s.heap H [] := by rw [eH]; exact va_S.rf
  refine my_heap eH ?_
  have hF : ∀ k, k ∉ ([28, 29] : List Nat) → F k = F k := fun _ _ => rfl
  have hb30 : 0 ≤ (v 30).toInt ∧ (v 30).toInt ≤ 120 := hI.1 30 _ _ rfl
  have hb37 : 0 ≤ (v 37).toInt ∧ (v 37).toInt ≤ 9 := hI.1 37 _ _ rfl
  have hb38 : 0 ≤ (v 38).toInt ∧ (v 38).toInt ≤ 120 := hI.1 38 _ _ rfl
  have hb39 : 0 ≤ (v 39).toInt ∧ (v 39).toInt ≤ 120 := hI.1 39 _ _ rfl
  have hb41 : 0 ≤ (v 41).toInt ∧ (v 41).toInt ≤ 8 := hI.1 41 _ _ rfl
  have hk : keepL (v 37) (F 28) (F 29) (F 28) (F 29) := keepL.rf
  have hd : (v 40).toInt < 0 → dp (F 28) (F 29) (bI (v 37)) (v 38).toInt.toNat = some d := fun _ => hdp
  refine lv_aload_n hx hb dX12_sum_0 rfl (lv_at hl 0 rfl) ?_
  have t23586 : 0 ≤ (v 30).toInt ∧ (v 30).toInt ≤ 120 := hI.1 30 _ _ rfl
  have t23587 : 0 ≤ (v 37).toInt ∧ (v 37).toInt ≤ 9 := hI.1 37 _ _ rfl
  have t23588 : 0 ≤ (v 38).toInt ∧ (v 38).toInt ≤ 120 := hI.1 38 _ _ rfl
  have t23589 : 0 ≤ (v 39).toInt ∧ (v 39).toInt ≤ 120 := hI.1 39 _ _ rfl
  have t23590 : 0 ≤ (v 41).toInt ∧ (v 41).toInt ≤ 8 := hI.1 41 _ _ rfl
  refine va_callv (va_runV (As := []) (rest := []) ⟨hx, hb, hml, hown, hwd⟩ (c_X12_product_0 l dC dI g c adK adV v F rc H.size  d hg hI (by have h9 : v 38 = v 38 := rfl; (try rw [h9]); clear h9; have h9 : v 39 = v 39 := rfl; (try rw [h9]); clear h9; have h9 : v 30 = v 30 := rfl; (try rw [h9]); clear h9; have h9 : v 40 = v 40 := rfl; (try rw [h9]); clear h9; have h9 : v 41 = v 41 := rfl; (try rw [h9]); clear h9; omega) (by have h9 : v 37 = (v 37) := rfl; have h8 : v 38 = (v 38) := rfl; (try rw [h9]); (try rw [h8]); exact hd (by omega))) (cwV 0 hwd (gV wk_1042 wk_1044 wk_1045 wk_1046 wk_5) rfl rfl rfl (by decide +kernel) ⟨Nat.le_of_ble_eq_true rfl, Nat.le_of_ble_eq_true rfl⟩) ⟨PM.blind, va_recv hK hP (ci := 12) (q0 := 0) rfl rfl, fun U hU hW => ⟨rfl, PM.at hK hE hP hS hU hW⟩⟩ rfl rfl hl.1 rfl (lv_room (Nat.le_of_ble_eq_true rfl)) dX12_sum_1 ⟨Nat.le_of_ble_eq_true rfl, Nat.le_of_ble_eq_true rfl⟩) hS (fun q _ h => (freeM hS) q h) (freeM hS) (fun u t H1 locs ht hvm hw hB hz1 hk1 hS => ?_)
  unfold BM at hB
  rw [ht] at hB
  obtain ⟨v23592, F23593, rc9⟩ := u
  obtain ⟨hI, hrc, hf23594, hG23595, hw⟩ := hw
  dsimp only at hI hrc hB hf23594 hG23595 hw
  have hF := frCF (by decide) hG23595 hF
  rw [hrc] at hB
  have hP : va_P (dC, dI) classes (wM g c v23592 F23593 rc) H1 := hB
  have hw : ((v 39).toInt ≤ (v23592 39).toInt ∧ (v23592 39).toInt ≤ (v 30).toInt ∧ (v 38).toInt ≤ (v23592 38).toInt ∧ (v23592 38).toInt - (v 38).toInt ≤ (v23592 39).toInt - (v 39).toInt ∧ (v 41).toInt ≤ (v23592 41).toInt ∧ ((v23592 40).toInt < 0 → (v23592 41).toInt = (v 41).toInt)) ∧ keepL (v 37) (F 28) (F 29) (F23593 28) (F23593 29) ∧ ((v23592 40).toInt < 0 → dp (F23593 28) (F23593 29) (bI (v 37)) (v23592 38).toInt.toNat = some (d + 1)) := hw
  have hw_r23591 := hw
  have t23596 : 0 ≤ (v23592 38).toInt ∧ (v23592 38).toInt ≤ 120 := hI.1 38 _ _ rfl
  have t23597 : 0 ≤ (v23592 39).toInt ∧ (v23592 39).toInt ≤ 120 := hI.1 39 _ _ rfl
  have t23598 : 0 ≤ (v23592 41).toInt ∧ (v23592 41).toInt ≤ 8 := hI.1 41 _ _ rfl
  generalize H1 = H at hP hS ⊢
  have hk := hk.tr hw_r23591.2.1
  have hd := hw_r23591.2.2
  have lp23599 : ∀ (n : Nat) (v_lp23599 : Nat → Int32) (F_lp23599 : Nat → Nat → Int32) (H : Heap) (locs : List Loc) (ls : Array Slot), ((v 39).toInt ≤ (v_lp23599 39).toInt ∧ (v_lp23599 39).toInt ≤ (v 30).toInt ∧ (v 38).toInt ≤ (v_lp23599 38).toInt ∧ (v_lp23599 38).toInt - (v 38).toInt ≤ (v_lp23599 39).toInt - (v 39).toInt ∧ (v 41).toInt ≤ (v_lp23599 41).toInt ∧ ((v_lp23599 40).toInt < 0 → (v_lp23599 41).toInt = (v 41).toInt)) → (keepL (v 37) (F 28) (F 29) (F_lp23599 28) (F_lp23599 29)) → (((v_lp23599 40).toInt < 0 → dp (F_lp23599 28) (F_lp23599 29) (bI (v 37)) (v_lp23599 38).toInt.toNat = some (d + 1))) → (121 - (v_lp23599 39).toInt ≤ (n : Int)) → (∀ k, k ∉ ([38, 39, 40, 41, 42] : List Nat) → v_lp23599 k = v23592 k) → IM v_lp23599 F_lp23599 → (∀ k, k ∉ ([28, 29] : List Nat) → F_lp23599 k = F k) → va_P (dC, dI) classes (wM g c v_lp23599 F_lp23599 rc) H → va_S (AM g s.heap.size) s.heap H locs → lv_has ls 2 [(0, .ref (g 0))] → W p l e (headSpec (Cond.code yX12_sum cX12_sum 2 none :: wA) ({ frames := 37, cells := 0, slots := 0, locals := 1480 })).room s m ([.ref (g 0)] : List Value).toArray below meth c0 H locs 0 0 (MQ below (va_Qv (fun (u : StM) => IM u.1 u.2.1 ∧ u.2.2 = rc ∧ (∀ k, k ∉ ([38, 39, 40, 41, 42] : List Nat) → u.1 k = v k) ∧ (∀ k, k ∉ ([28, 29] : List Nat) → u.2.1 k = F k) ∧ (((v 39).toInt ≤ (u.1 39).toInt ∧ (u.1 39).toInt ≤ (v 30).toInt ∧ (v 38).toInt ≤ (u.1 38).toInt ∧ (u.1 38).toInt - (v 38).toInt ≤ (u.1 39).toInt - (v 39).toInt ∧ (v 41).toInt ≤ (u.1 41).toInt ∧ ((u.1 40).toInt < 0 → (u.1 41).toInt = (v 41).toInt)) ∧ keepL (v 37) (F 28) (F 29) (u.2.1 28) (u.2.1 29) ∧ ((u.1 40).toInt < 0 → dp (u.2.1 28) (u.2.1 29) (bI (v 37)) (u.1 38).toInt.toNat = some (d + 1)))) (BM dC dI g c) (AM g s.heap.size)) ([.ref (g 0)] : List Value).toArray s 0 0 (AM g s.heap.size)) (F0 m 4 ls []) := by
    intro n
    induction n with
    | zero =>
      intro v_lp23599 F_lp23599 H locs ls t23600 t23601 t23602 hm hf_lp23599 hI hF hP hS hl
      exfalso
      have hI1 := hI.1
      omega
    | succ n ih_lp23599 =>
      intro v_lp23599 F_lp23599 H locs ls t23600 t23601 t23602 hm hf_lp23599 hI hF hP hS hl
      have hk := t23601
      have hd := t23602
      refine lv_aload_n hx hb dX12_sum_4 rfl (lv_at hl 0 rfl) ?_
      refine va_get (D := (dC, dI)) (ci := 12) (v := .int (v_lp23599 40)) (C := RX12) (T := TX12) (N := 63) hx hb hwd inA_X12 hown hK hP 0 rfl rfl 40 (by decide) (hwd _ wk_1005) (fun _ h9 => h9) rfl dX12_sum_5 ?_
      refine lv_if_ge (tgt := 57) hx hb dX12_sum_8 (by decide) (fun c23603 => ?_) (fun c23603 => ?_)
      · skip
        have t23604 := cv_le (a := 0) (by decide) (b := (v_lp23599 40).toInt) rfl c23603
        have hP9 : va_P (dC, dI) classes (wM g c v_lp23599 F_lp23599 rc) H := hP
        exact W.vret hx hb hr (fun t ht hW => ⟨⟨(v_lp23599, F_lp23599, rc), rfl, ⟨hI, rfl, (frC (by decide) hf_lp23599 (frC (by decide) hf23594 (fun _ _ => rfl))), hF, (by show ((v 39).toInt ≤ (v_lp23599 39).toInt ∧ (v_lp23599 39).toInt ≤ (v 30).toInt ∧ (v 38).toInt ≤ (v_lp23599 38).toInt ∧ (v_lp23599 38).toInt - (v 38).toInt ≤ (v_lp23599 39).toInt - (v 39).toInt ∧ (v 41).toInt ≤ (v_lp23599 41).toInt ∧ ((v_lp23599 40).toInt < 0 → (v_lp23599 41).toInt = (v 41).toInt)) ∧ keepL (v 37) (F 28) (F 29) (F_lp23599 28) (F_lp23599 29) ∧ ((v_lp23599 40).toInt < 0 → dp (F_lp23599 28) (F_lp23599 29) (bI (v 37)) (v_lp23599 38).toInt.toNat = some (d + 1)); exact ⟨by omega, hk, fun hf => (hd (by omega)).trans (congrArg some (by omega))⟩)⟩, (by show va_P _ _ _ t.heap; rw [ht]; exact hP9)⟩, hS.F ht⟩) hS.2.2 dX12_sum_57
      · skip
        have t23605 := cv_nle (a := 0) (by decide) (b := (v_lp23599 40).toInt) rfl c23603
        refine lv_aload_n hx hb dX12_sum_11 rfl (lv_at hl 0 rfl) ?_
        have t23606 : 0 ≤ (v 30).toInt ∧ (v 30).toInt ≤ 120 := by have h9 := hI.1 30 _ _ rfl; rw [show v_lp23599 30 = v 30 from (hf_lp23599 30 (by decide)).trans (hf23594 30 (by decide))] at h9; exact h9
        have t23607 : 0 ≤ (v_lp23599 39).toInt ∧ (v_lp23599 39).toInt ≤ 120 := hI.1 39 _ _ rfl
        refine va_calli (va_runV (As := []) (rest := []) ⟨hx, hb, hml, hown, hwd⟩ (c_X12_look l dC dI g c adK adV v_lp23599 F_lp23599 rc H.size  hg hI ) (cwV 0 hwd (gV wk_1017 wk_1014 wk_1015 wk_1016 wk_5) rfl rfl rfl (by decide +kernel) ⟨Nat.le_of_ble_eq_true rfl, Nat.le_of_ble_eq_true rfl⟩) ⟨PM.blind, va_recv hK hP (ci := 12) (q0 := 0) rfl rfl, fun U hU hW => ⟨rfl, PM.at hK hE hP hS hU hW⟩⟩ rfl rfl hl.1 rfl (lv_room (Nat.le_of_ble_eq_true rfl)) dX12_sum_12 ⟨Nat.le_of_ble_eq_true rfl, Nat.le_of_ble_eq_true rfl⟩) hS (fun q _ h => (freeM hS) q h) (freeM hS) (fun r23608 u t H1 locs ht hvm hw hB hz1 hk1 hS => ?_)
        unfold BM at hB
        rw [ht] at hB
        have hP : va_P (dC, dI) classes (wM g c v_lp23599 F_lp23599 rc) H1 := hB
        have hw : r23608.toInt = lkM (v_lp23599 39) (v_lp23599 30) (F_lp23599 24) ∧ ((v_lp23599 39).toInt < (v_lp23599 30).toInt ∨ r23608.toInt = -1) := hw
        rw [show v_lp23599 30 = v 30 from (hf_lp23599 30 (by decide)).trans (hf23594 30 (by decide))] at hw
        rw [hF 24 (by decide)] at hw
        have hw_r23608 := hw
        generalize H1 = H at hP hS ⊢
        refine lv_bipush (v := 43) hx hb dX12_sum_15 (by decide) ?_
        refine lv_icmp_eq (tgt := 29) hx hb dX12_sum_17 (by decide) (fun c23609 => ?_) (fun c23609 => ?_)
        · skip
          have t23610 := cv_eq (a := r23608.toInt) rfl (b := 43) (by decide) c23609
          refine lv_aload_n hx hb dX12_sum_29 rfl (lv_at hl 0 rfl) ?_
          have t23611 : 0 ≤ (v 30).toInt ∧ (v 30).toInt ≤ 120 := by have h9 := hI.1 30 _ _ rfl; rw [show v_lp23599 30 = v 30 from (hf_lp23599 30 (by decide)).trans (hf23594 30 (by decide))] at h9; exact h9
          have t23612 : 0 ≤ (v_lp23599 39).toInt ∧ (v_lp23599 39).toInt ≤ 120 := hI.1 39 _ _ rfl
          refine va_calli (va_runV (As := []) (rest := []) ⟨hx, hb, hml, hown, hwd⟩ (c_X12_look l dC dI g c adK adV v_lp23599 F_lp23599 rc H.size  hg hI ) (cwV 0 hwd (gV wk_1017 wk_1014 wk_1015 wk_1016 wk_5) rfl rfl rfl (by decide +kernel) ⟨Nat.le_of_ble_eq_true rfl, Nat.le_of_ble_eq_true rfl⟩) ⟨PM.blind, va_recv hK hP (ci := 12) (q0 := 0) rfl rfl, fun U hU hW => ⟨rfl, PM.at hK hE hP hS hU hW⟩⟩ rfl rfl hl.1 rfl (lv_room (Nat.le_of_ble_eq_true rfl)) dX12_sum_30 ⟨Nat.le_of_ble_eq_true rfl, Nat.le_of_ble_eq_true rfl⟩) hS (fun q _ h => (freeM hS) q h) (freeM hS) (fun r23613 u t H1 locs ht hvm hw hB hz1 hk1 hS => ?_)
          unfold BM at hB
          rw [ht] at hB
          have hP : va_P (dC, dI) classes (wM g c v_lp23599 F_lp23599 rc) H1 := hB
          have hw : r23613.toInt = lkM (v_lp23599 39) (v_lp23599 30) (F_lp23599 24) ∧ ((v_lp23599 39).toInt < (v_lp23599 30).toInt ∨ r23613.toInt = -1) := hw
          rw [show v_lp23599 30 = v 30 from (hf_lp23599 30 (by decide)).trans (hf23594 30 (by decide))] at hw
          rw [hF 24 (by decide)] at hw
          have hw_r23613 := hw
          generalize H1 = H at hP hS ⊢
          refine lv_istore_n (lv' := [(1, .int r23613), (0, .ref (g 0))]) hx hb dX12_sum_33 rfl hl (by decide) rfl (fun ls hl => ?_)
          refine lv_aload_n hx hb dX12_sum_34 rfl (lv_at hl 1 rfl) ?_
          refine lv_dup hx hb dX12_sum_35 rfl ?_
          refine va_get (D := (dC, dI)) (ci := 12) (v := .int (v_lp23599 39)) (C := RX12) (T := TX12) (N := 63) hx hb hwd inA_X12 hown hK hP 0 rfl rfl 39 (by decide) (hwd _ wk_1004) (fun _ h9 => h9) rfl dX12_sum_36 ?_
          have t23614 : 0 ≤ (v_lp23599 39).toInt ∧ (v_lp23599 39).toInt ≤ 120 := hI.1 39 _ _ rfl
          refine lv_iconst (v := 1) hx hb dX12_sum_39 (by decide) ?_
          refine lv_iadd hx hb dX12_sum_40 ?_
          refine lv_topi (fun z23615 e23616 => ?_)
          try (have t23617 := tadd e23616 (a := (v_lp23599 39).toInt) rfl (b := 1) (by decide) (by omega))
          refine va_put (D := (dC, dI)) (ci := 12) (v := .int z23615) (ty := .int) (C := RX12) (T := TX12) (N := 63) (fs := fsM_0 g v_lp23599 rc) hx hb hwd inA_X12 tyX12 tyX12_ok nmX12 hown hK hP (DM hg) hS 0 rfl rfl 39 (by decide) (hwd _ wk_1004) (fun _ h9 => h9) rfl (by decide +kernel) rfl rfl (Nat.le_of_ble_eq_true rfl) dX12_sum_41 (fun H locs hP _ hS => ?_)
          have hP := va_P_eq (pM_39 g c _ _ _ _) hP
          have hI := IM.put hI 39 z23615 rfl (by omega)
          refine lv_aload_n hx hb dX12_sum_44 rfl (lv_at hl 1 rfl) ?_
          have t23618 : 0 ≤ (v 30).toInt ∧ (v 30).toInt ≤ 120 := by have h9 := hI.1 30 _ _ rfl; rw [show (va_up v_lp23599 39 z23615) 30 = v 30 from (hf_lp23599 30 (by decide)).trans (hf23594 30 (by decide))] at h9; exact h9
          have t23619 : 0 ≤ (v 37).toInt ∧ (v 37).toInt ≤ 9 := by have h9 := hI.1 37 _ _ rfl; rw [show (va_up v_lp23599 39 z23615) 37 = v 37 from (hf_lp23599 37 (by decide)).trans (hf23594 37 (by decide))] at h9; exact h9
          have t23620 : 0 ≤ (v_lp23599 38).toInt ∧ (v_lp23599 38).toInt ≤ 120 := hI.1 38 _ _ rfl
          have t23621 : 0 ≤ z23615.toInt ∧ z23615.toInt ≤ 120 := hI.1 39 _ _ rfl
          have t23622 : 0 ≤ (v_lp23599 41).toInt ∧ (v_lp23599 41).toInt ≤ 8 := hI.1 41 _ _ rfl
          refine va_callv (va_runV (As := []) (rest := []) ⟨hx, hb, hml, hown, hwd⟩ (c_X12_product_0 l dC dI g c adK adV (va_up v_lp23599 39 z23615) F_lp23599 rc H.size  (d + 1) hg hI (by have h9 : (va_up v_lp23599 39 z23615) 38 = v_lp23599 38 := rfl; (try rw [h9]); clear h9; have h9 : (va_up v_lp23599 39 z23615) 39 = z23615 := rfl; (try rw [h9]); clear h9; have h9 : (va_up v_lp23599 39 z23615) 30 = v 30 := (hf_lp23599 30 (by decide)).trans (hf23594 30 (by decide)); (try rw [h9]); clear h9; have h9 : (va_up v_lp23599 39 z23615) 40 = v_lp23599 40 := rfl; (try rw [h9]); clear h9; have h9 : (va_up v_lp23599 39 z23615) 41 = v_lp23599 41 := rfl; (try rw [h9]); clear h9; omega) (by have h9 : (va_up v_lp23599 39 z23615) 37 = (v 37) := (hf_lp23599 37 (by decide)).trans (hf23594 37 (by decide)); have h8 : (va_up v_lp23599 39 z23615) 38 = (v_lp23599 38) := rfl; (try rw [h9]); (try rw [h8]); exact hd (by omega))) (cwV 0 hwd (gV wk_1042 wk_1044 wk_1045 wk_1046 wk_5) rfl rfl rfl (by decide +kernel) ⟨Nat.le_of_ble_eq_true rfl, Nat.le_of_ble_eq_true rfl⟩) ⟨PM.blind, va_recv hK hP (ci := 12) (q0 := 0) rfl rfl, fun U hU hW => ⟨rfl, PM.at hK hE hP hS hU hW⟩⟩ rfl rfl hl.1 rfl (lv_room (Nat.le_of_ble_eq_true rfl)) dX12_sum_45 ⟨Nat.le_of_ble_eq_true rfl, Nat.le_of_ble_eq_true rfl⟩) hS (fun q _ h => (freeM hS) q h) (freeM hS) (fun u t H1 locs ht hvm hw hB hz1 hk1 hS => ?_)
          unfold BM at hB
          rw [ht] at hB
          obtain ⟨v23624, F23625, rc9⟩ := u
          obtain ⟨hI, hrc, hf23626, hG23627, hw⟩ := hw
          dsimp only at hI hrc hB hf23626 hG23627 hw
          have hF := frCF (by decide) hG23627 hF
          rw [hrc] at hB
          have hP : va_P (dC, dI) classes (wM g c v23624 F23625 rc) H1 := hB
          have hw : (z23615.toInt ≤ (v23624 39).toInt ∧ (v23624 39).toInt ≤ ((va_up v_lp23599 39 z23615) 30).toInt ∧ (v_lp23599 38).toInt ≤ (v23624 38).toInt ∧ (v23624 38).toInt - (v_lp23599 38).toInt ≤ (v23624 39).toInt - z23615.toInt ∧ (v_lp23599 41).toInt ≤ (v23624 41).toInt ∧ ((v23624 40).toInt < 0 → (v23624 41).toInt = (v_lp23599 41).toInt)) ∧ keepL ((va_up v_lp23599 39 z23615) 37) (F_lp23599 28) (F_lp23599 29) (F23625 28) (F23625 29) ∧ ((v23624 40).toInt < 0 → dp (F23625 28) (F23625 29) (bI ((va_up v_lp23599 39 z23615) 37)) (v23624 38).toInt.toNat = some ((d + 1) + 1)) := hw
          rw [show (va_up v_lp23599 39 z23615) 30 = v 30 from (hf_lp23599 30 (by decide)).trans (hf23594 30 (by decide))] at hw
          rw [show (va_up v_lp23599 39 z23615) 37 = v 37 from (hf_lp23599 37 (by decide)).trans (hf23594 37 (by decide))] at hw
          have hw_r23623 := hw
          have t23628 : 0 ≤ (v23624 38).toInt ∧ (v23624 38).toInt ≤ 120 := hI.1 38 _ _ rfl
          have t23629 : 0 ≤ (v23624 39).toInt ∧ (v23624 39).toInt ≤ 120 := hI.1 39 _ _ rfl
          have t23630 : 0 ≤ (v23624 41).toInt ∧ (v23624 41).toInt ≤ 8 := hI.1 41 _ _ rfl
          generalize H1 = H at hP hS ⊢
          have hk := hk.tr hw_r23623.2.1
          have hd := hw_r23623.2.2
          refine lv_aload_n hx hb dX12_sum_48 rfl (lv_at hl 1 rfl) ?_
          refine lv_iload_n hx hb dX12_sum_49 rfl (lv_at hl 0 rfl) ?_
          refine lv_iconst (v := 0) hx hb dX12_sum_50 (by decide) ?_
          have t23631 : 0 ≤ (v 37).toInt ∧ (v 37).toInt ≤ 9 := by have h9 := hI.1 37 _ _ rfl; rw [show v23624 37 = v 37 from (hf23626 37 (by decide)).trans ((hf_lp23599 37 (by decide)).trans (hf23594 37 (by decide)))] at h9; exact h9
          have t23632 : 0 ≤ (v23624 38).toInt ∧ (v23624 38).toInt ≤ 120 := hI.1 38 _ _ rfl
          refine va_callv (va_runV (As := [.int r23613, .int 0]) (rest := []) ⟨hx, hb, hml, hown, hwd⟩ (c_X12_lay l dC dI g c adK adV v23624 F23625 rc H.size r23613 0 hg hI (by have h9 : v23624 38 = v23624 38 := rfl; rw [h9]; omega)) (cwV 2 hwd (gV wk_1021 wk_1018 wk_1019 wk_1020 wk_5) rfl rfl rfl (by decide +kernel) ⟨Nat.le_of_ble_eq_true rfl, Nat.le_of_ble_eq_true rfl⟩) ⟨PM.blind, va_recv hK hP (ci := 12) (q0 := 0) rfl rfl, fun U hU hW => ⟨rfl, PM.at hK hE hP hS hU hW⟩⟩ rfl rfl hl.1 rfl (lv_room (Nat.le_of_ble_eq_true rfl)) dX12_sum_51 ⟨Nat.le_of_ble_eq_true rfl, Nat.le_of_ble_eq_true rfl⟩) hS (fun q _ h => (freeM hS) q h) (freeM hS) (fun u t H1 locs ht hvm hw hB hz1 hk1 hS => ?_)
          unfold BM at hB
          rw [ht] at hB
          obtain ⟨v23634, F23635, rc9⟩ := u
          obtain ⟨hI, hrc, hf23636, hG23637, hw⟩ := hw
          dsimp only at hI hrc hB hf23636 hG23637 hw
          have hF := frCF (by decide) hG23637 hF
          rw [hrc] at hB
          have hP : va_P (dC, dI) classes (wM g c v23634 F23635 rc) H1 := hB
          have hw : (v23634 38).toInt = (v23624 38).toInt + 1 ∧ keepL (v23624 37) (F23625 28) (F23625 29) (F23635 28) (F23635 29) ∧ dp (F23635 28) (F23635 29) (bI (v23624 37)) ((v23624 38).toInt.toNat + 1) = dpS (dp (F23625 28) (F23625 29) (bI (v23624 37)) (v23624 38).toInt.toNat) r23613 (0 : Int32) := hw
          rw [show v23624 37 = v 37 from (hf23626 37 (by decide)).trans ((hf_lp23599 37 (by decide)).trans (hf23594 37 (by decide)))] at hw
          have hw_r23633 := hw
          have t23638 : 0 ≤ (v23634 38).toInt ∧ (v23634 38).toInt ≤ 120 := hI.1 38 _ _ rfl
          have k23639 : (0 : Int32).toInt = 0 := by decide
          generalize H1 = H at hP hS ⊢
          have hk := hk.tr hw_r23633.2.1
          have hd : (v23624 40).toInt < 0 → dp (F23635 28) (F23635 29) (bI (v 37)) (v23634 38).toInt.toNat = some (((d + 1) + 1) - 1) := fun hf => (by have e9 : (v23634 38).toInt.toNat = (v23624 38).toInt.toNat + 1 := (by omega); rw [e9, hw_r23633.2.2, hd hf]; exact dpS_5 (by omega) (by omega) (by omega) (by omega) (by omega))
          refine lv_goto (tgt := 4) hx hb dX12_sum_54 (by decide) ?_
          exact ih_lp23599  v23634 F23635 _ _ _ (by have h9 : v23634 39 = v23624 39 := hf23636 39 (by decide); (try rw [h9]); clear h9; have h9 : v23634 38 = v23634 38 := rfl; (try rw [h9]); clear h9; have h9 : v23634 41 = v23624 41 := hf23636 41 (by decide); (try rw [h9]); clear h9; have h9 : v23634 40 = v23624 40 := hf23636 40 (by decide); (try rw [h9]); clear h9; omega) hk (by have h9 : v23634 40 = v23624 40 := hf23636 40 (by decide); (try rw [h9]); clear h9; have h9 : v23634 38 = v23634 38 := rfl; (try rw [h9]); clear h9; exact fun hf => (hd (by omega)).trans (congrArg some (by omega))) (by have h9 : v23634 39 = v23624 39 := hf23636 39 (by decide); rw [h9]; omega) (frC (by decide) hf23636 (frC (by decide) hf23626 (frU (by decide) hf_lp23599))) hI hF hP hS (lv_sub hl [1] rfl)
        · skip
          have t23640 := cv_ne (a := r23608.toInt) rfl (b := 43) (by decide) c23609
          refine lv_aload_n hx hb dX12_sum_20 rfl (lv_at hl 0 rfl) ?_
          have t23641 : 0 ≤ (v 30).toInt ∧ (v 30).toInt ≤ 120 := by have h9 := hI.1 30 _ _ rfl; rw [show v_lp23599 30 = v 30 from (hf_lp23599 30 (by decide)).trans (hf23594 30 (by decide))] at h9; exact h9
          have t23642 : 0 ≤ (v_lp23599 39).toInt ∧ (v_lp23599 39).toInt ≤ 120 := hI.1 39 _ _ rfl
          refine va_calli (va_runV (As := []) (rest := []) ⟨hx, hb, hml, hown, hwd⟩ (c_X12_look l dC dI g c adK adV v_lp23599 F_lp23599 rc H.size  hg hI ) (cwV 0 hwd (gV wk_1017 wk_1014 wk_1015 wk_1016 wk_5) rfl rfl rfl (by decide +kernel) ⟨Nat.le_of_ble_eq_true rfl, Nat.le_of_ble_eq_true rfl⟩) ⟨PM.blind, va_recv hK hP (ci := 12) (q0 := 0) rfl rfl, fun U hU hW => ⟨rfl, PM.at hK hE hP hS hU hW⟩⟩ rfl rfl hl.1 rfl (lv_room (Nat.le_of_ble_eq_true rfl)) dX12_sum_21 ⟨Nat.le_of_ble_eq_true rfl, Nat.le_of_ble_eq_true rfl⟩) hS (fun q _ h => (freeM hS) q h) (freeM hS) (fun r23643 u t H1 locs ht hvm hw hB hz1 hk1 hS => ?_)
          unfold BM at hB
          rw [ht] at hB
          have hP : va_P (dC, dI) classes (wM g c v_lp23599 F_lp23599 rc) H1 := hB
          have hw : r23643.toInt = lkM (v_lp23599 39) (v_lp23599 30) (F_lp23599 24) ∧ ((v_lp23599 39).toInt < (v_lp23599 30).toInt ∨ r23643.toInt = -1) := hw
          rw [show v_lp23599 30 = v 30 from (hf_lp23599 30 (by decide)).trans (hf23594 30 (by decide))] at hw
          rw [hF 24 (by decide)] at hw
          have hw_r23643 := hw
          generalize H1 = H at hP hS ⊢
          refine lv_bipush (v := 45) hx hb dX12_sum_24 (by decide) ?_
          refine lv_icmp_ne (tgt := 57) hx hb dX12_sum_26 (by decide) (fun c23644 => ?_) (fun c23644 => ?_)
          · skip
            have t23645 := cv_ne (a := r23643.toInt) rfl (b := 45) (by decide) c23644
            have hP9 : va_P (dC, dI) classes (wM g c v_lp23599 F_lp23599 rc) H := hP
            exact W.vret hx hb hr (fun t ht hW => ⟨⟨(v_lp23599, F_lp23599, rc), rfl, ⟨hI, rfl, (frC (by decide) hf_lp23599 (frC (by decide) hf23594 (fun _ _ => rfl))), hF, (by show ((v 39).toInt ≤ (v_lp23599 39).toInt ∧ (v_lp23599 39).toInt ≤ (v 30).toInt ∧ (v 38).toInt ≤ (v_lp23599 38).toInt ∧ (v_lp23599 38).toInt - (v 38).toInt ≤ (v_lp23599 39).toInt - (v 39).toInt ∧ (v 41).toInt ≤ (v_lp23599 41).toInt ∧ ((v_lp23599 40).toInt < 0 → (v_lp23599 41).toInt = (v 41).toInt)) ∧ keepL (v 37) (F 28) (F 29) (F_lp23599 28) (F_lp23599 29) ∧ ((v_lp23599 40).toInt < 0 → dp (F_lp23599 28) (F_lp23599 29) (bI (v 37)) (v_lp23599 38).toInt.toNat = some (d + 1)); exact ⟨by omega, hk, fun hf => (hd (by omega)).trans (congrArg some (by omega))⟩)⟩, (by show va_P _ _ _ t.heap; rw [ht]; exact hP9)⟩, hS.F ht⟩) hS.2.2 dX12_sum_57
          · skip
            have t23646 := cv_eq (a := r23643.toInt) rfl (b := 45) (by decide) c23644
            refine lv_aload_n hx hb dX12_sum_29 rfl (lv_at hl 0 rfl) ?_
            have t23647 : 0 ≤ (v 30).toInt ∧ (v 30).toInt ≤ 120 := by have h9 := hI.1 30 _ _ rfl; rw [show v_lp23599 30 = v 30 from (hf_lp23599 30 (by decide)).trans (hf23594 30 (by decide))] at h9; exact h9
            have t23648 : 0 ≤ (v_lp23599 39).toInt ∧ (v_lp23599 39).toInt ≤ 120 := hI.1 39 _ _ rfl
            refine va_calli (va_runV (As := []) (rest := []) ⟨hx, hb, hml, hown, hwd⟩ (c_X12_look l dC dI g c adK adV v_lp23599 F_lp23599 rc H.size  hg hI ) (cwV 0 hwd (gV wk_1017 wk_1014 wk_1015 wk_1016 wk_5) rfl rfl rfl (by decide +kernel) ⟨Nat.le_of_ble_eq_true rfl, Nat.le_of_ble_eq_true rfl⟩) ⟨PM.blind, va_recv hK hP (ci := 12) (q0 := 0) rfl rfl, fun U hU hW => ⟨rfl, PM.at hK hE hP hS hU hW⟩⟩ rfl rfl hl.1 rfl (lv_room (Nat.le_of_ble_eq_true rfl)) dX12_sum_30 ⟨Nat.le_of_ble_eq_true rfl, Nat.le_of_ble_eq_true rfl⟩) hS (fun q _ h => (freeM hS) q h) (freeM hS) (fun r23649 u t H1 locs ht hvm hw hB hz1 hk1 hS => ?_)
            unfold BM at hB
            rw [ht] at hB
            have hP : va_P (dC, dI) classes (wM g c v_lp23599 F_lp23599 rc) H1 := hB
            have hw : r23649.toInt = lkM (v_lp23599 39) (v_lp23599 30) (F_lp23599 24) ∧ ((v_lp23599 39).toInt < (v_lp23599 30).toInt ∨ r23649.toInt = -1) := hw
            rw [show v_lp23599 30 = v 30 from (hf_lp23599 30 (by decide)).trans (hf23594 30 (by decide))] at hw
            rw [hF 24 (by decide)] at hw
            have hw_r23649 := hw
            generalize H1 = H at hP hS ⊢
            refine lv_istore_n (lv' := [(1, .int r23649), (0, .ref (g 0))]) hx hb dX12_sum_33 rfl hl (by decide) rfl (fun ls hl => ?_)
            refine lv_aload_n hx hb dX12_sum_34 rfl (lv_at hl 1 rfl) ?_
            refine lv_dup hx hb dX12_sum_35 rfl ?_
            refine va_get (D := (dC, dI)) (ci := 12) (v := .int (v_lp23599 39)) (C := RX12) (T := TX12) (N := 63) hx hb hwd inA_X12 hown hK hP 0 rfl rfl 39 (by decide) (hwd _ wk_1004) (fun _ h9 => h9) rfl dX12_sum_36 ?_
            have t23650 : 0 ≤ (v_lp23599 39).toInt ∧ (v_lp23599 39).toInt ≤ 120 := hI.1 39 _ _ rfl
            refine lv_iconst (v := 1) hx hb dX12_sum_39 (by decide) ?_
            refine lv_iadd hx hb dX12_sum_40 ?_
            refine lv_topi (fun z23651 e23652 => ?_)
            try (have t23653 := tadd e23652 (a := (v_lp23599 39).toInt) rfl (b := 1) (by decide) (by omega))
            refine va_put (D := (dC, dI)) (ci := 12) (v := .int z23651) (ty := .int) (C := RX12) (T := TX12) (N := 63) (fs := fsM_0 g v_lp23599 rc) hx hb hwd inA_X12 tyX12 tyX12_ok nmX12 hown hK hP (DM hg) hS 0 rfl rfl 39 (by decide) (hwd _ wk_1004) (fun _ h9 => h9) rfl (by decide +kernel) rfl rfl (Nat.le_of_ble_eq_true rfl) dX12_sum_41 (fun H locs hP _ hS => ?_)
            have hP := va_P_eq (pM_39 g c _ _ _ _) hP
            have hI := IM.put hI 39 z23651 rfl (by omega)
            refine lv_aload_n hx hb dX12_sum_44 rfl (lv_at hl 1 rfl) ?_
            have t23654 : 0 ≤ (v 30).toInt ∧ (v 30).toInt ≤ 120 := by have h9 := hI.1 30 _ _ rfl; rw [show (va_up v_lp23599 39 z23651) 30 = v 30 from (hf_lp23599 30 (by decide)).trans (hf23594 30 (by decide))] at h9; exact h9
            have t23655 : 0 ≤ (v 37).toInt ∧ (v 37).toInt ≤ 9 := by have h9 := hI.1 37 _ _ rfl; rw [show (va_up v_lp23599 39 z23651) 37 = v 37 from (hf_lp23599 37 (by decide)).trans (hf23594 37 (by decide))] at h9; exact h9
            have t23656 : 0 ≤ (v_lp23599 38).toInt ∧ (v_lp23599 38).toInt ≤ 120 := hI.1 38 _ _ rfl
            have t23657 : 0 ≤ z23651.toInt ∧ z23651.toInt ≤ 120 := hI.1 39 _ _ rfl
            have t23658 : 0 ≤ (v_lp23599 41).toInt ∧ (v_lp23599 41).toInt ≤ 8 := hI.1 41 _ _ rfl
            refine va_callv (va_runV (As := []) (rest := []) ⟨hx, hb, hml, hown, hwd⟩ (c_X12_product_0 l dC dI g c adK adV (va_up v_lp23599 39 z23651) F_lp23599 rc H.size  (d + 1) hg hI (by have h9 : (va_up v_lp23599 39 z23651) 38 = v_lp23599 38 := rfl; (try rw [h9]); clear h9; have h9 : (va_up v_lp23599 39 z23651) 39 = z23651 := rfl; (try rw [h9]); clear h9; have h9 : (va_up v_lp23599 39 z23651) 30 = v 30 := (hf_lp23599 30 (by decide)).trans (hf23594 30 (by decide)); (try rw [h9]); clear h9; have h9 : (va_up v_lp23599 39 z23651) 40 = v_lp23599 40 := rfl; (try rw [h9]); clear h9; have h9 : (va_up v_lp23599 39 z23651) 41 = v_lp23599 41 := rfl; (try rw [h9]); clear h9; omega) (by have h9 : (va_up v_lp23599 39 z23651) 37 = (v 37) := (hf_lp23599 37 (by decide)).trans (hf23594 37 (by decide)); have h8 : (va_up v_lp23599 39 z23651) 38 = (v_lp23599 38) := rfl; (try rw [h9]); (try rw [h8]); exact hd (by omega))) (cwV 0 hwd (gV wk_1042 wk_1044 wk_1045 wk_1046 wk_5) rfl rfl rfl (by decide +kernel) ⟨Nat.le_of_ble_eq_true rfl, Nat.le_of_ble_eq_true rfl⟩) ⟨PM.blind, va_recv hK hP (ci := 12) (q0 := 0) rfl rfl, fun U hU hW => ⟨rfl, PM.at hK hE hP hS hU hW⟩⟩ rfl rfl hl.1 rfl (lv_room (Nat.le_of_ble_eq_true rfl)) dX12_sum_45 ⟨Nat.le_of_ble_eq_true rfl, Nat.le_of_ble_eq_true rfl⟩) hS (fun q _ h => (freeM hS) q h) (freeM hS) (fun u t H1 locs ht hvm hw hB hz1 hk1 hS => ?_)
            unfold BM at hB
            rw [ht] at hB
            obtain ⟨v23660, F23661, rc9⟩ := u
            obtain ⟨hI, hrc, hf23662, hG23663, hw⟩ := hw
            dsimp only at hI hrc hB hf23662 hG23663 hw
            have hF := frCF (by decide) hG23663 hF
            rw [hrc] at hB
            have hP : va_P (dC, dI) classes (wM g c v23660 F23661 rc) H1 := hB
            have hw : (z23651.toInt ≤ (v23660 39).toInt ∧ (v23660 39).toInt ≤ ((va_up v_lp23599 39 z23651) 30).toInt ∧ (v_lp23599 38).toInt ≤ (v23660 38).toInt ∧ (v23660 38).toInt - (v_lp23599 38).toInt ≤ (v23660 39).toInt - z23651.toInt ∧ (v_lp23599 41).toInt ≤ (v23660 41).toInt ∧ ((v23660 40).toInt < 0 → (v23660 41).toInt = (v_lp23599 41).toInt)) ∧ keepL ((va_up v_lp23599 39 z23651) 37) (F_lp23599 28) (F_lp23599 29) (F23661 28) (F23661 29) ∧ ((v23660 40).toInt < 0 → dp (F23661 28) (F23661 29) (bI ((va_up v_lp23599 39 z23651) 37)) (v23660 38).toInt.toNat = some ((d + 1) + 1)) := hw
            rw [show (va_up v_lp23599 39 z23651) 30 = v 30 from (hf_lp23599 30 (by decide)).trans (hf23594 30 (by decide))] at hw
            rw [show (va_up v_lp23599 39 z23651) 37 = v 37 from (hf_lp23599 37 (by decide)).trans (hf23594 37 (by decide))] at hw
            have hw_r23659 := hw
            have t23664 : 0 ≤ (v23660 38).toInt ∧ (v23660 38).toInt ≤ 120 := hI.1 38 _ _ rfl
            have t23665 : 0 ≤ (v23660 39).toInt ∧ (v23660 39).toInt ≤ 120 := hI.1 39 _ _ rfl
            have t23666 : 0 ≤ (v23660 41).toInt ∧ (v23660 41).toInt ≤ 8 := hI.1 41 _ _ rfl
            generalize H1 = H at hP hS ⊢
            have hk := hk.tr hw_r23659.2.1
            have hd := hw_r23659.2.2
            refine lv_aload_n hx hb dX12_sum_48 rfl (lv_at hl 1 rfl) ?_
            refine lv_iload_n hx hb dX12_sum_49 rfl (lv_at hl 0 rfl) ?_
            refine lv_iconst (v := 0) hx hb dX12_sum_50 (by decide) ?_
            have t23667 : 0 ≤ (v 37).toInt ∧ (v 37).toInt ≤ 9 := by have h9 := hI.1 37 _ _ rfl; rw [show v23660 37 = v 37 from (hf23662 37 (by decide)).trans ((hf_lp23599 37 (by decide)).trans (hf23594 37 (by decide)))] at h9; exact h9
            have t23668 : 0 ≤ (v23660 38).toInt ∧ (v23660 38).toInt ≤ 120 := hI.1 38 _ _ rfl
            refine va_callv (va_runV (As := [.int r23649, .int 0]) (rest := []) ⟨hx, hb, hml, hown, hwd⟩ (c_X12_lay l dC dI g c adK adV v23660 F23661 rc H.size r23649 0 hg hI (by have h9 : v23660 38 = v23660 38 := rfl; rw [h9]; omega)) (cwV 2 hwd (gV wk_1021 wk_1018 wk_1019 wk_1020 wk_5) rfl rfl rfl (by decide +kernel) ⟨Nat.le_of_ble_eq_true rfl, Nat.le_of_ble_eq_true rfl⟩) ⟨PM.blind, va_recv hK hP (ci := 12) (q0 := 0) rfl rfl, fun U hU hW => ⟨rfl, PM.at hK hE hP hS hU hW⟩⟩ rfl rfl hl.1 rfl (lv_room (Nat.le_of_ble_eq_true rfl)) dX12_sum_51 ⟨Nat.le_of_ble_eq_true rfl, Nat.le_of_ble_eq_true rfl⟩) hS (fun q _ h => (freeM hS) q h) (freeM hS) (fun u t H1 locs ht hvm hw hB hz1 hk1 hS => ?_)
            unfold BM at hB
            rw [ht] at hB
            obtain ⟨v23670, F23671, rc9⟩ := u
            obtain ⟨hI, hrc, hf23672, hG23673, hw⟩ := hw
            dsimp only at hI hrc hB hf23672 hG23673 hw
            have hF := frCF (by decide) hG23673 hF
            rw [hrc] at hB
            have hP : va_P (dC, dI) classes (wM g c v23670 F23671 rc) H1 := hB
            have hw : (v23670 38).toInt = (v23660 38).toInt + 1 ∧ keepL (v23660 37) (F23661 28) (F23661 29) (F23671 28) (F23671 29) ∧ dp (F23671 28) (F23671 29) (bI (v23660 37)) ((v23660 38).toInt.toNat + 1) = dpS (dp (F23661 28) (F23661 29) (bI (v23660 37)) (v23660 38).toInt.toNat) r23649 (0 : Int32) := hw
            rw [show v23660 37 = v 37 from (hf23662 37 (by decide)).trans ((hf_lp23599 37 (by decide)).trans (hf23594 37 (by decide)))] at hw
            have hw_r23669 := hw
            have t23674 : 0 ≤ (v23670 38).toInt ∧ (v23670 38).toInt ≤ 120 := hI.1 38 _ _ rfl
            have k23675 : (0 : Int32).toInt = 0 := by decide
            generalize H1 = H at hP hS ⊢
            have hk := hk.tr hw_r23669.2.1
            have hd : (v23660 40).toInt < 0 → dp (F23671 28) (F23671 29) (bI (v 37)) (v23670 38).toInt.toNat = some (((d + 1) + 1) - 1) := fun hf => (by have e9 : (v23670 38).toInt.toNat = (v23660 38).toInt.toNat + 1 := (by omega); rw [e9, hw_r23669.2.2, hd hf]; exact dpS_5 (by omega) (by omega) (by omega) (by omega) (by omega))
            refine lv_goto (tgt := 4) hx hb dX12_sum_54 (by decide) ?_
            exact ih_lp23599  v23670 F23671 _ _ _ (by have h9 : v23670 39 = v23660 39 := hf23672 39 (by decide); (try rw [h9]); clear h9; have h9 : v23670 38 = v23670 38 := rfl; (try rw [h9]); clear h9; have h9 : v23670 41 = v23660 41 := hf23672 41 (by decide); (try rw [h9]); clear h9; have h9 : v23670 40 = v23660 40 := hf23672 40 (by decide); (try rw [h9]); clear h9; omega) hk (by have h9 : v23670 40 = v23660 40 := hf23672 40 (by decide); (try rw [h9]); clear h9; have h9 : v23670 38 = v23670 38 := rfl; (try rw [h9]); clear h9; exact fun hf => (hd (by omega)).trans (congrArg some (by omega))) (by have h9 : v23670 39 = v23660 39 := hf23672 39 (by decide); rw [h9]; omega) (frC (by decide) hf23672 (frC (by decide) hf23662 (frU (by decide) hf_lp23599))) hI hF hP hS (lv_sub hl [1] rfl)
  obtain ⟨n9, hn9⟩ : ∃ n : Nat, 121 - (v23592 39).toInt ≤ (n : Int) := ⟨((121 - (v23592 39).toInt : Int)).toNat, by omega⟩
  exact lp23599 n9  v23592 F23593 H _ ls (by have h9 : v23592 39 = v23592 39 := rfl; (try rw [h9]); clear h9; have h9 : v23592 38 = v23592 38 := rfl; (try rw [h9]); clear h9; have h9 : v23592 41 = v23592 41 := rfl; (try rw [h9]); clear h9; have h9 : v23592 40 = v23592 40 := rfl; (try rw [h9]); clear h9; omega) hk (by have h9 : v23592 40 = v23592 40 := rfl; (try rw [h9]); clear h9; have h9 : v23592 38 = v23592 38 := rfl; (try rw [h9]); clear h9; exact fun hf => (hd (by omega)).trans (congrArg some (by omega))) (by have h9 : v23592 39 = v23592 39 := rfl; rw [h9]; omega) (fun _ _ => rfl) hI hF hP hS hl
set_option maxHeartbeats 8000000 in
set_option maxRecDepth 100000 in
theorem c_X12_either_0 (l : Launch) (dC : Nat → ClassId) (dI : Nat → Nat → Nat) (g : Nat → Nat) (c : Nat → ClassId) (adK adV : Nat → Nat) (v : Nat → Int32) (F : Nat → Nat → Int32) (rc sz : Nat) (d : Nat) (hg : injM g) (hI : IM v F) (hq : (v 38).toInt ≤ (v 39).toInt ∧ (v 39).toInt ≤ (v 30).toInt ∧ (v 40).toInt < 0 ∧ (v 41).toInt = 0) (hdp : dp (F 28) (F 29) (bI (v 37)) (v 38).toInt.toNat = some d) : Met l yX12_either (Cond.code yX12_either cX12_either 2 none :: wA) ({ frames := 38, cells := 0, slots := 0, locals := 1520 }) (va_Pc [.ref (g 0)] (PM dC dI g c adK adV v F rc sz)) (va_Qv (fun (u : StM) => IM u.1 u.2.1 ∧ u.2.2 = rc ∧ (∀ k, k ∉ ([38, 39, 40, 41, 42] : List Nat) → u.1 k = v k) ∧ (∀ k, k ∉ ([28, 29] : List Nat) → u.2.1 k = F k) ∧ (((v 39).toInt ≤ (u.1 39).toInt ∧ (u.1 39).toInt ≤ (v 30).toInt ∧ (v 38).toInt ≤ (u.1 38).toInt ∧ (u.1 38).toInt - (v 38).toInt ≤ (u.1 39).toInt - (v 39).toInt ∧ (v 41).toInt ≤ (u.1 41).toInt ∧ ((u.1 40).toInt < 0 → (u.1 41).toInt = (v 41).toInt)) ∧ keepL (v 37) (F 28) (F 29) (u.2.1 28) (u.2.1 29) ∧ ((u.1 40).toInt < 0 → dp (u.2.1 28) (u.2.1 29) (bI (v 37)) (u.1 38).toInt.toNat = some (d + 1)))) (BM dC dI g c) (AM g sz)) 0 0 (AM g sz) := by
  refine Met.ofW (cc := cX12_either) (maxL := 2) (ret := none) (by decide) rfl ?_
  intro p e s m args below meth c0 s₁ B hml hv
  obtain ⟨rfl, hsz, hP, hK, hE⟩ := hv
  have hx := B.exec
  have hb := B.bytes
  have hr := B.returns
  have hts := atoms_spec (ws := Cond.code yX12_either cX12_either 2 none :: wA) B.pre
  have hwd : ∀ w ∈ wA, w.before _ s = true := fun w h => hts w (List.mem_cons_of_mem _ h)
  have hown : s.vm.findClass RX12 = some m.cls := findClass_of_methodNamed B.named
  have hlocks := B.notSynchronized
  subst hsz
  have hl := lv_entry ([.ref (g 0)]) (n := 2) (Nat.le_of_ble_eq_true rfl)
  rw [lg_entry_eq]
  generalize (lg_sl ([.ref (g 0)]) ++ List.replicate (2 - (lg_sl ([.ref (g 0)])).length) Slot.unset).toArray = ls at hl ⊢
  have hl : lv_has ls 2 [(0, .ref (g 0))] := hl
  obtain ⟨H, eH⟩ : ∃ z, z = s.heap := ⟨_, rfl⟩
  have hP : va_P (dC, dI) classes (wM g c v F rc) H := by rw [eH]; exact hP
  have hS : va_S (AM g s.heap.size) s.heap H [] := by rw [eH]; exact va_S.rf
  refine my_heap eH ?_
  have hF : ∀ k, k ∉ ([28, 29] : List Nat) → F k = F k := fun _ _ => rfl
  have hb30 : 0 ≤ (v 30).toInt ∧ (v 30).toInt ≤ 120 := hI.1 30 _ _ rfl
  have hb37 : 0 ≤ (v 37).toInt ∧ (v 37).toInt ≤ 9 := hI.1 37 _ _ rfl
  have hb38 : 0 ≤ (v 38).toInt ∧ (v 38).toInt ≤ 120 := hI.1 38 _ _ rfl
  have hb39 : 0 ≤ (v 39).toInt ∧ (v 39).toInt ≤ 120 := hI.1 39 _ _ rfl
  have hb41 : 0 ≤ (v 41).toInt ∧ (v 41).toInt ≤ 8 := hI.1 41 _ _ rfl
  have hk : keepL (v 37) (F 28) (F 29) (F 28) (F 29) := keepL.rf
  have hd : (v 40).toInt < 0 → dp (F 28) (F 29) (bI (v 37)) (v 38).toInt.toNat = some d := fun _ => hdp
  refine lv_aload_n hx hb dX12_either_0 rfl (lv_at hl 0 rfl) ?_
  have t24177 : 0 ≤ (v 30).toInt ∧ (v 30).toInt ≤ 120 := hI.1 30 _ _ rfl
  have t24178 : 0 ≤ (v 37).toInt ∧ (v 37).toInt ≤ 9 := hI.1 37 _ _ rfl
  have t24179 : 0 ≤ (v 38).toInt ∧ (v 38).toInt ≤ 120 := hI.1 38 _ _ rfl
  have t24180 : 0 ≤ (v 39).toInt ∧ (v 39).toInt ≤ 120 := hI.1 39 _ _ rfl
  have t24181 : 0 ≤ (v 41).toInt ∧ (v 41).toInt ≤ 8 := hI.1 41 _ _ rfl
  refine va_callv (va_runV (As := []) (rest := []) ⟨hx, hb, hml, hown, hwd⟩ (c_X12_sum_0 l dC dI g c adK adV v F rc H.size  d hg hI (by have h9 : v 38 = v 38 := rfl; (try rw [h9]); clear h9; have h9 : v 39 = v 39 := rfl; (try rw [h9]); clear h9; have h9 : v 30 = v 30 := rfl; (try rw [h9]); clear h9; have h9 : v 40 = v 40 := rfl; (try rw [h9]); clear h9; have h9 : v 41 = v 41 := rfl; (try rw [h9]); clear h9; omega) (by have h9 : v 37 = (v 37) := rfl; have h8 : v 38 = (v 38) := rfl; (try rw [h9]); (try rw [h8]); exact hd (by omega))) (cwV 0 hwd (gV wk_1043 wk_1011 wk_1012 wk_1013 wk_5) rfl rfl rfl (by decide +kernel) ⟨Nat.le_of_ble_eq_true rfl, Nat.le_of_ble_eq_true rfl⟩) ⟨PM.blind, va_recv hK hP (ci := 12) (q0 := 0) rfl rfl, fun U hU hW => ⟨rfl, PM.at hK hE hP hS hU hW⟩⟩ rfl rfl hl.1 rfl (lv_room (Nat.le_of_ble_eq_true rfl)) dX12_either_1 ⟨Nat.le_of_ble_eq_true rfl, Nat.le_of_ble_eq_true rfl⟩) hS (fun q _ h => (freeM hS) q h) (freeM hS) (fun u t H1 locs ht hvm hw hB hz1 hk1 hS => ?_)
  unfold BM at hB
  rw [ht] at hB
  obtain ⟨v24183, F24184, rc9⟩ := u
  obtain ⟨hI, hrc, hf24185, hG24186, hw⟩ := hw
  dsimp only at hI hrc hB hf24185 hG24186 hw
  have hF := frCF (by decide) hG24186 hF
  rw [hrc] at hB
  have hP : va_P (dC, dI) classes (wM g c v24183 F24184 rc) H1 := hB
  have hw : ((v 39).toInt ≤ (v24183 39).toInt ∧ (v24183 39).toInt ≤ (v 30).toInt ∧ (v 38).toInt ≤ (v24183 38).toInt ∧ (v24183 38).toInt - (v 38).toInt ≤ (v24183 39).toInt - (v 39).toInt ∧ (v 41).toInt ≤ (v24183 41).toInt ∧ ((v24183 40).toInt < 0 → (v24183 41).toInt = (v 41).toInt)) ∧ keepL (v 37) (F 28) (F 29) (F24184 28) (F24184 29) ∧ ((v24183 40).toInt < 0 → dp (F24184 28) (F24184 29) (bI (v 37)) (v24183 38).toInt.toNat = some (d + 1)) := hw
  have hw_r24182 := hw
  have t24187 : 0 ≤ (v24183 38).toInt ∧ (v24183 38).toInt ≤ 120 := hI.1 38 _ _ rfl
  have t24188 : 0 ≤ (v24183 39).toInt ∧ (v24183 39).toInt ≤ 120 := hI.1 39 _ _ rfl
  have t24189 : 0 ≤ (v24183 41).toInt ∧ (v24183 41).toInt ≤ 8 := hI.1 41 _ _ rfl
  generalize H1 = H at hP hS ⊢
  have hk := hk.tr hw_r24182.2.1
  have hd := hw_r24182.2.2
  refine lv_aload_n hx hb dX12_either_4 rfl (lv_at hl 0 rfl) ?_
  have t24190 : 0 ≤ (v 30).toInt ∧ (v 30).toInt ≤ 120 := by have h9 := hI.1 30 _ _ rfl; rw [show v24183 30 = v 30 from hf24185 30 (by decide)] at h9; exact h9
  have t24191 : 0 ≤ (v24183 39).toInt ∧ (v24183 39).toInt ≤ 120 := hI.1 39 _ _ rfl
  refine va_calli (va_runV (As := []) (rest := []) ⟨hx, hb, hml, hown, hwd⟩ (c_X12_look l dC dI g c adK adV v24183 F24184 rc H.size  hg hI ) (cwV 0 hwd (gV wk_1017 wk_1014 wk_1015 wk_1016 wk_5) rfl rfl rfl (by decide +kernel) ⟨Nat.le_of_ble_eq_true rfl, Nat.le_of_ble_eq_true rfl⟩) ⟨PM.blind, va_recv hK hP (ci := 12) (q0 := 0) rfl rfl, fun U hU hW => ⟨rfl, PM.at hK hE hP hS hU hW⟩⟩ rfl rfl hl.1 rfl (lv_room (Nat.le_of_ble_eq_true rfl)) dX12_either_5 ⟨Nat.le_of_ble_eq_true rfl, Nat.le_of_ble_eq_true rfl⟩) hS (fun q _ h => (freeM hS) q h) (freeM hS) (fun r24192 u t H1 locs ht hvm hw hB hz1 hk1 hS => ?_)
  unfold BM at hB
  rw [ht] at hB
  have hP : va_P (dC, dI) classes (wM g c v24183 F24184 rc) H1 := hB
  have hw : r24192.toInt = lkM (v24183 39) (v24183 30) (F24184 24) ∧ ((v24183 39).toInt < (v24183 30).toInt ∨ r24192.toInt = -1) := hw
  rw [show v24183 30 = v 30 from hf24185 30 (by decide)] at hw
  rw [hF 24 (by decide)] at hw
  have hw_r24192 := hw
  generalize H1 = H at hP hS ⊢
  refine lv_istore_n (lv' := [(1, .int r24192), (0, .ref (g 0))]) hx hb dX12_either_8 rfl hl (by decide) rfl (fun ls hl => ?_)
  refine lv_aload_n hx hb dX12_either_9 rfl (lv_at hl 1 rfl) ?_
  refine va_get (D := (dC, dI)) (ci := 12) (v := .int (v24183 40)) (C := RX12) (T := TX12) (N := 63) hx hb hwd inA_X12 hown hK hP 0 rfl rfl 40 (by decide) (hwd _ wk_1005) (fun _ h9 => h9) rfl dX12_either_10 ?_
  refine lv_if_ge (tgt := 54) hx hb dX12_either_13 (by decide) (fun c24193 => ?_) (fun c24193 => ?_)
  · skip
    have t24194 := cv_le (a := 0) (by decide) (b := (v24183 40).toInt) rfl c24193
    refine lv_aload_n hx hb dX12_either_54 rfl (lv_at hl 1 rfl) ?_
    refine va_get (D := (dC, dI)) (ci := 12) (v := .int (v24183 40)) (C := RX12) (T := TX12) (N := 63) hx hb hwd inA_X12 hown hK hP 0 rfl rfl 40 (by decide) (hwd _ wk_1005) (fun _ h9 => h9) rfl dX12_either_55 ?_
    refine lv_if_ge (tgt := 70) hx hb dX12_either_58 (by decide) (fun c24195 => ?_) (fun c24195 => ?_)
    · skip
      have t24196 := cv_le (a := 0) (by decide) (b := (v24183 40).toInt) rfl c24195
      have hP9 : va_P (dC, dI) classes (wM g c v24183 F24184 rc) H := hP
      exact W.vret hx hb hr (fun t ht hW => ⟨⟨(v24183, F24184, rc), rfl, ⟨hI, rfl, (frC (by decide) hf24185 (fun _ _ => rfl)), hF, (by show ((v 39).toInt ≤ (v24183 39).toInt ∧ (v24183 39).toInt ≤ (v 30).toInt ∧ (v 38).toInt ≤ (v24183 38).toInt ∧ (v24183 38).toInt - (v 38).toInt ≤ (v24183 39).toInt - (v 39).toInt ∧ (v 41).toInt ≤ (v24183 41).toInt ∧ ((v24183 40).toInt < 0 → (v24183 41).toInt = (v 41).toInt)) ∧ keepL (v 37) (F 28) (F 29) (F24184 28) (F24184 29) ∧ ((v24183 40).toInt < 0 → dp (F24184 28) (F24184 29) (bI (v 37)) (v24183 38).toInt.toNat = some (d + 1)); exact ⟨by omega, hk, fun hf => (hd (by omega)).trans (congrArg some (by omega))⟩)⟩, (by show va_P _ _ _ t.heap; rw [ht]; exact hP9)⟩, hS.F ht⟩) hS.2.2 dX12_either_70
    · skip
      have t24197 := cv_nle (a := 0) (by decide) (b := (v24183 40).toInt) rfl c24195
      refine lv_aload_n hx hb dX12_either_61 rfl (lv_at hl 1 rfl) ?_
      have t24198 : 0 ≤ (v 30).toInt ∧ (v 30).toInt ≤ 120 := by have h9 := hI.1 30 _ _ rfl; rw [show v24183 30 = v 30 from hf24185 30 (by decide)] at h9; exact h9
      have t24199 : 0 ≤ (v24183 39).toInt ∧ (v24183 39).toInt ≤ 120 := hI.1 39 _ _ rfl
      refine va_calli (va_runV (As := []) (rest := []) ⟨hx, hb, hml, hown, hwd⟩ (c_X12_look l dC dI g c adK adV v24183 F24184 rc H.size  hg hI ) (cwV 0 hwd (gV wk_1017 wk_1014 wk_1015 wk_1016 wk_5) rfl rfl rfl (by decide +kernel) ⟨Nat.le_of_ble_eq_true rfl, Nat.le_of_ble_eq_true rfl⟩) ⟨PM.blind, va_recv hK hP (ci := 12) (q0 := 0) rfl rfl, fun U hU hW => ⟨rfl, PM.at hK hE hP hS hU hW⟩⟩ rfl rfl hl.1 rfl (lv_room (Nat.le_of_ble_eq_true rfl)) dX12_either_62 ⟨Nat.le_of_ble_eq_true rfl, Nat.le_of_ble_eq_true rfl⟩) hS (fun q _ h => (freeM hS) q h) (freeM hS) (fun r24200 u t H1 locs ht hvm hw hB hz1 hk1 hS => ?_)
      unfold BM at hB
      rw [ht] at hB
      have hP : va_P (dC, dI) classes (wM g c v24183 F24184 rc) H1 := hB
      have hw : r24200.toInt = lkM (v24183 39) (v24183 30) (F24184 24) ∧ ((v24183 39).toInt < (v24183 30).toInt ∨ r24200.toInt = -1) := hw
      rw [show v24183 30 = v 30 from hf24185 30 (by decide)] at hw
      rw [hF 24 (by decide)] at hw
      have hw_r24200 := hw
      generalize H1 = H at hP hS ⊢
      refine lv_bipush (v := 63) hx hb dX12_either_65 (by decide) ?_
      refine lv_icmp_eq (tgt := 71) hx hb dX12_either_67 (by decide) (fun c24201 => ?_) (fun c24201 => ?_)
      · skip
        have t24202 := cv_eq (a := r24200.toInt) rfl (b := 63) (by decide) c24201
        refine lv_aload_n hx hb dX12_either_71 rfl (lv_at hl 1 rfl) ?_
        have t24203 : 0 ≤ (v24183 39).toInt ∧ (v24183 39).toInt ≤ 120 := hI.1 39 _ _ rfl
        have t24204 : 0 ≤ (v24183 41).toInt ∧ (v24183 41).toInt ≤ 8 := hI.1 41 _ _ rfl
        refine va_calli (va_runV (As := []) (rest := []) ⟨hx, hb, hml, hown, hwd⟩ (c_X12_opens l dC dI g c adK adV v24183 F24184 rc H.size  hg hI (by have h9 : v24183 39 = v24183 39 := rfl; (try rw [h9]); clear h9; have h9 : v24183 30 = v 30 := hf24185 30 (by decide); (try rw [h9]); clear h9; omega)) (cwV 0 hwd (gV wk_1025 wk_1022 wk_1023 wk_1024 wk_5) rfl rfl rfl (by decide +kernel) ⟨Nat.le_of_ble_eq_true rfl, Nat.le_of_ble_eq_true rfl⟩) ⟨PM.blind, va_recv hK hP (ci := 12) (q0 := 0) rfl rfl, fun U hU hW => ⟨rfl, PM.at hK hE hP hS hU hW⟩⟩ rfl rfl hl.1 rfl (lv_room (Nat.le_of_ble_eq_true rfl)) dX12_either_72 ⟨Nat.le_of_ble_eq_true rfl, Nat.le_of_ble_eq_true rfl⟩) hS (fun q _ h => (freeM hS) q h) (freeM hS) (fun r24205 u t H1 locs ht hvm hw hB hz1 hk1 hS => ?_)
        unfold BM at hB
        rw [ht] at hB
        obtain ⟨v24206, F24207, rc9⟩ := u
        obtain ⟨hI, hrc, hf24208, hG24209, hw⟩ := hw
        dsimp only at hI hrc hB hf24208 hG24209 hw
        have hF := frCF (by decide) hG24209 hF
        rw [hrc] at hB
        have hP : va_P (dC, dI) classes (wM g c v24206 F24207 rc) H1 := hB
        have hw : (r24205.toInt = 1 ∧ (v24183 41).toInt < 8 ∧ (v24206 41).toInt = (v24183 41).toInt + 1 ∧ (v24206 39).toInt = (v24183 39).toInt + 1 ∧ (v24206 40).toInt = (v24183 40).toInt) ∨ (r24205.toInt = 0 ∧ (v24183 41).toInt = 8 ∧ 0 ≤ (v24206 40).toInt ∧ (v24206 41).toInt = (v24183 41).toInt ∧ (v24206 39).toInt = (v24183 39).toInt) := hw
        have hw_r24205 := hw
        have t24210 : 0 ≤ (v24206 39).toInt ∧ (v24206 39).toInt ≤ 120 := hI.1 39 _ _ rfl
        have t24211 : 0 ≤ (v24206 41).toInt ∧ (v24206 41).toInt ≤ 8 := hI.1 41 _ _ rfl
        generalize H1 = H at hP hS ⊢
        have hk : keepL (v 37) (F 28) (F 29) (F24207 28) (F24207 29) := by rw [hG24209 28 (by decide), hG24209 29 (by decide)]; exact hk
        have hd : (v24206 40).toInt < 0 → dp (F24207 28) (F24207 29) (bI (v 37)) (v24183 38).toInt.toNat = some (d + 1) := fun hf => (by rw [hG24209 28 (by decide), hG24209 29 (by decide)]; exact hd (by omega))
        refine lv_if_ne (tgt := 79) hx hb dX12_either_75 (by decide) (fun c24212 => ?_) (fun c24212 => ?_)
        · skip
          have t24213 := cv_ne (a := r24205.toInt) rfl (b := 0) (by decide) c24212
          refine lv_aload_n hx hb dX12_either_79 rfl (lv_at hl 1 rfl) ?_
          have t24214 : 0 ≤ (v 30).toInt ∧ (v 30).toInt ≤ 120 := by have h9 := hI.1 30 _ _ rfl; rw [show v24206 30 = v 30 from (hf24208 30 (by decide)).trans (hf24185 30 (by decide))] at h9; exact h9
          have t24215 : 0 ≤ (v 37).toInt ∧ (v 37).toInt ≤ 9 := by have h9 := hI.1 37 _ _ rfl; rw [show v24206 37 = v 37 from (hf24208 37 (by decide)).trans (hf24185 37 (by decide))] at h9; exact h9
          have t24216 : 0 ≤ (v24183 38).toInt ∧ (v24183 38).toInt ≤ 120 := by have h9 := hI.1 38 _ _ rfl; rw [show v24206 38 = v24183 38 from hf24208 38 (by decide)] at h9; exact h9
          have t24217 : 0 ≤ (v24206 39).toInt ∧ (v24206 39).toInt ≤ 120 := hI.1 39 _ _ rfl
          have t24218 : 0 ≤ (v24206 41).toInt ∧ (v24206 41).toInt ≤ 8 := hI.1 41 _ _ rfl
          refine va_callv (va_runV (As := []) (rest := []) ⟨hx, hb, hml, hown, hwd⟩ (c_X12_either_1 l dC dI g c adK adV v24206 F24207 rc H.size  (d + 1) hg hI (by have h9 : v24206 38 = v24183 38 := hf24208 38 (by decide); (try rw [h9]); clear h9; have h9 : v24206 39 = v24206 39 := rfl; (try rw [h9]); clear h9; have h9 : v24206 30 = v 30 := (hf24208 30 (by decide)).trans (hf24185 30 (by decide)); (try rw [h9]); clear h9; have h9 : v24206 40 = v24206 40 := rfl; (try rw [h9]); clear h9; have h9 : v24206 41 = v24206 41 := rfl; (try rw [h9]); clear h9; omega) (by have h9 : v24206 37 = (v 37) := (hf24208 37 (by decide)).trans (hf24185 37 (by decide)); have h8 : v24206 38 = (v24183 38) := hf24208 38 (by decide); (try rw [h9]); (try rw [h8]); exact hd (by omega))) (cwV 0 hwd (gV wk_1010 wk_1007 wk_1008 wk_1009 wk_5) rfl rfl rfl (by decide +kernel) ⟨Nat.le_of_ble_eq_true rfl, Nat.le_of_ble_eq_true rfl⟩) ⟨PM.blind, va_recv hK hP (ci := 12) (q0 := 0) rfl rfl, fun U hU hW => ⟨rfl, PM.at hK hE hP hS hU hW⟩⟩ rfl rfl hl.1 rfl (lv_room (Nat.le_of_ble_eq_true rfl)) dX12_either_80 ⟨Nat.le_of_ble_eq_true rfl, Nat.le_of_ble_eq_true rfl⟩) hS (fun q _ h => (freeM hS) q h) (freeM hS) (fun u t H1 locs ht hvm hw hB hz1 hk1 hS => ?_)
          unfold BM at hB
          rw [ht] at hB
          obtain ⟨v24220, F24221, rc9⟩ := u
          obtain ⟨hI, hrc, hf24222, hG24223, hw⟩ := hw
          dsimp only at hI hrc hB hf24222 hG24223 hw
          have hF := frCF (by decide) hG24223 hF
          rw [hrc] at hB
          have hP : va_P (dC, dI) classes (wM g c v24220 F24221 rc) H1 := hB
          have hw : ((v24206 39).toInt ≤ (v24220 39).toInt ∧ (v24220 39).toInt ≤ (v24206 30).toInt ∧ (v24206 38).toInt ≤ (v24220 38).toInt ∧ (v24220 38).toInt - (v24206 38).toInt ≤ (v24220 39).toInt - (v24206 39).toInt ∧ (v24206 41).toInt ≤ (v24220 41).toInt ∧ ((v24220 40).toInt < 0 → (v24220 41).toInt = (v24206 41).toInt)) ∧ keepL (v24206 37) (F24207 28) (F24207 29) (F24221 28) (F24221 29) ∧ ((v24220 40).toInt < 0 → dp (F24221 28) (F24221 29) (bI (v24206 37)) (v24220 38).toInt.toNat = some ((d + 1) + 1)) := hw
          rw [show v24206 30 = v 30 from (hf24208 30 (by decide)).trans (hf24185 30 (by decide))] at hw
          rw [show v24206 38 = v24183 38 from hf24208 38 (by decide)] at hw
          rw [show v24206 37 = v 37 from (hf24208 37 (by decide)).trans (hf24185 37 (by decide))] at hw
          have hw_r24219 := hw
          have t24224 : 0 ≤ (v24220 38).toInt ∧ (v24220 38).toInt ≤ 120 := hI.1 38 _ _ rfl
          have t24225 : 0 ≤ (v24220 39).toInt ∧ (v24220 39).toInt ≤ 120 := hI.1 39 _ _ rfl
          have t24226 : 0 ≤ (v24220 41).toInt ∧ (v24220 41).toInt ≤ 8 := hI.1 41 _ _ rfl
          generalize H1 = H at hP hS ⊢
          have hk := hk.tr hw_r24219.2.1
          have hd := hw_r24219.2.2
          refine lv_aload_n hx hb dX12_either_83 rfl (lv_at hl 1 rfl) ?_
          refine va_get (D := (dC, dI)) (ci := 12) (v := .int (v24220 40)) (C := RX12) (T := TX12) (N := 63) hx hb hwd inA_X12 hown hK hP 0 rfl rfl 40 (by decide) (hwd _ wk_1005) (fun _ h9 => h9) rfl dX12_either_84 ?_
          refine lv_if_lt (tgt := 91) hx hb dX12_either_87 (by decide) (fun c24227 => ?_) (fun c24227 => ?_)
          · skip
            have t24228 := cv_lt (a := (v24220 40).toInt) rfl (b := 0) (by decide) c24227
            refine lv_aload_n hx hb dX12_either_91 rfl (lv_at hl 1 rfl) ?_
            have t24229 : 0 ≤ (v 30).toInt ∧ (v 30).toInt ≤ 120 := by have h9 := hI.1 30 _ _ rfl; rw [show v24220 30 = v 30 from (hf24222 30 (by decide)).trans ((hf24208 30 (by decide)).trans (hf24185 30 (by decide)))] at h9; exact h9
            have t24230 : 0 ≤ (v24220 39).toInt ∧ (v24220 39).toInt ≤ 120 := hI.1 39 _ _ rfl
            refine va_calli (va_runV (As := []) (rest := []) ⟨hx, hb, hml, hown, hwd⟩ (c_X12_look l dC dI g c adK adV v24220 F24221 rc H.size  hg hI ) (cwV 0 hwd (gV wk_1017 wk_1014 wk_1015 wk_1016 wk_5) rfl rfl rfl (by decide +kernel) ⟨Nat.le_of_ble_eq_true rfl, Nat.le_of_ble_eq_true rfl⟩) ⟨PM.blind, va_recv hK hP (ci := 12) (q0 := 0) rfl rfl, fun U hU hW => ⟨rfl, PM.at hK hE hP hS hU hW⟩⟩ rfl rfl hl.1 rfl (lv_room (Nat.le_of_ble_eq_true rfl)) dX12_either_92 ⟨Nat.le_of_ble_eq_true rfl, Nat.le_of_ble_eq_true rfl⟩) hS (fun q _ h => (freeM hS) q h) (freeM hS) (fun r24231 u t H1 locs ht hvm hw hB hz1 hk1 hS => ?_)
            unfold BM at hB
            rw [ht] at hB
            have hP : va_P (dC, dI) classes (wM g c v24220 F24221 rc) H1 := hB
            have hw : r24231.toInt = lkM (v24220 39) (v24220 30) (F24221 24) ∧ ((v24220 39).toInt < (v24220 30).toInt ∨ r24231.toInt = -1) := hw
            rw [show v24220 30 = v 30 from (hf24222 30 (by decide)).trans ((hf24208 30 (by decide)).trans (hf24185 30 (by decide)))] at hw
            rw [hF 24 (by decide)] at hw
            have hw_r24231 := hw
            generalize H1 = H at hP hS ⊢
            refine lv_bipush (v := 58) hx hb dX12_either_95 (by decide) ?_
            refine lv_icmp_eq (tgt := 105) hx hb dX12_either_97 (by decide) (fun c24232 => ?_) (fun c24232 => ?_)
            · skip
              have t24233 := cv_eq (a := r24231.toInt) rfl (b := 58) (by decide) c24232
              refine lv_aload_n hx hb dX12_either_105 rfl (lv_at hl 1 rfl) ?_
              refine lv_dup hx hb dX12_either_106 rfl ?_
              refine va_get (D := (dC, dI)) (ci := 12) (v := .int (v24220 39)) (C := RX12) (T := TX12) (N := 63) hx hb hwd inA_X12 hown hK hP 0 rfl rfl 39 (by decide) (hwd _ wk_1004) (fun _ h9 => h9) rfl dX12_either_107 ?_
              have t24234 : 0 ≤ (v24220 39).toInt ∧ (v24220 39).toInt ≤ 120 := hI.1 39 _ _ rfl
              refine lv_iconst (v := 1) hx hb dX12_either_110 (by decide) ?_
              refine lv_iadd hx hb dX12_either_111 ?_
              refine lv_topi (fun z24235 e24236 => ?_)
              try (have t24237 := tadd e24236 (a := (v24220 39).toInt) rfl (b := 1) (by decide) (by omega))
              refine va_put (D := (dC, dI)) (ci := 12) (v := .int z24235) (ty := .int) (C := RX12) (T := TX12) (N := 63) (fs := fsM_0 g v24220 rc) hx hb hwd inA_X12 tyX12 tyX12_ok nmX12 hown hK hP (DM hg) hS 0 rfl rfl 39 (by decide) (hwd _ wk_1004) (fun _ h9 => h9) rfl (by decide +kernel) rfl rfl (Nat.le_of_ble_eq_true rfl) dX12_either_112 (fun H locs hP _ hS => ?_)
              have hP := va_P_eq (pM_39 g c _ _ _ _) hP
              have hI := IM.put hI 39 z24235 rfl (by omega)
              refine lv_aload_n hx hb dX12_either_115 rfl (lv_at hl 1 rfl) ?_
              have t24238 : 0 ≤ (v 30).toInt ∧ (v 30).toInt ≤ 120 := by have h9 := hI.1 30 _ _ rfl; rw [show (va_up v24220 39 z24235) 30 = v 30 from (hf24222 30 (by decide)).trans ((hf24208 30 (by decide)).trans (hf24185 30 (by decide)))] at h9; exact h9
              have t24239 : 0 ≤ (v 37).toInt ∧ (v 37).toInt ≤ 9 := by have h9 := hI.1 37 _ _ rfl; rw [show (va_up v24220 39 z24235) 37 = v 37 from (hf24222 37 (by decide)).trans ((hf24208 37 (by decide)).trans (hf24185 37 (by decide)))] at h9; exact h9
              have t24240 : 0 ≤ (v24220 38).toInt ∧ (v24220 38).toInt ≤ 120 := hI.1 38 _ _ rfl
              have t24241 : 0 ≤ z24235.toInt ∧ z24235.toInt ≤ 120 := hI.1 39 _ _ rfl
              have t24242 : 0 ≤ (v24220 41).toInt ∧ (v24220 41).toInt ≤ 8 := hI.1 41 _ _ rfl
              refine va_callv (va_runV (As := []) (rest := []) ⟨hx, hb, hml, hown, hwd⟩ (c_X12_either_1 l dC dI g c adK adV (va_up v24220 39 z24235) F24221 rc H.size  ((d + 1) + 1) hg hI (by have h9 : (va_up v24220 39 z24235) 38 = v24220 38 := rfl; (try rw [h9]); clear h9; have h9 : (va_up v24220 39 z24235) 39 = z24235 := rfl; (try rw [h9]); clear h9; have h9 : (va_up v24220 39 z24235) 30 = v 30 := (hf24222 30 (by decide)).trans ((hf24208 30 (by decide)).trans (hf24185 30 (by decide))); (try rw [h9]); clear h9; have h9 : (va_up v24220 39 z24235) 40 = v24220 40 := rfl; (try rw [h9]); clear h9; have h9 : (va_up v24220 39 z24235) 41 = v24220 41 := rfl; (try rw [h9]); clear h9; omega) (by have h9 : (va_up v24220 39 z24235) 37 = (v 37) := (hf24222 37 (by decide)).trans ((hf24208 37 (by decide)).trans (hf24185 37 (by decide))); have h8 : (va_up v24220 39 z24235) 38 = (v24220 38) := rfl; (try rw [h9]); (try rw [h8]); exact hd (by omega))) (cwV 0 hwd (gV wk_1010 wk_1007 wk_1008 wk_1009 wk_5) rfl rfl rfl (by decide +kernel) ⟨Nat.le_of_ble_eq_true rfl, Nat.le_of_ble_eq_true rfl⟩) ⟨PM.blind, va_recv hK hP (ci := 12) (q0 := 0) rfl rfl, fun U hU hW => ⟨rfl, PM.at hK hE hP hS hU hW⟩⟩ rfl rfl hl.1 rfl (lv_room (Nat.le_of_ble_eq_true rfl)) dX12_either_116 ⟨Nat.le_of_ble_eq_true rfl, Nat.le_of_ble_eq_true rfl⟩) hS (fun q _ h => (freeM hS) q h) (freeM hS) (fun u t H1 locs ht hvm hw hB hz1 hk1 hS => ?_)
              unfold BM at hB
              rw [ht] at hB
              obtain ⟨v24244, F24245, rc9⟩ := u
              obtain ⟨hI, hrc, hf24246, hG24247, hw⟩ := hw
              dsimp only at hI hrc hB hf24246 hG24247 hw
              have hF := frCF (by decide) hG24247 hF
              rw [hrc] at hB
              have hP : va_P (dC, dI) classes (wM g c v24244 F24245 rc) H1 := hB
              have hw : (z24235.toInt ≤ (v24244 39).toInt ∧ (v24244 39).toInt ≤ ((va_up v24220 39 z24235) 30).toInt ∧ (v24220 38).toInt ≤ (v24244 38).toInt ∧ (v24244 38).toInt - (v24220 38).toInt ≤ (v24244 39).toInt - z24235.toInt ∧ (v24220 41).toInt ≤ (v24244 41).toInt ∧ ((v24244 40).toInt < 0 → (v24244 41).toInt = (v24220 41).toInt)) ∧ keepL ((va_up v24220 39 z24235) 37) (F24221 28) (F24221 29) (F24245 28) (F24245 29) ∧ ((v24244 40).toInt < 0 → dp (F24245 28) (F24245 29) (bI ((va_up v24220 39 z24235) 37)) (v24244 38).toInt.toNat = some (((d + 1) + 1) + 1)) := hw
              rw [show (va_up v24220 39 z24235) 30 = v 30 from (hf24222 30 (by decide)).trans ((hf24208 30 (by decide)).trans (hf24185 30 (by decide)))] at hw
              rw [show (va_up v24220 39 z24235) 37 = v 37 from (hf24222 37 (by decide)).trans ((hf24208 37 (by decide)).trans (hf24185 37 (by decide)))] at hw
              have hw_r24243 := hw
              have t24248 : 0 ≤ (v24244 38).toInt ∧ (v24244 38).toInt ≤ 120 := hI.1 38 _ _ rfl
              have t24249 : 0 ≤ (v24244 39).toInt ∧ (v24244 39).toInt ≤ 120 := hI.1 39 _ _ rfl
              have t24250 : 0 ≤ (v24244 41).toInt ∧ (v24244 41).toInt ≤ 8 := hI.1 41 _ _ rfl
              generalize H1 = H at hP hS ⊢
              have hk := hk.tr hw_r24243.2.1
              have hd := hw_r24243.2.2
              refine lv_aload_n hx hb dX12_either_119 rfl (lv_at hl 1 rfl) ?_
              refine lv_iconst (v := 4) hx hb dX12_either_120 (by decide) ?_
              refine lv_iconst (v := 0) hx hb dX12_either_121 (by decide) ?_
              have t24251 : 0 ≤ (v 37).toInt ∧ (v 37).toInt ≤ 9 := by have h9 := hI.1 37 _ _ rfl; rw [show v24244 37 = v 37 from (hf24246 37 (by decide)).trans ((hf24222 37 (by decide)).trans ((hf24208 37 (by decide)).trans (hf24185 37 (by decide))))] at h9; exact h9
              have t24252 : 0 ≤ (v24244 38).toInt ∧ (v24244 38).toInt ≤ 120 := hI.1 38 _ _ rfl
              refine va_callv (va_runV (As := [.int 4, .int 0]) (rest := []) ⟨hx, hb, hml, hown, hwd⟩ (c_X12_lay l dC dI g c adK adV v24244 F24245 rc H.size 4 0 hg hI (by have h9 : v24244 38 = v24244 38 := rfl; rw [h9]; omega)) (cwV 2 hwd (gV wk_1021 wk_1018 wk_1019 wk_1020 wk_5) rfl rfl rfl (by decide +kernel) ⟨Nat.le_of_ble_eq_true rfl, Nat.le_of_ble_eq_true rfl⟩) ⟨PM.blind, va_recv hK hP (ci := 12) (q0 := 0) rfl rfl, fun U hU hW => ⟨rfl, PM.at hK hE hP hS hU hW⟩⟩ rfl rfl hl.1 rfl (lv_room (Nat.le_of_ble_eq_true rfl)) dX12_either_122 ⟨Nat.le_of_ble_eq_true rfl, Nat.le_of_ble_eq_true rfl⟩) hS (fun q _ h => (freeM hS) q h) (freeM hS) (fun u t H1 locs ht hvm hw hB hz1 hk1 hS => ?_)
              unfold BM at hB
              rw [ht] at hB
              obtain ⟨v24254, F24255, rc9⟩ := u
              obtain ⟨hI, hrc, hf24256, hG24257, hw⟩ := hw
              dsimp only at hI hrc hB hf24256 hG24257 hw
              have hF := frCF (by decide) hG24257 hF
              rw [hrc] at hB
              have hP : va_P (dC, dI) classes (wM g c v24254 F24255 rc) H1 := hB
              have hw : (v24254 38).toInt = (v24244 38).toInt + 1 ∧ keepL (v24244 37) (F24245 28) (F24245 29) (F24255 28) (F24255 29) ∧ dp (F24255 28) (F24255 29) (bI (v24244 37)) ((v24244 38).toInt.toNat + 1) = dpS (dp (F24245 28) (F24245 29) (bI (v24244 37)) (v24244 38).toInt.toNat) (4 : Int32) (0 : Int32) := hw
              rw [show v24244 37 = v 37 from (hf24246 37 (by decide)).trans ((hf24222 37 (by decide)).trans ((hf24208 37 (by decide)).trans (hf24185 37 (by decide))))] at hw
              have hw_r24253 := hw
              have t24258 : 0 ≤ (v24254 38).toInt ∧ (v24254 38).toInt ≤ 120 := hI.1 38 _ _ rfl
              have k24259 : (4 : Int32).toInt = 4 := by decide
              have k24260 : (0 : Int32).toInt = 0 := by decide
              generalize H1 = H at hP hS ⊢
              have hk := hk.tr hw_r24253.2.1
              have hd : (v24244 40).toInt < 0 → dp (F24255 28) (F24255 29) (bI (v 37)) (v24254 38).toInt.toNat = some ((((d + 1) + 1) + 1) - 2) := fun hf => (by have e9 : (v24254 38).toInt.toNat = (v24244 38).toInt.toNat + 1 := (by omega); rw [e9, hw_r24253.2.2, hd hf]; exact dpS_4 (by decide) (by omega))
              refine lv_aload_n hx hb dX12_either_125 rfl (lv_at hl 1 rfl) ?_
              refine lv_dup hx hb dX12_either_126 rfl ?_
              refine va_get (D := (dC, dI)) (ci := 12) (v := .int (v24254 41)) (C := RX12) (T := TX12) (N := 63) hx hb hwd inA_X12 hown hK hP 0 rfl rfl 41 (by decide) (hwd _ wk_1006) (fun _ h9 => h9) rfl dX12_either_127 ?_
              refine my_top (v := v24244 41) (hf24256 41 (by decide)) ?_
              have t24261 : 0 ≤ (v24244 41).toInt ∧ (v24244 41).toInt ≤ 8 := by have h9 := hI.1 41 _ _ rfl; rw [show v24254 41 = v24244 41 from hf24256 41 (by decide)] at h9; exact h9
              refine lv_iconst (v := 1) hx hb dX12_either_130 (by decide) ?_
              refine lv_isub hx hb dX12_either_131 ?_
              refine lv_topi (fun z24262 e24263 => ?_)
              try (have t24264 := tsub e24263 (a := (v24244 41).toInt) rfl (b := 1) (by decide) (by omega))
              refine va_put (D := (dC, dI)) (ci := 12) (v := .int z24262) (ty := .int) (C := RX12) (T := TX12) (N := 63) (fs := fsM_0 g v24254 rc) hx hb hwd inA_X12 tyX12 tyX12_ok nmX12 hown hK hP (DM hg) hS 0 rfl rfl 41 (by decide) (hwd _ wk_1006) (fun _ h9 => h9) rfl (by decide +kernel) rfl rfl (Nat.le_of_ble_eq_true rfl) dX12_either_132 (fun H locs hP _ hS => ?_)
              have hP := va_P_eq (pM_41 g c _ _ _ _) hP
              have hI := IM.put hI 41 z24262 rfl (by omega)
              have hP9 : va_P (dC, dI) classes (wM g c (va_up v24254 41 z24262) F24255 rc) H := hP
              exact W.vret hx hb hr (fun t ht hW => ⟨⟨((va_up v24254 41 z24262), F24255, rc), rfl, ⟨hI, rfl, (frU (by decide) (frC (by decide) hf24256 (frC (by decide) hf24246 (frU (by decide) (frC (by decide) hf24222 (frC (by decide) hf24208 (frC (by decide) hf24185 (fun _ _ => rfl)))))))), hF, (by show ((v 39).toInt ≤ ((va_up v24254 41 z24262) 39).toInt ∧ ((va_up v24254 41 z24262) 39).toInt ≤ (v 30).toInt ∧ (v 38).toInt ≤ (v24254 38).toInt ∧ (v24254 38).toInt - (v 38).toInt ≤ ((va_up v24254 41 z24262) 39).toInt - (v 39).toInt ∧ (v 41).toInt ≤ z24262.toInt ∧ (((va_up v24254 41 z24262) 40).toInt < 0 → z24262.toInt = (v 41).toInt)) ∧ keepL (v 37) (F 28) (F 29) (F24255 28) (F24255 29) ∧ (((va_up v24254 41 z24262) 40).toInt < 0 → dp (F24255 28) (F24255 29) (bI (v 37)) (v24254 38).toInt.toNat = some (d + 1)); rw [show (va_up v24254 41 z24262) 39 = v24244 39 from hf24256 39 (by decide)]; rw [show (va_up v24254 41 z24262) 40 = v24244 40 from hf24256 40 (by decide)]; exact ⟨by omega, hk, fun hf => (hd (by omega)).trans (congrArg some (by omega))⟩)⟩, (by show va_P _ _ _ t.heap; rw [ht]; exact hP9)⟩, hS.F ht⟩) hS.2.2 dX12_either_135
            · skip
              have t24265 := cv_ne (a := r24231.toInt) rfl (b := 58) (by decide) c24232
              refine lv_aload_n hx hb dX12_either_100 rfl (lv_at hl 1 rfl) ?_
              refine va_callv (va_runV (As := []) (rest := []) ⟨hx, hb, hml, hown, hwd⟩ (c_X12_wrong l dC dI g c adK adV v24220 F24221 rc H.size  hg hI ) (cwV 0 hwd (gV wk_1029 wk_1026 wk_1027 wk_1028 wk_5) rfl rfl rfl (by decide +kernel) ⟨Nat.le_of_ble_eq_true rfl, Nat.le_of_ble_eq_true rfl⟩) ⟨PM.blind, va_recv hK hP (ci := 12) (q0 := 0) rfl rfl, fun U hU hW => ⟨rfl, PM.at hK hE hP hS hU hW⟩⟩ rfl rfl hl.1 rfl (lv_room (Nat.le_of_ble_eq_true rfl)) dX12_either_101 ⟨Nat.le_of_ble_eq_true rfl, Nat.le_of_ble_eq_true rfl⟩) hS (fun q _ h => (freeM hS) q h) (freeM hS) (fun u t H1 locs ht hvm hw hB hz1 hk1 hS => ?_)
              unfold BM at hB
              rw [ht] at hB
              obtain ⟨v24267, F24268, rc9⟩ := u
              obtain ⟨hI, hrc, hf24269, hG24270, hw⟩ := hw
              dsimp only at hI hrc hB hf24269 hG24270 hw
              have hF := frCF (by decide) hG24270 hF
              rw [hrc] at hB
              have hP : va_P (dC, dI) classes (wM g c v24267 F24268 rc) H1 := hB
              have hw : 0 ≤ (v24267 40).toInt := hw
              have hw_r24266 := hw
              generalize H1 = H at hP hS ⊢
              have hk : keepL (v 37) (F 28) (F 29) (F24268 28) (F24268 29) := by rw [hG24270 28 (by decide), hG24270 29 (by decide)]; exact hk
              have hd : (v24267 40).toInt < 0 → dp (F24268 28) (F24268 29) (bI (v 37)) (v24220 38).toInt.toNat = some ((d + 1) + 1) := fun hf => (by rw [hG24270 28 (by decide), hG24270 29 (by decide)]; exact hd (by omega))
              have hP9 : va_P (dC, dI) classes (wM g c v24267 F24268 rc) H := hP
              exact W.vret hx hb hr (fun t ht hW => ⟨⟨(v24267, F24268, rc), rfl, ⟨hI, rfl, (frC (by decide) hf24269 (frC (by decide) hf24222 (frC (by decide) hf24208 (frC (by decide) hf24185 (fun _ _ => rfl))))), hF, (by show ((v 39).toInt ≤ (v24267 39).toInt ∧ (v24267 39).toInt ≤ (v 30).toInt ∧ (v 38).toInt ≤ (v24267 38).toInt ∧ (v24267 38).toInt - (v 38).toInt ≤ (v24267 39).toInt - (v 39).toInt ∧ (v 41).toInt ≤ (v24267 41).toInt ∧ ((v24267 40).toInt < 0 → (v24267 41).toInt = (v 41).toInt)) ∧ keepL (v 37) (F 28) (F 29) (F24268 28) (F24268 29) ∧ ((v24267 40).toInt < 0 → dp (F24268 28) (F24268 29) (bI (v 37)) (v24267 38).toInt.toNat = some (d + 1)); rw [show v24267 39 = v24220 39 from hf24269 39 (by decide)]; rw [show v24267 38 = v24220 38 from hf24269 38 (by decide)]; rw [show v24267 41 = v24220 41 from hf24269 41 (by decide)]; exact ⟨by omega, hk, fun hf => (hd (by omega)).trans (congrArg some (by omega))⟩)⟩, (by show va_P _ _ _ t.heap; rw [ht]; exact hP9)⟩, hS.F ht⟩) hS.2.2 dX12_either_104
          · skip
            have t24271 := cv_nlt (a := (v24220 40).toInt) rfl (b := 0) (by decide) c24227
            have hP9 : va_P (dC, dI) classes (wM g c v24220 F24221 rc) H := hP
            exact W.vret hx hb hr (fun t ht hW => ⟨⟨(v24220, F24221, rc), rfl, ⟨hI, rfl, (frC (by decide) hf24222 (frC (by decide) hf24208 (frC (by decide) hf24185 (fun _ _ => rfl)))), hF, (by show ((v 39).toInt ≤ (v24220 39).toInt ∧ (v24220 39).toInt ≤ (v 30).toInt ∧ (v 38).toInt ≤ (v24220 38).toInt ∧ (v24220 38).toInt - (v 38).toInt ≤ (v24220 39).toInt - (v 39).toInt ∧ (v 41).toInt ≤ (v24220 41).toInt ∧ ((v24220 40).toInt < 0 → (v24220 41).toInt = (v 41).toInt)) ∧ keepL (v 37) (F 28) (F 29) (F24221 28) (F24221 29) ∧ ((v24220 40).toInt < 0 → dp (F24221 28) (F24221 29) (bI (v 37)) (v24220 38).toInt.toNat = some (d + 1)); exact ⟨by omega, hk, fun hf => (hd (by omega)).trans (congrArg some (by omega))⟩)⟩, (by show va_P _ _ _ t.heap; rw [ht]; exact hP9)⟩, hS.F ht⟩) hS.2.2 dX12_either_90
        · skip
          have t24272 := cv_eq (a := r24205.toInt) rfl (b := 0) (by decide) c24212
          have hP9 : va_P (dC, dI) classes (wM g c v24206 F24207 rc) H := hP
          exact W.vret hx hb hr (fun t ht hW => ⟨⟨(v24206, F24207, rc), rfl, ⟨hI, rfl, (frC (by decide) hf24208 (frC (by decide) hf24185 (fun _ _ => rfl))), hF, (by show ((v 39).toInt ≤ (v24206 39).toInt ∧ (v24206 39).toInt ≤ (v 30).toInt ∧ (v 38).toInt ≤ (v24206 38).toInt ∧ (v24206 38).toInt - (v 38).toInt ≤ (v24206 39).toInt - (v 39).toInt ∧ (v 41).toInt ≤ (v24206 41).toInt ∧ ((v24206 40).toInt < 0 → (v24206 41).toInt = (v 41).toInt)) ∧ keepL (v 37) (F 28) (F 29) (F24207 28) (F24207 29) ∧ ((v24206 40).toInt < 0 → dp (F24207 28) (F24207 29) (bI (v 37)) (v24206 38).toInt.toNat = some (d + 1)); rw [show v24206 38 = v24183 38 from hf24208 38 (by decide)]; exact ⟨by omega, hk, fun hf => (hd (by omega)).trans (congrArg some (by omega))⟩)⟩, (by show va_P _ _ _ t.heap; rw [ht]; exact hP9)⟩, hS.F ht⟩) hS.2.2 dX12_either_78
      · skip
        have t24273 := cv_ne (a := r24200.toInt) rfl (b := 63) (by decide) c24201
        have hP9 : va_P (dC, dI) classes (wM g c v24183 F24184 rc) H := hP
        exact W.vret hx hb hr (fun t ht hW => ⟨⟨(v24183, F24184, rc), rfl, ⟨hI, rfl, (frC (by decide) hf24185 (fun _ _ => rfl)), hF, (by show ((v 39).toInt ≤ (v24183 39).toInt ∧ (v24183 39).toInt ≤ (v 30).toInt ∧ (v 38).toInt ≤ (v24183 38).toInt ∧ (v24183 38).toInt - (v 38).toInt ≤ (v24183 39).toInt - (v 39).toInt ∧ (v 41).toInt ≤ (v24183 41).toInt ∧ ((v24183 40).toInt < 0 → (v24183 41).toInt = (v 41).toInt)) ∧ keepL (v 37) (F 28) (F 29) (F24184 28) (F24184 29) ∧ ((v24183 40).toInt < 0 → dp (F24184 28) (F24184 29) (bI (v 37)) (v24183 38).toInt.toNat = some (d + 1)); exact ⟨by omega, hk, fun hf => (hd (by omega)).trans (congrArg some (by omega))⟩)⟩, (by show va_P _ _ _ t.heap; rw [ht]; exact hP9)⟩, hS.F ht⟩) hS.2.2 dX12_either_70
  · skip
    have t24274 := cv_nle (a := 0) (by decide) (b := (v24183 40).toInt) rfl c24193
    refine lv_iload_n hx hb dX12_either_16 rfl (lv_at hl 0 rfl) ?_
    refine lv_bipush (v := 60) hx hb dX12_either_17 (by decide) ?_
    refine lv_icmp_eq (tgt := 34) hx hb dX12_either_19 (by decide) (fun c24275 => ?_) (fun c24275 => ?_)
    · skip
      have t24276 := cv_eq (a := r24192.toInt) rfl (b := 60) (by decide) c24275
      refine lv_aload_n hx hb dX12_either_34 rfl (lv_at hl 1 rfl) ?_
      refine lv_dup hx hb dX12_either_35 rfl ?_
      refine va_get (D := (dC, dI)) (ci := 12) (v := .int (v24183 39)) (C := RX12) (T := TX12) (N := 63) hx hb hwd inA_X12 hown hK hP 0 rfl rfl 39 (by decide) (hwd _ wk_1004) (fun _ h9 => h9) rfl dX12_either_36 ?_
      have t24277 : 0 ≤ (v24183 39).toInt ∧ (v24183 39).toInt ≤ 120 := hI.1 39 _ _ rfl
      refine lv_iconst (v := 1) hx hb dX12_either_39 (by decide) ?_
      refine lv_iadd hx hb dX12_either_40 ?_
      refine lv_topi (fun z24278 e24279 => ?_)
      try (have t24280 := tadd e24279 (a := (v24183 39).toInt) rfl (b := 1) (by decide) (by omega))
      refine va_put (D := (dC, dI)) (ci := 12) (v := .int z24278) (ty := .int) (C := RX12) (T := TX12) (N := 63) (fs := fsM_0 g v24183 rc) hx hb hwd inA_X12 tyX12 tyX12_ok nmX12 hown hK hP (DM hg) hS 0 rfl rfl 39 (by decide) (hwd _ wk_1004) (fun _ h9 => h9) rfl (by decide +kernel) rfl rfl (Nat.le_of_ble_eq_true rfl) dX12_either_41 (fun H locs hP _ hS => ?_)
      have hP := va_P_eq (pM_39 g c _ _ _ _) hP
      have hI := IM.put hI 39 z24278 rfl (by omega)
      refine lv_aload_n hx hb dX12_either_44 rfl (lv_at hl 1 rfl) ?_
      have t24281 : 0 ≤ (v 30).toInt ∧ (v 30).toInt ≤ 120 := by have h9 := hI.1 30 _ _ rfl; rw [show (va_up v24183 39 z24278) 30 = v 30 from hf24185 30 (by decide)] at h9; exact h9
      have t24282 : 0 ≤ (v 37).toInt ∧ (v 37).toInt ≤ 9 := by have h9 := hI.1 37 _ _ rfl; rw [show (va_up v24183 39 z24278) 37 = v 37 from hf24185 37 (by decide)] at h9; exact h9
      have t24283 : 0 ≤ (v24183 38).toInt ∧ (v24183 38).toInt ≤ 120 := hI.1 38 _ _ rfl
      have t24284 : 0 ≤ z24278.toInt ∧ z24278.toInt ≤ 120 := hI.1 39 _ _ rfl
      have t24285 : 0 ≤ (v24183 41).toInt ∧ (v24183 41).toInt ≤ 8 := hI.1 41 _ _ rfl
      refine va_callv (va_runV (As := []) (rest := []) ⟨hx, hb, hml, hown, hwd⟩ (c_X12_sum_0 l dC dI g c adK adV (va_up v24183 39 z24278) F24184 rc H.size  (d + 1) hg hI (by have h9 : (va_up v24183 39 z24278) 38 = v24183 38 := rfl; (try rw [h9]); clear h9; have h9 : (va_up v24183 39 z24278) 39 = z24278 := rfl; (try rw [h9]); clear h9; have h9 : (va_up v24183 39 z24278) 30 = v 30 := hf24185 30 (by decide); (try rw [h9]); clear h9; have h9 : (va_up v24183 39 z24278) 40 = v24183 40 := rfl; (try rw [h9]); clear h9; have h9 : (va_up v24183 39 z24278) 41 = v24183 41 := rfl; (try rw [h9]); clear h9; omega) (by have h9 : (va_up v24183 39 z24278) 37 = (v 37) := hf24185 37 (by decide); have h8 : (va_up v24183 39 z24278) 38 = (v24183 38) := rfl; (try rw [h9]); (try rw [h8]); exact hd (by omega))) (cwV 0 hwd (gV wk_1043 wk_1011 wk_1012 wk_1013 wk_5) rfl rfl rfl (by decide +kernel) ⟨Nat.le_of_ble_eq_true rfl, Nat.le_of_ble_eq_true rfl⟩) ⟨PM.blind, va_recv hK hP (ci := 12) (q0 := 0) rfl rfl, fun U hU hW => ⟨rfl, PM.at hK hE hP hS hU hW⟩⟩ rfl rfl hl.1 rfl (lv_room (Nat.le_of_ble_eq_true rfl)) dX12_either_45 ⟨Nat.le_of_ble_eq_true rfl, Nat.le_of_ble_eq_true rfl⟩) hS (fun q _ h => (freeM hS) q h) (freeM hS) (fun u t H1 locs ht hvm hw hB hz1 hk1 hS => ?_)
      unfold BM at hB
      rw [ht] at hB
      obtain ⟨v24287, F24288, rc9⟩ := u
      obtain ⟨hI, hrc, hf24289, hG24290, hw⟩ := hw
      dsimp only at hI hrc hB hf24289 hG24290 hw
      have hF := frCF (by decide) hG24290 hF
      rw [hrc] at hB
      have hP : va_P (dC, dI) classes (wM g c v24287 F24288 rc) H1 := hB
      have hw : (z24278.toInt ≤ (v24287 39).toInt ∧ (v24287 39).toInt ≤ ((va_up v24183 39 z24278) 30).toInt ∧ (v24183 38).toInt ≤ (v24287 38).toInt ∧ (v24287 38).toInt - (v24183 38).toInt ≤ (v24287 39).toInt - z24278.toInt ∧ (v24183 41).toInt ≤ (v24287 41).toInt ∧ ((v24287 40).toInt < 0 → (v24287 41).toInt = (v24183 41).toInt)) ∧ keepL ((va_up v24183 39 z24278) 37) (F24184 28) (F24184 29) (F24288 28) (F24288 29) ∧ ((v24287 40).toInt < 0 → dp (F24288 28) (F24288 29) (bI ((va_up v24183 39 z24278) 37)) (v24287 38).toInt.toNat = some ((d + 1) + 1)) := hw
      rw [show (va_up v24183 39 z24278) 30 = v 30 from hf24185 30 (by decide)] at hw
      rw [show (va_up v24183 39 z24278) 37 = v 37 from hf24185 37 (by decide)] at hw
      have hw_r24286 := hw
      have t24291 : 0 ≤ (v24287 38).toInt ∧ (v24287 38).toInt ≤ 120 := hI.1 38 _ _ rfl
      have t24292 : 0 ≤ (v24287 39).toInt ∧ (v24287 39).toInt ≤ 120 := hI.1 39 _ _ rfl
      have t24293 : 0 ≤ (v24287 41).toInt ∧ (v24287 41).toInt ≤ 8 := hI.1 41 _ _ rfl
      generalize H1 = H at hP hS ⊢
      have hk := hk.tr hw_r24286.2.1
      have hd := hw_r24286.2.2
      refine lv_aload_n hx hb dX12_either_48 rfl (lv_at hl 1 rfl) ?_
      refine lv_iload_n hx hb dX12_either_49 rfl (lv_at hl 0 rfl) ?_
      refine lv_iconst (v := 0) hx hb dX12_either_50 (by decide) ?_
      have t24294 : 0 ≤ (v 37).toInt ∧ (v 37).toInt ≤ 9 := by have h9 := hI.1 37 _ _ rfl; rw [show v24287 37 = v 37 from (hf24289 37 (by decide)).trans (hf24185 37 (by decide))] at h9; exact h9
      have t24295 : 0 ≤ (v24287 38).toInt ∧ (v24287 38).toInt ≤ 120 := hI.1 38 _ _ rfl
      refine va_callv (va_runV (As := [.int r24192, .int 0]) (rest := []) ⟨hx, hb, hml, hown, hwd⟩ (c_X12_lay l dC dI g c adK adV v24287 F24288 rc H.size r24192 0 hg hI (by have h9 : v24287 38 = v24287 38 := rfl; rw [h9]; omega)) (cwV 2 hwd (gV wk_1021 wk_1018 wk_1019 wk_1020 wk_5) rfl rfl rfl (by decide +kernel) ⟨Nat.le_of_ble_eq_true rfl, Nat.le_of_ble_eq_true rfl⟩) ⟨PM.blind, va_recv hK hP (ci := 12) (q0 := 0) rfl rfl, fun U hU hW => ⟨rfl, PM.at hK hE hP hS hU hW⟩⟩ rfl rfl hl.1 rfl (lv_room (Nat.le_of_ble_eq_true rfl)) dX12_either_51 ⟨Nat.le_of_ble_eq_true rfl, Nat.le_of_ble_eq_true rfl⟩) hS (fun q _ h => (freeM hS) q h) (freeM hS) (fun u t H1 locs ht hvm hw hB hz1 hk1 hS => ?_)
      unfold BM at hB
      rw [ht] at hB
      obtain ⟨v24297, F24298, rc9⟩ := u
      obtain ⟨hI, hrc, hf24299, hG24300, hw⟩ := hw
      dsimp only at hI hrc hB hf24299 hG24300 hw
      have hF := frCF (by decide) hG24300 hF
      rw [hrc] at hB
      have hP : va_P (dC, dI) classes (wM g c v24297 F24298 rc) H1 := hB
      have hw : (v24297 38).toInt = (v24287 38).toInt + 1 ∧ keepL (v24287 37) (F24288 28) (F24288 29) (F24298 28) (F24298 29) ∧ dp (F24298 28) (F24298 29) (bI (v24287 37)) ((v24287 38).toInt.toNat + 1) = dpS (dp (F24288 28) (F24288 29) (bI (v24287 37)) (v24287 38).toInt.toNat) r24192 (0 : Int32) := hw
      rw [show v24287 37 = v 37 from (hf24289 37 (by decide)).trans (hf24185 37 (by decide))] at hw
      have hw_r24296 := hw
      have t24301 : 0 ≤ (v24297 38).toInt ∧ (v24297 38).toInt ≤ 120 := hI.1 38 _ _ rfl
      have k24302 : (0 : Int32).toInt = 0 := by decide
      generalize H1 = H at hP hS ⊢
      have hk := hk.tr hw_r24296.2.1
      have hd : (v24287 40).toInt < 0 → dp (F24298 28) (F24298 29) (bI (v 37)) (v24297 38).toInt.toNat = some (((d + 1) + 1) - 1) := fun hf => (by have e9 : (v24297 38).toInt.toNat = (v24287 38).toInt.toNat + 1 := (by omega); rw [e9, hw_r24296.2.2, hd hf]; exact dpS_5 (by omega) (by omega) (by omega) (by omega) (by omega))
      refine lv_aload_n hx hb dX12_either_54 rfl (lv_at hl 1 rfl) ?_
      refine va_get (D := (dC, dI)) (ci := 12) (v := .int (v24297 40)) (C := RX12) (T := TX12) (N := 63) hx hb hwd inA_X12 hown hK hP 0 rfl rfl 40 (by decide) (hwd _ wk_1005) (fun _ h9 => h9) rfl dX12_either_55 ?_
      refine my_top (v := v24287 40) (hf24299 40 (by decide)) ?_
      refine lv_if_ge (tgt := 70) hx hb dX12_either_58 (by decide) (fun c24303 => ?_) (fun c24303 => ?_)
      · skip
        have t24304 := cv_le (a := 0) (by decide) (b := (v24287 40).toInt) rfl c24303
        have hP9 : va_P (dC, dI) classes (wM g c v24297 F24298 rc) H := hP
        exact W.vret hx hb hr (fun t ht hW => ⟨⟨(v24297, F24298, rc), rfl, ⟨hI, rfl, (frC (by decide) hf24299 (frC (by decide) hf24289 (frU (by decide) (frC (by decide) hf24185 (fun _ _ => rfl))))), hF, (by show ((v 39).toInt ≤ (v24297 39).toInt ∧ (v24297 39).toInt ≤ (v 30).toInt ∧ (v 38).toInt ≤ (v24297 38).toInt ∧ (v24297 38).toInt - (v 38).toInt ≤ (v24297 39).toInt - (v 39).toInt ∧ (v 41).toInt ≤ (v24297 41).toInt ∧ ((v24297 40).toInt < 0 → (v24297 41).toInt = (v 41).toInt)) ∧ keepL (v 37) (F 28) (F 29) (F24298 28) (F24298 29) ∧ ((v24297 40).toInt < 0 → dp (F24298 28) (F24298 29) (bI (v 37)) (v24297 38).toInt.toNat = some (d + 1)); rw [show v24297 39 = v24287 39 from hf24299 39 (by decide)]; rw [show v24297 41 = v24287 41 from hf24299 41 (by decide)]; rw [show v24297 40 = v24287 40 from hf24299 40 (by decide)]; exact ⟨by omega, hk, fun hf => (hd (by omega)).trans (congrArg some (by omega))⟩)⟩, (by show va_P _ _ _ t.heap; rw [ht]; exact hP9)⟩, hS.F ht⟩) hS.2.2 dX12_either_70
      · skip
        have t24305 := cv_nle (a := 0) (by decide) (b := (v24287 40).toInt) rfl c24303
        refine lv_aload_n hx hb dX12_either_61 rfl (lv_at hl 1 rfl) ?_
        have t24306 : 0 ≤ (v 30).toInt ∧ (v 30).toInt ≤ 120 := by have h9 := hI.1 30 _ _ rfl; rw [show v24297 30 = v 30 from (hf24299 30 (by decide)).trans ((hf24289 30 (by decide)).trans (hf24185 30 (by decide)))] at h9; exact h9
        have t24307 : 0 ≤ (v24287 39).toInt ∧ (v24287 39).toInt ≤ 120 := by have h9 := hI.1 39 _ _ rfl; rw [show v24297 39 = v24287 39 from hf24299 39 (by decide)] at h9; exact h9
        refine va_calli (va_runV (As := []) (rest := []) ⟨hx, hb, hml, hown, hwd⟩ (c_X12_look l dC dI g c adK adV v24297 F24298 rc H.size  hg hI ) (cwV 0 hwd (gV wk_1017 wk_1014 wk_1015 wk_1016 wk_5) rfl rfl rfl (by decide +kernel) ⟨Nat.le_of_ble_eq_true rfl, Nat.le_of_ble_eq_true rfl⟩) ⟨PM.blind, va_recv hK hP (ci := 12) (q0 := 0) rfl rfl, fun U hU hW => ⟨rfl, PM.at hK hE hP hS hU hW⟩⟩ rfl rfl hl.1 rfl (lv_room (Nat.le_of_ble_eq_true rfl)) dX12_either_62 ⟨Nat.le_of_ble_eq_true rfl, Nat.le_of_ble_eq_true rfl⟩) hS (fun q _ h => (freeM hS) q h) (freeM hS) (fun r24308 u t H1 locs ht hvm hw hB hz1 hk1 hS => ?_)
        unfold BM at hB
        rw [ht] at hB
        have hP : va_P (dC, dI) classes (wM g c v24297 F24298 rc) H1 := hB
        have hw : r24308.toInt = lkM (v24297 39) (v24297 30) (F24298 24) ∧ ((v24297 39).toInt < (v24297 30).toInt ∨ r24308.toInt = -1) := hw
        rw [show v24297 39 = v24287 39 from hf24299 39 (by decide)] at hw
        rw [show v24297 30 = v 30 from (hf24299 30 (by decide)).trans ((hf24289 30 (by decide)).trans (hf24185 30 (by decide)))] at hw
        rw [hF 24 (by decide)] at hw
        have hw_r24308 := hw
        generalize H1 = H at hP hS ⊢
        refine lv_bipush (v := 63) hx hb dX12_either_65 (by decide) ?_
        refine lv_icmp_eq (tgt := 71) hx hb dX12_either_67 (by decide) (fun c24309 => ?_) (fun c24309 => ?_)
        · skip
          have t24310 := cv_eq (a := r24308.toInt) rfl (b := 63) (by decide) c24309
          refine lv_aload_n hx hb dX12_either_71 rfl (lv_at hl 1 rfl) ?_
          have t24311 : 0 ≤ (v24287 39).toInt ∧ (v24287 39).toInt ≤ 120 := by have h9 := hI.1 39 _ _ rfl; rw [show v24297 39 = v24287 39 from hf24299 39 (by decide)] at h9; exact h9
          have t24312 : 0 ≤ (v24287 41).toInt ∧ (v24287 41).toInt ≤ 8 := by have h9 := hI.1 41 _ _ rfl; rw [show v24297 41 = v24287 41 from hf24299 41 (by decide)] at h9; exact h9
          refine va_calli (va_runV (As := []) (rest := []) ⟨hx, hb, hml, hown, hwd⟩ (c_X12_opens l dC dI g c adK adV v24297 F24298 rc H.size  hg hI (by have h9 : v24297 39 = v24287 39 := hf24299 39 (by decide); (try rw [h9]); clear h9; have h9 : v24297 30 = v 30 := (hf24299 30 (by decide)).trans ((hf24289 30 (by decide)).trans (hf24185 30 (by decide))); (try rw [h9]); clear h9; omega)) (cwV 0 hwd (gV wk_1025 wk_1022 wk_1023 wk_1024 wk_5) rfl rfl rfl (by decide +kernel) ⟨Nat.le_of_ble_eq_true rfl, Nat.le_of_ble_eq_true rfl⟩) ⟨PM.blind, va_recv hK hP (ci := 12) (q0 := 0) rfl rfl, fun U hU hW => ⟨rfl, PM.at hK hE hP hS hU hW⟩⟩ rfl rfl hl.1 rfl (lv_room (Nat.le_of_ble_eq_true rfl)) dX12_either_72 ⟨Nat.le_of_ble_eq_true rfl, Nat.le_of_ble_eq_true rfl⟩) hS (fun q _ h => (freeM hS) q h) (freeM hS) (fun r24313 u t H1 locs ht hvm hw hB hz1 hk1 hS => ?_)
          unfold BM at hB
          rw [ht] at hB
          obtain ⟨v24314, F24315, rc9⟩ := u
          obtain ⟨hI, hrc, hf24316, hG24317, hw⟩ := hw
          dsimp only at hI hrc hB hf24316 hG24317 hw
          have hF := frCF (by decide) hG24317 hF
          rw [hrc] at hB
          have hP : va_P (dC, dI) classes (wM g c v24314 F24315 rc) H1 := hB
          have hw : (r24313.toInt = 1 ∧ (v24297 41).toInt < 8 ∧ (v24314 41).toInt = (v24297 41).toInt + 1 ∧ (v24314 39).toInt = (v24297 39).toInt + 1 ∧ (v24314 40).toInt = (v24297 40).toInt) ∨ (r24313.toInt = 0 ∧ (v24297 41).toInt = 8 ∧ 0 ≤ (v24314 40).toInt ∧ (v24314 41).toInt = (v24297 41).toInt ∧ (v24314 39).toInt = (v24297 39).toInt) := hw
          rw [show v24297 41 = v24287 41 from hf24299 41 (by decide)] at hw
          rw [show v24297 39 = v24287 39 from hf24299 39 (by decide)] at hw
          rw [show v24297 40 = v24287 40 from hf24299 40 (by decide)] at hw
          have hw_r24313 := hw
          have t24318 : 0 ≤ (v24314 39).toInt ∧ (v24314 39).toInt ≤ 120 := hI.1 39 _ _ rfl
          have t24319 : 0 ≤ (v24314 41).toInt ∧ (v24314 41).toInt ≤ 8 := hI.1 41 _ _ rfl
          generalize H1 = H at hP hS ⊢
          have hk : keepL (v 37) (F 28) (F 29) (F24315 28) (F24315 29) := by rw [hG24317 28 (by decide), hG24317 29 (by decide)]; exact hk
          have hd : (v24314 40).toInt < 0 → dp (F24315 28) (F24315 29) (bI (v 37)) (v24297 38).toInt.toNat = some (((d + 1) + 1) - 1) := fun hf => (by rw [hG24317 28 (by decide), hG24317 29 (by decide)]; exact hd (by omega))
          refine lv_if_ne (tgt := 79) hx hb dX12_either_75 (by decide) (fun c24320 => ?_) (fun c24320 => ?_)
          · skip
            have t24321 := cv_ne (a := r24313.toInt) rfl (b := 0) (by decide) c24320
            refine lv_aload_n hx hb dX12_either_79 rfl (lv_at hl 1 rfl) ?_
            have t24322 : 0 ≤ (v 30).toInt ∧ (v 30).toInt ≤ 120 := by have h9 := hI.1 30 _ _ rfl; rw [show v24314 30 = v 30 from (hf24316 30 (by decide)).trans ((hf24299 30 (by decide)).trans ((hf24289 30 (by decide)).trans (hf24185 30 (by decide))))] at h9; exact h9
            have t24323 : 0 ≤ (v 37).toInt ∧ (v 37).toInt ≤ 9 := by have h9 := hI.1 37 _ _ rfl; rw [show v24314 37 = v 37 from (hf24316 37 (by decide)).trans ((hf24299 37 (by decide)).trans ((hf24289 37 (by decide)).trans (hf24185 37 (by decide))))] at h9; exact h9
            have t24324 : 0 ≤ (v24297 38).toInt ∧ (v24297 38).toInt ≤ 120 := by have h9 := hI.1 38 _ _ rfl; rw [show v24314 38 = v24297 38 from hf24316 38 (by decide)] at h9; exact h9
            have t24325 : 0 ≤ (v24314 39).toInt ∧ (v24314 39).toInt ≤ 120 := hI.1 39 _ _ rfl
            have t24326 : 0 ≤ (v24314 41).toInt ∧ (v24314 41).toInt ≤ 8 := hI.1 41 _ _ rfl
            refine va_callv (va_runV (As := []) (rest := []) ⟨hx, hb, hml, hown, hwd⟩ (c_X12_either_1 l dC dI g c adK adV v24314 F24315 rc H.size  (((d + 1) + 1) - 1) hg hI (by have h9 : v24314 38 = v24297 38 := hf24316 38 (by decide); (try rw [h9]); clear h9; have h9 : v24314 39 = v24314 39 := rfl; (try rw [h9]); clear h9; have h9 : v24314 30 = v 30 := (hf24316 30 (by decide)).trans ((hf24299 30 (by decide)).trans ((hf24289 30 (by decide)).trans (hf24185 30 (by decide)))); (try rw [h9]); clear h9; have h9 : v24314 40 = v24314 40 := rfl; (try rw [h9]); clear h9; have h9 : v24314 41 = v24314 41 := rfl; (try rw [h9]); clear h9; omega) (by have h9 : v24314 37 = (v 37) := (hf24316 37 (by decide)).trans ((hf24299 37 (by decide)).trans ((hf24289 37 (by decide)).trans (hf24185 37 (by decide)))); have h8 : v24314 38 = (v24297 38) := hf24316 38 (by decide); (try rw [h9]); (try rw [h8]); exact hd (by omega))) (cwV 0 hwd (gV wk_1010 wk_1007 wk_1008 wk_1009 wk_5) rfl rfl rfl (by decide +kernel) ⟨Nat.le_of_ble_eq_true rfl, Nat.le_of_ble_eq_true rfl⟩) ⟨PM.blind, va_recv hK hP (ci := 12) (q0 := 0) rfl rfl, fun U hU hW => ⟨rfl, PM.at hK hE hP hS hU hW⟩⟩ rfl rfl hl.1 rfl (lv_room (Nat.le_of_ble_eq_true rfl)) dX12_either_80 ⟨Nat.le_of_ble_eq_true rfl, Nat.le_of_ble_eq_true rfl⟩) hS (fun q _ h => (freeM hS) q h) (freeM hS) (fun u t H1 locs ht hvm hw hB hz1 hk1 hS => ?_)
            unfold BM at hB
            rw [ht] at hB
            obtain ⟨v24328, F24329, rc9⟩ := u
            obtain ⟨hI, hrc, hf24330, hG24331, hw⟩ := hw
            dsimp only at hI hrc hB hf24330 hG24331 hw
            have hF := frCF (by decide) hG24331 hF
            rw [hrc] at hB
            have hP : va_P (dC, dI) classes (wM g c v24328 F24329 rc) H1 := hB
            have hw : ((v24314 39).toInt ≤ (v24328 39).toInt ∧ (v24328 39).toInt ≤ (v24314 30).toInt ∧ (v24314 38).toInt ≤ (v24328 38).toInt ∧ (v24328 38).toInt - (v24314 38).toInt ≤ (v24328 39).toInt - (v24314 39).toInt ∧ (v24314 41).toInt ≤ (v24328 41).toInt ∧ ((v24328 40).toInt < 0 → (v24328 41).toInt = (v24314 41).toInt)) ∧ keepL (v24314 37) (F24315 28) (F24315 29) (F24329 28) (F24329 29) ∧ ((v24328 40).toInt < 0 → dp (F24329 28) (F24329 29) (bI (v24314 37)) (v24328 38).toInt.toNat = some ((((d + 1) + 1) - 1) + 1)) := hw
            rw [show v24314 30 = v 30 from (hf24316 30 (by decide)).trans ((hf24299 30 (by decide)).trans ((hf24289 30 (by decide)).trans (hf24185 30 (by decide))))] at hw
            rw [show v24314 38 = v24297 38 from hf24316 38 (by decide)] at hw
            rw [show v24314 37 = v 37 from (hf24316 37 (by decide)).trans ((hf24299 37 (by decide)).trans ((hf24289 37 (by decide)).trans (hf24185 37 (by decide))))] at hw
            have hw_r24327 := hw
            have t24332 : 0 ≤ (v24328 38).toInt ∧ (v24328 38).toInt ≤ 120 := hI.1 38 _ _ rfl
            have t24333 : 0 ≤ (v24328 39).toInt ∧ (v24328 39).toInt ≤ 120 := hI.1 39 _ _ rfl
            have t24334 : 0 ≤ (v24328 41).toInt ∧ (v24328 41).toInt ≤ 8 := hI.1 41 _ _ rfl
            generalize H1 = H at hP hS ⊢
            have hk := hk.tr hw_r24327.2.1
            have hd := hw_r24327.2.2
            refine lv_aload_n hx hb dX12_either_83 rfl (lv_at hl 1 rfl) ?_
            refine va_get (D := (dC, dI)) (ci := 12) (v := .int (v24328 40)) (C := RX12) (T := TX12) (N := 63) hx hb hwd inA_X12 hown hK hP 0 rfl rfl 40 (by decide) (hwd _ wk_1005) (fun _ h9 => h9) rfl dX12_either_84 ?_
            refine lv_if_lt (tgt := 91) hx hb dX12_either_87 (by decide) (fun c24335 => ?_) (fun c24335 => ?_)
            · skip
              have t24336 := cv_lt (a := (v24328 40).toInt) rfl (b := 0) (by decide) c24335
              refine lv_aload_n hx hb dX12_either_91 rfl (lv_at hl 1 rfl) ?_
              have t24337 : 0 ≤ (v 30).toInt ∧ (v 30).toInt ≤ 120 := by have h9 := hI.1 30 _ _ rfl; rw [show v24328 30 = v 30 from (hf24330 30 (by decide)).trans ((hf24316 30 (by decide)).trans ((hf24299 30 (by decide)).trans ((hf24289 30 (by decide)).trans (hf24185 30 (by decide)))))] at h9; exact h9
              have t24338 : 0 ≤ (v24328 39).toInt ∧ (v24328 39).toInt ≤ 120 := hI.1 39 _ _ rfl
              refine va_calli (va_runV (As := []) (rest := []) ⟨hx, hb, hml, hown, hwd⟩ (c_X12_look l dC dI g c adK adV v24328 F24329 rc H.size  hg hI ) (cwV 0 hwd (gV wk_1017 wk_1014 wk_1015 wk_1016 wk_5) rfl rfl rfl (by decide +kernel) ⟨Nat.le_of_ble_eq_true rfl, Nat.le_of_ble_eq_true rfl⟩) ⟨PM.blind, va_recv hK hP (ci := 12) (q0 := 0) rfl rfl, fun U hU hW => ⟨rfl, PM.at hK hE hP hS hU hW⟩⟩ rfl rfl hl.1 rfl (lv_room (Nat.le_of_ble_eq_true rfl)) dX12_either_92 ⟨Nat.le_of_ble_eq_true rfl, Nat.le_of_ble_eq_true rfl⟩) hS (fun q _ h => (freeM hS) q h) (freeM hS) (fun r24339 u t H1 locs ht hvm hw hB hz1 hk1 hS => ?_)
              unfold BM at hB
              rw [ht] at hB
              have hP : va_P (dC, dI) classes (wM g c v24328 F24329 rc) H1 := hB
              have hw : r24339.toInt = lkM (v24328 39) (v24328 30) (F24329 24) ∧ ((v24328 39).toInt < (v24328 30).toInt ∨ r24339.toInt = -1) := hw
              rw [show v24328 30 = v 30 from (hf24330 30 (by decide)).trans ((hf24316 30 (by decide)).trans ((hf24299 30 (by decide)).trans ((hf24289 30 (by decide)).trans (hf24185 30 (by decide)))))] at hw
              rw [hF 24 (by decide)] at hw
              have hw_r24339 := hw
              generalize H1 = H at hP hS ⊢
              refine lv_bipush (v := 58) hx hb dX12_either_95 (by decide) ?_
              refine lv_icmp_eq (tgt := 105) hx hb dX12_either_97 (by decide) (fun c24340 => ?_) (fun c24340 => ?_)
              · skip
                have t24341 := cv_eq (a := r24339.toInt) rfl (b := 58) (by decide) c24340
                refine lv_aload_n hx hb dX12_either_105 rfl (lv_at hl 1 rfl) ?_
                refine lv_dup hx hb dX12_either_106 rfl ?_
                refine va_get (D := (dC, dI)) (ci := 12) (v := .int (v24328 39)) (C := RX12) (T := TX12) (N := 63) hx hb hwd inA_X12 hown hK hP 0 rfl rfl 39 (by decide) (hwd _ wk_1004) (fun _ h9 => h9) rfl dX12_either_107 ?_
                have t24342 : 0 ≤ (v24328 39).toInt ∧ (v24328 39).toInt ≤ 120 := hI.1 39 _ _ rfl
                refine lv_iconst (v := 1) hx hb dX12_either_110 (by decide) ?_
                refine lv_iadd hx hb dX12_either_111 ?_
                refine lv_topi (fun z24343 e24344 => ?_)
                try (have t24345 := tadd e24344 (a := (v24328 39).toInt) rfl (b := 1) (by decide) (by omega))
                refine va_put (D := (dC, dI)) (ci := 12) (v := .int z24343) (ty := .int) (C := RX12) (T := TX12) (N := 63) (fs := fsM_0 g v24328 rc) hx hb hwd inA_X12 tyX12 tyX12_ok nmX12 hown hK hP (DM hg) hS 0 rfl rfl 39 (by decide) (hwd _ wk_1004) (fun _ h9 => h9) rfl (by decide +kernel) rfl rfl (Nat.le_of_ble_eq_true rfl) dX12_either_112 (fun H locs hP _ hS => ?_)
                have hP := va_P_eq (pM_39 g c _ _ _ _) hP
                have hI := IM.put hI 39 z24343 rfl (by omega)
                refine lv_aload_n hx hb dX12_either_115 rfl (lv_at hl 1 rfl) ?_
                have t24346 : 0 ≤ (v 30).toInt ∧ (v 30).toInt ≤ 120 := by have h9 := hI.1 30 _ _ rfl; rw [show (va_up v24328 39 z24343) 30 = v 30 from (hf24330 30 (by decide)).trans ((hf24316 30 (by decide)).trans ((hf24299 30 (by decide)).trans ((hf24289 30 (by decide)).trans (hf24185 30 (by decide)))))] at h9; exact h9
                have t24347 : 0 ≤ (v 37).toInt ∧ (v 37).toInt ≤ 9 := by have h9 := hI.1 37 _ _ rfl; rw [show (va_up v24328 39 z24343) 37 = v 37 from (hf24330 37 (by decide)).trans ((hf24316 37 (by decide)).trans ((hf24299 37 (by decide)).trans ((hf24289 37 (by decide)).trans (hf24185 37 (by decide)))))] at h9; exact h9
                have t24348 : 0 ≤ (v24328 38).toInt ∧ (v24328 38).toInt ≤ 120 := hI.1 38 _ _ rfl
                have t24349 : 0 ≤ z24343.toInt ∧ z24343.toInt ≤ 120 := hI.1 39 _ _ rfl
                have t24350 : 0 ≤ (v24328 41).toInt ∧ (v24328 41).toInt ≤ 8 := hI.1 41 _ _ rfl
                refine va_callv (va_runV (As := []) (rest := []) ⟨hx, hb, hml, hown, hwd⟩ (c_X12_either_1 l dC dI g c adK adV (va_up v24328 39 z24343) F24329 rc H.size  ((((d + 1) + 1) - 1) + 1) hg hI (by have h9 : (va_up v24328 39 z24343) 38 = v24328 38 := rfl; (try rw [h9]); clear h9; have h9 : (va_up v24328 39 z24343) 39 = z24343 := rfl; (try rw [h9]); clear h9; have h9 : (va_up v24328 39 z24343) 30 = v 30 := (hf24330 30 (by decide)).trans ((hf24316 30 (by decide)).trans ((hf24299 30 (by decide)).trans ((hf24289 30 (by decide)).trans (hf24185 30 (by decide))))); (try rw [h9]); clear h9; have h9 : (va_up v24328 39 z24343) 40 = v24328 40 := rfl; (try rw [h9]); clear h9; have h9 : (va_up v24328 39 z24343) 41 = v24328 41 := rfl; (try rw [h9]); clear h9; omega) (by have h9 : (va_up v24328 39 z24343) 37 = (v 37) := (hf24330 37 (by decide)).trans ((hf24316 37 (by decide)).trans ((hf24299 37 (by decide)).trans ((hf24289 37 (by decide)).trans (hf24185 37 (by decide))))); have h8 : (va_up v24328 39 z24343) 38 = (v24328 38) := rfl; (try rw [h9]); (try rw [h8]); exact hd (by omega))) (cwV 0 hwd (gV wk_1010 wk_1007 wk_1008 wk_1009 wk_5) rfl rfl rfl (by decide +kernel) ⟨Nat.le_of_ble_eq_true rfl, Nat.le_of_ble_eq_true rfl⟩) ⟨PM.blind, va_recv hK hP (ci := 12) (q0 := 0) rfl rfl, fun U hU hW => ⟨rfl, PM.at hK hE hP hS hU hW⟩⟩ rfl rfl hl.1 rfl (lv_room (Nat.le_of_ble_eq_true rfl)) dX12_either_116 ⟨Nat.le_of_ble_eq_true rfl, Nat.le_of_ble_eq_true rfl⟩) hS (fun q _ h => (freeM hS) q h) (freeM hS) (fun u t H1 locs ht hvm hw hB hz1 hk1 hS => ?_)
                unfold BM at hB
                rw [ht] at hB
                obtain ⟨v24352, F24353, rc9⟩ := u
                obtain ⟨hI, hrc, hf24354, hG24355, hw⟩ := hw
                dsimp only at hI hrc hB hf24354 hG24355 hw
                have hF := frCF (by decide) hG24355 hF
                rw [hrc] at hB
                have hP : va_P (dC, dI) classes (wM g c v24352 F24353 rc) H1 := hB
                have hw : (z24343.toInt ≤ (v24352 39).toInt ∧ (v24352 39).toInt ≤ ((va_up v24328 39 z24343) 30).toInt ∧ (v24328 38).toInt ≤ (v24352 38).toInt ∧ (v24352 38).toInt - (v24328 38).toInt ≤ (v24352 39).toInt - z24343.toInt ∧ (v24328 41).toInt ≤ (v24352 41).toInt ∧ ((v24352 40).toInt < 0 → (v24352 41).toInt = (v24328 41).toInt)) ∧ keepL ((va_up v24328 39 z24343) 37) (F24329 28) (F24329 29) (F24353 28) (F24353 29) ∧ ((v24352 40).toInt < 0 → dp (F24353 28) (F24353 29) (bI ((va_up v24328 39 z24343) 37)) (v24352 38).toInt.toNat = some (((((d + 1) + 1) - 1) + 1) + 1)) := hw
                rw [show (va_up v24328 39 z24343) 30 = v 30 from (hf24330 30 (by decide)).trans ((hf24316 30 (by decide)).trans ((hf24299 30 (by decide)).trans ((hf24289 30 (by decide)).trans (hf24185 30 (by decide)))))] at hw
                rw [show (va_up v24328 39 z24343) 37 = v 37 from (hf24330 37 (by decide)).trans ((hf24316 37 (by decide)).trans ((hf24299 37 (by decide)).trans ((hf24289 37 (by decide)).trans (hf24185 37 (by decide)))))] at hw
                have hw_r24351 := hw
                have t24356 : 0 ≤ (v24352 38).toInt ∧ (v24352 38).toInt ≤ 120 := hI.1 38 _ _ rfl
                have t24357 : 0 ≤ (v24352 39).toInt ∧ (v24352 39).toInt ≤ 120 := hI.1 39 _ _ rfl
                have t24358 : 0 ≤ (v24352 41).toInt ∧ (v24352 41).toInt ≤ 8 := hI.1 41 _ _ rfl
                generalize H1 = H at hP hS ⊢
                have hk := hk.tr hw_r24351.2.1
                have hd := hw_r24351.2.2
                refine lv_aload_n hx hb dX12_either_119 rfl (lv_at hl 1 rfl) ?_
                refine lv_iconst (v := 4) hx hb dX12_either_120 (by decide) ?_
                refine lv_iconst (v := 0) hx hb dX12_either_121 (by decide) ?_
                have t24359 : 0 ≤ (v 37).toInt ∧ (v 37).toInt ≤ 9 := by have h9 := hI.1 37 _ _ rfl; rw [show v24352 37 = v 37 from (hf24354 37 (by decide)).trans ((hf24330 37 (by decide)).trans ((hf24316 37 (by decide)).trans ((hf24299 37 (by decide)).trans ((hf24289 37 (by decide)).trans (hf24185 37 (by decide))))))] at h9; exact h9
                have t24360 : 0 ≤ (v24352 38).toInt ∧ (v24352 38).toInt ≤ 120 := hI.1 38 _ _ rfl
                refine va_callv (va_runV (As := [.int 4, .int 0]) (rest := []) ⟨hx, hb, hml, hown, hwd⟩ (c_X12_lay l dC dI g c adK adV v24352 F24353 rc H.size 4 0 hg hI (by have h9 : v24352 38 = v24352 38 := rfl; rw [h9]; omega)) (cwV 2 hwd (gV wk_1021 wk_1018 wk_1019 wk_1020 wk_5) rfl rfl rfl (by decide +kernel) ⟨Nat.le_of_ble_eq_true rfl, Nat.le_of_ble_eq_true rfl⟩) ⟨PM.blind, va_recv hK hP (ci := 12) (q0 := 0) rfl rfl, fun U hU hW => ⟨rfl, PM.at hK hE hP hS hU hW⟩⟩ rfl rfl hl.1 rfl (lv_room (Nat.le_of_ble_eq_true rfl)) dX12_either_122 ⟨Nat.le_of_ble_eq_true rfl, Nat.le_of_ble_eq_true rfl⟩) hS (fun q _ h => (freeM hS) q h) (freeM hS) (fun u t H1 locs ht hvm hw hB hz1 hk1 hS => ?_)
                unfold BM at hB
                rw [ht] at hB
                obtain ⟨v24362, F24363, rc9⟩ := u
                obtain ⟨hI, hrc, hf24364, hG24365, hw⟩ := hw
                dsimp only at hI hrc hB hf24364 hG24365 hw
                have hF := frCF (by decide) hG24365 hF
                rw [hrc] at hB
                have hP : va_P (dC, dI) classes (wM g c v24362 F24363 rc) H1 := hB
                have hw : (v24362 38).toInt = (v24352 38).toInt + 1 ∧ keepL (v24352 37) (F24353 28) (F24353 29) (F24363 28) (F24363 29) ∧ dp (F24363 28) (F24363 29) (bI (v24352 37)) ((v24352 38).toInt.toNat + 1) = dpS (dp (F24353 28) (F24353 29) (bI (v24352 37)) (v24352 38).toInt.toNat) (4 : Int32) (0 : Int32) := hw
                rw [show v24352 37 = v 37 from (hf24354 37 (by decide)).trans ((hf24330 37 (by decide)).trans ((hf24316 37 (by decide)).trans ((hf24299 37 (by decide)).trans ((hf24289 37 (by decide)).trans (hf24185 37 (by decide))))))] at hw
                have hw_r24361 := hw
                have t24366 : 0 ≤ (v24362 38).toInt ∧ (v24362 38).toInt ≤ 120 := hI.1 38 _ _ rfl
                have k24367 : (4 : Int32).toInt = 4 := by decide
                have k24368 : (0 : Int32).toInt = 0 := by decide
                generalize H1 = H at hP hS ⊢
                have hk := hk.tr hw_r24361.2.1
                have hd : (v24352 40).toInt < 0 → dp (F24363 28) (F24363 29) (bI (v 37)) (v24362 38).toInt.toNat = some ((((((d + 1) + 1) - 1) + 1) + 1) - 2) := fun hf => (by have e9 : (v24362 38).toInt.toNat = (v24352 38).toInt.toNat + 1 := (by omega); rw [e9, hw_r24361.2.2, hd hf]; exact dpS_4 (by decide) (by omega))
                refine lv_aload_n hx hb dX12_either_125 rfl (lv_at hl 1 rfl) ?_
                refine lv_dup hx hb dX12_either_126 rfl ?_
                refine va_get (D := (dC, dI)) (ci := 12) (v := .int (v24362 41)) (C := RX12) (T := TX12) (N := 63) hx hb hwd inA_X12 hown hK hP 0 rfl rfl 41 (by decide) (hwd _ wk_1006) (fun _ h9 => h9) rfl dX12_either_127 ?_
                refine my_top (v := v24352 41) (hf24364 41 (by decide)) ?_
                have t24369 : 0 ≤ (v24352 41).toInt ∧ (v24352 41).toInt ≤ 8 := by have h9 := hI.1 41 _ _ rfl; rw [show v24362 41 = v24352 41 from hf24364 41 (by decide)] at h9; exact h9
                refine lv_iconst (v := 1) hx hb dX12_either_130 (by decide) ?_
                refine lv_isub hx hb dX12_either_131 ?_
                refine lv_topi (fun z24370 e24371 => ?_)
                try (have t24372 := tsub e24371 (a := (v24352 41).toInt) rfl (b := 1) (by decide) (by omega))
                refine va_put (D := (dC, dI)) (ci := 12) (v := .int z24370) (ty := .int) (C := RX12) (T := TX12) (N := 63) (fs := fsM_0 g v24362 rc) hx hb hwd inA_X12 tyX12 tyX12_ok nmX12 hown hK hP (DM hg) hS 0 rfl rfl 41 (by decide) (hwd _ wk_1006) (fun _ h9 => h9) rfl (by decide +kernel) rfl rfl (Nat.le_of_ble_eq_true rfl) dX12_either_132 (fun H locs hP _ hS => ?_)
                have hP := va_P_eq (pM_41 g c _ _ _ _) hP
                have hI := IM.put hI 41 z24370 rfl (by omega)
                have hP9 : va_P (dC, dI) classes (wM g c (va_up v24362 41 z24370) F24363 rc) H := hP
                exact W.vret hx hb hr (fun t ht hW => ⟨⟨((va_up v24362 41 z24370), F24363, rc), rfl, ⟨hI, rfl, (frU (by decide) (frC (by decide) hf24364 (frC (by decide) hf24354 (frU (by decide) (frC (by decide) hf24330 (frC (by decide) hf24316 (frC (by decide) hf24299 (frC (by decide) hf24289 (frU (by decide) (frC (by decide) hf24185 (fun _ _ => rfl))))))))))), hF, (by show ((v 39).toInt ≤ ((va_up v24362 41 z24370) 39).toInt ∧ ((va_up v24362 41 z24370) 39).toInt ≤ (v 30).toInt ∧ (v 38).toInt ≤ (v24362 38).toInt ∧ (v24362 38).toInt - (v 38).toInt ≤ ((va_up v24362 41 z24370) 39).toInt - (v 39).toInt ∧ (v 41).toInt ≤ z24370.toInt ∧ (((va_up v24362 41 z24370) 40).toInt < 0 → z24370.toInt = (v 41).toInt)) ∧ keepL (v 37) (F 28) (F 29) (F24363 28) (F24363 29) ∧ (((va_up v24362 41 z24370) 40).toInt < 0 → dp (F24363 28) (F24363 29) (bI (v 37)) (v24362 38).toInt.toNat = some (d + 1)); rw [show (va_up v24362 41 z24370) 39 = v24352 39 from hf24364 39 (by decide)]; rw [show (va_up v24362 41 z24370) 40 = v24352 40 from hf24364 40 (by decide)]; exact ⟨by omega, hk, fun hf => (hd (by omega)).trans (congrArg some (by omega))⟩)⟩, (by show va_P _ _ _ t.heap; rw [ht]; exact hP9)⟩, hS.F ht⟩) hS.2.2 dX12_either_135
              · skip
                have t24373 := cv_ne (a := r24339.toInt) rfl (b := 58) (by decide) c24340
                refine lv_aload_n hx hb dX12_either_100 rfl (lv_at hl 1 rfl) ?_
                refine va_callv (va_runV (As := []) (rest := []) ⟨hx, hb, hml, hown, hwd⟩ (c_X12_wrong l dC dI g c adK adV v24328 F24329 rc H.size  hg hI ) (cwV 0 hwd (gV wk_1029 wk_1026 wk_1027 wk_1028 wk_5) rfl rfl rfl (by decide +kernel) ⟨Nat.le_of_ble_eq_true rfl, Nat.le_of_ble_eq_true rfl⟩) ⟨PM.blind, va_recv hK hP (ci := 12) (q0 := 0) rfl rfl, fun U hU hW => ⟨rfl, PM.at hK hE hP hS hU hW⟩⟩ rfl rfl hl.1 rfl (lv_room (Nat.le_of_ble_eq_true rfl)) dX12_either_101 ⟨Nat.le_of_ble_eq_true rfl, Nat.le_of_ble_eq_true rfl⟩) hS (fun q _ h => (freeM hS) q h) (freeM hS) (fun u t H1 locs ht hvm hw hB hz1 hk1 hS => ?_)
                unfold BM at hB
                rw [ht] at hB
                obtain ⟨v24375, F24376, rc9⟩ := u
                obtain ⟨hI, hrc, hf24377, hG24378, hw⟩ := hw
                dsimp only at hI hrc hB hf24377 hG24378 hw
                have hF := frCF (by decide) hG24378 hF
                rw [hrc] at hB
                have hP : va_P (dC, dI) classes (wM g c v24375 F24376 rc) H1 := hB
                have hw : 0 ≤ (v24375 40).toInt := hw
                have hw_r24374 := hw
                generalize H1 = H at hP hS ⊢
                have hk : keepL (v 37) (F 28) (F 29) (F24376 28) (F24376 29) := by rw [hG24378 28 (by decide), hG24378 29 (by decide)]; exact hk
                have hd : (v24375 40).toInt < 0 → dp (F24376 28) (F24376 29) (bI (v 37)) (v24328 38).toInt.toNat = some ((((d + 1) + 1) - 1) + 1) := fun hf => (by rw [hG24378 28 (by decide), hG24378 29 (by decide)]; exact hd (by omega))
                have hP9 : va_P (dC, dI) classes (wM g c v24375 F24376 rc) H := hP
                exact W.vret hx hb hr (fun t ht hW => ⟨⟨(v24375, F24376, rc), rfl, ⟨hI, rfl, (frC (by decide) hf24377 (frC (by decide) hf24330 (frC (by decide) hf24316 (frC (by decide) hf24299 (frC (by decide) hf24289 (frU (by decide) (frC (by decide) hf24185 (fun _ _ => rfl)))))))), hF, (by show ((v 39).toInt ≤ (v24375 39).toInt ∧ (v24375 39).toInt ≤ (v 30).toInt ∧ (v 38).toInt ≤ (v24375 38).toInt ∧ (v24375 38).toInt - (v 38).toInt ≤ (v24375 39).toInt - (v 39).toInt ∧ (v 41).toInt ≤ (v24375 41).toInt ∧ ((v24375 40).toInt < 0 → (v24375 41).toInt = (v 41).toInt)) ∧ keepL (v 37) (F 28) (F 29) (F24376 28) (F24376 29) ∧ ((v24375 40).toInt < 0 → dp (F24376 28) (F24376 29) (bI (v 37)) (v24375 38).toInt.toNat = some (d + 1)); rw [show v24375 39 = v24328 39 from hf24377 39 (by decide)]; rw [show v24375 38 = v24328 38 from hf24377 38 (by decide)]; rw [show v24375 41 = v24328 41 from hf24377 41 (by decide)]; exact ⟨by omega, hk, fun hf => (hd (by omega)).trans (congrArg some (by omega))⟩)⟩, (by show va_P _ _ _ t.heap; rw [ht]; exact hP9)⟩, hS.F ht⟩) hS.2.2 dX12_either_104
            · skip
              have t24379 := cv_nlt (a := (v24328 40).toInt) rfl (b := 0) (by decide) c24335
              have hP9 : va_P (dC, dI) classes (wM g c v24328 F24329 rc) H := hP
              exact W.vret hx hb hr (fun t ht hW => ⟨⟨(v24328, F24329, rc), rfl, ⟨hI, rfl, (frC (by decide) hf24330 (frC (by decide) hf24316 (frC (by decide) hf24299 (frC (by decide) hf24289 (frU (by decide) (frC (by decide) hf24185 (fun _ _ => rfl))))))), hF, (by show ((v 39).toInt ≤ (v24328 39).toInt ∧ (v24328 39).toInt ≤ (v 30).toInt ∧ (v 38).toInt ≤ (v24328 38).toInt ∧ (v24328 38).toInt - (v 38).toInt ≤ (v24328 39).toInt - (v 39).toInt ∧ (v 41).toInt ≤ (v24328 41).toInt ∧ ((v24328 40).toInt < 0 → (v24328 41).toInt = (v 41).toInt)) ∧ keepL (v 37) (F 28) (F 29) (F24329 28) (F24329 29) ∧ ((v24328 40).toInt < 0 → dp (F24329 28) (F24329 29) (bI (v 37)) (v24328 38).toInt.toNat = some (d + 1)); exact ⟨by omega, hk, fun hf => (hd (by omega)).trans (congrArg some (by omega))⟩)⟩, (by show va_P _ _ _ t.heap; rw [ht]; exact hP9)⟩, hS.F ht⟩) hS.2.2 dX12_either_90
          · skip
            have t24380 := cv_eq (a := r24313.toInt) rfl (b := 0) (by decide) c24320
            have hP9 : va_P (dC, dI) classes (wM g c v24314 F24315 rc) H := hP
            exact W.vret hx hb hr (fun t ht hW => ⟨⟨(v24314, F24315, rc), rfl, ⟨hI, rfl, (frC (by decide) hf24316 (frC (by decide) hf24299 (frC (by decide) hf24289 (frU (by decide) (frC (by decide) hf24185 (fun _ _ => rfl)))))), hF, (by show ((v 39).toInt ≤ (v24314 39).toInt ∧ (v24314 39).toInt ≤ (v 30).toInt ∧ (v 38).toInt ≤ (v24314 38).toInt ∧ (v24314 38).toInt - (v 38).toInt ≤ (v24314 39).toInt - (v 39).toInt ∧ (v 41).toInt ≤ (v24314 41).toInt ∧ ((v24314 40).toInt < 0 → (v24314 41).toInt = (v 41).toInt)) ∧ keepL (v 37) (F 28) (F 29) (F24315 28) (F24315 29) ∧ ((v24314 40).toInt < 0 → dp (F24315 28) (F24315 29) (bI (v 37)) (v24314 38).toInt.toNat = some (d + 1)); rw [show v24314 38 = v24297 38 from hf24316 38 (by decide)]; exact ⟨by omega, hk, fun hf => (hd (by omega)).trans (congrArg some (by omega))⟩)⟩, (by show va_P _ _ _ t.heap; rw [ht]; exact hP9)⟩, hS.F ht⟩) hS.2.2 dX12_either_78
        · skip
          have t24381 := cv_ne (a := r24308.toInt) rfl (b := 63) (by decide) c24309
          have hP9 : va_P (dC, dI) classes (wM g c v24297 F24298 rc) H := hP
          exact W.vret hx hb hr (fun t ht hW => ⟨⟨(v24297, F24298, rc), rfl, ⟨hI, rfl, (frC (by decide) hf24299 (frC (by decide) hf24289 (frU (by decide) (frC (by decide) hf24185 (fun _ _ => rfl))))), hF, (by show ((v 39).toInt ≤ (v24297 39).toInt ∧ (v24297 39).toInt ≤ (v 30).toInt ∧ (v 38).toInt ≤ (v24297 38).toInt ∧ (v24297 38).toInt - (v 38).toInt ≤ (v24297 39).toInt - (v 39).toInt ∧ (v 41).toInt ≤ (v24297 41).toInt ∧ ((v24297 40).toInt < 0 → (v24297 41).toInt = (v 41).toInt)) ∧ keepL (v 37) (F 28) (F 29) (F24298 28) (F24298 29) ∧ ((v24297 40).toInt < 0 → dp (F24298 28) (F24298 29) (bI (v 37)) (v24297 38).toInt.toNat = some (d + 1)); rw [show v24297 39 = v24287 39 from hf24299 39 (by decide)]; rw [show v24297 41 = v24287 41 from hf24299 41 (by decide)]; rw [show v24297 40 = v24287 40 from hf24299 40 (by decide)]; exact ⟨by omega, hk, fun hf => (hd (by omega)).trans (congrArg some (by omega))⟩)⟩, (by show va_P _ _ _ t.heap; rw [ht]; exact hP9)⟩, hS.F ht⟩) hS.2.2 dX12_either_70
    · skip
      have t24382 := cv_ne (a := r24192.toInt) rfl (b := 60) (by decide) c24275
      refine lv_iload_n hx hb dX12_either_22 rfl (lv_at hl 0 rfl) ?_
      refine lv_bipush (v := 61) hx hb dX12_either_23 (by decide) ?_
      refine lv_icmp_eq (tgt := 34) hx hb dX12_either_25 (by decide) (fun c24383 => ?_) (fun c24383 => ?_)
      · skip
        have t24384 := cv_eq (a := r24192.toInt) rfl (b := 61) (by decide) c24383
        refine lv_aload_n hx hb dX12_either_34 rfl (lv_at hl 1 rfl) ?_
        refine lv_dup hx hb dX12_either_35 rfl ?_
        refine va_get (D := (dC, dI)) (ci := 12) (v := .int (v24183 39)) (C := RX12) (T := TX12) (N := 63) hx hb hwd inA_X12 hown hK hP 0 rfl rfl 39 (by decide) (hwd _ wk_1004) (fun _ h9 => h9) rfl dX12_either_36 ?_
        have t24385 : 0 ≤ (v24183 39).toInt ∧ (v24183 39).toInt ≤ 120 := hI.1 39 _ _ rfl
        refine lv_iconst (v := 1) hx hb dX12_either_39 (by decide) ?_
        refine lv_iadd hx hb dX12_either_40 ?_
        refine lv_topi (fun z24386 e24387 => ?_)
        try (have t24388 := tadd e24387 (a := (v24183 39).toInt) rfl (b := 1) (by decide) (by omega))
        refine va_put (D := (dC, dI)) (ci := 12) (v := .int z24386) (ty := .int) (C := RX12) (T := TX12) (N := 63) (fs := fsM_0 g v24183 rc) hx hb hwd inA_X12 tyX12 tyX12_ok nmX12 hown hK hP (DM hg) hS 0 rfl rfl 39 (by decide) (hwd _ wk_1004) (fun _ h9 => h9) rfl (by decide +kernel) rfl rfl (Nat.le_of_ble_eq_true rfl) dX12_either_41 (fun H locs hP _ hS => ?_)
        have hP := va_P_eq (pM_39 g c _ _ _ _) hP
        have hI := IM.put hI 39 z24386 rfl (by omega)
        refine lv_aload_n hx hb dX12_either_44 rfl (lv_at hl 1 rfl) ?_
        have t24389 : 0 ≤ (v 30).toInt ∧ (v 30).toInt ≤ 120 := by have h9 := hI.1 30 _ _ rfl; rw [show (va_up v24183 39 z24386) 30 = v 30 from hf24185 30 (by decide)] at h9; exact h9
        have t24390 : 0 ≤ (v 37).toInt ∧ (v 37).toInt ≤ 9 := by have h9 := hI.1 37 _ _ rfl; rw [show (va_up v24183 39 z24386) 37 = v 37 from hf24185 37 (by decide)] at h9; exact h9
        have t24391 : 0 ≤ (v24183 38).toInt ∧ (v24183 38).toInt ≤ 120 := hI.1 38 _ _ rfl
        have t24392 : 0 ≤ z24386.toInt ∧ z24386.toInt ≤ 120 := hI.1 39 _ _ rfl
        have t24393 : 0 ≤ (v24183 41).toInt ∧ (v24183 41).toInt ≤ 8 := hI.1 41 _ _ rfl
        refine va_callv (va_runV (As := []) (rest := []) ⟨hx, hb, hml, hown, hwd⟩ (c_X12_sum_0 l dC dI g c adK adV (va_up v24183 39 z24386) F24184 rc H.size  (d + 1) hg hI (by have h9 : (va_up v24183 39 z24386) 38 = v24183 38 := rfl; (try rw [h9]); clear h9; have h9 : (va_up v24183 39 z24386) 39 = z24386 := rfl; (try rw [h9]); clear h9; have h9 : (va_up v24183 39 z24386) 30 = v 30 := hf24185 30 (by decide); (try rw [h9]); clear h9; have h9 : (va_up v24183 39 z24386) 40 = v24183 40 := rfl; (try rw [h9]); clear h9; have h9 : (va_up v24183 39 z24386) 41 = v24183 41 := rfl; (try rw [h9]); clear h9; omega) (by have h9 : (va_up v24183 39 z24386) 37 = (v 37) := hf24185 37 (by decide); have h8 : (va_up v24183 39 z24386) 38 = (v24183 38) := rfl; (try rw [h9]); (try rw [h8]); exact hd (by omega))) (cwV 0 hwd (gV wk_1043 wk_1011 wk_1012 wk_1013 wk_5) rfl rfl rfl (by decide +kernel) ⟨Nat.le_of_ble_eq_true rfl, Nat.le_of_ble_eq_true rfl⟩) ⟨PM.blind, va_recv hK hP (ci := 12) (q0 := 0) rfl rfl, fun U hU hW => ⟨rfl, PM.at hK hE hP hS hU hW⟩⟩ rfl rfl hl.1 rfl (lv_room (Nat.le_of_ble_eq_true rfl)) dX12_either_45 ⟨Nat.le_of_ble_eq_true rfl, Nat.le_of_ble_eq_true rfl⟩) hS (fun q _ h => (freeM hS) q h) (freeM hS) (fun u t H1 locs ht hvm hw hB hz1 hk1 hS => ?_)
        unfold BM at hB
        rw [ht] at hB
        obtain ⟨v24395, F24396, rc9⟩ := u
        obtain ⟨hI, hrc, hf24397, hG24398, hw⟩ := hw
        dsimp only at hI hrc hB hf24397 hG24398 hw
        have hF := frCF (by decide) hG24398 hF
        rw [hrc] at hB
        have hP : va_P (dC, dI) classes (wM g c v24395 F24396 rc) H1 := hB
        have hw : (z24386.toInt ≤ (v24395 39).toInt ∧ (v24395 39).toInt ≤ ((va_up v24183 39 z24386) 30).toInt ∧ (v24183 38).toInt ≤ (v24395 38).toInt ∧ (v24395 38).toInt - (v24183 38).toInt ≤ (v24395 39).toInt - z24386.toInt ∧ (v24183 41).toInt ≤ (v24395 41).toInt ∧ ((v24395 40).toInt < 0 → (v24395 41).toInt = (v24183 41).toInt)) ∧ keepL ((va_up v24183 39 z24386) 37) (F24184 28) (F24184 29) (F24396 28) (F24396 29) ∧ ((v24395 40).toInt < 0 → dp (F24396 28) (F24396 29) (bI ((va_up v24183 39 z24386) 37)) (v24395 38).toInt.toNat = some ((d + 1) + 1)) := hw
        rw [show (va_up v24183 39 z24386) 30 = v 30 from hf24185 30 (by decide)] at hw
        rw [show (va_up v24183 39 z24386) 37 = v 37 from hf24185 37 (by decide)] at hw
        have hw_r24394 := hw
        have t24399 : 0 ≤ (v24395 38).toInt ∧ (v24395 38).toInt ≤ 120 := hI.1 38 _ _ rfl
        have t24400 : 0 ≤ (v24395 39).toInt ∧ (v24395 39).toInt ≤ 120 := hI.1 39 _ _ rfl
        have t24401 : 0 ≤ (v24395 41).toInt ∧ (v24395 41).toInt ≤ 8 := hI.1 41 _ _ rfl
        generalize H1 = H at hP hS ⊢
        have hk := hk.tr hw_r24394.2.1
        have hd := hw_r24394.2.2
        refine lv_aload_n hx hb dX12_either_48 rfl (lv_at hl 1 rfl) ?_
        refine lv_iload_n hx hb dX12_either_49 rfl (lv_at hl 0 rfl) ?_
        refine lv_iconst (v := 0) hx hb dX12_either_50 (by decide) ?_
        have t24402 : 0 ≤ (v 37).toInt ∧ (v 37).toInt ≤ 9 := by have h9 := hI.1 37 _ _ rfl; rw [show v24395 37 = v 37 from (hf24397 37 (by decide)).trans (hf24185 37 (by decide))] at h9; exact h9
        have t24403 : 0 ≤ (v24395 38).toInt ∧ (v24395 38).toInt ≤ 120 := hI.1 38 _ _ rfl
        refine va_callv (va_runV (As := [.int r24192, .int 0]) (rest := []) ⟨hx, hb, hml, hown, hwd⟩ (c_X12_lay l dC dI g c adK adV v24395 F24396 rc H.size r24192 0 hg hI (by have h9 : v24395 38 = v24395 38 := rfl; rw [h9]; omega)) (cwV 2 hwd (gV wk_1021 wk_1018 wk_1019 wk_1020 wk_5) rfl rfl rfl (by decide +kernel) ⟨Nat.le_of_ble_eq_true rfl, Nat.le_of_ble_eq_true rfl⟩) ⟨PM.blind, va_recv hK hP (ci := 12) (q0 := 0) rfl rfl, fun U hU hW => ⟨rfl, PM.at hK hE hP hS hU hW⟩⟩ rfl rfl hl.1 rfl (lv_room (Nat.le_of_ble_eq_true rfl)) dX12_either_51 ⟨Nat.le_of_ble_eq_true rfl, Nat.le_of_ble_eq_true rfl⟩) hS (fun q _ h => (freeM hS) q h) (freeM hS) (fun u t H1 locs ht hvm hw hB hz1 hk1 hS => ?_)
        unfold BM at hB
        rw [ht] at hB
        obtain ⟨v24405, F24406, rc9⟩ := u
        obtain ⟨hI, hrc, hf24407, hG24408, hw⟩ := hw
        dsimp only at hI hrc hB hf24407 hG24408 hw
        have hF := frCF (by decide) hG24408 hF
        rw [hrc] at hB
        have hP : va_P (dC, dI) classes (wM g c v24405 F24406 rc) H1 := hB
        have hw : (v24405 38).toInt = (v24395 38).toInt + 1 ∧ keepL (v24395 37) (F24396 28) (F24396 29) (F24406 28) (F24406 29) ∧ dp (F24406 28) (F24406 29) (bI (v24395 37)) ((v24395 38).toInt.toNat + 1) = dpS (dp (F24396 28) (F24396 29) (bI (v24395 37)) (v24395 38).toInt.toNat) r24192 (0 : Int32) := hw
        rw [show v24395 37 = v 37 from (hf24397 37 (by decide)).trans (hf24185 37 (by decide))] at hw
        have hw_r24404 := hw
        have t24409 : 0 ≤ (v24405 38).toInt ∧ (v24405 38).toInt ≤ 120 := hI.1 38 _ _ rfl
        have k24410 : (0 : Int32).toInt = 0 := by decide
        generalize H1 = H at hP hS ⊢
        have hk := hk.tr hw_r24404.2.1
        have hd : (v24395 40).toInt < 0 → dp (F24406 28) (F24406 29) (bI (v 37)) (v24405 38).toInt.toNat = some (((d + 1) + 1) - 1) := fun hf => (by have e9 : (v24405 38).toInt.toNat = (v24395 38).toInt.toNat + 1 := (by omega); rw [e9, hw_r24404.2.2, hd hf]; exact dpS_5 (by omega) (by omega) (by omega) (by omega) (by omega))
        refine lv_aload_n hx hb dX12_either_54 rfl (lv_at hl 1 rfl) ?_
        refine va_get (D := (dC, dI)) (ci := 12) (v := .int (v24405 40)) (C := RX12) (T := TX12) (N := 63) hx hb hwd inA_X12 hown hK hP 0 rfl rfl 40 (by decide) (hwd _ wk_1005) (fun _ h9 => h9) rfl dX12_either_55 ?_
        refine my_top (v := v24395 40) (hf24407 40 (by decide)) ?_
        refine lv_if_ge (tgt := 70) hx hb dX12_either_58 (by decide) (fun c24411 => ?_) (fun c24411 => ?_)
        · skip
          have t24412 := cv_le (a := 0) (by decide) (b := (v24395 40).toInt) rfl c24411
          have hP9 : va_P (dC, dI) classes (wM g c v24405 F24406 rc) H := hP
          exact W.vret hx hb hr (fun t ht hW => ⟨⟨(v24405, F24406, rc), rfl, ⟨hI, rfl, (frC (by decide) hf24407 (frC (by decide) hf24397 (frU (by decide) (frC (by decide) hf24185 (fun _ _ => rfl))))), hF, (by show ((v 39).toInt ≤ (v24405 39).toInt ∧ (v24405 39).toInt ≤ (v 30).toInt ∧ (v 38).toInt ≤ (v24405 38).toInt ∧ (v24405 38).toInt - (v 38).toInt ≤ (v24405 39).toInt - (v 39).toInt ∧ (v 41).toInt ≤ (v24405 41).toInt ∧ ((v24405 40).toInt < 0 → (v24405 41).toInt = (v 41).toInt)) ∧ keepL (v 37) (F 28) (F 29) (F24406 28) (F24406 29) ∧ ((v24405 40).toInt < 0 → dp (F24406 28) (F24406 29) (bI (v 37)) (v24405 38).toInt.toNat = some (d + 1)); rw [show v24405 39 = v24395 39 from hf24407 39 (by decide)]; rw [show v24405 41 = v24395 41 from hf24407 41 (by decide)]; rw [show v24405 40 = v24395 40 from hf24407 40 (by decide)]; exact ⟨by omega, hk, fun hf => (hd (by omega)).trans (congrArg some (by omega))⟩)⟩, (by show va_P _ _ _ t.heap; rw [ht]; exact hP9)⟩, hS.F ht⟩) hS.2.2 dX12_either_70
        · skip
          have t24413 := cv_nle (a := 0) (by decide) (b := (v24395 40).toInt) rfl c24411
          refine lv_aload_n hx hb dX12_either_61 rfl (lv_at hl 1 rfl) ?_
          have t24414 : 0 ≤ (v 30).toInt ∧ (v 30).toInt ≤ 120 := by have h9 := hI.1 30 _ _ rfl; rw [show v24405 30 = v 30 from (hf24407 30 (by decide)).trans ((hf24397 30 (by decide)).trans (hf24185 30 (by decide)))] at h9; exact h9
          have t24415 : 0 ≤ (v24395 39).toInt ∧ (v24395 39).toInt ≤ 120 := by have h9 := hI.1 39 _ _ rfl; rw [show v24405 39 = v24395 39 from hf24407 39 (by decide)] at h9; exact h9
          refine va_calli (va_runV (As := []) (rest := []) ⟨hx, hb, hml, hown, hwd⟩ (c_X12_look l dC dI g c adK adV v24405 F24406 rc H.size  hg hI ) (cwV 0 hwd (gV wk_1017 wk_1014 wk_1015 wk_1016 wk_5) rfl rfl rfl (by decide +kernel) ⟨Nat.le_of_ble_eq_true rfl, Nat.le_of_ble_eq_true rfl⟩) ⟨PM.blind, va_recv hK hP (ci := 12) (q0 := 0) rfl rfl, fun U hU hW => ⟨rfl, PM.at hK hE hP hS hU hW⟩⟩ rfl rfl hl.1 rfl (lv_room (Nat.le_of_ble_eq_true rfl)) dX12_either_62 ⟨Nat.le_of_ble_eq_true rfl, Nat.le_of_ble_eq_true rfl⟩) hS (fun q _ h => (freeM hS) q h) (freeM hS) (fun r24416 u t H1 locs ht hvm hw hB hz1 hk1 hS => ?_)
          unfold BM at hB
          rw [ht] at hB
          have hP : va_P (dC, dI) classes (wM g c v24405 F24406 rc) H1 := hB
          have hw : r24416.toInt = lkM (v24405 39) (v24405 30) (F24406 24) ∧ ((v24405 39).toInt < (v24405 30).toInt ∨ r24416.toInt = -1) := hw
          rw [show v24405 39 = v24395 39 from hf24407 39 (by decide)] at hw
          rw [show v24405 30 = v 30 from (hf24407 30 (by decide)).trans ((hf24397 30 (by decide)).trans (hf24185 30 (by decide)))] at hw
          rw [hF 24 (by decide)] at hw
          have hw_r24416 := hw
          generalize H1 = H at hP hS ⊢
          refine lv_bipush (v := 63) hx hb dX12_either_65 (by decide) ?_
          refine lv_icmp_eq (tgt := 71) hx hb dX12_either_67 (by decide) (fun c24417 => ?_) (fun c24417 => ?_)
          · skip
            have t24418 := cv_eq (a := r24416.toInt) rfl (b := 63) (by decide) c24417
            refine lv_aload_n hx hb dX12_either_71 rfl (lv_at hl 1 rfl) ?_
            have t24419 : 0 ≤ (v24395 39).toInt ∧ (v24395 39).toInt ≤ 120 := by have h9 := hI.1 39 _ _ rfl; rw [show v24405 39 = v24395 39 from hf24407 39 (by decide)] at h9; exact h9
            have t24420 : 0 ≤ (v24395 41).toInt ∧ (v24395 41).toInt ≤ 8 := by have h9 := hI.1 41 _ _ rfl; rw [show v24405 41 = v24395 41 from hf24407 41 (by decide)] at h9; exact h9
            refine va_calli (va_runV (As := []) (rest := []) ⟨hx, hb, hml, hown, hwd⟩ (c_X12_opens l dC dI g c adK adV v24405 F24406 rc H.size  hg hI (by have h9 : v24405 39 = v24395 39 := hf24407 39 (by decide); (try rw [h9]); clear h9; have h9 : v24405 30 = v 30 := (hf24407 30 (by decide)).trans ((hf24397 30 (by decide)).trans (hf24185 30 (by decide))); (try rw [h9]); clear h9; omega)) (cwV 0 hwd (gV wk_1025 wk_1022 wk_1023 wk_1024 wk_5) rfl rfl rfl (by decide +kernel) ⟨Nat.le_of_ble_eq_true rfl, Nat.le_of_ble_eq_true rfl⟩) ⟨PM.blind, va_recv hK hP (ci := 12) (q0 := 0) rfl rfl, fun U hU hW => ⟨rfl, PM.at hK hE hP hS hU hW⟩⟩ rfl rfl hl.1 rfl (lv_room (Nat.le_of_ble_eq_true rfl)) dX12_either_72 ⟨Nat.le_of_ble_eq_true rfl, Nat.le_of_ble_eq_true rfl⟩) hS (fun q _ h => (freeM hS) q h) (freeM hS) (fun r24421 u t H1 locs ht hvm hw hB hz1 hk1 hS => ?_)
            unfold BM at hB
            rw [ht] at hB
            obtain ⟨v24422, F24423, rc9⟩ := u
            obtain ⟨hI, hrc, hf24424, hG24425, hw⟩ := hw
            dsimp only at hI hrc hB hf24424 hG24425 hw
            have hF := frCF (by decide) hG24425 hF
            rw [hrc] at hB
            have hP : va_P (dC, dI) classes (wM g c v24422 F24423 rc) H1 := hB
            have hw : (r24421.toInt = 1 ∧ (v24405 41).toInt < 8 ∧ (v24422 41).toInt = (v24405 41).toInt + 1 ∧ (v24422 39).toInt = (v24405 39).toInt + 1 ∧ (v24422 40).toInt = (v24405 40).toInt) ∨ (r24421.toInt = 0 ∧ (v24405 41).toInt = 8 ∧ 0 ≤ (v24422 40).toInt ∧ (v24422 41).toInt = (v24405 41).toInt ∧ (v24422 39).toInt = (v24405 39).toInt) := hw
            rw [show v24405 41 = v24395 41 from hf24407 41 (by decide)] at hw
            rw [show v24405 39 = v24395 39 from hf24407 39 (by decide)] at hw
            rw [show v24405 40 = v24395 40 from hf24407 40 (by decide)] at hw
            have hw_r24421 := hw
            have t24426 : 0 ≤ (v24422 39).toInt ∧ (v24422 39).toInt ≤ 120 := hI.1 39 _ _ rfl
            have t24427 : 0 ≤ (v24422 41).toInt ∧ (v24422 41).toInt ≤ 8 := hI.1 41 _ _ rfl
            generalize H1 = H at hP hS ⊢
            have hk : keepL (v 37) (F 28) (F 29) (F24423 28) (F24423 29) := by rw [hG24425 28 (by decide), hG24425 29 (by decide)]; exact hk
            have hd : (v24422 40).toInt < 0 → dp (F24423 28) (F24423 29) (bI (v 37)) (v24405 38).toInt.toNat = some (((d + 1) + 1) - 1) := fun hf => (by rw [hG24425 28 (by decide), hG24425 29 (by decide)]; exact hd (by omega))
            refine lv_if_ne (tgt := 79) hx hb dX12_either_75 (by decide) (fun c24428 => ?_) (fun c24428 => ?_)
            · skip
              have t24429 := cv_ne (a := r24421.toInt) rfl (b := 0) (by decide) c24428
              refine lv_aload_n hx hb dX12_either_79 rfl (lv_at hl 1 rfl) ?_
              have t24430 : 0 ≤ (v 30).toInt ∧ (v 30).toInt ≤ 120 := by have h9 := hI.1 30 _ _ rfl; rw [show v24422 30 = v 30 from (hf24424 30 (by decide)).trans ((hf24407 30 (by decide)).trans ((hf24397 30 (by decide)).trans (hf24185 30 (by decide))))] at h9; exact h9
              have t24431 : 0 ≤ (v 37).toInt ∧ (v 37).toInt ≤ 9 := by have h9 := hI.1 37 _ _ rfl; rw [show v24422 37 = v 37 from (hf24424 37 (by decide)).trans ((hf24407 37 (by decide)).trans ((hf24397 37 (by decide)).trans (hf24185 37 (by decide))))] at h9; exact h9
              have t24432 : 0 ≤ (v24405 38).toInt ∧ (v24405 38).toInt ≤ 120 := by have h9 := hI.1 38 _ _ rfl; rw [show v24422 38 = v24405 38 from hf24424 38 (by decide)] at h9; exact h9
              have t24433 : 0 ≤ (v24422 39).toInt ∧ (v24422 39).toInt ≤ 120 := hI.1 39 _ _ rfl
              have t24434 : 0 ≤ (v24422 41).toInt ∧ (v24422 41).toInt ≤ 8 := hI.1 41 _ _ rfl
              refine va_callv (va_runV (As := []) (rest := []) ⟨hx, hb, hml, hown, hwd⟩ (c_X12_either_1 l dC dI g c adK adV v24422 F24423 rc H.size  (((d + 1) + 1) - 1) hg hI (by have h9 : v24422 38 = v24405 38 := hf24424 38 (by decide); (try rw [h9]); clear h9; have h9 : v24422 39 = v24422 39 := rfl; (try rw [h9]); clear h9; have h9 : v24422 30 = v 30 := (hf24424 30 (by decide)).trans ((hf24407 30 (by decide)).trans ((hf24397 30 (by decide)).trans (hf24185 30 (by decide)))); (try rw [h9]); clear h9; have h9 : v24422 40 = v24422 40 := rfl; (try rw [h9]); clear h9; have h9 : v24422 41 = v24422 41 := rfl; (try rw [h9]); clear h9; omega) (by have h9 : v24422 37 = (v 37) := (hf24424 37 (by decide)).trans ((hf24407 37 (by decide)).trans ((hf24397 37 (by decide)).trans (hf24185 37 (by decide)))); have h8 : v24422 38 = (v24405 38) := hf24424 38 (by decide); (try rw [h9]); (try rw [h8]); exact hd (by omega))) (cwV 0 hwd (gV wk_1010 wk_1007 wk_1008 wk_1009 wk_5) rfl rfl rfl (by decide +kernel) ⟨Nat.le_of_ble_eq_true rfl, Nat.le_of_ble_eq_true rfl⟩) ⟨PM.blind, va_recv hK hP (ci := 12) (q0 := 0) rfl rfl, fun U hU hW => ⟨rfl, PM.at hK hE hP hS hU hW⟩⟩ rfl rfl hl.1 rfl (lv_room (Nat.le_of_ble_eq_true rfl)) dX12_either_80 ⟨Nat.le_of_ble_eq_true rfl, Nat.le_of_ble_eq_true rfl⟩) hS (fun q _ h => (freeM hS) q h) (freeM hS) (fun u t H1 locs ht hvm hw hB hz1 hk1 hS => ?_)
              unfold BM at hB
              rw [ht] at hB
              obtain ⟨v24436, F24437, rc9⟩ := u
              obtain ⟨hI, hrc, hf24438, hG24439, hw⟩ := hw
              dsimp only at hI hrc hB hf24438 hG24439 hw
              have hF := frCF (by decide) hG24439 hF
              rw [hrc] at hB
              have hP : va_P (dC, dI) classes (wM g c v24436 F24437 rc) H1 := hB
              have hw : ((v24422 39).toInt ≤ (v24436 39).toInt ∧ (v24436 39).toInt ≤ (v24422 30).toInt ∧ (v24422 38).toInt ≤ (v24436 38).toInt ∧ (v24436 38).toInt - (v24422 38).toInt ≤ (v24436 39).toInt - (v24422 39).toInt ∧ (v24422 41).toInt ≤ (v24436 41).toInt ∧ ((v24436 40).toInt < 0 → (v24436 41).toInt = (v24422 41).toInt)) ∧ keepL (v24422 37) (F24423 28) (F24423 29) (F24437 28) (F24437 29) ∧ ((v24436 40).toInt < 0 → dp (F24437 28) (F24437 29) (bI (v24422 37)) (v24436 38).toInt.toNat = some ((((d + 1) + 1) - 1) + 1)) := hw
              rw [show v24422 30 = v 30 from (hf24424 30 (by decide)).trans ((hf24407 30 (by decide)).trans ((hf24397 30 (by decide)).trans (hf24185 30 (by decide))))] at hw
              rw [show v24422 38 = v24405 38 from hf24424 38 (by decide)] at hw
              rw [show v24422 37 = v 37 from (hf24424 37 (by decide)).trans ((hf24407 37 (by decide)).trans ((hf24397 37 (by decide)).trans (hf24185 37 (by decide))))] at hw
              have hw_r24435 := hw
              have t24440 : 0 ≤ (v24436 38).toInt ∧ (v24436 38).toInt ≤ 120 := hI.1 38 _ _ rfl
              have t24441 : 0 ≤ (v24436 39).toInt ∧ (v24436 39).toInt ≤ 120 := hI.1 39 _ _ rfl
              have t24442 : 0 ≤ (v24436 41).toInt ∧ (v24436 41).toInt ≤ 8 := hI.1 41 _ _ rfl
              generalize H1 = H at hP hS ⊢
              have hk := hk.tr hw_r24435.2.1
              have hd := hw_r24435.2.2
              refine lv_aload_n hx hb dX12_either_83 rfl (lv_at hl 1 rfl) ?_
              refine va_get (D := (dC, dI)) (ci := 12) (v := .int (v24436 40)) (C := RX12) (T := TX12) (N := 63) hx hb hwd inA_X12 hown hK hP 0 rfl rfl 40 (by decide) (hwd _ wk_1005) (fun _ h9 => h9) rfl dX12_either_84 ?_
              refine lv_if_lt (tgt := 91) hx hb dX12_either_87 (by decide) (fun c24443 => ?_) (fun c24443 => ?_)
              · skip
                have t24444 := cv_lt (a := (v24436 40).toInt) rfl (b := 0) (by decide) c24443
                refine lv_aload_n hx hb dX12_either_91 rfl (lv_at hl 1 rfl) ?_
                have t24445 : 0 ≤ (v 30).toInt ∧ (v 30).toInt ≤ 120 := by have h9 := hI.1 30 _ _ rfl; rw [show v24436 30 = v 30 from (hf24438 30 (by decide)).trans ((hf24424 30 (by decide)).trans ((hf24407 30 (by decide)).trans ((hf24397 30 (by decide)).trans (hf24185 30 (by decide)))))] at h9; exact h9
                have t24446 : 0 ≤ (v24436 39).toInt ∧ (v24436 39).toInt ≤ 120 := hI.1 39 _ _ rfl
                refine va_calli (va_runV (As := []) (rest := []) ⟨hx, hb, hml, hown, hwd⟩ (c_X12_look l dC dI g c adK adV v24436 F24437 rc H.size  hg hI ) (cwV 0 hwd (gV wk_1017 wk_1014 wk_1015 wk_1016 wk_5) rfl rfl rfl (by decide +kernel) ⟨Nat.le_of_ble_eq_true rfl, Nat.le_of_ble_eq_true rfl⟩) ⟨PM.blind, va_recv hK hP (ci := 12) (q0 := 0) rfl rfl, fun U hU hW => ⟨rfl, PM.at hK hE hP hS hU hW⟩⟩ rfl rfl hl.1 rfl (lv_room (Nat.le_of_ble_eq_true rfl)) dX12_either_92 ⟨Nat.le_of_ble_eq_true rfl, Nat.le_of_ble_eq_true rfl⟩) hS (fun q _ h => (freeM hS) q h) (freeM hS) (fun r24447 u t H1 locs ht hvm hw hB hz1 hk1 hS => ?_)
                unfold BM at hB
                rw [ht] at hB
                have hP : va_P (dC, dI) classes (wM g c v24436 F24437 rc) H1 := hB
                have hw : r24447.toInt = lkM (v24436 39) (v24436 30) (F24437 24) ∧ ((v24436 39).toInt < (v24436 30).toInt ∨ r24447.toInt = -1) := hw
                rw [show v24436 30 = v 30 from (hf24438 30 (by decide)).trans ((hf24424 30 (by decide)).trans ((hf24407 30 (by decide)).trans ((hf24397 30 (by decide)).trans (hf24185 30 (by decide)))))] at hw
                rw [hF 24 (by decide)] at hw
                have hw_r24447 := hw
                generalize H1 = H at hP hS ⊢
                refine lv_bipush (v := 58) hx hb dX12_either_95 (by decide) ?_
                refine lv_icmp_eq (tgt := 105) hx hb dX12_either_97 (by decide) (fun c24448 => ?_) (fun c24448 => ?_)
                · skip
                  have t24449 := cv_eq (a := r24447.toInt) rfl (b := 58) (by decide) c24448
                  refine lv_aload_n hx hb dX12_either_105 rfl (lv_at hl 1 rfl) ?_
                  refine lv_dup hx hb dX12_either_106 rfl ?_
                  refine va_get (D := (dC, dI)) (ci := 12) (v := .int (v24436 39)) (C := RX12) (T := TX12) (N := 63) hx hb hwd inA_X12 hown hK hP 0 rfl rfl 39 (by decide) (hwd _ wk_1004) (fun _ h9 => h9) rfl dX12_either_107 ?_
                  have t24450 : 0 ≤ (v24436 39).toInt ∧ (v24436 39).toInt ≤ 120 := hI.1 39 _ _ rfl
                  refine lv_iconst (v := 1) hx hb dX12_either_110 (by decide) ?_
                  refine lv_iadd hx hb dX12_either_111 ?_
                  refine lv_topi (fun z24451 e24452 => ?_)
                  try (have t24453 := tadd e24452 (a := (v24436 39).toInt) rfl (b := 1) (by decide) (by omega))
                  refine va_put (D := (dC, dI)) (ci := 12) (v := .int z24451) (ty := .int) (C := RX12) (T := TX12) (N := 63) (fs := fsM_0 g v24436 rc) hx hb hwd inA_X12 tyX12 tyX12_ok nmX12 hown hK hP (DM hg) hS 0 rfl rfl 39 (by decide) (hwd _ wk_1004) (fun _ h9 => h9) rfl (by decide +kernel) rfl rfl (Nat.le_of_ble_eq_true rfl) dX12_either_112 (fun H locs hP _ hS => ?_)
                  have hP := va_P_eq (pM_39 g c _ _ _ _) hP
                  have hI := IM.put hI 39 z24451 rfl (by omega)
                  refine lv_aload_n hx hb dX12_either_115 rfl (lv_at hl 1 rfl) ?_
                  have t24454 : 0 ≤ (v 30).toInt ∧ (v 30).toInt ≤ 120 := by have h9 := hI.1 30 _ _ rfl; rw [show (va_up v24436 39 z24451) 30 = v 30 from (hf24438 30 (by decide)).trans ((hf24424 30 (by decide)).trans ((hf24407 30 (by decide)).trans ((hf24397 30 (by decide)).trans (hf24185 30 (by decide)))))] at h9; exact h9
                  have t24455 : 0 ≤ (v 37).toInt ∧ (v 37).toInt ≤ 9 := by have h9 := hI.1 37 _ _ rfl; rw [show (va_up v24436 39 z24451) 37 = v 37 from (hf24438 37 (by decide)).trans ((hf24424 37 (by decide)).trans ((hf24407 37 (by decide)).trans ((hf24397 37 (by decide)).trans (hf24185 37 (by decide)))))] at h9; exact h9
                  have t24456 : 0 ≤ (v24436 38).toInt ∧ (v24436 38).toInt ≤ 120 := hI.1 38 _ _ rfl
                  have t24457 : 0 ≤ z24451.toInt ∧ z24451.toInt ≤ 120 := hI.1 39 _ _ rfl
                  have t24458 : 0 ≤ (v24436 41).toInt ∧ (v24436 41).toInt ≤ 8 := hI.1 41 _ _ rfl
                  refine va_callv (va_runV (As := []) (rest := []) ⟨hx, hb, hml, hown, hwd⟩ (c_X12_either_1 l dC dI g c adK adV (va_up v24436 39 z24451) F24437 rc H.size  ((((d + 1) + 1) - 1) + 1) hg hI (by have h9 : (va_up v24436 39 z24451) 38 = v24436 38 := rfl; (try rw [h9]); clear h9; have h9 : (va_up v24436 39 z24451) 39 = z24451 := rfl; (try rw [h9]); clear h9; have h9 : (va_up v24436 39 z24451) 30 = v 30 := (hf24438 30 (by decide)).trans ((hf24424 30 (by decide)).trans ((hf24407 30 (by decide)).trans ((hf24397 30 (by decide)).trans (hf24185 30 (by decide))))); (try rw [h9]); clear h9; have h9 : (va_up v24436 39 z24451) 40 = v24436 40 := rfl; (try rw [h9]); clear h9; have h9 : (va_up v24436 39 z24451) 41 = v24436 41 := rfl; (try rw [h9]); clear h9; omega) (by have h9 : (va_up v24436 39 z24451) 37 = (v 37) := (hf24438 37 (by decide)).trans ((hf24424 37 (by decide)).trans ((hf24407 37 (by decide)).trans ((hf24397 37 (by decide)).trans (hf24185 37 (by decide))))); have h8 : (va_up v24436 39 z24451) 38 = (v24436 38) := rfl; (try rw [h9]); (try rw [h8]); exact hd (by omega))) (cwV 0 hwd (gV wk_1010 wk_1007 wk_1008 wk_1009 wk_5) rfl rfl rfl (by decide +kernel) ⟨Nat.le_of_ble_eq_true rfl, Nat.le_of_ble_eq_true rfl⟩) ⟨PM.blind, va_recv hK hP (ci := 12) (q0 := 0) rfl rfl, fun U hU hW => ⟨rfl, PM.at hK hE hP hS hU hW⟩⟩ rfl rfl hl.1 rfl (lv_room (Nat.le_of_ble_eq_true rfl)) dX12_either_116 ⟨Nat.le_of_ble_eq_true rfl, Nat.le_of_ble_eq_true rfl⟩) hS (fun q _ h => (freeM hS) q h) (freeM hS) (fun u t H1 locs ht hvm hw hB hz1 hk1 hS => ?_)
                  unfold BM at hB
                  rw [ht] at hB
                  obtain ⟨v24460, F24461, rc9⟩ := u
                  obtain ⟨hI, hrc, hf24462, hG24463, hw⟩ := hw
                  dsimp only at hI hrc hB hf24462 hG24463 hw
                  have hF := frCF (by decide) hG24463 hF
                  rw [hrc] at hB
                  have hP : va_P (dC, dI) classes (wM g c v24460 F24461 rc) H1 := hB
                  have hw : (z24451.toInt ≤ (v24460 39).toInt ∧ (v24460 39).toInt ≤ ((va_up v24436 39 z24451) 30).toInt ∧ (v24436 38).toInt ≤ (v24460 38).toInt ∧ (v24460 38).toInt - (v24436 38).toInt ≤ (v24460 39).toInt - z24451.toInt ∧ (v24436 41).toInt ≤ (v24460 41).toInt ∧ ((v24460 40).toInt < 0 → (v24460 41).toInt = (v24436 41).toInt)) ∧ keepL ((va_up v24436 39 z24451) 37) (F24437 28) (F24437 29) (F24461 28) (F24461 29) ∧ ((v24460 40).toInt < 0 → dp (F24461 28) (F24461 29) (bI ((va_up v24436 39 z24451) 37)) (v24460 38).toInt.toNat = some (((((d + 1) + 1) - 1) + 1) + 1)) := hw
                  rw [show (va_up v24436 39 z24451) 30 = v 30 from (hf24438 30 (by decide)).trans ((hf24424 30 (by decide)).trans ((hf24407 30 (by decide)).trans ((hf24397 30 (by decide)).trans (hf24185 30 (by decide)))))] at hw
                  rw [show (va_up v24436 39 z24451) 37 = v 37 from (hf24438 37 (by decide)).trans ((hf24424 37 (by decide)).trans ((hf24407 37 (by decide)).trans ((hf24397 37 (by decide)).trans (hf24185 37 (by decide)))))] at hw
                  have hw_r24459 := hw
                  have t24464 : 0 ≤ (v24460 38).toInt ∧ (v24460 38).toInt ≤ 120 := hI.1 38 _ _ rfl
                  have t24465 : 0 ≤ (v24460 39).toInt ∧ (v24460 39).toInt ≤ 120 := hI.1 39 _ _ rfl
                  have t24466 : 0 ≤ (v24460 41).toInt ∧ (v24460 41).toInt ≤ 8 := hI.1 41 _ _ rfl
                  generalize H1 = H at hP hS ⊢
                  have hk := hk.tr hw_r24459.2.1
                  have hd := hw_r24459.2.2
                  refine lv_aload_n hx hb dX12_either_119 rfl (lv_at hl 1 rfl) ?_
                  refine lv_iconst (v := 4) hx hb dX12_either_120 (by decide) ?_
                  refine lv_iconst (v := 0) hx hb dX12_either_121 (by decide) ?_
                  have t24467 : 0 ≤ (v 37).toInt ∧ (v 37).toInt ≤ 9 := by have h9 := hI.1 37 _ _ rfl; rw [show v24460 37 = v 37 from (hf24462 37 (by decide)).trans ((hf24438 37 (by decide)).trans ((hf24424 37 (by decide)).trans ((hf24407 37 (by decide)).trans ((hf24397 37 (by decide)).trans (hf24185 37 (by decide))))))] at h9; exact h9
                  have t24468 : 0 ≤ (v24460 38).toInt ∧ (v24460 38).toInt ≤ 120 := hI.1 38 _ _ rfl
                  refine va_callv (va_runV (As := [.int 4, .int 0]) (rest := []) ⟨hx, hb, hml, hown, hwd⟩ (c_X12_lay l dC dI g c adK adV v24460 F24461 rc H.size 4 0 hg hI (by have h9 : v24460 38 = v24460 38 := rfl; rw [h9]; omega)) (cwV 2 hwd (gV wk_1021 wk_1018 wk_1019 wk_1020 wk_5) rfl rfl rfl (by decide +kernel) ⟨Nat.le_of_ble_eq_true rfl, Nat.le_of_ble_eq_true rfl⟩) ⟨PM.blind, va_recv hK hP (ci := 12) (q0 := 0) rfl rfl, fun U hU hW => ⟨rfl, PM.at hK hE hP hS hU hW⟩⟩ rfl rfl hl.1 rfl (lv_room (Nat.le_of_ble_eq_true rfl)) dX12_either_122 ⟨Nat.le_of_ble_eq_true rfl, Nat.le_of_ble_eq_true rfl⟩) hS (fun q _ h => (freeM hS) q h) (freeM hS) (fun u t H1 locs ht hvm hw hB hz1 hk1 hS => ?_)
                  unfold BM at hB
                  rw [ht] at hB
                  obtain ⟨v24470, F24471, rc9⟩ := u
                  obtain ⟨hI, hrc, hf24472, hG24473, hw⟩ := hw
                  dsimp only at hI hrc hB hf24472 hG24473 hw
                  have hF := frCF (by decide) hG24473 hF
                  rw [hrc] at hB
                  have hP : va_P (dC, dI) classes (wM g c v24470 F24471 rc) H1 := hB
                  have hw : (v24470 38).toInt = (v24460 38).toInt + 1 ∧ keepL (v24460 37) (F24461 28) (F24461 29) (F24471 28) (F24471 29) ∧ dp (F24471 28) (F24471 29) (bI (v24460 37)) ((v24460 38).toInt.toNat + 1) = dpS (dp (F24461 28) (F24461 29) (bI (v24460 37)) (v24460 38).toInt.toNat) (4 : Int32) (0 : Int32) := hw
                  rw [show v24460 37 = v 37 from (hf24462 37 (by decide)).trans ((hf24438 37 (by decide)).trans ((hf24424 37 (by decide)).trans ((hf24407 37 (by decide)).trans ((hf24397 37 (by decide)).trans (hf24185 37 (by decide))))))] at hw
                  have hw_r24469 := hw
                  have t24474 : 0 ≤ (v24470 38).toInt ∧ (v24470 38).toInt ≤ 120 := hI.1 38 _ _ rfl
                  have k24475 : (4 : Int32).toInt = 4 := by decide
                  have k24476 : (0 : Int32).toInt = 0 := by decide
                  generalize H1 = H at hP hS ⊢
                  have hk := hk.tr hw_r24469.2.1
                  have hd : (v24460 40).toInt < 0 → dp (F24471 28) (F24471 29) (bI (v 37)) (v24470 38).toInt.toNat = some ((((((d + 1) + 1) - 1) + 1) + 1) - 2) := fun hf => (by have e9 : (v24470 38).toInt.toNat = (v24460 38).toInt.toNat + 1 := (by omega); rw [e9, hw_r24469.2.2, hd hf]; exact dpS_4 (by decide) (by omega))
                  refine lv_aload_n hx hb dX12_either_125 rfl (lv_at hl 1 rfl) ?_
                  refine lv_dup hx hb dX12_either_126 rfl ?_
                  refine va_get (D := (dC, dI)) (ci := 12) (v := .int (v24470 41)) (C := RX12) (T := TX12) (N := 63) hx hb hwd inA_X12 hown hK hP 0 rfl rfl 41 (by decide) (hwd _ wk_1006) (fun _ h9 => h9) rfl dX12_either_127 ?_
                  refine my_top (v := v24460 41) (hf24472 41 (by decide)) ?_
                  have t24477 : 0 ≤ (v24460 41).toInt ∧ (v24460 41).toInt ≤ 8 := by have h9 := hI.1 41 _ _ rfl; rw [show v24470 41 = v24460 41 from hf24472 41 (by decide)] at h9; exact h9
                  refine lv_iconst (v := 1) hx hb dX12_either_130 (by decide) ?_
                  refine lv_isub hx hb dX12_either_131 ?_
                  refine lv_topi (fun z24478 e24479 => ?_)
                  try (have t24480 := tsub e24479 (a := (v24460 41).toInt) rfl (b := 1) (by decide) (by omega))
                  refine va_put (D := (dC, dI)) (ci := 12) (v := .int z24478) (ty := .int) (C := RX12) (T := TX12) (N := 63) (fs := fsM_0 g v24470 rc) hx hb hwd inA_X12 tyX12 tyX12_ok nmX12 hown hK hP (DM hg) hS 0 rfl rfl 41 (by decide) (hwd _ wk_1006) (fun _ h9 => h9) rfl (by decide +kernel) rfl rfl (Nat.le_of_ble_eq_true rfl) dX12_either_132 (fun H locs hP _ hS => ?_)
                  have hP := va_P_eq (pM_41 g c _ _ _ _) hP
                  have hI := IM.put hI 41 z24478 rfl (by omega)
                  have hP9 : va_P (dC, dI) classes (wM g c (va_up v24470 41 z24478) F24471 rc) H := hP
                  exact W.vret hx hb hr (fun t ht hW => ⟨⟨((va_up v24470 41 z24478), F24471, rc), rfl, ⟨hI, rfl, (frU (by decide) (frC (by decide) hf24472 (frC (by decide) hf24462 (frU (by decide) (frC (by decide) hf24438 (frC (by decide) hf24424 (frC (by decide) hf24407 (frC (by decide) hf24397 (frU (by decide) (frC (by decide) hf24185 (fun _ _ => rfl))))))))))), hF, (by show ((v 39).toInt ≤ ((va_up v24470 41 z24478) 39).toInt ∧ ((va_up v24470 41 z24478) 39).toInt ≤ (v 30).toInt ∧ (v 38).toInt ≤ (v24470 38).toInt ∧ (v24470 38).toInt - (v 38).toInt ≤ ((va_up v24470 41 z24478) 39).toInt - (v 39).toInt ∧ (v 41).toInt ≤ z24478.toInt ∧ (((va_up v24470 41 z24478) 40).toInt < 0 → z24478.toInt = (v 41).toInt)) ∧ keepL (v 37) (F 28) (F 29) (F24471 28) (F24471 29) ∧ (((va_up v24470 41 z24478) 40).toInt < 0 → dp (F24471 28) (F24471 29) (bI (v 37)) (v24470 38).toInt.toNat = some (d + 1)); rw [show (va_up v24470 41 z24478) 39 = v24460 39 from hf24472 39 (by decide)]; rw [show (va_up v24470 41 z24478) 40 = v24460 40 from hf24472 40 (by decide)]; exact ⟨by omega, hk, fun hf => (hd (by omega)).trans (congrArg some (by omega))⟩)⟩, (by show va_P _ _ _ t.heap; rw [ht]; exact hP9)⟩, hS.F ht⟩) hS.2.2 dX12_either_135
                · skip
                  have t24481 := cv_ne (a := r24447.toInt) rfl (b := 58) (by decide) c24448
                  refine lv_aload_n hx hb dX12_either_100 rfl (lv_at hl 1 rfl) ?_
                  refine va_callv (va_runV (As := []) (rest := []) ⟨hx, hb, hml, hown, hwd⟩ (c_X12_wrong l dC dI g c adK adV v24436 F24437 rc H.size  hg hI ) (cwV 0 hwd (gV wk_1029 wk_1026 wk_1027 wk_1028 wk_5) rfl rfl rfl (by decide +kernel) ⟨Nat.le_of_ble_eq_true rfl, Nat.le_of_ble_eq_true rfl⟩) ⟨PM.blind, va_recv hK hP (ci := 12) (q0 := 0) rfl rfl, fun U hU hW => ⟨rfl, PM.at hK hE hP hS hU hW⟩⟩ rfl rfl hl.1 rfl (lv_room (Nat.le_of_ble_eq_true rfl)) dX12_either_101 ⟨Nat.le_of_ble_eq_true rfl, Nat.le_of_ble_eq_true rfl⟩) hS (fun q _ h => (freeM hS) q h) (freeM hS) (fun u t H1 locs ht hvm hw hB hz1 hk1 hS => ?_)
                  unfold BM at hB
                  rw [ht] at hB
                  obtain ⟨v24483, F24484, rc9⟩ := u
                  obtain ⟨hI, hrc, hf24485, hG24486, hw⟩ := hw
                  dsimp only at hI hrc hB hf24485 hG24486 hw
                  have hF := frCF (by decide) hG24486 hF
                  rw [hrc] at hB
                  have hP : va_P (dC, dI) classes (wM g c v24483 F24484 rc) H1 := hB
                  have hw : 0 ≤ (v24483 40).toInt := hw
                  have hw_r24482 := hw
                  generalize H1 = H at hP hS ⊢
                  have hk : keepL (v 37) (F 28) (F 29) (F24484 28) (F24484 29) := by rw [hG24486 28 (by decide), hG24486 29 (by decide)]; exact hk
                  have hd : (v24483 40).toInt < 0 → dp (F24484 28) (F24484 29) (bI (v 37)) (v24436 38).toInt.toNat = some ((((d + 1) + 1) - 1) + 1) := fun hf => (by rw [hG24486 28 (by decide), hG24486 29 (by decide)]; exact hd (by omega))
                  have hP9 : va_P (dC, dI) classes (wM g c v24483 F24484 rc) H := hP
                  exact W.vret hx hb hr (fun t ht hW => ⟨⟨(v24483, F24484, rc), rfl, ⟨hI, rfl, (frC (by decide) hf24485 (frC (by decide) hf24438 (frC (by decide) hf24424 (frC (by decide) hf24407 (frC (by decide) hf24397 (frU (by decide) (frC (by decide) hf24185 (fun _ _ => rfl)))))))), hF, (by show ((v 39).toInt ≤ (v24483 39).toInt ∧ (v24483 39).toInt ≤ (v 30).toInt ∧ (v 38).toInt ≤ (v24483 38).toInt ∧ (v24483 38).toInt - (v 38).toInt ≤ (v24483 39).toInt - (v 39).toInt ∧ (v 41).toInt ≤ (v24483 41).toInt ∧ ((v24483 40).toInt < 0 → (v24483 41).toInt = (v 41).toInt)) ∧ keepL (v 37) (F 28) (F 29) (F24484 28) (F24484 29) ∧ ((v24483 40).toInt < 0 → dp (F24484 28) (F24484 29) (bI (v 37)) (v24483 38).toInt.toNat = some (d + 1)); rw [show v24483 39 = v24436 39 from hf24485 39 (by decide)]; rw [show v24483 38 = v24436 38 from hf24485 38 (by decide)]; rw [show v24483 41 = v24436 41 from hf24485 41 (by decide)]; exact ⟨by omega, hk, fun hf => (hd (by omega)).trans (congrArg some (by omega))⟩)⟩, (by show va_P _ _ _ t.heap; rw [ht]; exact hP9)⟩, hS.F ht⟩) hS.2.2 dX12_either_104
              · skip
                have t24487 := cv_nlt (a := (v24436 40).toInt) rfl (b := 0) (by decide) c24443
                have hP9 : va_P (dC, dI) classes (wM g c v24436 F24437 rc) H := hP
                exact W.vret hx hb hr (fun t ht hW => ⟨⟨(v24436, F24437, rc), rfl, ⟨hI, rfl, (frC (by decide) hf24438 (frC (by decide) hf24424 (frC (by decide) hf24407 (frC (by decide) hf24397 (frU (by decide) (frC (by decide) hf24185 (fun _ _ => rfl))))))), hF, (by show ((v 39).toInt ≤ (v24436 39).toInt ∧ (v24436 39).toInt ≤ (v 30).toInt ∧ (v 38).toInt ≤ (v24436 38).toInt ∧ (v24436 38).toInt - (v 38).toInt ≤ (v24436 39).toInt - (v 39).toInt ∧ (v 41).toInt ≤ (v24436 41).toInt ∧ ((v24436 40).toInt < 0 → (v24436 41).toInt = (v 41).toInt)) ∧ keepL (v 37) (F 28) (F 29) (F24437 28) (F24437 29) ∧ ((v24436 40).toInt < 0 → dp (F24437 28) (F24437 29) (bI (v 37)) (v24436 38).toInt.toNat = some (d + 1)); exact ⟨by omega, hk, fun hf => (hd (by omega)).trans (congrArg some (by omega))⟩)⟩, (by show va_P _ _ _ t.heap; rw [ht]; exact hP9)⟩, hS.F ht⟩) hS.2.2 dX12_either_90
            · skip
              have t24488 := cv_eq (a := r24421.toInt) rfl (b := 0) (by decide) c24428
              have hP9 : va_P (dC, dI) classes (wM g c v24422 F24423 rc) H := hP
              exact W.vret hx hb hr (fun t ht hW => ⟨⟨(v24422, F24423, rc), rfl, ⟨hI, rfl, (frC (by decide) hf24424 (frC (by decide) hf24407 (frC (by decide) hf24397 (frU (by decide) (frC (by decide) hf24185 (fun _ _ => rfl)))))), hF, (by show ((v 39).toInt ≤ (v24422 39).toInt ∧ (v24422 39).toInt ≤ (v 30).toInt ∧ (v 38).toInt ≤ (v24422 38).toInt ∧ (v24422 38).toInt - (v 38).toInt ≤ (v24422 39).toInt - (v 39).toInt ∧ (v 41).toInt ≤ (v24422 41).toInt ∧ ((v24422 40).toInt < 0 → (v24422 41).toInt = (v 41).toInt)) ∧ keepL (v 37) (F 28) (F 29) (F24423 28) (F24423 29) ∧ ((v24422 40).toInt < 0 → dp (F24423 28) (F24423 29) (bI (v 37)) (v24422 38).toInt.toNat = some (d + 1)); rw [show v24422 38 = v24405 38 from hf24424 38 (by decide)]; exact ⟨by omega, hk, fun hf => (hd (by omega)).trans (congrArg some (by omega))⟩)⟩, (by show va_P _ _ _ t.heap; rw [ht]; exact hP9)⟩, hS.F ht⟩) hS.2.2 dX12_either_78
          · skip
            have t24489 := cv_ne (a := r24416.toInt) rfl (b := 63) (by decide) c24417
            have hP9 : va_P (dC, dI) classes (wM g c v24405 F24406 rc) H := hP
            exact W.vret hx hb hr (fun t ht hW => ⟨⟨(v24405, F24406, rc), rfl, ⟨hI, rfl, (frC (by decide) hf24407 (frC (by decide) hf24397 (frU (by decide) (frC (by decide) hf24185 (fun _ _ => rfl))))), hF, (by show ((v 39).toInt ≤ (v24405 39).toInt ∧ (v24405 39).toInt ≤ (v 30).toInt ∧ (v 38).toInt ≤ (v24405 38).toInt ∧ (v24405 38).toInt - (v 38).toInt ≤ (v24405 39).toInt - (v 39).toInt ∧ (v 41).toInt ≤ (v24405 41).toInt ∧ ((v24405 40).toInt < 0 → (v24405 41).toInt = (v 41).toInt)) ∧ keepL (v 37) (F 28) (F 29) (F24406 28) (F24406 29) ∧ ((v24405 40).toInt < 0 → dp (F24406 28) (F24406 29) (bI (v 37)) (v24405 38).toInt.toNat = some (d + 1)); rw [show v24405 39 = v24395 39 from hf24407 39 (by decide)]; rw [show v24405 41 = v24395 41 from hf24407 41 (by decide)]; rw [show v24405 40 = v24395 40 from hf24407 40 (by decide)]; exact ⟨by omega, hk, fun hf => (hd (by omega)).trans (congrArg some (by omega))⟩)⟩, (by show va_P _ _ _ t.heap; rw [ht]; exact hP9)⟩, hS.F ht⟩) hS.2.2 dX12_either_70
      · skip
        have t24490 := cv_ne (a := r24192.toInt) rfl (b := 61) (by decide) c24383
        refine lv_iload_n hx hb dX12_either_28 rfl (lv_at hl 0 rfl) ?_
        refine lv_bipush (v := 62) hx hb dX12_either_29 (by decide) ?_
        refine lv_icmp_ne (tgt := 54) hx hb dX12_either_31 (by decide) (fun c24491 => ?_) (fun c24491 => ?_)
        · skip
          have t24492 := cv_ne (a := r24192.toInt) rfl (b := 62) (by decide) c24491
          refine lv_aload_n hx hb dX12_either_54 rfl (lv_at hl 1 rfl) ?_
          refine va_get (D := (dC, dI)) (ci := 12) (v := .int (v24183 40)) (C := RX12) (T := TX12) (N := 63) hx hb hwd inA_X12 hown hK hP 0 rfl rfl 40 (by decide) (hwd _ wk_1005) (fun _ h9 => h9) rfl dX12_either_55 ?_
          refine lv_if_ge (tgt := 70) hx hb dX12_either_58 (by decide) (fun c24493 => ?_) (fun c24493 => ?_)
          · skip
            have t24494 := cv_le (a := 0) (by decide) (b := (v24183 40).toInt) rfl c24493
            have hP9 : va_P (dC, dI) classes (wM g c v24183 F24184 rc) H := hP
            exact W.vret hx hb hr (fun t ht hW => ⟨⟨(v24183, F24184, rc), rfl, ⟨hI, rfl, (frC (by decide) hf24185 (fun _ _ => rfl)), hF, (by show ((v 39).toInt ≤ (v24183 39).toInt ∧ (v24183 39).toInt ≤ (v 30).toInt ∧ (v 38).toInt ≤ (v24183 38).toInt ∧ (v24183 38).toInt - (v 38).toInt ≤ (v24183 39).toInt - (v 39).toInt ∧ (v 41).toInt ≤ (v24183 41).toInt ∧ ((v24183 40).toInt < 0 → (v24183 41).toInt = (v 41).toInt)) ∧ keepL (v 37) (F 28) (F 29) (F24184 28) (F24184 29) ∧ ((v24183 40).toInt < 0 → dp (F24184 28) (F24184 29) (bI (v 37)) (v24183 38).toInt.toNat = some (d + 1)); exact ⟨by omega, hk, fun hf => (hd (by omega)).trans (congrArg some (by omega))⟩)⟩, (by show va_P _ _ _ t.heap; rw [ht]; exact hP9)⟩, hS.F ht⟩) hS.2.2 dX12_either_70
          · skip
            have t24495 := cv_nle (a := 0) (by decide) (b := (v24183 40).toInt) rfl c24493
            refine lv_aload_n hx hb dX12_either_61 rfl (lv_at hl 1 rfl) ?_
            have t24496 : 0 ≤ (v 30).toInt ∧ (v 30).toInt ≤ 120 := by have h9 := hI.1 30 _ _ rfl; rw [show v24183 30 = v 30 from hf24185 30 (by decide)] at h9; exact h9
            have t24497 : 0 ≤ (v24183 39).toInt ∧ (v24183 39).toInt ≤ 120 := hI.1 39 _ _ rfl
            refine va_calli (va_runV (As := []) (rest := []) ⟨hx, hb, hml, hown, hwd⟩ (c_X12_look l dC dI g c adK adV v24183 F24184 rc H.size  hg hI ) (cwV 0 hwd (gV wk_1017 wk_1014 wk_1015 wk_1016 wk_5) rfl rfl rfl (by decide +kernel) ⟨Nat.le_of_ble_eq_true rfl, Nat.le_of_ble_eq_true rfl⟩) ⟨PM.blind, va_recv hK hP (ci := 12) (q0 := 0) rfl rfl, fun U hU hW => ⟨rfl, PM.at hK hE hP hS hU hW⟩⟩ rfl rfl hl.1 rfl (lv_room (Nat.le_of_ble_eq_true rfl)) dX12_either_62 ⟨Nat.le_of_ble_eq_true rfl, Nat.le_of_ble_eq_true rfl⟩) hS (fun q _ h => (freeM hS) q h) (freeM hS) (fun r24498 u t H1 locs ht hvm hw hB hz1 hk1 hS => ?_)
            unfold BM at hB
            rw [ht] at hB
            have hP : va_P (dC, dI) classes (wM g c v24183 F24184 rc) H1 := hB
            have hw : r24498.toInt = lkM (v24183 39) (v24183 30) (F24184 24) ∧ ((v24183 39).toInt < (v24183 30).toInt ∨ r24498.toInt = -1) := hw
            rw [show v24183 30 = v 30 from hf24185 30 (by decide)] at hw
            rw [hF 24 (by decide)] at hw
            have hw_r24498 := hw
            generalize H1 = H at hP hS ⊢
            refine lv_bipush (v := 63) hx hb dX12_either_65 (by decide) ?_
            refine lv_icmp_eq (tgt := 71) hx hb dX12_either_67 (by decide) (fun c24499 => ?_) (fun c24499 => ?_)
            · skip
              have t24500 := cv_eq (a := r24498.toInt) rfl (b := 63) (by decide) c24499
              refine lv_aload_n hx hb dX12_either_71 rfl (lv_at hl 1 rfl) ?_
              have t24501 : 0 ≤ (v24183 39).toInt ∧ (v24183 39).toInt ≤ 120 := hI.1 39 _ _ rfl
              have t24502 : 0 ≤ (v24183 41).toInt ∧ (v24183 41).toInt ≤ 8 := hI.1 41 _ _ rfl
              refine va_calli (va_runV (As := []) (rest := []) ⟨hx, hb, hml, hown, hwd⟩ (c_X12_opens l dC dI g c adK adV v24183 F24184 rc H.size  hg hI (by have h9 : v24183 39 = v24183 39 := rfl; (try rw [h9]); clear h9; have h9 : v24183 30 = v 30 := hf24185 30 (by decide); (try rw [h9]); clear h9; omega)) (cwV 0 hwd (gV wk_1025 wk_1022 wk_1023 wk_1024 wk_5) rfl rfl rfl (by decide +kernel) ⟨Nat.le_of_ble_eq_true rfl, Nat.le_of_ble_eq_true rfl⟩) ⟨PM.blind, va_recv hK hP (ci := 12) (q0 := 0) rfl rfl, fun U hU hW => ⟨rfl, PM.at hK hE hP hS hU hW⟩⟩ rfl rfl hl.1 rfl (lv_room (Nat.le_of_ble_eq_true rfl)) dX12_either_72 ⟨Nat.le_of_ble_eq_true rfl, Nat.le_of_ble_eq_true rfl⟩) hS (fun q _ h => (freeM hS) q h) (freeM hS) (fun r24503 u t H1 locs ht hvm hw hB hz1 hk1 hS => ?_)
              unfold BM at hB
              rw [ht] at hB
              obtain ⟨v24504, F24505, rc9⟩ := u
              obtain ⟨hI, hrc, hf24506, hG24507, hw⟩ := hw
              dsimp only at hI hrc hB hf24506 hG24507 hw
              have hF := frCF (by decide) hG24507 hF
              rw [hrc] at hB
              have hP : va_P (dC, dI) classes (wM g c v24504 F24505 rc) H1 := hB
              have hw : (r24503.toInt = 1 ∧ (v24183 41).toInt < 8 ∧ (v24504 41).toInt = (v24183 41).toInt + 1 ∧ (v24504 39).toInt = (v24183 39).toInt + 1 ∧ (v24504 40).toInt = (v24183 40).toInt) ∨ (r24503.toInt = 0 ∧ (v24183 41).toInt = 8 ∧ 0 ≤ (v24504 40).toInt ∧ (v24504 41).toInt = (v24183 41).toInt ∧ (v24504 39).toInt = (v24183 39).toInt) := hw
              have hw_r24503 := hw
              have t24508 : 0 ≤ (v24504 39).toInt ∧ (v24504 39).toInt ≤ 120 := hI.1 39 _ _ rfl
              have t24509 : 0 ≤ (v24504 41).toInt ∧ (v24504 41).toInt ≤ 8 := hI.1 41 _ _ rfl
              generalize H1 = H at hP hS ⊢
              have hk : keepL (v 37) (F 28) (F 29) (F24505 28) (F24505 29) := by rw [hG24507 28 (by decide), hG24507 29 (by decide)]; exact hk
              have hd : (v24504 40).toInt < 0 → dp (F24505 28) (F24505 29) (bI (v 37)) (v24183 38).toInt.toNat = some (d + 1) := fun hf => (by rw [hG24507 28 (by decide), hG24507 29 (by decide)]; exact hd (by omega))
              refine lv_if_ne (tgt := 79) hx hb dX12_either_75 (by decide) (fun c24510 => ?_) (fun c24510 => ?_)
              · skip
                have t24511 := cv_ne (a := r24503.toInt) rfl (b := 0) (by decide) c24510
                refine lv_aload_n hx hb dX12_either_79 rfl (lv_at hl 1 rfl) ?_
                have t24512 : 0 ≤ (v 30).toInt ∧ (v 30).toInt ≤ 120 := by have h9 := hI.1 30 _ _ rfl; rw [show v24504 30 = v 30 from (hf24506 30 (by decide)).trans (hf24185 30 (by decide))] at h9; exact h9
                have t24513 : 0 ≤ (v 37).toInt ∧ (v 37).toInt ≤ 9 := by have h9 := hI.1 37 _ _ rfl; rw [show v24504 37 = v 37 from (hf24506 37 (by decide)).trans (hf24185 37 (by decide))] at h9; exact h9
                have t24514 : 0 ≤ (v24183 38).toInt ∧ (v24183 38).toInt ≤ 120 := by have h9 := hI.1 38 _ _ rfl; rw [show v24504 38 = v24183 38 from hf24506 38 (by decide)] at h9; exact h9
                have t24515 : 0 ≤ (v24504 39).toInt ∧ (v24504 39).toInt ≤ 120 := hI.1 39 _ _ rfl
                have t24516 : 0 ≤ (v24504 41).toInt ∧ (v24504 41).toInt ≤ 8 := hI.1 41 _ _ rfl
                refine va_callv (va_runV (As := []) (rest := []) ⟨hx, hb, hml, hown, hwd⟩ (c_X12_either_1 l dC dI g c adK adV v24504 F24505 rc H.size  (d + 1) hg hI (by have h9 : v24504 38 = v24183 38 := hf24506 38 (by decide); (try rw [h9]); clear h9; have h9 : v24504 39 = v24504 39 := rfl; (try rw [h9]); clear h9; have h9 : v24504 30 = v 30 := (hf24506 30 (by decide)).trans (hf24185 30 (by decide)); (try rw [h9]); clear h9; have h9 : v24504 40 = v24504 40 := rfl; (try rw [h9]); clear h9; have h9 : v24504 41 = v24504 41 := rfl; (try rw [h9]); clear h9; omega) (by have h9 : v24504 37 = (v 37) := (hf24506 37 (by decide)).trans (hf24185 37 (by decide)); have h8 : v24504 38 = (v24183 38) := hf24506 38 (by decide); (try rw [h9]); (try rw [h8]); exact hd (by omega))) (cwV 0 hwd (gV wk_1010 wk_1007 wk_1008 wk_1009 wk_5) rfl rfl rfl (by decide +kernel) ⟨Nat.le_of_ble_eq_true rfl, Nat.le_of_ble_eq_true rfl⟩) ⟨PM.blind, va_recv hK hP (ci := 12) (q0 := 0) rfl rfl, fun U hU hW => ⟨rfl, PM.at hK hE hP hS hU hW⟩⟩ rfl rfl hl.1 rfl (lv_room (Nat.le_of_ble_eq_true rfl)) dX12_either_80 ⟨Nat.le_of_ble_eq_true rfl, Nat.le_of_ble_eq_true rfl⟩) hS (fun q _ h => (freeM hS) q h) (freeM hS) (fun u t H1 locs ht hvm hw hB hz1 hk1 hS => ?_)
                unfold BM at hB
                rw [ht] at hB
                obtain ⟨v24518, F24519, rc9⟩ := u
                obtain ⟨hI, hrc, hf24520, hG24521, hw⟩ := hw
                dsimp only at hI hrc hB hf24520 hG24521 hw
                have hF := frCF (by decide) hG24521 hF
                rw [hrc] at hB
                have hP : va_P (dC, dI) classes (wM g c v24518 F24519 rc) H1 := hB
                have hw : ((v24504 39).toInt ≤ (v24518 39).toInt ∧ (v24518 39).toInt ≤ (v24504 30).toInt ∧ (v24504 38).toInt ≤ (v24518 38).toInt ∧ (v24518 38).toInt - (v24504 38).toInt ≤ (v24518 39).toInt - (v24504 39).toInt ∧ (v24504 41).toInt ≤ (v24518 41).toInt ∧ ((v24518 40).toInt < 0 → (v24518 41).toInt = (v24504 41).toInt)) ∧ keepL (v24504 37) (F24505 28) (F24505 29) (F24519 28) (F24519 29) ∧ ((v24518 40).toInt < 0 → dp (F24519 28) (F24519 29) (bI (v24504 37)) (v24518 38).toInt.toNat = some ((d + 1) + 1)) := hw
                rw [show v24504 30 = v 30 from (hf24506 30 (by decide)).trans (hf24185 30 (by decide))] at hw
                rw [show v24504 38 = v24183 38 from hf24506 38 (by decide)] at hw
                rw [show v24504 37 = v 37 from (hf24506 37 (by decide)).trans (hf24185 37 (by decide))] at hw
                have hw_r24517 := hw
                have t24522 : 0 ≤ (v24518 38).toInt ∧ (v24518 38).toInt ≤ 120 := hI.1 38 _ _ rfl
                have t24523 : 0 ≤ (v24518 39).toInt ∧ (v24518 39).toInt ≤ 120 := hI.1 39 _ _ rfl
                have t24524 : 0 ≤ (v24518 41).toInt ∧ (v24518 41).toInt ≤ 8 := hI.1 41 _ _ rfl
                generalize H1 = H at hP hS ⊢
                have hk := hk.tr hw_r24517.2.1
                have hd := hw_r24517.2.2
                refine lv_aload_n hx hb dX12_either_83 rfl (lv_at hl 1 rfl) ?_
                refine va_get (D := (dC, dI)) (ci := 12) (v := .int (v24518 40)) (C := RX12) (T := TX12) (N := 63) hx hb hwd inA_X12 hown hK hP 0 rfl rfl 40 (by decide) (hwd _ wk_1005) (fun _ h9 => h9) rfl dX12_either_84 ?_
                refine lv_if_lt (tgt := 91) hx hb dX12_either_87 (by decide) (fun c24525 => ?_) (fun c24525 => ?_)
                · skip
                  have t24526 := cv_lt (a := (v24518 40).toInt) rfl (b := 0) (by decide) c24525
                  refine lv_aload_n hx hb dX12_either_91 rfl (lv_at hl 1 rfl) ?_
                  have t24527 : 0 ≤ (v 30).toInt ∧ (v 30).toInt ≤ 120 := by have h9 := hI.1 30 _ _ rfl; rw [show v24518 30 = v 30 from (hf24520 30 (by decide)).trans ((hf24506 30 (by decide)).trans (hf24185 30 (by decide)))] at h9; exact h9
                  have t24528 : 0 ≤ (v24518 39).toInt ∧ (v24518 39).toInt ≤ 120 := hI.1 39 _ _ rfl
                  refine va_calli (va_runV (As := []) (rest := []) ⟨hx, hb, hml, hown, hwd⟩ (c_X12_look l dC dI g c adK adV v24518 F24519 rc H.size  hg hI ) (cwV 0 hwd (gV wk_1017 wk_1014 wk_1015 wk_1016 wk_5) rfl rfl rfl (by decide +kernel) ⟨Nat.le_of_ble_eq_true rfl, Nat.le_of_ble_eq_true rfl⟩) ⟨PM.blind, va_recv hK hP (ci := 12) (q0 := 0) rfl rfl, fun U hU hW => ⟨rfl, PM.at hK hE hP hS hU hW⟩⟩ rfl rfl hl.1 rfl (lv_room (Nat.le_of_ble_eq_true rfl)) dX12_either_92 ⟨Nat.le_of_ble_eq_true rfl, Nat.le_of_ble_eq_true rfl⟩) hS (fun q _ h => (freeM hS) q h) (freeM hS) (fun r24529 u t H1 locs ht hvm hw hB hz1 hk1 hS => ?_)
                  unfold BM at hB
                  rw [ht] at hB
                  have hP : va_P (dC, dI) classes (wM g c v24518 F24519 rc) H1 := hB
                  have hw : r24529.toInt = lkM (v24518 39) (v24518 30) (F24519 24) ∧ ((v24518 39).toInt < (v24518 30).toInt ∨ r24529.toInt = -1) := hw
                  rw [show v24518 30 = v 30 from (hf24520 30 (by decide)).trans ((hf24506 30 (by decide)).trans (hf24185 30 (by decide)))] at hw
                  rw [hF 24 (by decide)] at hw
                  have hw_r24529 := hw
                  generalize H1 = H at hP hS ⊢
                  refine lv_bipush (v := 58) hx hb dX12_either_95 (by decide) ?_
                  refine lv_icmp_eq (tgt := 105) hx hb dX12_either_97 (by decide) (fun c24530 => ?_) (fun c24530 => ?_)
                  · skip
                    have t24531 := cv_eq (a := r24529.toInt) rfl (b := 58) (by decide) c24530
                    refine lv_aload_n hx hb dX12_either_105 rfl (lv_at hl 1 rfl) ?_
                    refine lv_dup hx hb dX12_either_106 rfl ?_
                    refine va_get (D := (dC, dI)) (ci := 12) (v := .int (v24518 39)) (C := RX12) (T := TX12) (N := 63) hx hb hwd inA_X12 hown hK hP 0 rfl rfl 39 (by decide) (hwd _ wk_1004) (fun _ h9 => h9) rfl dX12_either_107 ?_
                    have t24532 : 0 ≤ (v24518 39).toInt ∧ (v24518 39).toInt ≤ 120 := hI.1 39 _ _ rfl
                    refine lv_iconst (v := 1) hx hb dX12_either_110 (by decide) ?_
                    refine lv_iadd hx hb dX12_either_111 ?_
                    refine lv_topi (fun z24533 e24534 => ?_)
                    try (have t24535 := tadd e24534 (a := (v24518 39).toInt) rfl (b := 1) (by decide) (by omega))
                    refine va_put (D := (dC, dI)) (ci := 12) (v := .int z24533) (ty := .int) (C := RX12) (T := TX12) (N := 63) (fs := fsM_0 g v24518 rc) hx hb hwd inA_X12 tyX12 tyX12_ok nmX12 hown hK hP (DM hg) hS 0 rfl rfl 39 (by decide) (hwd _ wk_1004) (fun _ h9 => h9) rfl (by decide +kernel) rfl rfl (Nat.le_of_ble_eq_true rfl) dX12_either_112 (fun H locs hP _ hS => ?_)
                    have hP := va_P_eq (pM_39 g c _ _ _ _) hP
                    have hI := IM.put hI 39 z24533 rfl (by omega)
                    refine lv_aload_n hx hb dX12_either_115 rfl (lv_at hl 1 rfl) ?_
                    have t24536 : 0 ≤ (v 30).toInt ∧ (v 30).toInt ≤ 120 := by have h9 := hI.1 30 _ _ rfl; rw [show (va_up v24518 39 z24533) 30 = v 30 from (hf24520 30 (by decide)).trans ((hf24506 30 (by decide)).trans (hf24185 30 (by decide)))] at h9; exact h9
                    have t24537 : 0 ≤ (v 37).toInt ∧ (v 37).toInt ≤ 9 := by have h9 := hI.1 37 _ _ rfl; rw [show (va_up v24518 39 z24533) 37 = v 37 from (hf24520 37 (by decide)).trans ((hf24506 37 (by decide)).trans (hf24185 37 (by decide)))] at h9; exact h9
                    have t24538 : 0 ≤ (v24518 38).toInt ∧ (v24518 38).toInt ≤ 120 := hI.1 38 _ _ rfl
                    have t24539 : 0 ≤ z24533.toInt ∧ z24533.toInt ≤ 120 := hI.1 39 _ _ rfl
                    have t24540 : 0 ≤ (v24518 41).toInt ∧ (v24518 41).toInt ≤ 8 := hI.1 41 _ _ rfl
                    refine va_callv (va_runV (As := []) (rest := []) ⟨hx, hb, hml, hown, hwd⟩ (c_X12_either_1 l dC dI g c adK adV (va_up v24518 39 z24533) F24519 rc H.size  ((d + 1) + 1) hg hI (by have h9 : (va_up v24518 39 z24533) 38 = v24518 38 := rfl; (try rw [h9]); clear h9; have h9 : (va_up v24518 39 z24533) 39 = z24533 := rfl; (try rw [h9]); clear h9; have h9 : (va_up v24518 39 z24533) 30 = v 30 := (hf24520 30 (by decide)).trans ((hf24506 30 (by decide)).trans (hf24185 30 (by decide))); (try rw [h9]); clear h9; have h9 : (va_up v24518 39 z24533) 40 = v24518 40 := rfl; (try rw [h9]); clear h9; have h9 : (va_up v24518 39 z24533) 41 = v24518 41 := rfl; (try rw [h9]); clear h9; omega) (by have h9 : (va_up v24518 39 z24533) 37 = (v 37) := (hf24520 37 (by decide)).trans ((hf24506 37 (by decide)).trans (hf24185 37 (by decide))); have h8 : (va_up v24518 39 z24533) 38 = (v24518 38) := rfl; (try rw [h9]); (try rw [h8]); exact hd (by omega))) (cwV 0 hwd (gV wk_1010 wk_1007 wk_1008 wk_1009 wk_5) rfl rfl rfl (by decide +kernel) ⟨Nat.le_of_ble_eq_true rfl, Nat.le_of_ble_eq_true rfl⟩) ⟨PM.blind, va_recv hK hP (ci := 12) (q0 := 0) rfl rfl, fun U hU hW => ⟨rfl, PM.at hK hE hP hS hU hW⟩⟩ rfl rfl hl.1 rfl (lv_room (Nat.le_of_ble_eq_true rfl)) dX12_either_116 ⟨Nat.le_of_ble_eq_true rfl, Nat.le_of_ble_eq_true rfl⟩) hS (fun q _ h => (freeM hS) q h) (freeM hS) (fun u t H1 locs ht hvm hw hB hz1 hk1 hS => ?_)
                    unfold BM at hB
                    rw [ht] at hB
                    obtain ⟨v24542, F24543, rc9⟩ := u
                    obtain ⟨hI, hrc, hf24544, hG24545, hw⟩ := hw
                    dsimp only at hI hrc hB hf24544 hG24545 hw
                    have hF := frCF (by decide) hG24545 hF
                    rw [hrc] at hB
                    have hP : va_P (dC, dI) classes (wM g c v24542 F24543 rc) H1 := hB
                    have hw : (z24533.toInt ≤ (v24542 39).toInt ∧ (v24542 39).toInt ≤ ((va_up v24518 39 z24533) 30).toInt ∧ (v24518 38).toInt ≤ (v24542 38).toInt ∧ (v24542 38).toInt - (v24518 38).toInt ≤ (v24542 39).toInt - z24533.toInt ∧ (v24518 41).toInt ≤ (v24542 41).toInt ∧ ((v24542 40).toInt < 0 → (v24542 41).toInt = (v24518 41).toInt)) ∧ keepL ((va_up v24518 39 z24533) 37) (F24519 28) (F24519 29) (F24543 28) (F24543 29) ∧ ((v24542 40).toInt < 0 → dp (F24543 28) (F24543 29) (bI ((va_up v24518 39 z24533) 37)) (v24542 38).toInt.toNat = some (((d + 1) + 1) + 1)) := hw
                    rw [show (va_up v24518 39 z24533) 30 = v 30 from (hf24520 30 (by decide)).trans ((hf24506 30 (by decide)).trans (hf24185 30 (by decide)))] at hw
                    rw [show (va_up v24518 39 z24533) 37 = v 37 from (hf24520 37 (by decide)).trans ((hf24506 37 (by decide)).trans (hf24185 37 (by decide)))] at hw
                    have hw_r24541 := hw
                    have t24546 : 0 ≤ (v24542 38).toInt ∧ (v24542 38).toInt ≤ 120 := hI.1 38 _ _ rfl
                    have t24547 : 0 ≤ (v24542 39).toInt ∧ (v24542 39).toInt ≤ 120 := hI.1 39 _ _ rfl
                    have t24548 : 0 ≤ (v24542 41).toInt ∧ (v24542 41).toInt ≤ 8 := hI.1 41 _ _ rfl
                    generalize H1 = H at hP hS ⊢
                    have hk := hk.tr hw_r24541.2.1
                    have hd := hw_r24541.2.2
                    refine lv_aload_n hx hb dX12_either_119 rfl (lv_at hl 1 rfl) ?_
                    refine lv_iconst (v := 4) hx hb dX12_either_120 (by decide) ?_
                    refine lv_iconst (v := 0) hx hb dX12_either_121 (by decide) ?_
                    have t24549 : 0 ≤ (v 37).toInt ∧ (v 37).toInt ≤ 9 := by have h9 := hI.1 37 _ _ rfl; rw [show v24542 37 = v 37 from (hf24544 37 (by decide)).trans ((hf24520 37 (by decide)).trans ((hf24506 37 (by decide)).trans (hf24185 37 (by decide))))] at h9; exact h9
                    have t24550 : 0 ≤ (v24542 38).toInt ∧ (v24542 38).toInt ≤ 120 := hI.1 38 _ _ rfl
                    refine va_callv (va_runV (As := [.int 4, .int 0]) (rest := []) ⟨hx, hb, hml, hown, hwd⟩ (c_X12_lay l dC dI g c adK adV v24542 F24543 rc H.size 4 0 hg hI (by have h9 : v24542 38 = v24542 38 := rfl; rw [h9]; omega)) (cwV 2 hwd (gV wk_1021 wk_1018 wk_1019 wk_1020 wk_5) rfl rfl rfl (by decide +kernel) ⟨Nat.le_of_ble_eq_true rfl, Nat.le_of_ble_eq_true rfl⟩) ⟨PM.blind, va_recv hK hP (ci := 12) (q0 := 0) rfl rfl, fun U hU hW => ⟨rfl, PM.at hK hE hP hS hU hW⟩⟩ rfl rfl hl.1 rfl (lv_room (Nat.le_of_ble_eq_true rfl)) dX12_either_122 ⟨Nat.le_of_ble_eq_true rfl, Nat.le_of_ble_eq_true rfl⟩) hS (fun q _ h => (freeM hS) q h) (freeM hS) (fun u t H1 locs ht hvm hw hB hz1 hk1 hS => ?_)
                    unfold BM at hB
                    rw [ht] at hB
                    obtain ⟨v24552, F24553, rc9⟩ := u
                    obtain ⟨hI, hrc, hf24554, hG24555, hw⟩ := hw
                    dsimp only at hI hrc hB hf24554 hG24555 hw
                    have hF := frCF (by decide) hG24555 hF
                    rw [hrc] at hB
                    have hP : va_P (dC, dI) classes (wM g c v24552 F24553 rc) H1 := hB
                    have hw : (v24552 38).toInt = (v24542 38).toInt + 1 ∧ keepL (v24542 37) (F24543 28) (F24543 29) (F24553 28) (F24553 29) ∧ dp (F24553 28) (F24553 29) (bI (v24542 37)) ((v24542 38).toInt.toNat + 1) = dpS (dp (F24543 28) (F24543 29) (bI (v24542 37)) (v24542 38).toInt.toNat) (4 : Int32) (0 : Int32) := hw
                    rw [show v24542 37 = v 37 from (hf24544 37 (by decide)).trans ((hf24520 37 (by decide)).trans ((hf24506 37 (by decide)).trans (hf24185 37 (by decide))))] at hw
                    have hw_r24551 := hw
                    have t24556 : 0 ≤ (v24552 38).toInt ∧ (v24552 38).toInt ≤ 120 := hI.1 38 _ _ rfl
                    have k24557 : (4 : Int32).toInt = 4 := by decide
                    have k24558 : (0 : Int32).toInt = 0 := by decide
                    generalize H1 = H at hP hS ⊢
                    have hk := hk.tr hw_r24551.2.1
                    have hd : (v24542 40).toInt < 0 → dp (F24553 28) (F24553 29) (bI (v 37)) (v24552 38).toInt.toNat = some ((((d + 1) + 1) + 1) - 2) := fun hf => (by have e9 : (v24552 38).toInt.toNat = (v24542 38).toInt.toNat + 1 := (by omega); rw [e9, hw_r24551.2.2, hd hf]; exact dpS_4 (by decide) (by omega))
                    refine lv_aload_n hx hb dX12_either_125 rfl (lv_at hl 1 rfl) ?_
                    refine lv_dup hx hb dX12_either_126 rfl ?_
                    refine va_get (D := (dC, dI)) (ci := 12) (v := .int (v24552 41)) (C := RX12) (T := TX12) (N := 63) hx hb hwd inA_X12 hown hK hP 0 rfl rfl 41 (by decide) (hwd _ wk_1006) (fun _ h9 => h9) rfl dX12_either_127 ?_
                    refine my_top (v := v24542 41) (hf24554 41 (by decide)) ?_
                    have t24559 : 0 ≤ (v24542 41).toInt ∧ (v24542 41).toInt ≤ 8 := by have h9 := hI.1 41 _ _ rfl; rw [show v24552 41 = v24542 41 from hf24554 41 (by decide)] at h9; exact h9
                    refine lv_iconst (v := 1) hx hb dX12_either_130 (by decide) ?_
                    refine lv_isub hx hb dX12_either_131 ?_
                    refine lv_topi (fun z24560 e24561 => ?_)
                    try (have t24562 := tsub e24561 (a := (v24542 41).toInt) rfl (b := 1) (by decide) (by omega))
                    refine va_put (D := (dC, dI)) (ci := 12) (v := .int z24560) (ty := .int) (C := RX12) (T := TX12) (N := 63) (fs := fsM_0 g v24552 rc) hx hb hwd inA_X12 tyX12 tyX12_ok nmX12 hown hK hP (DM hg) hS 0 rfl rfl 41 (by decide) (hwd _ wk_1006) (fun _ h9 => h9) rfl (by decide +kernel) rfl rfl (Nat.le_of_ble_eq_true rfl) dX12_either_132 (fun H locs hP _ hS => ?_)
                    have hP := va_P_eq (pM_41 g c _ _ _ _) hP
                    have hI := IM.put hI 41 z24560 rfl (by omega)
                    have hP9 : va_P (dC, dI) classes (wM g c (va_up v24552 41 z24560) F24553 rc) H := hP
                    exact W.vret hx hb hr (fun t ht hW => ⟨⟨((va_up v24552 41 z24560), F24553, rc), rfl, ⟨hI, rfl, (frU (by decide) (frC (by decide) hf24554 (frC (by decide) hf24544 (frU (by decide) (frC (by decide) hf24520 (frC (by decide) hf24506 (frC (by decide) hf24185 (fun _ _ => rfl)))))))), hF, (by show ((v 39).toInt ≤ ((va_up v24552 41 z24560) 39).toInt ∧ ((va_up v24552 41 z24560) 39).toInt ≤ (v 30).toInt ∧ (v 38).toInt ≤ (v24552 38).toInt ∧ (v24552 38).toInt - (v 38).toInt ≤ ((va_up v24552 41 z24560) 39).toInt - (v 39).toInt ∧ (v 41).toInt ≤ z24560.toInt ∧ (((va_up v24552 41 z24560) 40).toInt < 0 → z24560.toInt = (v 41).toInt)) ∧ keepL (v 37) (F 28) (F 29) (F24553 28) (F24553 29) ∧ (((va_up v24552 41 z24560) 40).toInt < 0 → dp (F24553 28) (F24553 29) (bI (v 37)) (v24552 38).toInt.toNat = some (d + 1)); rw [show (va_up v24552 41 z24560) 39 = v24542 39 from hf24554 39 (by decide)]; rw [show (va_up v24552 41 z24560) 40 = v24542 40 from hf24554 40 (by decide)]; exact ⟨by omega, hk, fun hf => (hd (by omega)).trans (congrArg some (by omega))⟩)⟩, (by show va_P _ _ _ t.heap; rw [ht]; exact hP9)⟩, hS.F ht⟩) hS.2.2 dX12_either_135
                  · skip
                    have t24563 := cv_ne (a := r24529.toInt) rfl (b := 58) (by decide) c24530
                    refine lv_aload_n hx hb dX12_either_100 rfl (lv_at hl 1 rfl) ?_
                    refine va_callv (va_runV (As := []) (rest := []) ⟨hx, hb, hml, hown, hwd⟩ (c_X12_wrong l dC dI g c adK adV v24518 F24519 rc H.size  hg hI ) (cwV 0 hwd (gV wk_1029 wk_1026 wk_1027 wk_1028 wk_5) rfl rfl rfl (by decide +kernel) ⟨Nat.le_of_ble_eq_true rfl, Nat.le_of_ble_eq_true rfl⟩) ⟨PM.blind, va_recv hK hP (ci := 12) (q0 := 0) rfl rfl, fun U hU hW => ⟨rfl, PM.at hK hE hP hS hU hW⟩⟩ rfl rfl hl.1 rfl (lv_room (Nat.le_of_ble_eq_true rfl)) dX12_either_101 ⟨Nat.le_of_ble_eq_true rfl, Nat.le_of_ble_eq_true rfl⟩) hS (fun q _ h => (freeM hS) q h) (freeM hS) (fun u t H1 locs ht hvm hw hB hz1 hk1 hS => ?_)
                    unfold BM at hB
                    rw [ht] at hB
                    obtain ⟨v24565, F24566, rc9⟩ := u
                    obtain ⟨hI, hrc, hf24567, hG24568, hw⟩ := hw
                    dsimp only at hI hrc hB hf24567 hG24568 hw
                    have hF := frCF (by decide) hG24568 hF
                    rw [hrc] at hB
                    have hP : va_P (dC, dI) classes (wM g c v24565 F24566 rc) H1 := hB
                    have hw : 0 ≤ (v24565 40).toInt := hw
                    have hw_r24564 := hw
                    generalize H1 = H at hP hS ⊢
                    have hk : keepL (v 37) (F 28) (F 29) (F24566 28) (F24566 29) := by rw [hG24568 28 (by decide), hG24568 29 (by decide)]; exact hk
                    have hd : (v24565 40).toInt < 0 → dp (F24566 28) (F24566 29) (bI (v 37)) (v24518 38).toInt.toNat = some ((d + 1) + 1) := fun hf => (by rw [hG24568 28 (by decide), hG24568 29 (by decide)]; exact hd (by omega))
                    have hP9 : va_P (dC, dI) classes (wM g c v24565 F24566 rc) H := hP
                    exact W.vret hx hb hr (fun t ht hW => ⟨⟨(v24565, F24566, rc), rfl, ⟨hI, rfl, (frC (by decide) hf24567 (frC (by decide) hf24520 (frC (by decide) hf24506 (frC (by decide) hf24185 (fun _ _ => rfl))))), hF, (by show ((v 39).toInt ≤ (v24565 39).toInt ∧ (v24565 39).toInt ≤ (v 30).toInt ∧ (v 38).toInt ≤ (v24565 38).toInt ∧ (v24565 38).toInt - (v 38).toInt ≤ (v24565 39).toInt - (v 39).toInt ∧ (v 41).toInt ≤ (v24565 41).toInt ∧ ((v24565 40).toInt < 0 → (v24565 41).toInt = (v 41).toInt)) ∧ keepL (v 37) (F 28) (F 29) (F24566 28) (F24566 29) ∧ ((v24565 40).toInt < 0 → dp (F24566 28) (F24566 29) (bI (v 37)) (v24565 38).toInt.toNat = some (d + 1)); rw [show v24565 39 = v24518 39 from hf24567 39 (by decide)]; rw [show v24565 38 = v24518 38 from hf24567 38 (by decide)]; rw [show v24565 41 = v24518 41 from hf24567 41 (by decide)]; exact ⟨by omega, hk, fun hf => (hd (by omega)).trans (congrArg some (by omega))⟩)⟩, (by show va_P _ _ _ t.heap; rw [ht]; exact hP9)⟩, hS.F ht⟩) hS.2.2 dX12_either_104
                · skip
                  have t24569 := cv_nlt (a := (v24518 40).toInt) rfl (b := 0) (by decide) c24525
                  have hP9 : va_P (dC, dI) classes (wM g c v24518 F24519 rc) H := hP
                  exact W.vret hx hb hr (fun t ht hW => ⟨⟨(v24518, F24519, rc), rfl, ⟨hI, rfl, (frC (by decide) hf24520 (frC (by decide) hf24506 (frC (by decide) hf24185 (fun _ _ => rfl)))), hF, (by show ((v 39).toInt ≤ (v24518 39).toInt ∧ (v24518 39).toInt ≤ (v 30).toInt ∧ (v 38).toInt ≤ (v24518 38).toInt ∧ (v24518 38).toInt - (v 38).toInt ≤ (v24518 39).toInt - (v 39).toInt ∧ (v 41).toInt ≤ (v24518 41).toInt ∧ ((v24518 40).toInt < 0 → (v24518 41).toInt = (v 41).toInt)) ∧ keepL (v 37) (F 28) (F 29) (F24519 28) (F24519 29) ∧ ((v24518 40).toInt < 0 → dp (F24519 28) (F24519 29) (bI (v 37)) (v24518 38).toInt.toNat = some (d + 1)); exact ⟨by omega, hk, fun hf => (hd (by omega)).trans (congrArg some (by omega))⟩)⟩, (by show va_P _ _ _ t.heap; rw [ht]; exact hP9)⟩, hS.F ht⟩) hS.2.2 dX12_either_90
              · skip
                have t24570 := cv_eq (a := r24503.toInt) rfl (b := 0) (by decide) c24510
                have hP9 : va_P (dC, dI) classes (wM g c v24504 F24505 rc) H := hP
                exact W.vret hx hb hr (fun t ht hW => ⟨⟨(v24504, F24505, rc), rfl, ⟨hI, rfl, (frC (by decide) hf24506 (frC (by decide) hf24185 (fun _ _ => rfl))), hF, (by show ((v 39).toInt ≤ (v24504 39).toInt ∧ (v24504 39).toInt ≤ (v 30).toInt ∧ (v 38).toInt ≤ (v24504 38).toInt ∧ (v24504 38).toInt - (v 38).toInt ≤ (v24504 39).toInt - (v 39).toInt ∧ (v 41).toInt ≤ (v24504 41).toInt ∧ ((v24504 40).toInt < 0 → (v24504 41).toInt = (v 41).toInt)) ∧ keepL (v 37) (F 28) (F 29) (F24505 28) (F24505 29) ∧ ((v24504 40).toInt < 0 → dp (F24505 28) (F24505 29) (bI (v 37)) (v24504 38).toInt.toNat = some (d + 1)); rw [show v24504 38 = v24183 38 from hf24506 38 (by decide)]; exact ⟨by omega, hk, fun hf => (hd (by omega)).trans (congrArg some (by omega))⟩)⟩, (by show va_P _ _ _ t.heap; rw [ht]; exact hP9)⟩, hS.F ht⟩) hS.2.2 dX12_either_78
            · skip
              have t24571 := cv_ne (a := r24498.toInt) rfl (b := 63) (by decide) c24499
              have hP9 : va_P (dC, dI) classes (wM g c v24183 F24184 rc) H := hP
              exact W.vret hx hb hr (fun t ht hW => ⟨⟨(v24183, F24184, rc), rfl, ⟨hI, rfl, (frC (by decide) hf24185 (fun _ _ => rfl)), hF, (by show ((v 39).toInt ≤ (v24183 39).toInt ∧ (v24183 39).toInt ≤ (v 30).toInt ∧ (v 38).toInt ≤ (v24183 38).toInt ∧ (v24183 38).toInt - (v 38).toInt ≤ (v24183 39).toInt - (v 39).toInt ∧ (v 41).toInt ≤ (v24183 41).toInt ∧ ((v24183 40).toInt < 0 → (v24183 41).toInt = (v 41).toInt)) ∧ keepL (v 37) (F 28) (F 29) (F24184 28) (F24184 29) ∧ ((v24183 40).toInt < 0 → dp (F24184 28) (F24184 29) (bI (v 37)) (v24183 38).toInt.toNat = some (d + 1)); exact ⟨by omega, hk, fun hf => (hd (by omega)).trans (congrArg some (by omega))⟩)⟩, (by show va_P _ _ _ t.heap; rw [ht]; exact hP9)⟩, hS.F ht⟩) hS.2.2 dX12_either_70
        · skip
          have t24572 := cv_eq (a := r24192.toInt) rfl (b := 62) (by decide) c24491
          refine lv_aload_n hx hb dX12_either_34 rfl (lv_at hl 1 rfl) ?_
          refine lv_dup hx hb dX12_either_35 rfl ?_
          refine va_get (D := (dC, dI)) (ci := 12) (v := .int (v24183 39)) (C := RX12) (T := TX12) (N := 63) hx hb hwd inA_X12 hown hK hP 0 rfl rfl 39 (by decide) (hwd _ wk_1004) (fun _ h9 => h9) rfl dX12_either_36 ?_
          have t24573 : 0 ≤ (v24183 39).toInt ∧ (v24183 39).toInt ≤ 120 := hI.1 39 _ _ rfl
          refine lv_iconst (v := 1) hx hb dX12_either_39 (by decide) ?_
          refine lv_iadd hx hb dX12_either_40 ?_
          refine lv_topi (fun z24574 e24575 => ?_)
          try (have t24576 := tadd e24575 (a := (v24183 39).toInt) rfl (b := 1) (by decide) (by omega))
          refine va_put (D := (dC, dI)) (ci := 12) (v := .int z24574) (ty := .int) (C := RX12) (T := TX12) (N := 63) (fs := fsM_0 g v24183 rc) hx hb hwd inA_X12 tyX12 tyX12_ok nmX12 hown hK hP (DM hg) hS 0 rfl rfl 39 (by decide) (hwd _ wk_1004) (fun _ h9 => h9) rfl (by decide +kernel) rfl rfl (Nat.le_of_ble_eq_true rfl) dX12_either_41 (fun H locs hP _ hS => ?_)
          have hP := va_P_eq (pM_39 g c _ _ _ _) hP
          have hI := IM.put hI 39 z24574 rfl (by omega)
          refine lv_aload_n hx hb dX12_either_44 rfl (lv_at hl 1 rfl) ?_
          have t24577 : 0 ≤ (v 30).toInt ∧ (v 30).toInt ≤ 120 := by have h9 := hI.1 30 _ _ rfl; rw [show (va_up v24183 39 z24574) 30 = v 30 from hf24185 30 (by decide)] at h9; exact h9
          have t24578 : 0 ≤ (v 37).toInt ∧ (v 37).toInt ≤ 9 := by have h9 := hI.1 37 _ _ rfl; rw [show (va_up v24183 39 z24574) 37 = v 37 from hf24185 37 (by decide)] at h9; exact h9
          have t24579 : 0 ≤ (v24183 38).toInt ∧ (v24183 38).toInt ≤ 120 := hI.1 38 _ _ rfl
          have t24580 : 0 ≤ z24574.toInt ∧ z24574.toInt ≤ 120 := hI.1 39 _ _ rfl
          have t24581 : 0 ≤ (v24183 41).toInt ∧ (v24183 41).toInt ≤ 8 := hI.1 41 _ _ rfl
          refine va_callv (va_runV (As := []) (rest := []) ⟨hx, hb, hml, hown, hwd⟩ (c_X12_sum_0 l dC dI g c adK adV (va_up v24183 39 z24574) F24184 rc H.size  (d + 1) hg hI (by have h9 : (va_up v24183 39 z24574) 38 = v24183 38 := rfl; (try rw [h9]); clear h9; have h9 : (va_up v24183 39 z24574) 39 = z24574 := rfl; (try rw [h9]); clear h9; have h9 : (va_up v24183 39 z24574) 30 = v 30 := hf24185 30 (by decide); (try rw [h9]); clear h9; have h9 : (va_up v24183 39 z24574) 40 = v24183 40 := rfl; (try rw [h9]); clear h9; have h9 : (va_up v24183 39 z24574) 41 = v24183 41 := rfl; (try rw [h9]); clear h9; omega) (by have h9 : (va_up v24183 39 z24574) 37 = (v 37) := hf24185 37 (by decide); have h8 : (va_up v24183 39 z24574) 38 = (v24183 38) := rfl; (try rw [h9]); (try rw [h8]); exact hd (by omega))) (cwV 0 hwd (gV wk_1043 wk_1011 wk_1012 wk_1013 wk_5) rfl rfl rfl (by decide +kernel) ⟨Nat.le_of_ble_eq_true rfl, Nat.le_of_ble_eq_true rfl⟩) ⟨PM.blind, va_recv hK hP (ci := 12) (q0 := 0) rfl rfl, fun U hU hW => ⟨rfl, PM.at hK hE hP hS hU hW⟩⟩ rfl rfl hl.1 rfl (lv_room (Nat.le_of_ble_eq_true rfl)) dX12_either_45 ⟨Nat.le_of_ble_eq_true rfl, Nat.le_of_ble_eq_true rfl⟩) hS (fun q _ h => (freeM hS) q h) (freeM hS) (fun u t H1 locs ht hvm hw hB hz1 hk1 hS => ?_)
          unfold BM at hB
          rw [ht] at hB
          obtain ⟨v24583, F24584, rc9⟩ := u
          obtain ⟨hI, hrc, hf24585, hG24586, hw⟩ := hw
          dsimp only at hI hrc hB hf24585 hG24586 hw
          have hF := frCF (by decide) hG24586 hF
          rw [hrc] at hB
          have hP : va_P (dC, dI) classes (wM g c v24583 F24584 rc) H1 := hB
          have hw : (z24574.toInt ≤ (v24583 39).toInt ∧ (v24583 39).toInt ≤ ((va_up v24183 39 z24574) 30).toInt ∧ (v24183 38).toInt ≤ (v24583 38).toInt ∧ (v24583 38).toInt - (v24183 38).toInt ≤ (v24583 39).toInt - z24574.toInt ∧ (v24183 41).toInt ≤ (v24583 41).toInt ∧ ((v24583 40).toInt < 0 → (v24583 41).toInt = (v24183 41).toInt)) ∧ keepL ((va_up v24183 39 z24574) 37) (F24184 28) (F24184 29) (F24584 28) (F24584 29) ∧ ((v24583 40).toInt < 0 → dp (F24584 28) (F24584 29) (bI ((va_up v24183 39 z24574) 37)) (v24583 38).toInt.toNat = some ((d + 1) + 1)) := hw
          rw [show (va_up v24183 39 z24574) 30 = v 30 from hf24185 30 (by decide)] at hw
          rw [show (va_up v24183 39 z24574) 37 = v 37 from hf24185 37 (by decide)] at hw
          have hw_r24582 := hw
          have t24587 : 0 ≤ (v24583 38).toInt ∧ (v24583 38).toInt ≤ 120 := hI.1 38 _ _ rfl
          have t24588 : 0 ≤ (v24583 39).toInt ∧ (v24583 39).toInt ≤ 120 := hI.1 39 _ _ rfl
          have t24589 : 0 ≤ (v24583 41).toInt ∧ (v24583 41).toInt ≤ 8 := hI.1 41 _ _ rfl
          generalize H1 = H at hP hS ⊢
          have hk := hk.tr hw_r24582.2.1
          have hd := hw_r24582.2.2
          refine lv_aload_n hx hb dX12_either_48 rfl (lv_at hl 1 rfl) ?_
          refine lv_iload_n hx hb dX12_either_49 rfl (lv_at hl 0 rfl) ?_
          refine lv_iconst (v := 0) hx hb dX12_either_50 (by decide) ?_
          have t24590 : 0 ≤ (v 37).toInt ∧ (v 37).toInt ≤ 9 := by have h9 := hI.1 37 _ _ rfl; rw [show v24583 37 = v 37 from (hf24585 37 (by decide)).trans (hf24185 37 (by decide))] at h9; exact h9
          have t24591 : 0 ≤ (v24583 38).toInt ∧ (v24583 38).toInt ≤ 120 := hI.1 38 _ _ rfl
          refine va_callv (va_runV (As := [.int r24192, .int 0]) (rest := []) ⟨hx, hb, hml, hown, hwd⟩ (c_X12_lay l dC dI g c adK adV v24583 F24584 rc H.size r24192 0 hg hI (by have h9 : v24583 38 = v24583 38 := rfl; rw [h9]; omega)) (cwV 2 hwd (gV wk_1021 wk_1018 wk_1019 wk_1020 wk_5) rfl rfl rfl (by decide +kernel) ⟨Nat.le_of_ble_eq_true rfl, Nat.le_of_ble_eq_true rfl⟩) ⟨PM.blind, va_recv hK hP (ci := 12) (q0 := 0) rfl rfl, fun U hU hW => ⟨rfl, PM.at hK hE hP hS hU hW⟩⟩ rfl rfl hl.1 rfl (lv_room (Nat.le_of_ble_eq_true rfl)) dX12_either_51 ⟨Nat.le_of_ble_eq_true rfl, Nat.le_of_ble_eq_true rfl⟩) hS (fun q _ h => (freeM hS) q h) (freeM hS) (fun u t H1 locs ht hvm hw hB hz1 hk1 hS => ?_)
          unfold BM at hB
          rw [ht] at hB
          obtain ⟨v24593, F24594, rc9⟩ := u
          obtain ⟨hI, hrc, hf24595, hG24596, hw⟩ := hw
          dsimp only at hI hrc hB hf24595 hG24596 hw
          have hF := frCF (by decide) hG24596 hF
          rw [hrc] at hB
          have hP : va_P (dC, dI) classes (wM g c v24593 F24594 rc) H1 := hB
          have hw : (v24593 38).toInt = (v24583 38).toInt + 1 ∧ keepL (v24583 37) (F24584 28) (F24584 29) (F24594 28) (F24594 29) ∧ dp (F24594 28) (F24594 29) (bI (v24583 37)) ((v24583 38).toInt.toNat + 1) = dpS (dp (F24584 28) (F24584 29) (bI (v24583 37)) (v24583 38).toInt.toNat) r24192 (0 : Int32) := hw
          rw [show v24583 37 = v 37 from (hf24585 37 (by decide)).trans (hf24185 37 (by decide))] at hw
          have hw_r24592 := hw
          have t24597 : 0 ≤ (v24593 38).toInt ∧ (v24593 38).toInt ≤ 120 := hI.1 38 _ _ rfl
          have k24598 : (0 : Int32).toInt = 0 := by decide
          generalize H1 = H at hP hS ⊢
          have hk := hk.tr hw_r24592.2.1
          have hd : (v24583 40).toInt < 0 → dp (F24594 28) (F24594 29) (bI (v 37)) (v24593 38).toInt.toNat = some (((d + 1) + 1) - 1) := fun hf => (by have e9 : (v24593 38).toInt.toNat = (v24583 38).toInt.toNat + 1 := (by omega); rw [e9, hw_r24592.2.2, hd hf]; exact dpS_5 (by omega) (by omega) (by omega) (by omega) (by omega))
          refine lv_aload_n hx hb dX12_either_54 rfl (lv_at hl 1 rfl) ?_
          refine va_get (D := (dC, dI)) (ci := 12) (v := .int (v24593 40)) (C := RX12) (T := TX12) (N := 63) hx hb hwd inA_X12 hown hK hP 0 rfl rfl 40 (by decide) (hwd _ wk_1005) (fun _ h9 => h9) rfl dX12_either_55 ?_
          refine my_top (v := v24583 40) (hf24595 40 (by decide)) ?_
          refine lv_if_ge (tgt := 70) hx hb dX12_either_58 (by decide) (fun c24599 => ?_) (fun c24599 => ?_)
          · skip
            have t24600 := cv_le (a := 0) (by decide) (b := (v24583 40).toInt) rfl c24599
            have hP9 : va_P (dC, dI) classes (wM g c v24593 F24594 rc) H := hP
            exact W.vret hx hb hr (fun t ht hW => ⟨⟨(v24593, F24594, rc), rfl, ⟨hI, rfl, (frC (by decide) hf24595 (frC (by decide) hf24585 (frU (by decide) (frC (by decide) hf24185 (fun _ _ => rfl))))), hF, (by show ((v 39).toInt ≤ (v24593 39).toInt ∧ (v24593 39).toInt ≤ (v 30).toInt ∧ (v 38).toInt ≤ (v24593 38).toInt ∧ (v24593 38).toInt - (v 38).toInt ≤ (v24593 39).toInt - (v 39).toInt ∧ (v 41).toInt ≤ (v24593 41).toInt ∧ ((v24593 40).toInt < 0 → (v24593 41).toInt = (v 41).toInt)) ∧ keepL (v 37) (F 28) (F 29) (F24594 28) (F24594 29) ∧ ((v24593 40).toInt < 0 → dp (F24594 28) (F24594 29) (bI (v 37)) (v24593 38).toInt.toNat = some (d + 1)); rw [show v24593 39 = v24583 39 from hf24595 39 (by decide)]; rw [show v24593 41 = v24583 41 from hf24595 41 (by decide)]; rw [show v24593 40 = v24583 40 from hf24595 40 (by decide)]; exact ⟨by omega, hk, fun hf => (hd (by omega)).trans (congrArg some (by omega))⟩)⟩, (by show va_P _ _ _ t.heap; rw [ht]; exact hP9)⟩, hS.F ht⟩) hS.2.2 dX12_either_70
          · skip
            have t24601 := cv_nle (a := 0) (by decide) (b := (v24583 40).toInt) rfl c24599
            refine lv_aload_n hx hb dX12_either_61 rfl (lv_at hl 1 rfl) ?_
            have t24602 : 0 ≤ (v 30).toInt ∧ (v 30).toInt ≤ 120 := by have h9 := hI.1 30 _ _ rfl; rw [show v24593 30 = v 30 from (hf24595 30 (by decide)).trans ((hf24585 30 (by decide)).trans (hf24185 30 (by decide)))] at h9; exact h9
            have t24603 : 0 ≤ (v24583 39).toInt ∧ (v24583 39).toInt ≤ 120 := by have h9 := hI.1 39 _ _ rfl; rw [show v24593 39 = v24583 39 from hf24595 39 (by decide)] at h9; exact h9
            refine va_calli (va_runV (As := []) (rest := []) ⟨hx, hb, hml, hown, hwd⟩ (c_X12_look l dC dI g c adK adV v24593 F24594 rc H.size  hg hI ) (cwV 0 hwd (gV wk_1017 wk_1014 wk_1015 wk_1016 wk_5) rfl rfl rfl (by decide +kernel) ⟨Nat.le_of_ble_eq_true rfl, Nat.le_of_ble_eq_true rfl⟩) ⟨PM.blind, va_recv hK hP (ci := 12) (q0 := 0) rfl rfl, fun U hU hW => ⟨rfl, PM.at hK hE hP hS hU hW⟩⟩ rfl rfl hl.1 rfl (lv_room (Nat.le_of_ble_eq_true rfl)) dX12_either_62 ⟨Nat.le_of_ble_eq_true rfl, Nat.le_of_ble_eq_true rfl⟩) hS (fun q _ h => (freeM hS) q h) (freeM hS) (fun r24604 u t H1 locs ht hvm hw hB hz1 hk1 hS => ?_)
            unfold BM at hB
            rw [ht] at hB
            have hP : va_P (dC, dI) classes (wM g c v24593 F24594 rc) H1 := hB
            have hw : r24604.toInt = lkM (v24593 39) (v24593 30) (F24594 24) ∧ ((v24593 39).toInt < (v24593 30).toInt ∨ r24604.toInt = -1) := hw
            rw [show v24593 39 = v24583 39 from hf24595 39 (by decide)] at hw
            rw [show v24593 30 = v 30 from (hf24595 30 (by decide)).trans ((hf24585 30 (by decide)).trans (hf24185 30 (by decide)))] at hw
            rw [hF 24 (by decide)] at hw
            have hw_r24604 := hw
            generalize H1 = H at hP hS ⊢
            refine lv_bipush (v := 63) hx hb dX12_either_65 (by decide) ?_
            refine lv_icmp_eq (tgt := 71) hx hb dX12_either_67 (by decide) (fun c24605 => ?_) (fun c24605 => ?_)
            · skip
              have t24606 := cv_eq (a := r24604.toInt) rfl (b := 63) (by decide) c24605
              refine lv_aload_n hx hb dX12_either_71 rfl (lv_at hl 1 rfl) ?_
              have t24607 : 0 ≤ (v24583 39).toInt ∧ (v24583 39).toInt ≤ 120 := by have h9 := hI.1 39 _ _ rfl; rw [show v24593 39 = v24583 39 from hf24595 39 (by decide)] at h9; exact h9
              have t24608 : 0 ≤ (v24583 41).toInt ∧ (v24583 41).toInt ≤ 8 := by have h9 := hI.1 41 _ _ rfl; rw [show v24593 41 = v24583 41 from hf24595 41 (by decide)] at h9; exact h9
              refine va_calli (va_runV (As := []) (rest := []) ⟨hx, hb, hml, hown, hwd⟩ (c_X12_opens l dC dI g c adK adV v24593 F24594 rc H.size  hg hI (by have h9 : v24593 39 = v24583 39 := hf24595 39 (by decide); (try rw [h9]); clear h9; have h9 : v24593 30 = v 30 := (hf24595 30 (by decide)).trans ((hf24585 30 (by decide)).trans (hf24185 30 (by decide))); (try rw [h9]); clear h9; omega)) (cwV 0 hwd (gV wk_1025 wk_1022 wk_1023 wk_1024 wk_5) rfl rfl rfl (by decide +kernel) ⟨Nat.le_of_ble_eq_true rfl, Nat.le_of_ble_eq_true rfl⟩) ⟨PM.blind, va_recv hK hP (ci := 12) (q0 := 0) rfl rfl, fun U hU hW => ⟨rfl, PM.at hK hE hP hS hU hW⟩⟩ rfl rfl hl.1 rfl (lv_room (Nat.le_of_ble_eq_true rfl)) dX12_either_72 ⟨Nat.le_of_ble_eq_true rfl, Nat.le_of_ble_eq_true rfl⟩) hS (fun q _ h => (freeM hS) q h) (freeM hS) (fun r24609 u t H1 locs ht hvm hw hB hz1 hk1 hS => ?_)
              unfold BM at hB
              rw [ht] at hB
              obtain ⟨v24610, F24611, rc9⟩ := u
              obtain ⟨hI, hrc, hf24612, hG24613, hw⟩ := hw
              dsimp only at hI hrc hB hf24612 hG24613 hw
              have hF := frCF (by decide) hG24613 hF
              rw [hrc] at hB
              have hP : va_P (dC, dI) classes (wM g c v24610 F24611 rc) H1 := hB
              have hw : (r24609.toInt = 1 ∧ (v24593 41).toInt < 8 ∧ (v24610 41).toInt = (v24593 41).toInt + 1 ∧ (v24610 39).toInt = (v24593 39).toInt + 1 ∧ (v24610 40).toInt = (v24593 40).toInt) ∨ (r24609.toInt = 0 ∧ (v24593 41).toInt = 8 ∧ 0 ≤ (v24610 40).toInt ∧ (v24610 41).toInt = (v24593 41).toInt ∧ (v24610 39).toInt = (v24593 39).toInt) := hw
              rw [show v24593 41 = v24583 41 from hf24595 41 (by decide)] at hw
              rw [show v24593 39 = v24583 39 from hf24595 39 (by decide)] at hw
              rw [show v24593 40 = v24583 40 from hf24595 40 (by decide)] at hw
              have hw_r24609 := hw
              have t24614 : 0 ≤ (v24610 39).toInt ∧ (v24610 39).toInt ≤ 120 := hI.1 39 _ _ rfl
              have t24615 : 0 ≤ (v24610 41).toInt ∧ (v24610 41).toInt ≤ 8 := hI.1 41 _ _ rfl
              generalize H1 = H at hP hS ⊢
              have hk : keepL (v 37) (F 28) (F 29) (F24611 28) (F24611 29) := by rw [hG24613 28 (by decide), hG24613 29 (by decide)]; exact hk
              have hd : (v24610 40).toInt < 0 → dp (F24611 28) (F24611 29) (bI (v 37)) (v24593 38).toInt.toNat = some (((d + 1) + 1) - 1) := fun hf => (by rw [hG24613 28 (by decide), hG24613 29 (by decide)]; exact hd (by omega))
              refine lv_if_ne (tgt := 79) hx hb dX12_either_75 (by decide) (fun c24616 => ?_) (fun c24616 => ?_)
              · skip
                have t24617 := cv_ne (a := r24609.toInt) rfl (b := 0) (by decide) c24616
                refine lv_aload_n hx hb dX12_either_79 rfl (lv_at hl 1 rfl) ?_
                have t24618 : 0 ≤ (v 30).toInt ∧ (v 30).toInt ≤ 120 := by have h9 := hI.1 30 _ _ rfl; rw [show v24610 30 = v 30 from (hf24612 30 (by decide)).trans ((hf24595 30 (by decide)).trans ((hf24585 30 (by decide)).trans (hf24185 30 (by decide))))] at h9; exact h9
                have t24619 : 0 ≤ (v 37).toInt ∧ (v 37).toInt ≤ 9 := by have h9 := hI.1 37 _ _ rfl; rw [show v24610 37 = v 37 from (hf24612 37 (by decide)).trans ((hf24595 37 (by decide)).trans ((hf24585 37 (by decide)).trans (hf24185 37 (by decide))))] at h9; exact h9
                have t24620 : 0 ≤ (v24593 38).toInt ∧ (v24593 38).toInt ≤ 120 := by have h9 := hI.1 38 _ _ rfl; rw [show v24610 38 = v24593 38 from hf24612 38 (by decide)] at h9; exact h9
                have t24621 : 0 ≤ (v24610 39).toInt ∧ (v24610 39).toInt ≤ 120 := hI.1 39 _ _ rfl
                have t24622 : 0 ≤ (v24610 41).toInt ∧ (v24610 41).toInt ≤ 8 := hI.1 41 _ _ rfl
                refine va_callv (va_runV (As := []) (rest := []) ⟨hx, hb, hml, hown, hwd⟩ (c_X12_either_1 l dC dI g c adK adV v24610 F24611 rc H.size  (((d + 1) + 1) - 1) hg hI (by have h9 : v24610 38 = v24593 38 := hf24612 38 (by decide); (try rw [h9]); clear h9; have h9 : v24610 39 = v24610 39 := rfl; (try rw [h9]); clear h9; have h9 : v24610 30 = v 30 := (hf24612 30 (by decide)).trans ((hf24595 30 (by decide)).trans ((hf24585 30 (by decide)).trans (hf24185 30 (by decide)))); (try rw [h9]); clear h9; have h9 : v24610 40 = v24610 40 := rfl; (try rw [h9]); clear h9; have h9 : v24610 41 = v24610 41 := rfl; (try rw [h9]); clear h9; omega) (by have h9 : v24610 37 = (v 37) := (hf24612 37 (by decide)).trans ((hf24595 37 (by decide)).trans ((hf24585 37 (by decide)).trans (hf24185 37 (by decide)))); have h8 : v24610 38 = (v24593 38) := hf24612 38 (by decide); (try rw [h9]); (try rw [h8]); exact hd (by omega))) (cwV 0 hwd (gV wk_1010 wk_1007 wk_1008 wk_1009 wk_5) rfl rfl rfl (by decide +kernel) ⟨Nat.le_of_ble_eq_true rfl, Nat.le_of_ble_eq_true rfl⟩) ⟨PM.blind, va_recv hK hP (ci := 12) (q0 := 0) rfl rfl, fun U hU hW => ⟨rfl, PM.at hK hE hP hS hU hW⟩⟩ rfl rfl hl.1 rfl (lv_room (Nat.le_of_ble_eq_true rfl)) dX12_either_80 ⟨Nat.le_of_ble_eq_true rfl, Nat.le_of_ble_eq_true rfl⟩) hS (fun q _ h => (freeM hS) q h) (freeM hS) (fun u t H1 locs ht hvm hw hB hz1 hk1 hS => ?_)
                unfold BM at hB
                rw [ht] at hB
                obtain ⟨v24624, F24625, rc9⟩ := u
                obtain ⟨hI, hrc, hf24626, hG24627, hw⟩ := hw
                dsimp only at hI hrc hB hf24626 hG24627 hw
                have hF := frCF (by decide) hG24627 hF
                rw [hrc] at hB
                have hP : va_P (dC, dI) classes (wM g c v24624 F24625 rc) H1 := hB
                have hw : ((v24610 39).toInt ≤ (v24624 39).toInt ∧ (v24624 39).toInt ≤ (v24610 30).toInt ∧ (v24610 38).toInt ≤ (v24624 38).toInt ∧ (v24624 38).toInt - (v24610 38).toInt ≤ (v24624 39).toInt - (v24610 39).toInt ∧ (v24610 41).toInt ≤ (v24624 41).toInt ∧ ((v24624 40).toInt < 0 → (v24624 41).toInt = (v24610 41).toInt)) ∧ keepL (v24610 37) (F24611 28) (F24611 29) (F24625 28) (F24625 29) ∧ ((v24624 40).toInt < 0 → dp (F24625 28) (F24625 29) (bI (v24610 37)) (v24624 38).toInt.toNat = some ((((d + 1) + 1) - 1) + 1)) := hw
                rw [show v24610 30 = v 30 from (hf24612 30 (by decide)).trans ((hf24595 30 (by decide)).trans ((hf24585 30 (by decide)).trans (hf24185 30 (by decide))))] at hw
                rw [show v24610 38 = v24593 38 from hf24612 38 (by decide)] at hw
                rw [show v24610 37 = v 37 from (hf24612 37 (by decide)).trans ((hf24595 37 (by decide)).trans ((hf24585 37 (by decide)).trans (hf24185 37 (by decide))))] at hw
                have hw_r24623 := hw
                have t24628 : 0 ≤ (v24624 38).toInt ∧ (v24624 38).toInt ≤ 120 := hI.1 38 _ _ rfl
                have t24629 : 0 ≤ (v24624 39).toInt ∧ (v24624 39).toInt ≤ 120 := hI.1 39 _ _ rfl
                have t24630 : 0 ≤ (v24624 41).toInt ∧ (v24624 41).toInt ≤ 8 := hI.1 41 _ _ rfl
                generalize H1 = H at hP hS ⊢
                have hk := hk.tr hw_r24623.2.1
                have hd := hw_r24623.2.2
                refine lv_aload_n hx hb dX12_either_83 rfl (lv_at hl 1 rfl) ?_
                refine va_get (D := (dC, dI)) (ci := 12) (v := .int (v24624 40)) (C := RX12) (T := TX12) (N := 63) hx hb hwd inA_X12 hown hK hP 0 rfl rfl 40 (by decide) (hwd _ wk_1005) (fun _ h9 => h9) rfl dX12_either_84 ?_
                refine lv_if_lt (tgt := 91) hx hb dX12_either_87 (by decide) (fun c24631 => ?_) (fun c24631 => ?_)
                · skip
                  have t24632 := cv_lt (a := (v24624 40).toInt) rfl (b := 0) (by decide) c24631
                  refine lv_aload_n hx hb dX12_either_91 rfl (lv_at hl 1 rfl) ?_
                  have t24633 : 0 ≤ (v 30).toInt ∧ (v 30).toInt ≤ 120 := by have h9 := hI.1 30 _ _ rfl; rw [show v24624 30 = v 30 from (hf24626 30 (by decide)).trans ((hf24612 30 (by decide)).trans ((hf24595 30 (by decide)).trans ((hf24585 30 (by decide)).trans (hf24185 30 (by decide)))))] at h9; exact h9
                  have t24634 : 0 ≤ (v24624 39).toInt ∧ (v24624 39).toInt ≤ 120 := hI.1 39 _ _ rfl
                  refine va_calli (va_runV (As := []) (rest := []) ⟨hx, hb, hml, hown, hwd⟩ (c_X12_look l dC dI g c adK adV v24624 F24625 rc H.size  hg hI ) (cwV 0 hwd (gV wk_1017 wk_1014 wk_1015 wk_1016 wk_5) rfl rfl rfl (by decide +kernel) ⟨Nat.le_of_ble_eq_true rfl, Nat.le_of_ble_eq_true rfl⟩) ⟨PM.blind, va_recv hK hP (ci := 12) (q0 := 0) rfl rfl, fun U hU hW => ⟨rfl, PM.at hK hE hP hS hU hW⟩⟩ rfl rfl hl.1 rfl (lv_room (Nat.le_of_ble_eq_true rfl)) dX12_either_92 ⟨Nat.le_of_ble_eq_true rfl, Nat.le_of_ble_eq_true rfl⟩) hS (fun q _ h => (freeM hS) q h) (freeM hS) (fun r24635 u t H1 locs ht hvm hw hB hz1 hk1 hS => ?_)
                  unfold BM at hB
                  rw [ht] at hB
                  have hP : va_P (dC, dI) classes (wM g c v24624 F24625 rc) H1 := hB
                  have hw : r24635.toInt = lkM (v24624 39) (v24624 30) (F24625 24) ∧ ((v24624 39).toInt < (v24624 30).toInt ∨ r24635.toInt = -1) := hw
                  rw [show v24624 30 = v 30 from (hf24626 30 (by decide)).trans ((hf24612 30 (by decide)).trans ((hf24595 30 (by decide)).trans ((hf24585 30 (by decide)).trans (hf24185 30 (by decide)))))] at hw
                  rw [hF 24 (by decide)] at hw
                  have hw_r24635 := hw
                  generalize H1 = H at hP hS ⊢
                  refine lv_bipush (v := 58) hx hb dX12_either_95 (by decide) ?_
                  refine lv_icmp_eq (tgt := 105) hx hb dX12_either_97 (by decide) (fun c24636 => ?_) (fun c24636 => ?_)
                  · skip
                    have t24637 := cv_eq (a := r24635.toInt) rfl (b := 58) (by decide) c24636
                    refine lv_aload_n hx hb dX12_either_105 rfl (lv_at hl 1 rfl) ?_
                    refine lv_dup hx hb dX12_either_106 rfl ?_
                    refine va_get (D := (dC, dI)) (ci := 12) (v := .int (v24624 39)) (C := RX12) (T := TX12) (N := 63) hx hb hwd inA_X12 hown hK hP 0 rfl rfl 39 (by decide) (hwd _ wk_1004) (fun _ h9 => h9) rfl dX12_either_107 ?_
                    have t24638 : 0 ≤ (v24624 39).toInt ∧ (v24624 39).toInt ≤ 120 := hI.1 39 _ _ rfl
                    refine lv_iconst (v := 1) hx hb dX12_either_110 (by decide) ?_
                    refine lv_iadd hx hb dX12_either_111 ?_
                    refine lv_topi (fun z24639 e24640 => ?_)
                    try (have t24641 := tadd e24640 (a := (v24624 39).toInt) rfl (b := 1) (by decide) (by omega))
                    refine va_put (D := (dC, dI)) (ci := 12) (v := .int z24639) (ty := .int) (C := RX12) (T := TX12) (N := 63) (fs := fsM_0 g v24624 rc) hx hb hwd inA_X12 tyX12 tyX12_ok nmX12 hown hK hP (DM hg) hS 0 rfl rfl 39 (by decide) (hwd _ wk_1004) (fun _ h9 => h9) rfl (by decide +kernel) rfl rfl (Nat.le_of_ble_eq_true rfl) dX12_either_112 (fun H locs hP _ hS => ?_)
                    have hP := va_P_eq (pM_39 g c _ _ _ _) hP
                    have hI := IM.put hI 39 z24639 rfl (by omega)
                    refine lv_aload_n hx hb dX12_either_115 rfl (lv_at hl 1 rfl) ?_
                    have t24642 : 0 ≤ (v 30).toInt ∧ (v 30).toInt ≤ 120 := by have h9 := hI.1 30 _ _ rfl; rw [show (va_up v24624 39 z24639) 30 = v 30 from (hf24626 30 (by decide)).trans ((hf24612 30 (by decide)).trans ((hf24595 30 (by decide)).trans ((hf24585 30 (by decide)).trans (hf24185 30 (by decide)))))] at h9; exact h9
                    have t24643 : 0 ≤ (v 37).toInt ∧ (v 37).toInt ≤ 9 := by have h9 := hI.1 37 _ _ rfl; rw [show (va_up v24624 39 z24639) 37 = v 37 from (hf24626 37 (by decide)).trans ((hf24612 37 (by decide)).trans ((hf24595 37 (by decide)).trans ((hf24585 37 (by decide)).trans (hf24185 37 (by decide)))))] at h9; exact h9
                    have t24644 : 0 ≤ (v24624 38).toInt ∧ (v24624 38).toInt ≤ 120 := hI.1 38 _ _ rfl
                    have t24645 : 0 ≤ z24639.toInt ∧ z24639.toInt ≤ 120 := hI.1 39 _ _ rfl
                    have t24646 : 0 ≤ (v24624 41).toInt ∧ (v24624 41).toInt ≤ 8 := hI.1 41 _ _ rfl
                    refine va_callv (va_runV (As := []) (rest := []) ⟨hx, hb, hml, hown, hwd⟩ (c_X12_either_1 l dC dI g c adK adV (va_up v24624 39 z24639) F24625 rc H.size  ((((d + 1) + 1) - 1) + 1) hg hI (by have h9 : (va_up v24624 39 z24639) 38 = v24624 38 := rfl; (try rw [h9]); clear h9; have h9 : (va_up v24624 39 z24639) 39 = z24639 := rfl; (try rw [h9]); clear h9; have h9 : (va_up v24624 39 z24639) 30 = v 30 := (hf24626 30 (by decide)).trans ((hf24612 30 (by decide)).trans ((hf24595 30 (by decide)).trans ((hf24585 30 (by decide)).trans (hf24185 30 (by decide))))); (try rw [h9]); clear h9; have h9 : (va_up v24624 39 z24639) 40 = v24624 40 := rfl; (try rw [h9]); clear h9; have h9 : (va_up v24624 39 z24639) 41 = v24624 41 := rfl; (try rw [h9]); clear h9; omega) (by have h9 : (va_up v24624 39 z24639) 37 = (v 37) := (hf24626 37 (by decide)).trans ((hf24612 37 (by decide)).trans ((hf24595 37 (by decide)).trans ((hf24585 37 (by decide)).trans (hf24185 37 (by decide))))); have h8 : (va_up v24624 39 z24639) 38 = (v24624 38) := rfl; (try rw [h9]); (try rw [h8]); exact hd (by omega))) (cwV 0 hwd (gV wk_1010 wk_1007 wk_1008 wk_1009 wk_5) rfl rfl rfl (by decide +kernel) ⟨Nat.le_of_ble_eq_true rfl, Nat.le_of_ble_eq_true rfl⟩) ⟨PM.blind, va_recv hK hP (ci := 12) (q0 := 0) rfl rfl, fun U hU hW => ⟨rfl, PM.at hK hE hP hS hU hW⟩⟩ rfl rfl hl.1 rfl (lv_room (Nat.le_of_ble_eq_true rfl)) dX12_either_116 ⟨Nat.le_of_ble_eq_true rfl, Nat.le_of_ble_eq_true rfl⟩) hS (fun q _ h => (freeM hS) q h) (freeM hS) (fun u t H1 locs ht hvm hw hB hz1 hk1 hS => ?_)
                    unfold BM at hB
                    rw [ht] at hB
                    obtain ⟨v24648, F24649, rc9⟩ := u
                    obtain ⟨hI, hrc, hf24650, hG24651, hw⟩ := hw
                    dsimp only at hI hrc hB hf24650 hG24651 hw
                    have hF := frCF (by decide) hG24651 hF
                    rw [hrc] at hB
                    have hP : va_P (dC, dI) classes (wM g c v24648 F24649 rc) H1 := hB
                    have hw : (z24639.toInt ≤ (v24648 39).toInt ∧ (v24648 39).toInt ≤ ((va_up v24624 39 z24639) 30).toInt ∧ (v24624 38).toInt ≤ (v24648 38).toInt ∧ (v24648 38).toInt - (v24624 38).toInt ≤ (v24648 39).toInt - z24639.toInt ∧ (v24624 41).toInt ≤ (v24648 41).toInt ∧ ((v24648 40).toInt < 0 → (v24648 41).toInt = (v24624 41).toInt)) ∧ keepL ((va_up v24624 39 z24639) 37) (F24625 28) (F24625 29) (F24649 28) (F24649 29) ∧ ((v24648 40).toInt < 0 → dp (F24649 28) (F24649 29) (bI ((va_up v24624 39 z24639) 37)) (v24648 38).toInt.toNat = some (((((d + 1) + 1) - 1) + 1) + 1)) := hw
                    rw [show (va_up v24624 39 z24639) 30 = v 30 from (hf24626 30 (by decide)).trans ((hf24612 30 (by decide)).trans ((hf24595 30 (by decide)).trans ((hf24585 30 (by decide)).trans (hf24185 30 (by decide)))))] at hw
                    rw [show (va_up v24624 39 z24639) 37 = v 37 from (hf24626 37 (by decide)).trans ((hf24612 37 (by decide)).trans ((hf24595 37 (by decide)).trans ((hf24585 37 (by decide)).trans (hf24185 37 (by decide)))))] at hw
                    have hw_r24647 := hw
                    have t24652 : 0 ≤ (v24648 38).toInt ∧ (v24648 38).toInt ≤ 120 := hI.1 38 _ _ rfl
                    have t24653 : 0 ≤ (v24648 39).toInt ∧ (v24648 39).toInt ≤ 120 := hI.1 39 _ _ rfl
                    have t24654 : 0 ≤ (v24648 41).toInt ∧ (v24648 41).toInt ≤ 8 := hI.1 41 _ _ rfl
                    generalize H1 = H at hP hS ⊢
                    have hk := hk.tr hw_r24647.2.1
                    have hd := hw_r24647.2.2
                    refine lv_aload_n hx hb dX12_either_119 rfl (lv_at hl 1 rfl) ?_
                    refine lv_iconst (v := 4) hx hb dX12_either_120 (by decide) ?_
                    refine lv_iconst (v := 0) hx hb dX12_either_121 (by decide) ?_
                    have t24655 : 0 ≤ (v 37).toInt ∧ (v 37).toInt ≤ 9 := by have h9 := hI.1 37 _ _ rfl; rw [show v24648 37 = v 37 from (hf24650 37 (by decide)).trans ((hf24626 37 (by decide)).trans ((hf24612 37 (by decide)).trans ((hf24595 37 (by decide)).trans ((hf24585 37 (by decide)).trans (hf24185 37 (by decide))))))] at h9; exact h9
                    have t24656 : 0 ≤ (v24648 38).toInt ∧ (v24648 38).toInt ≤ 120 := hI.1 38 _ _ rfl
                    refine va_callv (va_runV (As := [.int 4, .int 0]) (rest := []) ⟨hx, hb, hml, hown, hwd⟩ (c_X12_lay l dC dI g c adK adV v24648 F24649 rc H.size 4 0 hg hI (by have h9 : v24648 38 = v24648 38 := rfl; rw [h9]; omega)) (cwV 2 hwd (gV wk_1021 wk_1018 wk_1019 wk_1020 wk_5) rfl rfl rfl (by decide +kernel) ⟨Nat.le_of_ble_eq_true rfl, Nat.le_of_ble_eq_true rfl⟩) ⟨PM.blind, va_recv hK hP (ci := 12) (q0 := 0) rfl rfl, fun U hU hW => ⟨rfl, PM.at hK hE hP hS hU hW⟩⟩ rfl rfl hl.1 rfl (lv_room (Nat.le_of_ble_eq_true rfl)) dX12_either_122 ⟨Nat.le_of_ble_eq_true rfl, Nat.le_of_ble_eq_true rfl⟩) hS (fun q _ h => (freeM hS) q h) (freeM hS) (fun u t H1 locs ht hvm hw hB hz1 hk1 hS => ?_)
                    unfold BM at hB
                    rw [ht] at hB
                    obtain ⟨v24658, F24659, rc9⟩ := u
                    obtain ⟨hI, hrc, hf24660, hG24661, hw⟩ := hw
                    dsimp only at hI hrc hB hf24660 hG24661 hw
                    have hF := frCF (by decide) hG24661 hF
                    rw [hrc] at hB
                    have hP : va_P (dC, dI) classes (wM g c v24658 F24659 rc) H1 := hB
                    have hw : (v24658 38).toInt = (v24648 38).toInt + 1 ∧ keepL (v24648 37) (F24649 28) (F24649 29) (F24659 28) (F24659 29) ∧ dp (F24659 28) (F24659 29) (bI (v24648 37)) ((v24648 38).toInt.toNat + 1) = dpS (dp (F24649 28) (F24649 29) (bI (v24648 37)) (v24648 38).toInt.toNat) (4 : Int32) (0 : Int32) := hw
                    rw [show v24648 37 = v 37 from (hf24650 37 (by decide)).trans ((hf24626 37 (by decide)).trans ((hf24612 37 (by decide)).trans ((hf24595 37 (by decide)).trans ((hf24585 37 (by decide)).trans (hf24185 37 (by decide))))))] at hw
                    have hw_r24657 := hw
                    have t24662 : 0 ≤ (v24658 38).toInt ∧ (v24658 38).toInt ≤ 120 := hI.1 38 _ _ rfl
                    have k24663 : (4 : Int32).toInt = 4 := by decide
                    have k24664 : (0 : Int32).toInt = 0 := by decide
                    generalize H1 = H at hP hS ⊢
                    have hk := hk.tr hw_r24657.2.1
                    have hd : (v24648 40).toInt < 0 → dp (F24659 28) (F24659 29) (bI (v 37)) (v24658 38).toInt.toNat = some ((((((d + 1) + 1) - 1) + 1) + 1) - 2) := fun hf => (by have e9 : (v24658 38).toInt.toNat = (v24648 38).toInt.toNat + 1 := (by omega); rw [e9, hw_r24657.2.2, hd hf]; exact dpS_4 (by decide) (by omega))
                    refine lv_aload_n hx hb dX12_either_125 rfl (lv_at hl 1 rfl) ?_
                    refine lv_dup hx hb dX12_either_126 rfl ?_
                    refine va_get (D := (dC, dI)) (ci := 12) (v := .int (v24658 41)) (C := RX12) (T := TX12) (N := 63) hx hb hwd inA_X12 hown hK hP 0 rfl rfl 41 (by decide) (hwd _ wk_1006) (fun _ h9 => h9) rfl dX12_either_127 ?_
                    refine my_top (v := v24648 41) (hf24660 41 (by decide)) ?_
                    have t24665 : 0 ≤ (v24648 41).toInt ∧ (v24648 41).toInt ≤ 8 := by have h9 := hI.1 41 _ _ rfl; rw [show v24658 41 = v24648 41 from hf24660 41 (by decide)] at h9; exact h9
                    refine lv_iconst (v := 1) hx hb dX12_either_130 (by decide) ?_
                    refine lv_isub hx hb dX12_either_131 ?_
                    refine lv_topi (fun z24666 e24667 => ?_)
                    try (have t24668 := tsub e24667 (a := (v24648 41).toInt) rfl (b := 1) (by decide) (by omega))
                    refine va_put (D := (dC, dI)) (ci := 12) (v := .int z24666) (ty := .int) (C := RX12) (T := TX12) (N := 63) (fs := fsM_0 g v24658 rc) hx hb hwd inA_X12 tyX12 tyX12_ok nmX12 hown hK hP (DM hg) hS 0 rfl rfl 41 (by decide) (hwd _ wk_1006) (fun _ h9 => h9) rfl (by decide +kernel) rfl rfl (Nat.le_of_ble_eq_true rfl) dX12_either_132 (fun H locs hP _ hS => ?_)
                    have hP := va_P_eq (pM_41 g c _ _ _ _) hP
                    have hI := IM.put hI 41 z24666 rfl (by omega)
                    have hP9 : va_P (dC, dI) classes (wM g c (va_up v24658 41 z24666) F24659 rc) H := hP
                    exact W.vret hx hb hr (fun t ht hW => ⟨⟨((va_up v24658 41 z24666), F24659, rc), rfl, ⟨hI, rfl, (frU (by decide) (frC (by decide) hf24660 (frC (by decide) hf24650 (frU (by decide) (frC (by decide) hf24626 (frC (by decide) hf24612 (frC (by decide) hf24595 (frC (by decide) hf24585 (frU (by decide) (frC (by decide) hf24185 (fun _ _ => rfl))))))))))), hF, (by show ((v 39).toInt ≤ ((va_up v24658 41 z24666) 39).toInt ∧ ((va_up v24658 41 z24666) 39).toInt ≤ (v 30).toInt ∧ (v 38).toInt ≤ (v24658 38).toInt ∧ (v24658 38).toInt - (v 38).toInt ≤ ((va_up v24658 41 z24666) 39).toInt - (v 39).toInt ∧ (v 41).toInt ≤ z24666.toInt ∧ (((va_up v24658 41 z24666) 40).toInt < 0 → z24666.toInt = (v 41).toInt)) ∧ keepL (v 37) (F 28) (F 29) (F24659 28) (F24659 29) ∧ (((va_up v24658 41 z24666) 40).toInt < 0 → dp (F24659 28) (F24659 29) (bI (v 37)) (v24658 38).toInt.toNat = some (d + 1)); rw [show (va_up v24658 41 z24666) 39 = v24648 39 from hf24660 39 (by decide)]; rw [show (va_up v24658 41 z24666) 40 = v24648 40 from hf24660 40 (by decide)]; exact ⟨by omega, hk, fun hf => (hd (by omega)).trans (congrArg some (by omega))⟩)⟩, (by show va_P _ _ _ t.heap; rw [ht]; exact hP9)⟩, hS.F ht⟩) hS.2.2 dX12_either_135
                  · skip
                    have t24669 := cv_ne (a := r24635.toInt) rfl (b := 58) (by decide) c24636
                    refine lv_aload_n hx hb dX12_either_100 rfl (lv_at hl 1 rfl) ?_
                    refine va_callv (va_runV (As := []) (rest := []) ⟨hx, hb, hml, hown, hwd⟩ (c_X12_wrong l dC dI g c adK adV v24624 F24625 rc H.size  hg hI ) (cwV 0 hwd (gV wk_1029 wk_1026 wk_1027 wk_1028 wk_5) rfl rfl rfl (by decide +kernel) ⟨Nat.le_of_ble_eq_true rfl, Nat.le_of_ble_eq_true rfl⟩) ⟨PM.blind, va_recv hK hP (ci := 12) (q0 := 0) rfl rfl, fun U hU hW => ⟨rfl, PM.at hK hE hP hS hU hW⟩⟩ rfl rfl hl.1 rfl (lv_room (Nat.le_of_ble_eq_true rfl)) dX12_either_101 ⟨Nat.le_of_ble_eq_true rfl, Nat.le_of_ble_eq_true rfl⟩) hS (fun q _ h => (freeM hS) q h) (freeM hS) (fun u t H1 locs ht hvm hw hB hz1 hk1 hS => ?_)
                    unfold BM at hB
                    rw [ht] at hB
                    obtain ⟨v24671, F24672, rc9⟩ := u
                    obtain ⟨hI, hrc, hf24673, hG24674, hw⟩ := hw
                    dsimp only at hI hrc hB hf24673 hG24674 hw
                    have hF := frCF (by decide) hG24674 hF
                    rw [hrc] at hB
                    have hP : va_P (dC, dI) classes (wM g c v24671 F24672 rc) H1 := hB
                    have hw : 0 ≤ (v24671 40).toInt := hw
                    have hw_r24670 := hw
                    generalize H1 = H at hP hS ⊢
                    have hk : keepL (v 37) (F 28) (F 29) (F24672 28) (F24672 29) := by rw [hG24674 28 (by decide), hG24674 29 (by decide)]; exact hk
                    have hd : (v24671 40).toInt < 0 → dp (F24672 28) (F24672 29) (bI (v 37)) (v24624 38).toInt.toNat = some ((((d + 1) + 1) - 1) + 1) := fun hf => (by rw [hG24674 28 (by decide), hG24674 29 (by decide)]; exact hd (by omega))
                    have hP9 : va_P (dC, dI) classes (wM g c v24671 F24672 rc) H := hP
                    exact W.vret hx hb hr (fun t ht hW => ⟨⟨(v24671, F24672, rc), rfl, ⟨hI, rfl, (frC (by decide) hf24673 (frC (by decide) hf24626 (frC (by decide) hf24612 (frC (by decide) hf24595 (frC (by decide) hf24585 (frU (by decide) (frC (by decide) hf24185 (fun _ _ => rfl)))))))), hF, (by show ((v 39).toInt ≤ (v24671 39).toInt ∧ (v24671 39).toInt ≤ (v 30).toInt ∧ (v 38).toInt ≤ (v24671 38).toInt ∧ (v24671 38).toInt - (v 38).toInt ≤ (v24671 39).toInt - (v 39).toInt ∧ (v 41).toInt ≤ (v24671 41).toInt ∧ ((v24671 40).toInt < 0 → (v24671 41).toInt = (v 41).toInt)) ∧ keepL (v 37) (F 28) (F 29) (F24672 28) (F24672 29) ∧ ((v24671 40).toInt < 0 → dp (F24672 28) (F24672 29) (bI (v 37)) (v24671 38).toInt.toNat = some (d + 1)); rw [show v24671 39 = v24624 39 from hf24673 39 (by decide)]; rw [show v24671 38 = v24624 38 from hf24673 38 (by decide)]; rw [show v24671 41 = v24624 41 from hf24673 41 (by decide)]; exact ⟨by omega, hk, fun hf => (hd (by omega)).trans (congrArg some (by omega))⟩)⟩, (by show va_P _ _ _ t.heap; rw [ht]; exact hP9)⟩, hS.F ht⟩) hS.2.2 dX12_either_104
                · skip
                  have t24675 := cv_nlt (a := (v24624 40).toInt) rfl (b := 0) (by decide) c24631
                  have hP9 : va_P (dC, dI) classes (wM g c v24624 F24625 rc) H := hP
                  exact W.vret hx hb hr (fun t ht hW => ⟨⟨(v24624, F24625, rc), rfl, ⟨hI, rfl, (frC (by decide) hf24626 (frC (by decide) hf24612 (frC (by decide) hf24595 (frC (by decide) hf24585 (frU (by decide) (frC (by decide) hf24185 (fun _ _ => rfl))))))), hF, (by show ((v 39).toInt ≤ (v24624 39).toInt ∧ (v24624 39).toInt ≤ (v 30).toInt ∧ (v 38).toInt ≤ (v24624 38).toInt ∧ (v24624 38).toInt - (v 38).toInt ≤ (v24624 39).toInt - (v 39).toInt ∧ (v 41).toInt ≤ (v24624 41).toInt ∧ ((v24624 40).toInt < 0 → (v24624 41).toInt = (v 41).toInt)) ∧ keepL (v 37) (F 28) (F 29) (F24625 28) (F24625 29) ∧ ((v24624 40).toInt < 0 → dp (F24625 28) (F24625 29) (bI (v 37)) (v24624 38).toInt.toNat = some (d + 1)); exact ⟨by omega, hk, fun hf => (hd (by omega)).trans (congrArg some (by omega))⟩)⟩, (by show va_P _ _ _ t.heap; rw [ht]; exact hP9)⟩, hS.F ht⟩) hS.2.2 dX12_either_90
              · skip
                have t24676 := cv_eq (a := r24609.toInt) rfl (b := 0) (by decide) c24616
                have hP9 : va_P (dC, dI) classes (wM g c v24610 F24611 rc) H := hP
                exact W.vret hx hb hr (fun t ht hW => ⟨⟨(v24610, F24611, rc), rfl, ⟨hI, rfl, (frC (by decide) hf24612 (frC (by decide) hf24595 (frC (by decide) hf24585 (frU (by decide) (frC (by decide) hf24185 (fun _ _ => rfl)))))), hF, (by show ((v 39).toInt ≤ (v24610 39).toInt ∧ (v24610 39).toInt ≤ (v 30).toInt ∧ (v 38).toInt ≤ (v24610 38).toInt ∧ (v24610 38).toInt - (v 38).toInt ≤ (v24610 39).toInt - (v 39).toInt ∧ (v 41).toInt ≤ (v24610 41).toInt ∧ ((v24610 40).toInt < 0 → (v24610 41).toInt = (v 41).toInt)) ∧ keepL (v 37) (F 28) (F 29) (F24611 28) (F24611 29) ∧ ((v24610 40).toInt < 0 → dp (F24611 28) (F24611 29) (bI (v 37)) (v24610 38).toInt.toNat = some (d + 1)); rw [show v24610 38 = v24593 38 from hf24612 38 (by decide)]; exact ⟨by omega, hk, fun hf => (hd (by omega)).trans (congrArg some (by omega))⟩)⟩, (by show va_P _ _ _ t.heap; rw [ht]; exact hP9)⟩, hS.F ht⟩) hS.2.2 dX12_either_78
            · skip
              have t24677 := cv_ne (a := r24604.toInt) rfl (b := 63) (by decide) c24605
              have hP9 : va_P (dC, dI) classes (wM g c v24593 F24594 rc) H := hP
              exact W.vret hx hb hr (fun t ht hW => ⟨⟨(v24593, F24594, rc), rfl, ⟨hI, rfl, (frC (by decide) hf24595 (frC (by decide) hf24585 (frU (by decide) (frC (by decide) hf24185 (fun _ _ => rfl))))), hF, (by show ((v 39).toInt ≤ (v24593 39).toInt ∧ (v24593 39).toInt ≤ (v 30).toInt ∧ (v 38).toInt ≤ (v24593 38).toInt ∧ (v24593 38).toInt - (v 38).toInt ≤ (v24593 39).toInt - (v 39).toInt ∧ (v 41).toInt ≤ (v24593 41).toInt ∧ ((v24593 40).toInt < 0 → (v24593 41).toInt = (v 41).toInt)) ∧ keepL (v 37) (F 28) (F 29) (F24594 28) (F24594 29) ∧ ((v24593 40).toInt < 0 → dp (F24594 28) (F24594 29) (bI (v 37)) (v24593 38).toInt.toNat = some (d + 1)); rw [show v24593 39 = v24583 39 from hf24595 39 (by decide)]; rw [show v24593 41 = v24583 41 from hf24595 41 (by decide)]; rw [show v24593 40 = v24583 40 from hf24595 40 (by decide)]; exact ⟨by omega, hk, fun hf => (hd (by omega)).trans (congrArg some (by omega))⟩)⟩, (by show va_P _ _ _ t.heap; rw [ht]; exact hP9)⟩, hS.F ht⟩) hS.2.2 dX12_either_70
