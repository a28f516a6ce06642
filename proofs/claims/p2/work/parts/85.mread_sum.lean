set_option maxHeartbeats 8000000 in
set_option maxRecDepth 100000 in
theorem c_X12_sum (D : Int) (fr lc : Nat) (rO : RPM yX12_operand (Cond.code yX12_operand cX12_operand 2 none) (D + 1) fr lc) (rE : RPM yX12_either (Cond.code yX12_either cX12_either 2 none) (D + 1) (fr + 3) (lc + 120)) (l : Launch) (dC : Nat → ClassId) (dI : Nat → Nat → Nat) (g : Nat → Nat) (c : Nat → ClassId) (adK adV : Nat → Nat) (v : Nat → Int32) (F : Nat → Nat → Int32) (rc sz : Nat) (d : Nat) (hg : injM g) (hI : IM v F) (hq : (v 38).toInt ≤ (v 39).toInt ∧ (v 39).toInt ≤ (v 30).toInt ∧ (v 40).toInt < 0 ∧ (v 41).toInt = D) (hdp : dp (F 28) (F 29) (bI (v 37)) (v 38).toInt.toNat = some d) : Met l yX12_sum (Cond.code yX12_sum cX12_sum 2 none :: wA) ({ frames := fr + 6, cells := 0, slots := 0, locals := lc + 240 }) (va_Pc [.ref (g 0)] (PM dC dI g c adK adV v F rc sz)) (va_Qv (fun (u : StM) => IM u.1 u.2.1 ∧ u.2.2 = rc ∧ (∀ k, k ∉ ([38, 39, 40, 41, 42] : List Nat) → u.1 k = v k) ∧ (∀ k, k ∉ ([28, 29] : List Nat) → u.2.1 k = F k) ∧ (((v 39).toInt ≤ (u.1 39).toInt ∧ (u.1 39).toInt ≤ (v 30).toInt ∧ (v 38).toInt ≤ (u.1 38).toInt ∧ (u.1 38).toInt - (v 38).toInt ≤ (u.1 39).toInt - (v 39).toInt ∧ (v 41).toInt ≤ (u.1 41).toInt ∧ ((u.1 40).toInt < 0 → (u.1 41).toInt = (v 41).toInt)) ∧ keepL (v 37) (F 28) (F 29) (u.2.1 28) (u.2.1 29) ∧ ((u.1 40).toInt < 0 → dp (u.2.1 28) (u.2.1 29) (bI (v 37)) (u.1 38).toInt.toNat = some (d + 1)))) (BM dC dI g c) (AM g sz)) 0 0 (AM g sz) := by
  refine Met.ofW (cc := cX12_sum) (maxL := 2) (ret := none) (by decide) rfl ?_
  intro p e s m args below meth c0 s₁ B hml hv
  obtain ⟨rfl, hsz, hP, hK, hE⟩ := hv
  have hx := B.exec
  have hb := B.bytes
  have hr := B.returns
  have hts := atoms_spec (ws := Cond.code yX12_sum cX12_sum 2 none :: wA) B.pre
  have hwd : ∀ w ∈ wA, w.before _ s = true := fun w h => hts w (List.mem_cons_of_mem _ h)
  have hown : s.vm.findClass RX12 = some m.cls := findClass_of_methodNamed B.named
  have hlocks := B.notSynchronized
  subst hsz
  have hl := lv_entry ([.ref (g 0)]) (n := 2) (Nat.le_of_ble_eq_true rfl)
  rw [lg_entry_eq]
  generalize (lg_sl ([.ref (g 0)]) ++ List.replicate (2 - (lg_sl ([.ref (g 0)])).length) Slot.unset).toArray = ls at hl ⊢
  have hl : lv_has ls 2 [(0, .ref (g 0))] := hl
  obtain ⟨H, eH⟩ : ∃ z, z = s.heap := ⟨_, rfl⟩
  have hP : va_P (dC, dI) classes (wM g c v F rc) H := by rw [eH]; exact hP
  have hS : va_S (AM g s.heap.size) s.heap H [] := by rw [eH]; exact va_S.rf
  refine my_heap eH ?_
  have hF : ∀ k, k ∉ ([28, 29] : List Nat) → F k = F k := fun _ _ => rfl
  have hb30 : 0 ≤ (v 30).toInt ∧ (v 30).toInt ≤ 120 := hI.1 30 _ _ rfl
  have hb37 : 0 ≤ (v 37).toInt ∧ (v 37).toInt ≤ 9 := hI.1 37 _ _ rfl
  have hb38 : 0 ≤ (v 38).toInt ∧ (v 38).toInt ≤ 120 := hI.1 38 _ _ rfl
  have hb39 : 0 ≤ (v 39).toInt ∧ (v 39).toInt ≤ 120 := hI.1 39 _ _ rfl
  have hb41 : 0 ≤ (v 41).toInt ∧ (v 41).toInt ≤ 8 := hI.1 41 _ _ rfl
  have hk : keepL (v 37) (F 28) (F 29) (F 28) (F 29) := keepL.rf
  have hd : (v 40).toInt < 0 → dp (F 28) (F 29) (bI (v 37)) (v 38).toInt.toNat = some d := fun _ => hdp
  refine lv_aload_n hx hb dX12_sum_0 rfl (lv_at hl 0 rfl) ?_
  have t11266 : 0 ≤ (v 30).toInt ∧ (v 30).toInt ≤ 120 := hI.1 30 _ _ rfl
  have t11267 : 0 ≤ (v 37).toInt ∧ (v 37).toInt ≤ 9 := hI.1 37 _ _ rfl
  have t11268 : 0 ≤ (v 38).toInt ∧ (v 38).toInt ≤ 120 := hI.1 38 _ _ rfl
  have t11269 : 0 ≤ (v 39).toInt ∧ (v 39).toInt ≤ 120 := hI.1 39 _ _ rfl
  have t11270 : 0 ≤ (v 41).toInt ∧ (v 41).toInt ≤ 8 := hI.1 41 _ _ rfl
  refine va_callv (va_runV (As := []) (rest := []) ⟨hx, hb, hml, hown, hwd⟩ (c_X12_product D fr lc rO rE l dC dI g c adK adV v F rc H.size  d hg hI (by have h9 : v 38 = v 38 := rfl; (try rw [h9]); clear h9; have h9 : v 39 = v 39 := rfl; (try rw [h9]); clear h9; have h9 : v 30 = v 30 := rfl; (try rw [h9]); clear h9; have h9 : v 40 = v 40 := rfl; (try rw [h9]); clear h9; have h9 : v 41 = v 41 := rfl; (try rw [h9]); clear h9; omega) (by have h9 : v 37 = (v 37) := rfl; have h8 : v 38 = (v 38) := rfl; (try rw [h9]); (try rw [h8]); exact hd (by omega))) (cwV 0 hwd (gV wk_1042 wk_1044 wk_1045 wk_1046 wk_5) rfl rfl rfl (by decide +kernel) ⟨(by show fr + 5 + 1 ≤ fr + 6; omega), (by show 8 + (2 + 11) + (lc + 200) ≤ lc + 240; omega)⟩) ⟨PM.blind, va_recv hK hP (ci := 12) (q0 := 0) rfl rfl, fun U hU hW => ⟨rfl, PM.at hK hE hP hS hU hW⟩⟩ rfl rfl hl.1 rfl (lv_room (Nat.le_of_ble_eq_true rfl)) dX12_sum_1 ⟨Nat.le_of_ble_eq_true rfl, Nat.le_of_ble_eq_true rfl⟩) hS (fun q _ h => (freeM hS) q h) (freeM hS) (fun u t H1 locs ht hvm hw hB hz1 hk1 hS => ?_)
  unfold BM at hB
  rw [ht] at hB
  obtain ⟨v11272, F11273, rc9⟩ := u
  obtain ⟨hI, hrc, hf11274, hG11275, hw⟩ := hw
  dsimp only at hI hrc hB hf11274 hG11275 hw
  have hF := frCF (by decide) hG11275 hF
  rw [hrc] at hB
  have hP : va_P (dC, dI) classes (wM g c v11272 F11273 rc) H1 := hB
  replace hw : ((v 39).toInt ≤ (v11272 39).toInt ∧ (v11272 39).toInt ≤ (v 30).toInt ∧ (v 38).toInt ≤ (v11272 38).toInt ∧ (v11272 38).toInt - (v 38).toInt ≤ (v11272 39).toInt - (v 39).toInt ∧ (v 41).toInt ≤ (v11272 41).toInt ∧ ((v11272 40).toInt < 0 → (v11272 41).toInt = (v 41).toInt)) ∧ keepL (v 37) (F 28) (F 29) (F11273 28) (F11273 29) ∧ ((v11272 40).toInt < 0 → dp (F11273 28) (F11273 29) (bI (v 37)) (v11272 38).toInt.toNat = some (d + 1)) := hw
  have hw_r11271 := hw
  clear hw
  have t11276 : 0 ≤ (v11272 38).toInt ∧ (v11272 38).toInt ≤ 120 := hI.1 38 _ _ rfl
  have t11277 : 0 ≤ (v11272 39).toInt ∧ (v11272 39).toInt ≤ 120 := hI.1 39 _ _ rfl
  have t11278 : 0 ≤ (v11272 41).toInt ∧ (v11272 41).toInt ≤ 8 := hI.1 41 _ _ rfl
  clear hz1
  generalize H1 = H at hP hS ⊢
  replace hk := hk.tr hw_r11271.2.1
  replace hd := hw_r11271.2.2
  replace hw_r11271 := hw_r11271.1
  have lp11279 : ∀ (n : Nat) (v_lp11279 : Nat → Int32) (F_lp11279 : Nat → Nat → Int32) (H : Heap) (locs : List Loc) (ls : Array Slot), ((v 39).toInt ≤ (v_lp11279 39).toInt ∧ (v_lp11279 39).toInt ≤ (v 30).toInt ∧ (v 38).toInt ≤ (v_lp11279 38).toInt ∧ (v_lp11279 38).toInt - (v 38).toInt ≤ (v_lp11279 39).toInt - (v 39).toInt ∧ (v 41).toInt ≤ (v_lp11279 41).toInt ∧ ((v_lp11279 40).toInt < 0 → (v_lp11279 41).toInt = (v 41).toInt)) → (keepL (v 37) (F 28) (F 29) (F_lp11279 28) (F_lp11279 29)) → (((v_lp11279 40).toInt < 0 → dp (F_lp11279 28) (F_lp11279 29) (bI (v 37)) (v_lp11279 38).toInt.toNat = some (d + 1))) → (121 - (v_lp11279 39).toInt ≤ (n : Int)) → (∀ k, k ∉ ([38, 39, 40, 41, 42] : List Nat) → v_lp11279 k = v11272 k) → IM v_lp11279 F_lp11279 → (∀ k, k ∉ ([28, 29] : List Nat) → F_lp11279 k = F k) → va_P (dC, dI) classes (wM g c v_lp11279 F_lp11279 rc) H → va_S (AM g s.heap.size) s.heap H locs → lv_has ls 2 [(0, .ref (g 0))] → W p l e (headSpec (Cond.code yX12_sum cX12_sum 2 none :: wA) ({ frames := fr + 6, cells := 0, slots := 0, locals := lc + 240 })).room s m ([.ref (g 0)] : List Value).toArray below meth c0 H locs 0 0 (MQ below (va_Qv (fun (u : StM) => IM u.1 u.2.1 ∧ u.2.2 = rc ∧ (∀ k, k ∉ ([38, 39, 40, 41, 42] : List Nat) → u.1 k = v k) ∧ (∀ k, k ∉ ([28, 29] : List Nat) → u.2.1 k = F k) ∧ (((v 39).toInt ≤ (u.1 39).toInt ∧ (u.1 39).toInt ≤ (v 30).toInt ∧ (v 38).toInt ≤ (u.1 38).toInt ∧ (u.1 38).toInt - (v 38).toInt ≤ (u.1 39).toInt - (v 39).toInt ∧ (v 41).toInt ≤ (u.1 41).toInt ∧ ((u.1 40).toInt < 0 → (u.1 41).toInt = (v 41).toInt)) ∧ keepL (v 37) (F 28) (F 29) (u.2.1 28) (u.2.1 29) ∧ ((u.1 40).toInt < 0 → dp (u.2.1 28) (u.2.1 29) (bI (v 37)) (u.1 38).toInt.toNat = some (d + 1)))) (BM dC dI g c) (AM g s.heap.size)) ([.ref (g 0)] : List Value).toArray s 0 0 (AM g s.heap.size)) (F0 m 4 ls []) := by
    intro n
    induction n with
    | zero =>
      intro v_lp11279 F_lp11279 H locs ls t11280 t11281 t11282 hm hf_lp11279 hI hF hP hS hl
      exfalso
      have hI1 := hI.1
      omega
    | succ n ih_lp11279 =>
      intro v_lp11279 F_lp11279 H locs ls t11280 t11281 t11282 hm hf_lp11279 hI hF hP hS hl
      clear hk hd
      have hk := t11281
      have hd := t11282
      clear t11281 t11282
      refine lv_aload_n hx hb dX12_sum_4 rfl (lv_at hl 0 rfl) ?_
      refine va_get (D := (dC, dI)) (ci := 12) (v := .int (v_lp11279 40)) (C := RX12) (T := TX12) (N := 63) hx hb hwd inA_X12 hown hK hP 0 rfl rfl 40 (by decide) (hwd _ wk_1005) (fun _ h9 => h9) rfl dX12_sum_5 ?_
      refine lv_if_ge (tgt := 57) hx hb dX12_sum_8 (by decide) (fun c11283 => ?_) (fun c11283 => ?_)
      · skip
        have t11284 := cv_le (a := 0) (by decide) (b := (v_lp11279 40).toInt) rfl c11283
        have hP9 : va_P (dC, dI) classes (wM g c v_lp11279 F_lp11279 rc) H := hP
        exact W.vret hx hb hr (fun t ht hW => ⟨⟨(v_lp11279, F_lp11279, rc), rfl, ⟨hI, rfl, (frC (by decide) hf_lp11279 (frC (by decide) hf11274 (fun _ _ => rfl))), hF, (by show ((v 39).toInt ≤ (v_lp11279 39).toInt ∧ (v_lp11279 39).toInt ≤ (v 30).toInt ∧ (v 38).toInt ≤ (v_lp11279 38).toInt ∧ (v_lp11279 38).toInt - (v 38).toInt ≤ (v_lp11279 39).toInt - (v 39).toInt ∧ (v 41).toInt ≤ (v_lp11279 41).toInt ∧ ((v_lp11279 40).toInt < 0 → (v_lp11279 41).toInt = (v 41).toInt)) ∧ keepL (v 37) (F 28) (F 29) (F_lp11279 28) (F_lp11279 29) ∧ ((v_lp11279 40).toInt < 0 → dp (F_lp11279 28) (F_lp11279 29) (bI (v 37)) (v_lp11279 38).toInt.toNat = some (d + 1)); exact ⟨by omega, hk, fun hf => (hd (by omega)).trans (congrArg some (by omega))⟩)⟩, (by show va_P _ _ _ t.heap; rw [ht]; exact hP9)⟩, hS.F ht⟩) hS.2.2 dX12_sum_57
      · skip
        have t11285 := cv_nle (a := 0) (by decide) (b := (v_lp11279 40).toInt) rfl c11283
        refine lv_aload_n hx hb dX12_sum_11 rfl (lv_at hl 0 rfl) ?_
        have t11286 : 0 ≤ (v 30).toInt ∧ (v 30).toInt ≤ 120 := by have h9 := hI.1 30 _ _ rfl; rw [show v_lp11279 30 = v 30 from (hf_lp11279 30 (by decide)).trans (hf11274 30 (by decide))] at h9; exact h9
        have t11287 : 0 ≤ (v_lp11279 39).toInt ∧ (v_lp11279 39).toInt ≤ 120 := hI.1 39 _ _ rfl
        refine va_calli (va_runV (As := []) (rest := []) ⟨hx, hb, hml, hown, hwd⟩ (c_X12_look l dC dI g c adK adV v_lp11279 F_lp11279 rc H.size  hg hI ) (cwV 0 hwd (gV wk_1017 wk_1014 wk_1015 wk_1016 wk_5) rfl rfl rfl (by decide +kernel) ⟨(by show 1 + 1 ≤ fr + 6; omega), (by show 8 + (1 + 11) + (40) ≤ lc + 240; omega)⟩) ⟨PM.blind, va_recv hK hP (ci := 12) (q0 := 0) rfl rfl, fun U hU hW => ⟨rfl, PM.at hK hE hP hS hU hW⟩⟩ rfl rfl hl.1 rfl (lv_room (Nat.le_of_ble_eq_true rfl)) dX12_sum_12 ⟨Nat.le_of_ble_eq_true rfl, Nat.le_of_ble_eq_true rfl⟩) hS (fun q _ h => (freeM hS) q h) (freeM hS) (fun r11288 u t H1 locs ht hvm hw hB hz1 hk1 hS => ?_)
        unfold BM at hB
        rw [ht] at hB
        have hP : va_P (dC, dI) classes (wM g c v_lp11279 F_lp11279 rc) H1 := hB
        replace hw : r11288.toInt = lkM (v_lp11279 39) (v_lp11279 30) (F_lp11279 24) ∧ ((v_lp11279 39).toInt < (v_lp11279 30).toInt ∨ r11288.toInt = -1) := hw
        rw [show v_lp11279 30 = v 30 from (hf_lp11279 30 (by decide)).trans (hf11274 30 (by decide))] at hw
        rw [hF 24 (by decide)] at hw
        have hw_r11288 := hw
        clear hw
        clear hz1
        generalize H1 = H at hP hS ⊢
        refine lv_bipush (v := 43) hx hb dX12_sum_15 (by decide) ?_
        refine lv_icmp_eq (tgt := 29) hx hb dX12_sum_17 (by decide) (fun c11289 => ?_) (fun c11289 => ?_)
        · skip
          have t11290 := cv_eq (a := r11288.toInt) rfl (b := 43) (by decide) c11289
          refine lv_aload_n hx hb dX12_sum_29 rfl (lv_at hl 0 rfl) ?_
          have t11291 : 0 ≤ (v 30).toInt ∧ (v 30).toInt ≤ 120 := by have h9 := hI.1 30 _ _ rfl; rw [show v_lp11279 30 = v 30 from (hf_lp11279 30 (by decide)).trans (hf11274 30 (by decide))] at h9; exact h9
          have t11292 : 0 ≤ (v_lp11279 39).toInt ∧ (v_lp11279 39).toInt ≤ 120 := hI.1 39 _ _ rfl
          refine va_calli (va_runV (As := []) (rest := []) ⟨hx, hb, hml, hown, hwd⟩ (c_X12_look l dC dI g c adK adV v_lp11279 F_lp11279 rc H.size  hg hI ) (cwV 0 hwd (gV wk_1017 wk_1014 wk_1015 wk_1016 wk_5) rfl rfl rfl (by decide +kernel) ⟨(by show 1 + 1 ≤ fr + 6; omega), (by show 8 + (1 + 11) + (40) ≤ lc + 240; omega)⟩) ⟨PM.blind, va_recv hK hP (ci := 12) (q0 := 0) rfl rfl, fun U hU hW => ⟨rfl, PM.at hK hE hP hS hU hW⟩⟩ rfl rfl hl.1 rfl (lv_room (Nat.le_of_ble_eq_true rfl)) dX12_sum_30 ⟨Nat.le_of_ble_eq_true rfl, Nat.le_of_ble_eq_true rfl⟩) hS (fun q _ h => (freeM hS) q h) (freeM hS) (fun r11293 u t H1 locs ht hvm hw hB hz1 hk1 hS => ?_)
          unfold BM at hB
          rw [ht] at hB
          have hP : va_P (dC, dI) classes (wM g c v_lp11279 F_lp11279 rc) H1 := hB
          replace hw : r11293.toInt = lkM (v_lp11279 39) (v_lp11279 30) (F_lp11279 24) ∧ ((v_lp11279 39).toInt < (v_lp11279 30).toInt ∨ r11293.toInt = -1) := hw
          rw [show v_lp11279 30 = v 30 from (hf_lp11279 30 (by decide)).trans (hf11274 30 (by decide))] at hw
          rw [hF 24 (by decide)] at hw
          have hw_r11293 := hw
          clear hw
          clear hz1
          generalize H1 = H at hP hS ⊢
          refine lv_istore_n (lv' := [(1, .int r11293), (0, .ref (g 0))]) hx hb dX12_sum_33 rfl hl (by decide) rfl (fun ls hl => ?_)
          refine lv_aload_n hx hb dX12_sum_34 rfl (lv_at hl 1 rfl) ?_
          refine lv_dup hx hb dX12_sum_35 rfl ?_
          refine va_get (D := (dC, dI)) (ci := 12) (v := .int (v_lp11279 39)) (C := RX12) (T := TX12) (N := 63) hx hb hwd inA_X12 hown hK hP 0 rfl rfl 39 (by decide) (hwd _ wk_1004) (fun _ h9 => h9) rfl dX12_sum_36 ?_
          have t11294 : 0 ≤ (v_lp11279 39).toInt ∧ (v_lp11279 39).toInt ≤ 120 := hI.1 39 _ _ rfl
          refine lv_iconst (v := 1) hx hb dX12_sum_39 (by decide) ?_
          refine lv_iadd hx hb dX12_sum_40 ?_
          refine lv_topi (fun z11295 e11296 => ?_)
          try (have t11297 := tadd e11296 (a := (v_lp11279 39).toInt) rfl (b := 1) (by decide) (by omega))
          refine va_put (D := (dC, dI)) (ci := 12) (v := .int z11295) (ty := .int) (C := RX12) (T := TX12) (N := 63) (fs := fsM_0 g v_lp11279 rc) hx hb hwd inA_X12 tyX12 tyX12_ok nmX12 hown hK hP (DM hg) hS 0 rfl rfl 39 (by decide) (hwd _ wk_1004) (fun _ h9 => h9) rfl (by decide +kernel) rfl rfl (Nat.le_of_ble_eq_true rfl) dX12_sum_41 (fun H locs hP _ hS => ?_)
          have hP := va_P_eq (pM_39 g c _ _ _ _) hP
          have hI := IM.put hI 39 z11295 rfl (by omega)
          refine lv_aload_n hx hb dX12_sum_44 rfl (lv_at hl 1 rfl) ?_
          have t11298 : 0 ≤ (v 30).toInt ∧ (v 30).toInt ≤ 120 := by have h9 := hI.1 30 _ _ rfl; rw [show (va_up v_lp11279 39 z11295) 30 = v 30 from (hf_lp11279 30 (by decide)).trans (hf11274 30 (by decide))] at h9; exact h9
          have t11299 : 0 ≤ (v 37).toInt ∧ (v 37).toInt ≤ 9 := by have h9 := hI.1 37 _ _ rfl; rw [show (va_up v_lp11279 39 z11295) 37 = v 37 from (hf_lp11279 37 (by decide)).trans (hf11274 37 (by decide))] at h9; exact h9
          have t11300 : 0 ≤ (v_lp11279 38).toInt ∧ (v_lp11279 38).toInt ≤ 120 := hI.1 38 _ _ rfl
          have t11301 : 0 ≤ z11295.toInt ∧ z11295.toInt ≤ 120 := hI.1 39 _ _ rfl
          have t11302 : 0 ≤ (v_lp11279 41).toInt ∧ (v_lp11279 41).toInt ≤ 8 := hI.1 41 _ _ rfl
          refine va_callv (va_runV (As := []) (rest := []) ⟨hx, hb, hml, hown, hwd⟩ (c_X12_product D fr lc rO rE l dC dI g c adK adV (va_up v_lp11279 39 z11295) F_lp11279 rc H.size  (d + 1) hg hI (by have h9 : (va_up v_lp11279 39 z11295) 38 = v_lp11279 38 := rfl; (try rw [h9]); clear h9; have h9 : (va_up v_lp11279 39 z11295) 39 = z11295 := rfl; (try rw [h9]); clear h9; have h9 : (va_up v_lp11279 39 z11295) 30 = v 30 := (hf_lp11279 30 (by decide)).trans (hf11274 30 (by decide)); (try rw [h9]); clear h9; have h9 : (va_up v_lp11279 39 z11295) 40 = v_lp11279 40 := rfl; (try rw [h9]); clear h9; have h9 : (va_up v_lp11279 39 z11295) 41 = v_lp11279 41 := rfl; (try rw [h9]); clear h9; omega) (by have h9 : (va_up v_lp11279 39 z11295) 37 = (v 37) := (hf_lp11279 37 (by decide)).trans (hf11274 37 (by decide)); have h8 : (va_up v_lp11279 39 z11295) 38 = (v_lp11279 38) := rfl; (try rw [h9]); (try rw [h8]); exact hd (by omega))) (cwV 0 hwd (gV wk_1042 wk_1044 wk_1045 wk_1046 wk_5) rfl rfl rfl (by decide +kernel) ⟨(by show fr + 5 + 1 ≤ fr + 6; omega), (by show 8 + (2 + 11) + (lc + 200) ≤ lc + 240; omega)⟩) ⟨PM.blind, va_recv hK hP (ci := 12) (q0 := 0) rfl rfl, fun U hU hW => ⟨rfl, PM.at hK hE hP hS hU hW⟩⟩ rfl rfl hl.1 rfl (lv_room (Nat.le_of_ble_eq_true rfl)) dX12_sum_45 ⟨Nat.le_of_ble_eq_true rfl, Nat.le_of_ble_eq_true rfl⟩) hS (fun q _ h => (freeM hS) q h) (freeM hS) (fun u t H1 locs ht hvm hw hB hz1 hk1 hS => ?_)
          unfold BM at hB
          rw [ht] at hB
          obtain ⟨v11304, F11305, rc9⟩ := u
          obtain ⟨hI, hrc, hf11306, hG11307, hw⟩ := hw
          dsimp only at hI hrc hB hf11306 hG11307 hw
          have hF := frCF (by decide) hG11307 hF
          rw [hrc] at hB
          have hP : va_P (dC, dI) classes (wM g c v11304 F11305 rc) H1 := hB
          replace hw : (z11295.toInt ≤ (v11304 39).toInt ∧ (v11304 39).toInt ≤ ((va_up v_lp11279 39 z11295) 30).toInt ∧ (v_lp11279 38).toInt ≤ (v11304 38).toInt ∧ (v11304 38).toInt - (v_lp11279 38).toInt ≤ (v11304 39).toInt - z11295.toInt ∧ (v_lp11279 41).toInt ≤ (v11304 41).toInt ∧ ((v11304 40).toInt < 0 → (v11304 41).toInt = (v_lp11279 41).toInt)) ∧ keepL ((va_up v_lp11279 39 z11295) 37) (F_lp11279 28) (F_lp11279 29) (F11305 28) (F11305 29) ∧ ((v11304 40).toInt < 0 → dp (F11305 28) (F11305 29) (bI ((va_up v_lp11279 39 z11295) 37)) (v11304 38).toInt.toNat = some ((d + 1) + 1)) := hw
          rw [show (va_up v_lp11279 39 z11295) 30 = v 30 from (hf_lp11279 30 (by decide)).trans (hf11274 30 (by decide))] at hw
          rw [show (va_up v_lp11279 39 z11295) 37 = v 37 from (hf_lp11279 37 (by decide)).trans (hf11274 37 (by decide))] at hw
          have hw_r11303 := hw
          clear hw
          have t11308 : 0 ≤ (v11304 38).toInt ∧ (v11304 38).toInt ≤ 120 := hI.1 38 _ _ rfl
          have t11309 : 0 ≤ (v11304 39).toInt ∧ (v11304 39).toInt ≤ 120 := hI.1 39 _ _ rfl
          have t11310 : 0 ≤ (v11304 41).toInt ∧ (v11304 41).toInt ≤ 8 := hI.1 41 _ _ rfl
          clear hz1
          generalize H1 = H at hP hS ⊢
          replace hk := hk.tr hw_r11303.2.1
          replace hd := hw_r11303.2.2
          replace hw_r11303 := hw_r11303.1
          refine lv_aload_n hx hb dX12_sum_48 rfl (lv_at hl 1 rfl) ?_
          refine lv_iload_n hx hb dX12_sum_49 rfl (lv_at hl 0 rfl) ?_
          refine lv_iconst (v := 0) hx hb dX12_sum_50 (by decide) ?_
          have t11311 : 0 ≤ (v 37).toInt ∧ (v 37).toInt ≤ 9 := by have h9 := hI.1 37 _ _ rfl; rw [show v11304 37 = v 37 from (hf11306 37 (by decide)).trans ((hf_lp11279 37 (by decide)).trans (hf11274 37 (by decide)))] at h9; exact h9
          have t11312 : 0 ≤ (v11304 38).toInt ∧ (v11304 38).toInt ≤ 120 := hI.1 38 _ _ rfl
          refine va_callv (va_runV (As := [.int r11293, .int 0]) (rest := []) ⟨hx, hb, hml, hown, hwd⟩ (c_X12_lay l dC dI g c adK adV v11304 F11305 rc H.size r11293 0 hg hI (by have h9 : v11304 38 = v11304 38 := rfl; rw [h9]; omega)) (cwV 2 hwd (gV wk_1021 wk_1018 wk_1019 wk_1020 wk_5) rfl rfl rfl (by decide +kernel) ⟨(by show 1 + 1 ≤ fr + 6; omega), (by show 8 + (3 + 11) + (40) ≤ lc + 240; omega)⟩) ⟨PM.blind, va_recv hK hP (ci := 12) (q0 := 0) rfl rfl, fun U hU hW => ⟨rfl, PM.at hK hE hP hS hU hW⟩⟩ rfl rfl hl.1 rfl (lv_room (Nat.le_of_ble_eq_true rfl)) dX12_sum_51 ⟨Nat.le_of_ble_eq_true rfl, Nat.le_of_ble_eq_true rfl⟩) hS (fun q _ h => (freeM hS) q h) (freeM hS) (fun u t H1 locs ht hvm hw hB hz1 hk1 hS => ?_)
          unfold BM at hB
          rw [ht] at hB
          obtain ⟨v11314, F11315, rc9⟩ := u
          obtain ⟨hI, hrc, hf11316, hG11317, hw⟩ := hw
          dsimp only at hI hrc hB hf11316 hG11317 hw
          have hF := frCF (by decide) hG11317 hF
          rw [hrc] at hB
          have hP : va_P (dC, dI) classes (wM g c v11314 F11315 rc) H1 := hB
          replace hw : (v11314 38).toInt = (v11304 38).toInt + 1 ∧ keepL (v11304 37) (F11305 28) (F11305 29) (F11315 28) (F11315 29) ∧ dp (F11315 28) (F11315 29) (bI (v11304 37)) ((v11304 38).toInt.toNat + 1) = dpS (dp (F11305 28) (F11305 29) (bI (v11304 37)) (v11304 38).toInt.toNat) r11293 (0 : Int32) := hw
          rw [show v11304 37 = v 37 from (hf11306 37 (by decide)).trans ((hf_lp11279 37 (by decide)).trans (hf11274 37 (by decide)))] at hw
          have hw_r11313 := hw
          clear hw
          have t11318 : 0 ≤ (v11314 38).toInt ∧ (v11314 38).toInt ≤ 120 := hI.1 38 _ _ rfl
          have k11319 : (0 : Int32).toInt = 0 := by decide
          clear hz1
          generalize H1 = H at hP hS ⊢
          replace hk := hk.tr hw_r11313.2.1
          replace hd : (v11304 40).toInt < 0 → dp (F11315 28) (F11315 29) (bI (v 37)) (v11314 38).toInt.toNat = some (((d + 1) + 1) - 1) := fun hf => (by have e9 : (v11314 38).toInt.toNat = (v11304 38).toInt.toNat + 1 := (by omega); rw [e9, hw_r11313.2.2, hd hf]; exact dpS_5 (by omega) (by omega) (by omega) (by omega) (by omega))
          replace hw_r11313 := hw_r11313.1
          refine lv_goto (tgt := 4) hx hb dX12_sum_54 (by decide) ?_
          exact ih_lp11279  v11314 F11315 _ _ _ (by have h9 : v11314 39 = v11304 39 := hf11316 39 (by decide); (try rw [h9]); clear h9; have h9 : v11314 38 = v11314 38 := rfl; (try rw [h9]); clear h9; have h9 : v11314 41 = v11304 41 := hf11316 41 (by decide); (try rw [h9]); clear h9; have h9 : v11314 40 = v11304 40 := hf11316 40 (by decide); (try rw [h9]); clear h9; omega) hk (by have h9 : v11314 40 = v11304 40 := hf11316 40 (by decide); (try rw [h9]); clear h9; have h9 : v11314 38 = v11314 38 := rfl; (try rw [h9]); clear h9; exact fun hf => (hd (by omega)).trans (congrArg some (by omega))) (by have h9 : v11314 39 = v11304 39 := hf11316 39 (by decide); rw [h9]; omega) (frC (by decide) hf11316 (frC (by decide) hf11306 (frU (by decide) hf_lp11279))) hI hF hP hS (lv_sub hl [1] rfl)
        · skip
          have t11320 := cv_ne (a := r11288.toInt) rfl (b := 43) (by decide) c11289
          refine lv_aload_n hx hb dX12_sum_20 rfl (lv_at hl 0 rfl) ?_
          have t11321 : 0 ≤ (v 30).toInt ∧ (v 30).toInt ≤ 120 := by have h9 := hI.1 30 _ _ rfl; rw [show v_lp11279 30 = v 30 from (hf_lp11279 30 (by decide)).trans (hf11274 30 (by decide))] at h9; exact h9
          have t11322 : 0 ≤ (v_lp11279 39).toInt ∧ (v_lp11279 39).toInt ≤ 120 := hI.1 39 _ _ rfl
          refine va_calli (va_runV (As := []) (rest := []) ⟨hx, hb, hml, hown, hwd⟩ (c_X12_look l dC dI g c adK adV v_lp11279 F_lp11279 rc H.size  hg hI ) (cwV 0 hwd (gV wk_1017 wk_1014 wk_1015 wk_1016 wk_5) rfl rfl rfl (by decide +kernel) ⟨(by show 1 + 1 ≤ fr + 6; omega), (by show 8 + (1 + 11) + (40) ≤ lc + 240; omega)⟩) ⟨PM.blind, va_recv hK hP (ci := 12) (q0 := 0) rfl rfl, fun U hU hW => ⟨rfl, PM.at hK hE hP hS hU hW⟩⟩ rfl rfl hl.1 rfl (lv_room (Nat.le_of_ble_eq_true rfl)) dX12_sum_21 ⟨Nat.le_of_ble_eq_true rfl, Nat.le_of_ble_eq_true rfl⟩) hS (fun q _ h => (freeM hS) q h) (freeM hS) (fun r11323 u t H1 locs ht hvm hw hB hz1 hk1 hS => ?_)
          unfold BM at hB
          rw [ht] at hB
          have hP : va_P (dC, dI) classes (wM g c v_lp11279 F_lp11279 rc) H1 := hB
          replace hw : r11323.toInt = lkM (v_lp11279 39) (v_lp11279 30) (F_lp11279 24) ∧ ((v_lp11279 39).toInt < (v_lp11279 30).toInt ∨ r11323.toInt = -1) := hw
          rw [show v_lp11279 30 = v 30 from (hf_lp11279 30 (by decide)).trans (hf11274 30 (by decide))] at hw
          rw [hF 24 (by decide)] at hw
          have hw_r11323 := hw
          clear hw
          clear hz1
          generalize H1 = H at hP hS ⊢
          refine lv_bipush (v := 45) hx hb dX12_sum_24 (by decide) ?_
          refine lv_icmp_ne (tgt := 57) hx hb dX12_sum_26 (by decide) (fun c11324 => ?_) (fun c11324 => ?_)
          · skip
            have t11325 := cv_ne (a := r11323.toInt) rfl (b := 45) (by decide) c11324
            have hP9 : va_P (dC, dI) classes (wM g c v_lp11279 F_lp11279 rc) H := hP
            exact W.vret hx hb hr (fun t ht hW => ⟨⟨(v_lp11279, F_lp11279, rc), rfl, ⟨hI, rfl, (frC (by decide) hf_lp11279 (frC (by decide) hf11274 (fun _ _ => rfl))), hF, (by show ((v 39).toInt ≤ (v_lp11279 39).toInt ∧ (v_lp11279 39).toInt ≤ (v 30).toInt ∧ (v 38).toInt ≤ (v_lp11279 38).toInt ∧ (v_lp11279 38).toInt - (v 38).toInt ≤ (v_lp11279 39).toInt - (v 39).toInt ∧ (v 41).toInt ≤ (v_lp11279 41).toInt ∧ ((v_lp11279 40).toInt < 0 → (v_lp11279 41).toInt = (v 41).toInt)) ∧ keepL (v 37) (F 28) (F 29) (F_lp11279 28) (F_lp11279 29) ∧ ((v_lp11279 40).toInt < 0 → dp (F_lp11279 28) (F_lp11279 29) (bI (v 37)) (v_lp11279 38).toInt.toNat = some (d + 1)); exact ⟨by omega, hk, fun hf => (hd (by omega)).trans (congrArg some (by omega))⟩)⟩, (by show va_P _ _ _ t.heap; rw [ht]; exact hP9)⟩, hS.F ht⟩) hS.2.2 dX12_sum_57
          · skip
            have t11326 := cv_eq (a := r11323.toInt) rfl (b := 45) (by decide) c11324
            refine lv_aload_n hx hb dX12_sum_29 rfl (lv_at hl 0 rfl) ?_
            have t11327 : 0 ≤ (v 30).toInt ∧ (v 30).toInt ≤ 120 := by have h9 := hI.1 30 _ _ rfl; rw [show v_lp11279 30 = v 30 from (hf_lp11279 30 (by decide)).trans (hf11274 30 (by decide))] at h9; exact h9
            have t11328 : 0 ≤ (v_lp11279 39).toInt ∧ (v_lp11279 39).toInt ≤ 120 := hI.1 39 _ _ rfl
            refine va_calli (va_runV (As := []) (rest := []) ⟨hx, hb, hml, hown, hwd⟩ (c_X12_look l dC dI g c adK adV v_lp11279 F_lp11279 rc H.size  hg hI ) (cwV 0 hwd (gV wk_1017 wk_1014 wk_1015 wk_1016 wk_5) rfl rfl rfl (by decide +kernel) ⟨(by show 1 + 1 ≤ fr + 6; omega), (by show 8 + (1 + 11) + (40) ≤ lc + 240; omega)⟩) ⟨PM.blind, va_recv hK hP (ci := 12) (q0 := 0) rfl rfl, fun U hU hW => ⟨rfl, PM.at hK hE hP hS hU hW⟩⟩ rfl rfl hl.1 rfl (lv_room (Nat.le_of_ble_eq_true rfl)) dX12_sum_30 ⟨Nat.le_of_ble_eq_true rfl, Nat.le_of_ble_eq_true rfl⟩) hS (fun q _ h => (freeM hS) q h) (freeM hS) (fun r11329 u t H1 locs ht hvm hw hB hz1 hk1 hS => ?_)
            unfold BM at hB
            rw [ht] at hB
            have hP : va_P (dC, dI) classes (wM g c v_lp11279 F_lp11279 rc) H1 := hB
            replace hw : r11329.toInt = lkM (v_lp11279 39) (v_lp11279 30) (F_lp11279 24) ∧ ((v_lp11279 39).toInt < (v_lp11279 30).toInt ∨ r11329.toInt = -1) := hw
            rw [show v_lp11279 30 = v 30 from (hf_lp11279 30 (by decide)).trans (hf11274 30 (by decide))] at hw
            rw [hF 24 (by decide)] at hw
            have hw_r11329 := hw
            clear hw
            clear hz1
            generalize H1 = H at hP hS ⊢
            refine lv_istore_n (lv' := [(1, .int r11329), (0, .ref (g 0))]) hx hb dX12_sum_33 rfl hl (by decide) rfl (fun ls hl => ?_)
            refine lv_aload_n hx hb dX12_sum_34 rfl (lv_at hl 1 rfl) ?_
            refine lv_dup hx hb dX12_sum_35 rfl ?_
            refine va_get (D := (dC, dI)) (ci := 12) (v := .int (v_lp11279 39)) (C := RX12) (T := TX12) (N := 63) hx hb hwd inA_X12 hown hK hP 0 rfl rfl 39 (by decide) (hwd _ wk_1004) (fun _ h9 => h9) rfl dX12_sum_36 ?_
            have t11330 : 0 ≤ (v_lp11279 39).toInt ∧ (v_lp11279 39).toInt ≤ 120 := hI.1 39 _ _ rfl
            refine lv_iconst (v := 1) hx hb dX12_sum_39 (by decide) ?_
            refine lv_iadd hx hb dX12_sum_40 ?_
            refine lv_topi (fun z11331 e11332 => ?_)
            try (have t11333 := tadd e11332 (a := (v_lp11279 39).toInt) rfl (b := 1) (by decide) (by omega))
            refine va_put (D := (dC, dI)) (ci := 12) (v := .int z11331) (ty := .int) (C := RX12) (T := TX12) (N := 63) (fs := fsM_0 g v_lp11279 rc) hx hb hwd inA_X12 tyX12 tyX12_ok nmX12 hown hK hP (DM hg) hS 0 rfl rfl 39 (by decide) (hwd _ wk_1004) (fun _ h9 => h9) rfl (by decide +kernel) rfl rfl (Nat.le_of_ble_eq_true rfl) dX12_sum_41 (fun H locs hP _ hS => ?_)
            have hP := va_P_eq (pM_39 g c _ _ _ _) hP
            have hI := IM.put hI 39 z11331 rfl (by omega)
            refine lv_aload_n hx hb dX12_sum_44 rfl (lv_at hl 1 rfl) ?_
            have t11334 : 0 ≤ (v 30).toInt ∧ (v 30).toInt ≤ 120 := by have h9 := hI.1 30 _ _ rfl; rw [show (va_up v_lp11279 39 z11331) 30 = v 30 from (hf_lp11279 30 (by decide)).trans (hf11274 30 (by decide))] at h9; exact h9
            have t11335 : 0 ≤ (v 37).toInt ∧ (v 37).toInt ≤ 9 := by have h9 := hI.1 37 _ _ rfl; rw [show (va_up v_lp11279 39 z11331) 37 = v 37 from (hf_lp11279 37 (by decide)).trans (hf11274 37 (by decide))] at h9; exact h9
            have t11336 : 0 ≤ (v_lp11279 38).toInt ∧ (v_lp11279 38).toInt ≤ 120 := hI.1 38 _ _ rfl
            have t11337 : 0 ≤ z11331.toInt ∧ z11331.toInt ≤ 120 := hI.1 39 _ _ rfl
            have t11338 : 0 ≤ (v_lp11279 41).toInt ∧ (v_lp11279 41).toInt ≤ 8 := hI.1 41 _ _ rfl
            refine va_callv (va_runV (As := []) (rest := []) ⟨hx, hb, hml, hown, hwd⟩ (c_X12_product D fr lc rO rE l dC dI g c adK adV (va_up v_lp11279 39 z11331) F_lp11279 rc H.size  (d + 1) hg hI (by have h9 : (va_up v_lp11279 39 z11331) 38 = v_lp11279 38 := rfl; (try rw [h9]); clear h9; have h9 : (va_up v_lp11279 39 z11331) 39 = z11331 := rfl; (try rw [h9]); clear h9; have h9 : (va_up v_lp11279 39 z11331) 30 = v 30 := (hf_lp11279 30 (by decide)).trans (hf11274 30 (by decide)); (try rw [h9]); clear h9; have h9 : (va_up v_lp11279 39 z11331) 40 = v_lp11279 40 := rfl; (try rw [h9]); clear h9; have h9 : (va_up v_lp11279 39 z11331) 41 = v_lp11279 41 := rfl; (try rw [h9]); clear h9; omega) (by have h9 : (va_up v_lp11279 39 z11331) 37 = (v 37) := (hf_lp11279 37 (by decide)).trans (hf11274 37 (by decide)); have h8 : (va_up v_lp11279 39 z11331) 38 = (v_lp11279 38) := rfl; (try rw [h9]); (try rw [h8]); exact hd (by omega))) (cwV 0 hwd (gV wk_1042 wk_1044 wk_1045 wk_1046 wk_5) rfl rfl rfl (by decide +kernel) ⟨(by show fr + 5 + 1 ≤ fr + 6; omega), (by show 8 + (2 + 11) + (lc + 200) ≤ lc + 240; omega)⟩) ⟨PM.blind, va_recv hK hP (ci := 12) (q0 := 0) rfl rfl, fun U hU hW => ⟨rfl, PM.at hK hE hP hS hU hW⟩⟩ rfl rfl hl.1 rfl (lv_room (Nat.le_of_ble_eq_true rfl)) dX12_sum_45 ⟨Nat.le_of_ble_eq_true rfl, Nat.le_of_ble_eq_true rfl⟩) hS (fun q _ h => (freeM hS) q h) (freeM hS) (fun u t H1 locs ht hvm hw hB hz1 hk1 hS => ?_)
            unfold BM at hB
            rw [ht] at hB
            obtain ⟨v11340, F11341, rc9⟩ := u
            obtain ⟨hI, hrc, hf11342, hG11343, hw⟩ := hw
            dsimp only at hI hrc hB hf11342 hG11343 hw
            have hF := frCF (by decide) hG11343 hF
            rw [hrc] at hB
            have hP : va_P (dC, dI) classes (wM g c v11340 F11341 rc) H1 := hB
            replace hw : (z11331.toInt ≤ (v11340 39).toInt ∧ (v11340 39).toInt ≤ ((va_up v_lp11279 39 z11331) 30).toInt ∧ (v_lp11279 38).toInt ≤ (v11340 38).toInt ∧ (v11340 38).toInt - (v_lp11279 38).toInt ≤ (v11340 39).toInt - z11331.toInt ∧ (v_lp11279 41).toInt ≤ (v11340 41).toInt ∧ ((v11340 40).toInt < 0 → (v11340 41).toInt = (v_lp11279 41).toInt)) ∧ keepL ((va_up v_lp11279 39 z11331) 37) (F_lp11279 28) (F_lp11279 29) (F11341 28) (F11341 29) ∧ ((v11340 40).toInt < 0 → dp (F11341 28) (F11341 29) (bI ((va_up v_lp11279 39 z11331) 37)) (v11340 38).toInt.toNat = some ((d + 1) + 1)) := hw
            rw [show (va_up v_lp11279 39 z11331) 30 = v 30 from (hf_lp11279 30 (by decide)).trans (hf11274 30 (by decide))] at hw
            rw [show (va_up v_lp11279 39 z11331) 37 = v 37 from (hf_lp11279 37 (by decide)).trans (hf11274 37 (by decide))] at hw
            have hw_r11339 := hw
            clear hw
            have t11344 : 0 ≤ (v11340 38).toInt ∧ (v11340 38).toInt ≤ 120 := hI.1 38 _ _ rfl
            have t11345 : 0 ≤ (v11340 39).toInt ∧ (v11340 39).toInt ≤ 120 := hI.1 39 _ _ rfl
            have t11346 : 0 ≤ (v11340 41).toInt ∧ (v11340 41).toInt ≤ 8 := hI.1 41 _ _ rfl
            clear hz1
            generalize H1 = H at hP hS ⊢
            replace hk := hk.tr hw_r11339.2.1
            replace hd := hw_r11339.2.2
            replace hw_r11339 := hw_r11339.1
            refine lv_aload_n hx hb dX12_sum_48 rfl (lv_at hl 1 rfl) ?_
            refine lv_iload_n hx hb dX12_sum_49 rfl (lv_at hl 0 rfl) ?_
            refine lv_iconst (v := 0) hx hb dX12_sum_50 (by decide) ?_
            have t11347 : 0 ≤ (v 37).toInt ∧ (v 37).toInt ≤ 9 := by have h9 := hI.1 37 _ _ rfl; rw [show v11340 37 = v 37 from (hf11342 37 (by decide)).trans ((hf_lp11279 37 (by decide)).trans (hf11274 37 (by decide)))] at h9; exact h9
            have t11348 : 0 ≤ (v11340 38).toInt ∧ (v11340 38).toInt ≤ 120 := hI.1 38 _ _ rfl
            refine va_callv (va_runV (As := [.int r11329, .int 0]) (rest := []) ⟨hx, hb, hml, hown, hwd⟩ (c_X12_lay l dC dI g c adK adV v11340 F11341 rc H.size r11329 0 hg hI (by have h9 : v11340 38 = v11340 38 := rfl; rw [h9]; omega)) (cwV 2 hwd (gV wk_1021 wk_1018 wk_1019 wk_1020 wk_5) rfl rfl rfl (by decide +kernel) ⟨(by show 1 + 1 ≤ fr + 6; omega), (by show 8 + (3 + 11) + (40) ≤ lc + 240; omega)⟩) ⟨PM.blind, va_recv hK hP (ci := 12) (q0 := 0) rfl rfl, fun U hU hW => ⟨rfl, PM.at hK hE hP hS hU hW⟩⟩ rfl rfl hl.1 rfl (lv_room (Nat.le_of_ble_eq_true rfl)) dX12_sum_51 ⟨Nat.le_of_ble_eq_true rfl, Nat.le_of_ble_eq_true rfl⟩) hS (fun q _ h => (freeM hS) q h) (freeM hS) (fun u t H1 locs ht hvm hw hB hz1 hk1 hS => ?_)
            unfold BM at hB
            rw [ht] at hB
            obtain ⟨v11350, F11351, rc9⟩ := u
            obtain ⟨hI, hrc, hf11352, hG11353, hw⟩ := hw
            dsimp only at hI hrc hB hf11352 hG11353 hw
            have hF := frCF (by decide) hG11353 hF
            rw [hrc] at hB
            have hP : va_P (dC, dI) classes (wM g c v11350 F11351 rc) H1 := hB
            replace hw : (v11350 38).toInt = (v11340 38).toInt + 1 ∧ keepL (v11340 37) (F11341 28) (F11341 29) (F11351 28) (F11351 29) ∧ dp (F11351 28) (F11351 29) (bI (v11340 37)) ((v11340 38).toInt.toNat + 1) = dpS (dp (F11341 28) (F11341 29) (bI (v11340 37)) (v11340 38).toInt.toNat) r11329 (0 : Int32) := hw
            rw [show v11340 37 = v 37 from (hf11342 37 (by decide)).trans ((hf_lp11279 37 (by decide)).trans (hf11274 37 (by decide)))] at hw
            have hw_r11349 := hw
            clear hw
            have t11354 : 0 ≤ (v11350 38).toInt ∧ (v11350 38).toInt ≤ 120 := hI.1 38 _ _ rfl
            have k11355 : (0 : Int32).toInt = 0 := by decide
            clear hz1
            generalize H1 = H at hP hS ⊢
            replace hk := hk.tr hw_r11349.2.1
            replace hd : (v11340 40).toInt < 0 → dp (F11351 28) (F11351 29) (bI (v 37)) (v11350 38).toInt.toNat = some (((d + 1) + 1) - 1) := fun hf => (by have e9 : (v11350 38).toInt.toNat = (v11340 38).toInt.toNat + 1 := (by omega); rw [e9, hw_r11349.2.2, hd hf]; exact dpS_5 (by omega) (by omega) (by omega) (by omega) (by omega))
            replace hw_r11349 := hw_r11349.1
            refine lv_goto (tgt := 4) hx hb dX12_sum_54 (by decide) ?_
            exact ih_lp11279  v11350 F11351 _ _ _ (by have h9 : v11350 39 = v11340 39 := hf11352 39 (by decide); (try rw [h9]); clear h9; have h9 : v11350 38 = v11350 38 := rfl; (try rw [h9]); clear h9; have h9 : v11350 41 = v11340 41 := hf11352 41 (by decide); (try rw [h9]); clear h9; have h9 : v11350 40 = v11340 40 := hf11352 40 (by decide); (try rw [h9]); clear h9; omega) hk (by have h9 : v11350 40 = v11340 40 := hf11352 40 (by decide); (try rw [h9]); clear h9; have h9 : v11350 38 = v11350 38 := rfl; (try rw [h9]); clear h9; exact fun hf => (hd (by omega)).trans (congrArg some (by omega))) (by have h9 : v11350 39 = v11340 39 := hf11352 39 (by decide); rw [h9]; omega) (frC (by decide) hf11352 (frC (by decide) hf11342 (frU (by decide) hf_lp11279))) hI hF hP hS (lv_sub hl [1] rfl)
  obtain ⟨n9, hn9⟩ : ∃ n : Nat, 121 - (v11272 39).toInt ≤ (n : Int) := ⟨((121 - (v11272 39).toInt : Int)).toNat, by omega⟩
  exact lp11279 n9  v11272 F11273 H _ ls (by have h9 : v11272 39 = v11272 39 := rfl; (try rw [h9]); clear h9; have h9 : v11272 38 = v11272 38 := rfl; (try rw [h9]); clear h9; have h9 : v11272 41 = v11272 41 := rfl; (try rw [h9]); clear h9; have h9 : v11272 40 = v11272 40 := rfl; (try rw [h9]); clear h9; omega) hk (by have h9 : v11272 40 = v11272 40 := rfl; (try rw [h9]); clear h9; have h9 : v11272 38 = v11272 38 := rfl; (try rw [h9]); clear h9; exact fun hf => (hd (by omega)).trans (congrArg some (by omega))) (by have h9 : v11272 39 = v11272 39 := rfl; rw [h9]; omega) (fun _ _ => rfl) hI hF hP hS hl
