set_option maxHeartbeats 8000000 in
set_option maxRecDepth 100000 in
theorem c_X12_product (D : Int) (fr lc : Nat) (rO : RPM yX12_operand (Cond.code yX12_operand cX12_operand 2 none) (D + 1) fr lc) (rE : RPM yX12_either (Cond.code yX12_either cX12_either 2 none) (D + 1) (fr + 3) (lc + 120)) (l : Launch) (dC : Nat → ClassId) (dI : Nat → Nat → Nat) (g : Nat → Nat) (c : Nat → ClassId) (adK adV : Nat → Nat) (v : Nat → Int32) (F : Nat → Nat → Int32) (rc sz : Nat) (d : Nat) (hg : injM g) (hI : IM v F) (hq : (v 38).toInt ≤ (v 39).toInt ∧ (v 39).toInt ≤ (v 30).toInt ∧ (v 40).toInt < 0 ∧ (v 41).toInt = D) (hdp : dp (F 28) (F 29) (bI (v 37)) (v 38).toInt.toNat = some d) : Met l yX12_product (Cond.code yX12_product cX12_product 2 none :: wA) ({ frames := fr + 5, cells := 0, slots := 0, locals := lc + 200 }) (va_Pc [.ref (g 0)] (PM dC dI g c adK adV v F rc sz)) (va_Qv (fun (u : StM) => IM u.1 u.2.1 ∧ u.2.2 = rc ∧ (∀ k, k ∉ ([38, 39, 40, 41, 42] : List Nat) → u.1 k = v k) ∧ (∀ k, k ∉ ([28, 29] : List Nat) → u.2.1 k = F k) ∧ (((v 39).toInt ≤ (u.1 39).toInt ∧ (u.1 39).toInt ≤ (v 30).toInt ∧ (v 38).toInt ≤ (u.1 38).toInt ∧ (u.1 38).toInt - (v 38).toInt ≤ (u.1 39).toInt - (v 39).toInt ∧ (v 41).toInt ≤ (u.1 41).toInt ∧ ((u.1 40).toInt < 0 → (u.1 41).toInt = (v 41).toInt)) ∧ keepL (v 37) (F 28) (F 29) (u.2.1 28) (u.2.1 29) ∧ ((u.1 40).toInt < 0 → dp (u.2.1 28) (u.2.1 29) (bI (v 37)) (u.1 38).toInt.toNat = some (d + 1)))) (BM dC dI g c) (AM g sz)) 0 0 (AM g sz) := by
  refine Met.ofW (cc := cX12_product) (maxL := 2) (ret := none) (by decide) rfl ?_
  intro p e s m args below meth c0 s₁ B hml hv
  obtain ⟨rfl, hsz, hP, hK, hE⟩ := hv
  have hx := B.exec
  have hb := B.bytes
  have hr := B.returns
  have hts := atoms_spec (ws := Cond.code yX12_product cX12_product 2 none :: wA) B.pre
  have hwd : ∀ w ∈ wA, w.before _ s = true := fun w h => hts w (List.mem_cons_of_mem _ h)
  have hown : s.vm.findClass RX12 = some m.cls := findClass_of_methodNamed B.named
  have hlocks := B.notSynchronized
  subst hsz
  have hl := lv_entry ([.ref (g 0)]) (n := 2) (Nat.le_of_ble_eq_true rfl)
  rw [lg_entry_eq]
  generalize (lg_sl ([.ref (g 0)]) ++ List.replicate (2 - (lg_sl ([.ref (g 0)])).length) Slot.unset).toArray = ls at hl ⊢
  have hl : lv_has ls 2 [(0, .ref (g 0))] := hl
  obtain ⟨H, eH⟩ : ∃ z, z = s.heap := ⟨_, rfl⟩
  have hP : va_P (dC, dI) classes (wM g c v F rc) H := by rw [eH]; exact hP
  have hS : va_S (AM g s.heap.size) s.heap H [] := by rw [eH]; exact va_S.rf
  refine my_heap eH ?_
  have hF : ∀ k, k ∉ ([28, 29] : List Nat) → F k = F k := fun _ _ => rfl
  have hb30 : 0 ≤ (v 30).toInt ∧ (v 30).toInt ≤ 120 := hI.1 30 _ _ rfl
  have hb37 : 0 ≤ (v 37).toInt ∧ (v 37).toInt ≤ 9 := hI.1 37 _ _ rfl
  have hb38 : 0 ≤ (v 38).toInt ∧ (v 38).toInt ≤ 120 := hI.1 38 _ _ rfl
  have hb39 : 0 ≤ (v 39).toInt ∧ (v 39).toInt ≤ 120 := hI.1 39 _ _ rfl
  have hb41 : 0 ≤ (v 41).toInt ∧ (v 41).toInt ≤ 8 := hI.1 41 _ _ rfl
  have hk : keepL (v 37) (F 28) (F 29) (F 28) (F 29) := keepL.rf
  have hd : (v 40).toInt < 0 → dp (F 28) (F 29) (bI (v 37)) (v 38).toInt.toNat = some d := fun _ => hdp
  refine lv_aload_n hx hb dX12_product_0 rfl (lv_at hl 0 rfl) ?_
  have t8629 : 0 ≤ (v 30).toInt ∧ (v 30).toInt ≤ 120 := hI.1 30 _ _ rfl
  have t8630 : 0 ≤ (v 37).toInt ∧ (v 37).toInt ≤ 9 := hI.1 37 _ _ rfl
  have t8631 : 0 ≤ (v 38).toInt ∧ (v 38).toInt ≤ 120 := hI.1 38 _ _ rfl
  have t8632 : 0 ≤ (v 39).toInt ∧ (v 39).toInt ≤ 120 := hI.1 39 _ _ rfl
  have t8633 : 0 ≤ (v 41).toInt ∧ (v 41).toInt ≤ 8 := hI.1 41 _ _ rfl
  refine va_callv (va_runV (As := []) (rest := []) ⟨hx, hb, hml, hown, hwd⟩ (c_X12_operand D fr lc rO rE l dC dI g c adK adV v F rc H.size  d hg hI (by have h9 : v 38 = v 38 := rfl; (try rw [h9]); clear h9; have h9 : v 39 = v 39 := rfl; (try rw [h9]); clear h9; have h9 : v 30 = v 30 := rfl; (try rw [h9]); clear h9; have h9 : v 40 = v 40 := rfl; (try rw [h9]); clear h9; have h9 : v 41 = v 41 := rfl; (try rw [h9]); clear h9; omega) (by have h9 : v 37 = (v 37) := rfl; have h8 : v 38 = (v 38) := rfl; (try rw [h9]); (try rw [h8]); exact hd (by omega))) (cwV 0 hwd (gV wk_1030 wk_1035 wk_1036 wk_1037 wk_5) rfl rfl rfl (by decide +kernel) ⟨(by show fr + 4 + 1 ≤ fr + 5; omega), (by show 8 + (2 + 11) + (lc + 160) ≤ lc + 200; omega)⟩) ⟨PM.blind, va_recv hK hP (ci := 12) (q0 := 0) rfl rfl, fun U hU hW => ⟨rfl, PM.at hK hE hP hS hU hW⟩⟩ rfl rfl hl.1 rfl (lv_room (Nat.le_of_ble_eq_true rfl)) dX12_product_1 ⟨Nat.le_of_ble_eq_true rfl, Nat.le_of_ble_eq_true rfl⟩) hS (fun q _ h => (freeM hS) q h) (freeM hS) (fun u t H1 locs ht hvm hw hB hz1 hk1 hS => ?_)
  unfold BM at hB
  rw [ht] at hB
  obtain ⟨v8635, F8636, rc9⟩ := u
  obtain ⟨hI, hrc, hf8637, hG8638, hw⟩ := hw
  dsimp only at hI hrc hB hf8637 hG8638 hw
  have hF := frCF (by decide) hG8638 hF
  rw [hrc] at hB
  have hP : va_P (dC, dI) classes (wM g c v8635 F8636 rc) H1 := hB
  replace hw : ((v 39).toInt ≤ (v8635 39).toInt ∧ (v8635 39).toInt ≤ (v 30).toInt ∧ (v 38).toInt ≤ (v8635 38).toInt ∧ (v8635 38).toInt - (v 38).toInt ≤ (v8635 39).toInt - (v 39).toInt ∧ (v 41).toInt ≤ (v8635 41).toInt ∧ ((v8635 40).toInt < 0 → (v8635 41).toInt = (v 41).toInt)) ∧ keepL (v 37) (F 28) (F 29) (F8636 28) (F8636 29) ∧ ((v8635 40).toInt < 0 → dp (F8636 28) (F8636 29) (bI (v 37)) (v8635 38).toInt.toNat = some (d + 1)) := hw
  have hw_r8634 := hw
  clear hw
  have t8639 : 0 ≤ (v8635 38).toInt ∧ (v8635 38).toInt ≤ 120 := hI.1 38 _ _ rfl
  have t8640 : 0 ≤ (v8635 39).toInt ∧ (v8635 39).toInt ≤ 120 := hI.1 39 _ _ rfl
  have t8641 : 0 ≤ (v8635 41).toInt ∧ (v8635 41).toInt ≤ 8 := hI.1 41 _ _ rfl
  clear hz1
  generalize H1 = H at hP hS ⊢
  replace hk := hk.tr hw_r8634.2.1
  replace hd := hw_r8634.2.2
  replace hw_r8634 := hw_r8634.1
  have lp8642 : ∀ (n : Nat) (v_lp8642 : Nat → Int32) (F_lp8642 : Nat → Nat → Int32) (H : Heap) (locs : List Loc) (ls : Array Slot), ((v 39).toInt ≤ (v_lp8642 39).toInt ∧ (v_lp8642 39).toInt ≤ (v 30).toInt ∧ (v 38).toInt ≤ (v_lp8642 38).toInt ∧ (v_lp8642 38).toInt - (v 38).toInt ≤ (v_lp8642 39).toInt - (v 39).toInt ∧ (v 41).toInt ≤ (v_lp8642 41).toInt ∧ ((v_lp8642 40).toInt < 0 → (v_lp8642 41).toInt = (v 41).toInt)) → (keepL (v 37) (F 28) (F 29) (F_lp8642 28) (F_lp8642 29)) → (((v_lp8642 40).toInt < 0 → dp (F_lp8642 28) (F_lp8642 29) (bI (v 37)) (v_lp8642 38).toInt.toNat = some (d + 1))) → (121 - (v_lp8642 39).toInt ≤ (n : Int)) → (∀ k, k ∉ ([38, 39, 40, 41, 42] : List Nat) → v_lp8642 k = v8635 k) → IM v_lp8642 F_lp8642 → (∀ k, k ∉ ([28, 29] : List Nat) → F_lp8642 k = F k) → va_P (dC, dI) classes (wM g c v_lp8642 F_lp8642 rc) H → va_S (AM g s.heap.size) s.heap H locs → lv_has ls 2 [(0, .ref (g 0))] → W p l e (headSpec (Cond.code yX12_product cX12_product 2 none :: wA) ({ frames := fr + 5, cells := 0, slots := 0, locals := lc + 200 })).room s m ([.ref (g 0)] : List Value).toArray below meth c0 H locs 0 0 (MQ below (va_Qv (fun (u : StM) => IM u.1 u.2.1 ∧ u.2.2 = rc ∧ (∀ k, k ∉ ([38, 39, 40, 41, 42] : List Nat) → u.1 k = v k) ∧ (∀ k, k ∉ ([28, 29] : List Nat) → u.2.1 k = F k) ∧ (((v 39).toInt ≤ (u.1 39).toInt ∧ (u.1 39).toInt ≤ (v 30).toInt ∧ (v 38).toInt ≤ (u.1 38).toInt ∧ (u.1 38).toInt - (v 38).toInt ≤ (u.1 39).toInt - (v 39).toInt ∧ (v 41).toInt ≤ (u.1 41).toInt ∧ ((u.1 40).toInt < 0 → (u.1 41).toInt = (v 41).toInt)) ∧ keepL (v 37) (F 28) (F 29) (u.2.1 28) (u.2.1 29) ∧ ((u.1 40).toInt < 0 → dp (u.2.1 28) (u.2.1 29) (bI (v 37)) (u.1 38).toInt.toNat = some (d + 1)))) (BM dC dI g c) (AM g s.heap.size)) ([.ref (g 0)] : List Value).toArray s 0 0 (AM g s.heap.size)) (F0 m 4 ls []) := by
    intro n
    induction n with
    | zero =>
      intro v_lp8642 F_lp8642 H locs ls t8643 t8644 t8645 hm hf_lp8642 hI hF hP hS hl
      exfalso
      have hI1 := hI.1
      omega
    | succ n ih_lp8642 =>
      intro v_lp8642 F_lp8642 H locs ls t8643 t8644 t8645 hm hf_lp8642 hI hF hP hS hl
      clear hk hd
      have hk := t8644
      have hd := t8645
      clear t8644 t8645
      refine lv_aload_n hx hb dX12_product_4 rfl (lv_at hl 0 rfl) ?_
      refine va_get (D := (dC, dI)) (ci := 12) (v := .int (v_lp8642 40)) (C := RX12) (T := TX12) (N := 63) hx hb hwd inA_X12 hown hK hP 0 rfl rfl 40 (by decide) (hwd _ wk_1005) (fun _ h9 => h9) rfl dX12_product_5 ?_
      refine lv_if_ge (tgt := 57) hx hb dX12_product_8 (by decide) (fun c8646 => ?_) (fun c8646 => ?_)
      · skip
        have t8647 := cv_le (a := 0) (by decide) (b := (v_lp8642 40).toInt) rfl c8646
        have hP9 : va_P (dC, dI) classes (wM g c v_lp8642 F_lp8642 rc) H := hP
        exact W.vret hx hb hr (fun t ht hW => ⟨⟨(v_lp8642, F_lp8642, rc), rfl, ⟨hI, rfl, (frC (by decide) hf_lp8642 (frC (by decide) hf8637 (fun _ _ => rfl))), hF, (by show ((v 39).toInt ≤ (v_lp8642 39).toInt ∧ (v_lp8642 39).toInt ≤ (v 30).toInt ∧ (v 38).toInt ≤ (v_lp8642 38).toInt ∧ (v_lp8642 38).toInt - (v 38).toInt ≤ (v_lp8642 39).toInt - (v 39).toInt ∧ (v 41).toInt ≤ (v_lp8642 41).toInt ∧ ((v_lp8642 40).toInt < 0 → (v_lp8642 41).toInt = (v 41).toInt)) ∧ keepL (v 37) (F 28) (F 29) (F_lp8642 28) (F_lp8642 29) ∧ ((v_lp8642 40).toInt < 0 → dp (F_lp8642 28) (F_lp8642 29) (bI (v 37)) (v_lp8642 38).toInt.toNat = some (d + 1)); exact ⟨by omega, hk, fun hf => (hd (by omega)).trans (congrArg some (by omega))⟩)⟩, (by show va_P _ _ _ t.heap; rw [ht]; exact hP9)⟩, hS.F ht⟩) hS.2.2 dX12_product_57
      · skip
        have t8648 := cv_nle (a := 0) (by decide) (b := (v_lp8642 40).toInt) rfl c8646
        refine lv_aload_n hx hb dX12_product_11 rfl (lv_at hl 0 rfl) ?_
        have t8649 : 0 ≤ (v 30).toInt ∧ (v 30).toInt ≤ 120 := by have h9 := hI.1 30 _ _ rfl; rw [show v_lp8642 30 = v 30 from (hf_lp8642 30 (by decide)).trans (hf8637 30 (by decide))] at h9; exact h9
        have t8650 : 0 ≤ (v_lp8642 39).toInt ∧ (v_lp8642 39).toInt ≤ 120 := hI.1 39 _ _ rfl
        refine va_calli (va_runV (As := []) (rest := []) ⟨hx, hb, hml, hown, hwd⟩ (c_X12_look l dC dI g c adK adV v_lp8642 F_lp8642 rc H.size  hg hI ) (cwV 0 hwd (gV wk_1017 wk_1014 wk_1015 wk_1016 wk_5) rfl rfl rfl (by decide +kernel) ⟨(by show 1 + 1 ≤ fr + 5; omega), (by show 8 + (1 + 11) + (40) ≤ lc + 200; omega)⟩) ⟨PM.blind, va_recv hK hP (ci := 12) (q0 := 0) rfl rfl, fun U hU hW => ⟨rfl, PM.at hK hE hP hS hU hW⟩⟩ rfl rfl hl.1 rfl (lv_room (Nat.le_of_ble_eq_true rfl)) dX12_product_12 ⟨Nat.le_of_ble_eq_true rfl, Nat.le_of_ble_eq_true rfl⟩) hS (fun q _ h => (freeM hS) q h) (freeM hS) (fun r8651 u t H1 locs ht hvm hw hB hz1 hk1 hS => ?_)
        unfold BM at hB
        rw [ht] at hB
        have hP : va_P (dC, dI) classes (wM g c v_lp8642 F_lp8642 rc) H1 := hB
        replace hw : r8651.toInt = lkM (v_lp8642 39) (v_lp8642 30) (F_lp8642 24) ∧ ((v_lp8642 39).toInt < (v_lp8642 30).toInt ∨ r8651.toInt = -1) := hw
        rw [show v_lp8642 30 = v 30 from (hf_lp8642 30 (by decide)).trans (hf8637 30 (by decide))] at hw
        rw [hF 24 (by decide)] at hw
        have hw_r8651 := hw
        clear hw
        clear hz1
        generalize H1 = H at hP hS ⊢
        refine lv_bipush (v := 42) hx hb dX12_product_15 (by decide) ?_
        refine lv_icmp_eq (tgt := 29) hx hb dX12_product_17 (by decide) (fun c8652 => ?_) (fun c8652 => ?_)
        · skip
          have t8653 := cv_eq (a := r8651.toInt) rfl (b := 42) (by decide) c8652
          refine lv_aload_n hx hb dX12_product_29 rfl (lv_at hl 0 rfl) ?_
          have t8654 : 0 ≤ (v 30).toInt ∧ (v 30).toInt ≤ 120 := by have h9 := hI.1 30 _ _ rfl; rw [show v_lp8642 30 = v 30 from (hf_lp8642 30 (by decide)).trans (hf8637 30 (by decide))] at h9; exact h9
          have t8655 : 0 ≤ (v_lp8642 39).toInt ∧ (v_lp8642 39).toInt ≤ 120 := hI.1 39 _ _ rfl
          refine va_calli (va_runV (As := []) (rest := []) ⟨hx, hb, hml, hown, hwd⟩ (c_X12_look l dC dI g c adK adV v_lp8642 F_lp8642 rc H.size  hg hI ) (cwV 0 hwd (gV wk_1017 wk_1014 wk_1015 wk_1016 wk_5) rfl rfl rfl (by decide +kernel) ⟨(by show 1 + 1 ≤ fr + 5; omega), (by show 8 + (1 + 11) + (40) ≤ lc + 200; omega)⟩) ⟨PM.blind, va_recv hK hP (ci := 12) (q0 := 0) rfl rfl, fun U hU hW => ⟨rfl, PM.at hK hE hP hS hU hW⟩⟩ rfl rfl hl.1 rfl (lv_room (Nat.le_of_ble_eq_true rfl)) dX12_product_30 ⟨Nat.le_of_ble_eq_true rfl, Nat.le_of_ble_eq_true rfl⟩) hS (fun q _ h => (freeM hS) q h) (freeM hS) (fun r8656 u t H1 locs ht hvm hw hB hz1 hk1 hS => ?_)
          unfold BM at hB
          rw [ht] at hB
          have hP : va_P (dC, dI) classes (wM g c v_lp8642 F_lp8642 rc) H1 := hB
          replace hw : r8656.toInt = lkM (v_lp8642 39) (v_lp8642 30) (F_lp8642 24) ∧ ((v_lp8642 39).toInt < (v_lp8642 30).toInt ∨ r8656.toInt = -1) := hw
          rw [show v_lp8642 30 = v 30 from (hf_lp8642 30 (by decide)).trans (hf8637 30 (by decide))] at hw
          rw [hF 24 (by decide)] at hw
          have hw_r8656 := hw
          clear hw
          clear hz1
          generalize H1 = H at hP hS ⊢
          refine lv_istore_n (lv' := [(1, .int r8656), (0, .ref (g 0))]) hx hb dX12_product_33 rfl hl (by decide) rfl (fun ls hl => ?_)
          refine lv_aload_n hx hb dX12_product_34 rfl (lv_at hl 1 rfl) ?_
          refine lv_dup hx hb dX12_product_35 rfl ?_
          refine va_get (D := (dC, dI)) (ci := 12) (v := .int (v_lp8642 39)) (C := RX12) (T := TX12) (N := 63) hx hb hwd inA_X12 hown hK hP 0 rfl rfl 39 (by decide) (hwd _ wk_1004) (fun _ h9 => h9) rfl dX12_product_36 ?_
          have t8657 : 0 ≤ (v_lp8642 39).toInt ∧ (v_lp8642 39).toInt ≤ 120 := hI.1 39 _ _ rfl
          refine lv_iconst (v := 1) hx hb dX12_product_39 (by decide) ?_
          refine lv_iadd hx hb dX12_product_40 ?_
          refine lv_topi (fun z8658 e8659 => ?_)
          try (have t8660 := tadd e8659 (a := (v_lp8642 39).toInt) rfl (b := 1) (by decide) (by omega))
          refine va_put (D := (dC, dI)) (ci := 12) (v := .int z8658) (ty := .int) (C := RX12) (T := TX12) (N := 63) (fs := fsM_0 g v_lp8642 rc) hx hb hwd inA_X12 tyX12 tyX12_ok nmX12 hown hK hP (DM hg) hS 0 rfl rfl 39 (by decide) (hwd _ wk_1004) (fun _ h9 => h9) rfl (by decide +kernel) rfl rfl (Nat.le_of_ble_eq_true rfl) dX12_product_41 (fun H locs hP _ hS => ?_)
          have hP := va_P_eq (pM_39 g c _ _ _ _) hP
          have hI := IM.put hI 39 z8658 rfl (by omega)
          refine lv_aload_n hx hb dX12_product_44 rfl (lv_at hl 1 rfl) ?_
          have t8661 : 0 ≤ (v 30).toInt ∧ (v 30).toInt ≤ 120 := by have h9 := hI.1 30 _ _ rfl; rw [show (va_up v_lp8642 39 z8658) 30 = v 30 from (hf_lp8642 30 (by decide)).trans (hf8637 30 (by decide))] at h9; exact h9
          have t8662 : 0 ≤ (v 37).toInt ∧ (v 37).toInt ≤ 9 := by have h9 := hI.1 37 _ _ rfl; rw [show (va_up v_lp8642 39 z8658) 37 = v 37 from (hf_lp8642 37 (by decide)).trans (hf8637 37 (by decide))] at h9; exact h9
          have t8663 : 0 ≤ (v_lp8642 38).toInt ∧ (v_lp8642 38).toInt ≤ 120 := hI.1 38 _ _ rfl
          have t8664 : 0 ≤ z8658.toInt ∧ z8658.toInt ≤ 120 := hI.1 39 _ _ rfl
          have t8665 : 0 ≤ (v_lp8642 41).toInt ∧ (v_lp8642 41).toInt ≤ 8 := hI.1 41 _ _ rfl
          refine va_callv (va_runV (As := []) (rest := []) ⟨hx, hb, hml, hown, hwd⟩ (c_X12_operand D fr lc rO rE l dC dI g c adK adV (va_up v_lp8642 39 z8658) F_lp8642 rc H.size  (d + 1) hg hI (by have h9 : (va_up v_lp8642 39 z8658) 38 = v_lp8642 38 := rfl; (try rw [h9]); clear h9; have h9 : (va_up v_lp8642 39 z8658) 39 = z8658 := rfl; (try rw [h9]); clear h9; have h9 : (va_up v_lp8642 39 z8658) 30 = v 30 := (hf_lp8642 30 (by decide)).trans (hf8637 30 (by decide)); (try rw [h9]); clear h9; have h9 : (va_up v_lp8642 39 z8658) 40 = v_lp8642 40 := rfl; (try rw [h9]); clear h9; have h9 : (va_up v_lp8642 39 z8658) 41 = v_lp8642 41 := rfl; (try rw [h9]); clear h9; omega) (by have h9 : (va_up v_lp8642 39 z8658) 37 = (v 37) := (hf_lp8642 37 (by decide)).trans (hf8637 37 (by decide)); have h8 : (va_up v_lp8642 39 z8658) 38 = (v_lp8642 38) := rfl; (try rw [h9]); (try rw [h8]); exact hd (by omega))) (cwV 0 hwd (gV wk_1030 wk_1035 wk_1036 wk_1037 wk_5) rfl rfl rfl (by decide +kernel) ⟨(by show fr + 4 + 1 ≤ fr + 5; omega), (by show 8 + (2 + 11) + (lc + 160) ≤ lc + 200; omega)⟩) ⟨PM.blind, va_recv hK hP (ci := 12) (q0 := 0) rfl rfl, fun U hU hW => ⟨rfl, PM.at hK hE hP hS hU hW⟩⟩ rfl rfl hl.1 rfl (lv_room (Nat.le_of_ble_eq_true rfl)) dX12_product_45 ⟨Nat.le_of_ble_eq_true rfl, Nat.le_of_ble_eq_true rfl⟩) hS (fun q _ h => (freeM hS) q h) (freeM hS) (fun u t H1 locs ht hvm hw hB hz1 hk1 hS => ?_)
          unfold BM at hB
          rw [ht] at hB
          obtain ⟨v8667, F8668, rc9⟩ := u
          obtain ⟨hI, hrc, hf8669, hG8670, hw⟩ := hw
          dsimp only at hI hrc hB hf8669 hG8670 hw
          have hF := frCF (by decide) hG8670 hF
          rw [hrc] at hB
          have hP : va_P (dC, dI) classes (wM g c v8667 F8668 rc) H1 := hB
          replace hw : (z8658.toInt ≤ (v8667 39).toInt ∧ (v8667 39).toInt ≤ ((va_up v_lp8642 39 z8658) 30).toInt ∧ (v_lp8642 38).toInt ≤ (v8667 38).toInt ∧ (v8667 38).toInt - (v_lp8642 38).toInt ≤ (v8667 39).toInt - z8658.toInt ∧ (v_lp8642 41).toInt ≤ (v8667 41).toInt ∧ ((v8667 40).toInt < 0 → (v8667 41).toInt = (v_lp8642 41).toInt)) ∧ keepL ((va_up v_lp8642 39 z8658) 37) (F_lp8642 28) (F_lp8642 29) (F8668 28) (F8668 29) ∧ ((v8667 40).toInt < 0 → dp (F8668 28) (F8668 29) (bI ((va_up v_lp8642 39 z8658) 37)) (v8667 38).toInt.toNat = some ((d + 1) + 1)) := hw
          rw [show (va_up v_lp8642 39 z8658) 30 = v 30 from (hf_lp8642 30 (by decide)).trans (hf8637 30 (by decide))] at hw
          rw [show (va_up v_lp8642 39 z8658) 37 = v 37 from (hf_lp8642 37 (by decide)).trans (hf8637 37 (by decide))] at hw
          have hw_r8666 := hw
          clear hw
          have t8671 : 0 ≤ (v8667 38).toInt ∧ (v8667 38).toInt ≤ 120 := hI.1 38 _ _ rfl
          have t8672 : 0 ≤ (v8667 39).toInt ∧ (v8667 39).toInt ≤ 120 := hI.1 39 _ _ rfl
          have t8673 : 0 ≤ (v8667 41).toInt ∧ (v8667 41).toInt ≤ 8 := hI.1 41 _ _ rfl
          clear hz1
          generalize H1 = H at hP hS ⊢
          replace hk := hk.tr hw_r8666.2.1
          replace hd := hw_r8666.2.2
          replace hw_r8666 := hw_r8666.1
          refine lv_aload_n hx hb dX12_product_48 rfl (lv_at hl 1 rfl) ?_
          refine lv_iload_n hx hb dX12_product_49 rfl (lv_at hl 0 rfl) ?_
          refine lv_iconst (v := 0) hx hb dX12_product_50 (by decide) ?_
          have t8674 : 0 ≤ (v 37).toInt ∧ (v 37).toInt ≤ 9 := by have h9 := hI.1 37 _ _ rfl; rw [show v8667 37 = v 37 from (hf8669 37 (by decide)).trans ((hf_lp8642 37 (by decide)).trans (hf8637 37 (by decide)))] at h9; exact h9
          have t8675 : 0 ≤ (v8667 38).toInt ∧ (v8667 38).toInt ≤ 120 := hI.1 38 _ _ rfl
          refine va_callv (va_runV (As := [.int r8656, .int 0]) (rest := []) ⟨hx, hb, hml, hown, hwd⟩ (c_X12_lay l dC dI g c adK adV v8667 F8668 rc H.size r8656 0 hg hI (by have h9 : v8667 38 = v8667 38 := rfl; rw [h9]; omega)) (cwV 2 hwd (gV wk_1021 wk_1018 wk_1019 wk_1020 wk_5) rfl rfl rfl (by decide +kernel) ⟨(by show 1 + 1 ≤ fr + 5; omega), (by show 8 + (3 + 11) + (40) ≤ lc + 200; omega)⟩) ⟨PM.blind, va_recv hK hP (ci := 12) (q0 := 0) rfl rfl, fun U hU hW => ⟨rfl, PM.at hK hE hP hS hU hW⟩⟩ rfl rfl hl.1 rfl (lv_room (Nat.le_of_ble_eq_true rfl)) dX12_product_51 ⟨Nat.le_of_ble_eq_true rfl, Nat.le_of_ble_eq_true rfl⟩) hS (fun q _ h => (freeM hS) q h) (freeM hS) (fun u t H1 locs ht hvm hw hB hz1 hk1 hS => ?_)
          unfold BM at hB
          rw [ht] at hB
          obtain ⟨v8677, F8678, rc9⟩ := u
          obtain ⟨hI, hrc, hf8679, hG8680, hw⟩ := hw
          dsimp only at hI hrc hB hf8679 hG8680 hw
          have hF := frCF (by decide) hG8680 hF
          rw [hrc] at hB
          have hP : va_P (dC, dI) classes (wM g c v8677 F8678 rc) H1 := hB
          replace hw : (v8677 38).toInt = (v8667 38).toInt + 1 ∧ keepL (v8667 37) (F8668 28) (F8668 29) (F8678 28) (F8678 29) ∧ dp (F8678 28) (F8678 29) (bI (v8667 37)) ((v8667 38).toInt.toNat + 1) = dpS (dp (F8668 28) (F8668 29) (bI (v8667 37)) (v8667 38).toInt.toNat) r8656 (0 : Int32) := hw
          rw [show v8667 37 = v 37 from (hf8669 37 (by decide)).trans ((hf_lp8642 37 (by decide)).trans (hf8637 37 (by decide)))] at hw
          have hw_r8676 := hw
          clear hw
          have t8681 : 0 ≤ (v8677 38).toInt ∧ (v8677 38).toInt ≤ 120 := hI.1 38 _ _ rfl
          have k8682 : (0 : Int32).toInt = 0 := by decide
          clear hz1
          generalize H1 = H at hP hS ⊢
          replace hk := hk.tr hw_r8676.2.1
          replace hd : (v8667 40).toInt < 0 → dp (F8678 28) (F8678 29) (bI (v 37)) (v8677 38).toInt.toNat = some (((d + 1) + 1) - 1) := fun hf => (by have e9 : (v8677 38).toInt.toNat = (v8667 38).toInt.toNat + 1 := (by omega); rw [e9, hw_r8676.2.2, hd hf]; exact dpS_5 (by omega) (by omega) (by omega) (by omega) (by omega))
          replace hw_r8676 := hw_r8676.1
          refine lv_goto (tgt := 4) hx hb dX12_product_54 (by decide) ?_
          exact ih_lp8642  v8677 F8678 _ _ _ (by have h9 : v8677 39 = v8667 39 := hf8679 39 (by decide); (try rw [h9]); clear h9; have h9 : v8677 38 = v8677 38 := rfl; (try rw [h9]); clear h9; have h9 : v8677 41 = v8667 41 := hf8679 41 (by decide); (try rw [h9]); clear h9; have h9 : v8677 40 = v8667 40 := hf8679 40 (by decide); (try rw [h9]); clear h9; omega) hk (by have h9 : v8677 40 = v8667 40 := hf8679 40 (by decide); (try rw [h9]); clear h9; have h9 : v8677 38 = v8677 38 := rfl; (try rw [h9]); clear h9; exact fun hf => (hd (by omega)).trans (congrArg some (by omega))) (by have h9 : v8677 39 = v8667 39 := hf8679 39 (by decide); rw [h9]; omega) (frC (by decide) hf8679 (frC (by decide) hf8669 (frU (by decide) hf_lp8642))) hI hF hP hS (lv_sub hl [1] rfl)
        · skip
          have t8683 := cv_ne (a := r8651.toInt) rfl (b := 42) (by decide) c8652
          refine lv_aload_n hx hb dX12_product_20 rfl (lv_at hl 0 rfl) ?_
          have t8684 : 0 ≤ (v 30).toInt ∧ (v 30).toInt ≤ 120 := by have h9 := hI.1 30 _ _ rfl; rw [show v_lp8642 30 = v 30 from (hf_lp8642 30 (by decide)).trans (hf8637 30 (by decide))] at h9; exact h9
          have t8685 : 0 ≤ (v_lp8642 39).toInt ∧ (v_lp8642 39).toInt ≤ 120 := hI.1 39 _ _ rfl
          refine va_calli (va_runV (As := []) (rest := []) ⟨hx, hb, hml, hown, hwd⟩ (c_X12_look l dC dI g c adK adV v_lp8642 F_lp8642 rc H.size  hg hI ) (cwV 0 hwd (gV wk_1017 wk_1014 wk_1015 wk_1016 wk_5) rfl rfl rfl (by decide +kernel) ⟨(by show 1 + 1 ≤ fr + 5; omega), (by show 8 + (1 + 11) + (40) ≤ lc + 200; omega)⟩) ⟨PM.blind, va_recv hK hP (ci := 12) (q0 := 0) rfl rfl, fun U hU hW => ⟨rfl, PM.at hK hE hP hS hU hW⟩⟩ rfl rfl hl.1 rfl (lv_room (Nat.le_of_ble_eq_true rfl)) dX12_product_21 ⟨Nat.le_of_ble_eq_true rfl, Nat.le_of_ble_eq_true rfl⟩) hS (fun q _ h => (freeM hS) q h) (freeM hS) (fun r8686 u t H1 locs ht hvm hw hB hz1 hk1 hS => ?_)
          unfold BM at hB
          rw [ht] at hB
          have hP : va_P (dC, dI) classes (wM g c v_lp8642 F_lp8642 rc) H1 := hB
          replace hw : r8686.toInt = lkM (v_lp8642 39) (v_lp8642 30) (F_lp8642 24) ∧ ((v_lp8642 39).toInt < (v_lp8642 30).toInt ∨ r8686.toInt = -1) := hw
          rw [show v_lp8642 30 = v 30 from (hf_lp8642 30 (by decide)).trans (hf8637 30 (by decide))] at hw
          rw [hF 24 (by decide)] at hw
          have hw_r8686 := hw
          clear hw
          clear hz1
          generalize H1 = H at hP hS ⊢
          refine lv_bipush (v := 47) hx hb dX12_product_24 (by decide) ?_
          refine lv_icmp_ne (tgt := 57) hx hb dX12_product_26 (by decide) (fun c8687 => ?_) (fun c8687 => ?_)
          · skip
            have t8688 := cv_ne (a := r8686.toInt) rfl (b := 47) (by decide) c8687
            have hP9 : va_P (dC, dI) classes (wM g c v_lp8642 F_lp8642 rc) H := hP
            exact W.vret hx hb hr (fun t ht hW => ⟨⟨(v_lp8642, F_lp8642, rc), rfl, ⟨hI, rfl, (frC (by decide) hf_lp8642 (frC (by decide) hf8637 (fun _ _ => rfl))), hF, (by show ((v 39).toInt ≤ (v_lp8642 39).toInt ∧ (v_lp8642 39).toInt ≤ (v 30).toInt ∧ (v 38).toInt ≤ (v_lp8642 38).toInt ∧ (v_lp8642 38).toInt - (v 38).toInt ≤ (v_lp8642 39).toInt - (v 39).toInt ∧ (v 41).toInt ≤ (v_lp8642 41).toInt ∧ ((v_lp8642 40).toInt < 0 → (v_lp8642 41).toInt = (v 41).toInt)) ∧ keepL (v 37) (F 28) (F 29) (F_lp8642 28) (F_lp8642 29) ∧ ((v_lp8642 40).toInt < 0 → dp (F_lp8642 28) (F_lp8642 29) (bI (v 37)) (v_lp8642 38).toInt.toNat = some (d + 1)); exact ⟨by omega, hk, fun hf => (hd (by omega)).trans (congrArg some (by omega))⟩)⟩, (by show va_P _ _ _ t.heap; rw [ht]; exact hP9)⟩, hS.F ht⟩) hS.2.2 dX12_product_57
          · skip
            have t8689 := cv_eq (a := r8686.toInt) rfl (b := 47) (by decide) c8687
            refine lv_aload_n hx hb dX12_product_29 rfl (lv_at hl 0 rfl) ?_
            have t8690 : 0 ≤ (v 30).toInt ∧ (v 30).toInt ≤ 120 := by have h9 := hI.1 30 _ _ rfl; rw [show v_lp8642 30 = v 30 from (hf_lp8642 30 (by decide)).trans (hf8637 30 (by decide))] at h9; exact h9
            have t8691 : 0 ≤ (v_lp8642 39).toInt ∧ (v_lp8642 39).toInt ≤ 120 := hI.1 39 _ _ rfl
            refine va_calli (va_runV (As := []) (rest := []) ⟨hx, hb, hml, hown, hwd⟩ (c_X12_look l dC dI g c adK adV v_lp8642 F_lp8642 rc H.size  hg hI ) (cwV 0 hwd (gV wk_1017 wk_1014 wk_1015 wk_1016 wk_5) rfl rfl rfl (by decide +kernel) ⟨(by show 1 + 1 ≤ fr + 5; omega), (by show 8 + (1 + 11) + (40) ≤ lc + 200; omega)⟩) ⟨PM.blind, va_recv hK hP (ci := 12) (q0 := 0) rfl rfl, fun U hU hW => ⟨rfl, PM.at hK hE hP hS hU hW⟩⟩ rfl rfl hl.1 rfl (lv_room (Nat.le_of_ble_eq_true rfl)) dX12_product_30 ⟨Nat.le_of_ble_eq_true rfl, Nat.le_of_ble_eq_true rfl⟩) hS (fun q _ h => (freeM hS) q h) (freeM hS) (fun r8692 u t H1 locs ht hvm hw hB hz1 hk1 hS => ?_)
            unfold BM at hB
            rw [ht] at hB
            have hP : va_P (dC, dI) classes (wM g c v_lp8642 F_lp8642 rc) H1 := hB
            replace hw : r8692.toInt = lkM (v_lp8642 39) (v_lp8642 30) (F_lp8642 24) ∧ ((v_lp8642 39).toInt < (v_lp8642 30).toInt ∨ r8692.toInt = -1) := hw
            rw [show v_lp8642 30 = v 30 from (hf_lp8642 30 (by decide)).trans (hf8637 30 (by decide))] at hw
            rw [hF 24 (by decide)] at hw
            have hw_r8692 := hw
            clear hw
            clear hz1
            generalize H1 = H at hP hS ⊢
            refine lv_istore_n (lv' := [(1, .int r8692), (0, .ref (g 0))]) hx hb dX12_product_33 rfl hl (by decide) rfl (fun ls hl => ?_)
            refine lv_aload_n hx hb dX12_product_34 rfl (lv_at hl 1 rfl) ?_
            refine lv_dup hx hb dX12_product_35 rfl ?_
            refine va_get (D := (dC, dI)) (ci := 12) (v := .int (v_lp8642 39)) (C := RX12) (T := TX12) (N := 63) hx hb hwd inA_X12 hown hK hP 0 rfl rfl 39 (by decide) (hwd _ wk_1004) (fun _ h9 => h9) rfl dX12_product_36 ?_
            have t8693 : 0 ≤ (v_lp8642 39).toInt ∧ (v_lp8642 39).toInt ≤ 120 := hI.1 39 _ _ rfl
            refine lv_iconst (v := 1) hx hb dX12_product_39 (by decide) ?_
            refine lv_iadd hx hb dX12_product_40 ?_
            refine lv_topi (fun z8694 e8695 => ?_)
            try (have t8696 := tadd e8695 (a := (v_lp8642 39).toInt) rfl (b := 1) (by decide) (by omega))
            refine va_put (D := (dC, dI)) (ci := 12) (v := .int z8694) (ty := .int) (C := RX12) (T := TX12) (N := 63) (fs := fsM_0 g v_lp8642 rc) hx hb hwd inA_X12 tyX12 tyX12_ok nmX12 hown hK hP (DM hg) hS 0 rfl rfl 39 (by decide) (hwd _ wk_1004) (fun _ h9 => h9) rfl (by decide +kernel) rfl rfl (Nat.le_of_ble_eq_true rfl) dX12_product_41 (fun H locs hP _ hS => ?_)
            have hP := va_P_eq (pM_39 g c _ _ _ _) hP
            have hI := IM.put hI 39 z8694 rfl (by omega)
            refine lv_aload_n hx hb dX12_product_44 rfl (lv_at hl 1 rfl) ?_
            have t8697 : 0 ≤ (v 30).toInt ∧ (v 30).toInt ≤ 120 := by have h9 := hI.1 30 _ _ rfl; rw [show (va_up v_lp8642 39 z8694) 30 = v 30 from (hf_lp8642 30 (by decide)).trans (hf8637 30 (by decide))] at h9; exact h9
            have t8698 : 0 ≤ (v 37).toInt ∧ (v 37).toInt ≤ 9 := by have h9 := hI.1 37 _ _ rfl; rw [show (va_up v_lp8642 39 z8694) 37 = v 37 from (hf_lp8642 37 (by decide)).trans (hf8637 37 (by decide))] at h9; exact h9
            have t8699 : 0 ≤ (v_lp8642 38).toInt ∧ (v_lp8642 38).toInt ≤ 120 := hI.1 38 _ _ rfl
            have t8700 : 0 ≤ z8694.toInt ∧ z8694.toInt ≤ 120 := hI.1 39 _ _ rfl
            have t8701 : 0 ≤ (v_lp8642 41).toInt ∧ (v_lp8642 41).toInt ≤ 8 := hI.1 41 _ _ rfl
            refine va_callv (va_runV (As := []) (rest := []) ⟨hx, hb, hml, hown, hwd⟩ (c_X12_operand D fr lc rO rE l dC dI g c adK adV (va_up v_lp8642 39 z8694) F_lp8642 rc H.size  (d + 1) hg hI (by have h9 : (va_up v_lp8642 39 z8694) 38 = v_lp8642 38 := rfl; (try rw [h9]); clear h9; have h9 : (va_up v_lp8642 39 z8694) 39 = z8694 := rfl; (try rw [h9]); clear h9; have h9 : (va_up v_lp8642 39 z8694) 30 = v 30 := (hf_lp8642 30 (by decide)).trans (hf8637 30 (by decide)); (try rw [h9]); clear h9; have h9 : (va_up v_lp8642 39 z8694) 40 = v_lp8642 40 := rfl; (try rw [h9]); clear h9; have h9 : (va_up v_lp8642 39 z8694) 41 = v_lp8642 41 := rfl; (try rw [h9]); clear h9; omega) (by have h9 : (va_up v_lp8642 39 z8694) 37 = (v 37) := (hf_lp8642 37 (by decide)).trans (hf8637 37 (by decide)); have h8 : (va_up v_lp8642 39 z8694) 38 = (v_lp8642 38) := rfl; (try rw [h9]); (try rw [h8]); exact hd (by omega))) (cwV 0 hwd (gV wk_1030 wk_1035 wk_1036 wk_1037 wk_5) rfl rfl rfl (by decide +kernel) ⟨(by show fr + 4 + 1 ≤ fr + 5; omega), (by show 8 + (2 + 11) + (lc + 160) ≤ lc + 200; omega)⟩) ⟨PM.blind, va_recv hK hP (ci := 12) (q0 := 0) rfl rfl, fun U hU hW => ⟨rfl, PM.at hK hE hP hS hU hW⟩⟩ rfl rfl hl.1 rfl (lv_room (Nat.le_of_ble_eq_true rfl)) dX12_product_45 ⟨Nat.le_of_ble_eq_true rfl, Nat.le_of_ble_eq_true rfl⟩) hS (fun q _ h => (freeM hS) q h) (freeM hS) (fun u t H1 locs ht hvm hw hB hz1 hk1 hS => ?_)
            unfold BM at hB
            rw [ht] at hB
            obtain ⟨v8703, F8704, rc9⟩ := u
            obtain ⟨hI, hrc, hf8705, hG8706, hw⟩ := hw
            dsimp only at hI hrc hB hf8705 hG8706 hw
            have hF := frCF (by decide) hG8706 hF
            rw [hrc] at hB
            have hP : va_P (dC, dI) classes (wM g c v8703 F8704 rc) H1 := hB
            replace hw : (z8694.toInt ≤ (v8703 39).toInt ∧ (v8703 39).toInt ≤ ((va_up v_lp8642 39 z8694) 30).toInt ∧ (v_lp8642 38).toInt ≤ (v8703 38).toInt ∧ (v8703 38).toInt - (v_lp8642 38).toInt ≤ (v8703 39).toInt - z8694.toInt ∧ (v_lp8642 41).toInt ≤ (v8703 41).toInt ∧ ((v8703 40).toInt < 0 → (v8703 41).toInt = (v_lp8642 41).toInt)) ∧ keepL ((va_up v_lp8642 39 z8694) 37) (F_lp8642 28) (F_lp8642 29) (F8704 28) (F8704 29) ∧ ((v8703 40).toInt < 0 → dp (F8704 28) (F8704 29) (bI ((va_up v_lp8642 39 z8694) 37)) (v8703 38).toInt.toNat = some ((d + 1) + 1)) := hw
            rw [show (va_up v_lp8642 39 z8694) 30 = v 30 from (hf_lp8642 30 (by decide)).trans (hf8637 30 (by decide))] at hw
            rw [show (va_up v_lp8642 39 z8694) 37 = v 37 from (hf_lp8642 37 (by decide)).trans (hf8637 37 (by decide))] at hw
            have hw_r8702 := hw
            clear hw
            have t8707 : 0 ≤ (v8703 38).toInt ∧ (v8703 38).toInt ≤ 120 := hI.1 38 _ _ rfl
            have t8708 : 0 ≤ (v8703 39).toInt ∧ (v8703 39).toInt ≤ 120 := hI.1 39 _ _ rfl
            have t8709 : 0 ≤ (v8703 41).toInt ∧ (v8703 41).toInt ≤ 8 := hI.1 41 _ _ rfl
            clear hz1
            generalize H1 = H at hP hS ⊢
            replace hk := hk.tr hw_r8702.2.1
            replace hd := hw_r8702.2.2
            replace hw_r8702 := hw_r8702.1
            refine lv_aload_n hx hb dX12_product_48 rfl (lv_at hl 1 rfl) ?_
            refine lv_iload_n hx hb dX12_product_49 rfl (lv_at hl 0 rfl) ?_
            refine lv_iconst (v := 0) hx hb dX12_product_50 (by decide) ?_
            have t8710 : 0 ≤ (v 37).toInt ∧ (v 37).toInt ≤ 9 := by have h9 := hI.1 37 _ _ rfl; rw [show v8703 37 = v 37 from (hf8705 37 (by decide)).trans ((hf_lp8642 37 (by decide)).trans (hf8637 37 (by decide)))] at h9; exact h9
            have t8711 : 0 ≤ (v8703 38).toInt ∧ (v8703 38).toInt ≤ 120 := hI.1 38 _ _ rfl
            refine va_callv (va_runV (As := [.int r8692, .int 0]) (rest := []) ⟨hx, hb, hml, hown, hwd⟩ (c_X12_lay l dC dI g c adK adV v8703 F8704 rc H.size r8692 0 hg hI (by have h9 : v8703 38 = v8703 38 := rfl; rw [h9]; omega)) (cwV 2 hwd (gV wk_1021 wk_1018 wk_1019 wk_1020 wk_5) rfl rfl rfl (by decide +kernel) ⟨(by show 1 + 1 ≤ fr + 5; omega), (by show 8 + (3 + 11) + (40) ≤ lc + 200; omega)⟩) ⟨PM.blind, va_recv hK hP (ci := 12) (q0 := 0) rfl rfl, fun U hU hW => ⟨rfl, PM.at hK hE hP hS hU hW⟩⟩ rfl rfl hl.1 rfl (lv_room (Nat.le_of_ble_eq_true rfl)) dX12_product_51 ⟨Nat.le_of_ble_eq_true rfl, Nat.le_of_ble_eq_true rfl⟩) hS (fun q _ h => (freeM hS) q h) (freeM hS) (fun u t H1 locs ht hvm hw hB hz1 hk1 hS => ?_)
            unfold BM at hB
            rw [ht] at hB
            obtain ⟨v8713, F8714, rc9⟩ := u
            obtain ⟨hI, hrc, hf8715, hG8716, hw⟩ := hw
            dsimp only at hI hrc hB hf8715 hG8716 hw
            have hF := frCF (by decide) hG8716 hF
            rw [hrc] at hB
            have hP : va_P (dC, dI) classes (wM g c v8713 F8714 rc) H1 := hB
            replace hw : (v8713 38).toInt = (v8703 38).toInt + 1 ∧ keepL (v8703 37) (F8704 28) (F8704 29) (F8714 28) (F8714 29) ∧ dp (F8714 28) (F8714 29) (bI (v8703 37)) ((v8703 38).toInt.toNat + 1) = dpS (dp (F8704 28) (F8704 29) (bI (v8703 37)) (v8703 38).toInt.toNat) r8692 (0 : Int32) := hw
            rw [show v8703 37 = v 37 from (hf8705 37 (by decide)).trans ((hf_lp8642 37 (by decide)).trans (hf8637 37 (by decide)))] at hw
            have hw_r8712 := hw
            clear hw
            have t8717 : 0 ≤ (v8713 38).toInt ∧ (v8713 38).toInt ≤ 120 := hI.1 38 _ _ rfl
            have k8718 : (0 : Int32).toInt = 0 := by decide
            clear hz1
            generalize H1 = H at hP hS ⊢
            replace hk := hk.tr hw_r8712.2.1
            replace hd : (v8703 40).toInt < 0 → dp (F8714 28) (F8714 29) (bI (v 37)) (v8713 38).toInt.toNat = some (((d + 1) + 1) - 1) := fun hf => (by have e9 : (v8713 38).toInt.toNat = (v8703 38).toInt.toNat + 1 := (by omega); rw [e9, hw_r8712.2.2, hd hf]; exact dpS_5 (by omega) (by omega) (by omega) (by omega) (by omega))
            replace hw_r8712 := hw_r8712.1
            refine lv_goto (tgt := 4) hx hb dX12_product_54 (by decide) ?_
            exact ih_lp8642  v8713 F8714 _ _ _ (by have h9 : v8713 39 = v8703 39 := hf8715 39 (by decide); (try rw [h9]); clear h9; have h9 : v8713 38 = v8713 38 := rfl; (try rw [h9]); clear h9; have h9 : v8713 41 = v8703 41 := hf8715 41 (by decide); (try rw [h9]); clear h9; have h9 : v8713 40 = v8703 40 := hf8715 40 (by decide); (try rw [h9]); clear h9; omega) hk (by have h9 : v8713 40 = v8703 40 := hf8715 40 (by decide); (try rw [h9]); clear h9; have h9 : v8713 38 = v8713 38 := rfl; (try rw [h9]); clear h9; exact fun hf => (hd (by omega)).trans (congrArg some (by omega))) (by have h9 : v8713 39 = v8703 39 := hf8715 39 (by decide); rw [h9]; omega) (frC (by decide) hf8715 (frC (by decide) hf8705 (frU (by decide) hf_lp8642))) hI hF hP hS (lv_sub hl [1] rfl)
  obtain ⟨n9, hn9⟩ : ∃ n : Nat, 121 - (v8635 39).toInt ≤ (n : Int) := ⟨((121 - (v8635 39).toInt : Int)).toNat, by omega⟩
  exact lp8642 n9  v8635 F8636 H _ ls (by have h9 : v8635 39 = v8635 39 := rfl; (try rw [h9]); clear h9; have h9 : v8635 38 = v8635 38 := rfl; (try rw [h9]); clear h9; have h9 : v8635 41 = v8635 41 := rfl; (try rw [h9]); clear h9; have h9 : v8635 40 = v8635 40 := rfl; (try rw [h9]); clear h9; omega) hk (by have h9 : v8635 40 = v8635 40 := rfl; (try rw [h9]); clear h9; have h9 : v8635 38 = v8635 38 := rfl; (try rw [h9]); clear h9; exact fun hf => (hd (by omega)).trans (congrArg some (by omega))) (by have h9 : v8635 39 = v8635 39 := rfl; rw [h9]; omega) (fun _ _ => rfl) hI hF hP hS hl
