set_option maxHeartbeats 8000000 in
set_option maxRecDepth 100000 in
theorem c_X12_sum (D : Int) (fr lc : Nat) (rO : RPM yX12_operand (Cond.code yX12_operand cX12_operand 2 none) (D + 1) fr lc) (rE : RPM yX12_either (Cond.code yX12_either cX12_either 2 none) (D + 1) (fr + 3) (lc + 120)) (l : Launch) (dC : Nat → ClassId) (dI : Nat → Nat → Nat) (g : Nat → Nat) (c : Nat → ClassId) (adK adV : Nat → Nat) (v : Nat → Int32) (F : Nat → Nat → Int32) (rc sz : Nat) (d : Nat) (hg : injM g) (hI : IM v F) (hq : (v 38).toInt ≤ (v 39).toInt ∧ (v 39).toInt ≤ (v 30).toInt ∧ (v 40).toInt < 0 ∧ (v 41).toInt = D) (hdp : dp (F 28) (F 29) (bI (v 37)) (v 38).toInt.toNat = some d) : Met l yX12_sum (Cond.code yX12_sum cX12_sum 2 none :: wA) ({ frames := fr + 6, cells := 0, slots := 0, locals := lc + 240 }) (va_Pc [.ref (g 0)] (PM dC dI g c adK adV v F rc sz)) (va_Qv (fun (u : StM) => IM u.1 u.2.1 ∧ u.2.2 = rc ∧ (∀ k, k ∉ ([38, 39, 40, 41, 42] : List Nat) → u.1 k = v k) ∧ (∀ k, k ∉ ([28, 29] : List Nat) → u.2.1 k = F k) ∧ (((v 39).toInt ≤ (u.1 39).toInt ∧ (u.1 39).toInt ≤ (v 30).toInt ∧ (v 38).toInt ≤ (u.1 38).toInt ∧ (u.1 38).toInt - (v 38).toInt ≤ (u.1 39).toInt - (v 39).toInt ∧ (v 41).toInt ≤ (u.1 41).toInt ∧ ((u.1 40).toInt < 0 → (u.1 41).toInt = (v 41).toInt)) ∧ keepL (v 37) (F 28) (F 29) (u.2.1 28) (u.2.1 29) ∧ ((u.1 40).toInt < 0 → dp (u.2.1 28) (u.2.1 29) (bI (v 37)) (u.1 38).toInt.toNat = some (d + 1)))) (BM dC dI g c) (AM g sz)) 0 0 (AM g sz) := by
  refine Met.ofW (cc := cX12_sum) (maxL := 2) (ret := none) (by decide) rfl ?_
  intro p e s m args below meth c0 s₁ B hml hv
  obtain ⟨rfl, hsz, hP, hK, hE⟩ := hv
  have hx := B.exec
  have hb := B.bytes
  have hr := B.returns
  have hts := atoms_spec (ws := Cond.code yX12_sum cX12_sum 2 none :: wA) B.pre
  have hwd : ∀ w ∈ wA, w.before _ s = true := fun w h => hts w (List.mem_cons_of_mem _ h)
  have hown : s.vm.findClass RX12 = some m.cls := findClass_of_methodNamed B.named
  have hlocks := B.notSynchronized
  subst hsz
  have hl := lv_entry ([.ref (g 0)]) (n := 2) (Nat.le_of_ble_eq_true rfl)
  rw [lg_entry_eq]
  generalize (lg_sl ([.ref (g 0)]) ++ List.replicate (2 - (lg_sl ([.ref (g 0)])).length) Slot.unset).toArray = ls at hl ⊢
  have hl : lv_has ls 2 [(0, .ref (g 0))] := hl
  obtain ⟨H, eH⟩ : ∃ z, z = s.heap := ⟨_, rfl⟩
  have hP : va_P (dC, dI) classes (wM g c v F rc) H := by rw [eH]; exact hP
  have hS : va_S (AM g s.heap.size) s.heap H [] := by rw [eH]; exact va_S.rf
  refine my_heap eH ?_
  have hF : ∀ k, k ∉ ([28, 29] : List Nat) → F k = F k := fun _ _ => rfl
  have hb30 : 0 ≤ (v 30).toInt ∧ (v 30).toInt ≤ 120 := hI.1 30 _ _ rfl
  have hb37 : 0 ≤ (v 37).toInt ∧ (v 37).toInt ≤ 9 := hI.1 37 _ _ rfl
  have hb38 : 0 ≤ (v 38).toInt ∧ (v 38).toInt ≤ 120 := hI.1 38 _ _ rfl
  have hb39 : 0 ≤ (v 39).toInt ∧ (v 39).toInt ≤ 120 := hI.1 39 _ _ rfl
  have hb41 : 0 ≤ (v 41).toInt ∧ (v 41).toInt ≤ 8 := hI.1 41 _ _ rfl
  have hk : keepL (v 37) (F 28) (F 29) (F 28) (F 29) := keepL.rf
  have hd : (v 40).toInt < 0 → dp (F 28) (F 29) (bI (v 37)) (v 38).toInt.toNat = some d := fun _ => hdp
  refine lv_aload_n hx hb dX12_sum_0 rfl (lv_at hl 0 rfl) ?_
  have t8809 : 0 ≤ (v 30).toInt ∧ (v 30).toInt ≤ 120 := hI.1 30 _ _ rfl
  have t8810 : 0 ≤ (v 37).toInt ∧ (v 37).toInt ≤ 9 := hI.1 37 _ _ rfl
  have t8811 : 0 ≤ (v 38).toInt ∧ (v 38).toInt ≤ 120 := hI.1 38 _ _ rfl
  have t8812 : 0 ≤ (v 39).toInt ∧ (v 39).toInt ≤ 120 := hI.1 39 _ _ rfl
  have t8813 : 0 ≤ (v 41).toInt ∧ (v 41).toInt ≤ 8 := hI.1 41 _ _ rfl
  refine va_callv (va_runV (As := []) (rest := []) ⟨hx, hb, hml, hown, hwd⟩ (c_X12_product D fr lc rO rE l dC dI g c adK adV v F rc H.size  d hg hI (by have h9 : v 38 = v 38 := rfl; (try rw [h9]); clear h9; have h9 : v 39 = v 39 := rfl; (try rw [h9]); clear h9; have h9 : v 30 = v 30 := rfl; (try rw [h9]); clear h9; have h9 : v 40 = v 40 := rfl; (try rw [h9]); clear h9; have h9 : v 41 = v 41 := rfl; (try rw [h9]); clear h9; omega) (by have h9 : v 37 = (v 37) := rfl; have h8 : v 38 = (v 38) := rfl; (try rw [h9]); (try rw [h8]); exact hd (by omega))) (cwV 0 hwd (gV wk_1042 wk_1044 wk_1045 wk_1046 wk_5) rfl rfl rfl (by decide +kernel) ⟨(by show fr + 5 + 1 ≤ fr + 6; omega), (by show 8 + (2 + 11) + (lc + 200) ≤ lc + 240; omega)⟩) ⟨PM.blind, va_recv hK hP (ci := 12) (q0 := 0) rfl rfl, fun U hU hW => ⟨rfl, PM.at hK hE hP hS hU hW⟩⟩ rfl rfl hl.1 rfl (lv_room (Nat.le_of_ble_eq_true rfl)) dX12_sum_1 ⟨Nat.le_of_ble_eq_true rfl, Nat.le_of_ble_eq_true rfl⟩) hS (fun q _ h => (freeM hS) q h) (freeM hS) (fun u t H1 locs ht hvm hw hB hz1 hk1 hS => ?_)
  unfold BM at hB
  rw [ht] at hB
  obtain ⟨v8815, F8816, rc9⟩ := u
  obtain ⟨hI, hrc, hf8817, hG8818, hw⟩ := hw
  dsimp only at hI hrc hB hf8817 hG8818 hw
  have hF := frCF (by decide) hG8818 hF
  rw [hrc] at hB
  have hP : va_P (dC, dI) classes (wM g c v8815 F8816 rc) H1 := hB
  replace hw : ((v 39).toInt ≤ (v8815 39).toInt ∧ (v8815 39).toInt ≤ (v 30).toInt ∧ (v 38).toInt ≤ (v8815 38).toInt ∧ (v8815 38).toInt - (v 38).toInt ≤ (v8815 39).toInt - (v 39).toInt ∧ (v 41).toInt ≤ (v8815 41).toInt ∧ ((v8815 40).toInt < 0 → (v8815 41).toInt = (v 41).toInt)) ∧ keepL (v 37) (F 28) (F 29) (F8816 28) (F8816 29) ∧ ((v8815 40).toInt < 0 → dp (F8816 28) (F8816 29) (bI (v 37)) (v8815 38).toInt.toNat = some (d + 1)) := hw
  have hw_r8814 := hw
  clear hw
  have t8819 : 0 ≤ (v8815 38).toInt ∧ (v8815 38).toInt ≤ 120 := hI.1 38 _ _ rfl
  have t8820 : 0 ≤ (v8815 39).toInt ∧ (v8815 39).toInt ≤ 120 := hI.1 39 _ _ rfl
  have t8821 : 0 ≤ (v8815 41).toInt ∧ (v8815 41).toInt ≤ 8 := hI.1 41 _ _ rfl
  clear hz1
  generalize H1 = H at hP hS ⊢
  replace hk := hk.tr hw_r8814.2.1
  replace hd := hw_r8814.2.2
  replace hw_r8814 := hw_r8814.1
  have lp8822 : ∀ (n : Nat) (v_lp8822 : Nat → Int32) (F_lp8822 : Nat → Nat → Int32) (H : Heap) (locs : List Loc) (ls : Array Slot), ((v 39).toInt ≤ (v_lp8822 39).toInt ∧ (v_lp8822 39).toInt ≤ (v 30).toInt ∧ (v 38).toInt ≤ (v_lp8822 38).toInt ∧ (v_lp8822 38).toInt - (v 38).toInt ≤ (v_lp8822 39).toInt - (v 39).toInt ∧ (v 41).toInt ≤ (v_lp8822 41).toInt ∧ ((v_lp8822 40).toInt < 0 → (v_lp8822 41).toInt = (v 41).toInt)) → (keepL (v 37) (F 28) (F 29) (F_lp8822 28) (F_lp8822 29)) → (((v_lp8822 40).toInt < 0 → dp (F_lp8822 28) (F_lp8822 29) (bI (v 37)) (v_lp8822 38).toInt.toNat = some (d + 1))) → (121 - (v_lp8822 39).toInt ≤ (n : Int)) → (∀ k, k ∉ ([38, 39, 40, 41, 42] : List Nat) → v_lp8822 k = v8815 k) → IM v_lp8822 F_lp8822 → (∀ k, k ∉ ([28, 29] : List Nat) → F_lp8822 k = F k) → va_P (dC, dI) classes (wM g c v_lp8822 F_lp8822 rc) H → va_S (AM g s.heap.size) s.heap H locs → lv_has ls 2 [(0, .ref (g 0))] → W p l e (headSpec (Cond.code yX12_sum cX12_sum 2 none :: wA) ({ frames := fr + 6, cells := 0, slots := 0, locals := lc + 240 })).room s m ([.ref (g 0)] : List Value).toArray below meth c0 H locs 0 0 (MQ below (va_Qv (fun (u : StM) => IM u.1 u.2.1 ∧ u.2.2 = rc ∧ (∀ k, k ∉ ([38, 39, 40, 41, 42] : List Nat) → u.1 k = v k) ∧ (∀ k, k ∉ ([28, 29] : List Nat) → u.2.1 k = F k) ∧ (((v 39).toInt ≤ (u.1 39).toInt ∧ (u.1 39).toInt ≤ (v 30).toInt ∧ (v 38).toInt ≤ (u.1 38).toInt ∧ (u.1 38).toInt - (v 38).toInt ≤ (u.1 39).toInt - (v 39).toInt ∧ (v 41).toInt ≤ (u.1 41).toInt ∧ ((u.1 40).toInt < 0 → (u.1 41).toInt = (v 41).toInt)) ∧ keepL (v 37) (F 28) (F 29) (u.2.1 28) (u.2.1 29) ∧ ((u.1 40).toInt < 0 → dp (u.2.1 28) (u.2.1 29) (bI (v 37)) (u.1 38).toInt.toNat = some (d + 1)))) (BM dC dI g c) (AM g s.heap.size)) ([.ref (g 0)] : List Value).toArray s 0 0 (AM g s.heap.size)) (F0 m 4 ls []) := by
    intro n
    induction n with
    | zero =>
      intro v_lp8822 F_lp8822 H locs ls t8823 t8824 t8825 hm hf_lp8822 hI hF hP hS hl
      exfalso
      have hI1 := hI.1
      omega
    | succ n ih_lp8822 =>
      intro v_lp8822 F_lp8822 H locs ls t8823 t8824 t8825 hm hf_lp8822 hI hF hP hS hl
      clear hk hd
      have hk := t8824
      have hd := t8825
      clear t8824 t8825
      refine lv_aload_n hx hb dX12_sum_4 rfl (lv_at hl 0 rfl) ?_
      refine va_get (D := (dC, dI)) (ci := 12) (v := .int (v_lp8822 40)) (C := RX12) (T := TX12) (N := 63) hx hb hwd inA_X12 hown hK hP 0 rfl rfl 40 (by decide) (hwd _ wk_1005) (fun _ h9 => h9) rfl dX12_sum_5 ?_
      refine lv_if_ge (tgt := 57) hx hb dX12_sum_8 (by decide) (fun c8826 => ?_) (fun c8826 => ?_)
      · skip
        have t8827 := cv_le (a := 0) (by decide) (b := (v_lp8822 40).toInt) rfl c8826
        have hP9 : va_P (dC, dI) classes (wM g c v_lp8822 F_lp8822 rc) H := hP
        exact W.vret hx hb hr (fun t ht hW => ⟨⟨(v_lp8822, F_lp8822, rc), rfl, ⟨hI, rfl, (frC (by decide) hf_lp8822 (frC (by decide) hf8817 (fun _ _ => rfl))), hF, (by show ((v 39).toInt ≤ (v_lp8822 39).toInt ∧ (v_lp8822 39).toInt ≤ (v 30).toInt ∧ (v 38).toInt ≤ (v_lp8822 38).toInt ∧ (v_lp8822 38).toInt - (v 38).toInt ≤ (v_lp8822 39).toInt - (v 39).toInt ∧ (v 41).toInt ≤ (v_lp8822 41).toInt ∧ ((v_lp8822 40).toInt < 0 → (v_lp8822 41).toInt = (v 41).toInt)) ∧ keepL (v 37) (F 28) (F 29) (F_lp8822 28) (F_lp8822 29) ∧ ((v_lp8822 40).toInt < 0 → dp (F_lp8822 28) (F_lp8822 29) (bI (v 37)) (v_lp8822 38).toInt.toNat = some (d + 1)); exact ⟨by omega, hk, fun hf => (hd (by omega)).trans (congrArg some (by omega))⟩)⟩, (by show va_P _ _ _ t.heap; rw [ht]; exact hP9)⟩, hS.F ht⟩) hS.2.2 dX12_sum_57
      · skip
        have t8828 := cv_nle (a := 0) (by decide) (b := (v_lp8822 40).toInt) rfl c8826
        refine lv_aload_n hx hb dX12_sum_11 rfl (lv_at hl 0 rfl) ?_
        have t8829 : 0 ≤ (v 30).toInt ∧ (v 30).toInt ≤ 120 := by have h9 := hI.1 30 _ _ rfl; rw [show v_lp8822 30 = v 30 from (hf_lp8822 30 (by decide)).trans (hf8817 30 (by decide))] at h9; exact h9
        have t8830 : 0 ≤ (v_lp8822 39).toInt ∧ (v_lp8822 39).toInt ≤ 120 := hI.1 39 _ _ rfl
        refine va_calli (va_runV (As := []) (rest := []) ⟨hx, hb, hml, hown, hwd⟩ (c_X12_look l dC dI g c adK adV v_lp8822 F_lp8822 rc H.size  hg hI ) (cwV 0 hwd (gV wk_1017 wk_1014 wk_1015 wk_1016 wk_5) rfl rfl rfl (by decide +kernel) ⟨(by show 1 + 1 ≤ fr + 6; omega), (by show 8 + (1 + 11) + (40) ≤ lc + 240; omega)⟩) ⟨PM.blind, va_recv hK hP (ci := 12) (q0 := 0) rfl rfl, fun U hU hW => ⟨rfl, PM.at hK hE hP hS hU hW⟩⟩ rfl rfl hl.1 rfl (lv_room (Nat.le_of_ble_eq_true rfl)) dX12_sum_12 ⟨Nat.le_of_ble_eq_true rfl, Nat.le_of_ble_eq_true rfl⟩) hS (fun q _ h => (freeM hS) q h) (freeM hS) (fun r8831 u t H1 locs ht hvm hw hB hz1 hk1 hS => ?_)
        unfold BM at hB
        rw [ht] at hB
        have hP : va_P (dC, dI) classes (wM g c v_lp8822 F_lp8822 rc) H1 := hB
        replace hw : r8831.toInt = lkM (v_lp8822 39) (v_lp8822 30) (F_lp8822 24) ∧ ((v_lp8822 39).toInt < (v_lp8822 30).toInt ∨ r8831.toInt = -1) := hw
        rw [show v_lp8822 30 = v 30 from (hf_lp8822 30 (by decide)).trans (hf8817 30 (by decide))] at hw
        rw [hF 24 (by decide)] at hw
        have hw_r8831 := hw
        clear hw
        clear hz1
        generalize H1 = H at hP hS ⊢
        refine lv_bipush (v := 43) hx hb dX12_sum_15 (by decide) ?_
        refine lv_icmp_eq (tgt := 29) hx hb dX12_sum_17 (by decide) (fun c8832 => ?_) (fun c8832 => ?_)
        · skip
          have t8833 := cv_eq (a := r8831.toInt) rfl (b := 43) (by decide) c8832
          refine lv_aload_n hx hb dX12_sum_29 rfl (lv_at hl 0 rfl) ?_
          have t8834 : 0 ≤ (v 30).toInt ∧ (v 30).toInt ≤ 120 := by have h9 := hI.1 30 _ _ rfl; rw [show v_lp8822 30 = v 30 from (hf_lp8822 30 (by decide)).trans (hf8817 30 (by decide))] at h9; exact h9
          have t8835 : 0 ≤ (v_lp8822 39).toInt ∧ (v_lp8822 39).toInt ≤ 120 := hI.1 39 _ _ rfl
          refine va_calli (va_runV (As := []) (rest := []) ⟨hx, hb, hml, hown, hwd⟩ (c_X12_look l dC dI g c adK adV v_lp8822 F_lp8822 rc H.size  hg hI ) (cwV 0 hwd (gV wk_1017 wk_1014 wk_1015 wk_1016 wk_5) rfl rfl rfl (by decide +kernel) ⟨(by show 1 + 1 ≤ fr + 6; omega), (by show 8 + (1 + 11) + (40) ≤ lc + 240; omega)⟩) ⟨PM.blind, va_recv hK hP (ci := 12) (q0 := 0) rfl rfl, fun U hU hW => ⟨rfl, PM.at hK hE hP hS hU hW⟩⟩ rfl rfl hl.1 rfl (lv_room (Nat.le_of_ble_eq_true rfl)) dX12_sum_30 ⟨Nat.le_of_ble_eq_true rfl, Nat.le_of_ble_eq_true rfl⟩) hS (fun q _ h => (freeM hS) q h) (freeM hS) (fun r8836 u t H1 locs ht hvm hw hB hz1 hk1 hS => ?_)
          unfold BM at hB
          rw [ht] at hB
          have hP : va_P (dC, dI) classes (wM g c v_lp8822 F_lp8822 rc) H1 := hB
          replace hw : r8836.toInt = lkM (v_lp8822 39) (v_lp8822 30) (F_lp8822 24) ∧ ((v_lp8822 39).toInt < (v_lp8822 30).toInt ∨ r8836.toInt = -1) := hw
          rw [show v_lp8822 30 = v 30 from (hf_lp8822 30 (by decide)).trans (hf8817 30 (by decide))] at hw
          rw [hF 24 (by decide)] at hw
          have hw_r8836 := hw
          clear hw
          clear hz1
          generalize H1 = H at hP hS ⊢
          refine lv_istore_n (lv' := [(1, .int r8836), (0, .ref (g 0))]) hx hb dX12_sum_33 rfl hl (by decide) rfl (fun ls hl => ?_)
          refine lv_aload_n hx hb dX12_sum_34 rfl (lv_at hl 1 rfl) ?_
          refine lv_dup hx hb dX12_sum_35 rfl ?_
          refine va_get (D := (dC, dI)) (ci := 12) (v := .int (v_lp8822 39)) (C := RX12) (T := TX12) (N := 63) hx hb hwd inA_X12 hown hK hP 0 rfl rfl 39 (by decide) (hwd _ wk_1004) (fun _ h9 => h9) rfl dX12_sum_36 ?_
          have t8837 : 0 ≤ (v_lp8822 39).toInt ∧ (v_lp8822 39).toInt ≤ 120 := hI.1 39 _ _ rfl
          refine lv_iconst (v := 1) hx hb dX12_sum_39 (by decide) ?_
          refine lv_iadd hx hb dX12_sum_40 ?_
          refine lv_topi (fun z8838 e8839 => ?_)
          try (have t8840 := tadd e8839 (a := (v_lp8822 39).toInt) rfl (b := 1) (by decide) (by omega))
          refine va_put (D := (dC, dI)) (ci := 12) (v := .int z8838) (ty := .int) (C := RX12) (T := TX12) (N := 63) (fs := fsM_0 g v_lp8822 rc) hx hb hwd inA_X12 tyX12 tyX12_ok nmX12 hown hK hP (DM hg) hS 0 rfl rfl 39 (by decide) (hwd _ wk_1004) (fun _ h9 => h9) rfl (by decide +kernel) rfl rfl (Nat.le_of_ble_eq_true rfl) dX12_sum_41 (fun H locs hP _ hS => ?_)
          have hP := va_P_eq (pM_39 g c _ _ _ _) hP
          have hI := IM.put hI 39 z8838 rfl (by omega)
          refine lv_aload_n hx hb dX12_sum_44 rfl (lv_at hl 1 rfl) ?_
          have t8841 : 0 ≤ (v 30).toInt ∧ (v 30).toInt ≤ 120 := by have h9 := hI.1 30 _ _ rfl; rw [show (va_up v_lp8822 39 z8838) 30 = v 30 from (hf_lp8822 30 (by decide)).trans (hf8817 30 (by decide))] at h9; exact h9
          have t8842 : 0 ≤ (v 37).toInt ∧ (v 37).toInt ≤ 9 := by have h9 := hI.1 37 _ _ rfl; rw [show (va_up v_lp8822 39 z8838) 37 = v 37 from (hf_lp8822 37 (by decide)).trans (hf8817 37 (by decide))] at h9; exact h9
          have t8843 : 0 ≤ (v_lp8822 38).toInt ∧ (v_lp8822 38).toInt ≤ 120 := hI.1 38 _ _ rfl
          have t8844 : 0 ≤ z8838.toInt ∧ z8838.toInt ≤ 120 := hI.1 39 _ _ rfl
          have t8845 : 0 ≤ (v_lp8822 41).toInt ∧ (v_lp8822 41).toInt ≤ 8 := hI.1 41 _ _ rfl
          refine va_callv (va_runV (As := []) (rest := []) ⟨hx, hb, hml, hown, hwd⟩ (c_X12_product D fr lc rO rE l dC dI g c adK adV (va_up v_lp8822 39 z8838) F_lp8822 rc H.size  (d + 1) hg hI (by have h9 : (va_up v_lp8822 39 z8838) 38 = v_lp8822 38 := rfl; (try rw [h9]); clear h9; have h9 : (va_up v_lp8822 39 z8838) 39 = z8838 := rfl; (try rw [h9]); clear h9; have h9 : (va_up v_lp8822 39 z8838) 30 = v 30 := (hf_lp8822 30 (by decide)).trans (hf8817 30 (by decide)); (try rw [h9]); clear h9; have h9 : (va_up v_lp8822 39 z8838) 40 = v_lp8822 40 := rfl; (try rw [h9]); clear h9; have h9 : (va_up v_lp8822 39 z8838) 41 = v_lp8822 41 := rfl; (try rw [h9]); clear h9; omega) (by have h9 : (va_up v_lp8822 39 z8838) 37 = (v 37) := (hf_lp8822 37 (by decide)).trans (hf8817 37 (by decide)); have h8 : (va_up v_lp8822 39 z8838) 38 = (v_lp8822 38) := rfl; (try rw [h9]); (try rw [h8]); exact hd (by omega))) (cwV 0 hwd (gV wk_1042 wk_1044 wk_1045 wk_1046 wk_5) rfl rfl rfl (by decide +kernel) ⟨(by show fr + 5 + 1 ≤ fr + 6; omega), (by show 8 + (2 + 11) + (lc + 200) ≤ lc + 240; omega)⟩) ⟨PM.blind, va_recv hK hP (ci := 12) (q0 := 0) rfl rfl, fun U hU hW => ⟨rfl, PM.at hK hE hP hS hU hW⟩⟩ rfl rfl hl.1 rfl (lv_room (Nat.le_of_ble_eq_true rfl)) dX12_sum_45 ⟨Nat.le_of_ble_eq_true rfl, Nat.le_of_ble_eq_true rfl⟩) hS (fun q _ h => (freeM hS) q h) (freeM hS) (fun u t H1 locs ht hvm hw hB hz1 hk1 hS => ?_)
          unfold BM at hB
          rw [ht] at hB
          obtain ⟨v8847, F8848, rc9⟩ := u
          obtain ⟨hI, hrc, hf8849, hG8850, hw⟩ := hw
          dsimp only at hI hrc hB hf8849 hG8850 hw
          have hF := frCF (by decide) hG8850 hF
          rw [hrc] at hB
          have hP : va_P (dC, dI) classes (wM g c v8847 F8848 rc) H1 := hB
          replace hw : (z8838.toInt ≤ (v8847 39).toInt ∧ (v8847 39).toInt ≤ ((va_up v_lp8822 39 z8838) 30).toInt ∧ (v_lp8822 38).toInt ≤ (v8847 38).toInt ∧ (v8847 38).toInt - (v_lp8822 38).toInt ≤ (v8847 39).toInt - z8838.toInt ∧ (v_lp8822 41).toInt ≤ (v8847 41).toInt ∧ ((v8847 40).toInt < 0 → (v8847 41).toInt = (v_lp8822 41).toInt)) ∧ keepL ((va_up v_lp8822 39 z8838) 37) (F_lp8822 28) (F_lp8822 29) (F8848 28) (F8848 29) ∧ ((v8847 40).toInt < 0 → dp (F8848 28) (F8848 29) (bI ((va_up v_lp8822 39 z8838) 37)) (v8847 38).toInt.toNat = some ((d + 1) + 1)) := hw
          rw [show (va_up v_lp8822 39 z8838) 30 = v 30 from (hf_lp8822 30 (by decide)).trans (hf8817 30 (by decide))] at hw
          rw [show (va_up v_lp8822 39 z8838) 37 = v 37 from (hf_lp8822 37 (by decide)).trans (hf8817 37 (by decide))] at hw
          have hw_r8846 := hw
          clear hw
          have t8851 : 0 ≤ (v8847 38).toInt ∧ (v8847 38).toInt ≤ 120 := hI.1 38 _ _ rfl
          have t8852 : 0 ≤ (v8847 39).toInt ∧ (v8847 39).toInt ≤ 120 := hI.1 39 _ _ rfl
          have t8853 : 0 ≤ (v8847 41).toInt ∧ (v8847 41).toInt ≤ 8 := hI.1 41 _ _ rfl
          clear hz1
          generalize H1 = H at hP hS ⊢
          replace hk := hk.tr hw_r8846.2.1
          replace hd := hw_r8846.2.2
          replace hw_r8846 := hw_r8846.1
          refine lv_aload_n hx hb dX12_sum_48 rfl (lv_at hl 1 rfl) ?_
          refine lv_iload_n hx hb dX12_sum_49 rfl (lv_at hl 0 rfl) ?_
          refine lv_iconst (v := 0) hx hb dX12_sum_50 (by decide) ?_
          have t8854 : 0 ≤ (v 37).toInt ∧ (v 37).toInt ≤ 9 := by have h9 := hI.1 37 _ _ rfl; rw [show v8847 37 = v 37 from (hf8849 37 (by decide)).trans ((hf_lp8822 37 (by decide)).trans (hf8817 37 (by decide)))] at h9; exact h9
          have t8855 : 0 ≤ (v8847 38).toInt ∧ (v8847 38).toInt ≤ 120 := hI.1 38 _ _ rfl
          refine va_callv (va_runV (As := [.int r8836, .int 0]) (rest := []) ⟨hx, hb, hml, hown, hwd⟩ (c_X12_lay l dC dI g c adK adV v8847 F8848 rc H.size r8836 0 hg hI (by have h9 : v8847 38 = v8847 38 := rfl; rw [h9]; omega)) (cwV 2 hwd (gV wk_1021 wk_1018 wk_1019 wk_1020 wk_5) rfl rfl rfl (by decide +kernel) ⟨(by show 1 + 1 ≤ fr + 6; omega), (by show 8 + (3 + 11) + (40) ≤ lc + 240; omega)⟩) ⟨PM.blind, va_recv hK hP (ci := 12) (q0 := 0) rfl rfl, fun U hU hW => ⟨rfl, PM.at hK hE hP hS hU hW⟩⟩ rfl rfl hl.1 rfl (lv_room (Nat.le_of_ble_eq_true rfl)) dX12_sum_51 ⟨Nat.le_of_ble_eq_true rfl, Nat.le_of_ble_eq_true rfl⟩) hS (fun q _ h => (freeM hS) q h) (freeM hS) (fun u t H1 locs ht hvm hw hB hz1 hk1 hS => ?_)
          unfold BM at hB
          rw [ht] at hB
          obtain ⟨v8857, F8858, rc9⟩ := u
          obtain ⟨hI, hrc, hf8859, hG8860, hw⟩ := hw
          dsimp only at hI hrc hB hf8859 hG8860 hw
          have hF := frCF (by decide) hG8860 hF
          rw [hrc] at hB
          have hP : va_P (dC, dI) classes (wM g c v8857 F8858 rc) H1 := hB
          replace hw : (v8857 38).toInt = (v8847 38).toInt + 1 ∧ keepL (v8847 37) (F8848 28) (F8848 29) (F8858 28) (F8858 29) ∧ dp (F8858 28) (F8858 29) (bI (v8847 37)) ((v8847 38).toInt.toNat + 1) = dpS (dp (F8848 28) (F8848 29) (bI (v8847 37)) (v8847 38).toInt.toNat) r8836 (0 : Int32) := hw
          rw [show v8847 37 = v 37 from (hf8849 37 (by decide)).trans ((hf_lp8822 37 (by decide)).trans (hf8817 37 (by decide)))] at hw
          have hw_r8856 := hw
          clear hw
          have t8861 : 0 ≤ (v8857 38).toInt ∧ (v8857 38).toInt ≤ 120 := hI.1 38 _ _ rfl
          have k8862 : (0 : Int32).toInt = 0 := by decide
          clear hz1
          generalize H1 = H at hP hS ⊢
          replace hk := hk.tr hw_r8856.2.1
          replace hd : (v8847 40).toInt < 0 → dp (F8858 28) (F8858 29) (bI (v 37)) (v8857 38).toInt.toNat = some (((d + 1) + 1) - 1) := fun hf => (by have e9 : (v8857 38).toInt.toNat = (v8847 38).toInt.toNat + 1 := (by omega); rw [e9, hw_r8856.2.2, hd hf]; exact dpS_5 (by omega) (by omega) (by omega) (by omega) (by omega))
          replace hw_r8856 := hw_r8856.1
          refine lv_goto (tgt := 4) hx hb dX12_sum_54 (by decide) ?_
          exact ih_lp8822  v8857 F8858 _ _ _ (by have h9 : v8857 39 = v8847 39 := hf8859 39 (by decide); (try rw [h9]); clear h9; have h9 : v8857 38 = v8857 38 := rfl; (try rw [h9]); clear h9; have h9 : v8857 41 = v8847 41 := hf8859 41 (by decide); (try rw [h9]); clear h9; have h9 : v8857 40 = v8847 40 := hf8859 40 (by decide); (try rw [h9]); clear h9; omega) hk (by have h9 : v8857 40 = v8847 40 := hf8859 40 (by decide); (try rw [h9]); clear h9; have h9 : v8857 38 = v8857 38 := rfl; (try rw [h9]); clear h9; exact fun hf => (hd (by omega)).trans (congrArg some (by omega))) (by have h9 : v8857 39 = v8847 39 := hf8859 39 (by decide); rw [h9]; omega) (frC (by decide) hf8859 (frC (by decide) hf8849 (frU (by decide) hf_lp8822))) hI hF hP hS (lv_sub hl [1] rfl)
        · skip
          have t8863 := cv_ne (a := r8831.toInt) rfl (b := 43) (by decide) c8832
          refine lv_aload_n hx hb dX12_sum_20 rfl (lv_at hl 0 rfl) ?_
          have t8864 : 0 ≤ (v 30).toInt ∧ (v 30).toInt ≤ 120 := by have h9 := hI.1 30 _ _ rfl; rw [show v_lp8822 30 = v 30 from (hf_lp8822 30 (by decide)).trans (hf8817 30 (by decide))] at h9; exact h9
          have t8865 : 0 ≤ (v_lp8822 39).toInt ∧ (v_lp8822 39).toInt ≤ 120 := hI.1 39 _ _ rfl
          refine va_calli (va_runV (As := []) (rest := []) ⟨hx, hb, hml, hown, hwd⟩ (c_X12_look l dC dI g c adK adV v_lp8822 F_lp8822 rc H.size  hg hI ) (cwV 0 hwd (gV wk_1017 wk_1014 wk_1015 wk_1016 wk_5) rfl rfl rfl (by decide +kernel) ⟨(by show 1 + 1 ≤ fr + 6; omega), (by show 8 + (1 + 11) + (40) ≤ lc + 240; omega)⟩) ⟨PM.blind, va_recv hK hP (ci := 12) (q0 := 0) rfl rfl, fun U hU hW => ⟨rfl, PM.at hK hE hP hS hU hW⟩⟩ rfl rfl hl.1 rfl (lv_room (Nat.le_of_ble_eq_true rfl)) dX12_sum_21 ⟨Nat.le_of_ble_eq_true rfl, Nat.le_of_ble_eq_true rfl⟩) hS (fun q _ h => (freeM hS) q h) (freeM hS) (fun r8866 u t H1 locs ht hvm hw hB hz1 hk1 hS => ?_)
          unfold BM at hB
          rw [ht] at hB
          have hP : va_P (dC, dI) classes (wM g c v_lp8822 F_lp8822 rc) H1 := hB
          replace hw : r8866.toInt = lkM (v_lp8822 39) (v_lp8822 30) (F_lp8822 24) ∧ ((v_lp8822 39).toInt < (v_lp8822 30).toInt ∨ r8866.toInt = -1) := hw
          rw [show v_lp8822 30 = v 30 from (hf_lp8822 30 (by decide)).trans (hf8817 30 (by decide))] at hw
          rw [hF 24 (by decide)] at hw
          have hw_r8866 := hw
          clear hw
          clear hz1
          generalize H1 = H at hP hS ⊢
          refine lv_bipush (v := 45) hx hb dX12_sum_24 (by decide) ?_
          refine lv_icmp_ne (tgt := 57) hx hb dX12_sum_26 (by decide) (fun c8867 => ?_) (fun c8867 => ?_)
          · skip
            have t8868 := cv_ne (a := r8866.toInt) rfl (b := 45) (by decide) c8867
            have hP9 : va_P (dC, dI) classes (wM g c v_lp8822 F_lp8822 rc) H := hP
            exact W.vret hx hb hr (fun t ht hW => ⟨⟨(v_lp8822, F_lp8822, rc), rfl, ⟨hI, rfl, (frC (by decide) hf_lp8822 (frC (by decide) hf8817 (fun _ _ => rfl))), hF, (by show ((v 39).toInt ≤ (v_lp8822 39).toInt ∧ (v_lp8822 39).toInt ≤ (v 30).toInt ∧ (v 38).toInt ≤ (v_lp8822 38).toInt ∧ (v_lp8822 38).toInt - (v 38).toInt ≤ (v_lp8822 39).toInt - (v 39).toInt ∧ (v 41).toInt ≤ (v_lp8822 41).toInt ∧ ((v_lp8822 40).toInt < 0 → (v_lp8822 41).toInt = (v 41).toInt)) ∧ keepL (v 37) (F 28) (F 29) (F_lp8822 28) (F_lp8822 29) ∧ ((v_lp8822 40).toInt < 0 → dp (F_lp8822 28) (F_lp8822 29) (bI (v 37)) (v_lp8822 38).toInt.toNat = some (d + 1)); exact ⟨by omega, hk, fun hf => (hd (by omega)).trans (congrArg some (by omega))⟩)⟩, (by show va_P _ _ _ t.heap; rw [ht]; exact hP9)⟩, hS.F ht⟩) hS.2.2 dX12_sum_57
          · skip
            have t8869 := cv_eq (a := r8866.toInt) rfl (b := 45) (by decide) c8867
            refine lv_aload_n hx hb dX12_sum_29 rfl (lv_at hl 0 rfl) ?_
            have t8870 : 0 ≤ (v 30).toInt ∧ (v 30).toInt ≤ 120 := by have h9 := hI.1 30 _ _ rfl; rw [show v_lp8822 30 = v 30 from (hf_lp8822 30 (by decide)).trans (hf8817 30 (by decide))] at h9; exact h9
            have t8871 : 0 ≤ (v_lp8822 39).toInt ∧ (v_lp8822 39).toInt ≤ 120 := hI.1 39 _ _ rfl
            refine va_calli (va_runV (As := []) (rest := []) ⟨hx, hb, hml, hown, hwd⟩ (c_X12_look l dC dI g c adK adV v_lp8822 F_lp8822 rc H.size  hg hI ) (cwV 0 hwd (gV wk_1017 wk_1014 wk_1015 wk_1016 wk_5) rfl rfl rfl (by decide +kernel) ⟨(by show 1 + 1 ≤ fr + 6; omega), (by show 8 + (1 + 11) + (40) ≤ lc + 240; omega)⟩) ⟨PM.blind, va_recv hK hP (ci := 12) (q0 := 0) rfl rfl, fun U hU hW => ⟨rfl, PM.at hK hE hP hS hU hW⟩⟩ rfl rfl hl.1 rfl (lv_room (Nat.le_of_ble_eq_true rfl)) dX12_sum_30 ⟨Nat.le_of_ble_eq_true rfl, Nat.le_of_ble_eq_true rfl⟩) hS (fun q _ h => (freeM hS) q h) (freeM hS) (fun r8872 u t H1 locs ht hvm hw hB hz1 hk1 hS => ?_)
            unfold BM at hB
            rw [ht] at hB
            have hP : va_P (dC, dI) classes (wM g c v_lp8822 F_lp8822 rc) H1 := hB
            replace hw : r8872.toInt = lkM (v_lp8822 39) (v_lp8822 30) (F_lp8822 24) ∧ ((v_lp8822 39).toInt < (v_lp8822 30).toInt ∨ r8872.toInt = -1) := hw
            rw [show v_lp8822 30 = v 30 from (hf_lp8822 30 (by decide)).trans (hf8817 30 (by decide))] at hw
            rw [hF 24 (by decide)] at hw
            have hw_r8872 := hw
            clear hw
            clear hz1
            generalize H1 = H at hP hS ⊢
            refine lv_istore_n (lv' := [(1, .int r8872), (0, .ref (g 0))]) hx hb dX12_sum_33 rfl hl (by decide) rfl (fun ls hl => ?_)
            refine lv_aload_n hx hb dX12_sum_34 rfl (lv_at hl 1 rfl) ?_
            refine lv_dup hx hb dX12_sum_35 rfl ?_
            refine va_get (D := (dC, dI)) (ci := 12) (v := .int (v_lp8822 39)) (C := RX12) (T := TX12) (N := 63) hx hb hwd inA_X12 hown hK hP 0 rfl rfl 39 (by decide) (hwd _ wk_1004) (fun _ h9 => h9) rfl dX12_sum_36 ?_
            have t8873 : 0 ≤ (v_lp8822 39).toInt ∧ (v_lp8822 39).toInt ≤ 120 := hI.1 39 _ _ rfl
            refine lv_iconst (v := 1) hx hb dX12_sum_39 (by decide) ?_
            refine lv_iadd hx hb dX12_sum_40 ?_
            refine lv_topi (fun z8874 e8875 => ?_)
            try (have t8876 := tadd e8875 (a := (v_lp8822 39).toInt) rfl (b := 1) (by decide) (by omega))
            refine va_put (D := (dC, dI)) (ci := 12) (v := .int z8874) (ty := .int) (C := RX12) (T := TX12) (N := 63) (fs := fsM_0 g v_lp8822 rc) hx hb hwd inA_X12 tyX12 tyX12_ok nmX12 hown hK hP (DM hg) hS 0 rfl rfl 39 (by decide) (hwd _ wk_1004) (fun _ h9 => h9) rfl (by decide +kernel) rfl rfl (Nat.le_of_ble_eq_true rfl) dX12_sum_41 (fun H locs hP _ hS => ?_)
            have hP := va_P_eq (pM_39 g c _ _ _ _) hP
            have hI := IM.put hI 39 z8874 rfl (by omega)
            refine lv_aload_n hx hb dX12_sum_44 rfl (lv_at hl 1 rfl) ?_
            have t8877 : 0 ≤ (v 30).toInt ∧ (v 30).toInt ≤ 120 := by have h9 := hI.1 30 _ _ rfl; rw [show (va_up v_lp8822 39 z8874) 30 = v 30 from (hf_lp8822 30 (by decide)).trans (hf8817 30 (by decide))] at h9; exact h9
            have t8878 : 0 ≤ (v 37).toInt ∧ (v 37).toInt ≤ 9 := by have h9 := hI.1 37 _ _ rfl; rw [show (va_up v_lp8822 39 z8874) 37 = v 37 from (hf_lp8822 37 (by decide)).trans (hf8817 37 (by decide))] at h9; exact h9
            have t8879 : 0 ≤ (v_lp8822 38).toInt ∧ (v_lp8822 38).toInt ≤ 120 := hI.1 38 _ _ rfl
            have t8880 : 0 ≤ z8874.toInt ∧ z8874.toInt ≤ 120 := hI.1 39 _ _ rfl
            have t8881 : 0 ≤ (v_lp8822 41).toInt ∧ (v_lp8822 41).toInt ≤ 8 := hI.1 41 _ _ rfl
            refine va_callv (va_runV (As := []) (rest := []) ⟨hx, hb, hml, hown, hwd⟩ (c_X12_product D fr lc rO rE l dC dI g c adK adV (va_up v_lp8822 39 z8874) F_lp8822 rc H.size  (d + 1) hg hI (by have h9 : (va_up v_lp8822 39 z8874) 38 = v_lp8822 38 := rfl; (try rw [h9]); clear h9; have h9 : (va_up v_lp8822 39 z8874) 39 = z8874 := rfl; (try rw [h9]); clear h9; have h9 : (va_up v_lp8822 39 z8874) 30 = v 30 := (hf_lp8822 30 (by decide)).trans (hf8817 30 (by decide)); (try rw [h9]); clear h9; have h9 : (va_up v_lp8822 39 z8874) 40 = v_lp8822 40 := rfl; (try rw [h9]); clear h9; have h9 : (va_up v_lp8822 39 z8874) 41 = v_lp8822 41 := rfl; (try rw [h9]); clear h9; omega) (by have h9 : (va_up v_lp8822 39 z8874) 37 = (v 37) := (hf_lp8822 37 (by decide)).trans (hf8817 37 (by decide)); have h8 : (va_up v_lp8822 39 z8874) 38 = (v_lp8822 38) := rfl; (try rw [h9]); (try rw [h8]); exact hd (by omega))) (cwV 0 hwd (gV wk_1042 wk_1044 wk_1045 wk_1046 wk_5) rfl rfl rfl (by decide +kernel) ⟨(by show fr + 5 + 1 ≤ fr + 6; omega), (by show 8 + (2 + 11) + (lc + 200) ≤ lc + 240; omega)⟩) ⟨PM.blind, va_recv hK hP (ci := 12) (q0 := 0) rfl rfl, fun U hU hW => ⟨rfl, PM.at hK hE hP hS hU hW⟩⟩ rfl rfl hl.1 rfl (lv_room (Nat.le_of_ble_eq_true rfl)) dX12_sum_45 ⟨Nat.le_of_ble_eq_true rfl, Nat.le_of_ble_eq_true rfl⟩) hS (fun q _ h => (freeM hS) q h) (freeM hS) (fun u t H1 locs ht hvm hw hB hz1 hk1 hS => ?_)
            unfold BM at hB
            rw [ht] at hB
            obtain ⟨v8883, F8884, rc9⟩ := u
            obtain ⟨hI, hrc, hf8885, hG8886, hw⟩ := hw
            dsimp only at hI hrc hB hf8885 hG8886 hw
            have hF := frCF (by decide) hG8886 hF
            rw [hrc] at hB
            have hP : va_P (dC, dI) classes (wM g c v8883 F8884 rc) H1 := hB
            replace hw : (z8874.toInt ≤ (v8883 39).toInt ∧ (v8883 39).toInt ≤ ((va_up v_lp8822 39 z8874) 30).toInt ∧ (v_lp8822 38).toInt ≤ (v8883 38).toInt ∧ (v8883 38).toInt - (v_lp8822 38).toInt ≤ (v8883 39).toInt - z8874.toInt ∧ (v_lp8822 41).toInt ≤ (v8883 41).toInt ∧ ((v8883 40).toInt < 0 → (v8883 41).toInt = (v_lp8822 41).toInt)) ∧ keepL ((va_up v_lp8822 39 z8874) 37) (F_lp8822 28) (F_lp8822 29) (F8884 28) (F8884 29) ∧ ((v8883 40).toInt < 0 → dp (F8884 28) (F8884 29) (bI ((va_up v_lp8822 39 z8874) 37)) (v8883 38).toInt.toNat = some ((d + 1) + 1)) := hw
            rw [show (va_up v_lp8822 39 z8874) 30 = v 30 from (hf_lp8822 30 (by decide)).trans (hf8817 30 (by decide))] at hw
            rw [show (va_up v_lp8822 39 z8874) 37 = v 37 from (hf_lp8822 37 (by decide)).trans (hf8817 37 (by decide))] at hw
            have hw_r8882 := hw
            clear hw
            have t8887 : 0 ≤ (v8883 38).toInt ∧ (v8883 38).toInt ≤ 120 := hI.1 38 _ _ rfl
            have t8888 : 0 ≤ (v8883 39).toInt ∧ (v8883 39).toInt ≤ 120 := hI.1 39 _ _ rfl
            have t8889 : 0 ≤ (v8883 41).toInt ∧ (v8883 41).toInt ≤ 8 := hI.1 41 _ _ rfl
            clear hz1
            generalize H1 = H at hP hS ⊢
            replace hk := hk.tr hw_r8882.2.1
            replace hd := hw_r8882.2.2
            replace hw_r8882 := hw_r8882.1
            refine lv_aload_n hx hb dX12_sum_48 rfl (lv_at hl 1 rfl) ?_
            refine lv_iload_n hx hb dX12_sum_49 rfl (lv_at hl 0 rfl) ?_
            refine lv_iconst (v := 0) hx hb dX12_sum_50 (by decide) ?_
            have t8890 : 0 ≤ (v 37).toInt ∧ (v 37).toInt ≤ 9 := by have h9 := hI.1 37 _ _ rfl; rw [show v8883 37 = v 37 from (hf8885 37 (by decide)).trans ((hf_lp8822 37 (by decide)).trans (hf8817 37 (by decide)))] at h9; exact h9
            have t8891 : 0 ≤ (v8883 38).toInt ∧ (v8883 38).toInt ≤ 120 := hI.1 38 _ _ rfl
            refine va_callv (va_runV (As := [.int r8872, .int 0]) (rest := []) ⟨hx, hb, hml, hown, hwd⟩ (c_X12_lay l dC dI g c adK adV v8883 F8884 rc H.size r8872 0 hg hI (by have h9 : v8883 38 = v8883 38 := rfl; rw [h9]; omega)) (cwV 2 hwd (gV wk_1021 wk_1018 wk_1019 wk_1020 wk_5) rfl rfl rfl (by decide +kernel) ⟨(by show 1 + 1 ≤ fr + 6; omega), (by show 8 + (3 + 11) + (40) ≤ lc + 240; omega)⟩) ⟨PM.blind, va_recv hK hP (ci := 12) (q0 := 0) rfl rfl, fun U hU hW => ⟨rfl, PM.at hK hE hP hS hU hW⟩⟩ rfl rfl hl.1 rfl (lv_room (Nat.le_of_ble_eq_true rfl)) dX12_sum_51 ⟨Nat.le_of_ble_eq_true rfl, Nat.le_of_ble_eq_true rfl⟩) hS (fun q _ h => (freeM hS) q h) (freeM hS) (fun u t H1 locs ht hvm hw hB hz1 hk1 hS => ?_)
            unfold BM at hB
            rw [ht] at hB
            obtain ⟨v8893, F8894, rc9⟩ := u
            obtain ⟨hI, hrc, hf8895, hG8896, hw⟩ := hw
            dsimp only at hI hrc hB hf8895 hG8896 hw
            have hF := frCF (by decide) hG8896 hF
            rw [hrc] at hB
            have hP : va_P (dC, dI) classes (wM g c v8893 F8894 rc) H1 := hB
            replace hw : (v8893 38).toInt = (v8883 38).toInt + 1 ∧ keepL (v8883 37) (F8884 28) (F8884 29) (F8894 28) (F8894 29) ∧ dp (F8894 28) (F8894 29) (bI (v8883 37)) ((v8883 38).toInt.toNat + 1) = dpS (dp (F8884 28) (F8884 29) (bI (v8883 37)) (v8883 38).toInt.toNat) r8872 (0 : Int32) := hw
            rw [show v8883 37 = v 37 from (hf8885 37 (by decide)).trans ((hf_lp8822 37 (by decide)).trans (hf8817 37 (by decide)))] at hw
            have hw_r8892 := hw
            clear hw
            have t8897 : 0 ≤ (v8893 38).toInt ∧ (v8893 38).toInt ≤ 120 := hI.1 38 _ _ rfl
            have k8898 : (0 : Int32).toInt = 0 := by decide
            clear hz1
            generalize H1 = H at hP hS ⊢
            replace hk := hk.tr hw_r8892.2.1
            replace hd : (v8883 40).toInt < 0 → dp (F8894 28) (F8894 29) (bI (v 37)) (v8893 38).toInt.toNat = some (((d + 1) + 1) - 1) := fun hf => (by have e9 : (v8893 38).toInt.toNat = (v8883 38).toInt.toNat + 1 := (by omega); rw [e9, hw_r8892.2.2, hd hf]; exact dpS_5 (by omega) (by omega) (by omega) (by omega) (by omega))
            replace hw_r8892 := hw_r8892.1
            refine lv_goto (tgt := 4) hx hb dX12_sum_54 (by decide) ?_
            exact ih_lp8822  v8893 F8894 _ _ _ (by have h9 : v8893 39 = v8883 39 := hf8895 39 (by decide); (try rw [h9]); clear h9; have h9 : v8893 38 = v8893 38 := rfl; (try rw [h9]); clear h9; have h9 : v8893 41 = v8883 41 := hf8895 41 (by decide); (try rw [h9]); clear h9; have h9 : v8893 40 = v8883 40 := hf8895 40 (by decide); (try rw [h9]); clear h9; omega) hk (by have h9 : v8893 40 = v8883 40 := hf8895 40 (by decide); (try rw [h9]); clear h9; have h9 : v8893 38 = v8893 38 := rfl; (try rw [h9]); clear h9; exact fun hf => (hd (by omega)).trans (congrArg some (by omega))) (by have h9 : v8893 39 = v8883 39 := hf8895 39 (by decide); rw [h9]; omega) (frC (by decide) hf8895 (frC (by decide) hf8885 (frU (by decide) hf_lp8822))) hI hF hP hS (lv_sub hl [1] rfl)
  obtain ⟨n9, hn9⟩ : ∃ n : Nat, 121 - (v8815 39).toInt ≤ (n : Int) := ⟨((121 - (v8815 39).toInt : Int)).toNat, by omega⟩
  exact lp8822 n9  v8815 F8816 H _ ls (by have h9 : v8815 39 = v8815 39 := rfl; (try rw [h9]); clear h9; have h9 : v8815 38 = v8815 38 := rfl; (try rw [h9]); clear h9; have h9 : v8815 41 = v8815 41 := rfl; (try rw [h9]); clear h9; have h9 : v8815 40 = v8815 40 := rfl; (try rw [h9]); clear h9; omega) hk (by have h9 : v8815 40 = v8815 40 := rfl; (try rw [h9]); clear h9; have h9 : v8815 38 = v8815 38 := rfl; (try rw [h9]); clear h9; exact fun hf => (hd (by omega)).trans (congrArg some (by omega))) (by have h9 : v8815 39 = v8815 39 := rfl; rw [h9]; omega) (fun _ _ => rfl) hI hF hP hS hl
