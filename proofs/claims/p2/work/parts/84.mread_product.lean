set_option maxHeartbeats 8000000 in
set_option maxRecDepth 100000 in
theorem c_X12_product (D : Int) (fr lc : Nat) (rO : RPM yX12_operand (Cond.code yX12_operand cX12_operand 2 none) (D + 1) fr lc) (rE : RPM yX12_either (Cond.code yX12_either cX12_either 2 none) (D + 1) (fr + 3) (lc + 120)) (l : Launch) (dC : Nat → ClassId) (dI : Nat → Nat → Nat) (g : Nat → Nat) (c : Nat → ClassId) (adK adV : Nat → Nat) (v : Nat → Int32) (F : Nat → Nat → Int32) (rc sz : Nat) (d : Nat) (hg : injM g) (hI : IM v F) (hq : (v 38).toInt ≤ (v 39).toInt ∧ (v 39).toInt ≤ (v 30).toInt ∧ (v 40).toInt < 0 ∧ (v 41).toInt = D) (hdp : dp (F 28) (F 29) (bI (v 37)) (v 38).toInt.toNat = some d) : Met l yX12_product (Cond.code yX12_product cX12_product 2 none :: wA) ({ frames := fr + 5, cells := 0, slots := 0, locals := lc + 200 }) (va_Pc [.ref (g 0)] (PM dC dI g c adK adV v F rc sz)) (va_Qv (fun (u : StM) => IM u.1 u.2.1 ∧ u.2.2 = rc ∧ (∀ k, k ∉ ([38, 39, 40, 41, 42] : List Nat) → u.1 k = v k) ∧ (∀ k, k ∉ ([28, 29] : List Nat) → u.2.1 k = F k) ∧ (((v 39).toInt ≤ (u.1 39).toInt ∧ (u.1 39).toInt ≤ (v 30).toInt ∧ (v 38).toInt ≤ (u.1 38).toInt ∧ (u.1 38).toInt - (v 38).toInt ≤ (u.1 39).toInt - (v 39).toInt ∧ (v 41).toInt ≤ (u.1 41).toInt ∧ ((u.1 40).toInt < 0 → (u.1 41).toInt = (v 41).toInt)) ∧ keepL (v 37) (F 28) (F 29) (u.2.1 28) (u.2.1 29) ∧ ((u.1 40).toInt < 0 → dp (u.2.1 28) (u.2.1 29) (bI (v 37)) (u.1 38).toInt.toNat = some (d + 1)))) (BM dC dI g c) (AM g sz)) 0 0 (AM g sz) := by
  refine Met.ofW (cc := cX12_product) (maxL := 2) (ret := none) (by decide) rfl ?_
  intro p e s m args below meth c0 s₁ B hml hv
  obtain ⟨rfl, hsz, hP, hK, hE⟩ := hv
  have hx := B.exec
  have hb := B.bytes
  have hr := B.returns
  have hts := atoms_spec (ws := Cond.code yX12_product cX12_product 2 none :: wA) B.pre
  have hwd : ∀ w ∈ wA, w.before _ s = true := fun w h => hts w (List.mem_cons_of_mem _ h)
  have hown : s.vm.findClass RX12 = some m.cls := findClass_of_methodNamed B.named
  have hlocks := B.notSynchronized
  subst hsz
  have hl := lv_entry ([.ref (g 0)]) (n := 2) (Nat.le_of_ble_eq_true rfl)
  rw [lg_entry_eq]
  generalize (lg_sl ([.ref (g 0)]) ++ List.replicate (2 - (lg_sl ([.ref (g 0)])).length) Slot.unset).toArray = ls at hl ⊢
  have hl : lv_has ls 2 [(0, .ref (g 0))] := hl
  obtain ⟨H, eH⟩ : ∃ z, z = s.heap := ⟨_, rfl⟩
  have hP : va_P (dC, dI) classes (wM g c v F rc) H := by rw [eH]; exact hP
  have hS : va_S (AM g s.heap.size) s.heap H [] := by rw [eH]; exact va_S.rf
  refine my_heap eH ?_
  have hF : ∀ k, k ∉ ([28, 29] : List Nat) → F k = F k := fun _ _ => rfl
  have hb30 : 0 ≤ (v 30).toInt ∧ (v 30).toInt ≤ 120 := hI.1 30 _ _ rfl
  have hb37 : 0 ≤ (v 37).toInt ∧ (v 37).toInt ≤ 9 := hI.1 37 _ _ rfl
  have hb38 : 0 ≤ (v 38).toInt ∧ (v 38).toInt ≤ 120 := hI.1 38 _ _ rfl
  have hb39 : 0 ≤ (v 39).toInt ∧ (v 39).toInt ≤ 120 := hI.1 39 _ _ rfl
  have hb41 : 0 ≤ (v 41).toInt ∧ (v 41).toInt ≤ 8 := hI.1 41 _ _ rfl
  have hk : keepL (v 37) (F 28) (F 29) (F 28) (F 29) := keepL.rf
  have hd : (v 40).toInt < 0 → dp (F 28) (F 29) (bI (v 37)) (v 38).toInt.toNat = some d := fun _ => hdp
  refine lv_aload_n hx hb dX12_product_0 rfl (lv_at hl 0 rfl) ?_
  have t11086 : 0 ≤ (v 30).toInt ∧ (v 30).toInt ≤ 120 := hI.1 30 _ _ rfl
  have t11087 : 0 ≤ (v 37).toInt ∧ (v 37).toInt ≤ 9 := hI.1 37 _ _ rfl
  have t11088 : 0 ≤ (v 38).toInt ∧ (v 38).toInt ≤ 120 := hI.1 38 _ _ rfl
  have t11089 : 0 ≤ (v 39).toInt ∧ (v 39).toInt ≤ 120 := hI.1 39 _ _ rfl
  have t11090 : 0 ≤ (v 41).toInt ∧ (v 41).toInt ≤ 8 := hI.1 41 _ _ rfl
  refine va_callv (va_runV (As := []) (rest := []) ⟨hx, hb, hml, hown, hwd⟩ (c_X12_operand D fr lc rO rE l dC dI g c adK adV v F rc H.size  d hg hI (by have h9 : v 38 = v 38 := rfl; (try rw [h9]); clear h9; have h9 : v 39 = v 39 := rfl; (try rw [h9]); clear h9; have h9 : v 30 = v 30 := rfl; (try rw [h9]); clear h9; have h9 : v 40 = v 40 := rfl; (try rw [h9]); clear h9; have h9 : v 41 = v 41 := rfl; (try rw [h9]); clear h9; omega) (by have h9 : v 37 = (v 37) := rfl; have h8 : v 38 = (v 38) := rfl; (try rw [h9]); (try rw [h8]); exact hd (by omega))) (cwV 0 hwd (gV wk_1030 wk_1035 wk_1036 wk_1037 wk_5) rfl rfl rfl (by decide +kernel) ⟨(by show fr + 4 + 1 ≤ fr + 5; omega), (by show 8 + (2 + 11) + (lc + 160) ≤ lc + 200; omega)⟩) ⟨PM.blind, va_recv hK hP (ci := 12) (q0 := 0) rfl rfl, fun U hU hW => ⟨rfl, PM.at hK hE hP hS hU hW⟩⟩ rfl rfl hl.1 rfl (lv_room (Nat.le_of_ble_eq_true rfl)) dX12_product_1 ⟨Nat.le_of_ble_eq_true rfl, Nat.le_of_ble_eq_true rfl⟩) hS (fun q _ h => (freeM hS) q h) (freeM hS) (fun u t H1 locs ht hvm hw hB hz1 hk1 hS => ?_)
  unfold BM at hB
  rw [ht] at hB
  obtain ⟨v11092, F11093, rc9⟩ := u
  obtain ⟨hI, hrc, hf11094, hG11095, hw⟩ := hw
  dsimp only at hI hrc hB hf11094 hG11095 hw
  have hF := frCF (by decide) hG11095 hF
  rw [hrc] at hB
  have hP : va_P (dC, dI) classes (wM g c v11092 F11093 rc) H1 := hB
  replace hw : ((v 39).toInt ≤ (v11092 39).toInt ∧ (v11092 39).toInt ≤ (v 30).toInt ∧ (v 38).toInt ≤ (v11092 38).toInt ∧ (v11092 38).toInt - (v 38).toInt ≤ (v11092 39).toInt - (v 39).toInt ∧ (v 41).toInt ≤ (v11092 41).toInt ∧ ((v11092 40).toInt < 0 → (v11092 41).toInt = (v 41).toInt)) ∧ keepL (v 37) (F 28) (F 29) (F11093 28) (F11093 29) ∧ ((v11092 40).toInt < 0 → dp (F11093 28) (F11093 29) (bI (v 37)) (v11092 38).toInt.toNat = some (d + 1)) := hw
  have hw_r11091 := hw
  clear hw
  have t11096 : 0 ≤ (v11092 38).toInt ∧ (v11092 38).toInt ≤ 120 := hI.1 38 _ _ rfl
  have t11097 : 0 ≤ (v11092 39).toInt ∧ (v11092 39).toInt ≤ 120 := hI.1 39 _ _ rfl
  have t11098 : 0 ≤ (v11092 41).toInt ∧ (v11092 41).toInt ≤ 8 := hI.1 41 _ _ rfl
  clear hz1
  generalize H1 = H at hP hS ⊢
  replace hk := hk.tr hw_r11091.2.1
  replace hd := hw_r11091.2.2
  replace hw_r11091 := hw_r11091.1
  have lp11099 : ∀ (n : Nat) (v_lp11099 : Nat → Int32) (F_lp11099 : Nat → Nat → Int32) (H : Heap) (locs : List Loc) (ls : Array Slot), ((v 39).toInt ≤ (v_lp11099 39).toInt ∧ (v_lp11099 39).toInt ≤ (v 30).toInt ∧ (v 38).toInt ≤ (v_lp11099 38).toInt ∧ (v_lp11099 38).toInt - (v 38).toInt ≤ (v_lp11099 39).toInt - (v 39).toInt ∧ (v 41).toInt ≤ (v_lp11099 41).toInt ∧ ((v_lp11099 40).toInt < 0 → (v_lp11099 41).toInt = (v 41).toInt)) → (keepL (v 37) (F 28) (F 29) (F_lp11099 28) (F_lp11099 29)) → (((v_lp11099 40).toInt < 0 → dp (F_lp11099 28) (F_lp11099 29) (bI (v 37)) (v_lp11099 38).toInt.toNat = some (d + 1))) → (121 - (v_lp11099 39).toInt ≤ (n : Int)) → (∀ k, k ∉ ([38, 39, 40, 41, 42] : List Nat) → v_lp11099 k = v11092 k) → IM v_lp11099 F_lp11099 → (∀ k, k ∉ ([28, 29] : List Nat) → F_lp11099 k = F k) → va_P (dC, dI) classes (wM g c v_lp11099 F_lp11099 rc) H → va_S (AM g s.heap.size) s.heap H locs → lv_has ls 2 [(0, .ref (g 0))] → W p l e (headSpec (Cond.code yX12_product cX12_product 2 none :: wA) ({ frames := fr + 5, cells := 0, slots := 0, locals := lc + 200 })).room s m ([.ref (g 0)] : List Value).toArray below meth c0 H locs 0 0 (MQ below (va_Qv (fun (u : StM) => IM u.1 u.2.1 ∧ u.2.2 = rc ∧ (∀ k, k ∉ ([38, 39, 40, 41, 42] : List Nat) → u.1 k = v k) ∧ (∀ k, k ∉ ([28, 29] : List Nat) → u.2.1 k = F k) ∧ (((v 39).toInt ≤ (u.1 39).toInt ∧ (u.1 39).toInt ≤ (v 30).toInt ∧ (v 38).toInt ≤ (u.1 38).toInt ∧ (u.1 38).toInt - (v 38).toInt ≤ (u.1 39).toInt - (v 39).toInt ∧ (v 41).toInt ≤ (u.1 41).toInt ∧ ((u.1 40).toInt < 0 → (u.1 41).toInt = (v 41).toInt)) ∧ keepL (v 37) (F 28) (F 29) (u.2.1 28) (u.2.1 29) ∧ ((u.1 40).toInt < 0 → dp (u.2.1 28) (u.2.1 29) (bI (v 37)) (u.1 38).toInt.toNat = some (d + 1)))) (BM dC dI g c) (AM g s.heap.size)) ([.ref (g 0)] : List Value).toArray s 0 0 (AM g s.heap.size)) (F0 m 4 ls []) := by
    intro n
    induction n with
    | zero =>
      intro v_lp11099 F_lp11099 H locs ls t11100 t11101 t11102 hm hf_lp11099 hI hF hP hS hl
      exfalso
      have hI1 := hI.1
      omega
    | succ n ih_lp11099 =>
      intro v_lp11099 F_lp11099 H locs ls t11100 t11101 t11102 hm hf_lp11099 hI hF hP hS hl
      clear hk hd
      have hk := t11101
      have hd := t11102
      clear t11101 t11102
      refine lv_aload_n hx hb dX12_product_4 rfl (lv_at hl 0 rfl) ?_
      refine va_get (D := (dC, dI)) (ci := 12) (v := .int (v_lp11099 40)) (C := RX12) (T := TX12) (N := 63) hx hb hwd inA_X12 hown hK hP 0 rfl rfl 40 (by decide) (hwd _ wk_1005) (fun _ h9 => h9) rfl dX12_product_5 ?_
      refine lv_if_ge (tgt := 57) hx hb dX12_product_8 (by decide) (fun c11103 => ?_) (fun c11103 => ?_)
      · skip
        have t11104 := cv_le (a := 0) (by decide) (b := (v_lp11099 40).toInt) rfl c11103
        have hP9 : va_P (dC, dI) classes (wM g c v_lp11099 F_lp11099 rc) H := hP
        exact W.vret hx hb hr (fun t ht hW => ⟨⟨(v_lp11099, F_lp11099, rc), rfl, ⟨hI, rfl, (frC (by decide) hf_lp11099 (frC (by decide) hf11094 (fun _ _ => rfl))), hF, (by show ((v 39).toInt ≤ (v_lp11099 39).toInt ∧ (v_lp11099 39).toInt ≤ (v 30).toInt ∧ (v 38).toInt ≤ (v_lp11099 38).toInt ∧ (v_lp11099 38).toInt - (v 38).toInt ≤ (v_lp11099 39).toInt - (v 39).toInt ∧ (v 41).toInt ≤ (v_lp11099 41).toInt ∧ ((v_lp11099 40).toInt < 0 → (v_lp11099 41).toInt = (v 41).toInt)) ∧ keepL (v 37) (F 28) (F 29) (F_lp11099 28) (F_lp11099 29) ∧ ((v_lp11099 40).toInt < 0 → dp (F_lp11099 28) (F_lp11099 29) (bI (v 37)) (v_lp11099 38).toInt.toNat = some (d + 1)); exact ⟨by omega, hk, fun hf => (hd (by omega)).trans (congrArg some (by omega))⟩)⟩, (by show va_P _ _ _ t.heap; rw [ht]; exact hP9)⟩, hS.F ht⟩) hS.2.2 dX12_product_57
      · skip
        have t11105 := cv_nle (a := 0) (by decide) (b := (v_lp11099 40).toInt) rfl c11103
        refine lv_aload_n hx hb dX12_product_11 rfl (lv_at hl 0 rfl) ?_
        have t11106 : 0 ≤ (v 30).toInt ∧ (v 30).toInt ≤ 120 := by have h9 := hI.1 30 _ _ rfl; rw [show v_lp11099 30 = v 30 from (hf_lp11099 30 (by decide)).trans (hf11094 30 (by decide))] at h9; exact h9
        have t11107 : 0 ≤ (v_lp11099 39).toInt ∧ (v_lp11099 39).toInt ≤ 120 := hI.1 39 _ _ rfl
        refine va_calli (va_runV (As := []) (rest := []) ⟨hx, hb, hml, hown, hwd⟩ (c_X12_look l dC dI g c adK adV v_lp11099 F_lp11099 rc H.size  hg hI ) (cwV 0 hwd (gV wk_1017 wk_1014 wk_1015 wk_1016 wk_5) rfl rfl rfl (by decide +kernel) ⟨(by show 1 + 1 ≤ fr + 5; omega), (by show 8 + (1 + 11) + (40) ≤ lc + 200; omega)⟩) ⟨PM.blind, va_recv hK hP (ci := 12) (q0 := 0) rfl rfl, fun U hU hW => ⟨rfl, PM.at hK hE hP hS hU hW⟩⟩ rfl rfl hl.1 rfl (lv_room (Nat.le_of_ble_eq_true rfl)) dX12_product_12 ⟨Nat.le_of_ble_eq_true rfl, Nat.le_of_ble_eq_true rfl⟩) hS (fun q _ h => (freeM hS) q h) (freeM hS) (fun r11108 u t H1 locs ht hvm hw hB hz1 hk1 hS => ?_)
        unfold BM at hB
        rw [ht] at hB
        have hP : va_P (dC, dI) classes (wM g c v_lp11099 F_lp11099 rc) H1 := hB
        replace hw : r11108.toInt = lkM (v_lp11099 39) (v_lp11099 30) (F_lp11099 24) ∧ ((v_lp11099 39).toInt < (v_lp11099 30).toInt ∨ r11108.toInt = -1) := hw
        rw [show v_lp11099 30 = v 30 from (hf_lp11099 30 (by decide)).trans (hf11094 30 (by decide))] at hw
        rw [hF 24 (by decide)] at hw
        have hw_r11108 := hw
        clear hw
        clear hz1
        generalize H1 = H at hP hS ⊢
        refine lv_bipush (v := 42) hx hb dX12_product_15 (by decide) ?_
        refine lv_icmp_eq (tgt := 29) hx hb dX12_product_17 (by decide) (fun c11109 => ?_) (fun c11109 => ?_)
        · skip
          have t11110 := cv_eq (a := r11108.toInt) rfl (b := 42) (by decide) c11109
          refine lv_aload_n hx hb dX12_product_29 rfl (lv_at hl 0 rfl) ?_
          have t11111 : 0 ≤ (v 30).toInt ∧ (v 30).toInt ≤ 120 := by have h9 := hI.1 30 _ _ rfl; rw [show v_lp11099 30 = v 30 from (hf_lp11099 30 (by decide)).trans (hf11094 30 (by decide))] at h9; exact h9
          have t11112 : 0 ≤ (v_lp11099 39).toInt ∧ (v_lp11099 39).toInt ≤ 120 := hI.1 39 _ _ rfl
          refine va_calli (va_runV (As := []) (rest := []) ⟨hx, hb, hml, hown, hwd⟩ (c_X12_look l dC dI g c adK adV v_lp11099 F_lp11099 rc H.size  hg hI ) (cwV 0 hwd (gV wk_1017 wk_1014 wk_1015 wk_1016 wk_5) rfl rfl rfl (by decide +kernel) ⟨(by show 1 + 1 ≤ fr + 5; omega), (by show 8 + (1 + 11) + (40) ≤ lc + 200; omega)⟩) ⟨PM.blind, va_recv hK hP (ci := 12) (q0 := 0) rfl rfl, fun U hU hW => ⟨rfl, PM.at hK hE hP hS hU hW⟩⟩ rfl rfl hl.1 rfl (lv_room (Nat.le_of_ble_eq_true rfl)) dX12_product_30 ⟨Nat.le_of_ble_eq_true rfl, Nat.le_of_ble_eq_true rfl⟩) hS (fun q _ h => (freeM hS) q h) (freeM hS) (fun r11113 u t H1 locs ht hvm hw hB hz1 hk1 hS => ?_)
          unfold BM at hB
          rw [ht] at hB
          have hP : va_P (dC, dI) classes (wM g c v_lp11099 F_lp11099 rc) H1 := hB
          replace hw : r11113.toInt = lkM (v_lp11099 39) (v_lp11099 30) (F_lp11099 24) ∧ ((v_lp11099 39).toInt < (v_lp11099 30).toInt ∨ r11113.toInt = -1) := hw
          rw [show v_lp11099 30 = v 30 from (hf_lp11099 30 (by decide)).trans (hf11094 30 (by decide))] at hw
          rw [hF 24 (by decide)] at hw
          have hw_r11113 := hw
          clear hw
          clear hz1
          generalize H1 = H at hP hS ⊢
          refine lv_istore_n (lv' := [(1, .int r11113), (0, .ref (g 0))]) hx hb dX12_product_33 rfl hl (by decide) rfl (fun ls hl => ?_)
          refine lv_aload_n hx hb dX12_product_34 rfl (lv_at hl 1 rfl) ?_
          refine lv_dup hx hb dX12_product_35 rfl ?_
          refine va_get (D := (dC, dI)) (ci := 12) (v := .int (v_lp11099 39)) (C := RX12) (T := TX12) (N := 63) hx hb hwd inA_X12 hown hK hP 0 rfl rfl 39 (by decide) (hwd _ wk_1004) (fun _ h9 => h9) rfl dX12_product_36 ?_
          have t11114 : 0 ≤ (v_lp11099 39).toInt ∧ (v_lp11099 39).toInt ≤ 120 := hI.1 39 _ _ rfl
          refine lv_iconst (v := 1) hx hb dX12_product_39 (by decide) ?_
          refine lv_iadd hx hb dX12_product_40 ?_
          refine lv_topi (fun z11115 e11116 => ?_)
          try (have t11117 := tadd e11116 (a := (v_lp11099 39).toInt) rfl (b := 1) (by decide) (by omega))
          refine va_put (D := (dC, dI)) (ci := 12) (v := .int z11115) (ty := .int) (C := RX12) (T := TX12) (N := 63) (fs := fsM_0 g v_lp11099 rc) hx hb hwd inA_X12 tyX12 tyX12_ok nmX12 hown hK hP (DM hg) hS 0 rfl rfl 39 (by decide) (hwd _ wk_1004) (fun _ h9 => h9) rfl (by decide +kernel) rfl rfl (Nat.le_of_ble_eq_true rfl) dX12_product_41 (fun H locs hP _ hS => ?_)
          have hP := va_P_eq (pM_39 g c _ _ _ _) hP
          have hI := IM.put hI 39 z11115 rfl (by omega)
          refine lv_aload_n hx hb dX12_product_44 rfl (lv_at hl 1 rfl) ?_
          have t11118 : 0 ≤ (v 30).toInt ∧ (v 30).toInt ≤ 120 := by have h9 := hI.1 30 _ _ rfl; rw [show (va_up v_lp11099 39 z11115) 30 = v 30 from (hf_lp11099 30 (by decide)).trans (hf11094 30 (by decide))] at h9; exact h9
          have t11119 : 0 ≤ (v 37).toInt ∧ (v 37).toInt ≤ 9 := by have h9 := hI.1 37 _ _ rfl; rw [show (va_up v_lp11099 39 z11115) 37 = v 37 from (hf_lp11099 37 (by decide)).trans (hf11094 37 (by decide))] at h9; exact h9
          have t11120 : 0 ≤ (v_lp11099 38).toInt ∧ (v_lp11099 38).toInt ≤ 120 := hI.1 38 _ _ rfl
          have t11121 : 0 ≤ z11115.toInt ∧ z11115.toInt ≤ 120 := hI.1 39 _ _ rfl
          have t11122 : 0 ≤ (v_lp11099 41).toInt ∧ (v_lp11099 41).toInt ≤ 8 := hI.1 41 _ _ rfl
          refine va_callv (va_runV (As := []) (rest := []) ⟨hx, hb, hml, hown, hwd⟩ (c_X12_operand D fr lc rO rE l dC dI g c adK adV (va_up v_lp11099 39 z11115) F_lp11099 rc H.size  (d + 1) hg hI (by have h9 : (va_up v_lp11099 39 z11115) 38 = v_lp11099 38 := rfl; (try rw [h9]); clear h9; have h9 : (va_up v_lp11099 39 z11115) 39 = z11115 := rfl; (try rw [h9]); clear h9; have h9 : (va_up v_lp11099 39 z11115) 30 = v 30 := (hf_lp11099 30 (by decide)).trans (hf11094 30 (by decide)); (try rw [h9]); clear h9; have h9 : (va_up v_lp11099 39 z11115) 40 = v_lp11099 40 := rfl; (try rw [h9]); clear h9; have h9 : (va_up v_lp11099 39 z11115) 41 = v_lp11099 41 := rfl; (try rw [h9]); clear h9; omega) (by have h9 : (va_up v_lp11099 39 z11115) 37 = (v 37) := (hf_lp11099 37 (by decide)).trans (hf11094 37 (by decide)); have h8 : (va_up v_lp11099 39 z11115) 38 = (v_lp11099 38) := rfl; (try rw [h9]); (try rw [h8]); exact hd (by omega))) (cwV 0 hwd (gV wk_1030 wk_1035 wk_1036 wk_1037 wk_5) rfl rfl rfl (by decide +kernel) ⟨(by show fr + 4 + 1 ≤ fr + 5; omega), (by show 8 + (2 + 11) + (lc + 160) ≤ lc + 200; omega)⟩) ⟨PM.blind, va_recv hK hP (ci := 12) (q0 := 0) rfl rfl, fun U hU hW => ⟨rfl, PM.at hK hE hP hS hU hW⟩⟩ rfl rfl hl.1 rfl (lv_room (Nat.le_of_ble_eq_true rfl)) dX12_product_45 ⟨Nat.le_of_ble_eq_true rfl, Nat.le_of_ble_eq_true rfl⟩) hS (fun q _ h => (freeM hS) q h) (freeM hS) (fun u t H1 locs ht hvm hw hB hz1 hk1 hS => ?_)
          unfold BM at hB
          rw [ht] at hB
          obtain ⟨v11124, F11125, rc9⟩ := u
          obtain ⟨hI, hrc, hf11126, hG11127, hw⟩ := hw
          dsimp only at hI hrc hB hf11126 hG11127 hw
          have hF := frCF (by decide) hG11127 hF
          rw [hrc] at hB
          have hP : va_P (dC, dI) classes (wM g c v11124 F11125 rc) H1 := hB
          replace hw : (z11115.toInt ≤ (v11124 39).toInt ∧ (v11124 39).toInt ≤ ((va_up v_lp11099 39 z11115) 30).toInt ∧ (v_lp11099 38).toInt ≤ (v11124 38).toInt ∧ (v11124 38).toInt - (v_lp11099 38).toInt ≤ (v11124 39).toInt - z11115.toInt ∧ (v_lp11099 41).toInt ≤ (v11124 41).toInt ∧ ((v11124 40).toInt < 0 → (v11124 41).toInt = (v_lp11099 41).toInt)) ∧ keepL ((va_up v_lp11099 39 z11115) 37) (F_lp11099 28) (F_lp11099 29) (F11125 28) (F11125 29) ∧ ((v11124 40).toInt < 0 → dp (F11125 28) (F11125 29) (bI ((va_up v_lp11099 39 z11115) 37)) (v11124 38).toInt.toNat = some ((d + 1) + 1)) := hw
          rw [show (va_up v_lp11099 39 z11115) 30 = v 30 from (hf_lp11099 30 (by decide)).trans (hf11094 30 (by decide))] at hw
          rw [show (va_up v_lp11099 39 z11115) 37 = v 37 from (hf_lp11099 37 (by decide)).trans (hf11094 37 (by decide))] at hw
          have hw_r11123 := hw
          clear hw
          have t11128 : 0 ≤ (v11124 38).toInt ∧ (v11124 38).toInt ≤ 120 := hI.1 38 _ _ rfl
          have t11129 : 0 ≤ (v11124 39).toInt ∧ (v11124 39).toInt ≤ 120 := hI.1 39 _ _ rfl
          have t11130 : 0 ≤ (v11124 41).toInt ∧ (v11124 41).toInt ≤ 8 := hI.1 41 _ _ rfl
          clear hz1
          generalize H1 = H at hP hS ⊢
          replace hk := hk.tr hw_r11123.2.1
          replace hd := hw_r11123.2.2
          replace hw_r11123 := hw_r11123.1
          refine lv_aload_n hx hb dX12_product_48 rfl (lv_at hl 1 rfl) ?_
          refine lv_iload_n hx hb dX12_product_49 rfl (lv_at hl 0 rfl) ?_
          refine lv_iconst (v := 0) hx hb dX12_product_50 (by decide) ?_
          have t11131 : 0 ≤ (v 37).toInt ∧ (v 37).toInt ≤ 9 := by have h9 := hI.1 37 _ _ rfl; rw [show v11124 37 = v 37 from (hf11126 37 (by decide)).trans ((hf_lp11099 37 (by decide)).trans (hf11094 37 (by decide)))] at h9; exact h9
          have t11132 : 0 ≤ (v11124 38).toInt ∧ (v11124 38).toInt ≤ 120 := hI.1 38 _ _ rfl
          refine va_callv (va_runV (As := [.int r11113, .int 0]) (rest := []) ⟨hx, hb, hml, hown, hwd⟩ (c_X12_lay l dC dI g c adK adV v11124 F11125 rc H.size r11113 0 hg hI (by have h9 : v11124 38 = v11124 38 := rfl; rw [h9]; omega)) (cwV 2 hwd (gV wk_1021 wk_1018 wk_1019 wk_1020 wk_5) rfl rfl rfl (by decide +kernel) ⟨(by show 1 + 1 ≤ fr + 5; omega), (by show 8 + (3 + 11) + (40) ≤ lc + 200; omega)⟩) ⟨PM.blind, va_recv hK hP (ci := 12) (q0 := 0) rfl rfl, fun U hU hW => ⟨rfl, PM.at hK hE hP hS hU hW⟩⟩ rfl rfl hl.1 rfl (lv_room (Nat.le_of_ble_eq_true rfl)) dX12_product_51 ⟨Nat.le_of_ble_eq_true rfl, Nat.le_of_ble_eq_true rfl⟩) hS (fun q _ h => (freeM hS) q h) (freeM hS) (fun u t H1 locs ht hvm hw hB hz1 hk1 hS => ?_)
          unfold BM at hB
          rw [ht] at hB
          obtain ⟨v11134, F11135, rc9⟩ := u
          obtain ⟨hI, hrc, hf11136, hG11137, hw⟩ := hw
          dsimp only at hI hrc hB hf11136 hG11137 hw
          have hF := frCF (by decide) hG11137 hF
          rw [hrc] at hB
          have hP : va_P (dC, dI) classes (wM g c v11134 F11135 rc) H1 := hB
          replace hw : (v11134 38).toInt = (v11124 38).toInt + 1 ∧ keepL (v11124 37) (F11125 28) (F11125 29) (F11135 28) (F11135 29) ∧ dp (F11135 28) (F11135 29) (bI (v11124 37)) ((v11124 38).toInt.toNat + 1) = dpS (dp (F11125 28) (F11125 29) (bI (v11124 37)) (v11124 38).toInt.toNat) r11113 (0 : Int32) := hw
          rw [show v11124 37 = v 37 from (hf11126 37 (by decide)).trans ((hf_lp11099 37 (by decide)).trans (hf11094 37 (by decide)))] at hw
          have hw_r11133 := hw
          clear hw
          have t11138 : 0 ≤ (v11134 38).toInt ∧ (v11134 38).toInt ≤ 120 := hI.1 38 _ _ rfl
          have k11139 : (0 : Int32).toInt = 0 := by decide
          clear hz1
          generalize H1 = H at hP hS ⊢
          replace hk := hk.tr hw_r11133.2.1
          replace hd : (v11124 40).toInt < 0 → dp (F11135 28) (F11135 29) (bI (v 37)) (v11134 38).toInt.toNat = some (((d + 1) + 1) - 1) := fun hf => (by have e9 : (v11134 38).toInt.toNat = (v11124 38).toInt.toNat + 1 := (by omega); rw [e9, hw_r11133.2.2, hd hf]; exact dpS_5 (by omega) (by omega) (by omega) (by omega) (by omega))
          replace hw_r11133 := hw_r11133.1
          refine lv_goto (tgt := 4) hx hb dX12_product_54 (by decide) ?_
          exact ih_lp11099  v11134 F11135 _ _ _ (by have h9 : v11134 39 = v11124 39 := hf11136 39 (by decide); (try rw [h9]); clear h9; have h9 : v11134 38 = v11134 38 := rfl; (try rw [h9]); clear h9; have h9 : v11134 41 = v11124 41 := hf11136 41 (by decide); (try rw [h9]); clear h9; have h9 : v11134 40 = v11124 40 := hf11136 40 (by decide); (try rw [h9]); clear h9; omega) hk (by have h9 : v11134 40 = v11124 40 := hf11136 40 (by decide); (try rw [h9]); clear h9; have h9 : v11134 38 = v11134 38 := rfl; (try rw [h9]); clear h9; exact fun hf => (hd (by omega)).trans (congrArg some (by omega))) (by have h9 : v11134 39 = v11124 39 := hf11136 39 (by decide); rw [h9]; omega) (frC (by decide) hf11136 (frC (by decide) hf11126 (frU (by decide) hf_lp11099))) hI hF hP hS (lv_sub hl [1] rfl)
        · skip
          have t11140 := cv_ne (a := r11108.toInt) rfl (b := 42) (by decide) c11109
          refine lv_aload_n hx hb dX12_product_20 rfl (lv_at hl 0 rfl) ?_
          have t11141 : 0 ≤ (v 30).toInt ∧ (v 30).toInt ≤ 120 := by have h9 := hI.1 30 _ _ rfl; rw [show v_lp11099 30 = v 30 from (hf_lp11099 30 (by decide)).trans (hf11094 30 (by decide))] at h9; exact h9
          have t11142 : 0 ≤ (v_lp11099 39).toInt ∧ (v_lp11099 39).toInt ≤ 120 := hI.1 39 _ _ rfl
          refine va_calli (va_runV (As := []) (rest := []) ⟨hx, hb, hml, hown, hwd⟩ (c_X12_look l dC dI g c adK adV v_lp11099 F_lp11099 rc H.size  hg hI ) (cwV 0 hwd (gV wk_1017 wk_1014 wk_1015 wk_1016 wk_5) rfl rfl rfl (by decide +kernel) ⟨(by show 1 + 1 ≤ fr + 5; omega), (by show 8 + (1 + 11) + (40) ≤ lc + 200; omega)⟩) ⟨PM.blind, va_recv hK hP (ci := 12) (q0 := 0) rfl rfl, fun U hU hW => ⟨rfl, PM.at hK hE hP hS hU hW⟩⟩ rfl rfl hl.1 rfl (lv_room (Nat.le_of_ble_eq_true rfl)) dX12_product_21 ⟨Nat.le_of_ble_eq_true rfl, Nat.le_of_ble_eq_true rfl⟩) hS (fun q _ h => (freeM hS) q h) (freeM hS) (fun r11143 u t H1 locs ht hvm hw hB hz1 hk1 hS => ?_)
          unfold BM at hB
          rw [ht] at hB
          have hP : va_P (dC, dI) classes (wM g c v_lp11099 F_lp11099 rc) H1 := hB
          replace hw : r11143.toInt = lkM (v_lp11099 39) (v_lp11099 30) (F_lp11099 24) ∧ ((v_lp11099 39).toInt < (v_lp11099 30).toInt ∨ r11143.toInt = -1) := hw
          rw [show v_lp11099 30 = v 30 from (hf_lp11099 30 (by decide)).trans (hf11094 30 (by decide))] at hw
          rw [hF 24 (by decide)] at hw
          have hw_r11143 := hw
          clear hw
          clear hz1
          generalize H1 = H at hP hS ⊢
          refine lv_bipush (v := 47) hx hb dX12_product_24 (by decide) ?_
          refine lv_icmp_ne (tgt := 57) hx hb dX12_product_26 (by decide) (fun c11144 => ?_) (fun c11144 => ?_)
          · skip
            have t11145 := cv_ne (a := r11143.toInt) rfl (b := 47) (by decide) c11144
            have hP9 : va_P (dC, dI) classes (wM g c v_lp11099 F_lp11099 rc) H := hP
            exact W.vret hx hb hr (fun t ht hW => ⟨⟨(v_lp11099, F_lp11099, rc), rfl, ⟨hI, rfl, (frC (by decide) hf_lp11099 (frC (by decide) hf11094 (fun _ _ => rfl))), hF, (by show ((v 39).toInt ≤ (v_lp11099 39).toInt ∧ (v_lp11099 39).toInt ≤ (v 30).toInt ∧ (v 38).toInt ≤ (v_lp11099 38).toInt ∧ (v_lp11099 38).toInt - (v 38).toInt ≤ (v_lp11099 39).toInt - (v 39).toInt ∧ (v 41).toInt ≤ (v_lp11099 41).toInt ∧ ((v_lp11099 40).toInt < 0 → (v_lp11099 41).toInt = (v 41).toInt)) ∧ keepL (v 37) (F 28) (F 29) (F_lp11099 28) (F_lp11099 29) ∧ ((v_lp11099 40).toInt < 0 → dp (F_lp11099 28) (F_lp11099 29) (bI (v 37)) (v_lp11099 38).toInt.toNat = some (d + 1)); exact ⟨by omega, hk, fun hf => (hd (by omega)).trans (congrArg some (by omega))⟩)⟩, (by show va_P _ _ _ t.heap; rw [ht]; exact hP9)⟩, hS.F ht⟩) hS.2.2 dX12_product_57
          · skip
            have t11146 := cv_eq (a := r11143.toInt) rfl (b := 47) (by decide) c11144
            refine lv_aload_n hx hb dX12_product_29 rfl (lv_at hl 0 rfl) ?_
            have t11147 : 0 ≤ (v 30).toInt ∧ (v 30).toInt ≤ 120 := by have h9 := hI.1 30 _ _ rfl; rw [show v_lp11099 30 = v 30 from (hf_lp11099 30 (by decide)).trans (hf11094 30 (by decide))] at h9; exact h9
            have t11148 : 0 ≤ (v_lp11099 39).toInt ∧ (v_lp11099 39).toInt ≤ 120 := hI.1 39 _ _ rfl
            refine va_calli (va_runV (As := []) (rest := []) ⟨hx, hb, hml, hown, hwd⟩ (c_X12_look l dC dI g c adK adV v_lp11099 F_lp11099 rc H.size  hg hI ) (cwV 0 hwd (gV wk_1017 wk_1014 wk_1015 wk_1016 wk_5) rfl rfl rfl (by decide +kernel) ⟨(by show 1 + 1 ≤ fr + 5; omega), (by show 8 + (1 + 11) + (40) ≤ lc + 200; omega)⟩) ⟨PM.blind, va_recv hK hP (ci := 12) (q0 := 0) rfl rfl, fun U hU hW => ⟨rfl, PM.at hK hE hP hS hU hW⟩⟩ rfl rfl hl.1 rfl (lv_room (Nat.le_of_ble_eq_true rfl)) dX12_product_30 ⟨Nat.le_of_ble_eq_true rfl, Nat.le_of_ble_eq_true rfl⟩) hS (fun q _ h => (freeM hS) q h) (freeM hS) (fun r11149 u t H1 locs ht hvm hw hB hz1 hk1 hS => ?_)
            unfold BM at hB
            rw [ht] at hB
            have hP : va_P (dC, dI) classes (wM g c v_lp11099 F_lp11099 rc) H1 := hB
            replace hw : r11149.toInt = lkM (v_lp11099 39) (v_lp11099 30) (F_lp11099 24) ∧ ((v_lp11099 39).toInt < (v_lp11099 30).toInt ∨ r11149.toInt = -1) := hw
            rw [show v_lp11099 30 = v 30 from (hf_lp11099 30 (by decide)).trans (hf11094 30 (by decide))] at hw
            rw [hF 24 (by decide)] at hw
            have hw_r11149 := hw
            clear hw
            clear hz1
            generalize H1 = H at hP hS ⊢
            refine lv_istore_n (lv' := [(1, .int r11149), (0, .ref (g 0))]) hx hb dX12_product_33 rfl hl (by decide) rfl (fun ls hl => ?_)
            refine lv_aload_n hx hb dX12_product_34 rfl (lv_at hl 1 rfl) ?_
            refine lv_dup hx hb dX12_product_35 rfl ?_
            refine va_get (D := (dC, dI)) (ci := 12) (v := .int (v_lp11099 39)) (C := RX12) (T := TX12) (N := 63) hx hb hwd inA_X12 hown hK hP 0 rfl rfl 39 (by decide) (hwd _ wk_1004) (fun _ h9 => h9) rfl dX12_product_36 ?_
            have t11150 : 0 ≤ (v_lp11099 39).toInt ∧ (v_lp11099 39).toInt ≤ 120 := hI.1 39 _ _ rfl
            refine lv_iconst (v := 1) hx hb dX12_product_39 (by decide) ?_
            refine lv_iadd hx hb dX12_product_40 ?_
            refine lv_topi (fun z11151 e11152 => ?_)
            try (have t11153 := tadd e11152 (a := (v_lp11099 39).toInt) rfl (b := 1) (by decide) (by omega))
            refine va_put (D := (dC, dI)) (ci := 12) (v := .int z11151) (ty := .int) (C := RX12) (T := TX12) (N := 63) (fs := fsM_0 g v_lp11099 rc) hx hb hwd inA_X12 tyX12 tyX12_ok nmX12 hown hK hP (DM hg) hS 0 rfl rfl 39 (by decide) (hwd _ wk_1004) (fun _ h9 => h9) rfl (by decide +kernel) rfl rfl (Nat.le_of_ble_eq_true rfl) dX12_product_41 (fun H locs hP _ hS => ?_)
            have hP := va_P_eq (pM_39 g c _ _ _ _) hP
            have hI := IM.put hI 39 z11151 rfl (by omega)
            refine lv_aload_n hx hb dX12_product_44 rfl (lv_at hl 1 rfl) ?_
            have t11154 : 0 ≤ (v 30).toInt ∧ (v 30).toInt ≤ 120 := by have h9 := hI.1 30 _ _ rfl; rw [show (va_up v_lp11099 39 z11151) 30 = v 30 from (hf_lp11099 30 (by decide)).trans (hf11094 30 (by decide))] at h9; exact h9
            have t11155 : 0 ≤ (v 37).toInt ∧ (v 37).toInt ≤ 9 := by have h9 := hI.1 37 _ _ rfl; rw [show (va_up v_lp11099 39 z11151) 37 = v 37 from (hf_lp11099 37 (by decide)).trans (hf11094 37 (by decide))] at h9; exact h9
            have t11156 : 0 ≤ (v_lp11099 38).toInt ∧ (v_lp11099 38).toInt ≤ 120 := hI.1 38 _ _ rfl
            have t11157 : 0 ≤ z11151.toInt ∧ z11151.toInt ≤ 120 := hI.1 39 _ _ rfl
            have t11158 : 0 ≤ (v_lp11099 41).toInt ∧ (v_lp11099 41).toInt ≤ 8 := hI.1 41 _ _ rfl
            refine va_callv (va_runV (As := []) (rest := []) ⟨hx, hb, hml, hown, hwd⟩ (c_X12_operand D fr lc rO rE l dC dI g c adK adV (va_up v_lp11099 39 z11151) F_lp11099 rc H.size  (d + 1) hg hI (by have h9 : (va_up v_lp11099 39 z11151) 38 = v_lp11099 38 := rfl; (try rw [h9]); clear h9; have h9 : (va_up v_lp11099 39 z11151) 39 = z11151 := rfl; (try rw [h9]); clear h9; have h9 : (va_up v_lp11099 39 z11151) 30 = v 30 := (hf_lp11099 30 (by decide)).trans (hf11094 30 (by decide)); (try rw [h9]); clear h9; have h9 : (va_up v_lp11099 39 z11151) 40 = v_lp11099 40 := rfl; (try rw [h9]); clear h9; have h9 : (va_up v_lp11099 39 z11151) 41 = v_lp11099 41 := rfl; (try rw [h9]); clear h9; omega) (by have h9 : (va_up v_lp11099 39 z11151) 37 = (v 37) := (hf_lp11099 37 (by decide)).trans (hf11094 37 (by decide)); have h8 : (va_up v_lp11099 39 z11151) 38 = (v_lp11099 38) := rfl; (try rw [h9]); (try rw [h8]); exact hd (by omega))) (cwV 0 hwd (gV wk_1030 wk_1035 wk_1036 wk_1037 wk_5) rfl rfl rfl (by decide +kernel) ⟨(by show fr + 4 + 1 ≤ fr + 5; omega), (by show 8 + (2 + 11) + (lc + 160) ≤ lc + 200; omega)⟩) ⟨PM.blind, va_recv hK hP (ci := 12) (q0 := 0) rfl rfl, fun U hU hW => ⟨rfl, PM.at hK hE hP hS hU hW⟩⟩ rfl rfl hl.1 rfl (lv_room (Nat.le_of_ble_eq_true rfl)) dX12_product_45 ⟨Nat.le_of_ble_eq_true rfl, Nat.le_of_ble_eq_true rfl⟩) hS (fun q _ h => (freeM hS) q h) (freeM hS) (fun u t H1 locs ht hvm hw hB hz1 hk1 hS => ?_)
            unfold BM at hB
            rw [ht] at hB
            obtain ⟨v11160, F11161, rc9⟩ := u
            obtain ⟨hI, hrc, hf11162, hG11163, hw⟩ := hw
            dsimp only at hI hrc hB hf11162 hG11163 hw
            have hF := frCF (by decide) hG11163 hF
            rw [hrc] at hB
            have hP : va_P (dC, dI) classes (wM g c v11160 F11161 rc) H1 := hB
            replace hw : (z11151.toInt ≤ (v11160 39).toInt ∧ (v11160 39).toInt ≤ ((va_up v_lp11099 39 z11151) 30).toInt ∧ (v_lp11099 38).toInt ≤ (v11160 38).toInt ∧ (v11160 38).toInt - (v_lp11099 38).toInt ≤ (v11160 39).toInt - z11151.toInt ∧ (v_lp11099 41).toInt ≤ (v11160 41).toInt ∧ ((v11160 40).toInt < 0 → (v11160 41).toInt = (v_lp11099 41).toInt)) ∧ keepL ((va_up v_lp11099 39 z11151) 37) (F_lp11099 28) (F_lp11099 29) (F11161 28) (F11161 29) ∧ ((v11160 40).toInt < 0 → dp (F11161 28) (F11161 29) (bI ((va_up v_lp11099 39 z11151) 37)) (v11160 38).toInt.toNat = some ((d + 1) + 1)) := hw
            rw [show (va_up v_lp11099 39 z11151) 30 = v 30 from (hf_lp11099 30 (by decide)).trans (hf11094 30 (by decide))] at hw
            rw [show (va_up v_lp11099 39 z11151) 37 = v 37 from (hf_lp11099 37 (by decide)).trans (hf11094 37 (by decide))] at hw
            have hw_r11159 := hw
            clear hw
            have t11164 : 0 ≤ (v11160 38).toInt ∧ (v11160 38).toInt ≤ 120 := hI.1 38 _ _ rfl
            have t11165 : 0 ≤ (v11160 39).toInt ∧ (v11160 39).toInt ≤ 120 := hI.1 39 _ _ rfl
            have t11166 : 0 ≤ (v11160 41).toInt ∧ (v11160 41).toInt ≤ 8 := hI.1 41 _ _ rfl
            clear hz1
            generalize H1 = H at hP hS ⊢
            replace hk := hk.tr hw_r11159.2.1
            replace hd := hw_r11159.2.2
            replace hw_r11159 := hw_r11159.1
            refine lv_aload_n hx hb dX12_product_48 rfl (lv_at hl 1 rfl) ?_
            refine lv_iload_n hx hb dX12_product_49 rfl (lv_at hl 0 rfl) ?_
            refine lv_iconst (v := 0) hx hb dX12_product_50 (by decide) ?_
            have t11167 : 0 ≤ (v 37).toInt ∧ (v 37).toInt ≤ 9 := by have h9 := hI.1 37 _ _ rfl; rw [show v11160 37 = v 37 from (hf11162 37 (by decide)).trans ((hf_lp11099 37 (by decide)).trans (hf11094 37 (by decide)))] at h9; exact h9
            have t11168 : 0 ≤ (v11160 38).toInt ∧ (v11160 38).toInt ≤ 120 := hI.1 38 _ _ rfl
            refine va_callv (va_runV (As := [.int r11149, .int 0]) (rest := []) ⟨hx, hb, hml, hown, hwd⟩ (c_X12_lay l dC dI g c adK adV v11160 F11161 rc H.size r11149 0 hg hI (by have h9 : v11160 38 = v11160 38 := rfl; rw [h9]; omega)) (cwV 2 hwd (gV wk_1021 wk_1018 wk_1019 wk_1020 wk_5) rfl rfl rfl (by decide +kernel) ⟨(by show 1 + 1 ≤ fr + 5; omega), (by show 8 + (3 + 11) + (40) ≤ lc + 200; omega)⟩) ⟨PM.blind, va_recv hK hP (ci := 12) (q0 := 0) rfl rfl, fun U hU hW => ⟨rfl, PM.at hK hE hP hS hU hW⟩⟩ rfl rfl hl.1 rfl (lv_room (Nat.le_of_ble_eq_true rfl)) dX12_product_51 ⟨Nat.le_of_ble_eq_true rfl, Nat.le_of_ble_eq_true rfl⟩) hS (fun q _ h => (freeM hS) q h) (freeM hS) (fun u t H1 locs ht hvm hw hB hz1 hk1 hS => ?_)
            unfold BM at hB
            rw [ht] at hB
            obtain ⟨v11170, F11171, rc9⟩ := u
            obtain ⟨hI, hrc, hf11172, hG11173, hw⟩ := hw
            dsimp only at hI hrc hB hf11172 hG11173 hw
            have hF := frCF (by decide) hG11173 hF
            rw [hrc] at hB
            have hP : va_P (dC, dI) classes (wM g c v11170 F11171 rc) H1 := hB
            replace hw : (v11170 38).toInt = (v11160 38).toInt + 1 ∧ keepL (v11160 37) (F11161 28) (F11161 29) (F11171 28) (F11171 29) ∧ dp (F11171 28) (F11171 29) (bI (v11160 37)) ((v11160 38).toInt.toNat + 1) = dpS (dp (F11161 28) (F11161 29) (bI (v11160 37)) (v11160 38).toInt.toNat) r11149 (0 : Int32) := hw
            rw [show v11160 37 = v 37 from (hf11162 37 (by decide)).trans ((hf_lp11099 37 (by decide)).trans (hf11094 37 (by decide)))] at hw
            have hw_r11169 := hw
            clear hw
            have t11174 : 0 ≤ (v11170 38).toInt ∧ (v11170 38).toInt ≤ 120 := hI.1 38 _ _ rfl
            have k11175 : (0 : Int32).toInt = 0 := by decide
            clear hz1
            generalize H1 = H at hP hS ⊢
            replace hk := hk.tr hw_r11169.2.1
            replace hd : (v11160 40).toInt < 0 → dp (F11171 28) (F11171 29) (bI (v 37)) (v11170 38).toInt.toNat = some (((d + 1) + 1) - 1) := fun hf => (by have e9 : (v11170 38).toInt.toNat = (v11160 38).toInt.toNat + 1 := (by omega); rw [e9, hw_r11169.2.2, hd hf]; exact dpS_5 (by omega) (by omega) (by omega) (by omega) (by omega))
            replace hw_r11169 := hw_r11169.1
            refine lv_goto (tgt := 4) hx hb dX12_product_54 (by decide) ?_
            exact ih_lp11099  v11170 F11171 _ _ _ (by have h9 : v11170 39 = v11160 39 := hf11172 39 (by decide); (try rw [h9]); clear h9; have h9 : v11170 38 = v11170 38 := rfl; (try rw [h9]); clear h9; have h9 : v11170 41 = v11160 41 := hf11172 41 (by decide); (try rw [h9]); clear h9; have h9 : v11170 40 = v11160 40 := hf11172 40 (by decide); (try rw [h9]); clear h9; omega) hk (by have h9 : v11170 40 = v11160 40 := hf11172 40 (by decide); (try rw [h9]); clear h9; have h9 : v11170 38 = v11170 38 := rfl; (try rw [h9]); clear h9; exact fun hf => (hd (by omega)).trans (congrArg some (by omega))) (by have h9 : v11170 39 = v11160 39 := hf11172 39 (by decide); rw [h9]; omega) (frC (by decide) hf11172 (frC (by decide) hf11162 (frU (by decide) hf_lp11099))) hI hF hP hS (lv_sub hl [1] rfl)
  obtain ⟨n9, hn9⟩ : ∃ n : Nat, 121 - (v11092 39).toInt ≤ (n : Int) := ⟨((121 - (v11092 39).toInt : Int)).toNat, by omega⟩
  exact lp11099 n9  v11092 F11093 H _ ls (by have h9 : v11092 39 = v11092 39 := rfl; (try rw [h9]); clear h9; have h9 : v11092 38 = v11092 38 := rfl; (try rw [h9]); clear h9; have h9 : v11092 41 = v11092 41 := rfl; (try rw [h9]); clear h9; have h9 : v11092 40 = v11092 40 := rfl; (try rw [h9]); clear h9; omega) hk (by have h9 : v11092 40 = v11092 40 := rfl; (try rw [h9]); clear h9; have h9 : v11092 38 = v11092 38 := rfl; (try rw [h9]); clear h9; exact fun hf => (hd (by omega)).trans (congrArg some (by omega))) (by have h9 : v11092 39 = v11092 39 := rfl; rw [h9]; omega) (fun _ _ => rfl) hI hF hP hS hl
