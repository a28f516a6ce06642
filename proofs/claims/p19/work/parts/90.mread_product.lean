set_option maxHeartbeats 8000000 in
set_option maxRecDepth 100000 in
theorem c_X12_product (D : Int) (fr lc : Nat) (rO : RPM 0 yX12_operand (Cond.code yX12_operand cX12_operand 2 none) (D + 1) fr lc) (rE : RPM 6 yX12_either (Cond.code yX12_either cX12_either 2 none) (D + 1) (fr + 3) (lc + 120)) (l : Launch) (dC : Nat → ClassId) (dI : Nat → Nat → Nat) (g : Nat → Nat) (c : Nat → ClassId) (adK adV : Nat → Nat) (v : Nat → Int32) (F : Nat → Nat → Int32) (rc sz : Nat) (d : Nat) (hg : injM g) (hI : IM v F) (hq : (v 38).toInt ≤ (v 39).toInt ∧ (v 39).toInt ≤ (v 30).toInt ∧ (v 40).toInt < 0 ∧ (v 41).toInt = D) (hdp : dp (F 28) (F 29) (bI (v 37)) (v 38).toInt.toNat = some d) : Met l yX12_product (Cond.code yX12_product cX12_product 2 none :: wA) ({ frames := fr + 5, cells := 0, slots := 0, locals := lc + 200 }) (va_Pc [.ref (g 0)] (PM dC dI g c adK adV v F rc sz)) (va_Qv (fun (u : StM) => IM u.1 u.2.1 ∧ u.2.2 = rc ∧ (∀ k, k ∉ ([38, 39, 40, 41, 42] : List Nat) → u.1 k = v k) ∧ (∀ k, k ∉ ([28, 29] : List Nat) → u.2.1 k = F k) ∧ (((u.1 40).toInt ≤ (u.1 39).toInt ∧ (v 39).toInt ≤ (u.1 39).toInt ∧ (u.1 39).toInt ≤ (v 30).toInt ∧ (v 38).toInt ≤ (u.1 38).toInt ∧ (u.1 38).toInt - (v 38).toInt ≤ (u.1 39).toInt - (v 39).toInt ∧ (v 41).toInt ≤ (u.1 41).toInt ∧ ((u.1 40).toInt < 0 → (u.1 41).toInt = (v 41).toInt)) ∧ keepL (v 37) (F 28) (F 29) (u.2.1 28) (u.2.1 29) ∧ ((u.1 40).toInt < 0 → dp (u.2.1 28) (u.2.1 29) (bI (v 37)) (u.1 38).toInt.toNat = some (d + 1)) ∧ rd false (v 30) (F 24) 1 (v 41).toInt (v 39).toInt (u.1 40).toInt (u.1 39).toInt)) (BM dC dI g c) (AM g sz)) 0 0 (AM g sz) := by
  refine Met.ofW (cc := cX12_product) (maxL := 2) (ret := none) (by decide) rfl ?_
  intro p e s m args below meth c0 s₁ B hml hv
  obtain ⟨rfl, hsz, hP, hK, hE⟩ := hv
  have hx := B.exec
  have hb := B.bytes
  have hr := B.returns
  have hts := atoms_spec (ws := Cond.code yX12_product cX12_product 2 none :: wA) B.pre
  have hwd : ∀ w ∈ wA, w.before _ s = true := fun w h => hts w (List.mem_cons_of_mem _ h)
  have hown : s.vm.findClass RX12 = some m.cls := findClass_of_methodNamed B.named
  have hlocks := B.notSynchronized
  subst hsz
  have hl := lv_entry ([.ref (g 0)]) (n := 2) (Nat.le_of_ble_eq_true rfl)
  rw [lg_entry_eq]
  generalize (lg_sl ([.ref (g 0)]) ++ List.replicate (2 - (lg_sl ([.ref (g 0)])).length) Slot.unset).toArray = ls at hl ⊢
  have hl : lv_has ls 2 [(0, .ref (g 0))] := hl
  obtain ⟨H, eH⟩ : ∃ z, z = s.heap := ⟨_, rfl⟩
  have hP : va_P (dC, dI) classes (wM g c v F rc) H := by rw [eH]; exact hP
  have hS : va_S (AM g s.heap.size) s.heap H [] := by rw [eH]; exact va_S.rf
  refine my_heap eH ?_
  have hF : ∀ k, k ∉ ([28, 29] : List Nat) → F k = F k := fun _ _ => rfl
  have hb30 : 0 ≤ (v 30).toInt ∧ (v 30).toInt ≤ 120 := hI.1 30 _ _ rfl
  have hb37 : 0 ≤ (v 37).toInt ∧ (v 37).toInt ≤ 9 := hI.1 37 _ _ rfl
  have hb38 : 0 ≤ (v 38).toInt ∧ (v 38).toInt ≤ 120 := hI.1 38 _ _ rfl
  have hb39 : 0 ≤ (v 39).toInt ∧ (v 39).toInt ≤ 120 := hI.1 39 _ _ rfl
  have hb41 : 0 ≤ (v 41).toInt ∧ (v 41).toInt ≤ 8 := hI.1 41 _ _ rfl
  have hk : keepL (v 37) (F 28) (F 29) (F 28) (F 29) := keepL.rf
  have hd : (v 40).toInt < 0 → dp (F 28) (F 29) (bI (v 37)) (v 38).toInt.toNat = some d := fun _ => hdp
  refine lv_aload_n hx hb dX12_product_0 rfl (lv_at hl 0 rfl) ?_
  have t8768 : 0 ≤ (v 30).toInt ∧ (v 30).toInt ≤ 120 := hI.1 30 _ _ rfl
  have t8769 : 0 ≤ (v 37).toInt ∧ (v 37).toInt ≤ 9 := hI.1 37 _ _ rfl
  have t8770 : 0 ≤ (v 38).toInt ∧ (v 38).toInt ≤ 120 := hI.1 38 _ _ rfl
  have t8771 : 0 ≤ (v 39).toInt ∧ (v 39).toInt ≤ 120 := hI.1 39 _ _ rfl
  have t8772 : 0 ≤ (v 41).toInt ∧ (v 41).toInt ≤ 8 := hI.1 41 _ _ rfl
  refine va_callv (va_runV (As := []) (rest := []) ⟨hx, hb, hml, hown, hwd⟩ (c_X12_operand D fr lc rO rE l dC dI g c adK adV v F rc H.size  d hg hI (by have h9 : v 38 = v 38 := rfl; (try rw [h9]); clear h9; have h9 : v 39 = v 39 := rfl; (try rw [h9]); clear h9; have h9 : v 30 = v 30 := rfl; (try rw [h9]); clear h9; have h9 : v 40 = v 40 := rfl; (try rw [h9]); clear h9; have h9 : v 41 = v 41 := rfl; (try rw [h9]); clear h9; omega) (by have h9 : v 37 = (v 37) := rfl; have h8 : v 38 = (v 38) := rfl; (try rw [h9]); (try rw [h8]); exact hd (by omega))) (cwV 0 hwd (gV wk_1030 wk_1035 wk_1036 wk_1037 wk_5) rfl rfl rfl (by decide +kernel) ⟨(by show fr + 4 + 1 ≤ fr + 5; omega), (by show 8 + (2 + 11) + (lc + 160) ≤ lc + 200; omega)⟩) ⟨PM.blind, va_recv hK hP (ci := 12) (q0 := 0) rfl rfl, fun U hU hW => ⟨rfl, PM.at hK hE hP hS hU hW⟩⟩ rfl rfl hl.1 rfl (lv_room (Nat.le_of_ble_eq_true rfl)) dX12_product_1 ⟨Nat.le_of_ble_eq_true rfl, Nat.le_of_ble_eq_true rfl⟩) hS (fun q _ h => (freeM hS) q h) (freeM hS) (fun u t H1 locs ht hvm hw hB hz1 hk1 hS => ?_)
  unfold BM at hB
  rw [ht] at hB
  obtain ⟨v8774, F8775, rc9⟩ := u
  obtain ⟨hI, hrc, hf8776, hG8777, hw⟩ := hw
  dsimp only at hI hrc hB hf8776 hG8777 hw
  have hF := frCF (by decide) hG8777 hF
  rw [hrc] at hB
  have hP : va_P (dC, dI) classes (wM g c v8774 F8775 rc) H1 := hB
  replace hw : ((v8774 40).toInt ≤ (v8774 39).toInt ∧ (v 39).toInt ≤ (v8774 39).toInt ∧ (v8774 39).toInt ≤ (v 30).toInt ∧ (v 38).toInt ≤ (v8774 38).toInt ∧ (v8774 38).toInt - (v 38).toInt ≤ (v8774 39).toInt - (v 39).toInt ∧ (v 41).toInt ≤ (v8774 41).toInt ∧ ((v8774 40).toInt < 0 → (v8774 41).toInt = (v 41).toInt)) ∧ keepL (v 37) (F 28) (F 29) (F8775 28) (F8775 29) ∧ ((v8774 40).toInt < 0 → dp (F8775 28) (F8775 29) (bI (v 37)) (v8774 38).toInt.toNat = some (d + 1)) ∧ rd false (v 30) (F 24) 0 (v 41).toInt (v 39).toInt (v8774 40).toInt (v8774 39).toInt := hw
  have hw_r8773 := hw
  clear hw
  have t8778 : 0 ≤ (v8774 38).toInt ∧ (v8774 38).toInt ≤ 120 := hI.1 38 _ _ rfl
  have t8779 : 0 ≤ (v8774 39).toInt ∧ (v8774 39).toInt ≤ 120 := hI.1 39 _ _ rfl
  have t8780 : 0 ≤ (v8774 41).toInt ∧ (v8774 41).toInt ≤ 8 := hI.1 41 _ _ rfl
  clear hz1
  generalize H1 = H at hP hS ⊢
  replace hk := hk.tr hw_r8773.2.1
  replace hd := hw_r8773.2.2.1
  have hrd_r8773 := hw_r8773.2.2.2
  replace hw_r8773 := hw_r8773.1
  have lp8781 : ∀ (n : Nat) (v_lp8781 : Nat → Int32) (F_lp8781 : Nat → Nat → Int32) (H : Heap) (locs : List Loc) (ls : Array Slot), ((v_lp8781 40).toInt ≤ (v_lp8781 39).toInt ∧ (v 39).toInt ≤ (v_lp8781 39).toInt ∧ (v_lp8781 39).toInt ≤ (v 30).toInt ∧ (v 38).toInt ≤ (v_lp8781 38).toInt ∧ (v_lp8781 38).toInt - (v 38).toInt ≤ (v_lp8781 39).toInt - (v 39).toInt ∧ (v 41).toInt ≤ (v_lp8781 41).toInt ∧ ((v_lp8781 40).toInt < 0 → (v_lp8781 41).toInt = (v 41).toInt)) → (keepL (v 37) (F 28) (F 29) (F_lp8781 28) (F_lp8781 29)) → (((v_lp8781 40).toInt < 0 → dp (F_lp8781 28) (F_lp8781 29) (bI (v 37)) (v_lp8781 38).toInt.toNat = some (d + 1))) → (go false (v 30) (F 24) 1 2 (v 41).toInt (v 39).toInt (v_lp8781 40).toInt (v_lp8781 39).toInt) → (121 - (v_lp8781 39).toInt ≤ (n : Int)) → (∀ k, k ∉ ([38, 39, 40, 41, 42] : List Nat) → v_lp8781 k = v8774 k) → IM v_lp8781 F_lp8781 → (∀ k, k ∉ ([28, 29] : List Nat) → F_lp8781 k = F k) → va_P (dC, dI) classes (wM g c v_lp8781 F_lp8781 rc) H → va_S (AM g s.heap.size) s.heap H locs → lv_has ls 2 [(0, .ref (g 0))] → W p l e (headSpec (Cond.code yX12_product cX12_product 2 none :: wA) ({ frames := fr + 5, cells := 0, slots := 0, locals := lc + 200 })).room s m ([.ref (g 0)] : List Value).toArray below meth c0 H locs 0 0 (MQ below (va_Qv (fun (u : StM) => IM u.1 u.2.1 ∧ u.2.2 = rc ∧ (∀ k, k ∉ ([38, 39, 40, 41, 42] : List Nat) → u.1 k = v k) ∧ (∀ k, k ∉ ([28, 29] : List Nat) → u.2.1 k = F k) ∧ (((u.1 40).toInt ≤ (u.1 39).toInt ∧ (v 39).toInt ≤ (u.1 39).toInt ∧ (u.1 39).toInt ≤ (v 30).toInt ∧ (v 38).toInt ≤ (u.1 38).toInt ∧ (u.1 38).toInt - (v 38).toInt ≤ (u.1 39).toInt - (v 39).toInt ∧ (v 41).toInt ≤ (u.1 41).toInt ∧ ((u.1 40).toInt < 0 → (u.1 41).toInt = (v 41).toInt)) ∧ keepL (v 37) (F 28) (F 29) (u.2.1 28) (u.2.1 29) ∧ ((u.1 40).toInt < 0 → dp (u.2.1 28) (u.2.1 29) (bI (v 37)) (u.1 38).toInt.toNat = some (d + 1)) ∧ rd false (v 30) (F 24) 1 (v 41).toInt (v 39).toInt (u.1 40).toInt (u.1 39).toInt)) (BM dC dI g c) (AM g s.heap.size)) ([.ref (g 0)] : List Value).toArray s 0 0 (AM g s.heap.size)) (F0 m 4 ls []) := by
    intro n
    induction n with
    | zero =>
      intro v_lp8781 F_lp8781 H locs ls t8782 t8783 t8784 t8785 hm hf_lp8781 hI hF hP hS hl
      exfalso
      have hI1 := hI.1
      omega
    | succ n ih_lp8781 =>
      intro v_lp8781 F_lp8781 H locs ls t8782 t8783 t8784 t8785 hm hf_lp8781 hI hF hP hS hl
      clear hk hd
      have hk := t8783
      have hd := t8784
      clear t8783 t8784
      refine lv_aload_n hx hb dX12_product_4 rfl (lv_at hl 0 rfl) ?_
      refine va_get (D := (dC, dI)) (ci := 12) (v := .int (v_lp8781 40)) (C := RX12) (T := TX12) (N := 63) hx hb hwd inA_X12 hown hK hP 0 rfl rfl 40 (by decide) (hwd _ wk_1005) (fun _ h9 => h9) rfl dX12_product_5 ?_
      refine lv_if_ge (tgt := 57) hx hb dX12_product_8 (by decide) (fun c8786 => ?_) (fun c8786 => ?_)
      · skip
        have t8787 := cv_le (a := 0) (by decide) (b := (v_lp8781 40).toInt) rfl c8786
        have hP9 : va_P (dC, dI) classes (wM g c v_lp8781 F_lp8781 rc) H := hP
        exact W.vret hx hb hr (fun t ht hW => ⟨⟨(v_lp8781, F_lp8781, rc), rfl, ⟨hI, rfl, (frC (by decide) hf_lp8781 (frC (by decide) hf8776 (fun _ _ => rfl))), hF, (by show ((v_lp8781 40).toInt ≤ (v_lp8781 39).toInt ∧ (v 39).toInt ≤ (v_lp8781 39).toInt ∧ (v_lp8781 39).toInt ≤ (v 30).toInt ∧ (v 38).toInt ≤ (v_lp8781 38).toInt ∧ (v_lp8781 38).toInt - (v 38).toInt ≤ (v_lp8781 39).toInt - (v 39).toInt ∧ (v 41).toInt ≤ (v_lp8781 41).toInt ∧ ((v_lp8781 40).toInt < 0 → (v_lp8781 41).toInt = (v 41).toInt)) ∧ keepL (v 37) (F 28) (F 29) (F_lp8781 28) (F_lp8781 29) ∧ ((v_lp8781 40).toInt < 0 → dp (F_lp8781 28) (F_lp8781 29) (bI (v 37)) (v_lp8781 38).toInt.toNat = some (d + 1)) ∧ rd false (v 30) (F 24) 1 (v 41).toInt (v 39).toInt (v_lp8781 40).toInt (v_lp8781 39).toInt; exact ⟨by omega, hk, fun hf => (hd (by omega)).trans (congrArg some (by omega)), go.pE t8785 (fun q9 => by omega)⟩)⟩, (by show va_P _ _ _ t.heap; rw [ht]; exact hP9)⟩, hS.F ht⟩) hS.2.2 dX12_product_57
      · skip
        have t8788 := cv_nle (a := 0) (by decide) (b := (v_lp8781 40).toInt) rfl c8786
        refine lv_aload_n hx hb dX12_product_11 rfl (lv_at hl 0 rfl) ?_
        have t8789 : 0 ≤ (v 30).toInt ∧ (v 30).toInt ≤ 120 := by have h9 := hI.1 30 _ _ rfl; rw [show v_lp8781 30 = v 30 from (hf_lp8781 30 (by decide)).trans (hf8776 30 (by decide))] at h9; exact h9
        have t8790 : 0 ≤ (v_lp8781 39).toInt ∧ (v_lp8781 39).toInt ≤ 120 := hI.1 39 _ _ rfl
        have hby24 : F_lp8781 24 = F 24 := hF 24 (by decide)
        refine va_calli (va_runV (As := []) (rest := []) ⟨hx, hb, hml, hown, hwd⟩ (c_X12_look l dC dI g c adK adV v_lp8781 F_lp8781 rc H.size  hg hI ) (cwV 0 hwd (gV wk_1017 wk_1014 wk_1015 wk_1016 wk_5) rfl rfl rfl (by decide +kernel) ⟨(by show 1 + 1 ≤ fr + 5; omega), (by show 8 + (1 + 11) + (40) ≤ lc + 200; omega)⟩) ⟨PM.blind, va_recv hK hP (ci := 12) (q0 := 0) rfl rfl, fun U hU hW => ⟨rfl, PM.at hK hE hP hS hU hW⟩⟩ rfl rfl hl.1 rfl (lv_room (Nat.le_of_ble_eq_true rfl)) dX12_product_12 ⟨Nat.le_of_ble_eq_true rfl, Nat.le_of_ble_eq_true rfl⟩) hS (fun q _ h => (freeM hS) q h) (freeM hS) (fun r8791 u t H1 locs ht hvm hw hB hz1 hk1 hS => ?_)
        unfold BM at hB
        rw [ht] at hB
        have hP : va_P (dC, dI) classes (wM g c v_lp8781 F_lp8781 rc) H1 := hB
        replace hw : r8791.toInt = sg (v_lp8781 30) (F_lp8781 24) (v_lp8781 39).toInt ∧ ((v_lp8781 39).toInt < (v_lp8781 30).toInt ∨ r8791.toInt = -1) := hw
        rw [show v_lp8781 30 = v 30 from (hf_lp8781 30 (by decide)).trans (hf8776 30 (by decide))] at hw
        rw [hby24] at hw
        have hw_r8791 := hw
        clear hw
        clear hz1
        generalize H1 = H at hP hS ⊢
        refine lv_bipush (v := 42) hx hb dX12_product_15 (by decide) ?_
        refine lv_icmp_eq (tgt := 29) hx hb dX12_product_17 (by decide) (fun c8792 => ?_) (fun c8792 => ?_)
        · skip
          have t8793 := cv_eq (a := r8791.toInt) rfl (b := 42) (by decide) c8792
          refine lv_aload_n hx hb dX12_product_29 rfl (lv_at hl 0 rfl) ?_
          have t8794 : 0 ≤ (v 30).toInt ∧ (v 30).toInt ≤ 120 := by have h9 := hI.1 30 _ _ rfl; rw [show v_lp8781 30 = v 30 from (hf_lp8781 30 (by decide)).trans (hf8776 30 (by decide))] at h9; exact h9
          have t8795 : 0 ≤ (v_lp8781 39).toInt ∧ (v_lp8781 39).toInt ≤ 120 := hI.1 39 _ _ rfl
          have hby24 : F_lp8781 24 = F 24 := hF 24 (by decide)
          refine va_calli (va_runV (As := []) (rest := []) ⟨hx, hb, hml, hown, hwd⟩ (c_X12_look l dC dI g c adK adV v_lp8781 F_lp8781 rc H.size  hg hI ) (cwV 0 hwd (gV wk_1017 wk_1014 wk_1015 wk_1016 wk_5) rfl rfl rfl (by decide +kernel) ⟨(by show 1 + 1 ≤ fr + 5; omega), (by show 8 + (1 + 11) + (40) ≤ lc + 200; omega)⟩) ⟨PM.blind, va_recv hK hP (ci := 12) (q0 := 0) rfl rfl, fun U hU hW => ⟨rfl, PM.at hK hE hP hS hU hW⟩⟩ rfl rfl hl.1 rfl (lv_room (Nat.le_of_ble_eq_true rfl)) dX12_product_30 ⟨Nat.le_of_ble_eq_true rfl, Nat.le_of_ble_eq_true rfl⟩) hS (fun q _ h => (freeM hS) q h) (freeM hS) (fun r8796 u t H1 locs ht hvm hw hB hz1 hk1 hS => ?_)
          unfold BM at hB
          rw [ht] at hB
          have hP : va_P (dC, dI) classes (wM g c v_lp8781 F_lp8781 rc) H1 := hB
          replace hw : r8796.toInt = sg (v_lp8781 30) (F_lp8781 24) (v_lp8781 39).toInt ∧ ((v_lp8781 39).toInt < (v_lp8781 30).toInt ∨ r8796.toInt = -1) := hw
          rw [show v_lp8781 30 = v 30 from (hf_lp8781 30 (by decide)).trans (hf8776 30 (by decide))] at hw
          rw [hby24] at hw
          have hw_r8796 := hw
          clear hw
          clear hz1
          generalize H1 = H at hP hS ⊢
          refine lv_istore_n (lv' := [(1, .int r8796), (0, .ref (g 0))]) hx hb dX12_product_33 rfl hl (by decide) rfl (fun ls hl => ?_)
          refine lv_aload_n hx hb dX12_product_34 rfl (lv_at hl 1 rfl) ?_
          refine lv_dup hx hb dX12_product_35 rfl ?_
          refine va_get (D := (dC, dI)) (ci := 12) (v := .int (v_lp8781 39)) (C := RX12) (T := TX12) (N := 63) hx hb hwd inA_X12 hown hK hP 0 rfl rfl 39 (by decide) (hwd _ wk_1004) (fun _ h9 => h9) rfl dX12_product_36 ?_
          have t8797 : 0 ≤ (v_lp8781 39).toInt ∧ (v_lp8781 39).toInt ≤ 120 := hI.1 39 _ _ rfl
          refine lv_iconst (v := 1) hx hb dX12_product_39 (by decide) ?_
          refine lv_iadd hx hb dX12_product_40 ?_
          refine lv_topi (fun z8798 e8799 => ?_)
          try (have t8800 := tadd e8799 (a := (v_lp8781 39).toInt) rfl (b := 1) (by decide) (by omega))
          refine va_put (D := (dC, dI)) (ci := 12) (v := .int z8798) (ty := .int) (C := RX12) (T := TX12) (N := 63) (fs := fsM_0 g v_lp8781 rc) hx hb hwd inA_X12 tyX12 tyX12_ok nmX12 hown hK hP (DM hg) hS 0 rfl rfl 39 (by decide) (hwd _ wk_1004) (fun _ h9 => h9) rfl (by decide +kernel) rfl rfl (Nat.le_of_ble_eq_true rfl) dX12_product_41 (fun H locs hP _ hS => ?_)
          have hP := va_P_eq (pM_39 g c _ _ _ _) hP
          have hI := IM.put hI 39 z8798 rfl (by omega)
          refine lv_aload_n hx hb dX12_product_44 rfl (lv_at hl 1 rfl) ?_
          have t8801 : 0 ≤ (v 30).toInt ∧ (v 30).toInt ≤ 120 := by have h9 := hI.1 30 _ _ rfl; rw [show (va_up v_lp8781 39 z8798) 30 = v 30 from (hf_lp8781 30 (by decide)).trans (hf8776 30 (by decide))] at h9; exact h9
          have t8802 : 0 ≤ (v 37).toInt ∧ (v 37).toInt ≤ 9 := by have h9 := hI.1 37 _ _ rfl; rw [show (va_up v_lp8781 39 z8798) 37 = v 37 from (hf_lp8781 37 (by decide)).trans (hf8776 37 (by decide))] at h9; exact h9
          have t8803 : 0 ≤ (v_lp8781 38).toInt ∧ (v_lp8781 38).toInt ≤ 120 := hI.1 38 _ _ rfl
          have t8804 : 0 ≤ z8798.toInt ∧ z8798.toInt ≤ 120 := hI.1 39 _ _ rfl
          have t8805 : 0 ≤ (v_lp8781 41).toInt ∧ (v_lp8781 41).toInt ≤ 8 := hI.1 41 _ _ rfl
          have hby24 : F_lp8781 24 = F 24 := hF 24 (by decide)
          refine va_callv (va_runV (As := []) (rest := []) ⟨hx, hb, hml, hown, hwd⟩ (c_X12_operand D fr lc rO rE l dC dI g c adK adV (va_up v_lp8781 39 z8798) F_lp8781 rc H.size  (d + 1) hg hI (by have h9 : (va_up v_lp8781 39 z8798) 38 = v_lp8781 38 := rfl; (try rw [h9]); clear h9; have h9 : (va_up v_lp8781 39 z8798) 39 = z8798 := rfl; (try rw [h9]); clear h9; have h9 : (va_up v_lp8781 39 z8798) 30 = v 30 := (hf_lp8781 30 (by decide)).trans (hf8776 30 (by decide)); (try rw [h9]); clear h9; have h9 : (va_up v_lp8781 39 z8798) 40 = v_lp8781 40 := rfl; (try rw [h9]); clear h9; have h9 : (va_up v_lp8781 39 z8798) 41 = v_lp8781 41 := rfl; (try rw [h9]); clear h9; omega) (by have h9 : (va_up v_lp8781 39 z8798) 37 = (v 37) := (hf_lp8781 37 (by decide)).trans (hf8776 37 (by decide)); have h8 : (va_up v_lp8781 39 z8798) 38 = (v_lp8781 38) := rfl; (try rw [h9]); (try rw [h8]); exact hd (by omega))) (cwV 0 hwd (gV wk_1030 wk_1035 wk_1036 wk_1037 wk_5) rfl rfl rfl (by decide +kernel) ⟨(by show fr + 4 + 1 ≤ fr + 5; omega), (by show 8 + (2 + 11) + (lc + 160) ≤ lc + 200; omega)⟩) ⟨PM.blind, va_recv hK hP (ci := 12) (q0 := 0) rfl rfl, fun U hU hW => ⟨rfl, PM.at hK hE hP hS hU hW⟩⟩ rfl rfl hl.1 rfl (lv_room (Nat.le_of_ble_eq_true rfl)) dX12_product_45 ⟨Nat.le_of_ble_eq_true rfl, Nat.le_of_ble_eq_true rfl⟩) hS (fun q _ h => (freeM hS) q h) (freeM hS) (fun u t H1 locs ht hvm hw hB hz1 hk1 hS => ?_)
          unfold BM at hB
          rw [ht] at hB
          obtain ⟨v8807, F8808, rc9⟩ := u
          obtain ⟨hI, hrc, hf8809, hG8810, hw⟩ := hw
          dsimp only at hI hrc hB hf8809 hG8810 hw
          have hF := frCF (by decide) hG8810 hF
          rw [hrc] at hB
          have hP : va_P (dC, dI) classes (wM g c v8807 F8808 rc) H1 := hB
          replace hw : ((v8807 40).toInt ≤ (v8807 39).toInt ∧ z8798.toInt ≤ (v8807 39).toInt ∧ (v8807 39).toInt ≤ ((va_up v_lp8781 39 z8798) 30).toInt ∧ (v_lp8781 38).toInt ≤ (v8807 38).toInt ∧ (v8807 38).toInt - (v_lp8781 38).toInt ≤ (v8807 39).toInt - z8798.toInt ∧ (v_lp8781 41).toInt ≤ (v8807 41).toInt ∧ ((v8807 40).toInt < 0 → (v8807 41).toInt = (v_lp8781 41).toInt)) ∧ keepL ((va_up v_lp8781 39 z8798) 37) (F_lp8781 28) (F_lp8781 29) (F8808 28) (F8808 29) ∧ ((v8807 40).toInt < 0 → dp (F8808 28) (F8808 29) (bI ((va_up v_lp8781 39 z8798) 37)) (v8807 38).toInt.toNat = some ((d + 1) + 1)) ∧ rd false ((va_up v_lp8781 39 z8798) 30) (F_lp8781 24) 0 (v_lp8781 41).toInt z8798.toInt (v8807 40).toInt (v8807 39).toInt := hw
          rw [show (va_up v_lp8781 39 z8798) 30 = v 30 from (hf_lp8781 30 (by decide)).trans (hf8776 30 (by decide))] at hw
          rw [show (va_up v_lp8781 39 z8798) 37 = v 37 from (hf_lp8781 37 (by decide)).trans (hf8776 37 (by decide))] at hw
          rw [hby24] at hw
          have hw_r8806 := hw
          clear hw
          have t8811 : 0 ≤ (v8807 38).toInt ∧ (v8807 38).toInt ≤ 120 := hI.1 38 _ _ rfl
          have t8812 : 0 ≤ (v8807 39).toInt ∧ (v8807 39).toInt ≤ 120 := hI.1 39 _ _ rfl
          have t8813 : 0 ≤ (v8807 41).toInt ∧ (v8807 41).toInt ≤ 8 := hI.1 41 _ _ rfl
          clear hz1
          generalize H1 = H at hP hS ⊢
          replace hk := hk.tr hw_r8806.2.1
          replace hd := hw_r8806.2.2.1
          have hrd_r8806 := hw_r8806.2.2.2
          replace hw_r8806 := hw_r8806.1
          refine lv_aload_n hx hb dX12_product_48 rfl (lv_at hl 1 rfl) ?_
          refine lv_iload_n hx hb dX12_product_49 rfl (lv_at hl 0 rfl) ?_
          refine lv_iconst (v := 0) hx hb dX12_product_50 (by decide) ?_
          have t8814 : 0 ≤ (v 37).toInt ∧ (v 37).toInt ≤ 9 := by have h9 := hI.1 37 _ _ rfl; rw [show v8807 37 = v 37 from (hf8809 37 (by decide)).trans ((hf_lp8781 37 (by decide)).trans (hf8776 37 (by decide)))] at h9; exact h9
          have t8815 : 0 ≤ (v8807 38).toInt ∧ (v8807 38).toInt ≤ 120 := hI.1 38 _ _ rfl
          refine va_callv (va_runV (As := [.int r8796, .int 0]) (rest := []) ⟨hx, hb, hml, hown, hwd⟩ (c_X12_lay l dC dI g c adK adV v8807 F8808 rc H.size r8796 0 hg hI (by have h9 : v8807 38 = v8807 38 := rfl; rw [h9]; omega)) (cwV 2 hwd (gV wk_1021 wk_1018 wk_1019 wk_1020 wk_5) rfl rfl rfl (by decide +kernel) ⟨(by show 1 + 1 ≤ fr + 5; omega), (by show 8 + (3 + 11) + (40) ≤ lc + 200; omega)⟩) ⟨PM.blind, va_recv hK hP (ci := 12) (q0 := 0) rfl rfl, fun U hU hW => ⟨rfl, PM.at hK hE hP hS hU hW⟩⟩ rfl rfl hl.1 rfl (lv_room (Nat.le_of_ble_eq_true rfl)) dX12_product_51 ⟨Nat.le_of_ble_eq_true rfl, Nat.le_of_ble_eq_true rfl⟩) hS (fun q _ h => (freeM hS) q h) (freeM hS) (fun u t H1 locs ht hvm hw hB hz1 hk1 hS => ?_)
          unfold BM at hB
          rw [ht] at hB
          obtain ⟨v8817, F8818, rc9⟩ := u
          obtain ⟨hI, hrc, hf8819, hG8820, hw⟩ := hw
          dsimp only at hI hrc hB hf8819 hG8820 hw
          have hF := frCF (by decide) hG8820 hF
          rw [hrc] at hB
          have hP : va_P (dC, dI) classes (wM g c v8817 F8818 rc) H1 := hB
          replace hw : (v8817 38).toInt = (v8807 38).toInt + 1 ∧ keepL (v8807 37) (F8808 28) (F8808 29) (F8818 28) (F8818 29) ∧ dp (F8818 28) (F8818 29) (bI (v8807 37)) ((v8807 38).toInt.toNat + 1) = dpS (dp (F8808 28) (F8808 29) (bI (v8807 37)) (v8807 38).toInt.toNat) r8796 (0 : Int32) := hw
          rw [show v8807 37 = v 37 from (hf8809 37 (by decide)).trans ((hf_lp8781 37 (by decide)).trans (hf8776 37 (by decide)))] at hw
          have hw_r8816 := hw
          clear hw
          have t8821 : 0 ≤ (v8817 38).toInt ∧ (v8817 38).toInt ≤ 120 := hI.1 38 _ _ rfl
          have k8822 : (0 : Int32).toInt = 0 := by decide
          clear hz1
          generalize H1 = H at hP hS ⊢
          replace hk := hk.tr hw_r8816.2.1
          replace hd : (v8807 40).toInt < 0 → dp (F8818 28) (F8818 29) (bI (v 37)) (v8817 38).toInt.toNat = some (((d + 1) + 1) - 1) := fun hf => (by have e9 : (v8817 38).toInt.toNat = (v8807 38).toInt.toNat + 1 := (by omega); rw [e9, hw_r8816.2.2, hd hf]; exact dpS_5 (by omega) (by omega) (by omega) (by omega) (by omega))
          replace hw_r8816 := hw_r8816.1
          refine lv_goto (tgt := 4) hx hb dX12_product_54 (by decide) ?_
          exact ih_lp8781  v8817 F8818 _ _ _ (by have h9 : v8817 39 = v8807 39 := hf8819 39 (by decide); (try rw [h9]); clear h9; have h9 : v8817 38 = v8817 38 := rfl; (try rw [h9]); clear h9; have h9 : v8817 41 = v8807 41 := hf8819 41 (by decide); (try rw [h9]); clear h9; have h9 : v8817 40 = v8807 40 := hf8819 40 (by decide); (try rw [h9]); clear h9; omega) hk (by have h9 : v8817 40 = v8807 40 := hf8819 40 (by decide); (try rw [h9]); clear h9; have h9 : v8817 38 = v8817 38 := rfl; (try rw [h9]); clear h9; exact fun hf => (hd (by omega)).trans (congrArg some (by omega))) (by have h9 : v8817 40 = v8807 40 := hf8819 40 (by decide); (try rw [h9]); clear h9; have h9 : v8817 39 = v8807 39 := hf8819 39 (by decide); (try rw [h9]); clear h9; exact go.pl t8785 (by omega) (by omega) (by omega) (hrd_r8806.cast (by omega) rfl rfl rfl)) (by have h9 : v8817 39 = v8807 39 := hf8819 39 (by decide); rw [h9]; omega) (frC (by decide) hf8819 (frC (by decide) hf8809 (frU (by decide) hf_lp8781))) hI hF hP hS (lv_sub hl [1] rfl)
        · skip
          have t8823 := cv_ne (a := r8791.toInt) rfl (b := 42) (by decide) c8792
          refine lv_aload_n hx hb dX12_product_20 rfl (lv_at hl 0 rfl) ?_
          have t8824 : 0 ≤ (v 30).toInt ∧ (v 30).toInt ≤ 120 := by have h9 := hI.1 30 _ _ rfl; rw [show v_lp8781 30 = v 30 from (hf_lp8781 30 (by decide)).trans (hf8776 30 (by decide))] at h9; exact h9
          have t8825 : 0 ≤ (v_lp8781 39).toInt ∧ (v_lp8781 39).toInt ≤ 120 := hI.1 39 _ _ rfl
          have hby24 : F_lp8781 24 = F 24 := hF 24 (by decide)
          refine va_calli (va_runV (As := []) (rest := []) ⟨hx, hb, hml, hown, hwd⟩ (c_X12_look l dC dI g c adK adV v_lp8781 F_lp8781 rc H.size  hg hI ) (cwV 0 hwd (gV wk_1017 wk_1014 wk_1015 wk_1016 wk_5) rfl rfl rfl (by decide +kernel) ⟨(by show 1 + 1 ≤ fr + 5; omega), (by show 8 + (1 + 11) + (40) ≤ lc + 200; omega)⟩) ⟨PM.blind, va_recv hK hP (ci := 12) (q0 := 0) rfl rfl, fun U hU hW => ⟨rfl, PM.at hK hE hP hS hU hW⟩⟩ rfl rfl hl.1 rfl (lv_room (Nat.le_of_ble_eq_true rfl)) dX12_product_21 ⟨Nat.le_of_ble_eq_true rfl, Nat.le_of_ble_eq_true rfl⟩) hS (fun q _ h => (freeM hS) q h) (freeM hS) (fun r8826 u t H1 locs ht hvm hw hB hz1 hk1 hS => ?_)
          unfold BM at hB
          rw [ht] at hB
          have hP : va_P (dC, dI) classes (wM g c v_lp8781 F_lp8781 rc) H1 := hB
          replace hw : r8826.toInt = sg (v_lp8781 30) (F_lp8781 24) (v_lp8781 39).toInt ∧ ((v_lp8781 39).toInt < (v_lp8781 30).toInt ∨ r8826.toInt = -1) := hw
          rw [show v_lp8781 30 = v 30 from (hf_lp8781 30 (by decide)).trans (hf8776 30 (by decide))] at hw
          rw [hby24] at hw
          have hw_r8826 := hw
          clear hw
          clear hz1
          generalize H1 = H at hP hS ⊢
          refine lv_bipush (v := 47) hx hb dX12_product_24 (by decide) ?_
          refine lv_icmp_ne (tgt := 57) hx hb dX12_product_26 (by decide) (fun c8827 => ?_) (fun c8827 => ?_)
          · skip
            have t8828 := cv_ne (a := r8826.toInt) rfl (b := 47) (by decide) c8827
            have hP9 : va_P (dC, dI) classes (wM g c v_lp8781 F_lp8781 rc) H := hP
            exact W.vret hx hb hr (fun t ht hW => ⟨⟨(v_lp8781, F_lp8781, rc), rfl, ⟨hI, rfl, (frC (by decide) hf_lp8781 (frC (by decide) hf8776 (fun _ _ => rfl))), hF, (by show ((v_lp8781 40).toInt ≤ (v_lp8781 39).toInt ∧ (v 39).toInt ≤ (v_lp8781 39).toInt ∧ (v_lp8781 39).toInt ≤ (v 30).toInt ∧ (v 38).toInt ≤ (v_lp8781 38).toInt ∧ (v_lp8781 38).toInt - (v 38).toInt ≤ (v_lp8781 39).toInt - (v 39).toInt ∧ (v 41).toInt ≤ (v_lp8781 41).toInt ∧ ((v_lp8781 40).toInt < 0 → (v_lp8781 41).toInt = (v 41).toInt)) ∧ keepL (v 37) (F 28) (F 29) (F_lp8781 28) (F_lp8781 29) ∧ ((v_lp8781 40).toInt < 0 → dp (F_lp8781 28) (F_lp8781 29) (bI (v 37)) (v_lp8781 38).toInt.toNat = some (d + 1)) ∧ rd false (v 30) (F 24) 1 (v 41).toInt (v 39).toInt (v_lp8781 40).toInt (v_lp8781 39).toInt; exact ⟨by omega, hk, fun hf => (hd (by omega)).trans (congrArg some (by omega)), go.pE t8785 (fun q9 => by omega)⟩)⟩, (by show va_P _ _ _ t.heap; rw [ht]; exact hP9)⟩, hS.F ht⟩) hS.2.2 dX12_product_57
          · skip
            have t8829 := cv_eq (a := r8826.toInt) rfl (b := 47) (by decide) c8827
            refine lv_aload_n hx hb dX12_product_29 rfl (lv_at hl 0 rfl) ?_
            have t8830 : 0 ≤ (v 30).toInt ∧ (v 30).toInt ≤ 120 := by have h9 := hI.1 30 _ _ rfl; rw [show v_lp8781 30 = v 30 from (hf_lp8781 30 (by decide)).trans (hf8776 30 (by decide))] at h9; exact h9
            have t8831 : 0 ≤ (v_lp8781 39).toInt ∧ (v_lp8781 39).toInt ≤ 120 := hI.1 39 _ _ rfl
            have hby24 : F_lp8781 24 = F 24 := hF 24 (by decide)
            refine va_calli (va_runV (As := []) (rest := []) ⟨hx, hb, hml, hown, hwd⟩ (c_X12_look l dC dI g c adK adV v_lp8781 F_lp8781 rc H.size  hg hI ) (cwV 0 hwd (gV wk_1017 wk_1014 wk_1015 wk_1016 wk_5) rfl rfl rfl (by decide +kernel) ⟨(by show 1 + 1 ≤ fr + 5; omega), (by show 8 + (1 + 11) + (40) ≤ lc + 200; omega)⟩) ⟨PM.blind, va_recv hK hP (ci := 12) (q0 := 0) rfl rfl, fun U hU hW => ⟨rfl, PM.at hK hE hP hS hU hW⟩⟩ rfl rfl hl.1 rfl (lv_room (Nat.le_of_ble_eq_true rfl)) dX12_product_30 ⟨Nat.le_of_ble_eq_true rfl, Nat.le_of_ble_eq_true rfl⟩) hS (fun q _ h => (freeM hS) q h) (freeM hS) (fun r8832 u t H1 locs ht hvm hw hB hz1 hk1 hS => ?_)
            unfold BM at hB
            rw [ht] at hB
            have hP : va_P (dC, dI) classes (wM g c v_lp8781 F_lp8781 rc) H1 := hB
            replace hw : r8832.toInt = sg (v_lp8781 30) (F_lp8781 24) (v_lp8781 39).toInt ∧ ((v_lp8781 39).toInt < (v_lp8781 30).toInt ∨ r8832.toInt = -1) := hw
            rw [show v_lp8781 30 = v 30 from (hf_lp8781 30 (by decide)).trans (hf8776 30 (by decide))] at hw
            rw [hby24] at hw
            have hw_r8832 := hw
            clear hw
            clear hz1
            generalize H1 = H at hP hS ⊢
            refine lv_istore_n (lv' := [(1, .int r8832), (0, .ref (g 0))]) hx hb dX12_product_33 rfl hl (by decide) rfl (fun ls hl => ?_)
            refine lv_aload_n hx hb dX12_product_34 rfl (lv_at hl 1 rfl) ?_
            refine lv_dup hx hb dX12_product_35 rfl ?_
            refine va_get (D := (dC, dI)) (ci := 12) (v := .int (v_lp8781 39)) (C := RX12) (T := TX12) (N := 63) hx hb hwd inA_X12 hown hK hP 0 rfl rfl 39 (by decide) (hwd _ wk_1004) (fun _ h9 => h9) rfl dX12_product_36 ?_
            have t8833 : 0 ≤ (v_lp8781 39).toInt ∧ (v_lp8781 39).toInt ≤ 120 := hI.1 39 _ _ rfl
            refine lv_iconst (v := 1) hx hb dX12_product_39 (by decide) ?_
            refine lv_iadd hx hb dX12_product_40 ?_
            refine lv_topi (fun z8834 e8835 => ?_)
            try (have t8836 := tadd e8835 (a := (v_lp8781 39).toInt) rfl (b := 1) (by decide) (by omega))
            refine va_put (D := (dC, dI)) (ci := 12) (v := .int z8834) (ty := .int) (C := RX12) (T := TX12) (N := 63) (fs := fsM_0 g v_lp8781 rc) hx hb hwd inA_X12 tyX12 tyX12_ok nmX12 hown hK hP (DM hg) hS 0 rfl rfl 39 (by decide) (hwd _ wk_1004) (fun _ h9 => h9) rfl (by decide +kernel) rfl rfl (Nat.le_of_ble_eq_true rfl) dX12_product_41 (fun H locs hP _ hS => ?_)
            have hP := va_P_eq (pM_39 g c _ _ _ _) hP
            have hI := IM.put hI 39 z8834 rfl (by omega)
            refine lv_aload_n hx hb dX12_product_44 rfl (lv_at hl 1 rfl) ?_
            have t8837 : 0 ≤ (v 30).toInt ∧ (v 30).toInt ≤ 120 := by have h9 := hI.1 30 _ _ rfl; rw [show (va_up v_lp8781 39 z8834) 30 = v 30 from (hf_lp8781 30 (by decide)).trans (hf8776 30 (by decide))] at h9; exact h9
            have t8838 : 0 ≤ (v 37).toInt ∧ (v 37).toInt ≤ 9 := by have h9 := hI.1 37 _ _ rfl; rw [show (va_up v_lp8781 39 z8834) 37 = v 37 from (hf_lp8781 37 (by decide)).trans (hf8776 37 (by decide))] at h9; exact h9
            have t8839 : 0 ≤ (v_lp8781 38).toInt ∧ (v_lp8781 38).toInt ≤ 120 := hI.1 38 _ _ rfl
            have t8840 : 0 ≤ z8834.toInt ∧ z8834.toInt ≤ 120 := hI.1 39 _ _ rfl
            have t8841 : 0 ≤ (v_lp8781 41).toInt ∧ (v_lp8781 41).toInt ≤ 8 := hI.1 41 _ _ rfl
            have hby24 : F_lp8781 24 = F 24 := hF 24 (by decide)
            refine va_callv (va_runV (As := []) (rest := []) ⟨hx, hb, hml, hown, hwd⟩ (c_X12_operand D fr lc rO rE l dC dI g c adK adV (va_up v_lp8781 39 z8834) F_lp8781 rc H.size  (d + 1) hg hI (by have h9 : (va_up v_lp8781 39 z8834) 38 = v_lp8781 38 := rfl; (try rw [h9]); clear h9; have h9 : (va_up v_lp8781 39 z8834) 39 = z8834 := rfl; (try rw [h9]); clear h9; have h9 : (va_up v_lp8781 39 z8834) 30 = v 30 := (hf_lp8781 30 (by decide)).trans (hf8776 30 (by decide)); (try rw [h9]); clear h9; have h9 : (va_up v_lp8781 39 z8834) 40 = v_lp8781 40 := rfl; (try rw [h9]); clear h9; have h9 : (va_up v_lp8781 39 z8834) 41 = v_lp8781 41 := rfl; (try rw [h9]); clear h9; omega) (by have h9 : (va_up v_lp8781 39 z8834) 37 = (v 37) := (hf_lp8781 37 (by decide)).trans (hf8776 37 (by decide)); have h8 : (va_up v_lp8781 39 z8834) 38 = (v_lp8781 38) := rfl; (try rw [h9]); (try rw [h8]); exact hd (by omega))) (cwV 0 hwd (gV wk_1030 wk_1035 wk_1036 wk_1037 wk_5) rfl rfl rfl (by decide +kernel) ⟨(by show fr + 4 + 1 ≤ fr + 5; omega), (by show 8 + (2 + 11) + (lc + 160) ≤ lc + 200; omega)⟩) ⟨PM.blind, va_recv hK hP (ci := 12) (q0 := 0) rfl rfl, fun U hU hW => ⟨rfl, PM.at hK hE hP hS hU hW⟩⟩ rfl rfl hl.1 rfl (lv_room (Nat.le_of_ble_eq_true rfl)) dX12_product_45 ⟨Nat.le_of_ble_eq_true rfl, Nat.le_of_ble_eq_true rfl⟩) hS (fun q _ h => (freeM hS) q h) (freeM hS) (fun u t H1 locs ht hvm hw hB hz1 hk1 hS => ?_)
            unfold BM at hB
            rw [ht] at hB
            obtain ⟨v8843, F8844, rc9⟩ := u
            obtain ⟨hI, hrc, hf8845, hG8846, hw⟩ := hw
            dsimp only at hI hrc hB hf8845 hG8846 hw
            have hF := frCF (by decide) hG8846 hF
            rw [hrc] at hB
            have hP : va_P (dC, dI) classes (wM g c v8843 F8844 rc) H1 := hB
            replace hw : ((v8843 40).toInt ≤ (v8843 39).toInt ∧ z8834.toInt ≤ (v8843 39).toInt ∧ (v8843 39).toInt ≤ ((va_up v_lp8781 39 z8834) 30).toInt ∧ (v_lp8781 38).toInt ≤ (v8843 38).toInt ∧ (v8843 38).toInt - (v_lp8781 38).toInt ≤ (v8843 39).toInt - z8834.toInt ∧ (v_lp8781 41).toInt ≤ (v8843 41).toInt ∧ ((v8843 40).toInt < 0 → (v8843 41).toInt = (v_lp8781 41).toInt)) ∧ keepL ((va_up v_lp8781 39 z8834) 37) (F_lp8781 28) (F_lp8781 29) (F8844 28) (F8844 29) ∧ ((v8843 40).toInt < 0 → dp (F8844 28) (F8844 29) (bI ((va_up v_lp8781 39 z8834) 37)) (v8843 38).toInt.toNat = some ((d + 1) + 1)) ∧ rd false ((va_up v_lp8781 39 z8834) 30) (F_lp8781 24) 0 (v_lp8781 41).toInt z8834.toInt (v8843 40).toInt (v8843 39).toInt := hw
            rw [show (va_up v_lp8781 39 z8834) 30 = v 30 from (hf_lp8781 30 (by decide)).trans (hf8776 30 (by decide))] at hw
            rw [show (va_up v_lp8781 39 z8834) 37 = v 37 from (hf_lp8781 37 (by decide)).trans (hf8776 37 (by decide))] at hw
            rw [hby24] at hw
            have hw_r8842 := hw
            clear hw
            have t8847 : 0 ≤ (v8843 38).toInt ∧ (v8843 38).toInt ≤ 120 := hI.1 38 _ _ rfl
            have t8848 : 0 ≤ (v8843 39).toInt ∧ (v8843 39).toInt ≤ 120 := hI.1 39 _ _ rfl
            have t8849 : 0 ≤ (v8843 41).toInt ∧ (v8843 41).toInt ≤ 8 := hI.1 41 _ _ rfl
            clear hz1
            generalize H1 = H at hP hS ⊢
            replace hk := hk.tr hw_r8842.2.1
            replace hd := hw_r8842.2.2.1
            have hrd_r8842 := hw_r8842.2.2.2
            replace hw_r8842 := hw_r8842.1
            refine lv_aload_n hx hb dX12_product_48 rfl (lv_at hl 1 rfl) ?_
            refine lv_iload_n hx hb dX12_product_49 rfl (lv_at hl 0 rfl) ?_
            refine lv_iconst (v := 0) hx hb dX12_product_50 (by decide) ?_
            have t8850 : 0 ≤ (v 37).toInt ∧ (v 37).toInt ≤ 9 := by have h9 := hI.1 37 _ _ rfl; rw [show v8843 37 = v 37 from (hf8845 37 (by decide)).trans ((hf_lp8781 37 (by decide)).trans (hf8776 37 (by decide)))] at h9; exact h9
            have t8851 : 0 ≤ (v8843 38).toInt ∧ (v8843 38).toInt ≤ 120 := hI.1 38 _ _ rfl
            refine va_callv (va_runV (As := [.int r8832, .int 0]) (rest := []) ⟨hx, hb, hml, hown, hwd⟩ (c_X12_lay l dC dI g c adK adV v8843 F8844 rc H.size r8832 0 hg hI (by have h9 : v8843 38 = v8843 38 := rfl; rw [h9]; omega)) (cwV 2 hwd (gV wk_1021 wk_1018 wk_1019 wk_1020 wk_5) rfl rfl rfl (by decide +kernel) ⟨(by show 1 + 1 ≤ fr + 5; omega), (by show 8 + (3 + 11) + (40) ≤ lc + 200; omega)⟩) ⟨PM.blind, va_recv hK hP (ci := 12) (q0 := 0) rfl rfl, fun U hU hW => ⟨rfl, PM.at hK hE hP hS hU hW⟩⟩ rfl rfl hl.1 rfl (lv_room (Nat.le_of_ble_eq_true rfl)) dX12_product_51 ⟨Nat.le_of_ble_eq_true rfl, Nat.le_of_ble_eq_true rfl⟩) hS (fun q _ h => (freeM hS) q h) (freeM hS) (fun u t H1 locs ht hvm hw hB hz1 hk1 hS => ?_)
            unfold BM at hB
            rw [ht] at hB
            obtain ⟨v8853, F8854, rc9⟩ := u
            obtain ⟨hI, hrc, hf8855, hG8856, hw⟩ := hw
            dsimp only at hI hrc hB hf8855 hG8856 hw
            have hF := frCF (by decide) hG8856 hF
            rw [hrc] at hB
            have hP : va_P (dC, dI) classes (wM g c v8853 F8854 rc) H1 := hB
            replace hw : (v8853 38).toInt = (v8843 38).toInt + 1 ∧ keepL (v8843 37) (F8844 28) (F8844 29) (F8854 28) (F8854 29) ∧ dp (F8854 28) (F8854 29) (bI (v8843 37)) ((v8843 38).toInt.toNat + 1) = dpS (dp (F8844 28) (F8844 29) (bI (v8843 37)) (v8843 38).toInt.toNat) r8832 (0 : Int32) := hw
            rw [show v8843 37 = v 37 from (hf8845 37 (by decide)).trans ((hf_lp8781 37 (by decide)).trans (hf8776 37 (by decide)))] at hw
            have hw_r8852 := hw
            clear hw
            have t8857 : 0 ≤ (v8853 38).toInt ∧ (v8853 38).toInt ≤ 120 := hI.1 38 _ _ rfl
            have k8858 : (0 : Int32).toInt = 0 := by decide
            clear hz1
            generalize H1 = H at hP hS ⊢
            replace hk := hk.tr hw_r8852.2.1
            replace hd : (v8843 40).toInt < 0 → dp (F8854 28) (F8854 29) (bI (v 37)) (v8853 38).toInt.toNat = some (((d + 1) + 1) - 1) := fun hf => (by have e9 : (v8853 38).toInt.toNat = (v8843 38).toInt.toNat + 1 := (by omega); rw [e9, hw_r8852.2.2, hd hf]; exact dpS_5 (by omega) (by omega) (by omega) (by omega) (by omega))
            replace hw_r8852 := hw_r8852.1
            refine lv_goto (tgt := 4) hx hb dX12_product_54 (by decide) ?_
            exact ih_lp8781  v8853 F8854 _ _ _ (by have h9 : v8853 39 = v8843 39 := hf8855 39 (by decide); (try rw [h9]); clear h9; have h9 : v8853 38 = v8853 38 := rfl; (try rw [h9]); clear h9; have h9 : v8853 41 = v8843 41 := hf8855 41 (by decide); (try rw [h9]); clear h9; have h9 : v8853 40 = v8843 40 := hf8855 40 (by decide); (try rw [h9]); clear h9; omega) hk (by have h9 : v8853 40 = v8843 40 := hf8855 40 (by decide); (try rw [h9]); clear h9; have h9 : v8853 38 = v8853 38 := rfl; (try rw [h9]); clear h9; exact fun hf => (hd (by omega)).trans (congrArg some (by omega))) (by have h9 : v8853 40 = v8843 40 := hf8855 40 (by decide); (try rw [h9]); clear h9; have h9 : v8853 39 = v8843 39 := hf8855 39 (by decide); (try rw [h9]); clear h9; exact go.pl t8785 (by omega) (by omega) (by omega) (hrd_r8842.cast (by omega) rfl rfl rfl)) (by have h9 : v8853 39 = v8843 39 := hf8855 39 (by decide); rw [h9]; omega) (frC (by decide) hf8855 (frC (by decide) hf8845 (frU (by decide) hf_lp8781))) hI hF hP hS (lv_sub hl [1] rfl)
  obtain ⟨n9, hn9⟩ : ∃ n : Nat, 121 - (v8774 39).toInt ≤ (n : Int) := ⟨((121 - (v8774 39).toInt : Int)).toNat, by omega⟩
  exact lp8781 n9  v8774 F8775 H _ ls (by have h9 : v8774 39 = v8774 39 := rfl; (try rw [h9]); clear h9; have h9 : v8774 38 = v8774 38 := rfl; (try rw [h9]); clear h9; have h9 : v8774 41 = v8774 41 := rfl; (try rw [h9]); clear h9; have h9 : v8774 40 = v8774 40 := rfl; (try rw [h9]); clear h9; omega) hk (by have h9 : v8774 40 = v8774 40 := rfl; (try rw [h9]); clear h9; have h9 : v8774 38 = v8774 38 := rfl; (try rw [h9]); clear h9; exact fun hf => (hd (by omega)).trans (congrArg some (by omega))) (by have h9 : v8774 40 = v8774 40 := rfl; (try rw [h9]); clear h9; have h9 : v8774 39 = v8774 39 := rfl; (try rw [h9]); clear h9; exact go.p hrd_r8773) (by have h9 : v8774 39 = v8774 39 := rfl; rw [h9]; omega) (fun _ _ => rfl) hI hF hP hS hl
