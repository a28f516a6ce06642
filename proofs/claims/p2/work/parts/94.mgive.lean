set_option maxHeartbeats 8000000 in
set_option maxRecDepth 100000 in
theorem c_X12_giveBack (l : Launch) (dC : Nat → ClassId) (dI : Nat → Nat → Nat) (g : Nat → Nat) (c : Nat → ClassId) (adK adV : Nat → Nat) (v : Nat → Int32) (F : Nat → Nat → Int32) (rc sz : Nat) (p0 : Int32) (hg : injM g) (hI : IM v F) (hJ : JO (v 14) (v 19) (F 13) (F 15) (F 18)) (hL : JL (v 31) (F 28) (F 29) (F 27)) : Met l yX12_giveBack (Cond.code yX12_giveBack cX12_giveBack 3 (some .int) :: wA) ({ frames := 8, cells := 0, slots := 0, locals := 320 }) (va_Pc [.ref (g 0), .int p0] (PM dC dI g c adK adV v F rc sz)) (va_Qi (fun (r : Int32) (u : StM) => IM u.1 u.2.1 ∧ u.2.2 = rc ∧ (∀ k, k ∉ ([] : List Nat) → u.1 k = v k) ∧ (∀ k, k ∉ ([7, 8, 13, 18, 20, 22, 30, 31, 42] : List Nat) → u.2.1 k = F k) ∧ JO (u.1 14) (u.1 19) (u.2.1 13) (u.2.1 15) (u.2.1 18)) (BM dC dI g c) (AM g sz)) 0 0 (AM g sz) := by
  refine Met.ofW (cc := cX12_giveBack) (maxL := 3) (ret := (some .int)) (by decide) rfl ?_
  intro p e s m args below meth c0 s₁ B hml hv
  obtain ⟨rfl, hsz, hP, hK, hE⟩ := hv
  have hx := B.exec
  have hb := B.bytes
  have hr := B.returns
  have hts := atoms_spec (ws := Cond.code yX12_giveBack cX12_giveBack 3 (some .int) :: wA) B.pre
  have hwd : ∀ w ∈ wA, w.before _ s = true := fun w h => hts w (List.mem_cons_of_mem _ h)
  have hown : s.vm.findClass RX12 = some m.cls := findClass_of_methodNamed B.named
  have hlocks := B.notSynchronized
  subst hsz
  have hl := lv_entry ([.ref (g 0), .int p0]) (n := 3) (Nat.le_of_ble_eq_true rfl)
  rw [lg_entry_eq]
  generalize (lg_sl ([.ref (g 0), .int p0]) ++ List.replicate (3 - (lg_sl ([.ref (g 0), .int p0])).length) Slot.unset).toArray = ls at hl ⊢
  have hl : lv_has ls 3 [(0, .ref (g 0)), (1, .int p0)] := hl
  obtain ⟨H, eH⟩ : ∃ z, z = s.heap := ⟨_, rfl⟩
  have hP : va_P (dC, dI) classes (wM g c v F rc) H := by rw [eH]; exact hP
  have hS : va_S (AM g s.heap.size) s.heap H [] := by rw [eH]; exact va_S.rf
  refine my_heap eH ?_
  have hF : ∀ k, k ∉ ([7, 8, 13, 18, 20, 22, 30, 31, 42] : List Nat) → F k = F k := fun _ _ => rfl
  have rp0 := i32_rng p0
  have hb14 : 0 ≤ (v 14).toInt ∧ (v 14).toInt ≤ 100 := hI.1 14 _ _ rfl
  have hb19 : 0 ≤ (v 19).toInt ∧ (v 19).toInt ≤ 500 := hI.1 19 _ _ rfl
  have hb31 : 0 ≤ (v 31).toInt ∧ (v 31).toInt ≤ 10 := hI.1 31 _ _ rfl
  refine lv_aload_n hx hb dX12_giveBack_0 rfl (lv_at hl 0 rfl) ?_
  refine lv_iload_n hx hb dX12_giveBack_1 rfl (lv_at hl 1 rfl) ?_
  have t17555 : 0 ≤ (v 6).toInt ∧ (v 6).toInt ≤ 10 := hI.1 6 _ _ rfl
  refine va_calli (va_runV (As := [.int p0]) (rest := []) ⟨hx, hb, hml, hown, hwd⟩ (c_X12_isPlane l dC dI g c adK adV v F rc H.size p0 hg hI ) (cwV 1 hwd (gV wk_305 wk_302 wk_303 wk_304 wk_5) rfl rfl rfl (by decide +kernel) ⟨Nat.le_of_ble_eq_true rfl, Nat.le_of_ble_eq_true rfl⟩) ⟨PM.blind, va_recv hK hP (ci := 12) (q0 := 0) rfl rfl, fun U hU hW => ⟨rfl, PM.at hK hE hP hS hU hW⟩⟩ rfl rfl hl.1 rfl (lv_room (Nat.le_of_ble_eq_true rfl)) dX12_giveBack_2 ⟨Nat.le_of_ble_eq_true rfl, Nat.le_of_ble_eq_true rfl⟩) hS (fun q _ h => (freeM hS) q h) (freeM hS) (fun r17556 u t H1 locs ht hvm hw hB hz1 hk1 hS => ?_)
  unfold BM at hB
  rw [ht] at hB
  have hP : va_P (dC, dI) classes (wM g c v F rc) H1 := hB
  replace hw : (r17556.toInt = 1 ∧ 0 ≤ p0.toInt ∧ p0.toInt < (v 6).toInt) ∨ (r17556.toInt = 0 ∧ (p0.toInt < 0 ∨ (v 6).toInt ≤ p0.toInt)) := hw
  have hw_r17556 := hw
  clear hw
  clear hz1
  generalize H1 = H at hP hS ⊢
  refine lv_if_ne (tgt := 10) hx hb dX12_giveBack_5 (by decide) (fun c17557 => ?_) (fun c17557 => ?_)
  · skip
    have t17558 := cv_ne (a := r17556.toInt) rfl (b := 0) (by decide) c17557
    refine lv_aload_n hx hb dX12_giveBack_10 rfl (lv_at hl 0 rfl) ?_
    refine lv_iload_n hx hb dX12_giveBack_11 rfl (lv_at hl 1 rfl) ?_
    refine va_calli (va_runV (As := [.int p0]) (rest := []) ⟨hx, hb, hml, hown, hwd⟩ (c_X12_isReturned l dC dI g c adK adV v F rc H.size p0 hg hI (by omega)) (cwV 1 hwd (gV wk_313 wk_310 wk_311 wk_312 wk_5) rfl rfl rfl (by decide +kernel) ⟨Nat.le_of_ble_eq_true rfl, Nat.le_of_ble_eq_true rfl⟩) ⟨PM.blind, va_recv hK hP (ci := 12) (q0 := 0) rfl rfl, fun U hU hW => ⟨rfl, PM.at hK hE hP hS hU hW⟩⟩ rfl rfl hl.1 rfl (lv_room (Nat.le_of_ble_eq_true rfl)) dX12_giveBack_12 ⟨Nat.le_of_ble_eq_true rfl, Nat.le_of_ble_eq_true rfl⟩) hS (fun q _ h => (freeM hS) q h) (freeM hS) (fun r17559 u t H1 locs ht hvm hw hB hz1 hk1 hS => ?_)
    unfold BM at hB
    rw [ht] at hB
    have hP : va_P (dC, dI) classes (wM g c v F rc) H1 := hB
    have hw_r17559 : 0 ≤ r17559.toInt ∧ r17559.toInt ≤ 1 := hw
    clear hw
    clear hz1
    generalize H1 = H at hP hS ⊢
    refine lv_if_ne (tgt := 26) hx hb dX12_giveBack_15 (by decide) (fun c17560 => ?_) (fun c17560 => ?_)
    · skip
      have t17561 := cv_ne (a := r17559.toInt) rfl (b := 0) (by decide) c17560
      refine lv_bipush (v := (-2)) hx hb dX12_giveBack_26 (by decide) ?_
      have hP9 : va_P (dC, dI) classes (wM g c v F rc) H := hP
      exact W.iret (v := (-2)) hx hb hr (fun t ht hW => ⟨⟨(-2), (v, F, rc), rfl, ⟨hI, rfl, (fun _ _ => rfl), hF, hJ⟩, (by show va_P _ _ _ t.heap; rw [ht]; exact hP9)⟩, hS.F ht⟩) hS.2.2 dX12_giveBack_28
    · skip
      have t17562 := cv_eq (a := r17559.toInt) rfl (b := 0) (by decide) c17560
      refine lv_aload_n hx hb dX12_giveBack_18 rfl (lv_at hl 0 rfl) ?_
      refine lv_iload_n hx hb dX12_giveBack_19 rfl (lv_at hl 1 rfl) ?_
      refine va_calli (va_runV (As := [.int p0]) (rest := []) ⟨hx, hb, hml, hown, hwd⟩ (c_X12_hasContract l dC dI g c adK adV v F rc H.size p0 hg hI (by omega)) (cwV 1 hwd (gV wk_1201 wk_1198 wk_1199 wk_1200 wk_5) rfl rfl rfl (by decide +kernel) ⟨Nat.le_of_ble_eq_true rfl, Nat.le_of_ble_eq_true rfl⟩) ⟨PM.blind, va_recv hK hP (ci := 12) (q0 := 0) rfl rfl, fun U hU hW => ⟨rfl, PM.at hK hE hP hS hU hW⟩⟩ rfl rfl hl.1 rfl (lv_room (Nat.le_of_ble_eq_true rfl)) dX12_giveBack_20 ⟨Nat.le_of_ble_eq_true rfl, Nat.le_of_ble_eq_true rfl⟩) hS (fun q _ h => (freeM hS) q h) (freeM hS) (fun r17563 u t H1 locs ht hvm hw hB hz1 hk1 hS => ?_)
      unfold BM at hB
      rw [ht] at hB
      have hP : va_P (dC, dI) classes (wM g c v F rc) H1 := hB
      have hw_r17563 : 0 ≤ r17563.toInt ∧ r17563.toInt ≤ 1 := hw
      clear hw
      clear hz1
      generalize H1 = H at hP hS ⊢
      refine lv_if_ne (tgt := 29) hx hb dX12_giveBack_23 (by decide) (fun c17564 => ?_) (fun c17564 => ?_)
      · skip
        have t17565 := cv_ne (a := r17563.toInt) rfl (b := 0) (by decide) c17564
        refine lv_aload_n hx hb dX12_giveBack_29 rfl (lv_at hl 0 rfl) ?_
        refine lv_iload_n hx hb dX12_giveBack_30 rfl (lv_at hl 1 rfl) ?_
        have t17566 : 0 ≤ (v 14).toInt ∧ (v 14).toInt ≤ 100 := hI.1 14 _ _ rfl
        refine va_callv (va_runV (As := [.int p0]) (rest := []) ⟨hx, hb, hml, hown, hwd⟩ (c_X12_board l dC dI g c adK adV v F rc H.size p0 hg hI ) (cwV 1 hwd (gV wk_1205 wk_1202 wk_1203 wk_1204 wk_5) rfl rfl rfl (by decide +kernel) ⟨Nat.le_of_ble_eq_true rfl, Nat.le_of_ble_eq_true rfl⟩) ⟨PM.blind, va_recv hK hP (ci := 12) (q0 := 0) rfl rfl, fun U hU hW => ⟨rfl, PM.at hK hE hP hS hU hW⟩⟩ rfl rfl hl.1 rfl (lv_room (Nat.le_of_ble_eq_true rfl)) dX12_giveBack_31 ⟨Nat.le_of_ble_eq_true rfl, Nat.le_of_ble_eq_true rfl⟩) hS (fun q _ h => (freeM hS) q h) (freeM hS) (fun u t H1 locs ht hvm hw hB hz1 hk1 hS => ?_)
        unfold BM at hB
        rw [ht] at hB
        obtain ⟨v17568, F17569, rc9⟩ := u
        obtain ⟨hI, hrc, hf17570, hG17571, hw⟩ := hw
        dsimp only at hI hrc hB hf17570 hG17571 hw
        have hF := frCF (by decide) hG17571 hF
        rw [hrc] at hB
        have hP : va_P (dC, dI) classes (wM g c v17568 F17569 rc) H1 := hB
        replace hw : ∀ j : Nat, (j : Int) < (v 14).toInt → (F17569 42 j).toInt ≠ 0 → (F 13 j).toInt = p0.toInt := hw
        have hw_r17567 := hw
        clear hw
        clear hz1
        generalize H1 = H at hP hS ⊢
        refine lv_aload_n hx hb dX12_giveBack_34 rfl (lv_at hl 0 rfl) ?_
        refine va_get (D := (dC, dI)) (ci := 12) (v := .ref (g 7)) (C := RX12) (T := TX12) (N := 63) hx hb hwd inA_X12 hown hK hP 0 rfl rfl 10 (by decide) (hwd _ wk_188) (fun _ h9 => h9) rfl dX12_giveBack_35 ?_
        refine lv_iload_n hx hb dX12_giveBack_38 rfl (lv_at hl 1 rfl) ?_
        refine lv_aload_n hx hb dX12_giveBack_39 rfl (lv_at hl 0 rfl) ?_
        refine lv_iload_n hx hb dX12_giveBack_40 rfl (lv_at hl 1 rfl) ?_
        refine lv_aload_n hx hb dX12_giveBack_41 rfl (lv_at hl 0 rfl) ?_
        refine va_get (D := (dC, dI)) (ci := 12) (v := .int (v17568 1)) (C := RX12) (T := TX12) (N := 63) hx hb hwd inA_X12 hown hK hP 0 rfl rfl 1 (by decide) (hwd _ wk_332) (fun _ h9 => h9) rfl dX12_giveBack_42 ?_
        refine my_top (v := v 1) (hf17570 1 (by decide)) ?_
        have t17572 : 0 ≤ (v 1).toInt ∧ (v 1).toInt ≤ 9999 := by have h9 := hI.1 1 _ _ rfl; rw [show v17568 1 = v 1 from hf17570 1 (by decide)] at h9; exact h9
        refine lv_aload_n hx hb dX12_giveBack_45 rfl (lv_at hl 0 rfl) ?_
        refine va_get (D := (dC, dI)) (ci := 12) (v := .int (v17568 1)) (C := RX12) (T := TX12) (N := 63) hx hb hwd inA_X12 hown hK hP 0 rfl rfl 1 (by decide) (hwd _ wk_332) (fun _ h9 => h9) rfl dX12_giveBack_46 ?_
        refine my_top (v := v 1) (hf17570 1 (by decide)) ?_
        have t17573 : 0 ≤ (v 1).toInt ∧ (v 1).toInt ≤ 9999 := by have h9 := hI.1 1 _ _ rfl; rw [show v17568 1 = v 1 from hf17570 1 (by decide)] at h9; exact h9
        refine va_calli (va_runV (As := [.int p0, .int (v 1), .int (v 1)]) (rest := [.int p0, .ref (g 7)]) ⟨hx, hb, hml, hown, hwd⟩ (c_X12_costOfAll l dC dI g c adK adV v17568 F17569 rc H.size p0 (v 1) (v 1) hg hI (by omega) (JL.to hL (show v17568 31 = v 31 from hf17570 31 (by decide)) (hF 28 (by decide)) (hF 29 (by decide)) (hF 27 (by decide)))) (cwV 3 hwd (gV wk_1247 wk_1244 wk_1245 wk_1246 wk_5) rfl rfl rfl (by decide +kernel) ⟨Nat.le_of_ble_eq_true rfl, Nat.le_of_ble_eq_true rfl⟩) ⟨PM.blind, va_recv hK hP (ci := 12) (q0 := 0) rfl rfl, fun U hU hW => ⟨rfl, PM.at hK hE hP hS hU hW⟩⟩ rfl rfl hl.1 rfl (lv_room (Nat.le_of_ble_eq_true rfl)) dX12_giveBack_49 ⟨Nat.le_of_ble_eq_true rfl, Nat.le_of_ble_eq_true rfl⟩) hS (fun q _ h => (freeM hS) q h) (freeM hS) (fun r17574 u t H1 locs ht hvm hw hB hz1 hk1 hS => ?_)
        unfold BM at hB
        rw [ht] at hB
        obtain ⟨v17575, F17576, rc9⟩ := u
        obtain ⟨hI, hrc, hf17577, hG17578, hw⟩ := hw
        dsimp only at hI hrc hB hf17577 hG17578 hw
        have hF := frCF (by decide) hG17578 hF
        rw [hrc] at hB
        have hP : va_P (dC, dI) classes (wM g c v17575 F17576 rc) H1 := hB
        clear hz1
        generalize H1 = H at hP hS ⊢
        have rr_r17574 := i32_rng r17574
        refine va_iast hx hb hK hP (DM hg) hS 7 6 rfl rfl (i := p0) (x := r17574) (vin (a := p0.toInt) rfl (by omega)) dX12_giveBack_52 (fun H locs hP _ hS => ?_)
        have hP := va_P_eq (sM_7 g c _ _ _ _) hP
        have hI := IM.store0 hI 7 (p0 : Int32).toNatClampNeg r17574 rfl
        have hF := frUF (k := 7) (f := upd (F17576 7) (p0 : Int32).toNatClampNeg r17574) (by decide) hF
        have st17580 : (va_up F17576 7 (upd (F17576 7) (p0 : Int32).toNatClampNeg r17574)) 7 = upd (F17576 7) (p0 : Int32).toNatClampNeg r17574 := va_up_self _ _ _
        have sn17581 : ∀ k9, k9 ≠ 7 → (va_up F17576 7 (upd (F17576 7) (p0 : Int32).toNatClampNeg r17574)) k9 = F17576 k9 := fun k9 h9 => va_up_ne _ _ h9
        have hP : va_P (dC, dI) classes (wM g c v17575 (va_up F17576 7 (upd (F17576 7) (p0 : Int32).toNatClampNeg r17574)) rc) H := hP
        generalize (va_up F17576 7 (upd (F17576 7) (p0 : Int32).toNatClampNeg r17574)) = F17579 at hP hI hF st17580 sn17581
        refine lv_aload_n hx hb dX12_giveBack_53 rfl (lv_at hl 0 rfl) ?_
        refine va_get (D := (dC, dI)) (ci := 12) (v := .ref (g 8)) (C := RX12) (T := TX12) (N := 63) hx hb hwd inA_X12 hown hK hP 0 rfl rfl 11 (by decide) (hwd _ wk_189) (fun _ h9 => h9) rfl dX12_giveBack_54 ?_
        refine lv_iload_n hx hb dX12_giveBack_57 rfl (lv_at hl 1 rfl) ?_
        refine lv_aload_n hx hb dX12_giveBack_58 rfl (lv_at hl 0 rfl) ?_
        refine va_get (D := (dC, dI)) (ci := 12) (v := .int (v17575 1)) (C := RX12) (T := TX12) (N := 63) hx hb hwd inA_X12 hown hK hP 0 rfl rfl 1 (by decide) (hwd _ wk_332) (fun _ h9 => h9) rfl dX12_giveBack_59 ?_
        refine my_top (v := v 1) ((hf17577 1 (by decide)).trans (hf17570 1 (by decide))) ?_
        have t17582 : 0 ≤ (v 1).toInt ∧ (v 1).toInt ≤ 9999 := by have h9 := hI.1 1 _ _ rfl; rw [show v17575 1 = v 1 from (hf17577 1 (by decide)).trans (hf17570 1 (by decide))] at h9; exact h9
        refine va_iast hx hb hK hP (DM hg) hS 8 7 rfl rfl (i := p0) (x := (v 1)) (vin (a := p0.toInt) rfl (by omega)) dX12_giveBack_62 (fun H locs hP _ hS => ?_)
        have hP := va_P_eq (sM_8 g c _ _ _ _) hP
        have hI := IM.store0 hI 8 (p0 : Int32).toNatClampNeg (v 1) rfl
        have hF := frUF (k := 8) (f := upd (F17579 8) (p0 : Int32).toNatClampNeg (v 1)) (by decide) hF
        have st17584 : (va_up F17579 8 (upd (F17579 8) (p0 : Int32).toNatClampNeg (v 1))) 8 = upd (F17579 8) (p0 : Int32).toNatClampNeg (v 1) := va_up_self _ _ _
        have sn17585 : ∀ k9, k9 ≠ 8 → (va_up F17579 8 (upd (F17579 8) (p0 : Int32).toNatClampNeg (v 1))) k9 = F17579 k9 := fun k9 h9 => va_up_ne _ _ h9
        have hP : va_P (dC, dI) classes (wM g c v17575 (va_up F17579 8 (upd (F17579 8) (p0 : Int32).toNatClampNeg (v 1))) rc) H := hP
        generalize (va_up F17579 8 (upd (F17579 8) (p0 : Int32).toNatClampNeg (v 1))) = F17583 at hP hI hF st17584 sn17585
        refine lv_iconst (v := 0) hx hb dX12_giveBack_63 (by decide) ?_
        refine lv_istore_n (lv' := [(2, .int 0), (0, .ref (g 0)), (1, .int p0)]) hx hb dX12_giveBack_64 rfl hl (by decide) rfl (fun ls hl => ?_)
        have lp17586 : ∀ (n : Nat) (x2_lp17586 : Int32) (v_lp17586 : Nat → Int32) (F_lp17586 : Nat → Nat → Int32) (H : Heap) (locs : List Loc) (ls : Array Slot), (0 ≤ x2_lp17586.toInt) → (JO (v 14) (v 19) (F_lp17586 13) (F_lp17586 15) (F_lp17586 18)) → (∀ j : Nat, x2_lp17586.toInt ≤ (j : Int) → (j : Int) < (v 14).toInt → (F_lp17586 42 j).toInt ≠ 0 → (F_lp17586 13 j).toInt ≠ 12) → (2147483648 - x2_lp17586.toInt ≤ (n : Int)) → (∀ k, k ∉ ([] : List Nat) → v_lp17586 k = v17575 k) → IM v_lp17586 F_lp17586 → (∀ k, k ∉ ([7, 8, 13, 18, 20, 22, 30, 31, 42] : List Nat) → F_lp17586 k = F k) → va_P (dC, dI) classes (wM g c v_lp17586 F_lp17586 rc) H → va_S (AM g s.heap.size) s.heap H locs → lv_has ls 3 [(2, .int x2_lp17586), (0, .ref (g 0)), (1, .int p0)] → W p l e (headSpec (Cond.code yX12_giveBack cX12_giveBack 3 (some .int) :: wA) ({ frames := 8, cells := 0, slots := 0, locals := 320 })).room s m ([.ref (g 0), .int p0] : List Value).toArray below meth c0 H locs 0 0 (MQ below (va_Qi (fun (r : Int32) (u : StM) => IM u.1 u.2.1 ∧ u.2.2 = rc ∧ (∀ k, k ∉ ([] : List Nat) → u.1 k = v k) ∧ (∀ k, k ∉ ([7, 8, 13, 18, 20, 22, 30, 31, 42] : List Nat) → u.2.1 k = F k) ∧ JO (u.1 14) (u.1 19) (u.2.1 13) (u.2.1 15) (u.2.1 18)) (BM dC dI g c) (AM g s.heap.size)) ([.ref (g 0), .int p0] : List Value).toArray s 0 0 (AM g s.heap.size)) (F0 m 65 ls []) := by
          intro n
          induction n with
          | zero =>
            intro x2_lp17586 v_lp17586 F_lp17586 H locs ls t17587 t17588 t17589 hm hf_lp17586 hI hF hP hS hl
            exfalso
            have := i32_rng x2_lp17586
            have hI1 := hI.1
            omega
          | succ n ih_lp17586 =>
            intro x2_lp17586 v_lp17586 F_lp17586 H locs ls t17587 t17588 t17589 hm hf_lp17586 hI hF hP hS hl
            have rx2_lp17586 := i32_rng x2_lp17586
            refine lv_iload_n hx hb dX12_giveBack_65 rfl (lv_at hl 0 rfl) ?_
            refine lv_aload_n hx hb dX12_giveBack_66 rfl (lv_at hl 1 rfl) ?_
            refine va_get (D := (dC, dI)) (ci := 12) (v := .int (v_lp17586 14)) (C := RX12) (T := TX12) (N := 63) hx hb hwd inA_X12 hown hK hP 0 rfl rfl 14 (by decide) (hwd _ wk_318) (fun _ h9 => h9) rfl dX12_giveBack_67 ?_
            refine my_top (v := v 14) ((hf_lp17586 14 (by decide)).trans ((hf17577 14 (by decide)).trans (hf17570 14 (by decide)))) ?_
            have t17590 : 0 ≤ (v 14).toInt ∧ (v 14).toInt ≤ 100 := by have h9 := hI.1 14 _ _ rfl; rw [show v_lp17586 14 = v 14 from (hf_lp17586 14 (by decide)).trans ((hf17577 14 (by decide)).trans (hf17570 14 (by decide)))] at h9; exact h9
            refine lv_icmp_ge (tgt := 104) hx hb dX12_giveBack_70 (by decide) (fun c17591 => ?_) (fun c17591 => ?_)
            · skip
              have t17592 := cv_le (a := (v 14).toInt) rfl (b := x2_lp17586.toInt) rfl c17591
              refine lv_aload_n hx hb dX12_giveBack_104 rfl (lv_at hl 1 rfl) ?_
              refine va_get (D := (dC, dI)) (ci := 12) (v := .ref (g 7)) (C := RX12) (T := TX12) (N := 63) hx hb hwd inA_X12 hown hK hP 0 rfl rfl 10 (by decide) (hwd _ wk_188) (fun _ h9 => h9) rfl dX12_giveBack_105 ?_
              refine lv_iload_n hx hb dX12_giveBack_108 rfl (lv_at hl 2 rfl) ?_
              refine va_iald hx hb hK hP 7 6 rfl rfl (i := p0) (vin (a := p0.toInt) rfl (by omega)) dX12_giveBack_109 ?_
              refine lv_topi (fun z17593 e17594 => ?_)
              have tzz17593 : z17593.toInt = (F_lp17586 7 (p0 : Int32).toNatClampNeg).toInt := congrArg Int32.toInt e17594
              have hP9 : va_P (dC, dI) classes (wM g c v_lp17586 F_lp17586 rc) H := hP
              exact W.iret (v := z17593) hx hb hr (fun t ht hW => ⟨⟨z17593, (v_lp17586, F_lp17586, rc), rfl, ⟨hI, rfl, (frC (by decide) hf_lp17586 (frC (by decide) hf17577 (frC (by decide) hf17570 (fun _ _ => rfl)))), hF, (by show JO (v_lp17586 14) (v_lp17586 19) (F_lp17586 13) (F_lp17586 15) (F_lp17586 18); rw [show v_lp17586 14 = v 14 from (hf_lp17586 14 (by decide)).trans ((hf17577 14 (by decide)).trans (hf17570 14 (by decide))), show v_lp17586 19 = v 19 from (hf_lp17586 19 (by decide)).trans ((hf17577 19 (by decide)).trans (hf17570 19 (by decide)))]; exact t17588)⟩, (by show va_P _ _ _ t.heap; rw [ht]; exact hP9)⟩, hS.F ht⟩) hS.2.2 dX12_giveBack_110
            · skip
              have t17595 := cv_nle (a := (v 14).toInt) rfl (b := x2_lp17586.toInt) rfl c17591
              refine lv_aload_n hx hb dX12_giveBack_73 rfl (lv_at hl 1 rfl) ?_
              refine va_get (D := (dC, dI)) (ci := 12) (v := .ref (g 42)) (C := RX12) (T := TX12) (N := 63) hx hb hwd inA_X12 hown hK hP 0 rfl rfl 56 (by decide) (hwd _ wk_224) (fun _ h9 => h9) rfl dX12_giveBack_74 ?_
              refine lv_iload_n hx hb dX12_giveBack_77 rfl (lv_at hl 0 rfl) ?_
              refine va_zald hx hb hK hP 42 41 rfl rfl (i := x2_lp17586) (vin (a := x2_lp17586.toInt) rfl (by omega)) dX12_giveBack_78 ?_
              refine lv_topi (fun z17596 e17597 => ?_)
              have tzz17596 : z17596.toInt = (F_lp17586 42 (x2_lp17586 : Int32).toNatClampNeg).toInt := congrArg Int32.toInt e17597
              refine lv_if_ne (tgt := 85) hx hb dX12_giveBack_79 (by decide) (fun c17598 => ?_) (fun c17598 => ?_)
              · skip
                have t17599 := cv_ne (a := z17596.toInt) rfl (b := 0) (by decide) c17598
                refine lv_aload_n hx hb dX12_giveBack_85 rfl (lv_at hl 1 rfl) ?_
                refine lv_iload_n hx hb dX12_giveBack_86 rfl (lv_at hl 0 rfl) ?_
                have t17600 : 0 ≤ (v 19).toInt ∧ (v 19).toInt ≤ 500 := by have h9 := hI.1 19 _ _ rfl; rw [show v_lp17586 19 = v 19 from (hf_lp17586 19 (by decide)).trans ((hf17577 19 (by decide)).trans (hf17570 19 (by decide)))] at h9; exact h9
                refine va_callv (va_runV (As := [.int x2_lp17586]) (rest := []) ⟨hx, hb, hml, hown, hwd⟩ (c_X12_endStay l dC dI g c adK adV v_lp17586 F_lp17586 rc H.size x2_lp17586 hg hI (by omega) (by have h9 : v_lp17586 19 = v 19 := (hf_lp17586 19 (by decide)).trans ((hf17577 19 (by decide)).trans (hf17570 19 (by decide))); (try rw [h9]); exact JO.at' t17588 (i := x2_lp17586) (by omega) (by omega) (t17589 _ (by have := ncl_i (x := x2_lp17586) (by omega); omega) (by have := ncl_i (x := x2_lp17586) (by omega); omega) (by omega)))) (cwV 1 hwd (gV wk_635 wk_632 wk_633 wk_634 wk_5) rfl rfl rfl (by decide +kernel) ⟨Nat.le_of_ble_eq_true rfl, Nat.le_of_ble_eq_true rfl⟩) ⟨PM.blind, va_recv hK hP (ci := 12) (q0 := 0) rfl rfl, fun U hU hW => ⟨rfl, PM.at hK hE hP hS hU hW⟩⟩ rfl rfl hl.1 rfl (lv_room (Nat.le_of_ble_eq_true rfl)) dX12_giveBack_87 ⟨Nat.le_of_ble_eq_true rfl, Nat.le_of_ble_eq_true rfl⟩) hS (fun q _ h => (freeM hS) q h) (freeM hS) (fun u t H1 locs ht hvm hw hB hz1 hk1 hS => ?_)
                unfold BM at hB
                rw [ht] at hB
                obtain ⟨v17602, F17603, rc9⟩ := u
                obtain ⟨hI, hrc, hf17604, hG17605, hw⟩ := hw
                dsimp only at hI hrc hB hf17604 hG17605 hw
                have hF := frCF (by decide) hG17605 hF
                rw [hrc] at hB
                have hP : va_P (dC, dI) classes (wM g c v17602 F17603 rc) H1 := hB
                replace hw : ∀ j : Int, j ≠ x2_lp17586.toInt → hasO (v_lp17586 19) (F_lp17586 15) (F_lp17586 18) j → hasO (v17602 19) (F17603 15) (F17603 18) j := hw
                rw [show v_lp17586 19 = v 19 from (hf_lp17586 19 (by decide)).trans ((hf17577 19 (by decide)).trans (hf17570 19 (by decide)))] at hw
                rw [show v17602 19 = v 19 from (hf17604 19 (by decide)).trans ((hf_lp17586 19 (by decide)).trans ((hf17577 19 (by decide)).trans (hf17570 19 (by decide))))] at hw
                have hw_r17601 := hw
                clear hw
                have t17606 : 0 ≤ (v 19).toInt ∧ (v 19).toInt ≤ 500 := by have h9 := hI.1 19 _ _ rfl; rw [show v17602 19 = v 19 from (hf17604 19 (by decide)).trans ((hf_lp17586 19 (by decide)).trans ((hf17577 19 (by decide)).trans (hf17570 19 (by decide))))] at h9; exact h9
                clear hz1
                generalize H1 = H at hP hS ⊢
                refine lv_aload_n hx hb dX12_giveBack_90 rfl (lv_at hl 1 rfl) ?_
                refine va_get (D := (dC, dI)) (ci := 12) (v := .ref (g 13)) (C := RX12) (T := TX12) (N := 63) hx hb hwd inA_X12 hown hK hP 0 rfl rfl 17 (by decide) (hwd _ wk_194) (fun _ h9 => h9) rfl dX12_giveBack_91 ?_
                refine lv_iload_n hx hb dX12_giveBack_94 rfl (lv_at hl 0 rfl) ?_
                refine lv_bipush (v := 12) hx hb dX12_giveBack_95 (by decide) ?_
                refine va_iast hx hb hK hP (DM hg) hS 13 12 rfl rfl (i := x2_lp17586) (x := 12) (vin (a := x2_lp17586.toInt) rfl (by omega)) dX12_giveBack_97 (fun H locs hP _ hS => ?_)
                have hP := va_P_eq (sM_13 g c _ _ _ _) hP
                have hI := IM.store hI 13 (x2_lp17586 : Int32).toNatClampNeg 12 rfl (by have : (12 : Int32).toInt = 12 := (by decide); omega)
                have hF := frUF (k := 13) (f := upd (F17603 13) (x2_lp17586 : Int32).toNatClampNeg 12) (by decide) hF
                have st17608 : (va_up F17603 13 (upd (F17603 13) (x2_lp17586 : Int32).toNatClampNeg 12)) 13 = upd (F17603 13) (x2_lp17586 : Int32).toNatClampNeg 12 := va_up_self _ _ _
                have sn17609 : ∀ k9, k9 ≠ 13 → (va_up F17603 13 (upd (F17603 13) (x2_lp17586 : Int32).toNatClampNeg 12)) k9 = F17603 k9 := fun k9 h9 => va_up_ne _ _ h9
                have hP : va_P (dC, dI) classes (wM g c v17602 (va_up F17603 13 (upd (F17603 13) (x2_lp17586 : Int32).toNatClampNeg 12)) rc) H := hP
                generalize (va_up F17603 13 (upd (F17603 13) (x2_lp17586 : Int32).toNatClampNeg 12)) = F17607 at hP hI hF st17608 sn17609
                obtain ⟨z17610, e17611⟩ : ∃ y : Int32, y = x2_lp17586 + 1 := ⟨_, rfl⟩
                try (have t17612 := tadd e17611 rfl (b := 1) (by decide) (by omega))
                refine lv_iinc (v := z17610) (lv' := [(2, .int z17610), (0, .ref (g 0)), (1, .int p0)]) hx hb dX12_giveBack_98 hl (k := 0) rfl (by rw [e17611]; rfl) (by decide) rfl (fun ls hl => ?_)
                refine lv_goto (tgt := 65) hx hb dX12_giveBack_101 (by decide) ?_
                exact ih_lp17586 z17610 v17602 F17607 _ _ _ (by omega) (by rw [show F17607 15 = F17603 15 from (sn17609 15 (by decide)), show F17607 18 = F17603 18 from (sn17609 18 (by decide))]; exact JO.gone t17588 hw_r17601 (st17608.trans (congrArg (fun f => upd f (x2_lp17586 : Int32).toNatClampNeg 12) (hG17605 13 (by decide)))) (by decide) (by omega)) (fun j h0 h1 h2 => by rw [show F17607 42 = F_lp17586 42 from ((sn17609 42 (by decide)).trans (hG17605 42 (by decide)))] at h2; rw [show F17607 13 = (upd (F_lp17586 13) (x2_lp17586 : Int32).toNatClampNeg 12) from (st17608.trans (congrArg (fun f => upd f (x2_lp17586 : Int32).toNatClampNeg 12) (hG17605 13 (by decide)))), mu_ne _ _ (fun e9 => by have := ncl_i (x := x2_lp17586) (by omega); omega)]; exact t17589 j (by omega) h1 h2) (by omega) (frC (by decide) hf17604 hf_lp17586) hI hF hP hS (lv_sub hl [0, 1, 2] rfl)
              · skip
                have t17613 := cv_eq (a := z17596.toInt) rfl (b := 0) (by decide) c17598
                refine lv_goto (tgt := 98) hx hb dX12_giveBack_82 (by decide) ?_
                obtain ⟨z17614, e17615⟩ : ∃ y : Int32, y = x2_lp17586 + 1 := ⟨_, rfl⟩
                try (have t17616 := tadd e17615 rfl (b := 1) (by decide) (by omega))
                refine lv_iinc (v := z17614) (lv' := [(2, .int z17614), (0, .ref (g 0)), (1, .int p0)]) hx hb dX12_giveBack_98 hl (k := 0) rfl (by rw [e17615]; rfl) (by decide) rfl (fun ls hl => ?_)
                refine lv_goto (tgt := 65) hx hb dX12_giveBack_101 (by decide) ?_
                exact ih_lp17586 z17614 v_lp17586 F_lp17586 _ _ _ (by omega) t17588 (fun j h0 h1 h2 => t17589 j (by omega) h1 h2) (by omega) hf_lp17586 hI hF hP hS (lv_sub hl [0, 1, 2] rfl)
        obtain ⟨n9, hn9⟩ : ∃ n : Nat, 2147483648 - 0 ≤ (n : Int) := ⟨((2147483648 - 0 : Int)).toNat, by omega⟩
        exact lp17586 n9 0 v17575 F17583 H _ ls (by have : (0 : Int32).toInt = 0 := (by decide); omega) (JO.to hJ rfl rfl ((sn17585 13 (by decide)).trans ((sn17581 13 (by decide)).trans ((hG17578 13 (by decide)).trans (hG17571 13 (by decide))))) ((sn17585 15 (by decide)).trans ((sn17581 15 (by decide)).trans ((hG17578 15 (by decide)).trans (hG17571 15 (by decide))))) ((sn17585 18 (by decide)).trans ((sn17581 18 (by decide)).trans ((hG17578 18 (by decide)).trans (hG17571 18 (by decide)))))) (fun j _ h1 h2 => by rw [show F17583 42 = F17569 42 from ((sn17585 42 (by decide)).trans ((sn17581 42 (by decide)).trans (hG17578 42 (by decide))))] at h2; rw [show F17583 13 = F 13 from ((sn17585 13 (by decide)).trans ((sn17581 13 (by decide)).trans ((hG17578 13 (by decide)).trans (hG17571 13 (by decide)))))]; have := hw_r17567 j h1 h2; omega) (by have : (0 : Int32).toInt = 0 := (by decide); omega) (fun _ _ => rfl) hI hF hP hS hl
      · skip
        have t17617 := cv_eq (a := r17563.toInt) rfl (b := 0) (by decide) c17564
        refine lv_bipush (v := (-2)) hx hb dX12_giveBack_26 (by decide) ?_
        have hP9 : va_P (dC, dI) classes (wM g c v F rc) H := hP
        exact W.iret (v := (-2)) hx hb hr (fun t ht hW => ⟨⟨(-2), (v, F, rc), rfl, ⟨hI, rfl, (fun _ _ => rfl), hF, hJ⟩, (by show va_P _ _ _ t.heap; rw [ht]; exact hP9)⟩, hS.F ht⟩) hS.2.2 dX12_giveBack_28
  · skip
    have t17618 := cv_eq (a := r17556.toInt) rfl (b := 0) (by decide) c17557
    refine lv_iconst (v := (-1)) hx hb dX12_giveBack_8 (by decide) ?_
    have hP9 : va_P (dC, dI) classes (wM g c v F rc) H := hP
    exact W.iret (v := (-1)) hx hb hr (fun t ht hW => ⟨⟨(-1), (v, F, rc), rfl, ⟨hI, rfl, (fun _ _ => rfl), hF, hJ⟩, (by show va_P _ _ _ t.heap; rw [ht]; exact hP9)⟩, hS.F ht⟩) hS.2.2 dX12_giveBack_9
