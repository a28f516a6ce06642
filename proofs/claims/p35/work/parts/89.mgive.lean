set_option maxHeartbeats 8000000 in
set_option maxRecDepth 100000 in
theorem c_X12_giveBack (l : Launch) (dC : Nat → ClassId) (dI : Nat → Nat → Nat) (g : Nat → Nat) (c : Nat → ClassId) (adK adV : Nat → Nat) (v : Nat → Int32) (F : Nat → Nat → Int32) (rc sz : Nat) (p0 : Int32) (hg : injM g) (hI : IM v F) (hJ : JO (v 14) (v 19) (F 13) (F 15) (F 18)) (hL : JL (v 31) (F 28) (F 29) (F 27)) : Met l yX12_giveBack (Cond.code yX12_giveBack cX12_giveBack 3 (some .int) :: wA) ({ frames := 8, cells := 0, slots := 0, locals := 320 }) (va_Pc [.ref (g 0), .int p0] (PM dC dI g c adK adV v F rc sz)) (va_Qi (fun (r : Int32) (u : StM) => IM u.1 u.2.1 ∧ u.2.2 = rc ∧ (∀ k, k ∉ ([] : List Nat) → u.1 k = v k) ∧ (∀ k, k ∉ ([7, 8, 13, 18, 20, 22, 30, 31, 42] : List Nat) → u.2.1 k = F k) ∧ JO (u.1 14) (u.1 19) (u.2.1 13) (u.2.1 15) (u.2.1 18)) (BM dC dI g c) (AM g sz)) 0 0 (AM g sz) := by
  refine Met.ofW (cc := cX12_giveBack) (maxL := 3) (ret := (some .int)) (by decide) rfl ?_
  intro p e s m args below meth c0 s₁ B hml hv
  obtain ⟨rfl, hsz, hP, hK, hE⟩ := hv
  have hx := B.exec
  have hb := B.bytes
  have hr := B.returns
  have hts := atoms_spec (ws := Cond.code yX12_giveBack cX12_giveBack 3 (some .int) :: wA) B.pre
  have hwd : ∀ w ∈ wA, w.before _ s = true := fun w h => hts w (List.mem_cons_of_mem _ h)
  have hown : s.vm.findClass RX12 = some m.cls := findClass_of_methodNamed B.named
  have hlocks := B.notSynchronized
  subst hsz
  have hl := lv_entry ([.ref (g 0), .int p0]) (n := 3) (Nat.le_of_ble_eq_true rfl)
  rw [lg_entry_eq]
  generalize (lg_sl ([.ref (g 0), .int p0]) ++ List.replicate (3 - (lg_sl ([.ref (g 0), .int p0])).length) Slot.unset).toArray = ls at hl ⊢
  have hl : lv_has ls 3 [(0, .ref (g 0)), (1, .int p0)] := hl
  obtain ⟨H, eH⟩ : ∃ z, z = s.heap := ⟨_, rfl⟩
  have hP : va_P (dC, dI) classes (wM g c v F rc) H := by rw [eH]; exact hP
  have hS : va_S (AM g s.heap.size) s.heap H [] := by rw [eH]; exact va_S.rf
  refine my_heap eH ?_
  have hF : ∀ k, k ∉ ([7, 8, 13, 18, 20, 22, 30, 31, 42] : List Nat) → F k = F k := fun _ _ => rfl
  have rp0 := i32_rng p0
  have hb14 : 0 ≤ (v 14).toInt ∧ (v 14).toInt ≤ 100 := hI.1 14 _ _ rfl
  have hb19 : 0 ≤ (v 19).toInt ∧ (v 19).toInt ≤ 500 := hI.1 19 _ _ rfl
  have hb31 : 0 ≤ (v 31).toInt ∧ (v 31).toInt ≤ 10 := hI.1 31 _ _ rfl
  refine lv_aload_n hx hb dX12_giveBack_0 rfl (lv_at hl 0 rfl) ?_
  refine lv_iload_n hx hb dX12_giveBack_1 rfl (lv_at hl 1 rfl) ?_
  have t15098 : 0 ≤ (v 6).toInt ∧ (v 6).toInt ≤ 10 := hI.1 6 _ _ rfl
  refine va_calli (va_runV (As := [.int p0]) (rest := []) ⟨hx, hb, hml, hown, hwd⟩ (c_X12_isPlane l dC dI g c adK adV v F rc H.size p0 hg hI ) (cwV 1 hwd (gV wk_305 wk_302 wk_303 wk_304 wk_5) rfl rfl rfl (by decide +kernel) ⟨Nat.le_of_ble_eq_true rfl, Nat.le_of_ble_eq_true rfl⟩) ⟨PM.blind, va_recv hK hP (ci := 12) (q0 := 0) rfl rfl, fun U hU hW => ⟨rfl, PM.at hK hE hP hS hU hW⟩⟩ rfl rfl hl.1 rfl (lv_room (Nat.le_of_ble_eq_true rfl)) dX12_giveBack_2 ⟨Nat.le_of_ble_eq_true rfl, Nat.le_of_ble_eq_true rfl⟩) hS (fun q _ h => (freeM hS) q h) (freeM hS) (fun r15099 u t H1 locs ht hvm hw hB hz1 hk1 hS => ?_)
  unfold BM at hB
  rw [ht] at hB
  have hP : va_P (dC, dI) classes (wM g c v F rc) H1 := hB
  replace hw : (r15099.toInt = 1 ∧ 0 ≤ p0.toInt ∧ p0.toInt < (v 6).toInt) ∨ (r15099.toInt = 0 ∧ (p0.toInt < 0 ∨ (v 6).toInt ≤ p0.toInt)) := hw
  have hw_r15099 := hw
  clear hw
  clear hz1
  generalize H1 = H at hP hS ⊢
  refine lv_if_ne (tgt := 10) hx hb dX12_giveBack_5 (by decide) (fun c15100 => ?_) (fun c15100 => ?_)
  · skip
    have t15101 := cv_ne (a := r15099.toInt) rfl (b := 0) (by decide) c15100
    refine lv_aload_n hx hb dX12_giveBack_10 rfl (lv_at hl 0 rfl) ?_
    refine lv_iload_n hx hb dX12_giveBack_11 rfl (lv_at hl 1 rfl) ?_
    refine va_calli (va_runV (As := [.int p0]) (rest := []) ⟨hx, hb, hml, hown, hwd⟩ (c_X12_isReturned l dC dI g c adK adV v F rc H.size p0 hg hI (by omega)) (cwV 1 hwd (gV wk_313 wk_310 wk_311 wk_312 wk_5) rfl rfl rfl (by decide +kernel) ⟨Nat.le_of_ble_eq_true rfl, Nat.le_of_ble_eq_true rfl⟩) ⟨PM.blind, va_recv hK hP (ci := 12) (q0 := 0) rfl rfl, fun U hU hW => ⟨rfl, PM.at hK hE hP hS hU hW⟩⟩ rfl rfl hl.1 rfl (lv_room (Nat.le_of_ble_eq_true rfl)) dX12_giveBack_12 ⟨Nat.le_of_ble_eq_true rfl, Nat.le_of_ble_eq_true rfl⟩) hS (fun q _ h => (freeM hS) q h) (freeM hS) (fun r15102 u t H1 locs ht hvm hw hB hz1 hk1 hS => ?_)
    unfold BM at hB
    rw [ht] at hB
    have hP : va_P (dC, dI) classes (wM g c v F rc) H1 := hB
    have hw_r15102 : 0 ≤ r15102.toInt ∧ r15102.toInt ≤ 1 := hw
    clear hw
    clear hz1
    generalize H1 = H at hP hS ⊢
    refine lv_if_ne (tgt := 26) hx hb dX12_giveBack_15 (by decide) (fun c15103 => ?_) (fun c15103 => ?_)
    · skip
      have t15104 := cv_ne (a := r15102.toInt) rfl (b := 0) (by decide) c15103
      refine lv_bipush (v := (-2)) hx hb dX12_giveBack_26 (by decide) ?_
      have hP9 : va_P (dC, dI) classes (wM g c v F rc) H := hP
      exact W.iret (v := (-2)) hx hb hr (fun t ht hW => ⟨⟨(-2), (v, F, rc), rfl, ⟨hI, rfl, (fun _ _ => rfl), hF, hJ⟩, (by show va_P _ _ _ t.heap; rw [ht]; exact hP9)⟩, hS.F ht⟩) hS.2.2 dX12_giveBack_28
    · skip
      have t15105 := cv_eq (a := r15102.toInt) rfl (b := 0) (by decide) c15103
      refine lv_aload_n hx hb dX12_giveBack_18 rfl (lv_at hl 0 rfl) ?_
      refine lv_iload_n hx hb dX12_giveBack_19 rfl (lv_at hl 1 rfl) ?_
      refine va_calli (va_runV (As := [.int p0]) (rest := []) ⟨hx, hb, hml, hown, hwd⟩ (c_X12_hasContract l dC dI g c adK adV v F rc H.size p0 hg hI (by omega)) (cwV 1 hwd (gV wk_1201 wk_1198 wk_1199 wk_1200 wk_5) rfl rfl rfl (by decide +kernel) ⟨Nat.le_of_ble_eq_true rfl, Nat.le_of_ble_eq_true rfl⟩) ⟨PM.blind, va_recv hK hP (ci := 12) (q0 := 0) rfl rfl, fun U hU hW => ⟨rfl, PM.at hK hE hP hS hU hW⟩⟩ rfl rfl hl.1 rfl (lv_room (Nat.le_of_ble_eq_true rfl)) dX12_giveBack_20 ⟨Nat.le_of_ble_eq_true rfl, Nat.le_of_ble_eq_true rfl⟩) hS (fun q _ h => (freeM hS) q h) (freeM hS) (fun r15106 u t H1 locs ht hvm hw hB hz1 hk1 hS => ?_)
      unfold BM at hB
      rw [ht] at hB
      have hP : va_P (dC, dI) classes (wM g c v F rc) H1 := hB
      have hw_r15106 : 0 ≤ r15106.toInt ∧ r15106.toInt ≤ 1 := hw
      clear hw
      clear hz1
      generalize H1 = H at hP hS ⊢
      refine lv_if_ne (tgt := 29) hx hb dX12_giveBack_23 (by decide) (fun c15107 => ?_) (fun c15107 => ?_)
      · skip
        have t15108 := cv_ne (a := r15106.toInt) rfl (b := 0) (by decide) c15107
        refine lv_aload_n hx hb dX12_giveBack_29 rfl (lv_at hl 0 rfl) ?_
        refine lv_iload_n hx hb dX12_giveBack_30 rfl (lv_at hl 1 rfl) ?_
        have t15109 : 0 ≤ (v 14).toInt ∧ (v 14).toInt ≤ 100 := hI.1 14 _ _ rfl
        refine va_callv (va_runV (As := [.int p0]) (rest := []) ⟨hx, hb, hml, hown, hwd⟩ (c_X12_board l dC dI g c adK adV v F rc H.size p0 hg hI ) (cwV 1 hwd (gV wk_1205 wk_1202 wk_1203 wk_1204 wk_5) rfl rfl rfl (by decide +kernel) ⟨Nat.le_of_ble_eq_true rfl, Nat.le_of_ble_eq_true rfl⟩) ⟨PM.blind, va_recv hK hP (ci := 12) (q0 := 0) rfl rfl, fun U hU hW => ⟨rfl, PM.at hK hE hP hS hU hW⟩⟩ rfl rfl hl.1 rfl (lv_room (Nat.le_of_ble_eq_true rfl)) dX12_giveBack_31 ⟨Nat.le_of_ble_eq_true rfl, Nat.le_of_ble_eq_true rfl⟩) hS (fun q _ h => (freeM hS) q h) (freeM hS) (fun u t H1 locs ht hvm hw hB hz1 hk1 hS => ?_)
        unfold BM at hB
        rw [ht] at hB
        obtain ⟨v15111, F15112, rc9⟩ := u
        obtain ⟨hI, hrc, hf15113, hG15114, hw⟩ := hw
        dsimp only at hI hrc hB hf15113 hG15114 hw
        have hF := frCF (by decide) hG15114 hF
        rw [hrc] at hB
        have hP : va_P (dC, dI) classes (wM g c v15111 F15112 rc) H1 := hB
        replace hw : ∀ j : Nat, (j : Int) < (v 14).toInt → (F15112 42 j).toInt ≠ 0 → (F 13 j).toInt = p0.toInt := hw
        have hw_r15110 := hw
        clear hw
        clear hz1
        generalize H1 = H at hP hS ⊢
        refine lv_aload_n hx hb dX12_giveBack_34 rfl (lv_at hl 0 rfl) ?_
        refine va_get (D := (dC, dI)) (ci := 12) (v := .ref (g 7)) (C := RX12) (T := TX12) (N := 63) hx hb hwd inA_X12 hown hK hP 0 rfl rfl 10 (by decide) (hwd _ wk_188) (fun _ h9 => h9) rfl dX12_giveBack_35 ?_
        refine lv_iload_n hx hb dX12_giveBack_38 rfl (lv_at hl 1 rfl) ?_
        refine lv_aload_n hx hb dX12_giveBack_39 rfl (lv_at hl 0 rfl) ?_
        refine lv_iload_n hx hb dX12_giveBack_40 rfl (lv_at hl 1 rfl) ?_
        refine lv_aload_n hx hb dX12_giveBack_41 rfl (lv_at hl 0 rfl) ?_
        refine va_get (D := (dC, dI)) (ci := 12) (v := .int (v15111 1)) (C := RX12) (T := TX12) (N := 63) hx hb hwd inA_X12 hown hK hP 0 rfl rfl 1 (by decide) (hwd _ wk_332) (fun _ h9 => h9) rfl dX12_giveBack_42 ?_
        refine my_top (v := v 1) (hf15113 1 (by decide)) ?_
        have t15115 : 0 ≤ (v 1).toInt ∧ (v 1).toInt ≤ 9999 := by have h9 := hI.1 1 _ _ rfl; rw [show v15111 1 = v 1 from hf15113 1 (by decide)] at h9; exact h9
        refine lv_aload_n hx hb dX12_giveBack_45 rfl (lv_at hl 0 rfl) ?_
        refine va_get (D := (dC, dI)) (ci := 12) (v := .int (v15111 1)) (C := RX12) (T := TX12) (N := 63) hx hb hwd inA_X12 hown hK hP 0 rfl rfl 1 (by decide) (hwd _ wk_332) (fun _ h9 => h9) rfl dX12_giveBack_46 ?_
        refine my_top (v := v 1) (hf15113 1 (by decide)) ?_
        have t15116 : 0 ≤ (v 1).toInt ∧ (v 1).toInt ≤ 9999 := by have h9 := hI.1 1 _ _ rfl; rw [show v15111 1 = v 1 from hf15113 1 (by decide)] at h9; exact h9
        refine va_calli (va_runV (As := [.int p0, .int (v 1), .int (v 1)]) (rest := [.int p0, .ref (g 7)]) ⟨hx, hb, hml, hown, hwd⟩ (c_X12_costOfAll l dC dI g c adK adV v15111 F15112 rc H.size p0 (v 1) (v 1) hg hI (by omega) (JL.to hL (show v15111 31 = v 31 from hf15113 31 (by decide)) (hF 28 (by decide)) (hF 29 (by decide)) (hF 27 (by decide)))) (cwV 3 hwd (gV wk_1247 wk_1244 wk_1245 wk_1246 wk_5) rfl rfl rfl (by decide +kernel) ⟨Nat.le_of_ble_eq_true rfl, Nat.le_of_ble_eq_true rfl⟩) ⟨PM.blind, va_recv hK hP (ci := 12) (q0 := 0) rfl rfl, fun U hU hW => ⟨rfl, PM.at hK hE hP hS hU hW⟩⟩ rfl rfl hl.1 rfl (lv_room (Nat.le_of_ble_eq_true rfl)) dX12_giveBack_49 ⟨Nat.le_of_ble_eq_true rfl, Nat.le_of_ble_eq_true rfl⟩) hS (fun q _ h => (freeM hS) q h) (freeM hS) (fun r15117 u t H1 locs ht hvm hw hB hz1 hk1 hS => ?_)
        unfold BM at hB
        rw [ht] at hB
        obtain ⟨v15118, F15119, rc9⟩ := u
        obtain ⟨hI, hrc, hf15120, hG15121, hw⟩ := hw
        dsimp only at hI hrc hB hf15120 hG15121 hw
        have hF := frCF (by decide) hG15121 hF
        rw [hrc] at hB
        have hP : va_P (dC, dI) classes (wM g c v15118 F15119 rc) H1 := hB
        clear hz1
        generalize H1 = H at hP hS ⊢
        have rr_r15117 := i32_rng r15117
        refine va_iast hx hb hK hP (DM hg) hS 7 6 rfl rfl (i := p0) (x := r15117) (vin (a := p0.toInt) rfl (by omega)) dX12_giveBack_52 (fun H locs hP _ hS => ?_)
        have hP := va_P_eq (sM_7 g c _ _ _ _) hP
        have hI := IM.store0 hI 7 (p0 : Int32).toNatClampNeg r15117 rfl
        have hF := frUF (k := 7) (f := upd (F15119 7) (p0 : Int32).toNatClampNeg r15117) (by decide) hF
        have st15123 : (va_up F15119 7 (upd (F15119 7) (p0 : Int32).toNatClampNeg r15117)) 7 = upd (F15119 7) (p0 : Int32).toNatClampNeg r15117 := va_up_self _ _ _
        have sn15124 : ∀ k9, k9 ≠ 7 → (va_up F15119 7 (upd (F15119 7) (p0 : Int32).toNatClampNeg r15117)) k9 = F15119 k9 := fun k9 h9 => va_up_ne _ _ h9
        have hP : va_P (dC, dI) classes (wM g c v15118 (va_up F15119 7 (upd (F15119 7) (p0 : Int32).toNatClampNeg r15117)) rc) H := hP
        generalize (va_up F15119 7 (upd (F15119 7) (p0 : Int32).toNatClampNeg r15117)) = F15122 at hP hI hF st15123 sn15124
        refine lv_aload_n hx hb dX12_giveBack_53 rfl (lv_at hl 0 rfl) ?_
        refine va_get (D := (dC, dI)) (ci := 12) (v := .ref (g 8)) (C := RX12) (T := TX12) (N := 63) hx hb hwd inA_X12 hown hK hP 0 rfl rfl 11 (by decide) (hwd _ wk_189) (fun _ h9 => h9) rfl dX12_giveBack_54 ?_
        refine lv_iload_n hx hb dX12_giveBack_57 rfl (lv_at hl 1 rfl) ?_
        refine lv_aload_n hx hb dX12_giveBack_58 rfl (lv_at hl 0 rfl) ?_
        refine va_get (D := (dC, dI)) (ci := 12) (v := .int (v15118 1)) (C := RX12) (T := TX12) (N := 63) hx hb hwd inA_X12 hown hK hP 0 rfl rfl 1 (by decide) (hwd _ wk_332) (fun _ h9 => h9) rfl dX12_giveBack_59 ?_
        refine my_top (v := v 1) ((hf15120 1 (by decide)).trans (hf15113 1 (by decide))) ?_
        have t15125 : 0 ≤ (v 1).toInt ∧ (v 1).toInt ≤ 9999 := by have h9 := hI.1 1 _ _ rfl; rw [show v15118 1 = v 1 from (hf15120 1 (by decide)).trans (hf15113 1 (by decide))] at h9; exact h9
        refine va_iast hx hb hK hP (DM hg) hS 8 7 rfl rfl (i := p0) (x := (v 1)) (vin (a := p0.toInt) rfl (by omega)) dX12_giveBack_62 (fun H locs hP _ hS => ?_)
        have hP := va_P_eq (sM_8 g c _ _ _ _) hP
        have hI := IM.store0 hI 8 (p0 : Int32).toNatClampNeg (v 1) rfl
        have hF := frUF (k := 8) (f := upd (F15122 8) (p0 : Int32).toNatClampNeg (v 1)) (by decide) hF
        have st15127 : (va_up F15122 8 (upd (F15122 8) (p0 : Int32).toNatClampNeg (v 1))) 8 = upd (F15122 8) (p0 : Int32).toNatClampNeg (v 1) := va_up_self _ _ _
        have sn15128 : ∀ k9, k9 ≠ 8 → (va_up F15122 8 (upd (F15122 8) (p0 : Int32).toNatClampNeg (v 1))) k9 = F15122 k9 := fun k9 h9 => va_up_ne _ _ h9
        have hP : va_P (dC, dI) classes (wM g c v15118 (va_up F15122 8 (upd (F15122 8) (p0 : Int32).toNatClampNeg (v 1))) rc) H := hP
        generalize (va_up F15122 8 (upd (F15122 8) (p0 : Int32).toNatClampNeg (v 1))) = F15126 at hP hI hF st15127 sn15128
        refine lv_iconst (v := 0) hx hb dX12_giveBack_63 (by decide) ?_
        refine lv_istore_n (lv' := [(2, .int 0), (0, .ref (g 0)), (1, .int p0)]) hx hb dX12_giveBack_64 rfl hl (by decide) rfl (fun ls hl => ?_)
        have lp15129 : ∀ (n : Nat) (x2_lp15129 : Int32) (v_lp15129 : Nat → Int32) (F_lp15129 : Nat → Nat → Int32) (H : Heap) (locs : List Loc) (ls : Array Slot), (0 ≤ x2_lp15129.toInt) → (JO (v 14) (v 19) (F_lp15129 13) (F_lp15129 15) (F_lp15129 18)) → (∀ j : Nat, x2_lp15129.toInt ≤ (j : Int) → (j : Int) < (v 14).toInt → (F_lp15129 42 j).toInt ≠ 0 → (F_lp15129 13 j).toInt ≠ 12) → (2147483648 - x2_lp15129.toInt ≤ (n : Int)) → (∀ k, k ∉ ([] : List Nat) → v_lp15129 k = v15118 k) → IM v_lp15129 F_lp15129 → (∀ k, k ∉ ([7, 8, 13, 18, 20, 22, 30, 31, 42] : List Nat) → F_lp15129 k = F k) → va_P (dC, dI) classes (wM g c v_lp15129 F_lp15129 rc) H → va_S (AM g s.heap.size) s.heap H locs → lv_has ls 3 [(2, .int x2_lp15129), (0, .ref (g 0)), (1, .int p0)] → W p l e (headSpec (Cond.code yX12_giveBack cX12_giveBack 3 (some .int) :: wA) ({ frames := 8, cells := 0, slots := 0, locals := 320 })).room s m ([.ref (g 0), .int p0] : List Value).toArray below meth c0 H locs 0 0 (MQ below (va_Qi (fun (r : Int32) (u : StM) => IM u.1 u.2.1 ∧ u.2.2 = rc ∧ (∀ k, k ∉ ([] : List Nat) → u.1 k = v k) ∧ (∀ k, k ∉ ([7, 8, 13, 18, 20, 22, 30, 31, 42] : List Nat) → u.2.1 k = F k) ∧ JO (u.1 14) (u.1 19) (u.2.1 13) (u.2.1 15) (u.2.1 18)) (BM dC dI g c) (AM g s.heap.size)) ([.ref (g 0), .int p0] : List Value).toArray s 0 0 (AM g s.heap.size)) (F0 m 65 ls []) := by
          intro n
          induction n with
          | zero =>
            intro x2_lp15129 v_lp15129 F_lp15129 H locs ls t15130 t15131 t15132 hm hf_lp15129 hI hF hP hS hl
            exfalso
            have := i32_rng x2_lp15129
            have hI1 := hI.1
            omega
          | succ n ih_lp15129 =>
            intro x2_lp15129 v_lp15129 F_lp15129 H locs ls t15130 t15131 t15132 hm hf_lp15129 hI hF hP hS hl
            have rx2_lp15129 := i32_rng x2_lp15129
            refine lv_iload_n hx hb dX12_giveBack_65 rfl (lv_at hl 0 rfl) ?_
            refine lv_aload_n hx hb dX12_giveBack_66 rfl (lv_at hl 1 rfl) ?_
            refine va_get (D := (dC, dI)) (ci := 12) (v := .int (v_lp15129 14)) (C := RX12) (T := TX12) (N := 63) hx hb hwd inA_X12 hown hK hP 0 rfl rfl 14 (by decide) (hwd _ wk_318) (fun _ h9 => h9) rfl dX12_giveBack_67 ?_
            refine my_top (v := v 14) ((hf_lp15129 14 (by decide)).trans ((hf15120 14 (by decide)).trans (hf15113 14 (by decide)))) ?_
            have t15133 : 0 ≤ (v 14).toInt ∧ (v 14).toInt ≤ 100 := by have h9 := hI.1 14 _ _ rfl; rw [show v_lp15129 14 = v 14 from (hf_lp15129 14 (by decide)).trans ((hf15120 14 (by decide)).trans (hf15113 14 (by decide)))] at h9; exact h9
            refine lv_icmp_ge (tgt := 104) hx hb dX12_giveBack_70 (by decide) (fun c15134 => ?_) (fun c15134 => ?_)
            · skip
              have t15135 := cv_le (a := (v 14).toInt) rfl (b := x2_lp15129.toInt) rfl c15134
              refine lv_aload_n hx hb dX12_giveBack_104 rfl (lv_at hl 1 rfl) ?_
              refine va_get (D := (dC, dI)) (ci := 12) (v := .ref (g 7)) (C := RX12) (T := TX12) (N := 63) hx hb hwd inA_X12 hown hK hP 0 rfl rfl 10 (by decide) (hwd _ wk_188) (fun _ h9 => h9) rfl dX12_giveBack_105 ?_
              refine lv_iload_n hx hb dX12_giveBack_108 rfl (lv_at hl 2 rfl) ?_
              refine va_iald hx hb hK hP 7 6 rfl rfl (i := p0) (vin (a := p0.toInt) rfl (by omega)) dX12_giveBack_109 ?_
              refine lv_topi (fun z15136 e15137 => ?_)
              have tzz15136 : z15136.toInt = (F_lp15129 7 (p0 : Int32).toNatClampNeg).toInt := congrArg Int32.toInt e15137
              have hP9 : va_P (dC, dI) classes (wM g c v_lp15129 F_lp15129 rc) H := hP
              exact W.iret (v := z15136) hx hb hr (fun t ht hW => ⟨⟨z15136, (v_lp15129, F_lp15129, rc), rfl, ⟨hI, rfl, (frC (by decide) hf_lp15129 (frC (by decide) hf15120 (frC (by decide) hf15113 (fun _ _ => rfl)))), hF, (by show JO (v_lp15129 14) (v_lp15129 19) (F_lp15129 13) (F_lp15129 15) (F_lp15129 18); rw [show v_lp15129 14 = v 14 from (hf_lp15129 14 (by decide)).trans ((hf15120 14 (by decide)).trans (hf15113 14 (by decide))), show v_lp15129 19 = v 19 from (hf_lp15129 19 (by decide)).trans ((hf15120 19 (by decide)).trans (hf15113 19 (by decide)))]; exact t15131)⟩, (by show va_P _ _ _ t.heap; rw [ht]; exact hP9)⟩, hS.F ht⟩) hS.2.2 dX12_giveBack_110
            · skip
              have t15138 := cv_nle (a := (v 14).toInt) rfl (b := x2_lp15129.toInt) rfl c15134
              refine lv_aload_n hx hb dX12_giveBack_73 rfl (lv_at hl 1 rfl) ?_
              refine va_get (D := (dC, dI)) (ci := 12) (v := .ref (g 42)) (C := RX12) (T := TX12) (N := 63) hx hb hwd inA_X12 hown hK hP 0 rfl rfl 56 (by decide) (hwd _ wk_224) (fun _ h9 => h9) rfl dX12_giveBack_74 ?_
              refine lv_iload_n hx hb dX12_giveBack_77 rfl (lv_at hl 0 rfl) ?_
              refine va_zald hx hb hK hP 42 41 rfl rfl (i := x2_lp15129) (vin (a := x2_lp15129.toInt) rfl (by omega)) dX12_giveBack_78 ?_
              refine lv_topi (fun z15139 e15140 => ?_)
              have tzz15139 : z15139.toInt = (F_lp15129 42 (x2_lp15129 : Int32).toNatClampNeg).toInt := congrArg Int32.toInt e15140
              refine lv_if_ne (tgt := 85) hx hb dX12_giveBack_79 (by decide) (fun c15141 => ?_) (fun c15141 => ?_)
              · skip
                have t15142 := cv_ne (a := z15139.toInt) rfl (b := 0) (by decide) c15141
                refine lv_aload_n hx hb dX12_giveBack_85 rfl (lv_at hl 1 rfl) ?_
                refine lv_iload_n hx hb dX12_giveBack_86 rfl (lv_at hl 0 rfl) ?_
                have t15143 : 0 ≤ (v 19).toInt ∧ (v 19).toInt ≤ 500 := by have h9 := hI.1 19 _ _ rfl; rw [show v_lp15129 19 = v 19 from (hf_lp15129 19 (by decide)).trans ((hf15120 19 (by decide)).trans (hf15113 19 (by decide)))] at h9; exact h9
                refine va_callv (va_runV (As := [.int x2_lp15129]) (rest := []) ⟨hx, hb, hml, hown, hwd⟩ (c_X12_endStay l dC dI g c adK adV v_lp15129 F_lp15129 rc H.size x2_lp15129 hg hI (by omega) (by have h9 : v_lp15129 19 = v 19 := (hf_lp15129 19 (by decide)).trans ((hf15120 19 (by decide)).trans (hf15113 19 (by decide))); (try rw [h9]); exact JO.at' t15131 (i := x2_lp15129) (by omega) (by omega) (t15132 _ (by have := ncl_i (x := x2_lp15129) (by omega); omega) (by have := ncl_i (x := x2_lp15129) (by omega); omega) (by omega)))) (cwV 1 hwd (gV wk_635 wk_632 wk_633 wk_634 wk_5) rfl rfl rfl (by decide +kernel) ⟨Nat.le_of_ble_eq_true rfl, Nat.le_of_ble_eq_true rfl⟩) ⟨PM.blind, va_recv hK hP (ci := 12) (q0 := 0) rfl rfl, fun U hU hW => ⟨rfl, PM.at hK hE hP hS hU hW⟩⟩ rfl rfl hl.1 rfl (lv_room (Nat.le_of_ble_eq_true rfl)) dX12_giveBack_87 ⟨Nat.le_of_ble_eq_true rfl, Nat.le_of_ble_eq_true rfl⟩) hS (fun q _ h => (freeM hS) q h) (freeM hS) (fun u t H1 locs ht hvm hw hB hz1 hk1 hS => ?_)
                unfold BM at hB
                rw [ht] at hB
                obtain ⟨v15145, F15146, rc9⟩ := u
                obtain ⟨hI, hrc, hf15147, hG15148, hw⟩ := hw
                dsimp only at hI hrc hB hf15147 hG15148 hw
                have hF := frCF (by decide) hG15148 hF
                rw [hrc] at hB
                have hP : va_P (dC, dI) classes (wM g c v15145 F15146 rc) H1 := hB
                replace hw : ∀ j : Int, j ≠ x2_lp15129.toInt → hasO (v_lp15129 19) (F_lp15129 15) (F_lp15129 18) j → hasO (v15145 19) (F15146 15) (F15146 18) j := hw
                rw [show v_lp15129 19 = v 19 from (hf_lp15129 19 (by decide)).trans ((hf15120 19 (by decide)).trans (hf15113 19 (by decide)))] at hw
                rw [show v15145 19 = v 19 from (hf15147 19 (by decide)).trans ((hf_lp15129 19 (by decide)).trans ((hf15120 19 (by decide)).trans (hf15113 19 (by decide))))] at hw
                have hw_r15144 := hw
                clear hw
                have t15149 : 0 ≤ (v 19).toInt ∧ (v 19).toInt ≤ 500 := by have h9 := hI.1 19 _ _ rfl; rw [show v15145 19 = v 19 from (hf15147 19 (by decide)).trans ((hf_lp15129 19 (by decide)).trans ((hf15120 19 (by decide)).trans (hf15113 19 (by decide))))] at h9; exact h9
                clear hz1
                generalize H1 = H at hP hS ⊢
                refine lv_aload_n hx hb dX12_giveBack_90 rfl (lv_at hl 1 rfl) ?_
                refine va_get (D := (dC, dI)) (ci := 12) (v := .ref (g 13)) (C := RX12) (T := TX12) (N := 63) hx hb hwd inA_X12 hown hK hP 0 rfl rfl 17 (by decide) (hwd _ wk_194) (fun _ h9 => h9) rfl dX12_giveBack_91 ?_
                refine lv_iload_n hx hb dX12_giveBack_94 rfl (lv_at hl 0 rfl) ?_
                refine lv_bipush (v := 12) hx hb dX12_giveBack_95 (by decide) ?_
                refine va_iast hx hb hK hP (DM hg) hS 13 12 rfl rfl (i := x2_lp15129) (x := 12) (vin (a := x2_lp15129.toInt) rfl (by omega)) dX12_giveBack_97 (fun H locs hP _ hS => ?_)
                have hP := va_P_eq (sM_13 g c _ _ _ _) hP
                have hI := IM.store hI 13 (x2_lp15129 : Int32).toNatClampNeg 12 rfl (by have : (12 : Int32).toInt = 12 := (by decide); omega)
                have hF := frUF (k := 13) (f := upd (F15146 13) (x2_lp15129 : Int32).toNatClampNeg 12) (by decide) hF
                have st15151 : (va_up F15146 13 (upd (F15146 13) (x2_lp15129 : Int32).toNatClampNeg 12)) 13 = upd (F15146 13) (x2_lp15129 : Int32).toNatClampNeg 12 := va_up_self _ _ _
                have sn15152 : ∀ k9, k9 ≠ 13 → (va_up F15146 13 (upd (F15146 13) (x2_lp15129 : Int32).toNatClampNeg 12)) k9 = F15146 k9 := fun k9 h9 => va_up_ne _ _ h9
                have hP : va_P (dC, dI) classes (wM g c v15145 (va_up F15146 13 (upd (F15146 13) (x2_lp15129 : Int32).toNatClampNeg 12)) rc) H := hP
                generalize (va_up F15146 13 (upd (F15146 13) (x2_lp15129 : Int32).toNatClampNeg 12)) = F15150 at hP hI hF st15151 sn15152
                obtain ⟨z15153, e15154⟩ : ∃ y : Int32, y = x2_lp15129 + 1 := ⟨_, rfl⟩
                try (have t15155 := tadd e15154 rfl (b := 1) (by decide) (by omega))
                refine lv_iinc (v := z15153) (lv' := [(2, .int z15153), (0, .ref (g 0)), (1, .int p0)]) hx hb dX12_giveBack_98 hl (k := 0) rfl (by rw [e15154]; rfl) (by decide) rfl (fun ls hl => ?_)
                refine lv_goto (tgt := 65) hx hb dX12_giveBack_101 (by decide) ?_
                exact ih_lp15129 z15153 v15145 F15150 _ _ _ (by omega) (by rw [show F15150 15 = F15146 15 from (sn15152 15 (by decide)), show F15150 18 = F15146 18 from (sn15152 18 (by decide))]; exact JO.gone t15131 hw_r15144 (st15151.trans (congrArg (fun f => upd f (x2_lp15129 : Int32).toNatClampNeg 12) (hG15148 13 (by decide)))) (by decide) (by omega)) (fun j h0 h1 h2 => by rw [show F15150 42 = F_lp15129 42 from ((sn15152 42 (by decide)).trans (hG15148 42 (by decide)))] at h2; rw [show F15150 13 = (upd (F_lp15129 13) (x2_lp15129 : Int32).toNatClampNeg 12) from (st15151.trans (congrArg (fun f => upd f (x2_lp15129 : Int32).toNatClampNeg 12) (hG15148 13 (by decide)))), mu_ne _ _ (fun e9 => by have := ncl_i (x := x2_lp15129) (by omega); omega)]; exact t15132 j (by omega) h1 h2) (by omega) (frC (by decide) hf15147 hf_lp15129) hI hF hP hS (lv_sub hl [0, 1, 2] rfl)
              · skip
                have t15156 := cv_eq (a := z15139.toInt) rfl (b := 0) (by decide) c15141
                refine lv_goto (tgt := 98) hx hb dX12_giveBack_82 (by decide) ?_
                obtain ⟨z15157, e15158⟩ : ∃ y : Int32, y = x2_lp15129 + 1 := ⟨_, rfl⟩
                try (have t15159 := tadd e15158 rfl (b := 1) (by decide) (by omega))
                refine lv_iinc (v := z15157) (lv' := [(2, .int z15157), (0, .ref (g 0)), (1, .int p0)]) hx hb dX12_giveBack_98 hl (k := 0) rfl (by rw [e15158]; rfl) (by decide) rfl (fun ls hl => ?_)
                refine lv_goto (tgt := 65) hx hb dX12_giveBack_101 (by decide) ?_
                exact ih_lp15129 z15157 v_lp15129 F_lp15129 _ _ _ (by omega) t15131 (fun j h0 h1 h2 => t15132 j (by omega) h1 h2) (by omega) hf_lp15129 hI hF hP hS (lv_sub hl [0, 1, 2] rfl)
        obtain ⟨n9, hn9⟩ : ∃ n : Nat, 2147483648 - 0 ≤ (n : Int) := ⟨((2147483648 - 0 : Int)).toNat, by omega⟩
        exact lp15129 n9 0 v15118 F15126 H _ ls (by have : (0 : Int32).toInt = 0 := (by decide); omega) (JO.to hJ rfl rfl ((sn15128 13 (by decide)).trans ((sn15124 13 (by decide)).trans ((hG15121 13 (by decide)).trans (hG15114 13 (by decide))))) ((sn15128 15 (by decide)).trans ((sn15124 15 (by decide)).trans ((hG15121 15 (by decide)).trans (hG15114 15 (by decide))))) ((sn15128 18 (by decide)).trans ((sn15124 18 (by decide)).trans ((hG15121 18 (by decide)).trans (hG15114 18 (by decide)))))) (fun j _ h1 h2 => by rw [show F15126 42 = F15112 42 from ((sn15128 42 (by decide)).trans ((sn15124 42 (by decide)).trans (hG15121 42 (by decide))))] at h2; rw [show F15126 13 = F 13 from ((sn15128 13 (by decide)).trans ((sn15124 13 (by decide)).trans ((hG15121 13 (by decide)).trans (hG15114 13 (by decide)))))]; have := hw_r15110 j h1 h2; omega) (by have : (0 : Int32).toInt = 0 := (by decide); omega) (fun _ _ => rfl) hI hF hP hS hl
      · skip
        have t15160 := cv_eq (a := r15106.toInt) rfl (b := 0) (by decide) c15107
        refine lv_bipush (v := (-2)) hx hb dX12_giveBack_26 (by decide) ?_
        have hP9 : va_P (dC, dI) classes (wM g c v F rc) H := hP
        exact W.iret (v := (-2)) hx hb hr (fun t ht hW => ⟨⟨(-2), (v, F, rc), rfl, ⟨hI, rfl, (fun _ _ => rfl), hF, hJ⟩, (by show va_P _ _ _ t.heap; rw [ht]; exact hP9)⟩, hS.F ht⟩) hS.2.2 dX12_giveBack_28
  · skip
    have t15161 := cv_eq (a := r15099.toInt) rfl (b := 0) (by decide) c15100
    refine lv_iconst (v := (-1)) hx hb dX12_giveBack_8 (by decide) ?_
    have hP9 : va_P (dC, dI) classes (wM g c v F rc) H := hP
    exact W.iret (v := (-1)) hx hb hr (fun t ht hW => ⟨⟨(-1), (v, F, rc), rfl, ⟨hI, rfl, (fun _ _ => rfl), hF, hJ⟩, (by show va_P _ _ _ t.heap; rw [ht]; exact hP9)⟩, hS.F ht⟩) hS.2.2 dX12_giveBack_9
