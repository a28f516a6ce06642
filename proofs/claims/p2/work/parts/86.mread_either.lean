set_option maxHeartbeats 8000000 in
set_option maxRecDepth 100000 in
theorem c_X12_either (D : Int) (fr lc : Nat) (rO : RPM yX12_operand (Cond.code yX12_operand cX12_operand 2 none) (D + 1) fr lc) (rE : RPM yX12_either (Cond.code yX12_either cX12_either 2 none) (D + 1) (fr + 3) (lc + 120)) (l : Launch) (dC : Nat → ClassId) (dI : Nat → Nat → Nat) (g : Nat → Nat) (c : Nat → ClassId) (adK adV : Nat → Nat) (v : Nat → Int32) (F : Nat → Nat → Int32) (rc sz : Nat) (d : Nat) (hg : injM g) (hI : IM v F) (hq : (v 38).toInt ≤ (v 39).toInt ∧ (v 39).toInt ≤ (v 30).toInt ∧ (v 40).toInt < 0 ∧ (v 41).toInt = D) (hdp : dp (F 28) (F 29) (bI (v 37)) (v 38).toInt.toNat = some d) : Met l yX12_either (Cond.code yX12_either cX12_either 2 none :: wA) ({ frames := fr + 7, cells := 0, slots := 0, locals := lc + 280 }) (va_Pc [.ref (g 0)] (PM dC dI g c adK adV v F rc sz)) (va_Qv (fun (u : StM) => IM u.1 u.2.1 ∧ u.2.2 = rc ∧ (∀ k, k ∉ ([38, 39, 40, 41, 42] : List Nat) → u.1 k = v k) ∧ (∀ k, k ∉ ([28, 29] : List Nat) → u.2.1 k = F k) ∧ (((v 39).toInt ≤ (u.1 39).toInt ∧ (u.1 39).toInt ≤ (v 30).toInt ∧ (v 38).toInt ≤ (u.1 38).toInt ∧ (u.1 38).toInt - (v 38).toInt ≤ (u.1 39).toInt - (v 39).toInt ∧ (v 41).toInt ≤ (u.1 41).toInt ∧ ((u.1 40).toInt < 0 → (u.1 41).toInt = (v 41).toInt)) ∧ keepL (v 37) (F 28) (F 29) (u.2.1 28) (u.2.1 29) ∧ ((u.1 40).toInt < 0 → dp (u.2.1 28) (u.2.1 29) (bI (v 37)) (u.1 38).toInt.toNat = some (d + 1)))) (BM dC dI g c) (AM g sz)) 0 0 (AM g sz) := by
  refine Met.ofW (cc := cX12_either) (maxL := 2) (ret := none) (by decide) rfl ?_
  intro p e s m args below meth c0 s₁ B hml hv
  obtain ⟨rfl, hsz, hP, hK, hE⟩ := hv
  have hx := B.exec
  have hb := B.bytes
  have hr := B.returns
  have hts := atoms_spec (ws := Cond.code yX12_either cX12_either 2 none :: wA) B.pre
  have hwd : ∀ w ∈ wA, w.before _ s = true := fun w h => hts w (List.mem_cons_of_mem _ h)
  have hown : s.vm.findClass RX12 = some m.cls := findClass_of_methodNamed B.named
  have hlocks := B.notSynchronized
  subst hsz
  have hl := lv_entry ([.ref (g 0)]) (n := 2) (Nat.le_of_ble_eq_true rfl)
  rw [lg_entry_eq]
  generalize (lg_sl ([.ref (g 0)]) ++ List.replicate (2 - (lg_sl ([.ref (g 0)])).length) Slot.unset).toArray = ls at hl ⊢
  have hl : lv_has ls 2 [(0, .ref (g 0))] := hl
  obtain ⟨H, eH⟩ : ∃ z, z = s.heap := ⟨_, rfl⟩
  have hP : va_P (dC, dI) classes (wM g c v F rc) H := by rw [eH]; exact hP
  have hS : va_S (AM g s.heap.size) s.heap H [] := by rw [eH]; exact va_S.rf
  refine my_heap eH ?_
  have hF : ∀ k, k ∉ ([28, 29] : List Nat) → F k = F k := fun _ _ => rfl
  have hb30 : 0 ≤ (v 30).toInt ∧ (v 30).toInt ≤ 120 := hI.1 30 _ _ rfl
  have hb37 : 0 ≤ (v 37).toInt ∧ (v 37).toInt ≤ 9 := hI.1 37 _ _ rfl
  have hb38 : 0 ≤ (v 38).toInt ∧ (v 38).toInt ≤ 120 := hI.1 38 _ _ rfl
  have hb39 : 0 ≤ (v 39).toInt ∧ (v 39).toInt ≤ 120 := hI.1 39 _ _ rfl
  have hb41 : 0 ≤ (v 41).toInt ∧ (v 41).toInt ≤ 8 := hI.1 41 _ _ rfl
  have hk : keepL (v 37) (F 28) (F 29) (F 28) (F 29) := keepL.rf
  have hd : (v 40).toInt < 0 → dp (F 28) (F 29) (bI (v 37)) (v 38).toInt.toNat = some d := fun _ => hdp
  refine lv_aload_n hx hb dX12_either_0 rfl (lv_at hl 0 rfl) ?_
  have t11857 : 0 ≤ (v 30).toInt ∧ (v 30).toInt ≤ 120 := hI.1 30 _ _ rfl
  have t11858 : 0 ≤ (v 37).toInt ∧ (v 37).toInt ≤ 9 := hI.1 37 _ _ rfl
  have t11859 : 0 ≤ (v 38).toInt ∧ (v 38).toInt ≤ 120 := hI.1 38 _ _ rfl
  have t11860 : 0 ≤ (v 39).toInt ∧ (v 39).toInt ≤ 120 := hI.1 39 _ _ rfl
  have t11861 : 0 ≤ (v 41).toInt ∧ (v 41).toInt ≤ 8 := hI.1 41 _ _ rfl
  refine va_callv (va_runV (As := []) (rest := []) ⟨hx, hb, hml, hown, hwd⟩ (c_X12_sum D fr lc rO rE l dC dI g c adK adV v F rc H.size  d hg hI (by have h9 : v 38 = v 38 := rfl; (try rw [h9]); clear h9; have h9 : v 39 = v 39 := rfl; (try rw [h9]); clear h9; have h9 : v 30 = v 30 := rfl; (try rw [h9]); clear h9; have h9 : v 40 = v 40 := rfl; (try rw [h9]); clear h9; have h9 : v 41 = v 41 := rfl; (try rw [h9]); clear h9; omega) (by have h9 : v 37 = (v 37) := rfl; have h8 : v 38 = (v 38) := rfl; (try rw [h9]); (try rw [h8]); exact hd (by omega))) (cwV 0 hwd (gV wk_1043 wk_1011 wk_1012 wk_1013 wk_5) rfl rfl rfl (by decide +kernel) ⟨(by show fr + 6 + 1 ≤ fr + 7; omega), (by show 8 + (2 + 11) + (lc + 240) ≤ lc + 280; omega)⟩) ⟨PM.blind, va_recv hK hP (ci := 12) (q0 := 0) rfl rfl, fun U hU hW => ⟨rfl, PM.at hK hE hP hS hU hW⟩⟩ rfl rfl hl.1 rfl (lv_room (Nat.le_of_ble_eq_true rfl)) dX12_either_1 ⟨Nat.le_of_ble_eq_true rfl, Nat.le_of_ble_eq_true rfl⟩) hS (fun q _ h => (freeM hS) q h) (freeM hS) (fun u t H1 locs ht hvm hw hB hz1 hk1 hS => ?_)
  unfold BM at hB
  rw [ht] at hB
  obtain ⟨v11863, F11864, rc9⟩ := u
  obtain ⟨hI, hrc, hf11865, hG11866, hw⟩ := hw
  dsimp only at hI hrc hB hf11865 hG11866 hw
  have hF := frCF (by decide) hG11866 hF
  rw [hrc] at hB
  have hP : va_P (dC, dI) classes (wM g c v11863 F11864 rc) H1 := hB
  replace hw : ((v 39).toInt ≤ (v11863 39).toInt ∧ (v11863 39).toInt ≤ (v 30).toInt ∧ (v 38).toInt ≤ (v11863 38).toInt ∧ (v11863 38).toInt - (v 38).toInt ≤ (v11863 39).toInt - (v 39).toInt ∧ (v 41).toInt ≤ (v11863 41).toInt ∧ ((v11863 40).toInt < 0 → (v11863 41).toInt = (v 41).toInt)) ∧ keepL (v 37) (F 28) (F 29) (F11864 28) (F11864 29) ∧ ((v11863 40).toInt < 0 → dp (F11864 28) (F11864 29) (bI (v 37)) (v11863 38).toInt.toNat = some (d + 1)) := hw
  have hw_r11862 := hw
  clear hw
  have t11867 : 0 ≤ (v11863 38).toInt ∧ (v11863 38).toInt ≤ 120 := hI.1 38 _ _ rfl
  have t11868 : 0 ≤ (v11863 39).toInt ∧ (v11863 39).toInt ≤ 120 := hI.1 39 _ _ rfl
  have t11869 : 0 ≤ (v11863 41).toInt ∧ (v11863 41).toInt ≤ 8 := hI.1 41 _ _ rfl
  clear hz1
  generalize H1 = H at hP hS ⊢
  replace hk := hk.tr hw_r11862.2.1
  replace hd := hw_r11862.2.2
  replace hw_r11862 := hw_r11862.1
  refine lv_aload_n hx hb dX12_either_4 rfl (lv_at hl 0 rfl) ?_
  have t11870 : 0 ≤ (v 30).toInt ∧ (v 30).toInt ≤ 120 := by have h9 := hI.1 30 _ _ rfl; rw [show v11863 30 = v 30 from hf11865 30 (by decide)] at h9; exact h9
  have t11871 : 0 ≤ (v11863 39).toInt ∧ (v11863 39).toInt ≤ 120 := hI.1 39 _ _ rfl
  refine va_calli (va_runV (As := []) (rest := []) ⟨hx, hb, hml, hown, hwd⟩ (c_X12_look l dC dI g c adK adV v11863 F11864 rc H.size  hg hI ) (cwV 0 hwd (gV wk_1017 wk_1014 wk_1015 wk_1016 wk_5) rfl rfl rfl (by decide +kernel) ⟨(by show 1 + 1 ≤ fr + 7; omega), (by show 8 + (1 + 11) + (40) ≤ lc + 280; omega)⟩) ⟨PM.blind, va_recv hK hP (ci := 12) (q0 := 0) rfl rfl, fun U hU hW => ⟨rfl, PM.at hK hE hP hS hU hW⟩⟩ rfl rfl hl.1 rfl (lv_room (Nat.le_of_ble_eq_true rfl)) dX12_either_5 ⟨Nat.le_of_ble_eq_true rfl, Nat.le_of_ble_eq_true rfl⟩) hS (fun q _ h => (freeM hS) q h) (freeM hS) (fun r11872 u t H1 locs ht hvm hw hB hz1 hk1 hS => ?_)
  unfold BM at hB
  rw [ht] at hB
  have hP : va_P (dC, dI) classes (wM g c v11863 F11864 rc) H1 := hB
  replace hw : r11872.toInt = lkM (v11863 39) (v11863 30) (F11864 24) ∧ ((v11863 39).toInt < (v11863 30).toInt ∨ r11872.toInt = -1) := hw
  rw [show v11863 30 = v 30 from hf11865 30 (by decide)] at hw
  rw [hF 24 (by decide)] at hw
  have hw_r11872 := hw
  clear hw
  clear hz1
  generalize H1 = H at hP hS ⊢
  refine lv_istore_n (lv' := [(1, .int r11872), (0, .ref (g 0))]) hx hb dX12_either_8 rfl hl (by decide) rfl (fun ls hl => ?_)
  refine lv_aload_n hx hb dX12_either_9 rfl (lv_at hl 1 rfl) ?_
  refine va_get (D := (dC, dI)) (ci := 12) (v := .int (v11863 40)) (C := RX12) (T := TX12) (N := 63) hx hb hwd inA_X12 hown hK hP 0 rfl rfl 40 (by decide) (hwd _ wk_1005) (fun _ h9 => h9) rfl dX12_either_10 ?_
  refine lv_if_ge (tgt := 54) hx hb dX12_either_13 (by decide) (fun c11873 => ?_) (fun c11873 => ?_)
  · skip
    have t11874 := cv_le (a := 0) (by decide) (b := (v11863 40).toInt) rfl c11873
    refine lv_aload_n hx hb dX12_either_54 rfl (lv_at hl 1 rfl) ?_
    refine va_get (D := (dC, dI)) (ci := 12) (v := .int (v11863 40)) (C := RX12) (T := TX12) (N := 63) hx hb hwd inA_X12 hown hK hP 0 rfl rfl 40 (by decide) (hwd _ wk_1005) (fun _ h9 => h9) rfl dX12_either_55 ?_
    refine lv_if_ge (tgt := 70) hx hb dX12_either_58 (by decide) (fun c11875 => ?_) (fun c11875 => ?_)
    · skip
      have t11876 := cv_le (a := 0) (by decide) (b := (v11863 40).toInt) rfl c11875
      have hP9 : va_P (dC, dI) classes (wM g c v11863 F11864 rc) H := hP
      exact W.vret hx hb hr (fun t ht hW => ⟨⟨(v11863, F11864, rc), rfl, ⟨hI, rfl, (frC (by decide) hf11865 (fun _ _ => rfl)), hF, (by show ((v 39).toInt ≤ (v11863 39).toInt ∧ (v11863 39).toInt ≤ (v 30).toInt ∧ (v 38).toInt ≤ (v11863 38).toInt ∧ (v11863 38).toInt - (v 38).toInt ≤ (v11863 39).toInt - (v 39).toInt ∧ (v 41).toInt ≤ (v11863 41).toInt ∧ ((v11863 40).toInt < 0 → (v11863 41).toInt = (v 41).toInt)) ∧ keepL (v 37) (F 28) (F 29) (F11864 28) (F11864 29) ∧ ((v11863 40).toInt < 0 → dp (F11864 28) (F11864 29) (bI (v 37)) (v11863 38).toInt.toNat = some (d + 1)); exact ⟨by omega, hk, fun hf => (hd (by omega)).trans (congrArg some (by omega))⟩)⟩, (by show va_P _ _ _ t.heap; rw [ht]; exact hP9)⟩, hS.F ht⟩) hS.2.2 dX12_either_70
    · skip
      have t11877 := cv_nle (a := 0) (by decide) (b := (v11863 40).toInt) rfl c11875
      refine lv_aload_n hx hb dX12_either_61 rfl (lv_at hl 1 rfl) ?_
      have t11878 : 0 ≤ (v 30).toInt ∧ (v 30).toInt ≤ 120 := by have h9 := hI.1 30 _ _ rfl; rw [show v11863 30 = v 30 from hf11865 30 (by decide)] at h9; exact h9
      have t11879 : 0 ≤ (v11863 39).toInt ∧ (v11863 39).toInt ≤ 120 := hI.1 39 _ _ rfl
      refine va_calli (va_runV (As := []) (rest := []) ⟨hx, hb, hml, hown, hwd⟩ (c_X12_look l dC dI g c adK adV v11863 F11864 rc H.size  hg hI ) (cwV 0 hwd (gV wk_1017 wk_1014 wk_1015 wk_1016 wk_5) rfl rfl rfl (by decide +kernel) ⟨(by show 1 + 1 ≤ fr + 7; omega), (by show 8 + (1 + 11) + (40) ≤ lc + 280; omega)⟩) ⟨PM.blind, va_recv hK hP (ci := 12) (q0 := 0) rfl rfl, fun U hU hW => ⟨rfl, PM.at hK hE hP hS hU hW⟩⟩ rfl rfl hl.1 rfl (lv_room (Nat.le_of_ble_eq_true rfl)) dX12_either_62 ⟨Nat.le_of_ble_eq_true rfl, Nat.le_of_ble_eq_true rfl⟩) hS (fun q _ h => (freeM hS) q h) (freeM hS) (fun r11880 u t H1 locs ht hvm hw hB hz1 hk1 hS => ?_)
      unfold BM at hB
      rw [ht] at hB
      have hP : va_P (dC, dI) classes (wM g c v11863 F11864 rc) H1 := hB
      replace hw : r11880.toInt = lkM (v11863 39) (v11863 30) (F11864 24) ∧ ((v11863 39).toInt < (v11863 30).toInt ∨ r11880.toInt = -1) := hw
      rw [show v11863 30 = v 30 from hf11865 30 (by decide)] at hw
      rw [hF 24 (by decide)] at hw
      have hw_r11880 := hw
      clear hw
      clear hz1
      generalize H1 = H at hP hS ⊢
      refine lv_bipush (v := 63) hx hb dX12_either_65 (by decide) ?_
      refine lv_icmp_eq (tgt := 71) hx hb dX12_either_67 (by decide) (fun c11881 => ?_) (fun c11881 => ?_)
      · skip
        have t11882 := cv_eq (a := r11880.toInt) rfl (b := 63) (by decide) c11881
        refine lv_aload_n hx hb dX12_either_71 rfl (lv_at hl 1 rfl) ?_
        have t11883 : 0 ≤ (v11863 39).toInt ∧ (v11863 39).toInt ≤ 120 := hI.1 39 _ _ rfl
        have t11884 : 0 ≤ (v11863 41).toInt ∧ (v11863 41).toInt ≤ 8 := hI.1 41 _ _ rfl
        refine va_calli (va_runV (As := []) (rest := []) ⟨hx, hb, hml, hown, hwd⟩ (c_X12_opens l dC dI g c adK adV v11863 F11864 rc H.size  hg hI (by have h9 : v11863 39 = v11863 39 := rfl; (try rw [h9]); clear h9; have h9 : v11863 30 = v 30 := hf11865 30 (by decide); (try rw [h9]); clear h9; omega)) (cwV 0 hwd (gV wk_1025 wk_1022 wk_1023 wk_1024 wk_5) rfl rfl rfl (by decide +kernel) ⟨(by show 2 + 1 ≤ fr + 7; omega), (by show 8 + (1 + 11) + (80) ≤ lc + 280; omega)⟩) ⟨PM.blind, va_recv hK hP (ci := 12) (q0 := 0) rfl rfl, fun U hU hW => ⟨rfl, PM.at hK hE hP hS hU hW⟩⟩ rfl rfl hl.1 rfl (lv_room (Nat.le_of_ble_eq_true rfl)) dX12_either_72 ⟨Nat.le_of_ble_eq_true rfl, Nat.le_of_ble_eq_true rfl⟩) hS (fun q _ h => (freeM hS) q h) (freeM hS) (fun r11885 u t H1 locs ht hvm hw hB hz1 hk1 hS => ?_)
        unfold BM at hB
        rw [ht] at hB
        obtain ⟨v11886, F11887, rc9⟩ := u
        obtain ⟨hI, hrc, hf11888, hG11889, hw⟩ := hw
        dsimp only at hI hrc hB hf11888 hG11889 hw
        have hF := frCF (by decide) hG11889 hF
        rw [hrc] at hB
        have hP : va_P (dC, dI) classes (wM g c v11886 F11887 rc) H1 := hB
        replace hw : (r11885.toInt = 1 ∧ (v11863 41).toInt < 8 ∧ (v11886 41).toInt = (v11863 41).toInt + 1 ∧ (v11886 39).toInt = (v11863 39).toInt + 1 ∧ (v11886 40).toInt = (v11863 40).toInt) ∨ (r11885.toInt = 0 ∧ (v11863 41).toInt = 8 ∧ 0 ≤ (v11886 40).toInt ∧ (v11886 41).toInt = (v11863 41).toInt ∧ (v11886 39).toInt = (v11863 39).toInt) := hw
        have hw_r11885 := hw
        clear hw
        have t11890 : 0 ≤ (v11886 39).toInt ∧ (v11886 39).toInt ≤ 120 := hI.1 39 _ _ rfl
        have t11891 : 0 ≤ (v11886 41).toInt ∧ (v11886 41).toInt ≤ 8 := hI.1 41 _ _ rfl
        clear hz1
        generalize H1 = H at hP hS ⊢
        replace hk : keepL (v 37) (F 28) (F 29) (F11887 28) (F11887 29) := by rw [hG11889 28 (by decide), hG11889 29 (by decide)]; exact hk
        replace hd : (v11886 40).toInt < 0 → dp (F11887 28) (F11887 29) (bI (v 37)) (v11863 38).toInt.toNat = some (d + 1) := fun hf => (by rw [hG11889 28 (by decide), hG11889 29 (by decide)]; exact hd (by omega))
        refine lv_if_ne (tgt := 79) hx hb dX12_either_75 (by decide) (fun c11892 => ?_) (fun c11892 => ?_)
        · skip
          have t11893 := cv_ne (a := r11885.toInt) rfl (b := 0) (by decide) c11892
          refine lv_aload_n hx hb dX12_either_79 rfl (lv_at hl 1 rfl) ?_
          have t11894 : 0 ≤ (v 30).toInt ∧ (v 30).toInt ≤ 120 := by have h9 := hI.1 30 _ _ rfl; rw [show v11886 30 = v 30 from (hf11888 30 (by decide)).trans (hf11865 30 (by decide))] at h9; exact h9
          have t11895 : 0 ≤ (v 37).toInt ∧ (v 37).toInt ≤ 9 := by have h9 := hI.1 37 _ _ rfl; rw [show v11886 37 = v 37 from (hf11888 37 (by decide)).trans (hf11865 37 (by decide))] at h9; exact h9
          have t11896 : 0 ≤ (v11863 38).toInt ∧ (v11863 38).toInt ≤ 120 := by have h9 := hI.1 38 _ _ rfl; rw [show v11886 38 = v11863 38 from hf11888 38 (by decide)] at h9; exact h9
          have t11897 : 0 ≤ (v11886 39).toInt ∧ (v11886 39).toInt ≤ 120 := hI.1 39 _ _ rfl
          have t11898 : 0 ≤ (v11886 41).toInt ∧ (v11886 41).toInt ≤ 8 := hI.1 41 _ _ rfl
          refine va_callv (va_runV (As := []) (rest := []) ⟨hx, hb, hml, hown, hwd⟩ (rE l dC dI g c adK adV v11886 F11887 rc H.size  (d + 1) hg hI (by have h9 : v11886 38 = v11863 38 := hf11888 38 (by decide); (try rw [h9]); clear h9; have h9 : v11886 39 = v11886 39 := rfl; (try rw [h9]); clear h9; have h9 : v11886 30 = v 30 := (hf11888 30 (by decide)).trans (hf11865 30 (by decide)); (try rw [h9]); clear h9; have h9 : v11886 40 = v11886 40 := rfl; (try rw [h9]); clear h9; have h9 : v11886 41 = v11886 41 := rfl; (try rw [h9]); clear h9; omega) (by have h9 : v11886 37 = (v 37) := (hf11888 37 (by decide)).trans (hf11865 37 (by decide)); have h8 : v11886 38 = (v11863 38) := hf11888 38 (by decide); (try rw [h9]); (try rw [h8]); exact hd (by omega))) (cwV 0 hwd (gV wk_1010 wk_1007 wk_1008 wk_1009 wk_5) rfl rfl rfl (by decide +kernel) ⟨(by show fr + 3 + 1 ≤ fr + 7; omega), (by show 8 + (2 + 11) + (lc + 120) ≤ lc + 280; omega)⟩) ⟨PM.blind, va_recv hK hP (ci := 12) (q0 := 0) rfl rfl, fun U hU hW => ⟨rfl, PM.at hK hE hP hS hU hW⟩⟩ rfl rfl hl.1 rfl (lv_room (Nat.le_of_ble_eq_true rfl)) dX12_either_80 ⟨Nat.le_of_ble_eq_true rfl, Nat.le_of_ble_eq_true rfl⟩) hS (fun q _ h => (freeM hS) q h) (freeM hS) (fun u t H1 locs ht hvm hw hB hz1 hk1 hS => ?_)
          unfold BM at hB
          rw [ht] at hB
          obtain ⟨v11900, F11901, rc9⟩ := u
          obtain ⟨hI, hrc, hf11902, hG11903, hw⟩ := hw
          dsimp only at hI hrc hB hf11902 hG11903 hw
          have hF := frCF (by decide) hG11903 hF
          rw [hrc] at hB
          have hP : va_P (dC, dI) classes (wM g c v11900 F11901 rc) H1 := hB
          replace hw : ((v11886 39).toInt ≤ (v11900 39).toInt ∧ (v11900 39).toInt ≤ (v11886 30).toInt ∧ (v11886 38).toInt ≤ (v11900 38).toInt ∧ (v11900 38).toInt - (v11886 38).toInt ≤ (v11900 39).toInt - (v11886 39).toInt ∧ (v11886 41).toInt ≤ (v11900 41).toInt ∧ ((v11900 40).toInt < 0 → (v11900 41).toInt = (v11886 41).toInt)) ∧ keepL (v11886 37) (F11887 28) (F11887 29) (F11901 28) (F11901 29) ∧ ((v11900 40).toInt < 0 → dp (F11901 28) (F11901 29) (bI (v11886 37)) (v11900 38).toInt.toNat = some ((d + 1) + 1)) := hw
          rw [show v11886 30 = v 30 from (hf11888 30 (by decide)).trans (hf11865 30 (by decide))] at hw
          rw [show v11886 38 = v11863 38 from hf11888 38 (by decide)] at hw
          rw [show v11886 37 = v 37 from (hf11888 37 (by decide)).trans (hf11865 37 (by decide))] at hw
          have hw_r11899 := hw
          clear hw
          have t11904 : 0 ≤ (v11900 38).toInt ∧ (v11900 38).toInt ≤ 120 := hI.1 38 _ _ rfl
          have t11905 : 0 ≤ (v11900 39).toInt ∧ (v11900 39).toInt ≤ 120 := hI.1 39 _ _ rfl
          have t11906 : 0 ≤ (v11900 41).toInt ∧ (v11900 41).toInt ≤ 8 := hI.1 41 _ _ rfl
          clear hz1
          generalize H1 = H at hP hS ⊢
          replace hk := hk.tr hw_r11899.2.1
          replace hd := hw_r11899.2.2
          replace hw_r11899 := hw_r11899.1
          refine lv_aload_n hx hb dX12_either_83 rfl (lv_at hl 1 rfl) ?_
          refine va_get (D := (dC, dI)) (ci := 12) (v := .int (v11900 40)) (C := RX12) (T := TX12) (N := 63) hx hb hwd inA_X12 hown hK hP 0 rfl rfl 40 (by decide) (hwd _ wk_1005) (fun _ h9 => h9) rfl dX12_either_84 ?_
          refine lv_if_lt (tgt := 91) hx hb dX12_either_87 (by decide) (fun c11907 => ?_) (fun c11907 => ?_)
          · skip
            have t11908 := cv_lt (a := (v11900 40).toInt) rfl (b := 0) (by decide) c11907
            refine lv_aload_n hx hb dX12_either_91 rfl (lv_at hl 1 rfl) ?_
            have t11909 : 0 ≤ (v 30).toInt ∧ (v 30).toInt ≤ 120 := by have h9 := hI.1 30 _ _ rfl; rw [show v11900 30 = v 30 from (hf11902 30 (by decide)).trans ((hf11888 30 (by decide)).trans (hf11865 30 (by decide)))] at h9; exact h9
            have t11910 : 0 ≤ (v11900 39).toInt ∧ (v11900 39).toInt ≤ 120 := hI.1 39 _ _ rfl
            refine va_calli (va_runV (As := []) (rest := []) ⟨hx, hb, hml, hown, hwd⟩ (c_X12_look l dC dI g c adK adV v11900 F11901 rc H.size  hg hI ) (cwV 0 hwd (gV wk_1017 wk_1014 wk_1015 wk_1016 wk_5) rfl rfl rfl (by decide +kernel) ⟨(by show 1 + 1 ≤ fr + 7; omega), (by show 8 + (1 + 11) + (40) ≤ lc + 280; omega)⟩) ⟨PM.blind, va_recv hK hP (ci := 12) (q0 := 0) rfl rfl, fun U hU hW => ⟨rfl, PM.at hK hE hP hS hU hW⟩⟩ rfl rfl hl.1 rfl (lv_room (Nat.le_of_ble_eq_true rfl)) dX12_either_92 ⟨Nat.le_of_ble_eq_true rfl, Nat.le_of_ble_eq_true rfl⟩) hS (fun q _ h => (freeM hS) q h) (freeM hS) (fun r11911 u t H1 locs ht hvm hw hB hz1 hk1 hS => ?_)
            unfold BM at hB
            rw [ht] at hB
            have hP : va_P (dC, dI) classes (wM g c v11900 F11901 rc) H1 := hB
            replace hw : r11911.toInt = lkM (v11900 39) (v11900 30) (F11901 24) ∧ ((v11900 39).toInt < (v11900 30).toInt ∨ r11911.toInt = -1) := hw
            rw [show v11900 30 = v 30 from (hf11902 30 (by decide)).trans ((hf11888 30 (by decide)).trans (hf11865 30 (by decide)))] at hw
            rw [hF 24 (by decide)] at hw
            have hw_r11911 := hw
            clear hw
            clear hz1
            generalize H1 = H at hP hS ⊢
            refine lv_bipush (v := 58) hx hb dX12_either_95 (by decide) ?_
            refine lv_icmp_eq (tgt := 105) hx hb dX12_either_97 (by decide) (fun c11912 => ?_) (fun c11912 => ?_)
            · skip
              have t11913 := cv_eq (a := r11911.toInt) rfl (b := 58) (by decide) c11912
              refine lv_aload_n hx hb dX12_either_105 rfl (lv_at hl 1 rfl) ?_
              refine lv_dup hx hb dX12_either_106 rfl ?_
              refine va_get (D := (dC, dI)) (ci := 12) (v := .int (v11900 39)) (C := RX12) (T := TX12) (N := 63) hx hb hwd inA_X12 hown hK hP 0 rfl rfl 39 (by decide) (hwd _ wk_1004) (fun _ h9 => h9) rfl dX12_either_107 ?_
              have t11914 : 0 ≤ (v11900 39).toInt ∧ (v11900 39).toInt ≤ 120 := hI.1 39 _ _ rfl
              refine lv_iconst (v := 1) hx hb dX12_either_110 (by decide) ?_
              refine lv_iadd hx hb dX12_either_111 ?_
              refine lv_topi (fun z11915 e11916 => ?_)
              try (have t11917 := tadd e11916 (a := (v11900 39).toInt) rfl (b := 1) (by decide) (by omega))
              refine va_put (D := (dC, dI)) (ci := 12) (v := .int z11915) (ty := .int) (C := RX12) (T := TX12) (N := 63) (fs := fsM_0 g v11900 rc) hx hb hwd inA_X12 tyX12 tyX12_ok nmX12 hown hK hP (DM hg) hS 0 rfl rfl 39 (by decide) (hwd _ wk_1004) (fun _ h9 => h9) rfl (by decide +kernel) rfl rfl (Nat.le_of_ble_eq_true rfl) dX12_either_112 (fun H locs hP _ hS => ?_)
              have hP := va_P_eq (pM_39 g c _ _ _ _) hP
              have hI := IM.put hI 39 z11915 rfl (by omega)
              refine lv_aload_n hx hb dX12_either_115 rfl (lv_at hl 1 rfl) ?_
              have t11918 : 0 ≤ (v 30).toInt ∧ (v 30).toInt ≤ 120 := by have h9 := hI.1 30 _ _ rfl; rw [show (va_up v11900 39 z11915) 30 = v 30 from (hf11902 30 (by decide)).trans ((hf11888 30 (by decide)).trans (hf11865 30 (by decide)))] at h9; exact h9
              have t11919 : 0 ≤ (v 37).toInt ∧ (v 37).toInt ≤ 9 := by have h9 := hI.1 37 _ _ rfl; rw [show (va_up v11900 39 z11915) 37 = v 37 from (hf11902 37 (by decide)).trans ((hf11888 37 (by decide)).trans (hf11865 37 (by decide)))] at h9; exact h9
              have t11920 : 0 ≤ (v11900 38).toInt ∧ (v11900 38).toInt ≤ 120 := hI.1 38 _ _ rfl
              have t11921 : 0 ≤ z11915.toInt ∧ z11915.toInt ≤ 120 := hI.1 39 _ _ rfl
              have t11922 : 0 ≤ (v11900 41).toInt ∧ (v11900 41).toInt ≤ 8 := hI.1 41 _ _ rfl
              refine va_callv (va_runV (As := []) (rest := []) ⟨hx, hb, hml, hown, hwd⟩ (rE l dC dI g c adK adV (va_up v11900 39 z11915) F11901 rc H.size  ((d + 1) + 1) hg hI (by have h9 : (va_up v11900 39 z11915) 38 = v11900 38 := rfl; (try rw [h9]); clear h9; have h9 : (va_up v11900 39 z11915) 39 = z11915 := rfl; (try rw [h9]); clear h9; have h9 : (va_up v11900 39 z11915) 30 = v 30 := (hf11902 30 (by decide)).trans ((hf11888 30 (by decide)).trans (hf11865 30 (by decide))); (try rw [h9]); clear h9; have h9 : (va_up v11900 39 z11915) 40 = v11900 40 := rfl; (try rw [h9]); clear h9; have h9 : (va_up v11900 39 z11915) 41 = v11900 41 := rfl; (try rw [h9]); clear h9; omega) (by have h9 : (va_up v11900 39 z11915) 37 = (v 37) := (hf11902 37 (by decide)).trans ((hf11888 37 (by decide)).trans (hf11865 37 (by decide))); have h8 : (va_up v11900 39 z11915) 38 = (v11900 38) := rfl; (try rw [h9]); (try rw [h8]); exact hd (by omega))) (cwV 0 hwd (gV wk_1010 wk_1007 wk_1008 wk_1009 wk_5) rfl rfl rfl (by decide +kernel) ⟨(by show fr + 3 + 1 ≤ fr + 7; omega), (by show 8 + (2 + 11) + (lc + 120) ≤ lc + 280; omega)⟩) ⟨PM.blind, va_recv hK hP (ci := 12) (q0 := 0) rfl rfl, fun U hU hW => ⟨rfl, PM.at hK hE hP hS hU hW⟩⟩ rfl rfl hl.1 rfl (lv_room (Nat.le_of_ble_eq_true rfl)) dX12_either_116 ⟨Nat.le_of_ble_eq_true rfl, Nat.le_of_ble_eq_true rfl⟩) hS (fun q _ h => (freeM hS) q h) (freeM hS) (fun u t H1 locs ht hvm hw hB hz1 hk1 hS => ?_)
              unfold BM at hB
              rw [ht] at hB
              obtain ⟨v11924, F11925, rc9⟩ := u
              obtain ⟨hI, hrc, hf11926, hG11927, hw⟩ := hw
              dsimp only at hI hrc hB hf11926 hG11927 hw
              have hF := frCF (by decide) hG11927 hF
              rw [hrc] at hB
              have hP : va_P (dC, dI) classes (wM g c v11924 F11925 rc) H1 := hB
              replace hw : (z11915.toInt ≤ (v11924 39).toInt ∧ (v11924 39).toInt ≤ ((va_up v11900 39 z11915) 30).toInt ∧ (v11900 38).toInt ≤ (v11924 38).toInt ∧ (v11924 38).toInt - (v11900 38).toInt ≤ (v11924 39).toInt - z11915.toInt ∧ (v11900 41).toInt ≤ (v11924 41).toInt ∧ ((v11924 40).toInt < 0 → (v11924 41).toInt = (v11900 41).toInt)) ∧ keepL ((va_up v11900 39 z11915) 37) (F11901 28) (F11901 29) (F11925 28) (F11925 29) ∧ ((v11924 40).toInt < 0 → dp (F11925 28) (F11925 29) (bI ((va_up v11900 39 z11915) 37)) (v11924 38).toInt.toNat = some (((d + 1) + 1) + 1)) := hw
              rw [show (va_up v11900 39 z11915) 30 = v 30 from (hf11902 30 (by decide)).trans ((hf11888 30 (by decide)).trans (hf11865 30 (by decide)))] at hw
              rw [show (va_up v11900 39 z11915) 37 = v 37 from (hf11902 37 (by decide)).trans ((hf11888 37 (by decide)).trans (hf11865 37 (by decide)))] at hw
              have hw_r11923 := hw
              clear hw
              have t11928 : 0 ≤ (v11924 38).toInt ∧ (v11924 38).toInt ≤ 120 := hI.1 38 _ _ rfl
              have t11929 : 0 ≤ (v11924 39).toInt ∧ (v11924 39).toInt ≤ 120 := hI.1 39 _ _ rfl
              have t11930 : 0 ≤ (v11924 41).toInt ∧ (v11924 41).toInt ≤ 8 := hI.1 41 _ _ rfl
              clear hz1
              generalize H1 = H at hP hS ⊢
              replace hk := hk.tr hw_r11923.2.1
              replace hd := hw_r11923.2.2
              replace hw_r11923 := hw_r11923.1
              refine lv_aload_n hx hb dX12_either_119 rfl (lv_at hl 1 rfl) ?_
              refine lv_iconst (v := 4) hx hb dX12_either_120 (by decide) ?_
              refine lv_iconst (v := 0) hx hb dX12_either_121 (by decide) ?_
              have t11931 : 0 ≤ (v 37).toInt ∧ (v 37).toInt ≤ 9 := by have h9 := hI.1 37 _ _ rfl; rw [show v11924 37 = v 37 from (hf11926 37 (by decide)).trans ((hf11902 37 (by decide)).trans ((hf11888 37 (by decide)).trans (hf11865 37 (by decide))))] at h9; exact h9
              have t11932 : 0 ≤ (v11924 38).toInt ∧ (v11924 38).toInt ≤ 120 := hI.1 38 _ _ rfl
              refine va_callv (va_runV (As := [.int 4, .int 0]) (rest := []) ⟨hx, hb, hml, hown, hwd⟩ (c_X12_lay l dC dI g c adK adV v11924 F11925 rc H.size 4 0 hg hI (by have h9 : v11924 38 = v11924 38 := rfl; rw [h9]; omega)) (cwV 2 hwd (gV wk_1021 wk_1018 wk_1019 wk_1020 wk_5) rfl rfl rfl (by decide +kernel) ⟨(by show 1 + 1 ≤ fr + 7; omega), (by show 8 + (3 + 11) + (40) ≤ lc + 280; omega)⟩) ⟨PM.blind, va_recv hK hP (ci := 12) (q0 := 0) rfl rfl, fun U hU hW => ⟨rfl, PM.at hK hE hP hS hU hW⟩⟩ rfl rfl hl.1 rfl (lv_room (Nat.le_of_ble_eq_true rfl)) dX12_either_122 ⟨Nat.le_of_ble_eq_true rfl, Nat.le_of_ble_eq_true rfl⟩) hS (fun q _ h => (freeM hS) q h) (freeM hS) (fun u t H1 locs ht hvm hw hB hz1 hk1 hS => ?_)
              unfold BM at hB
              rw [ht] at hB
              obtain ⟨v11934, F11935, rc9⟩ := u
              obtain ⟨hI, hrc, hf11936, hG11937, hw⟩ := hw
              dsimp only at hI hrc hB hf11936 hG11937 hw
              have hF := frCF (by decide) hG11937 hF
              rw [hrc] at hB
              have hP : va_P (dC, dI) classes (wM g c v11934 F11935 rc) H1 := hB
              replace hw : (v11934 38).toInt = (v11924 38).toInt + 1 ∧ keepL (v11924 37) (F11925 28) (F11925 29) (F11935 28) (F11935 29) ∧ dp (F11935 28) (F11935 29) (bI (v11924 37)) ((v11924 38).toInt.toNat + 1) = dpS (dp (F11925 28) (F11925 29) (bI (v11924 37)) (v11924 38).toInt.toNat) (4 : Int32) (0 : Int32) := hw
              rw [show v11924 37 = v 37 from (hf11926 37 (by decide)).trans ((hf11902 37 (by decide)).trans ((hf11888 37 (by decide)).trans (hf11865 37 (by decide))))] at hw
              have hw_r11933 := hw
              clear hw
              have t11938 : 0 ≤ (v11934 38).toInt ∧ (v11934 38).toInt ≤ 120 := hI.1 38 _ _ rfl
              have k11939 : (4 : Int32).toInt = 4 := by decide
              have k11940 : (0 : Int32).toInt = 0 := by decide
              clear hz1
              generalize H1 = H at hP hS ⊢
              replace hk := hk.tr hw_r11933.2.1
              replace hd : (v11924 40).toInt < 0 → dp (F11935 28) (F11935 29) (bI (v 37)) (v11934 38).toInt.toNat = some ((((d + 1) + 1) + 1) - 2) := fun hf => (by have e9 : (v11934 38).toInt.toNat = (v11924 38).toInt.toNat + 1 := (by omega); rw [e9, hw_r11933.2.2, hd hf]; exact dpS_4 (by decide) (by omega))
              replace hw_r11933 := hw_r11933.1
              refine lv_aload_n hx hb dX12_either_125 rfl (lv_at hl 1 rfl) ?_
              refine lv_dup hx hb dX12_either_126 rfl ?_
              refine va_get (D := (dC, dI)) (ci := 12) (v := .int (v11934 41)) (C := RX12) (T := TX12) (N := 63) hx hb hwd inA_X12 hown hK hP 0 rfl rfl 41 (by decide) (hwd _ wk_1006) (fun _ h9 => h9) rfl dX12_either_127 ?_
              refine my_top (v := v11924 41) (hf11936 41 (by decide)) ?_
              have t11941 : 0 ≤ (v11924 41).toInt ∧ (v11924 41).toInt ≤ 8 := by have h9 := hI.1 41 _ _ rfl; rw [show v11934 41 = v11924 41 from hf11936 41 (by decide)] at h9; exact h9
              refine lv_iconst (v := 1) hx hb dX12_either_130 (by decide) ?_
              refine lv_isub hx hb dX12_either_131 ?_
              refine lv_topi (fun z11942 e11943 => ?_)
              try (have t11944 := tsub e11943 (a := (v11924 41).toInt) rfl (b := 1) (by decide) (by omega))
              refine va_put (D := (dC, dI)) (ci := 12) (v := .int z11942) (ty := .int) (C := RX12) (T := TX12) (N := 63) (fs := fsM_0 g v11934 rc) hx hb hwd inA_X12 tyX12 tyX12_ok nmX12 hown hK hP (DM hg) hS 0 rfl rfl 41 (by decide) (hwd _ wk_1006) (fun _ h9 => h9) rfl (by decide +kernel) rfl rfl (Nat.le_of_ble_eq_true rfl) dX12_either_132 (fun H locs hP _ hS => ?_)
              have hP := va_P_eq (pM_41 g c _ _ _ _) hP
              have hI := IM.put hI 41 z11942 rfl (by omega)
              have hP9 : va_P (dC, dI) classes (wM g c (va_up v11934 41 z11942) F11935 rc) H := hP
              exact W.vret hx hb hr (fun t ht hW => ⟨⟨((va_up v11934 41 z11942), F11935, rc), rfl, ⟨hI, rfl, (frU (by decide) (frC (by decide) hf11936 (frC (by decide) hf11926 (frU (by decide) (frC (by decide) hf11902 (frC (by decide) hf11888 (frC (by decide) hf11865 (fun _ _ => rfl)))))))), hF, (by show ((v 39).toInt ≤ ((va_up v11934 41 z11942) 39).toInt ∧ ((va_up v11934 41 z11942) 39).toInt ≤ (v 30).toInt ∧ (v 38).toInt ≤ (v11934 38).toInt ∧ (v11934 38).toInt - (v 38).toInt ≤ ((va_up v11934 41 z11942) 39).toInt - (v 39).toInt ∧ (v 41).toInt ≤ z11942.toInt ∧ (((va_up v11934 41 z11942) 40).toInt < 0 → z11942.toInt = (v 41).toInt)) ∧ keepL (v 37) (F 28) (F 29) (F11935 28) (F11935 29) ∧ (((va_up v11934 41 z11942) 40).toInt < 0 → dp (F11935 28) (F11935 29) (bI (v 37)) (v11934 38).toInt.toNat = some (d + 1)); rw [show (va_up v11934 41 z11942) 39 = v11924 39 from hf11936 39 (by decide)]; rw [show (va_up v11934 41 z11942) 40 = v11924 40 from hf11936 40 (by decide)]; exact ⟨by omega, hk, fun hf => (hd (by omega)).trans (congrArg some (by omega))⟩)⟩, (by show va_P _ _ _ t.heap; rw [ht]; exact hP9)⟩, hS.F ht⟩) hS.2.2 dX12_either_135
            · skip
              have t11945 := cv_ne (a := r11911.toInt) rfl (b := 58) (by decide) c11912
              refine lv_aload_n hx hb dX12_either_100 rfl (lv_at hl 1 rfl) ?_
              refine va_callv (va_runV (As := []) (rest := []) ⟨hx, hb, hml, hown, hwd⟩ (c_X12_wrong l dC dI g c adK adV v11900 F11901 rc H.size  hg hI ) (cwV 0 hwd (gV wk_1029 wk_1026 wk_1027 wk_1028 wk_5) rfl rfl rfl (by decide +kernel) ⟨(by show 1 + 1 ≤ fr + 7; omega), (by show 8 + (1 + 11) + (40) ≤ lc + 280; omega)⟩) ⟨PM.blind, va_recv hK hP (ci := 12) (q0 := 0) rfl rfl, fun U hU hW => ⟨rfl, PM.at hK hE hP hS hU hW⟩⟩ rfl rfl hl.1 rfl (lv_room (Nat.le_of_ble_eq_true rfl)) dX12_either_101 ⟨Nat.le_of_ble_eq_true rfl, Nat.le_of_ble_eq_true rfl⟩) hS (fun q _ h => (freeM hS) q h) (freeM hS) (fun u t H1 locs ht hvm hw hB hz1 hk1 hS => ?_)
              unfold BM at hB
              rw [ht] at hB
              obtain ⟨v11947, F11948, rc9⟩ := u
              obtain ⟨hI, hrc, hf11949, hG11950, hw⟩ := hw
              dsimp only at hI hrc hB hf11949 hG11950 hw
              have hF := frCF (by decide) hG11950 hF
              rw [hrc] at hB
              have hP : va_P (dC, dI) classes (wM g c v11947 F11948 rc) H1 := hB
              replace hw : 0 ≤ (v11947 40).toInt := hw
              have hw_r11946 := hw
              clear hw
              clear hz1
              generalize H1 = H at hP hS ⊢
              replace hk : keepL (v 37) (F 28) (F 29) (F11948 28) (F11948 29) := by rw [hG11950 28 (by decide), hG11950 29 (by decide)]; exact hk
              replace hd : (v11947 40).toInt < 0 → dp (F11948 28) (F11948 29) (bI (v 37)) (v11900 38).toInt.toNat = some ((d + 1) + 1) := fun hf => (by rw [hG11950 28 (by decide), hG11950 29 (by decide)]; exact hd (by omega))
              have hP9 : va_P (dC, dI) classes (wM g c v11947 F11948 rc) H := hP
              exact W.vret hx hb hr (fun t ht hW => ⟨⟨(v11947, F11948, rc), rfl, ⟨hI, rfl, (frC (by decide) hf11949 (frC (by decide) hf11902 (frC (by decide) hf11888 (frC (by decide) hf11865 (fun _ _ => rfl))))), hF, (by show ((v 39).toInt ≤ (v11947 39).toInt ∧ (v11947 39).toInt ≤ (v 30).toInt ∧ (v 38).toInt ≤ (v11947 38).toInt ∧ (v11947 38).toInt - (v 38).toInt ≤ (v11947 39).toInt - (v 39).toInt ∧ (v 41).toInt ≤ (v11947 41).toInt ∧ ((v11947 40).toInt < 0 → (v11947 41).toInt = (v 41).toInt)) ∧ keepL (v 37) (F 28) (F 29) (F11948 28) (F11948 29) ∧ ((v11947 40).toInt < 0 → dp (F11948 28) (F11948 29) (bI (v 37)) (v11947 38).toInt.toNat = some (d + 1)); rw [show v11947 39 = v11900 39 from hf11949 39 (by decide)]; rw [show v11947 38 = v11900 38 from hf11949 38 (by decide)]; rw [show v11947 41 = v11900 41 from hf11949 41 (by decide)]; exact ⟨by omega, hk, fun hf => (hd (by omega)).trans (congrArg some (by omega))⟩)⟩, (by show va_P _ _ _ t.heap; rw [ht]; exact hP9)⟩, hS.F ht⟩) hS.2.2 dX12_either_104
          · skip
            have t11951 := cv_nlt (a := (v11900 40).toInt) rfl (b := 0) (by decide) c11907
            have hP9 : va_P (dC, dI) classes (wM g c v11900 F11901 rc) H := hP
            exact W.vret hx hb hr (fun t ht hW => ⟨⟨(v11900, F11901, rc), rfl, ⟨hI, rfl, (frC (by decide) hf11902 (frC (by decide) hf11888 (frC (by decide) hf11865 (fun _ _ => rfl)))), hF, (by show ((v 39).toInt ≤ (v11900 39).toInt ∧ (v11900 39).toInt ≤ (v 30).toInt ∧ (v 38).toInt ≤ (v11900 38).toInt ∧ (v11900 38).toInt - (v 38).toInt ≤ (v11900 39).toInt - (v 39).toInt ∧ (v 41).toInt ≤ (v11900 41).toInt ∧ ((v11900 40).toInt < 0 → (v11900 41).toInt = (v 41).toInt)) ∧ keepL (v 37) (F 28) (F 29) (F11901 28) (F11901 29) ∧ ((v11900 40).toInt < 0 → dp (F11901 28) (F11901 29) (bI (v 37)) (v11900 38).toInt.toNat = some (d + 1)); exact ⟨by omega, hk, fun hf => (hd (by omega)).trans (congrArg some (by omega))⟩)⟩, (by show va_P _ _ _ t.heap; rw [ht]; exact hP9)⟩, hS.F ht⟩) hS.2.2 dX12_either_90
        · skip
          have t11952 := cv_eq (a := r11885.toInt) rfl (b := 0) (by decide) c11892
          have hP9 : va_P (dC, dI) classes (wM g c v11886 F11887 rc) H := hP
          exact W.vret hx hb hr (fun t ht hW => ⟨⟨(v11886, F11887, rc), rfl, ⟨hI, rfl, (frC (by decide) hf11888 (frC (by decide) hf11865 (fun _ _ => rfl))), hF, (by show ((v 39).toInt ≤ (v11886 39).toInt ∧ (v11886 39).toInt ≤ (v 30).toInt ∧ (v 38).toInt ≤ (v11886 38).toInt ∧ (v11886 38).toInt - (v 38).toInt ≤ (v11886 39).toInt - (v 39).toInt ∧ (v 41).toInt ≤ (v11886 41).toInt ∧ ((v11886 40).toInt < 0 → (v11886 41).toInt = (v 41).toInt)) ∧ keepL (v 37) (F 28) (F 29) (F11887 28) (F11887 29) ∧ ((v11886 40).toInt < 0 → dp (F11887 28) (F11887 29) (bI (v 37)) (v11886 38).toInt.toNat = some (d + 1)); rw [show v11886 38 = v11863 38 from hf11888 38 (by decide)]; exact ⟨by omega, hk, fun hf => (hd (by omega)).trans (congrArg some (by omega))⟩)⟩, (by show va_P _ _ _ t.heap; rw [ht]; exact hP9)⟩, hS.F ht⟩) hS.2.2 dX12_either_78
      · skip
        have t11953 := cv_ne (a := r11880.toInt) rfl (b := 63) (by decide) c11881
        have hP9 : va_P (dC, dI) classes (wM g c v11863 F11864 rc) H := hP
        exact W.vret hx hb hr (fun t ht hW => ⟨⟨(v11863, F11864, rc), rfl, ⟨hI, rfl, (frC (by decide) hf11865 (fun _ _ => rfl)), hF, (by show ((v 39).toInt ≤ (v11863 39).toInt ∧ (v11863 39).toInt ≤ (v 30).toInt ∧ (v 38).toInt ≤ (v11863 38).toInt ∧ (v11863 38).toInt - (v 38).toInt ≤ (v11863 39).toInt - (v 39).toInt ∧ (v 41).toInt ≤ (v11863 41).toInt ∧ ((v11863 40).toInt < 0 → (v11863 41).toInt = (v 41).toInt)) ∧ keepL (v 37) (F 28) (F 29) (F11864 28) (F11864 29) ∧ ((v11863 40).toInt < 0 → dp (F11864 28) (F11864 29) (bI (v 37)) (v11863 38).toInt.toNat = some (d + 1)); exact ⟨by omega, hk, fun hf => (hd (by omega)).trans (congrArg some (by omega))⟩)⟩, (by show va_P _ _ _ t.heap; rw [ht]; exact hP9)⟩, hS.F ht⟩) hS.2.2 dX12_either_70
  · skip
    have t11954 := cv_nle (a := 0) (by decide) (b := (v11863 40).toInt) rfl c11873
    refine lv_iload_n hx hb dX12_either_16 rfl (lv_at hl 0 rfl) ?_
    refine lv_bipush (v := 60) hx hb dX12_either_17 (by decide) ?_
    refine lv_icmp_eq (tgt := 34) hx hb dX12_either_19 (by decide) (fun c11955 => ?_) (fun c11955 => ?_)
    · skip
      have t11956 := cv_eq (a := r11872.toInt) rfl (b := 60) (by decide) c11955
      refine lv_aload_n hx hb dX12_either_34 rfl (lv_at hl 1 rfl) ?_
      refine lv_dup hx hb dX12_either_35 rfl ?_
      refine va_get (D := (dC, dI)) (ci := 12) (v := .int (v11863 39)) (C := RX12) (T := TX12) (N := 63) hx hb hwd inA_X12 hown hK hP 0 rfl rfl 39 (by decide) (hwd _ wk_1004) (fun _ h9 => h9) rfl dX12_either_36 ?_
      have t11957 : 0 ≤ (v11863 39).toInt ∧ (v11863 39).toInt ≤ 120 := hI.1 39 _ _ rfl
      refine lv_iconst (v := 1) hx hb dX12_either_39 (by decide) ?_
      refine lv_iadd hx hb dX12_either_40 ?_
      refine lv_topi (fun z11958 e11959 => ?_)
      try (have t11960 := tadd e11959 (a := (v11863 39).toInt) rfl (b := 1) (by decide) (by omega))
      refine va_put (D := (dC, dI)) (ci := 12) (v := .int z11958) (ty := .int) (C := RX12) (T := TX12) (N := 63) (fs := fsM_0 g v11863 rc) hx hb hwd inA_X12 tyX12 tyX12_ok nmX12 hown hK hP (DM hg) hS 0 rfl rfl 39 (by decide) (hwd _ wk_1004) (fun _ h9 => h9) rfl (by decide +kernel) rfl rfl (Nat.le_of_ble_eq_true rfl) dX12_either_41 (fun H locs hP _ hS => ?_)
      have hP := va_P_eq (pM_39 g c _ _ _ _) hP
      have hI := IM.put hI 39 z11958 rfl (by omega)
      refine lv_aload_n hx hb dX12_either_44 rfl (lv_at hl 1 rfl) ?_
      have t11961 : 0 ≤ (v 30).toInt ∧ (v 30).toInt ≤ 120 := by have h9 := hI.1 30 _ _ rfl; rw [show (va_up v11863 39 z11958) 30 = v 30 from hf11865 30 (by decide)] at h9; exact h9
      have t11962 : 0 ≤ (v 37).toInt ∧ (v 37).toInt ≤ 9 := by have h9 := hI.1 37 _ _ rfl; rw [show (va_up v11863 39 z11958) 37 = v 37 from hf11865 37 (by decide)] at h9; exact h9
      have t11963 : 0 ≤ (v11863 38).toInt ∧ (v11863 38).toInt ≤ 120 := hI.1 38 _ _ rfl
      have t11964 : 0 ≤ z11958.toInt ∧ z11958.toInt ≤ 120 := hI.1 39 _ _ rfl
      have t11965 : 0 ≤ (v11863 41).toInt ∧ (v11863 41).toInt ≤ 8 := hI.1 41 _ _ rfl
      refine va_callv (va_runV (As := []) (rest := []) ⟨hx, hb, hml, hown, hwd⟩ (c_X12_sum D fr lc rO rE l dC dI g c adK adV (va_up v11863 39 z11958) F11864 rc H.size  (d + 1) hg hI (by have h9 : (va_up v11863 39 z11958) 38 = v11863 38 := rfl; (try rw [h9]); clear h9; have h9 : (va_up v11863 39 z11958) 39 = z11958 := rfl; (try rw [h9]); clear h9; have h9 : (va_up v11863 39 z11958) 30 = v 30 := hf11865 30 (by decide); (try rw [h9]); clear h9; have h9 : (va_up v11863 39 z11958) 40 = v11863 40 := rfl; (try rw [h9]); clear h9; have h9 : (va_up v11863 39 z11958) 41 = v11863 41 := rfl; (try rw [h9]); clear h9; omega) (by have h9 : (va_up v11863 39 z11958) 37 = (v 37) := hf11865 37 (by decide); have h8 : (va_up v11863 39 z11958) 38 = (v11863 38) := rfl; (try rw [h9]); (try rw [h8]); exact hd (by omega))) (cwV 0 hwd (gV wk_1043 wk_1011 wk_1012 wk_1013 wk_5) rfl rfl rfl (by decide +kernel) ⟨(by show fr + 6 + 1 ≤ fr + 7; omega), (by show 8 + (2 + 11) + (lc + 240) ≤ lc + 280; omega)⟩) ⟨PM.blind, va_recv hK hP (ci := 12) (q0 := 0) rfl rfl, fun U hU hW => ⟨rfl, PM.at hK hE hP hS hU hW⟩⟩ rfl rfl hl.1 rfl (lv_room (Nat.le_of_ble_eq_true rfl)) dX12_either_45 ⟨Nat.le_of_ble_eq_true rfl, Nat.le_of_ble_eq_true rfl⟩) hS (fun q _ h => (freeM hS) q h) (freeM hS) (fun u t H1 locs ht hvm hw hB hz1 hk1 hS => ?_)
      unfold BM at hB
      rw [ht] at hB
      obtain ⟨v11967, F11968, rc9⟩ := u
      obtain ⟨hI, hrc, hf11969, hG11970, hw⟩ := hw
      dsimp only at hI hrc hB hf11969 hG11970 hw
      have hF := frCF (by decide) hG11970 hF
      rw [hrc] at hB
      have hP : va_P (dC, dI) classes (wM g c v11967 F11968 rc) H1 := hB
      replace hw : (z11958.toInt ≤ (v11967 39).toInt ∧ (v11967 39).toInt ≤ ((va_up v11863 39 z11958) 30).toInt ∧ (v11863 38).toInt ≤ (v11967 38).toInt ∧ (v11967 38).toInt - (v11863 38).toInt ≤ (v11967 39).toInt - z11958.toInt ∧ (v11863 41).toInt ≤ (v11967 41).toInt ∧ ((v11967 40).toInt < 0 → (v11967 41).toInt = (v11863 41).toInt)) ∧ keepL ((va_up v11863 39 z11958) 37) (F11864 28) (F11864 29) (F11968 28) (F11968 29) ∧ ((v11967 40).toInt < 0 → dp (F11968 28) (F11968 29) (bI ((va_up v11863 39 z11958) 37)) (v11967 38).toInt.toNat = some ((d + 1) + 1)) := hw
      rw [show (va_up v11863 39 z11958) 30 = v 30 from hf11865 30 (by decide)] at hw
      rw [show (va_up v11863 39 z11958) 37 = v 37 from hf11865 37 (by decide)] at hw
      have hw_r11966 := hw
      clear hw
      have t11971 : 0 ≤ (v11967 38).toInt ∧ (v11967 38).toInt ≤ 120 := hI.1 38 _ _ rfl
      have t11972 : 0 ≤ (v11967 39).toInt ∧ (v11967 39).toInt ≤ 120 := hI.1 39 _ _ rfl
      have t11973 : 0 ≤ (v11967 41).toInt ∧ (v11967 41).toInt ≤ 8 := hI.1 41 _ _ rfl
      clear hz1
      generalize H1 = H at hP hS ⊢
      replace hk := hk.tr hw_r11966.2.1
      replace hd := hw_r11966.2.2
      replace hw_r11966 := hw_r11966.1
      refine lv_aload_n hx hb dX12_either_48 rfl (lv_at hl 1 rfl) ?_
      refine lv_iload_n hx hb dX12_either_49 rfl (lv_at hl 0 rfl) ?_
      refine lv_iconst (v := 0) hx hb dX12_either_50 (by decide) ?_
      have t11974 : 0 ≤ (v 37).toInt ∧ (v 37).toInt ≤ 9 := by have h9 := hI.1 37 _ _ rfl; rw [show v11967 37 = v 37 from (hf11969 37 (by decide)).trans (hf11865 37 (by decide))] at h9; exact h9
      have t11975 : 0 ≤ (v11967 38).toInt ∧ (v11967 38).toInt ≤ 120 := hI.1 38 _ _ rfl
      refine va_callv (va_runV (As := [.int r11872, .int 0]) (rest := []) ⟨hx, hb, hml, hown, hwd⟩ (c_X12_lay l dC dI g c adK adV v11967 F11968 rc H.size r11872 0 hg hI (by have h9 : v11967 38 = v11967 38 := rfl; rw [h9]; omega)) (cwV 2 hwd (gV wk_1021 wk_1018 wk_1019 wk_1020 wk_5) rfl rfl rfl (by decide +kernel) ⟨(by show 1 + 1 ≤ fr + 7; omega), (by show 8 + (3 + 11) + (40) ≤ lc + 280; omega)⟩) ⟨PM.blind, va_recv hK hP (ci := 12) (q0 := 0) rfl rfl, fun U hU hW => ⟨rfl, PM.at hK hE hP hS hU hW⟩⟩ rfl rfl hl.1 rfl (lv_room (Nat.le_of_ble_eq_true rfl)) dX12_either_51 ⟨Nat.le_of_ble_eq_true rfl, Nat.le_of_ble_eq_true rfl⟩) hS (fun q _ h => (freeM hS) q h) (freeM hS) (fun u t H1 locs ht hvm hw hB hz1 hk1 hS => ?_)
      unfold BM at hB
      rw [ht] at hB
      obtain ⟨v11977, F11978, rc9⟩ := u
      obtain ⟨hI, hrc, hf11979, hG11980, hw⟩ := hw
      dsimp only at hI hrc hB hf11979 hG11980 hw
      have hF := frCF (by decide) hG11980 hF
      rw [hrc] at hB
      have hP : va_P (dC, dI) classes (wM g c v11977 F11978 rc) H1 := hB
      replace hw : (v11977 38).toInt = (v11967 38).toInt + 1 ∧ keepL (v11967 37) (F11968 28) (F11968 29) (F11978 28) (F11978 29) ∧ dp (F11978 28) (F11978 29) (bI (v11967 37)) ((v11967 38).toInt.toNat + 1) = dpS (dp (F11968 28) (F11968 29) (bI (v11967 37)) (v11967 38).toInt.toNat) r11872 (0 : Int32) := hw
      rw [show v11967 37 = v 37 from (hf11969 37 (by decide)).trans (hf11865 37 (by decide))] at hw
      have hw_r11976 := hw
      clear hw
      have t11981 : 0 ≤ (v11977 38).toInt ∧ (v11977 38).toInt ≤ 120 := hI.1 38 _ _ rfl
      have k11982 : (0 : Int32).toInt = 0 := by decide
      clear hz1
      generalize H1 = H at hP hS ⊢
      replace hk := hk.tr hw_r11976.2.1
      replace hd : (v11967 40).toInt < 0 → dp (F11978 28) (F11978 29) (bI (v 37)) (v11977 38).toInt.toNat = some (((d + 1) + 1) - 1) := fun hf => (by have e9 : (v11977 38).toInt.toNat = (v11967 38).toInt.toNat + 1 := (by omega); rw [e9, hw_r11976.2.2, hd hf]; exact dpS_5 (by omega) (by omega) (by omega) (by omega) (by omega))
      replace hw_r11976 := hw_r11976.1
      refine lv_aload_n hx hb dX12_either_54 rfl (lv_at hl 1 rfl) ?_
      refine va_get (D := (dC, dI)) (ci := 12) (v := .int (v11977 40)) (C := RX12) (T := TX12) (N := 63) hx hb hwd inA_X12 hown hK hP 0 rfl rfl 40 (by decide) (hwd _ wk_1005) (fun _ h9 => h9) rfl dX12_either_55 ?_
      refine my_top (v := v11967 40) (hf11979 40 (by decide)) ?_
      refine lv_if_ge (tgt := 70) hx hb dX12_either_58 (by decide) (fun c11983 => ?_) (fun c11983 => ?_)
      · skip
        have t11984 := cv_le (a := 0) (by decide) (b := (v11967 40).toInt) rfl c11983
        have hP9 : va_P (dC, dI) classes (wM g c v11977 F11978 rc) H := hP
        exact W.vret hx hb hr (fun t ht hW => ⟨⟨(v11977, F11978, rc), rfl, ⟨hI, rfl, (frC (by decide) hf11979 (frC (by decide) hf11969 (frU (by decide) (frC (by decide) hf11865 (fun _ _ => rfl))))), hF, (by show ((v 39).toInt ≤ (v11977 39).toInt ∧ (v11977 39).toInt ≤ (v 30).toInt ∧ (v 38).toInt ≤ (v11977 38).toInt ∧ (v11977 38).toInt - (v 38).toInt ≤ (v11977 39).toInt - (v 39).toInt ∧ (v 41).toInt ≤ (v11977 41).toInt ∧ ((v11977 40).toInt < 0 → (v11977 41).toInt = (v 41).toInt)) ∧ keepL (v 37) (F 28) (F 29) (F11978 28) (F11978 29) ∧ ((v11977 40).toInt < 0 → dp (F11978 28) (F11978 29) (bI (v 37)) (v11977 38).toInt.toNat = some (d + 1)); rw [show v11977 39 = v11967 39 from hf11979 39 (by decide)]; rw [show v11977 41 = v11967 41 from hf11979 41 (by decide)]; rw [show v11977 40 = v11967 40 from hf11979 40 (by decide)]; exact ⟨by omega, hk, fun hf => (hd (by omega)).trans (congrArg some (by omega))⟩)⟩, (by show va_P _ _ _ t.heap; rw [ht]; exact hP9)⟩, hS.F ht⟩) hS.2.2 dX12_either_70
      · skip
        have t11985 := cv_nle (a := 0) (by decide) (b := (v11967 40).toInt) rfl c11983
        refine lv_aload_n hx hb dX12_either_61 rfl (lv_at hl 1 rfl) ?_
        have t11986 : 0 ≤ (v 30).toInt ∧ (v 30).toInt ≤ 120 := by have h9 := hI.1 30 _ _ rfl; rw [show v11977 30 = v 30 from (hf11979 30 (by decide)).trans ((hf11969 30 (by decide)).trans (hf11865 30 (by decide)))] at h9; exact h9
        have t11987 : 0 ≤ (v11967 39).toInt ∧ (v11967 39).toInt ≤ 120 := by have h9 := hI.1 39 _ _ rfl; rw [show v11977 39 = v11967 39 from hf11979 39 (by decide)] at h9; exact h9
        refine va_calli (va_runV (As := []) (rest := []) ⟨hx, hb, hml, hown, hwd⟩ (c_X12_look l dC dI g c adK adV v11977 F11978 rc H.size  hg hI ) (cwV 0 hwd (gV wk_1017 wk_1014 wk_1015 wk_1016 wk_5) rfl rfl rfl (by decide +kernel) ⟨(by show 1 + 1 ≤ fr + 7; omega), (by show 8 + (1 + 11) + (40) ≤ lc + 280; omega)⟩) ⟨PM.blind, va_recv hK hP (ci := 12) (q0 := 0) rfl rfl, fun U hU hW => ⟨rfl, PM.at hK hE hP hS hU hW⟩⟩ rfl rfl hl.1 rfl (lv_room (Nat.le_of_ble_eq_true rfl)) dX12_either_62 ⟨Nat.le_of_ble_eq_true rfl, Nat.le_of_ble_eq_true rfl⟩) hS (fun q _ h => (freeM hS) q h) (freeM hS) (fun r11988 u t H1 locs ht hvm hw hB hz1 hk1 hS => ?_)
        unfold BM at hB
        rw [ht] at hB
        have hP : va_P (dC, dI) classes (wM g c v11977 F11978 rc) H1 := hB
        replace hw : r11988.toInt = lkM (v11977 39) (v11977 30) (F11978 24) ∧ ((v11977 39).toInt < (v11977 30).toInt ∨ r11988.toInt = -1) := hw
        rw [show v11977 39 = v11967 39 from hf11979 39 (by decide)] at hw
        rw [show v11977 30 = v 30 from (hf11979 30 (by decide)).trans ((hf11969 30 (by decide)).trans (hf11865 30 (by decide)))] at hw
        rw [hF 24 (by decide)] at hw
        have hw_r11988 := hw
        clear hw
        clear hz1
        generalize H1 = H at hP hS ⊢
        refine lv_bipush (v := 63) hx hb dX12_either_65 (by decide) ?_
        refine lv_icmp_eq (tgt := 71) hx hb dX12_either_67 (by decide) (fun c11989 => ?_) (fun c11989 => ?_)
        · skip
          have t11990 := cv_eq (a := r11988.toInt) rfl (b := 63) (by decide) c11989
          refine lv_aload_n hx hb dX12_either_71 rfl (lv_at hl 1 rfl) ?_
          have t11991 : 0 ≤ (v11967 39).toInt ∧ (v11967 39).toInt ≤ 120 := by have h9 := hI.1 39 _ _ rfl; rw [show v11977 39 = v11967 39 from hf11979 39 (by decide)] at h9; exact h9
          have t11992 : 0 ≤ (v11967 41).toInt ∧ (v11967 41).toInt ≤ 8 := by have h9 := hI.1 41 _ _ rfl; rw [show v11977 41 = v11967 41 from hf11979 41 (by decide)] at h9; exact h9
          refine va_calli (va_runV (As := []) (rest := []) ⟨hx, hb, hml, hown, hwd⟩ (c_X12_opens l dC dI g c adK adV v11977 F11978 rc H.size  hg hI (by have h9 : v11977 39 = v11967 39 := hf11979 39 (by decide); (try rw [h9]); clear h9; have h9 : v11977 30 = v 30 := (hf11979 30 (by decide)).trans ((hf11969 30 (by decide)).trans (hf11865 30 (by decide))); (try rw [h9]); clear h9; omega)) (cwV 0 hwd (gV wk_1025 wk_1022 wk_1023 wk_1024 wk_5) rfl rfl rfl (by decide +kernel) ⟨(by show 2 + 1 ≤ fr + 7; omega), (by show 8 + (1 + 11) + (80) ≤ lc + 280; omega)⟩) ⟨PM.blind, va_recv hK hP (ci := 12) (q0 := 0) rfl rfl, fun U hU hW => ⟨rfl, PM.at hK hE hP hS hU hW⟩⟩ rfl rfl hl.1 rfl (lv_room (Nat.le_of_ble_eq_true rfl)) dX12_either_72 ⟨Nat.le_of_ble_eq_true rfl, Nat.le_of_ble_eq_true rfl⟩) hS (fun q _ h => (freeM hS) q h) (freeM hS) (fun r11993 u t H1 locs ht hvm hw hB hz1 hk1 hS => ?_)
          unfold BM at hB
          rw [ht] at hB
          obtain ⟨v11994, F11995, rc9⟩ := u
          obtain ⟨hI, hrc, hf11996, hG11997, hw⟩ := hw
          dsimp only at hI hrc hB hf11996 hG11997 hw
          have hF := frCF (by decide) hG11997 hF
          rw [hrc] at hB
          have hP : va_P (dC, dI) classes (wM g c v11994 F11995 rc) H1 := hB
          replace hw : (r11993.toInt = 1 ∧ (v11977 41).toInt < 8 ∧ (v11994 41).toInt = (v11977 41).toInt + 1 ∧ (v11994 39).toInt = (v11977 39).toInt + 1 ∧ (v11994 40).toInt = (v11977 40).toInt) ∨ (r11993.toInt = 0 ∧ (v11977 41).toInt = 8 ∧ 0 ≤ (v11994 40).toInt ∧ (v11994 41).toInt = (v11977 41).toInt ∧ (v11994 39).toInt = (v11977 39).toInt) := hw
          rw [show v11977 41 = v11967 41 from hf11979 41 (by decide)] at hw
          rw [show v11977 39 = v11967 39 from hf11979 39 (by decide)] at hw
          rw [show v11977 40 = v11967 40 from hf11979 40 (by decide)] at hw
          have hw_r11993 := hw
          clear hw
          have t11998 : 0 ≤ (v11994 39).toInt ∧ (v11994 39).toInt ≤ 120 := hI.1 39 _ _ rfl
          have t11999 : 0 ≤ (v11994 41).toInt ∧ (v11994 41).toInt ≤ 8 := hI.1 41 _ _ rfl
          clear hz1
          generalize H1 = H at hP hS ⊢
          replace hk : keepL (v 37) (F 28) (F 29) (F11995 28) (F11995 29) := by rw [hG11997 28 (by decide), hG11997 29 (by decide)]; exact hk
          replace hd : (v11994 40).toInt < 0 → dp (F11995 28) (F11995 29) (bI (v 37)) (v11977 38).toInt.toNat = some (((d + 1) + 1) - 1) := fun hf => (by rw [hG11997 28 (by decide), hG11997 29 (by decide)]; exact hd (by omega))
          refine lv_if_ne (tgt := 79) hx hb dX12_either_75 (by decide) (fun c12000 => ?_) (fun c12000 => ?_)
          · skip
            have t12001 := cv_ne (a := r11993.toInt) rfl (b := 0) (by decide) c12000
            refine lv_aload_n hx hb dX12_either_79 rfl (lv_at hl 1 rfl) ?_
            have t12002 : 0 ≤ (v 30).toInt ∧ (v 30).toInt ≤ 120 := by have h9 := hI.1 30 _ _ rfl; rw [show v11994 30 = v 30 from (hf11996 30 (by decide)).trans ((hf11979 30 (by decide)).trans ((hf11969 30 (by decide)).trans (hf11865 30 (by decide))))] at h9; exact h9
            have t12003 : 0 ≤ (v 37).toInt ∧ (v 37).toInt ≤ 9 := by have h9 := hI.1 37 _ _ rfl; rw [show v11994 37 = v 37 from (hf11996 37 (by decide)).trans ((hf11979 37 (by decide)).trans ((hf11969 37 (by decide)).trans (hf11865 37 (by decide))))] at h9; exact h9
            have t12004 : 0 ≤ (v11977 38).toInt ∧ (v11977 38).toInt ≤ 120 := by have h9 := hI.1 38 _ _ rfl; rw [show v11994 38 = v11977 38 from hf11996 38 (by decide)] at h9; exact h9
            have t12005 : 0 ≤ (v11994 39).toInt ∧ (v11994 39).toInt ≤ 120 := hI.1 39 _ _ rfl
            have t12006 : 0 ≤ (v11994 41).toInt ∧ (v11994 41).toInt ≤ 8 := hI.1 41 _ _ rfl
            refine va_callv (va_runV (As := []) (rest := []) ⟨hx, hb, hml, hown, hwd⟩ (rE l dC dI g c adK adV v11994 F11995 rc H.size  (((d + 1) + 1) - 1) hg hI (by have h9 : v11994 38 = v11977 38 := hf11996 38 (by decide); (try rw [h9]); clear h9; have h9 : v11994 39 = v11994 39 := rfl; (try rw [h9]); clear h9; have h9 : v11994 30 = v 30 := (hf11996 30 (by decide)).trans ((hf11979 30 (by decide)).trans ((hf11969 30 (by decide)).trans (hf11865 30 (by decide)))); (try rw [h9]); clear h9; have h9 : v11994 40 = v11994 40 := rfl; (try rw [h9]); clear h9; have h9 : v11994 41 = v11994 41 := rfl; (try rw [h9]); clear h9; omega) (by have h9 : v11994 37 = (v 37) := (hf11996 37 (by decide)).trans ((hf11979 37 (by decide)).trans ((hf11969 37 (by decide)).trans (hf11865 37 (by decide)))); have h8 : v11994 38 = (v11977 38) := hf11996 38 (by decide); (try rw [h9]); (try rw [h8]); exact hd (by omega))) (cwV 0 hwd (gV wk_1010 wk_1007 wk_1008 wk_1009 wk_5) rfl rfl rfl (by decide +kernel) ⟨(by show fr + 3 + 1 ≤ fr + 7; omega), (by show 8 + (2 + 11) + (lc + 120) ≤ lc + 280; omega)⟩) ⟨PM.blind, va_recv hK hP (ci := 12) (q0 := 0) rfl rfl, fun U hU hW => ⟨rfl, PM.at hK hE hP hS hU hW⟩⟩ rfl rfl hl.1 rfl (lv_room (Nat.le_of_ble_eq_true rfl)) dX12_either_80 ⟨Nat.le_of_ble_eq_true rfl, Nat.le_of_ble_eq_true rfl⟩) hS (fun q _ h => (freeM hS) q h) (freeM hS) (fun u t H1 locs ht hvm hw hB hz1 hk1 hS => ?_)
            unfold BM at hB
            rw [ht] at hB
            obtain ⟨v12008, F12009, rc9⟩ := u
            obtain ⟨hI, hrc, hf12010, hG12011, hw⟩ := hw
            dsimp only at hI hrc hB hf12010 hG12011 hw
            have hF := frCF (by decide) hG12011 hF
            rw [hrc] at hB
            have hP : va_P (dC, dI) classes (wM g c v12008 F12009 rc) H1 := hB
            replace hw : ((v11994 39).toInt ≤ (v12008 39).toInt ∧ (v12008 39).toInt ≤ (v11994 30).toInt ∧ (v11994 38).toInt ≤ (v12008 38).toInt ∧ (v12008 38).toInt - (v11994 38).toInt ≤ (v12008 39).toInt - (v11994 39).toInt ∧ (v11994 41).toInt ≤ (v12008 41).toInt ∧ ((v12008 40).toInt < 0 → (v12008 41).toInt = (v11994 41).toInt)) ∧ keepL (v11994 37) (F11995 28) (F11995 29) (F12009 28) (F12009 29) ∧ ((v12008 40).toInt < 0 → dp (F12009 28) (F12009 29) (bI (v11994 37)) (v12008 38).toInt.toNat = some ((((d + 1) + 1) - 1) + 1)) := hw
            rw [show v11994 30 = v 30 from (hf11996 30 (by decide)).trans ((hf11979 30 (by decide)).trans ((hf11969 30 (by decide)).trans (hf11865 30 (by decide))))] at hw
            rw [show v11994 38 = v11977 38 from hf11996 38 (by decide)] at hw
            rw [show v11994 37 = v 37 from (hf11996 37 (by decide)).trans ((hf11979 37 (by decide)).trans ((hf11969 37 (by decide)).trans (hf11865 37 (by decide))))] at hw
            have hw_r12007 := hw
            clear hw
            have t12012 : 0 ≤ (v12008 38).toInt ∧ (v12008 38).toInt ≤ 120 := hI.1 38 _ _ rfl
            have t12013 : 0 ≤ (v12008 39).toInt ∧ (v12008 39).toInt ≤ 120 := hI.1 39 _ _ rfl
            have t12014 : 0 ≤ (v12008 41).toInt ∧ (v12008 41).toInt ≤ 8 := hI.1 41 _ _ rfl
            clear hz1
            generalize H1 = H at hP hS ⊢
            replace hk := hk.tr hw_r12007.2.1
            replace hd := hw_r12007.2.2
            replace hw_r12007 := hw_r12007.1
            refine lv_aload_n hx hb dX12_either_83 rfl (lv_at hl 1 rfl) ?_
            refine va_get (D := (dC, dI)) (ci := 12) (v := .int (v12008 40)) (C := RX12) (T := TX12) (N := 63) hx hb hwd inA_X12 hown hK hP 0 rfl rfl 40 (by decide) (hwd _ wk_1005) (fun _ h9 => h9) rfl dX12_either_84 ?_
            refine lv_if_lt (tgt := 91) hx hb dX12_either_87 (by decide) (fun c12015 => ?_) (fun c12015 => ?_)
            · skip
              have t12016 := cv_lt (a := (v12008 40).toInt) rfl (b := 0) (by decide) c12015
              refine lv_aload_n hx hb dX12_either_91 rfl (lv_at hl 1 rfl) ?_
              have t12017 : 0 ≤ (v 30).toInt ∧ (v 30).toInt ≤ 120 := by have h9 := hI.1 30 _ _ rfl; rw [show v12008 30 = v 30 from (hf12010 30 (by decide)).trans ((hf11996 30 (by decide)).trans ((hf11979 30 (by decide)).trans ((hf11969 30 (by decide)).trans (hf11865 30 (by decide)))))] at h9; exact h9
              have t12018 : 0 ≤ (v12008 39).toInt ∧ (v12008 39).toInt ≤ 120 := hI.1 39 _ _ rfl
              refine va_calli (va_runV (As := []) (rest := []) ⟨hx, hb, hml, hown, hwd⟩ (c_X12_look l dC dI g c adK adV v12008 F12009 rc H.size  hg hI ) (cwV 0 hwd (gV wk_1017 wk_1014 wk_1015 wk_1016 wk_5) rfl rfl rfl (by decide +kernel) ⟨(by show 1 + 1 ≤ fr + 7; omega), (by show 8 + (1 + 11) + (40) ≤ lc + 280; omega)⟩) ⟨PM.blind, va_recv hK hP (ci := 12) (q0 := 0) rfl rfl, fun U hU hW => ⟨rfl, PM.at hK hE hP hS hU hW⟩⟩ rfl rfl hl.1 rfl (lv_room (Nat.le_of_ble_eq_true rfl)) dX12_either_92 ⟨Nat.le_of_ble_eq_true rfl, Nat.le_of_ble_eq_true rfl⟩) hS (fun q _ h => (freeM hS) q h) (freeM hS) (fun r12019 u t H1 locs ht hvm hw hB hz1 hk1 hS => ?_)
              unfold BM at hB
              rw [ht] at hB
              have hP : va_P (dC, dI) classes (wM g c v12008 F12009 rc) H1 := hB
              replace hw : r12019.toInt = lkM (v12008 39) (v12008 30) (F12009 24) ∧ ((v12008 39).toInt < (v12008 30).toInt ∨ r12019.toInt = -1) := hw
              rw [show v12008 30 = v 30 from (hf12010 30 (by decide)).trans ((hf11996 30 (by decide)).trans ((hf11979 30 (by decide)).trans ((hf11969 30 (by decide)).trans (hf11865 30 (by decide)))))] at hw
              rw [hF 24 (by decide)] at hw
              have hw_r12019 := hw
              clear hw
              clear hz1
              generalize H1 = H at hP hS ⊢
              refine lv_bipush (v := 58) hx hb dX12_either_95 (by decide) ?_
              refine lv_icmp_eq (tgt := 105) hx hb dX12_either_97 (by decide) (fun c12020 => ?_) (fun c12020 => ?_)
              · skip
                have t12021 := cv_eq (a := r12019.toInt) rfl (b := 58) (by decide) c12020
                refine lv_aload_n hx hb dX12_either_105 rfl (lv_at hl 1 rfl) ?_
                refine lv_dup hx hb dX12_either_106 rfl ?_
                refine va_get (D := (dC, dI)) (ci := 12) (v := .int (v12008 39)) (C := RX12) (T := TX12) (N := 63) hx hb hwd inA_X12 hown hK hP 0 rfl rfl 39 (by decide) (hwd _ wk_1004) (fun _ h9 => h9) rfl dX12_either_107 ?_
                have t12022 : 0 ≤ (v12008 39).toInt ∧ (v12008 39).toInt ≤ 120 := hI.1 39 _ _ rfl
                refine lv_iconst (v := 1) hx hb dX12_either_110 (by decide) ?_
                refine lv_iadd hx hb dX12_either_111 ?_
                refine lv_topi (fun z12023 e12024 => ?_)
                try (have t12025 := tadd e12024 (a := (v12008 39).toInt) rfl (b := 1) (by decide) (by omega))
                refine va_put (D := (dC, dI)) (ci := 12) (v := .int z12023) (ty := .int) (C := RX12) (T := TX12) (N := 63) (fs := fsM_0 g v12008 rc) hx hb hwd inA_X12 tyX12 tyX12_ok nmX12 hown hK hP (DM hg) hS 0 rfl rfl 39 (by decide) (hwd _ wk_1004) (fun _ h9 => h9) rfl (by decide +kernel) rfl rfl (Nat.le_of_ble_eq_true rfl) dX12_either_112 (fun H locs hP _ hS => ?_)
                have hP := va_P_eq (pM_39 g c _ _ _ _) hP
                have hI := IM.put hI 39 z12023 rfl (by omega)
                refine lv_aload_n hx hb dX12_either_115 rfl (lv_at hl 1 rfl) ?_
                have t12026 : 0 ≤ (v 30).toInt ∧ (v 30).toInt ≤ 120 := by have h9 := hI.1 30 _ _ rfl; rw [show (va_up v12008 39 z12023) 30 = v 30 from (hf12010 30 (by decide)).trans ((hf11996 30 (by decide)).trans ((hf11979 30 (by decide)).trans ((hf11969 30 (by decide)).trans (hf11865 30 (by decide)))))] at h9; exact h9
                have t12027 : 0 ≤ (v 37).toInt ∧ (v 37).toInt ≤ 9 := by have h9 := hI.1 37 _ _ rfl; rw [show (va_up v12008 39 z12023) 37 = v 37 from (hf12010 37 (by decide)).trans ((hf11996 37 (by decide)).trans ((hf11979 37 (by decide)).trans ((hf11969 37 (by decide)).trans (hf11865 37 (by decide)))))] at h9; exact h9
                have t12028 : 0 ≤ (v12008 38).toInt ∧ (v12008 38).toInt ≤ 120 := hI.1 38 _ _ rfl
                have t12029 : 0 ≤ z12023.toInt ∧ z12023.toInt ≤ 120 := hI.1 39 _ _ rfl
                have t12030 : 0 ≤ (v12008 41).toInt ∧ (v12008 41).toInt ≤ 8 := hI.1 41 _ _ rfl
                refine va_callv (va_runV (As := []) (rest := []) ⟨hx, hb, hml, hown, hwd⟩ (rE l dC dI g c adK adV (va_up v12008 39 z12023) F12009 rc H.size  ((((d + 1) + 1) - 1) + 1) hg hI (by have h9 : (va_up v12008 39 z12023) 38 = v12008 38 := rfl; (try rw [h9]); clear h9; have h9 : (va_up v12008 39 z12023) 39 = z12023 := rfl; (try rw [h9]); clear h9; have h9 : (va_up v12008 39 z12023) 30 = v 30 := (hf12010 30 (by decide)).trans ((hf11996 30 (by decide)).trans ((hf11979 30 (by decide)).trans ((hf11969 30 (by decide)).trans (hf11865 30 (by decide))))); (try rw [h9]); clear h9; have h9 : (va_up v12008 39 z12023) 40 = v12008 40 := rfl; (try rw [h9]); clear h9; have h9 : (va_up v12008 39 z12023) 41 = v12008 41 := rfl; (try rw [h9]); clear h9; omega) (by have h9 : (va_up v12008 39 z12023) 37 = (v 37) := (hf12010 37 (by decide)).trans ((hf11996 37 (by decide)).trans ((hf11979 37 (by decide)).trans ((hf11969 37 (by decide)).trans (hf11865 37 (by decide))))); have h8 : (va_up v12008 39 z12023) 38 = (v12008 38) := rfl; (try rw [h9]); (try rw [h8]); exact hd (by omega))) (cwV 0 hwd (gV wk_1010 wk_1007 wk_1008 wk_1009 wk_5) rfl rfl rfl (by decide +kernel) ⟨(by show fr + 3 + 1 ≤ fr + 7; omega), (by show 8 + (2 + 11) + (lc + 120) ≤ lc + 280; omega)⟩) ⟨PM.blind, va_recv hK hP (ci := 12) (q0 := 0) rfl rfl, fun U hU hW => ⟨rfl, PM.at hK hE hP hS hU hW⟩⟩ rfl rfl hl.1 rfl (lv_room (Nat.le_of_ble_eq_true rfl)) dX12_either_116 ⟨Nat.le_of_ble_eq_true rfl, Nat.le_of_ble_eq_true rfl⟩) hS (fun q _ h => (freeM hS) q h) (freeM hS) (fun u t H1 locs ht hvm hw hB hz1 hk1 hS => ?_)
                unfold BM at hB
                rw [ht] at hB
                obtain ⟨v12032, F12033, rc9⟩ := u
                obtain ⟨hI, hrc, hf12034, hG12035, hw⟩ := hw
                dsimp only at hI hrc hB hf12034 hG12035 hw
                have hF := frCF (by decide) hG12035 hF
                rw [hrc] at hB
                have hP : va_P (dC, dI) classes (wM g c v12032 F12033 rc) H1 := hB
                replace hw : (z12023.toInt ≤ (v12032 39).toInt ∧ (v12032 39).toInt ≤ ((va_up v12008 39 z12023) 30).toInt ∧ (v12008 38).toInt ≤ (v12032 38).toInt ∧ (v12032 38).toInt - (v12008 38).toInt ≤ (v12032 39).toInt - z12023.toInt ∧ (v12008 41).toInt ≤ (v12032 41).toInt ∧ ((v12032 40).toInt < 0 → (v12032 41).toInt = (v12008 41).toInt)) ∧ keepL ((va_up v12008 39 z12023) 37) (F12009 28) (F12009 29) (F12033 28) (F12033 29) ∧ ((v12032 40).toInt < 0 → dp (F12033 28) (F12033 29) (bI ((va_up v12008 39 z12023) 37)) (v12032 38).toInt.toNat = some (((((d + 1) + 1) - 1) + 1) + 1)) := hw
                rw [show (va_up v12008 39 z12023) 30 = v 30 from (hf12010 30 (by decide)).trans ((hf11996 30 (by decide)).trans ((hf11979 30 (by decide)).trans ((hf11969 30 (by decide)).trans (hf11865 30 (by decide)))))] at hw
                rw [show (va_up v12008 39 z12023) 37 = v 37 from (hf12010 37 (by decide)).trans ((hf11996 37 (by decide)).trans ((hf11979 37 (by decide)).trans ((hf11969 37 (by decide)).trans (hf11865 37 (by decide)))))] at hw
                have hw_r12031 := hw
                clear hw
                have t12036 : 0 ≤ (v12032 38).toInt ∧ (v12032 38).toInt ≤ 120 := hI.1 38 _ _ rfl
                have t12037 : 0 ≤ (v12032 39).toInt ∧ (v12032 39).toInt ≤ 120 := hI.1 39 _ _ rfl
                have t12038 : 0 ≤ (v12032 41).toInt ∧ (v12032 41).toInt ≤ 8 := hI.1 41 _ _ rfl
                clear hz1
                generalize H1 = H at hP hS ⊢
                replace hk := hk.tr hw_r12031.2.1
                replace hd := hw_r12031.2.2
                replace hw_r12031 := hw_r12031.1
                refine lv_aload_n hx hb dX12_either_119 rfl (lv_at hl 1 rfl) ?_
                refine lv_iconst (v := 4) hx hb dX12_either_120 (by decide) ?_
                refine lv_iconst (v := 0) hx hb dX12_either_121 (by decide) ?_
                have t12039 : 0 ≤ (v 37).toInt ∧ (v 37).toInt ≤ 9 := by have h9 := hI.1 37 _ _ rfl; rw [show v12032 37 = v 37 from (hf12034 37 (by decide)).trans ((hf12010 37 (by decide)).trans ((hf11996 37 (by decide)).trans ((hf11979 37 (by decide)).trans ((hf11969 37 (by decide)).trans (hf11865 37 (by decide))))))] at h9; exact h9
                have t12040 : 0 ≤ (v12032 38).toInt ∧ (v12032 38).toInt ≤ 120 := hI.1 38 _ _ rfl
                refine va_callv (va_runV (As := [.int 4, .int 0]) (rest := []) ⟨hx, hb, hml, hown, hwd⟩ (c_X12_lay l dC dI g c adK adV v12032 F12033 rc H.size 4 0 hg hI (by have h9 : v12032 38 = v12032 38 := rfl; rw [h9]; omega)) (cwV 2 hwd (gV wk_1021 wk_1018 wk_1019 wk_1020 wk_5) rfl rfl rfl (by decide +kernel) ⟨(by show 1 + 1 ≤ fr + 7; omega), (by show 8 + (3 + 11) + (40) ≤ lc + 280; omega)⟩) ⟨PM.blind, va_recv hK hP (ci := 12) (q0 := 0) rfl rfl, fun U hU hW => ⟨rfl, PM.at hK hE hP hS hU hW⟩⟩ rfl rfl hl.1 rfl (lv_room (Nat.le_of_ble_eq_true rfl)) dX12_either_122 ⟨Nat.le_of_ble_eq_true rfl, Nat.le_of_ble_eq_true rfl⟩) hS (fun q _ h => (freeM hS) q h) (freeM hS) (fun u t H1 locs ht hvm hw hB hz1 hk1 hS => ?_)
                unfold BM at hB
                rw [ht] at hB
                obtain ⟨v12042, F12043, rc9⟩ := u
                obtain ⟨hI, hrc, hf12044, hG12045, hw⟩ := hw
                dsimp only at hI hrc hB hf12044 hG12045 hw
                have hF := frCF (by decide) hG12045 hF
                rw [hrc] at hB
                have hP : va_P (dC, dI) classes (wM g c v12042 F12043 rc) H1 := hB
                replace hw : (v12042 38).toInt = (v12032 38).toInt + 1 ∧ keepL (v12032 37) (F12033 28) (F12033 29) (F12043 28) (F12043 29) ∧ dp (F12043 28) (F12043 29) (bI (v12032 37)) ((v12032 38).toInt.toNat + 1) = dpS (dp (F12033 28) (F12033 29) (bI (v12032 37)) (v12032 38).toInt.toNat) (4 : Int32) (0 : Int32) := hw
                rw [show v12032 37 = v 37 from (hf12034 37 (by decide)).trans ((hf12010 37 (by decide)).trans ((hf11996 37 (by decide)).trans ((hf11979 37 (by decide)).trans ((hf11969 37 (by decide)).trans (hf11865 37 (by decide))))))] at hw
                have hw_r12041 := hw
                clear hw
                have t12046 : 0 ≤ (v12042 38).toInt ∧ (v12042 38).toInt ≤ 120 := hI.1 38 _ _ rfl
                have k12047 : (4 : Int32).toInt = 4 := by decide
                have k12048 : (0 : Int32).toInt = 0 := by decide
                clear hz1
                generalize H1 = H at hP hS ⊢
                replace hk := hk.tr hw_r12041.2.1
                replace hd : (v12032 40).toInt < 0 → dp (F12043 28) (F12043 29) (bI (v 37)) (v12042 38).toInt.toNat = some ((((((d + 1) + 1) - 1) + 1) + 1) - 2) := fun hf => (by have e9 : (v12042 38).toInt.toNat = (v12032 38).toInt.toNat + 1 := (by omega); rw [e9, hw_r12041.2.2, hd hf]; exact dpS_4 (by decide) (by omega))
                replace hw_r12041 := hw_r12041.1
                refine lv_aload_n hx hb dX12_either_125 rfl (lv_at hl 1 rfl) ?_
                refine lv_dup hx hb dX12_either_126 rfl ?_
                refine va_get (D := (dC, dI)) (ci := 12) (v := .int (v12042 41)) (C := RX12) (T := TX12) (N := 63) hx hb hwd inA_X12 hown hK hP 0 rfl rfl 41 (by decide) (hwd _ wk_1006) (fun _ h9 => h9) rfl dX12_either_127 ?_
                refine my_top (v := v12032 41) (hf12044 41 (by decide)) ?_
                have t12049 : 0 ≤ (v12032 41).toInt ∧ (v12032 41).toInt ≤ 8 := by have h9 := hI.1 41 _ _ rfl; rw [show v12042 41 = v12032 41 from hf12044 41 (by decide)] at h9; exact h9
                refine lv_iconst (v := 1) hx hb dX12_either_130 (by decide) ?_
                refine lv_isub hx hb dX12_either_131 ?_
                refine lv_topi (fun z12050 e12051 => ?_)
                try (have t12052 := tsub e12051 (a := (v12032 41).toInt) rfl (b := 1) (by decide) (by omega))
                refine va_put (D := (dC, dI)) (ci := 12) (v := .int z12050) (ty := .int) (C := RX12) (T := TX12) (N := 63) (fs := fsM_0 g v12042 rc) hx hb hwd inA_X12 tyX12 tyX12_ok nmX12 hown hK hP (DM hg) hS 0 rfl rfl 41 (by decide) (hwd _ wk_1006) (fun _ h9 => h9) rfl (by decide +kernel) rfl rfl (Nat.le_of_ble_eq_true rfl) dX12_either_132 (fun H locs hP _ hS => ?_)
                have hP := va_P_eq (pM_41 g c _ _ _ _) hP
                have hI := IM.put hI 41 z12050 rfl (by omega)
                have hP9 : va_P (dC, dI) classes (wM g c (va_up v12042 41 z12050) F12043 rc) H := hP
                exact W.vret hx hb hr (fun t ht hW => ⟨⟨((va_up v12042 41 z12050), F12043, rc), rfl, ⟨hI, rfl, (frU (by decide) (frC (by decide) hf12044 (frC (by decide) hf12034 (frU (by decide) (frC (by decide) hf12010 (frC (by decide) hf11996 (frC (by decide) hf11979 (frC (by decide) hf11969 (frU (by decide) (frC (by decide) hf11865 (fun _ _ => rfl))))))))))), hF, (by show ((v 39).toInt ≤ ((va_up v12042 41 z12050) 39).toInt ∧ ((va_up v12042 41 z12050) 39).toInt ≤ (v 30).toInt ∧ (v 38).toInt ≤ (v12042 38).toInt ∧ (v12042 38).toInt - (v 38).toInt ≤ ((va_up v12042 41 z12050) 39).toInt - (v 39).toInt ∧ (v 41).toInt ≤ z12050.toInt ∧ (((va_up v12042 41 z12050) 40).toInt < 0 → z12050.toInt = (v 41).toInt)) ∧ keepL (v 37) (F 28) (F 29) (F12043 28) (F12043 29) ∧ (((va_up v12042 41 z12050) 40).toInt < 0 → dp (F12043 28) (F12043 29) (bI (v 37)) (v12042 38).toInt.toNat = some (d + 1)); rw [show (va_up v12042 41 z12050) 39 = v12032 39 from hf12044 39 (by decide)]; rw [show (va_up v12042 41 z12050) 40 = v12032 40 from hf12044 40 (by decide)]; exact ⟨by omega, hk, fun hf => (hd (by omega)).trans (congrArg some (by omega))⟩)⟩, (by show va_P _ _ _ t.heap; rw [ht]; exact hP9)⟩, hS.F ht⟩) hS.2.2 dX12_either_135
              · skip
                have t12053 := cv_ne (a := r12019.toInt) rfl (b := 58) (by decide) c12020
                refine lv_aload_n hx hb dX12_either_100 rfl (lv_at hl 1 rfl) ?_
                refine va_callv (va_runV (As := []) (rest := []) ⟨hx, hb, hml, hown, hwd⟩ (c_X12_wrong l dC dI g c adK adV v12008 F12009 rc H.size  hg hI ) (cwV 0 hwd (gV wk_1029 wk_1026 wk_1027 wk_1028 wk_5) rfl rfl rfl (by decide +kernel) ⟨(by show 1 + 1 ≤ fr + 7; omega), (by show 8 + (1 + 11) + (40) ≤ lc + 280; omega)⟩) ⟨PM.blind, va_recv hK hP (ci := 12) (q0 := 0) rfl rfl, fun U hU hW => ⟨rfl, PM.at hK hE hP hS hU hW⟩⟩ rfl rfl hl.1 rfl (lv_room (Nat.le_of_ble_eq_true rfl)) dX12_either_101 ⟨Nat.le_of_ble_eq_true rfl, Nat.le_of_ble_eq_true rfl⟩) hS (fun q _ h => (freeM hS) q h) (freeM hS) (fun u t H1 locs ht hvm hw hB hz1 hk1 hS => ?_)
                unfold BM at hB
                rw [ht] at hB
                obtain ⟨v12055, F12056, rc9⟩ := u
                obtain ⟨hI, hrc, hf12057, hG12058, hw⟩ := hw
                dsimp only at hI hrc hB hf12057 hG12058 hw
                have hF := frCF (by decide) hG12058 hF
                rw [hrc] at hB
                have hP : va_P (dC, dI) classes (wM g c v12055 F12056 rc) H1 := hB
                replace hw : 0 ≤ (v12055 40).toInt := hw
                have hw_r12054 := hw
                clear hw
                clear hz1
                generalize H1 = H at hP hS ⊢
                replace hk : keepL (v 37) (F 28) (F 29) (F12056 28) (F12056 29) := by rw [hG12058 28 (by decide), hG12058 29 (by decide)]; exact hk
                replace hd : (v12055 40).toInt < 0 → dp (F12056 28) (F12056 29) (bI (v 37)) (v12008 38).toInt.toNat = some ((((d + 1) + 1) - 1) + 1) := fun hf => (by rw [hG12058 28 (by decide), hG12058 29 (by decide)]; exact hd (by omega))
                have hP9 : va_P (dC, dI) classes (wM g c v12055 F12056 rc) H := hP
                exact W.vret hx hb hr (fun t ht hW => ⟨⟨(v12055, F12056, rc), rfl, ⟨hI, rfl, (frC (by decide) hf12057 (frC (by decide) hf12010 (frC (by decide) hf11996 (frC (by decide) hf11979 (frC (by decide) hf11969 (frU (by decide) (frC (by decide) hf11865 (fun _ _ => rfl)))))))), hF, (by show ((v 39).toInt ≤ (v12055 39).toInt ∧ (v12055 39).toInt ≤ (v 30).toInt ∧ (v 38).toInt ≤ (v12055 38).toInt ∧ (v12055 38).toInt - (v 38).toInt ≤ (v12055 39).toInt - (v 39).toInt ∧ (v 41).toInt ≤ (v12055 41).toInt ∧ ((v12055 40).toInt < 0 → (v12055 41).toInt = (v 41).toInt)) ∧ keepL (v 37) (F 28) (F 29) (F12056 28) (F12056 29) ∧ ((v12055 40).toInt < 0 → dp (F12056 28) (F12056 29) (bI (v 37)) (v12055 38).toInt.toNat = some (d + 1)); rw [show v12055 39 = v12008 39 from hf12057 39 (by decide)]; rw [show v12055 38 = v12008 38 from hf12057 38 (by decide)]; rw [show v12055 41 = v12008 41 from hf12057 41 (by decide)]; exact ⟨by omega, hk, fun hf => (hd (by omega)).trans (congrArg some (by omega))⟩)⟩, (by show va_P _ _ _ t.heap; rw [ht]; exact hP9)⟩, hS.F ht⟩) hS.2.2 dX12_either_104
            · skip
              have t12059 := cv_nlt (a := (v12008 40).toInt) rfl (b := 0) (by decide) c12015
              have hP9 : va_P (dC, dI) classes (wM g c v12008 F12009 rc) H := hP
              exact W.vret hx hb hr (fun t ht hW => ⟨⟨(v12008, F12009, rc), rfl, ⟨hI, rfl, (frC (by decide) hf12010 (frC (by decide) hf11996 (frC (by decide) hf11979 (frC (by decide) hf11969 (frU (by decide) (frC (by decide) hf11865 (fun _ _ => rfl))))))), hF, (by show ((v 39).toInt ≤ (v12008 39).toInt ∧ (v12008 39).toInt ≤ (v 30).toInt ∧ (v 38).toInt ≤ (v12008 38).toInt ∧ (v12008 38).toInt - (v 38).toInt ≤ (v12008 39).toInt - (v 39).toInt ∧ (v 41).toInt ≤ (v12008 41).toInt ∧ ((v12008 40).toInt < 0 → (v12008 41).toInt = (v 41).toInt)) ∧ keepL (v 37) (F 28) (F 29) (F12009 28) (F12009 29) ∧ ((v12008 40).toInt < 0 → dp (F12009 28) (F12009 29) (bI (v 37)) (v12008 38).toInt.toNat = some (d + 1)); exact ⟨by omega, hk, fun hf => (hd (by omega)).trans (congrArg some (by omega))⟩)⟩, (by show va_P _ _ _ t.heap; rw [ht]; exact hP9)⟩, hS.F ht⟩) hS.2.2 dX12_either_90
          · skip
            have t12060 := cv_eq (a := r11993.toInt) rfl (b := 0) (by decide) c12000
            have hP9 : va_P (dC, dI) classes (wM g c v11994 F11995 rc) H := hP
            exact W.vret hx hb hr (fun t ht hW => ⟨⟨(v11994, F11995, rc), rfl, ⟨hI, rfl, (frC (by decide) hf11996 (frC (by decide) hf11979 (frC (by decide) hf11969 (frU (by decide) (frC (by decide) hf11865 (fun _ _ => rfl)))))), hF, (by show ((v 39).toInt ≤ (v11994 39).toInt ∧ (v11994 39).toInt ≤ (v 30).toInt ∧ (v 38).toInt ≤ (v11994 38).toInt ∧ (v11994 38).toInt - (v 38).toInt ≤ (v11994 39).toInt - (v 39).toInt ∧ (v 41).toInt ≤ (v11994 41).toInt ∧ ((v11994 40).toInt < 0 → (v11994 41).toInt = (v 41).toInt)) ∧ keepL (v 37) (F 28) (F 29) (F11995 28) (F11995 29) ∧ ((v11994 40).toInt < 0 → dp (F11995 28) (F11995 29) (bI (v 37)) (v11994 38).toInt.toNat = some (d + 1)); rw [show v11994 38 = v11977 38 from hf11996 38 (by decide)]; exact ⟨by omega, hk, fun hf => (hd (by omega)).trans (congrArg some (by omega))⟩)⟩, (by show va_P _ _ _ t.heap; rw [ht]; exact hP9)⟩, hS.F ht⟩) hS.2.2 dX12_either_78
        · skip
          have t12061 := cv_ne (a := r11988.toInt) rfl (b := 63) (by decide) c11989
          have hP9 : va_P (dC, dI) classes (wM g c v11977 F11978 rc) H := hP
          exact W.vret hx hb hr (fun t ht hW => ⟨⟨(v11977, F11978, rc), rfl, ⟨hI, rfl, (frC (by decide) hf11979 (frC (by decide) hf11969 (frU (by decide) (frC (by decide) hf11865 (fun _ _ => rfl))))), hF, (by show ((v 39).toInt ≤ (v11977 39).toInt ∧ (v11977 39).toInt ≤ (v 30).toInt ∧ (v 38).toInt ≤ (v11977 38).toInt ∧ (v11977 38).toInt - (v 38).toInt ≤ (v11977 39).toInt - (v 39).toInt ∧ (v 41).toInt ≤ (v11977 41).toInt ∧ ((v11977 40).toInt < 0 → (v11977 41).toInt = (v 41).toInt)) ∧ keepL (v 37) (F 28) (F 29) (F11978 28) (F11978 29) ∧ ((v11977 40).toInt < 0 → dp (F11978 28) (F11978 29) (bI (v 37)) (v11977 38).toInt.toNat = some (d + 1)); rw [show v11977 39 = v11967 39 from hf11979 39 (by decide)]; rw [show v11977 41 = v11967 41 from hf11979 41 (by decide)]; rw [show v11977 40 = v11967 40 from hf11979 40 (by decide)]; exact ⟨by omega, hk, fun hf => (hd (by omega)).trans (congrArg some (by omega))⟩)⟩, (by show va_P _ _ _ t.heap; rw [ht]; exact hP9)⟩, hS.F ht⟩) hS.2.2 dX12_either_70
    · skip
      have t12062 := cv_ne (a := r11872.toInt) rfl (b := 60) (by decide) c11955
      refine lv_iload_n hx hb dX12_either_22 rfl (lv_at hl 0 rfl) ?_
      refine lv_bipush (v := 61) hx hb dX12_either_23 (by decide) ?_
      refine lv_icmp_eq (tgt := 34) hx hb dX12_either_25 (by decide) (fun c12063 => ?_) (fun c12063 => ?_)
      · skip
        have t12064 := cv_eq (a := r11872.toInt) rfl (b := 61) (by decide) c12063
        refine lv_aload_n hx hb dX12_either_34 rfl (lv_at hl 1 rfl) ?_
        refine lv_dup hx hb dX12_either_35 rfl ?_
        refine va_get (D := (dC, dI)) (ci := 12) (v := .int (v11863 39)) (C := RX12) (T := TX12) (N := 63) hx hb hwd inA_X12 hown hK hP 0 rfl rfl 39 (by decide) (hwd _ wk_1004) (fun _ h9 => h9) rfl dX12_either_36 ?_
        have t12065 : 0 ≤ (v11863 39).toInt ∧ (v11863 39).toInt ≤ 120 := hI.1 39 _ _ rfl
        refine lv_iconst (v := 1) hx hb dX12_either_39 (by decide) ?_
        refine lv_iadd hx hb dX12_either_40 ?_
        refine lv_topi (fun z12066 e12067 => ?_)
        try (have t12068 := tadd e12067 (a := (v11863 39).toInt) rfl (b := 1) (by decide) (by omega))
        refine va_put (D := (dC, dI)) (ci := 12) (v := .int z12066) (ty := .int) (C := RX12) (T := TX12) (N := 63) (fs := fsM_0 g v11863 rc) hx hb hwd inA_X12 tyX12 tyX12_ok nmX12 hown hK hP (DM hg) hS 0 rfl rfl 39 (by decide) (hwd _ wk_1004) (fun _ h9 => h9) rfl (by decide +kernel) rfl rfl (Nat.le_of_ble_eq_true rfl) dX12_either_41 (fun H locs hP _ hS => ?_)
        have hP := va_P_eq (pM_39 g c _ _ _ _) hP
        have hI := IM.put hI 39 z12066 rfl (by omega)
        refine lv_aload_n hx hb dX12_either_44 rfl (lv_at hl 1 rfl) ?_
        have t12069 : 0 ≤ (v 30).toInt ∧ (v 30).toInt ≤ 120 := by have h9 := hI.1 30 _ _ rfl; rw [show (va_up v11863 39 z12066) 30 = v 30 from hf11865 30 (by decide)] at h9; exact h9
        have t12070 : 0 ≤ (v 37).toInt ∧ (v 37).toInt ≤ 9 := by have h9 := hI.1 37 _ _ rfl; rw [show (va_up v11863 39 z12066) 37 = v 37 from hf11865 37 (by decide)] at h9; exact h9
        have t12071 : 0 ≤ (v11863 38).toInt ∧ (v11863 38).toInt ≤ 120 := hI.1 38 _ _ rfl
        have t12072 : 0 ≤ z12066.toInt ∧ z12066.toInt ≤ 120 := hI.1 39 _ _ rfl
        have t12073 : 0 ≤ (v11863 41).toInt ∧ (v11863 41).toInt ≤ 8 := hI.1 41 _ _ rfl
        refine va_callv (va_runV (As := []) (rest := []) ⟨hx, hb, hml, hown, hwd⟩ (c_X12_sum D fr lc rO rE l dC dI g c adK adV (va_up v11863 39 z12066) F11864 rc H.size  (d + 1) hg hI (by have h9 : (va_up v11863 39 z12066) 38 = v11863 38 := rfl; (try rw [h9]); clear h9; have h9 : (va_up v11863 39 z12066) 39 = z12066 := rfl; (try rw [h9]); clear h9; have h9 : (va_up v11863 39 z12066) 30 = v 30 := hf11865 30 (by decide); (try rw [h9]); clear h9; have h9 : (va_up v11863 39 z12066) 40 = v11863 40 := rfl; (try rw [h9]); clear h9; have h9 : (va_up v11863 39 z12066) 41 = v11863 41 := rfl; (try rw [h9]); clear h9; omega) (by have h9 : (va_up v11863 39 z12066) 37 = (v 37) := hf11865 37 (by decide); have h8 : (va_up v11863 39 z12066) 38 = (v11863 38) := rfl; (try rw [h9]); (try rw [h8]); exact hd (by omega))) (cwV 0 hwd (gV wk_1043 wk_1011 wk_1012 wk_1013 wk_5) rfl rfl rfl (by decide +kernel) ⟨(by show fr + 6 + 1 ≤ fr + 7; omega), (by show 8 + (2 + 11) + (lc + 240) ≤ lc + 280; omega)⟩) ⟨PM.blind, va_recv hK hP (ci := 12) (q0 := 0) rfl rfl, fun U hU hW => ⟨rfl, PM.at hK hE hP hS hU hW⟩⟩ rfl rfl hl.1 rfl (lv_room (Nat.le_of_ble_eq_true rfl)) dX12_either_45 ⟨Nat.le_of_ble_eq_true rfl, Nat.le_of_ble_eq_true rfl⟩) hS (fun q _ h => (freeM hS) q h) (freeM hS) (fun u t H1 locs ht hvm hw hB hz1 hk1 hS => ?_)
        unfold BM at hB
        rw [ht] at hB
        obtain ⟨v12075, F12076, rc9⟩ := u
        obtain ⟨hI, hrc, hf12077, hG12078, hw⟩ := hw
        dsimp only at hI hrc hB hf12077 hG12078 hw
        have hF := frCF (by decide) hG12078 hF
        rw [hrc] at hB
        have hP : va_P (dC, dI) classes (wM g c v12075 F12076 rc) H1 := hB
        replace hw : (z12066.toInt ≤ (v12075 39).toInt ∧ (v12075 39).toInt ≤ ((va_up v11863 39 z12066) 30).toInt ∧ (v11863 38).toInt ≤ (v12075 38).toInt ∧ (v12075 38).toInt - (v11863 38).toInt ≤ (v12075 39).toInt - z12066.toInt ∧ (v11863 41).toInt ≤ (v12075 41).toInt ∧ ((v12075 40).toInt < 0 → (v12075 41).toInt = (v11863 41).toInt)) ∧ keepL ((va_up v11863 39 z12066) 37) (F11864 28) (F11864 29) (F12076 28) (F12076 29) ∧ ((v12075 40).toInt < 0 → dp (F12076 28) (F12076 29) (bI ((va_up v11863 39 z12066) 37)) (v12075 38).toInt.toNat = some ((d + 1) + 1)) := hw
        rw [show (va_up v11863 39 z12066) 30 = v 30 from hf11865 30 (by decide)] at hw
        rw [show (va_up v11863 39 z12066) 37 = v 37 from hf11865 37 (by decide)] at hw
        have hw_r12074 := hw
        clear hw
        have t12079 : 0 ≤ (v12075 38).toInt ∧ (v12075 38).toInt ≤ 120 := hI.1 38 _ _ rfl
        have t12080 : 0 ≤ (v12075 39).toInt ∧ (v12075 39).toInt ≤ 120 := hI.1 39 _ _ rfl
        have t12081 : 0 ≤ (v12075 41).toInt ∧ (v12075 41).toInt ≤ 8 := hI.1 41 _ _ rfl
        clear hz1
        generalize H1 = H at hP hS ⊢
        replace hk := hk.tr hw_r12074.2.1
        replace hd := hw_r12074.2.2
        replace hw_r12074 := hw_r12074.1
        refine lv_aload_n hx hb dX12_either_48 rfl (lv_at hl 1 rfl) ?_
        refine lv_iload_n hx hb dX12_either_49 rfl (lv_at hl 0 rfl) ?_
        refine lv_iconst (v := 0) hx hb dX12_either_50 (by decide) ?_
        have t12082 : 0 ≤ (v 37).toInt ∧ (v 37).toInt ≤ 9 := by have h9 := hI.1 37 _ _ rfl; rw [show v12075 37 = v 37 from (hf12077 37 (by decide)).trans (hf11865 37 (by decide))] at h9; exact h9
        have t12083 : 0 ≤ (v12075 38).toInt ∧ (v12075 38).toInt ≤ 120 := hI.1 38 _ _ rfl
        refine va_callv (va_runV (As := [.int r11872, .int 0]) (rest := []) ⟨hx, hb, hml, hown, hwd⟩ (c_X12_lay l dC dI g c adK adV v12075 F12076 rc H.size r11872 0 hg hI (by have h9 : v12075 38 = v12075 38 := rfl; rw [h9]; omega)) (cwV 2 hwd (gV wk_1021 wk_1018 wk_1019 wk_1020 wk_5) rfl rfl rfl (by decide +kernel) ⟨(by show 1 + 1 ≤ fr + 7; omega), (by show 8 + (3 + 11) + (40) ≤ lc + 280; omega)⟩) ⟨PM.blind, va_recv hK hP (ci := 12) (q0 := 0) rfl rfl, fun U hU hW => ⟨rfl, PM.at hK hE hP hS hU hW⟩⟩ rfl rfl hl.1 rfl (lv_room (Nat.le_of_ble_eq_true rfl)) dX12_either_51 ⟨Nat.le_of_ble_eq_true rfl, Nat.le_of_ble_eq_true rfl⟩) hS (fun q _ h => (freeM hS) q h) (freeM hS) (fun u t H1 locs ht hvm hw hB hz1 hk1 hS => ?_)
        unfold BM at hB
        rw [ht] at hB
        obtain ⟨v12085, F12086, rc9⟩ := u
        obtain ⟨hI, hrc, hf12087, hG12088, hw⟩ := hw
        dsimp only at hI hrc hB hf12087 hG12088 hw
        have hF := frCF (by decide) hG12088 hF
        rw [hrc] at hB
        have hP : va_P (dC, dI) classes (wM g c v12085 F12086 rc) H1 := hB
        replace hw : (v12085 38).toInt = (v12075 38).toInt + 1 ∧ keepL (v12075 37) (F12076 28) (F12076 29) (F12086 28) (F12086 29) ∧ dp (F12086 28) (F12086 29) (bI (v12075 37)) ((v12075 38).toInt.toNat + 1) = dpS (dp (F12076 28) (F12076 29) (bI (v12075 37)) (v12075 38).toInt.toNat) r11872 (0 : Int32) := hw
        rw [show v12075 37 = v 37 from (hf12077 37 (by decide)).trans (hf11865 37 (by decide))] at hw
        have hw_r12084 := hw
        clear hw
        have t12089 : 0 ≤ (v12085 38).toInt ∧ (v12085 38).toInt ≤ 120 := hI.1 38 _ _ rfl
        have k12090 : (0 : Int32).toInt = 0 := by decide
        clear hz1
        generalize H1 = H at hP hS ⊢
        replace hk := hk.tr hw_r12084.2.1
        replace hd : (v12075 40).toInt < 0 → dp (F12086 28) (F12086 29) (bI (v 37)) (v12085 38).toInt.toNat = some (((d + 1) + 1) - 1) := fun hf => (by have e9 : (v12085 38).toInt.toNat = (v12075 38).toInt.toNat + 1 := (by omega); rw [e9, hw_r12084.2.2, hd hf]; exact dpS_5 (by omega) (by omega) (by omega) (by omega) (by omega))
        replace hw_r12084 := hw_r12084.1
        refine lv_aload_n hx hb dX12_either_54 rfl (lv_at hl 1 rfl) ?_
        refine va_get (D := (dC, dI)) (ci := 12) (v := .int (v12085 40)) (C := RX12) (T := TX12) (N := 63) hx hb hwd inA_X12 hown hK hP 0 rfl rfl 40 (by decide) (hwd _ wk_1005) (fun _ h9 => h9) rfl dX12_either_55 ?_
        refine my_top (v := v12075 40) (hf12087 40 (by decide)) ?_
        refine lv_if_ge (tgt := 70) hx hb dX12_either_58 (by decide) (fun c12091 => ?_) (fun c12091 => ?_)
        · skip
          have t12092 := cv_le (a := 0) (by decide) (b := (v12075 40).toInt) rfl c12091
          have hP9 : va_P (dC, dI) classes (wM g c v12085 F12086 rc) H := hP
          exact W.vret hx hb hr (fun t ht hW => ⟨⟨(v12085, F12086, rc), rfl, ⟨hI, rfl, (frC (by decide) hf12087 (frC (by decide) hf12077 (frU (by decide) (frC (by decide) hf11865 (fun _ _ => rfl))))), hF, (by show ((v 39).toInt ≤ (v12085 39).toInt ∧ (v12085 39).toInt ≤ (v 30).toInt ∧ (v 38).toInt ≤ (v12085 38).toInt ∧ (v12085 38).toInt - (v 38).toInt ≤ (v12085 39).toInt - (v 39).toInt ∧ (v 41).toInt ≤ (v12085 41).toInt ∧ ((v12085 40).toInt < 0 → (v12085 41).toInt = (v 41).toInt)) ∧ keepL (v 37) (F 28) (F 29) (F12086 28) (F12086 29) ∧ ((v12085 40).toInt < 0 → dp (F12086 28) (F12086 29) (bI (v 37)) (v12085 38).toInt.toNat = some (d + 1)); rw [show v12085 39 = v12075 39 from hf12087 39 (by decide)]; rw [show v12085 41 = v12075 41 from hf12087 41 (by decide)]; rw [show v12085 40 = v12075 40 from hf12087 40 (by decide)]; exact ⟨by omega, hk, fun hf => (hd (by omega)).trans (congrArg some (by omega))⟩)⟩, (by show va_P _ _ _ t.heap; rw [ht]; exact hP9)⟩, hS.F ht⟩) hS.2.2 dX12_either_70
        · skip
          have t12093 := cv_nle (a := 0) (by decide) (b := (v12075 40).toInt) rfl c12091
          refine lv_aload_n hx hb dX12_either_61 rfl (lv_at hl 1 rfl) ?_
          have t12094 : 0 ≤ (v 30).toInt ∧ (v 30).toInt ≤ 120 := by have h9 := hI.1 30 _ _ rfl; rw [show v12085 30 = v 30 from (hf12087 30 (by decide)).trans ((hf12077 30 (by decide)).trans (hf11865 30 (by decide)))] at h9; exact h9
          have t12095 : 0 ≤ (v12075 39).toInt ∧ (v12075 39).toInt ≤ 120 := by have h9 := hI.1 39 _ _ rfl; rw [show v12085 39 = v12075 39 from hf12087 39 (by decide)] at h9; exact h9
          refine va_calli (va_runV (As := []) (rest := []) ⟨hx, hb, hml, hown, hwd⟩ (c_X12_look l dC dI g c adK adV v12085 F12086 rc H.size  hg hI ) (cwV 0 hwd (gV wk_1017 wk_1014 wk_1015 wk_1016 wk_5) rfl rfl rfl (by decide +kernel) ⟨(by show 1 + 1 ≤ fr + 7; omega), (by show 8 + (1 + 11) + (40) ≤ lc + 280; omega)⟩) ⟨PM.blind, va_recv hK hP (ci := 12) (q0 := 0) rfl rfl, fun U hU hW => ⟨rfl, PM.at hK hE hP hS hU hW⟩⟩ rfl rfl hl.1 rfl (lv_room (Nat.le_of_ble_eq_true rfl)) dX12_either_62 ⟨Nat.le_of_ble_eq_true rfl, Nat.le_of_ble_eq_true rfl⟩) hS (fun q _ h => (freeM hS) q h) (freeM hS) (fun r12096 u t H1 locs ht hvm hw hB hz1 hk1 hS => ?_)
          unfold BM at hB
          rw [ht] at hB
          have hP : va_P (dC, dI) classes (wM g c v12085 F12086 rc) H1 := hB
          replace hw : r12096.toInt = lkM (v12085 39) (v12085 30) (F12086 24) ∧ ((v12085 39).toInt < (v12085 30).toInt ∨ r12096.toInt = -1) := hw
          rw [show v12085 39 = v12075 39 from hf12087 39 (by decide)] at hw
          rw [show v12085 30 = v 30 from (hf12087 30 (by decide)).trans ((hf12077 30 (by decide)).trans (hf11865 30 (by decide)))] at hw
          rw [hF 24 (by decide)] at hw
          have hw_r12096 := hw
          clear hw
          clear hz1
          generalize H1 = H at hP hS ⊢
          refine lv_bipush (v := 63) hx hb dX12_either_65 (by decide) ?_
          refine lv_icmp_eq (tgt := 71) hx hb dX12_either_67 (by decide) (fun c12097 => ?_) (fun c12097 => ?_)
          · skip
            have t12098 := cv_eq (a := r12096.toInt) rfl (b := 63) (by decide) c12097
            refine lv_aload_n hx hb dX12_either_71 rfl (lv_at hl 1 rfl) ?_
            have t12099 : 0 ≤ (v12075 39).toInt ∧ (v12075 39).toInt ≤ 120 := by have h9 := hI.1 39 _ _ rfl; rw [show v12085 39 = v12075 39 from hf12087 39 (by decide)] at h9; exact h9
            have t12100 : 0 ≤ (v12075 41).toInt ∧ (v12075 41).toInt ≤ 8 := by have h9 := hI.1 41 _ _ rfl; rw [show v12085 41 = v12075 41 from hf12087 41 (by decide)] at h9; exact h9
            refine va_calli (va_runV (As := []) (rest := []) ⟨hx, hb, hml, hown, hwd⟩ (c_X12_opens l dC dI g c adK adV v12085 F12086 rc H.size  hg hI (by have h9 : v12085 39 = v12075 39 := hf12087 39 (by decide); (try rw [h9]); clear h9; have h9 : v12085 30 = v 30 := (hf12087 30 (by decide)).trans ((hf12077 30 (by decide)).trans (hf11865 30 (by decide))); (try rw [h9]); clear h9; omega)) (cwV 0 hwd (gV wk_1025 wk_1022 wk_1023 wk_1024 wk_5) rfl rfl rfl (by decide +kernel) ⟨(by show 2 + 1 ≤ fr + 7; omega), (by show 8 + (1 + 11) + (80) ≤ lc + 280; omega)⟩) ⟨PM.blind, va_recv hK hP (ci := 12) (q0 := 0) rfl rfl, fun U hU hW => ⟨rfl, PM.at hK hE hP hS hU hW⟩⟩ rfl rfl hl.1 rfl (lv_room (Nat.le_of_ble_eq_true rfl)) dX12_either_72 ⟨Nat.le_of_ble_eq_true rfl, Nat.le_of_ble_eq_true rfl⟩) hS (fun q _ h => (freeM hS) q h) (freeM hS) (fun r12101 u t H1 locs ht hvm hw hB hz1 hk1 hS => ?_)
            unfold BM at hB
            rw [ht] at hB
            obtain ⟨v12102, F12103, rc9⟩ := u
            obtain ⟨hI, hrc, hf12104, hG12105, hw⟩ := hw
            dsimp only at hI hrc hB hf12104 hG12105 hw
            have hF := frCF (by decide) hG12105 hF
            rw [hrc] at hB
            have hP : va_P (dC, dI) classes (wM g c v12102 F12103 rc) H1 := hB
            replace hw : (r12101.toInt = 1 ∧ (v12085 41).toInt < 8 ∧ (v12102 41).toInt = (v12085 41).toInt + 1 ∧ (v12102 39).toInt = (v12085 39).toInt + 1 ∧ (v12102 40).toInt = (v12085 40).toInt) ∨ (r12101.toInt = 0 ∧ (v12085 41).toInt = 8 ∧ 0 ≤ (v12102 40).toInt ∧ (v12102 41).toInt = (v12085 41).toInt ∧ (v12102 39).toInt = (v12085 39).toInt) := hw
            rw [show v12085 41 = v12075 41 from hf12087 41 (by decide)] at hw
            rw [show v12085 39 = v12075 39 from hf12087 39 (by decide)] at hw
            rw [show v12085 40 = v12075 40 from hf12087 40 (by decide)] at hw
            have hw_r12101 := hw
            clear hw
            have t12106 : 0 ≤ (v12102 39).toInt ∧ (v12102 39).toInt ≤ 120 := hI.1 39 _ _ rfl
            have t12107 : 0 ≤ (v12102 41).toInt ∧ (v12102 41).toInt ≤ 8 := hI.1 41 _ _ rfl
            clear hz1
            generalize H1 = H at hP hS ⊢
            replace hk : keepL (v 37) (F 28) (F 29) (F12103 28) (F12103 29) := by rw [hG12105 28 (by decide), hG12105 29 (by decide)]; exact hk
            replace hd : (v12102 40).toInt < 0 → dp (F12103 28) (F12103 29) (bI (v 37)) (v12085 38).toInt.toNat = some (((d + 1) + 1) - 1) := fun hf => (by rw [hG12105 28 (by decide), hG12105 29 (by decide)]; exact hd (by omega))
            refine lv_if_ne (tgt := 79) hx hb dX12_either_75 (by decide) (fun c12108 => ?_) (fun c12108 => ?_)
            · skip
              have t12109 := cv_ne (a := r12101.toInt) rfl (b := 0) (by decide) c12108
              refine lv_aload_n hx hb dX12_either_79 rfl (lv_at hl 1 rfl) ?_
              have t12110 : 0 ≤ (v 30).toInt ∧ (v 30).toInt ≤ 120 := by have h9 := hI.1 30 _ _ rfl; rw [show v12102 30 = v 30 from (hf12104 30 (by decide)).trans ((hf12087 30 (by decide)).trans ((hf12077 30 (by decide)).trans (hf11865 30 (by decide))))] at h9; exact h9
              have t12111 : 0 ≤ (v 37).toInt ∧ (v 37).toInt ≤ 9 := by have h9 := hI.1 37 _ _ rfl; rw [show v12102 37 = v 37 from (hf12104 37 (by decide)).trans ((hf12087 37 (by decide)).trans ((hf12077 37 (by decide)).trans (hf11865 37 (by decide))))] at h9; exact h9
              have t12112 : 0 ≤ (v12085 38).toInt ∧ (v12085 38).toInt ≤ 120 := by have h9 := hI.1 38 _ _ rfl; rw [show v12102 38 = v12085 38 from hf12104 38 (by decide)] at h9; exact h9
              have t12113 : 0 ≤ (v12102 39).toInt ∧ (v12102 39).toInt ≤ 120 := hI.1 39 _ _ rfl
              have t12114 : 0 ≤ (v12102 41).toInt ∧ (v12102 41).toInt ≤ 8 := hI.1 41 _ _ rfl
              refine va_callv (va_runV (As := []) (rest := []) ⟨hx, hb, hml, hown, hwd⟩ (rE l dC dI g c adK adV v12102 F12103 rc H.size  (((d + 1) + 1) - 1) hg hI (by have h9 : v12102 38 = v12085 38 := hf12104 38 (by decide); (try rw [h9]); clear h9; have h9 : v12102 39 = v12102 39 := rfl; (try rw [h9]); clear h9; have h9 : v12102 30 = v 30 := (hf12104 30 (by decide)).trans ((hf12087 30 (by decide)).trans ((hf12077 30 (by decide)).trans (hf11865 30 (by decide)))); (try rw [h9]); clear h9; have h9 : v12102 40 = v12102 40 := rfl; (try rw [h9]); clear h9; have h9 : v12102 41 = v12102 41 := rfl; (try rw [h9]); clear h9; omega) (by have h9 : v12102 37 = (v 37) := (hf12104 37 (by decide)).trans ((hf12087 37 (by decide)).trans ((hf12077 37 (by decide)).trans (hf11865 37 (by decide)))); have h8 : v12102 38 = (v12085 38) := hf12104 38 (by decide); (try rw [h9]); (try rw [h8]); exact hd (by omega))) (cwV 0 hwd (gV wk_1010 wk_1007 wk_1008 wk_1009 wk_5) rfl rfl rfl (by decide +kernel) ⟨(by show fr + 3 + 1 ≤ fr + 7; omega), (by show 8 + (2 + 11) + (lc + 120) ≤ lc + 280; omega)⟩) ⟨PM.blind, va_recv hK hP (ci := 12) (q0 := 0) rfl rfl, fun U hU hW => ⟨rfl, PM.at hK hE hP hS hU hW⟩⟩ rfl rfl hl.1 rfl (lv_room (Nat.le_of_ble_eq_true rfl)) dX12_either_80 ⟨Nat.le_of_ble_eq_true rfl, Nat.le_of_ble_eq_true rfl⟩) hS (fun q _ h => (freeM hS) q h) (freeM hS) (fun u t H1 locs ht hvm hw hB hz1 hk1 hS => ?_)
              unfold BM at hB
              rw [ht] at hB
              obtain ⟨v12116, F12117, rc9⟩ := u
              obtain ⟨hI, hrc, hf12118, hG12119, hw⟩ := hw
              dsimp only at hI hrc hB hf12118 hG12119 hw
              have hF := frCF (by decide) hG12119 hF
              rw [hrc] at hB
              have hP : va_P (dC, dI) classes (wM g c v12116 F12117 rc) H1 := hB
              replace hw : ((v12102 39).toInt ≤ (v12116 39).toInt ∧ (v12116 39).toInt ≤ (v12102 30).toInt ∧ (v12102 38).toInt ≤ (v12116 38).toInt ∧ (v12116 38).toInt - (v12102 38).toInt ≤ (v12116 39).toInt - (v12102 39).toInt ∧ (v12102 41).toInt ≤ (v12116 41).toInt ∧ ((v12116 40).toInt < 0 → (v12116 41).toInt = (v12102 41).toInt)) ∧ keepL (v12102 37) (F12103 28) (F12103 29) (F12117 28) (F12117 29) ∧ ((v12116 40).toInt < 0 → dp (F12117 28) (F12117 29) (bI (v12102 37)) (v12116 38).toInt.toNat = some ((((d + 1) + 1) - 1) + 1)) := hw
              rw [show v12102 30 = v 30 from (hf12104 30 (by decide)).trans ((hf12087 30 (by decide)).trans ((hf12077 30 (by decide)).trans (hf11865 30 (by decide))))] at hw
              rw [show v12102 38 = v12085 38 from hf12104 38 (by decide)] at hw
              rw [show v12102 37 = v 37 from (hf12104 37 (by decide)).trans ((hf12087 37 (by decide)).trans ((hf12077 37 (by decide)).trans (hf11865 37 (by decide))))] at hw
              have hw_r12115 := hw
              clear hw
              have t12120 : 0 ≤ (v12116 38).toInt ∧ (v12116 38).toInt ≤ 120 := hI.1 38 _ _ rfl
              have t12121 : 0 ≤ (v12116 39).toInt ∧ (v12116 39).toInt ≤ 120 := hI.1 39 _ _ rfl
              have t12122 : 0 ≤ (v12116 41).toInt ∧ (v12116 41).toInt ≤ 8 := hI.1 41 _ _ rfl
              clear hz1
              generalize H1 = H at hP hS ⊢
              replace hk := hk.tr hw_r12115.2.1
              replace hd := hw_r12115.2.2
              replace hw_r12115 := hw_r12115.1
              refine lv_aload_n hx hb dX12_either_83 rfl (lv_at hl 1 rfl) ?_
              refine va_get (D := (dC, dI)) (ci := 12) (v := .int (v12116 40)) (C := RX12) (T := TX12) (N := 63) hx hb hwd inA_X12 hown hK hP 0 rfl rfl 40 (by decide) (hwd _ wk_1005) (fun _ h9 => h9) rfl dX12_either_84 ?_
              refine lv_if_lt (tgt := 91) hx hb dX12_either_87 (by decide) (fun c12123 => ?_) (fun c12123 => ?_)
              · skip
                have t12124 := cv_lt (a := (v12116 40).toInt) rfl (b := 0) (by decide) c12123
                refine lv_aload_n hx hb dX12_either_91 rfl (lv_at hl 1 rfl) ?_
                have t12125 : 0 ≤ (v 30).toInt ∧ (v 30).toInt ≤ 120 := by have h9 := hI.1 30 _ _ rfl; rw [show v12116 30 = v 30 from (hf12118 30 (by decide)).trans ((hf12104 30 (by decide)).trans ((hf12087 30 (by decide)).trans ((hf12077 30 (by decide)).trans (hf11865 30 (by decide)))))] at h9; exact h9
                have t12126 : 0 ≤ (v12116 39).toInt ∧ (v12116 39).toInt ≤ 120 := hI.1 39 _ _ rfl
                refine va_calli (va_runV (As := []) (rest := []) ⟨hx, hb, hml, hown, hwd⟩ (c_X12_look l dC dI g c adK adV v12116 F12117 rc H.size  hg hI ) (cwV 0 hwd (gV wk_1017 wk_1014 wk_1015 wk_1016 wk_5) rfl rfl rfl (by decide +kernel) ⟨(by show 1 + 1 ≤ fr + 7; omega), (by show 8 + (1 + 11) + (40) ≤ lc + 280; omega)⟩) ⟨PM.blind, va_recv hK hP (ci := 12) (q0 := 0) rfl rfl, fun U hU hW => ⟨rfl, PM.at hK hE hP hS hU hW⟩⟩ rfl rfl hl.1 rfl (lv_room (Nat.le_of_ble_eq_true rfl)) dX12_either_92 ⟨Nat.le_of_ble_eq_true rfl, Nat.le_of_ble_eq_true rfl⟩) hS (fun q _ h => (freeM hS) q h) (freeM hS) (fun r12127 u t H1 locs ht hvm hw hB hz1 hk1 hS => ?_)
                unfold BM at hB
                rw [ht] at hB
                have hP : va_P (dC, dI) classes (wM g c v12116 F12117 rc) H1 := hB
                replace hw : r12127.toInt = lkM (v12116 39) (v12116 30) (F12117 24) ∧ ((v12116 39).toInt < (v12116 30).toInt ∨ r12127.toInt = -1) := hw
                rw [show v12116 30 = v 30 from (hf12118 30 (by decide)).trans ((hf12104 30 (by decide)).trans ((hf12087 30 (by decide)).trans ((hf12077 30 (by decide)).trans (hf11865 30 (by decide)))))] at hw
                rw [hF 24 (by decide)] at hw
                have hw_r12127 := hw
                clear hw
                clear hz1
                generalize H1 = H at hP hS ⊢
                refine lv_bipush (v := 58) hx hb dX12_either_95 (by decide) ?_
                refine lv_icmp_eq (tgt := 105) hx hb dX12_either_97 (by decide) (fun c12128 => ?_) (fun c12128 => ?_)
                · skip
                  have t12129 := cv_eq (a := r12127.toInt) rfl (b := 58) (by decide) c12128
                  refine lv_aload_n hx hb dX12_either_105 rfl (lv_at hl 1 rfl) ?_
                  refine lv_dup hx hb dX12_either_106 rfl ?_
                  refine va_get (D := (dC, dI)) (ci := 12) (v := .int (v12116 39)) (C := RX12) (T := TX12) (N := 63) hx hb hwd inA_X12 hown hK hP 0 rfl rfl 39 (by decide) (hwd _ wk_1004) (fun _ h9 => h9) rfl dX12_either_107 ?_
                  have t12130 : 0 ≤ (v12116 39).toInt ∧ (v12116 39).toInt ≤ 120 := hI.1 39 _ _ rfl
                  refine lv_iconst (v := 1) hx hb dX12_either_110 (by decide) ?_
                  refine lv_iadd hx hb dX12_either_111 ?_
                  refine lv_topi (fun z12131 e12132 => ?_)
                  try (have t12133 := tadd e12132 (a := (v12116 39).toInt) rfl (b := 1) (by decide) (by omega))
                  refine va_put (D := (dC, dI)) (ci := 12) (v := .int z12131) (ty := .int) (C := RX12) (T := TX12) (N := 63) (fs := fsM_0 g v12116 rc) hx hb hwd inA_X12 tyX12 tyX12_ok nmX12 hown hK hP (DM hg) hS 0 rfl rfl 39 (by decide) (hwd _ wk_1004) (fun _ h9 => h9) rfl (by decide +kernel) rfl rfl (Nat.le_of_ble_eq_true rfl) dX12_either_112 (fun H locs hP _ hS => ?_)
                  have hP := va_P_eq (pM_39 g c _ _ _ _) hP
                  have hI := IM.put hI 39 z12131 rfl (by omega)
                  refine lv_aload_n hx hb dX12_either_115 rfl (lv_at hl 1 rfl) ?_
                  have t12134 : 0 ≤ (v 30).toInt ∧ (v 30).toInt ≤ 120 := by have h9 := hI.1 30 _ _ rfl; rw [show (va_up v12116 39 z12131) 30 = v 30 from (hf12118 30 (by decide)).trans ((hf12104 30 (by decide)).trans ((hf12087 30 (by decide)).trans ((hf12077 30 (by decide)).trans (hf11865 30 (by decide)))))] at h9; exact h9
                  have t12135 : 0 ≤ (v 37).toInt ∧ (v 37).toInt ≤ 9 := by have h9 := hI.1 37 _ _ rfl; rw [show (va_up v12116 39 z12131) 37 = v 37 from (hf12118 37 (by decide)).trans ((hf12104 37 (by decide)).trans ((hf12087 37 (by decide)).trans ((hf12077 37 (by decide)).trans (hf11865 37 (by decide)))))] at h9; exact h9
                  have t12136 : 0 ≤ (v12116 38).toInt ∧ (v12116 38).toInt ≤ 120 := hI.1 38 _ _ rfl
                  have t12137 : 0 ≤ z12131.toInt ∧ z12131.toInt ≤ 120 := hI.1 39 _ _ rfl
                  have t12138 : 0 ≤ (v12116 41).toInt ∧ (v12116 41).toInt ≤ 8 := hI.1 41 _ _ rfl
                  refine va_callv (va_runV (As := []) (rest := []) ⟨hx, hb, hml, hown, hwd⟩ (rE l dC dI g c adK adV (va_up v12116 39 z12131) F12117 rc H.size  ((((d + 1) + 1) - 1) + 1) hg hI (by have h9 : (va_up v12116 39 z12131) 38 = v12116 38 := rfl; (try rw [h9]); clear h9; have h9 : (va_up v12116 39 z12131) 39 = z12131 := rfl; (try rw [h9]); clear h9; have h9 : (va_up v12116 39 z12131) 30 = v 30 := (hf12118 30 (by decide)).trans ((hf12104 30 (by decide)).trans ((hf12087 30 (by decide)).trans ((hf12077 30 (by decide)).trans (hf11865 30 (by decide))))); (try rw [h9]); clear h9; have h9 : (va_up v12116 39 z12131) 40 = v12116 40 := rfl; (try rw [h9]); clear h9; have h9 : (va_up v12116 39 z12131) 41 = v12116 41 := rfl; (try rw [h9]); clear h9; omega) (by have h9 : (va_up v12116 39 z12131) 37 = (v 37) := (hf12118 37 (by decide)).trans ((hf12104 37 (by decide)).trans ((hf12087 37 (by decide)).trans ((hf12077 37 (by decide)).trans (hf11865 37 (by decide))))); have h8 : (va_up v12116 39 z12131) 38 = (v12116 38) := rfl; (try rw [h9]); (try rw [h8]); exact hd (by omega))) (cwV 0 hwd (gV wk_1010 wk_1007 wk_1008 wk_1009 wk_5) rfl rfl rfl (by decide +kernel) ⟨(by show fr + 3 + 1 ≤ fr + 7; omega), (by show 8 + (2 + 11) + (lc + 120) ≤ lc + 280; omega)⟩) ⟨PM.blind, va_recv hK hP (ci := 12) (q0 := 0) rfl rfl, fun U hU hW => ⟨rfl, PM.at hK hE hP hS hU hW⟩⟩ rfl rfl hl.1 rfl (lv_room (Nat.le_of_ble_eq_true rfl)) dX12_either_116 ⟨Nat.le_of_ble_eq_true rfl, Nat.le_of_ble_eq_true rfl⟩) hS (fun q _ h => (freeM hS) q h) (freeM hS) (fun u t H1 locs ht hvm hw hB hz1 hk1 hS => ?_)
                  unfold BM at hB
                  rw [ht] at hB
                  obtain ⟨v12140, F12141, rc9⟩ := u
                  obtain ⟨hI, hrc, hf12142, hG12143, hw⟩ := hw
                  dsimp only at hI hrc hB hf12142 hG12143 hw
                  have hF := frCF (by decide) hG12143 hF
                  rw [hrc] at hB
                  have hP : va_P (dC, dI) classes (wM g c v12140 F12141 rc) H1 := hB
                  replace hw : (z12131.toInt ≤ (v12140 39).toInt ∧ (v12140 39).toInt ≤ ((va_up v12116 39 z12131) 30).toInt ∧ (v12116 38).toInt ≤ (v12140 38).toInt ∧ (v12140 38).toInt - (v12116 38).toInt ≤ (v12140 39).toInt - z12131.toInt ∧ (v12116 41).toInt ≤ (v12140 41).toInt ∧ ((v12140 40).toInt < 0 → (v12140 41).toInt = (v12116 41).toInt)) ∧ keepL ((va_up v12116 39 z12131) 37) (F12117 28) (F12117 29) (F12141 28) (F12141 29) ∧ ((v12140 40).toInt < 0 → dp (F12141 28) (F12141 29) (bI ((va_up v12116 39 z12131) 37)) (v12140 38).toInt.toNat = some (((((d + 1) + 1) - 1) + 1) + 1)) := hw
                  rw [show (va_up v12116 39 z12131) 30 = v 30 from (hf12118 30 (by decide)).trans ((hf12104 30 (by decide)).trans ((hf12087 30 (by decide)).trans ((hf12077 30 (by decide)).trans (hf11865 30 (by decide)))))] at hw
                  rw [show (va_up v12116 39 z12131) 37 = v 37 from (hf12118 37 (by decide)).trans ((hf12104 37 (by decide)).trans ((hf12087 37 (by decide)).trans ((hf12077 37 (by decide)).trans (hf11865 37 (by decide)))))] at hw
                  have hw_r12139 := hw
                  clear hw
                  have t12144 : 0 ≤ (v12140 38).toInt ∧ (v12140 38).toInt ≤ 120 := hI.1 38 _ _ rfl
                  have t12145 : 0 ≤ (v12140 39).toInt ∧ (v12140 39).toInt ≤ 120 := hI.1 39 _ _ rfl
                  have t12146 : 0 ≤ (v12140 41).toInt ∧ (v12140 41).toInt ≤ 8 := hI.1 41 _ _ rfl
                  clear hz1
                  generalize H1 = H at hP hS ⊢
                  replace hk := hk.tr hw_r12139.2.1
                  replace hd := hw_r12139.2.2
                  replace hw_r12139 := hw_r12139.1
                  refine lv_aload_n hx hb dX12_either_119 rfl (lv_at hl 1 rfl) ?_
                  refine lv_iconst (v := 4) hx hb dX12_either_120 (by decide) ?_
                  refine lv_iconst (v := 0) hx hb dX12_either_121 (by decide) ?_
                  have t12147 : 0 ≤ (v 37).toInt ∧ (v 37).toInt ≤ 9 := by have h9 := hI.1 37 _ _ rfl; rw [show v12140 37 = v 37 from (hf12142 37 (by decide)).trans ((hf12118 37 (by decide)).trans ((hf12104 37 (by decide)).trans ((hf12087 37 (by decide)).trans ((hf12077 37 (by decide)).trans (hf11865 37 (by decide))))))] at h9; exact h9
                  have t12148 : 0 ≤ (v12140 38).toInt ∧ (v12140 38).toInt ≤ 120 := hI.1 38 _ _ rfl
                  refine va_callv (va_runV (As := [.int 4, .int 0]) (rest := []) ⟨hx, hb, hml, hown, hwd⟩ (c_X12_lay l dC dI g c adK adV v12140 F12141 rc H.size 4 0 hg hI (by have h9 : v12140 38 = v12140 38 := rfl; rw [h9]; omega)) (cwV 2 hwd (gV wk_1021 wk_1018 wk_1019 wk_1020 wk_5) rfl rfl rfl (by decide +kernel) ⟨(by show 1 + 1 ≤ fr + 7; omega), (by show 8 + (3 + 11) + (40) ≤ lc + 280; omega)⟩) ⟨PM.blind, va_recv hK hP (ci := 12) (q0 := 0) rfl rfl, fun U hU hW => ⟨rfl, PM.at hK hE hP hS hU hW⟩⟩ rfl rfl hl.1 rfl (lv_room (Nat.le_of_ble_eq_true rfl)) dX12_either_122 ⟨Nat.le_of_ble_eq_true rfl, Nat.le_of_ble_eq_true rfl⟩) hS (fun q _ h => (freeM hS) q h) (freeM hS) (fun u t H1 locs ht hvm hw hB hz1 hk1 hS => ?_)
                  unfold BM at hB
                  rw [ht] at hB
                  obtain ⟨v12150, F12151, rc9⟩ := u
                  obtain ⟨hI, hrc, hf12152, hG12153, hw⟩ := hw
                  dsimp only at hI hrc hB hf12152 hG12153 hw
                  have hF := frCF (by decide) hG12153 hF
                  rw [hrc] at hB
                  have hP : va_P (dC, dI) classes (wM g c v12150 F12151 rc) H1 := hB
                  replace hw : (v12150 38).toInt = (v12140 38).toInt + 1 ∧ keepL (v12140 37) (F12141 28) (F12141 29) (F12151 28) (F12151 29) ∧ dp (F12151 28) (F12151 29) (bI (v12140 37)) ((v12140 38).toInt.toNat + 1) = dpS (dp (F12141 28) (F12141 29) (bI (v12140 37)) (v12140 38).toInt.toNat) (4 : Int32) (0 : Int32) := hw
                  rw [show v12140 37 = v 37 from (hf12142 37 (by decide)).trans ((hf12118 37 (by decide)).trans ((hf12104 37 (by decide)).trans ((hf12087 37 (by decide)).trans ((hf12077 37 (by decide)).trans (hf11865 37 (by decide))))))] at hw
                  have hw_r12149 := hw
                  clear hw
                  have t12154 : 0 ≤ (v12150 38).toInt ∧ (v12150 38).toInt ≤ 120 := hI.1 38 _ _ rfl
                  have k12155 : (4 : Int32).toInt = 4 := by decide
                  have k12156 : (0 : Int32).toInt = 0 := by decide
                  clear hz1
                  generalize H1 = H at hP hS ⊢
                  replace hk := hk.tr hw_r12149.2.1
                  replace hd : (v12140 40).toInt < 0 → dp (F12151 28) (F12151 29) (bI (v 37)) (v12150 38).toInt.toNat = some ((((((d + 1) + 1) - 1) + 1) + 1) - 2) := fun hf => (by have e9 : (v12150 38).toInt.toNat = (v12140 38).toInt.toNat + 1 := (by omega); rw [e9, hw_r12149.2.2, hd hf]; exact dpS_4 (by decide) (by omega))
                  replace hw_r12149 := hw_r12149.1
                  refine lv_aload_n hx hb dX12_either_125 rfl (lv_at hl 1 rfl) ?_
                  refine lv_dup hx hb dX12_either_126 rfl ?_
                  refine va_get (D := (dC, dI)) (ci := 12) (v := .int (v12150 41)) (C := RX12) (T := TX12) (N := 63) hx hb hwd inA_X12 hown hK hP 0 rfl rfl 41 (by decide) (hwd _ wk_1006) (fun _ h9 => h9) rfl dX12_either_127 ?_
                  refine my_top (v := v12140 41) (hf12152 41 (by decide)) ?_
                  have t12157 : 0 ≤ (v12140 41).toInt ∧ (v12140 41).toInt ≤ 8 := by have h9 := hI.1 41 _ _ rfl; rw [show v12150 41 = v12140 41 from hf12152 41 (by decide)] at h9; exact h9
                  refine lv_iconst (v := 1) hx hb dX12_either_130 (by decide) ?_
                  refine lv_isub hx hb dX12_either_131 ?_
                  refine lv_topi (fun z12158 e12159 => ?_)
                  try (have t12160 := tsub e12159 (a := (v12140 41).toInt) rfl (b := 1) (by decide) (by omega))
                  refine va_put (D := (dC, dI)) (ci := 12) (v := .int z12158) (ty := .int) (C := RX12) (T := TX12) (N := 63) (fs := fsM_0 g v12150 rc) hx hb hwd inA_X12 tyX12 tyX12_ok nmX12 hown hK hP (DM hg) hS 0 rfl rfl 41 (by decide) (hwd _ wk_1006) (fun _ h9 => h9) rfl (by decide +kernel) rfl rfl (Nat.le_of_ble_eq_true rfl) dX12_either_132 (fun H locs hP _ hS => ?_)
                  have hP := va_P_eq (pM_41 g c _ _ _ _) hP
                  have hI := IM.put hI 41 z12158 rfl (by omega)
                  have hP9 : va_P (dC, dI) classes (wM g c (va_up v12150 41 z12158) F12151 rc) H := hP
                  exact W.vret hx hb hr (fun t ht hW => ⟨⟨((va_up v12150 41 z12158), F12151, rc), rfl, ⟨hI, rfl, (frU (by decide) (frC (by decide) hf12152 (frC (by decide) hf12142 (frU (by decide) (frC (by decide) hf12118 (frC (by decide) hf12104 (frC (by decide) hf12087 (frC (by decide) hf12077 (frU (by decide) (frC (by decide) hf11865 (fun _ _ => rfl))))))))))), hF, (by show ((v 39).toInt ≤ ((va_up v12150 41 z12158) 39).toInt ∧ ((va_up v12150 41 z12158) 39).toInt ≤ (v 30).toInt ∧ (v 38).toInt ≤ (v12150 38).toInt ∧ (v12150 38).toInt - (v 38).toInt ≤ ((va_up v12150 41 z12158) 39).toInt - (v 39).toInt ∧ (v 41).toInt ≤ z12158.toInt ∧ (((va_up v12150 41 z12158) 40).toInt < 0 → z12158.toInt = (v 41).toInt)) ∧ keepL (v 37) (F 28) (F 29) (F12151 28) (F12151 29) ∧ (((va_up v12150 41 z12158) 40).toInt < 0 → dp (F12151 28) (F12151 29) (bI (v 37)) (v12150 38).toInt.toNat = some (d + 1)); rw [show (va_up v12150 41 z12158) 39 = v12140 39 from hf12152 39 (by decide)]; rw [show (va_up v12150 41 z12158) 40 = v12140 40 from hf12152 40 (by decide)]; exact ⟨by omega, hk, fun hf => (hd (by omega)).trans (congrArg some (by omega))⟩)⟩, (by show va_P _ _ _ t.heap; rw [ht]; exact hP9)⟩, hS.F ht⟩) hS.2.2 dX12_either_135
                · skip
                  have t12161 := cv_ne (a := r12127.toInt) rfl (b := 58) (by decide) c12128
                  refine lv_aload_n hx hb dX12_either_100 rfl (lv_at hl 1 rfl) ?_
                  refine va_callv (va_runV (As := []) (rest := []) ⟨hx, hb, hml, hown, hwd⟩ (c_X12_wrong l dC dI g c adK adV v12116 F12117 rc H.size  hg hI ) (cwV 0 hwd (gV wk_1029 wk_1026 wk_1027 wk_1028 wk_5) rfl rfl rfl (by decide +kernel) ⟨(by show 1 + 1 ≤ fr + 7; omega), (by show 8 + (1 + 11) + (40) ≤ lc + 280; omega)⟩) ⟨PM.blind, va_recv hK hP (ci := 12) (q0 := 0) rfl rfl, fun U hU hW => ⟨rfl, PM.at hK hE hP hS hU hW⟩⟩ rfl rfl hl.1 rfl (lv_room (Nat.le_of_ble_eq_true rfl)) dX12_either_101 ⟨Nat.le_of_ble_eq_true rfl, Nat.le_of_ble_eq_true rfl⟩) hS (fun q _ h => (freeM hS) q h) (freeM hS) (fun u t H1 locs ht hvm hw hB hz1 hk1 hS => ?_)
                  unfold BM at hB
                  rw [ht] at hB
                  obtain ⟨v12163, F12164, rc9⟩ := u
                  obtain ⟨hI, hrc, hf12165, hG12166, hw⟩ := hw
                  dsimp only at hI hrc hB hf12165 hG12166 hw
                  have hF := frCF (by decide) hG12166 hF
                  rw [hrc] at hB
                  have hP : va_P (dC, dI) classes (wM g c v12163 F12164 rc) H1 := hB
                  replace hw : 0 ≤ (v12163 40).toInt := hw
                  have hw_r12162 := hw
                  clear hw
                  clear hz1
                  generalize H1 = H at hP hS ⊢
                  replace hk : keepL (v 37) (F 28) (F 29) (F12164 28) (F12164 29) := by rw [hG12166 28 (by decide), hG12166 29 (by decide)]; exact hk
                  replace hd : (v12163 40).toInt < 0 → dp (F12164 28) (F12164 29) (bI (v 37)) (v12116 38).toInt.toNat = some ((((d + 1) + 1) - 1) + 1) := fun hf => (by rw [hG12166 28 (by decide), hG12166 29 (by decide)]; exact hd (by omega))
                  have hP9 : va_P (dC, dI) classes (wM g c v12163 F12164 rc) H := hP
                  exact W.vret hx hb hr (fun t ht hW => ⟨⟨(v12163, F12164, rc), rfl, ⟨hI, rfl, (frC (by decide) hf12165 (frC (by decide) hf12118 (frC (by decide) hf12104 (frC (by decide) hf12087 (frC (by decide) hf12077 (frU (by decide) (frC (by decide) hf11865 (fun _ _ => rfl)))))))), hF, (by show ((v 39).toInt ≤ (v12163 39).toInt ∧ (v12163 39).toInt ≤ (v 30).toInt ∧ (v 38).toInt ≤ (v12163 38).toInt ∧ (v12163 38).toInt - (v 38).toInt ≤ (v12163 39).toInt - (v 39).toInt ∧ (v 41).toInt ≤ (v12163 41).toInt ∧ ((v12163 40).toInt < 0 → (v12163 41).toInt = (v 41).toInt)) ∧ keepL (v 37) (F 28) (F 29) (F12164 28) (F12164 29) ∧ ((v12163 40).toInt < 0 → dp (F12164 28) (F12164 29) (bI (v 37)) (v12163 38).toInt.toNat = some (d + 1)); rw [show v12163 39 = v12116 39 from hf12165 39 (by decide)]; rw [show v12163 38 = v12116 38 from hf12165 38 (by decide)]; rw [show v12163 41 = v12116 41 from hf12165 41 (by decide)]; exact ⟨by omega, hk, fun hf => (hd (by omega)).trans (congrArg some (by omega))⟩)⟩, (by show va_P _ _ _ t.heap; rw [ht]; exact hP9)⟩, hS.F ht⟩) hS.2.2 dX12_either_104
              · skip
                have t12167 := cv_nlt (a := (v12116 40).toInt) rfl (b := 0) (by decide) c12123
                have hP9 : va_P (dC, dI) classes (wM g c v12116 F12117 rc) H := hP
                exact W.vret hx hb hr (fun t ht hW => ⟨⟨(v12116, F12117, rc), rfl, ⟨hI, rfl, (frC (by decide) hf12118 (frC (by decide) hf12104 (frC (by decide) hf12087 (frC (by decide) hf12077 (frU (by decide) (frC (by decide) hf11865 (fun _ _ => rfl))))))), hF, (by show ((v 39).toInt ≤ (v12116 39).toInt ∧ (v12116 39).toInt ≤ (v 30).toInt ∧ (v 38).toInt ≤ (v12116 38).toInt ∧ (v12116 38).toInt - (v 38).toInt ≤ (v12116 39).toInt - (v 39).toInt ∧ (v 41).toInt ≤ (v12116 41).toInt ∧ ((v12116 40).toInt < 0 → (v12116 41).toInt = (v 41).toInt)) ∧ keepL (v 37) (F 28) (F 29) (F12117 28) (F12117 29) ∧ ((v12116 40).toInt < 0 → dp (F12117 28) (F12117 29) (bI (v 37)) (v12116 38).toInt.toNat = some (d + 1)); exact ⟨by omega, hk, fun hf => (hd (by omega)).trans (congrArg some (by omega))⟩)⟩, (by show va_P _ _ _ t.heap; rw [ht]; exact hP9)⟩, hS.F ht⟩) hS.2.2 dX12_either_90
            · skip
              have t12168 := cv_eq (a := r12101.toInt) rfl (b := 0) (by decide) c12108
              have hP9 : va_P (dC, dI) classes (wM g c v12102 F12103 rc) H := hP
              exact W.vret hx hb hr (fun t ht hW => ⟨⟨(v12102, F12103, rc), rfl, ⟨hI, rfl, (frC (by decide) hf12104 (frC (by decide) hf12087 (frC (by decide) hf12077 (frU (by decide) (frC (by decide) hf11865 (fun _ _ => rfl)))))), hF, (by show ((v 39).toInt ≤ (v12102 39).toInt ∧ (v12102 39).toInt ≤ (v 30).toInt ∧ (v 38).toInt ≤ (v12102 38).toInt ∧ (v12102 38).toInt - (v 38).toInt ≤ (v12102 39).toInt - (v 39).toInt ∧ (v 41).toInt ≤ (v12102 41).toInt ∧ ((v12102 40).toInt < 0 → (v12102 41).toInt = (v 41).toInt)) ∧ keepL (v 37) (F 28) (F 29) (F12103 28) (F12103 29) ∧ ((v12102 40).toInt < 0 → dp (F12103 28) (F12103 29) (bI (v 37)) (v12102 38).toInt.toNat = some (d + 1)); rw [show v12102 38 = v12085 38 from hf12104 38 (by decide)]; exact ⟨by omega, hk, fun hf => (hd (by omega)).trans (congrArg some (by omega))⟩)⟩, (by show va_P _ _ _ t.heap; rw [ht]; exact hP9)⟩, hS.F ht⟩) hS.2.2 dX12_either_78
          · skip
            have t12169 := cv_ne (a := r12096.toInt) rfl (b := 63) (by decide) c12097
            have hP9 : va_P (dC, dI) classes (wM g c v12085 F12086 rc) H := hP
            exact W.vret hx hb hr (fun t ht hW => ⟨⟨(v12085, F12086, rc), rfl, ⟨hI, rfl, (frC (by decide) hf12087 (frC (by decide) hf12077 (frU (by decide) (frC (by decide) hf11865 (fun _ _ => rfl))))), hF, (by show ((v 39).toInt ≤ (v12085 39).toInt ∧ (v12085 39).toInt ≤ (v 30).toInt ∧ (v 38).toInt ≤ (v12085 38).toInt ∧ (v12085 38).toInt - (v 38).toInt ≤ (v12085 39).toInt - (v 39).toInt ∧ (v 41).toInt ≤ (v12085 41).toInt ∧ ((v12085 40).toInt < 0 → (v12085 41).toInt = (v 41).toInt)) ∧ keepL (v 37) (F 28) (F 29) (F12086 28) (F12086 29) ∧ ((v12085 40).toInt < 0 → dp (F12086 28) (F12086 29) (bI (v 37)) (v12085 38).toInt.toNat = some (d + 1)); rw [show v12085 39 = v12075 39 from hf12087 39 (by decide)]; rw [show v12085 41 = v12075 41 from hf12087 41 (by decide)]; rw [show v12085 40 = v12075 40 from hf12087 40 (by decide)]; exact ⟨by omega, hk, fun hf => (hd (by omega)).trans (congrArg some (by omega))⟩)⟩, (by show va_P _ _ _ t.heap; rw [ht]; exact hP9)⟩, hS.F ht⟩) hS.2.2 dX12_either_70
      · skip
        have t12170 := cv_ne (a := r11872.toInt) rfl (b := 61) (by decide) c12063
        refine lv_iload_n hx hb dX12_either_28 rfl (lv_at hl 0 rfl) ?_
        refine lv_bipush (v := 62) hx hb dX12_either_29 (by decide) ?_
        refine lv_icmp_ne (tgt := 54) hx hb dX12_either_31 (by decide) (fun c12171 => ?_) (fun c12171 => ?_)
        · skip
          have t12172 := cv_ne (a := r11872.toInt) rfl (b := 62) (by decide) c12171
          refine lv_aload_n hx hb dX12_either_54 rfl (lv_at hl 1 rfl) ?_
          refine va_get (D := (dC, dI)) (ci := 12) (v := .int (v11863 40)) (C := RX12) (T := TX12) (N := 63) hx hb hwd inA_X12 hown hK hP 0 rfl rfl 40 (by decide) (hwd _ wk_1005) (fun _ h9 => h9) rfl dX12_either_55 ?_
          refine lv_if_ge (tgt := 70) hx hb dX12_either_58 (by decide) (fun c12173 => ?_) (fun c12173 => ?_)
          · skip
            have t12174 := cv_le (a := 0) (by decide) (b := (v11863 40).toInt) rfl c12173
            have hP9 : va_P (dC, dI) classes (wM g c v11863 F11864 rc) H := hP
            exact W.vret hx hb hr (fun t ht hW => ⟨⟨(v11863, F11864, rc), rfl, ⟨hI, rfl, (frC (by decide) hf11865 (fun _ _ => rfl)), hF, (by show ((v 39).toInt ≤ (v11863 39).toInt ∧ (v11863 39).toInt ≤ (v 30).toInt ∧ (v 38).toInt ≤ (v11863 38).toInt ∧ (v11863 38).toInt - (v 38).toInt ≤ (v11863 39).toInt - (v 39).toInt ∧ (v 41).toInt ≤ (v11863 41).toInt ∧ ((v11863 40).toInt < 0 → (v11863 41).toInt = (v 41).toInt)) ∧ keepL (v 37) (F 28) (F 29) (F11864 28) (F11864 29) ∧ ((v11863 40).toInt < 0 → dp (F11864 28) (F11864 29) (bI (v 37)) (v11863 38).toInt.toNat = some (d + 1)); exact ⟨by omega, hk, fun hf => (hd (by omega)).trans (congrArg some (by omega))⟩)⟩, (by show va_P _ _ _ t.heap; rw [ht]; exact hP9)⟩, hS.F ht⟩) hS.2.2 dX12_either_70
          · skip
            have t12175 := cv_nle (a := 0) (by decide) (b := (v11863 40).toInt) rfl c12173
            refine lv_aload_n hx hb dX12_either_61 rfl (lv_at hl 1 rfl) ?_
            have t12176 : 0 ≤ (v 30).toInt ∧ (v 30).toInt ≤ 120 := by have h9 := hI.1 30 _ _ rfl; rw [show v11863 30 = v 30 from hf11865 30 (by decide)] at h9; exact h9
            have t12177 : 0 ≤ (v11863 39).toInt ∧ (v11863 39).toInt ≤ 120 := hI.1 39 _ _ rfl
            refine va_calli (va_runV (As := []) (rest := []) ⟨hx, hb, hml, hown, hwd⟩ (c_X12_look l dC dI g c adK adV v11863 F11864 rc H.size  hg hI ) (cwV 0 hwd (gV wk_1017 wk_1014 wk_1015 wk_1016 wk_5) rfl rfl rfl (by decide +kernel) ⟨(by show 1 + 1 ≤ fr + 7; omega), (by show 8 + (1 + 11) + (40) ≤ lc + 280; omega)⟩) ⟨PM.blind, va_recv hK hP (ci := 12) (q0 := 0) rfl rfl, fun U hU hW => ⟨rfl, PM.at hK hE hP hS hU hW⟩⟩ rfl rfl hl.1 rfl (lv_room (Nat.le_of_ble_eq_true rfl)) dX12_either_62 ⟨Nat.le_of_ble_eq_true rfl, Nat.le_of_ble_eq_true rfl⟩) hS (fun q _ h => (freeM hS) q h) (freeM hS) (fun r12178 u t H1 locs ht hvm hw hB hz1 hk1 hS => ?_)
            unfold BM at hB
            rw [ht] at hB
            have hP : va_P (dC, dI) classes (wM g c v11863 F11864 rc) H1 := hB
            replace hw : r12178.toInt = lkM (v11863 39) (v11863 30) (F11864 24) ∧ ((v11863 39).toInt < (v11863 30).toInt ∨ r12178.toInt = -1) := hw
            rw [show v11863 30 = v 30 from hf11865 30 (by decide)] at hw
            rw [hF 24 (by decide)] at hw
            have hw_r12178 := hw
            clear hw
            clear hz1
            generalize H1 = H at hP hS ⊢
            refine lv_bipush (v := 63) hx hb dX12_either_65 (by decide) ?_
            refine lv_icmp_eq (tgt := 71) hx hb dX12_either_67 (by decide) (fun c12179 => ?_) (fun c12179 => ?_)
            · skip
              have t12180 := cv_eq (a := r12178.toInt) rfl (b := 63) (by decide) c12179
              refine lv_aload_n hx hb dX12_either_71 rfl (lv_at hl 1 rfl) ?_
              have t12181 : 0 ≤ (v11863 39).toInt ∧ (v11863 39).toInt ≤ 120 := hI.1 39 _ _ rfl
              have t12182 : 0 ≤ (v11863 41).toInt ∧ (v11863 41).toInt ≤ 8 := hI.1 41 _ _ rfl
              refine va_calli (va_runV (As := []) (rest := []) ⟨hx, hb, hml, hown, hwd⟩ (c_X12_opens l dC dI g c adK adV v11863 F11864 rc H.size  hg hI (by have h9 : v11863 39 = v11863 39 := rfl; (try rw [h9]); clear h9; have h9 : v11863 30 = v 30 := hf11865 30 (by decide); (try rw [h9]); clear h9; omega)) (cwV 0 hwd (gV wk_1025 wk_1022 wk_1023 wk_1024 wk_5) rfl rfl rfl (by decide +kernel) ⟨(by show 2 + 1 ≤ fr + 7; omega), (by show 8 + (1 + 11) + (80) ≤ lc + 280; omega)⟩) ⟨PM.blind, va_recv hK hP (ci := 12) (q0 := 0) rfl rfl, fun U hU hW => ⟨rfl, PM.at hK hE hP hS hU hW⟩⟩ rfl rfl hl.1 rfl (lv_room (Nat.le_of_ble_eq_true rfl)) dX12_either_72 ⟨Nat.le_of_ble_eq_true rfl, Nat.le_of_ble_eq_true rfl⟩) hS (fun q _ h => (freeM hS) q h) (freeM hS) (fun r12183 u t H1 locs ht hvm hw hB hz1 hk1 hS => ?_)
              unfold BM at hB
              rw [ht] at hB
              obtain ⟨v12184, F12185, rc9⟩ := u
              obtain ⟨hI, hrc, hf12186, hG12187, hw⟩ := hw
              dsimp only at hI hrc hB hf12186 hG12187 hw
              have hF := frCF (by decide) hG12187 hF
              rw [hrc] at hB
              have hP : va_P (dC, dI) classes (wM g c v12184 F12185 rc) H1 := hB
              replace hw : (r12183.toInt = 1 ∧ (v11863 41).toInt < 8 ∧ (v12184 41).toInt = (v11863 41).toInt + 1 ∧ (v12184 39).toInt = (v11863 39).toInt + 1 ∧ (v12184 40).toInt = (v11863 40).toInt) ∨ (r12183.toInt = 0 ∧ (v11863 41).toInt = 8 ∧ 0 ≤ (v12184 40).toInt ∧ (v12184 41).toInt = (v11863 41).toInt ∧ (v12184 39).toInt = (v11863 39).toInt) := hw
              have hw_r12183 := hw
              clear hw
              have t12188 : 0 ≤ (v12184 39).toInt ∧ (v12184 39).toInt ≤ 120 := hI.1 39 _ _ rfl
              have t12189 : 0 ≤ (v12184 41).toInt ∧ (v12184 41).toInt ≤ 8 := hI.1 41 _ _ rfl
              clear hz1
              generalize H1 = H at hP hS ⊢
              replace hk : keepL (v 37) (F 28) (F 29) (F12185 28) (F12185 29) := by rw [hG12187 28 (by decide), hG12187 29 (by decide)]; exact hk
              replace hd : (v12184 40).toInt < 0 → dp (F12185 28) (F12185 29) (bI (v 37)) (v11863 38).toInt.toNat = some (d + 1) := fun hf => (by rw [hG12187 28 (by decide), hG12187 29 (by decide)]; exact hd (by omega))
              refine lv_if_ne (tgt := 79) hx hb dX12_either_75 (by decide) (fun c12190 => ?_) (fun c12190 => ?_)
              · skip
                have t12191 := cv_ne (a := r12183.toInt) rfl (b := 0) (by decide) c12190
                refine lv_aload_n hx hb dX12_either_79 rfl (lv_at hl 1 rfl) ?_
                have t12192 : 0 ≤ (v 30).toInt ∧ (v 30).toInt ≤ 120 := by have h9 := hI.1 30 _ _ rfl; rw [show v12184 30 = v 30 from (hf12186 30 (by decide)).trans (hf11865 30 (by decide))] at h9; exact h9
                have t12193 : 0 ≤ (v 37).toInt ∧ (v 37).toInt ≤ 9 := by have h9 := hI.1 37 _ _ rfl; rw [show v12184 37 = v 37 from (hf12186 37 (by decide)).trans (hf11865 37 (by decide))] at h9; exact h9
                have t12194 : 0 ≤ (v11863 38).toInt ∧ (v11863 38).toInt ≤ 120 := by have h9 := hI.1 38 _ _ rfl; rw [show v12184 38 = v11863 38 from hf12186 38 (by decide)] at h9; exact h9
                have t12195 : 0 ≤ (v12184 39).toInt ∧ (v12184 39).toInt ≤ 120 := hI.1 39 _ _ rfl
                have t12196 : 0 ≤ (v12184 41).toInt ∧ (v12184 41).toInt ≤ 8 := hI.1 41 _ _ rfl
                refine va_callv (va_runV (As := []) (rest := []) ⟨hx, hb, hml, hown, hwd⟩ (rE l dC dI g c adK adV v12184 F12185 rc H.size  (d + 1) hg hI (by have h9 : v12184 38 = v11863 38 := hf12186 38 (by decide); (try rw [h9]); clear h9; have h9 : v12184 39 = v12184 39 := rfl; (try rw [h9]); clear h9; have h9 : v12184 30 = v 30 := (hf12186 30 (by decide)).trans (hf11865 30 (by decide)); (try rw [h9]); clear h9; have h9 : v12184 40 = v12184 40 := rfl; (try rw [h9]); clear h9; have h9 : v12184 41 = v12184 41 := rfl; (try rw [h9]); clear h9; omega) (by have h9 : v12184 37 = (v 37) := (hf12186 37 (by decide)).trans (hf11865 37 (by decide)); have h8 : v12184 38 = (v11863 38) := hf12186 38 (by decide); (try rw [h9]); (try rw [h8]); exact hd (by omega))) (cwV 0 hwd (gV wk_1010 wk_1007 wk_1008 wk_1009 wk_5) rfl rfl rfl (by decide +kernel) ⟨(by show fr + 3 + 1 ≤ fr + 7; omega), (by show 8 + (2 + 11) + (lc + 120) ≤ lc + 280; omega)⟩) ⟨PM.blind, va_recv hK hP (ci := 12) (q0 := 0) rfl rfl, fun U hU hW => ⟨rfl, PM.at hK hE hP hS hU hW⟩⟩ rfl rfl hl.1 rfl (lv_room (Nat.le_of_ble_eq_true rfl)) dX12_either_80 ⟨Nat.le_of_ble_eq_true rfl, Nat.le_of_ble_eq_true rfl⟩) hS (fun q _ h => (freeM hS) q h) (freeM hS) (fun u t H1 locs ht hvm hw hB hz1 hk1 hS => ?_)
                unfold BM at hB
                rw [ht] at hB
                obtain ⟨v12198, F12199, rc9⟩ := u
                obtain ⟨hI, hrc, hf12200, hG12201, hw⟩ := hw
                dsimp only at hI hrc hB hf12200 hG12201 hw
                have hF := frCF (by decide) hG12201 hF
                rw [hrc] at hB
                have hP : va_P (dC, dI) classes (wM g c v12198 F12199 rc) H1 := hB
                replace hw : ((v12184 39).toInt ≤ (v12198 39).toInt ∧ (v12198 39).toInt ≤ (v12184 30).toInt ∧ (v12184 38).toInt ≤ (v12198 38).toInt ∧ (v12198 38).toInt - (v12184 38).toInt ≤ (v12198 39).toInt - (v12184 39).toInt ∧ (v12184 41).toInt ≤ (v12198 41).toInt ∧ ((v12198 40).toInt < 0 → (v12198 41).toInt = (v12184 41).toInt)) ∧ keepL (v12184 37) (F12185 28) (F12185 29) (F12199 28) (F12199 29) ∧ ((v12198 40).toInt < 0 → dp (F12199 28) (F12199 29) (bI (v12184 37)) (v12198 38).toInt.toNat = some ((d + 1) + 1)) := hw
                rw [show v12184 30 = v 30 from (hf12186 30 (by decide)).trans (hf11865 30 (by decide))] at hw
                rw [show v12184 38 = v11863 38 from hf12186 38 (by decide)] at hw
                rw [show v12184 37 = v 37 from (hf12186 37 (by decide)).trans (hf11865 37 (by decide))] at hw
                have hw_r12197 := hw
                clear hw
                have t12202 : 0 ≤ (v12198 38).toInt ∧ (v12198 38).toInt ≤ 120 := hI.1 38 _ _ rfl
                have t12203 : 0 ≤ (v12198 39).toInt ∧ (v12198 39).toInt ≤ 120 := hI.1 39 _ _ rfl
                have t12204 : 0 ≤ (v12198 41).toInt ∧ (v12198 41).toInt ≤ 8 := hI.1 41 _ _ rfl
                clear hz1
                generalize H1 = H at hP hS ⊢
                replace hk := hk.tr hw_r12197.2.1
                replace hd := hw_r12197.2.2
                replace hw_r12197 := hw_r12197.1
                refine lv_aload_n hx hb dX12_either_83 rfl (lv_at hl 1 rfl) ?_
                refine va_get (D := (dC, dI)) (ci := 12) (v := .int (v12198 40)) (C := RX12) (T := TX12) (N := 63) hx hb hwd inA_X12 hown hK hP 0 rfl rfl 40 (by decide) (hwd _ wk_1005) (fun _ h9 => h9) rfl dX12_either_84 ?_
                refine lv_if_lt (tgt := 91) hx hb dX12_either_87 (by decide) (fun c12205 => ?_) (fun c12205 => ?_)
                · skip
                  have t12206 := cv_lt (a := (v12198 40).toInt) rfl (b := 0) (by decide) c12205
                  refine lv_aload_n hx hb dX12_either_91 rfl (lv_at hl 1 rfl) ?_
                  have t12207 : 0 ≤ (v 30).toInt ∧ (v 30).toInt ≤ 120 := by have h9 := hI.1 30 _ _ rfl; rw [show v12198 30 = v 30 from (hf12200 30 (by decide)).trans ((hf12186 30 (by decide)).trans (hf11865 30 (by decide)))] at h9; exact h9
                  have t12208 : 0 ≤ (v12198 39).toInt ∧ (v12198 39).toInt ≤ 120 := hI.1 39 _ _ rfl
                  refine va_calli (va_runV (As := []) (rest := []) ⟨hx, hb, hml, hown, hwd⟩ (c_X12_look l dC dI g c adK adV v12198 F12199 rc H.size  hg hI ) (cwV 0 hwd (gV wk_1017 wk_1014 wk_1015 wk_1016 wk_5) rfl rfl rfl (by decide +kernel) ⟨(by show 1 + 1 ≤ fr + 7; omega), (by show 8 + (1 + 11) + (40) ≤ lc + 280; omega)⟩) ⟨PM.blind, va_recv hK hP (ci := 12) (q0 := 0) rfl rfl, fun U hU hW => ⟨rfl, PM.at hK hE hP hS hU hW⟩⟩ rfl rfl hl.1 rfl (lv_room (Nat.le_of_ble_eq_true rfl)) dX12_either_92 ⟨Nat.le_of_ble_eq_true rfl, Nat.le_of_ble_eq_true rfl⟩) hS (fun q _ h => (freeM hS) q h) (freeM hS) (fun r12209 u t H1 locs ht hvm hw hB hz1 hk1 hS => ?_)
                  unfold BM at hB
                  rw [ht] at hB
                  have hP : va_P (dC, dI) classes (wM g c v12198 F12199 rc) H1 := hB
                  replace hw : r12209.toInt = lkM (v12198 39) (v12198 30) (F12199 24) ∧ ((v12198 39).toInt < (v12198 30).toInt ∨ r12209.toInt = -1) := hw
                  rw [show v12198 30 = v 30 from (hf12200 30 (by decide)).trans ((hf12186 30 (by decide)).trans (hf11865 30 (by decide)))] at hw
                  rw [hF 24 (by decide)] at hw
                  have hw_r12209 := hw
                  clear hw
                  clear hz1
                  generalize H1 = H at hP hS ⊢
                  refine lv_bipush (v := 58) hx hb dX12_either_95 (by decide) ?_
                  refine lv_icmp_eq (tgt := 105) hx hb dX12_either_97 (by decide) (fun c12210 => ?_) (fun c12210 => ?_)
                  · skip
                    have t12211 := cv_eq (a := r12209.toInt) rfl (b := 58) (by decide) c12210
                    refine lv_aload_n hx hb dX12_either_105 rfl (lv_at hl 1 rfl) ?_
                    refine lv_dup hx hb dX12_either_106 rfl ?_
                    refine va_get (D := (dC, dI)) (ci := 12) (v := .int (v12198 39)) (C := RX12) (T := TX12) (N := 63) hx hb hwd inA_X12 hown hK hP 0 rfl rfl 39 (by decide) (hwd _ wk_1004) (fun _ h9 => h9) rfl dX12_either_107 ?_
                    have t12212 : 0 ≤ (v12198 39).toInt ∧ (v12198 39).toInt ≤ 120 := hI.1 39 _ _ rfl
                    refine lv_iconst (v := 1) hx hb dX12_either_110 (by decide) ?_
                    refine lv_iadd hx hb dX12_either_111 ?_
                    refine lv_topi (fun z12213 e12214 => ?_)
                    try (have t12215 := tadd e12214 (a := (v12198 39).toInt) rfl (b := 1) (by decide) (by omega))
                    refine va_put (D := (dC, dI)) (ci := 12) (v := .int z12213) (ty := .int) (C := RX12) (T := TX12) (N := 63) (fs := fsM_0 g v12198 rc) hx hb hwd inA_X12 tyX12 tyX12_ok nmX12 hown hK hP (DM hg) hS 0 rfl rfl 39 (by decide) (hwd _ wk_1004) (fun _ h9 => h9) rfl (by decide +kernel) rfl rfl (Nat.le_of_ble_eq_true rfl) dX12_either_112 (fun H locs hP _ hS => ?_)
                    have hP := va_P_eq (pM_39 g c _ _ _ _) hP
                    have hI := IM.put hI 39 z12213 rfl (by omega)
                    refine lv_aload_n hx hb dX12_either_115 rfl (lv_at hl 1 rfl) ?_
                    have t12216 : 0 ≤ (v 30).toInt ∧ (v 30).toInt ≤ 120 := by have h9 := hI.1 30 _ _ rfl; rw [show (va_up v12198 39 z12213) 30 = v 30 from (hf12200 30 (by decide)).trans ((hf12186 30 (by decide)).trans (hf11865 30 (by decide)))] at h9; exact h9
                    have t12217 : 0 ≤ (v 37).toInt ∧ (v 37).toInt ≤ 9 := by have h9 := hI.1 37 _ _ rfl; rw [show (va_up v12198 39 z12213) 37 = v 37 from (hf12200 37 (by decide)).trans ((hf12186 37 (by decide)).trans (hf11865 37 (by decide)))] at h9; exact h9
                    have t12218 : 0 ≤ (v12198 38).toInt ∧ (v12198 38).toInt ≤ 120 := hI.1 38 _ _ rfl
                    have t12219 : 0 ≤ z12213.toInt ∧ z12213.toInt ≤ 120 := hI.1 39 _ _ rfl
                    have t12220 : 0 ≤ (v12198 41).toInt ∧ (v12198 41).toInt ≤ 8 := hI.1 41 _ _ rfl
                    refine va_callv (va_runV (As := []) (rest := []) ⟨hx, hb, hml, hown, hwd⟩ (rE l dC dI g c adK adV (va_up v12198 39 z12213) F12199 rc H.size  ((d + 1) + 1) hg hI (by have h9 : (va_up v12198 39 z12213) 38 = v12198 38 := rfl; (try rw [h9]); clear h9; have h9 : (va_up v12198 39 z12213) 39 = z12213 := rfl; (try rw [h9]); clear h9; have h9 : (va_up v12198 39 z12213) 30 = v 30 := (hf12200 30 (by decide)).trans ((hf12186 30 (by decide)).trans (hf11865 30 (by decide))); (try rw [h9]); clear h9; have h9 : (va_up v12198 39 z12213) 40 = v12198 40 := rfl; (try rw [h9]); clear h9; have h9 : (va_up v12198 39 z12213) 41 = v12198 41 := rfl; (try rw [h9]); clear h9; omega) (by have h9 : (va_up v12198 39 z12213) 37 = (v 37) := (hf12200 37 (by decide)).trans ((hf12186 37 (by decide)).trans (hf11865 37 (by decide))); have h8 : (va_up v12198 39 z12213) 38 = (v12198 38) := rfl; (try rw [h9]); (try rw [h8]); exact hd (by omega))) (cwV 0 hwd (gV wk_1010 wk_1007 wk_1008 wk_1009 wk_5) rfl rfl rfl (by decide +kernel) ⟨(by show fr + 3 + 1 ≤ fr + 7; omega), (by show 8 + (2 + 11) + (lc + 120) ≤ lc + 280; omega)⟩) ⟨PM.blind, va_recv hK hP (ci := 12) (q0 := 0) rfl rfl, fun U hU hW => ⟨rfl, PM.at hK hE hP hS hU hW⟩⟩ rfl rfl hl.1 rfl (lv_room (Nat.le_of_ble_eq_true rfl)) dX12_either_116 ⟨Nat.le_of_ble_eq_true rfl, Nat.le_of_ble_eq_true rfl⟩) hS (fun q _ h => (freeM hS) q h) (freeM hS) (fun u t H1 locs ht hvm hw hB hz1 hk1 hS => ?_)
                    unfold BM at hB
                    rw [ht] at hB
                    obtain ⟨v12222, F12223, rc9⟩ := u
                    obtain ⟨hI, hrc, hf12224, hG12225, hw⟩ := hw
                    dsimp only at hI hrc hB hf12224 hG12225 hw
                    have hF := frCF (by decide) hG12225 hF
                    rw [hrc] at hB
                    have hP : va_P (dC, dI) classes (wM g c v12222 F12223 rc) H1 := hB
                    replace hw : (z12213.toInt ≤ (v12222 39).toInt ∧ (v12222 39).toInt ≤ ((va_up v12198 39 z12213) 30).toInt ∧ (v12198 38).toInt ≤ (v12222 38).toInt ∧ (v12222 38).toInt - (v12198 38).toInt ≤ (v12222 39).toInt - z12213.toInt ∧ (v12198 41).toInt ≤ (v12222 41).toInt ∧ ((v12222 40).toInt < 0 → (v12222 41).toInt = (v12198 41).toInt)) ∧ keepL ((va_up v12198 39 z12213) 37) (F12199 28) (F12199 29) (F12223 28) (F12223 29) ∧ ((v12222 40).toInt < 0 → dp (F12223 28) (F12223 29) (bI ((va_up v12198 39 z12213) 37)) (v12222 38).toInt.toNat = some (((d + 1) + 1) + 1)) := hw
                    rw [show (va_up v12198 39 z12213) 30 = v 30 from (hf12200 30 (by decide)).trans ((hf12186 30 (by decide)).trans (hf11865 30 (by decide)))] at hw
                    rw [show (va_up v12198 39 z12213) 37 = v 37 from (hf12200 37 (by decide)).trans ((hf12186 37 (by decide)).trans (hf11865 37 (by decide)))] at hw
                    have hw_r12221 := hw
                    clear hw
                    have t12226 : 0 ≤ (v12222 38).toInt ∧ (v12222 38).toInt ≤ 120 := hI.1 38 _ _ rfl
                    have t12227 : 0 ≤ (v12222 39).toInt ∧ (v12222 39).toInt ≤ 120 := hI.1 39 _ _ rfl
                    have t12228 : 0 ≤ (v12222 41).toInt ∧ (v12222 41).toInt ≤ 8 := hI.1 41 _ _ rfl
                    clear hz1
                    generalize H1 = H at hP hS ⊢
                    replace hk := hk.tr hw_r12221.2.1
                    replace hd := hw_r12221.2.2
                    replace hw_r12221 := hw_r12221.1
                    refine lv_aload_n hx hb dX12_either_119 rfl (lv_at hl 1 rfl) ?_
                    refine lv_iconst (v := 4) hx hb dX12_either_120 (by decide) ?_
                    refine lv_iconst (v := 0) hx hb dX12_either_121 (by decide) ?_
                    have t12229 : 0 ≤ (v 37).toInt ∧ (v 37).toInt ≤ 9 := by have h9 := hI.1 37 _ _ rfl; rw [show v12222 37 = v 37 from (hf12224 37 (by decide)).trans ((hf12200 37 (by decide)).trans ((hf12186 37 (by decide)).trans (hf11865 37 (by decide))))] at h9; exact h9
                    have t12230 : 0 ≤ (v12222 38).toInt ∧ (v12222 38).toInt ≤ 120 := hI.1 38 _ _ rfl
                    refine va_callv (va_runV (As := [.int 4, .int 0]) (rest := []) ⟨hx, hb, hml, hown, hwd⟩ (c_X12_lay l dC dI g c adK adV v12222 F12223 rc H.size 4 0 hg hI (by have h9 : v12222 38 = v12222 38 := rfl; rw [h9]; omega)) (cwV 2 hwd (gV wk_1021 wk_1018 wk_1019 wk_1020 wk_5) rfl rfl rfl (by decide +kernel) ⟨(by show 1 + 1 ≤ fr + 7; omega), (by show 8 + (3 + 11) + (40) ≤ lc + 280; omega)⟩) ⟨PM.blind, va_recv hK hP (ci := 12) (q0 := 0) rfl rfl, fun U hU hW => ⟨rfl, PM.at hK hE hP hS hU hW⟩⟩ rfl rfl hl.1 rfl (lv_room (Nat.le_of_ble_eq_true rfl)) dX12_either_122 ⟨Nat.le_of_ble_eq_true rfl, Nat.le_of_ble_eq_true rfl⟩) hS (fun q _ h => (freeM hS) q h) (freeM hS) (fun u t H1 locs ht hvm hw hB hz1 hk1 hS => ?_)
                    unfold BM at hB
                    rw [ht] at hB
                    obtain ⟨v12232, F12233, rc9⟩ := u
                    obtain ⟨hI, hrc, hf12234, hG12235, hw⟩ := hw
                    dsimp only at hI hrc hB hf12234 hG12235 hw
                    have hF := frCF (by decide) hG12235 hF
                    rw [hrc] at hB
                    have hP : va_P (dC, dI) classes (wM g c v12232 F12233 rc) H1 := hB
                    replace hw : (v12232 38).toInt = (v12222 38).toInt + 1 ∧ keepL (v12222 37) (F12223 28) (F12223 29) (F12233 28) (F12233 29) ∧ dp (F12233 28) (F12233 29) (bI (v12222 37)) ((v12222 38).toInt.toNat + 1) = dpS (dp (F12223 28) (F12223 29) (bI (v12222 37)) (v12222 38).toInt.toNat) (4 : Int32) (0 : Int32) := hw
                    rw [show v12222 37 = v 37 from (hf12224 37 (by decide)).trans ((hf12200 37 (by decide)).trans ((hf12186 37 (by decide)).trans (hf11865 37 (by decide))))] at hw
                    have hw_r12231 := hw
                    clear hw
                    have t12236 : 0 ≤ (v12232 38).toInt ∧ (v12232 38).toInt ≤ 120 := hI.1 38 _ _ rfl
                    have k12237 : (4 : Int32).toInt = 4 := by decide
                    have k12238 : (0 : Int32).toInt = 0 := by decide
                    clear hz1
                    generalize H1 = H at hP hS ⊢
                    replace hk := hk.tr hw_r12231.2.1
                    replace hd : (v12222 40).toInt < 0 → dp (F12233 28) (F12233 29) (bI (v 37)) (v12232 38).toInt.toNat = some ((((d + 1) + 1) + 1) - 2) := fun hf => (by have e9 : (v12232 38).toInt.toNat = (v12222 38).toInt.toNat + 1 := (by omega); rw [e9, hw_r12231.2.2, hd hf]; exact dpS_4 (by decide) (by omega))
                    replace hw_r12231 := hw_r12231.1
                    refine lv_aload_n hx hb dX12_either_125 rfl (lv_at hl 1 rfl) ?_
                    refine lv_dup hx hb dX12_either_126 rfl ?_
                    refine va_get (D := (dC, dI)) (ci := 12) (v := .int (v12232 41)) (C := RX12) (T := TX12) (N := 63) hx hb hwd inA_X12 hown hK hP 0 rfl rfl 41 (by decide) (hwd _ wk_1006) (fun _ h9 => h9) rfl dX12_either_127 ?_
                    refine my_top (v := v12222 41) (hf12234 41 (by decide)) ?_
                    have t12239 : 0 ≤ (v12222 41).toInt ∧ (v12222 41).toInt ≤ 8 := by have h9 := hI.1 41 _ _ rfl; rw [show v12232 41 = v12222 41 from hf12234 41 (by decide)] at h9; exact h9
                    refine lv_iconst (v := 1) hx hb dX12_either_130 (by decide) ?_
                    refine lv_isub hx hb dX12_either_131 ?_
                    refine lv_topi (fun z12240 e12241 => ?_)
                    try (have t12242 := tsub e12241 (a := (v12222 41).toInt) rfl (b := 1) (by decide) (by omega))
                    refine va_put (D := (dC, dI)) (ci := 12) (v := .int z12240) (ty := .int) (C := RX12) (T := TX12) (N := 63) (fs := fsM_0 g v12232 rc) hx hb hwd inA_X12 tyX12 tyX12_ok nmX12 hown hK hP (DM hg) hS 0 rfl rfl 41 (by decide) (hwd _ wk_1006) (fun _ h9 => h9) rfl (by decide +kernel) rfl rfl (Nat.le_of_ble_eq_true rfl) dX12_either_132 (fun H locs hP _ hS => ?_)
                    have hP := va_P_eq (pM_41 g c _ _ _ _) hP
                    have hI := IM.put hI 41 z12240 rfl (by omega)
                    have hP9 : va_P (dC, dI) classes (wM g c (va_up v12232 41 z12240) F12233 rc) H := hP
                    exact W.vret hx hb hr (fun t ht hW => ⟨⟨((va_up v12232 41 z12240), F12233, rc), rfl, ⟨hI, rfl, (frU (by decide) (frC (by decide) hf12234 (frC (by decide) hf12224 (frU (by decide) (frC (by decide) hf12200 (frC (by decide) hf12186 (frC (by decide) hf11865 (fun _ _ => rfl)))))))), hF, (by show ((v 39).toInt ≤ ((va_up v12232 41 z12240) 39).toInt ∧ ((va_up v12232 41 z12240) 39).toInt ≤ (v 30).toInt ∧ (v 38).toInt ≤ (v12232 38).toInt ∧ (v12232 38).toInt - (v 38).toInt ≤ ((va_up v12232 41 z12240) 39).toInt - (v 39).toInt ∧ (v 41).toInt ≤ z12240.toInt ∧ (((va_up v12232 41 z12240) 40).toInt < 0 → z12240.toInt = (v 41).toInt)) ∧ keepL (v 37) (F 28) (F 29) (F12233 28) (F12233 29) ∧ (((va_up v12232 41 z12240) 40).toInt < 0 → dp (F12233 28) (F12233 29) (bI (v 37)) (v12232 38).toInt.toNat = some (d + 1)); rw [show (va_up v12232 41 z12240) 39 = v12222 39 from hf12234 39 (by decide)]; rw [show (va_up v12232 41 z12240) 40 = v12222 40 from hf12234 40 (by decide)]; exact ⟨by omega, hk, fun hf => (hd (by omega)).trans (congrArg some (by omega))⟩)⟩, (by show va_P _ _ _ t.heap; rw [ht]; exact hP9)⟩, hS.F ht⟩) hS.2.2 dX12_either_135
                  · skip
                    have t12243 := cv_ne (a := r12209.toInt) rfl (b := 58) (by decide) c12210
                    refine lv_aload_n hx hb dX12_either_100 rfl (lv_at hl 1 rfl) ?_
                    refine va_callv (va_runV (As := []) (rest := []) ⟨hx, hb, hml, hown, hwd⟩ (c_X12_wrong l dC dI g c adK adV v12198 F12199 rc H.size  hg hI ) (cwV 0 hwd (gV wk_1029 wk_1026 wk_1027 wk_1028 wk_5) rfl rfl rfl (by decide +kernel) ⟨(by show 1 + 1 ≤ fr + 7; omega), (by show 8 + (1 + 11) + (40) ≤ lc + 280; omega)⟩) ⟨PM.blind, va_recv hK hP (ci := 12) (q0 := 0) rfl rfl, fun U hU hW => ⟨rfl, PM.at hK hE hP hS hU hW⟩⟩ rfl rfl hl.1 rfl (lv_room (Nat.le_of_ble_eq_true rfl)) dX12_either_101 ⟨Nat.le_of_ble_eq_true rfl, Nat.le_of_ble_eq_true rfl⟩) hS (fun q _ h => (freeM hS) q h) (freeM hS) (fun u t H1 locs ht hvm hw hB hz1 hk1 hS => ?_)
                    unfold BM at hB
                    rw [ht] at hB
                    obtain ⟨v12245, F12246, rc9⟩ := u
                    obtain ⟨hI, hrc, hf12247, hG12248, hw⟩ := hw
                    dsimp only at hI hrc hB hf12247 hG12248 hw
                    have hF := frCF (by decide) hG12248 hF
                    rw [hrc] at hB
                    have hP : va_P (dC, dI) classes (wM g c v12245 F12246 rc) H1 := hB
                    replace hw : 0 ≤ (v12245 40).toInt := hw
                    have hw_r12244 := hw
                    clear hw
                    clear hz1
                    generalize H1 = H at hP hS ⊢
                    replace hk : keepL (v 37) (F 28) (F 29) (F12246 28) (F12246 29) := by rw [hG12248 28 (by decide), hG12248 29 (by decide)]; exact hk
                    replace hd : (v12245 40).toInt < 0 → dp (F12246 28) (F12246 29) (bI (v 37)) (v12198 38).toInt.toNat = some ((d + 1) + 1) := fun hf => (by rw [hG12248 28 (by decide), hG12248 29 (by decide)]; exact hd (by omega))
                    have hP9 : va_P (dC, dI) classes (wM g c v12245 F12246 rc) H := hP
                    exact W.vret hx hb hr (fun t ht hW => ⟨⟨(v12245, F12246, rc), rfl, ⟨hI, rfl, (frC (by decide) hf12247 (frC (by decide) hf12200 (frC (by decide) hf12186 (frC (by decide) hf11865 (fun _ _ => rfl))))), hF, (by show ((v 39).toInt ≤ (v12245 39).toInt ∧ (v12245 39).toInt ≤ (v 30).toInt ∧ (v 38).toInt ≤ (v12245 38).toInt ∧ (v12245 38).toInt - (v 38).toInt ≤ (v12245 39).toInt - (v 39).toInt ∧ (v 41).toInt ≤ (v12245 41).toInt ∧ ((v12245 40).toInt < 0 → (v12245 41).toInt = (v 41).toInt)) ∧ keepL (v 37) (F 28) (F 29) (F12246 28) (F12246 29) ∧ ((v12245 40).toInt < 0 → dp (F12246 28) (F12246 29) (bI (v 37)) (v12245 38).toInt.toNat = some (d + 1)); rw [show v12245 39 = v12198 39 from hf12247 39 (by decide)]; rw [show v12245 38 = v12198 38 from hf12247 38 (by decide)]; rw [show v12245 41 = v12198 41 from hf12247 41 (by decide)]; exact ⟨by omega, hk, fun hf => (hd (by omega)).trans (congrArg some (by omega))⟩)⟩, (by show va_P _ _ _ t.heap; rw [ht]; exact hP9)⟩, hS.F ht⟩) hS.2.2 dX12_either_104
                · skip
                  have t12249 := cv_nlt (a := (v12198 40).toInt) rfl (b := 0) (by decide) c12205
                  have hP9 : va_P (dC, dI) classes (wM g c v12198 F12199 rc) H := hP
                  exact W.vret hx hb hr (fun t ht hW => ⟨⟨(v12198, F12199, rc), rfl, ⟨hI, rfl, (frC (by decide) hf12200 (frC (by decide) hf12186 (frC (by decide) hf11865 (fun _ _ => rfl)))), hF, (by show ((v 39).toInt ≤ (v12198 39).toInt ∧ (v12198 39).toInt ≤ (v 30).toInt ∧ (v 38).toInt ≤ (v12198 38).toInt ∧ (v12198 38).toInt - (v 38).toInt ≤ (v12198 39).toInt - (v 39).toInt ∧ (v 41).toInt ≤ (v12198 41).toInt ∧ ((v12198 40).toInt < 0 → (v12198 41).toInt = (v 41).toInt)) ∧ keepL (v 37) (F 28) (F 29) (F12199 28) (F12199 29) ∧ ((v12198 40).toInt < 0 → dp (F12199 28) (F12199 29) (bI (v 37)) (v12198 38).toInt.toNat = some (d + 1)); exact ⟨by omega, hk, fun hf => (hd (by omega)).trans (congrArg some (by omega))⟩)⟩, (by show va_P _ _ _ t.heap; rw [ht]; exact hP9)⟩, hS.F ht⟩) hS.2.2 dX12_either_90
              · skip
                have t12250 := cv_eq (a := r12183.toInt) rfl (b := 0) (by decide) c12190
                have hP9 : va_P (dC, dI) classes (wM g c v12184 F12185 rc) H := hP
                exact W.vret hx hb hr (fun t ht hW => ⟨⟨(v12184, F12185, rc), rfl, ⟨hI, rfl, (frC (by decide) hf12186 (frC (by decide) hf11865 (fun _ _ => rfl))), hF, (by show ((v 39).toInt ≤ (v12184 39).toInt ∧ (v12184 39).toInt ≤ (v 30).toInt ∧ (v 38).toInt ≤ (v12184 38).toInt ∧ (v12184 38).toInt - (v 38).toInt ≤ (v12184 39).toInt - (v 39).toInt ∧ (v 41).toInt ≤ (v12184 41).toInt ∧ ((v12184 40).toInt < 0 → (v12184 41).toInt = (v 41).toInt)) ∧ keepL (v 37) (F 28) (F 29) (F12185 28) (F12185 29) ∧ ((v12184 40).toInt < 0 → dp (F12185 28) (F12185 29) (bI (v 37)) (v12184 38).toInt.toNat = some (d + 1)); rw [show v12184 38 = v11863 38 from hf12186 38 (by decide)]; exact ⟨by omega, hk, fun hf => (hd (by omega)).trans (congrArg some (by omega))⟩)⟩, (by show va_P _ _ _ t.heap; rw [ht]; exact hP9)⟩, hS.F ht⟩) hS.2.2 dX12_either_78
            · skip
              have t12251 := cv_ne (a := r12178.toInt) rfl (b := 63) (by decide) c12179
              have hP9 : va_P (dC, dI) classes (wM g c v11863 F11864 rc) H := hP
              exact W.vret hx hb hr (fun t ht hW => ⟨⟨(v11863, F11864, rc), rfl, ⟨hI, rfl, (frC (by decide) hf11865 (fun _ _ => rfl)), hF, (by show ((v 39).toInt ≤ (v11863 39).toInt ∧ (v11863 39).toInt ≤ (v 30).toInt ∧ (v 38).toInt ≤ (v11863 38).toInt ∧ (v11863 38).toInt - (v 38).toInt ≤ (v11863 39).toInt - (v 39).toInt ∧ (v 41).toInt ≤ (v11863 41).toInt ∧ ((v11863 40).toInt < 0 → (v11863 41).toInt = (v 41).toInt)) ∧ keepL (v 37) (F 28) (F 29) (F11864 28) (F11864 29) ∧ ((v11863 40).toInt < 0 → dp (F11864 28) (F11864 29) (bI (v 37)) (v11863 38).toInt.toNat = some (d + 1)); exact ⟨by omega, hk, fun hf => (hd (by omega)).trans (congrArg some (by omega))⟩)⟩, (by show va_P _ _ _ t.heap; rw [ht]; exact hP9)⟩, hS.F ht⟩) hS.2.2 dX12_either_70
        · skip
          have t12252 := cv_eq (a := r11872.toInt) rfl (b := 62) (by decide) c12171
          refine lv_aload_n hx hb dX12_either_34 rfl (lv_at hl 1 rfl) ?_
          refine lv_dup hx hb dX12_either_35 rfl ?_
          refine va_get (D := (dC, dI)) (ci := 12) (v := .int (v11863 39)) (C := RX12) (T := TX12) (N := 63) hx hb hwd inA_X12 hown hK hP 0 rfl rfl 39 (by decide) (hwd _ wk_1004) (fun _ h9 => h9) rfl dX12_either_36 ?_
          have t12253 : 0 ≤ (v11863 39).toInt ∧ (v11863 39).toInt ≤ 120 := hI.1 39 _ _ rfl
          refine lv_iconst (v := 1) hx hb dX12_either_39 (by decide) ?_
          refine lv_iadd hx hb dX12_either_40 ?_
          refine lv_topi (fun z12254 e12255 => ?_)
          try (have t12256 := tadd e12255 (a := (v11863 39).toInt) rfl (b := 1) (by decide) (by omega))
          refine va_put (D := (dC, dI)) (ci := 12) (v := .int z12254) (ty := .int) (C := RX12) (T := TX12) (N := 63) (fs := fsM_0 g v11863 rc) hx hb hwd inA_X12 tyX12 tyX12_ok nmX12 hown hK hP (DM hg) hS 0 rfl rfl 39 (by decide) (hwd _ wk_1004) (fun _ h9 => h9) rfl (by decide +kernel) rfl rfl (Nat.le_of_ble_eq_true rfl) dX12_either_41 (fun H locs hP _ hS => ?_)
          have hP := va_P_eq (pM_39 g c _ _ _ _) hP
          have hI := IM.put hI 39 z12254 rfl (by omega)
          refine lv_aload_n hx hb dX12_either_44 rfl (lv_at hl 1 rfl) ?_
          have t12257 : 0 ≤ (v 30).toInt ∧ (v 30).toInt ≤ 120 := by have h9 := hI.1 30 _ _ rfl; rw [show (va_up v11863 39 z12254) 30 = v 30 from hf11865 30 (by decide)] at h9; exact h9
          have t12258 : 0 ≤ (v 37).toInt ∧ (v 37).toInt ≤ 9 := by have h9 := hI.1 37 _ _ rfl; rw [show (va_up v11863 39 z12254) 37 = v 37 from hf11865 37 (by decide)] at h9; exact h9
          have t12259 : 0 ≤ (v11863 38).toInt ∧ (v11863 38).toInt ≤ 120 := hI.1 38 _ _ rfl
          have t12260 : 0 ≤ z12254.toInt ∧ z12254.toInt ≤ 120 := hI.1 39 _ _ rfl
          have t12261 : 0 ≤ (v11863 41).toInt ∧ (v11863 41).toInt ≤ 8 := hI.1 41 _ _ rfl
          refine va_callv (va_runV (As := []) (rest := []) ⟨hx, hb, hml, hown, hwd⟩ (c_X12_sum D fr lc rO rE l dC dI g c adK adV (va_up v11863 39 z12254) F11864 rc H.size  (d + 1) hg hI (by have h9 : (va_up v11863 39 z12254) 38 = v11863 38 := rfl; (try rw [h9]); clear h9; have h9 : (va_up v11863 39 z12254) 39 = z12254 := rfl; (try rw [h9]); clear h9; have h9 : (va_up v11863 39 z12254) 30 = v 30 := hf11865 30 (by decide); (try rw [h9]); clear h9; have h9 : (va_up v11863 39 z12254) 40 = v11863 40 := rfl; (try rw [h9]); clear h9; have h9 : (va_up v11863 39 z12254) 41 = v11863 41 := rfl; (try rw [h9]); clear h9; omega) (by have h9 : (va_up v11863 39 z12254) 37 = (v 37) := hf11865 37 (by decide); have h8 : (va_up v11863 39 z12254) 38 = (v11863 38) := rfl; (try rw [h9]); (try rw [h8]); exact hd (by omega))) (cwV 0 hwd (gV wk_1043 wk_1011 wk_1012 wk_1013 wk_5) rfl rfl rfl (by decide +kernel) ⟨(by show fr + 6 + 1 ≤ fr + 7; omega), (by show 8 + (2 + 11) + (lc + 240) ≤ lc + 280; omega)⟩) ⟨PM.blind, va_recv hK hP (ci := 12) (q0 := 0) rfl rfl, fun U hU hW => ⟨rfl, PM.at hK hE hP hS hU hW⟩⟩ rfl rfl hl.1 rfl (lv_room (Nat.le_of_ble_eq_true rfl)) dX12_either_45 ⟨Nat.le_of_ble_eq_true rfl, Nat.le_of_ble_eq_true rfl⟩) hS (fun q _ h => (freeM hS) q h) (freeM hS) (fun u t H1 locs ht hvm hw hB hz1 hk1 hS => ?_)
          unfold BM at hB
          rw [ht] at hB
          obtain ⟨v12263, F12264, rc9⟩ := u
          obtain ⟨hI, hrc, hf12265, hG12266, hw⟩ := hw
          dsimp only at hI hrc hB hf12265 hG12266 hw
          have hF := frCF (by decide) hG12266 hF
          rw [hrc] at hB
          have hP : va_P (dC, dI) classes (wM g c v12263 F12264 rc) H1 := hB
          replace hw : (z12254.toInt ≤ (v12263 39).toInt ∧ (v12263 39).toInt ≤ ((va_up v11863 39 z12254) 30).toInt ∧ (v11863 38).toInt ≤ (v12263 38).toInt ∧ (v12263 38).toInt - (v11863 38).toInt ≤ (v12263 39).toInt - z12254.toInt ∧ (v11863 41).toInt ≤ (v12263 41).toInt ∧ ((v12263 40).toInt < 0 → (v12263 41).toInt = (v11863 41).toInt)) ∧ keepL ((va_up v11863 39 z12254) 37) (F11864 28) (F11864 29) (F12264 28) (F12264 29) ∧ ((v12263 40).toInt < 0 → dp (F12264 28) (F12264 29) (bI ((va_up v11863 39 z12254) 37)) (v12263 38).toInt.toNat = some ((d + 1) + 1)) := hw
          rw [show (va_up v11863 39 z12254) 30 = v 30 from hf11865 30 (by decide)] at hw
          rw [show (va_up v11863 39 z12254) 37 = v 37 from hf11865 37 (by decide)] at hw
          have hw_r12262 := hw
          clear hw
          have t12267 : 0 ≤ (v12263 38).toInt ∧ (v12263 38).toInt ≤ 120 := hI.1 38 _ _ rfl
          have t12268 : 0 ≤ (v12263 39).toInt ∧ (v12263 39).toInt ≤ 120 := hI.1 39 _ _ rfl
          have t12269 : 0 ≤ (v12263 41).toInt ∧ (v12263 41).toInt ≤ 8 := hI.1 41 _ _ rfl
          clear hz1
          generalize H1 = H at hP hS ⊢
          replace hk := hk.tr hw_r12262.2.1
          replace hd := hw_r12262.2.2
          replace hw_r12262 := hw_r12262.1
          refine lv_aload_n hx hb dX12_either_48 rfl (lv_at hl 1 rfl) ?_
          refine lv_iload_n hx hb dX12_either_49 rfl (lv_at hl 0 rfl) ?_
          refine lv_iconst (v := 0) hx hb dX12_either_50 (by decide) ?_
          have t12270 : 0 ≤ (v 37).toInt ∧ (v 37).toInt ≤ 9 := by have h9 := hI.1 37 _ _ rfl; rw [show v12263 37 = v 37 from (hf12265 37 (by decide)).trans (hf11865 37 (by decide))] at h9; exact h9
          have t12271 : 0 ≤ (v12263 38).toInt ∧ (v12263 38).toInt ≤ 120 := hI.1 38 _ _ rfl
          refine va_callv (va_runV (As := [.int r11872, .int 0]) (rest := []) ⟨hx, hb, hml, hown, hwd⟩ (c_X12_lay l dC dI g c adK adV v12263 F12264 rc H.size r11872 0 hg hI (by have h9 : v12263 38 = v12263 38 := rfl; rw [h9]; omega)) (cwV 2 hwd (gV wk_1021 wk_1018 wk_1019 wk_1020 wk_5) rfl rfl rfl (by decide +kernel) ⟨(by show 1 + 1 ≤ fr + 7; omega), (by show 8 + (3 + 11) + (40) ≤ lc + 280; omega)⟩) ⟨PM.blind, va_recv hK hP (ci := 12) (q0 := 0) rfl rfl, fun U hU hW => ⟨rfl, PM.at hK hE hP hS hU hW⟩⟩ rfl rfl hl.1 rfl (lv_room (Nat.le_of_ble_eq_true rfl)) dX12_either_51 ⟨Nat.le_of_ble_eq_true rfl, Nat.le_of_ble_eq_true rfl⟩) hS (fun q _ h => (freeM hS) q h) (freeM hS) (fun u t H1 locs ht hvm hw hB hz1 hk1 hS => ?_)
          unfold BM at hB
          rw [ht] at hB
          obtain ⟨v12273, F12274, rc9⟩ := u
          obtain ⟨hI, hrc, hf12275, hG12276, hw⟩ := hw
          dsimp only at hI hrc hB hf12275 hG12276 hw
          have hF := frCF (by decide) hG12276 hF
          rw [hrc] at hB
          have hP : va_P (dC, dI) classes (wM g c v12273 F12274 rc) H1 := hB
          replace hw : (v12273 38).toInt = (v12263 38).toInt + 1 ∧ keepL (v12263 37) (F12264 28) (F12264 29) (F12274 28) (F12274 29) ∧ dp (F12274 28) (F12274 29) (bI (v12263 37)) ((v12263 38).toInt.toNat + 1) = dpS (dp (F12264 28) (F12264 29) (bI (v12263 37)) (v12263 38).toInt.toNat) r11872 (0 : Int32) := hw
          rw [show v12263 37 = v 37 from (hf12265 37 (by decide)).trans (hf11865 37 (by decide))] at hw
          have hw_r12272 := hw
          clear hw
          have t12277 : 0 ≤ (v12273 38).toInt ∧ (v12273 38).toInt ≤ 120 := hI.1 38 _ _ rfl
          have k12278 : (0 : Int32).toInt = 0 := by decide
          clear hz1
          generalize H1 = H at hP hS ⊢
          replace hk := hk.tr hw_r12272.2.1
          replace hd : (v12263 40).toInt < 0 → dp (F12274 28) (F12274 29) (bI (v 37)) (v12273 38).toInt.toNat = some (((d + 1) + 1) - 1) := fun hf => (by have e9 : (v12273 38).toInt.toNat = (v12263 38).toInt.toNat + 1 := (by omega); rw [e9, hw_r12272.2.2, hd hf]; exact dpS_5 (by omega) (by omega) (by omega) (by omega) (by omega))
          replace hw_r12272 := hw_r12272.1
          refine lv_aload_n hx hb dX12_either_54 rfl (lv_at hl 1 rfl) ?_
          refine va_get (D := (dC, dI)) (ci := 12) (v := .int (v12273 40)) (C := RX12) (T := TX12) (N := 63) hx hb hwd inA_X12 hown hK hP 0 rfl rfl 40 (by decide) (hwd _ wk_1005) (fun _ h9 => h9) rfl dX12_either_55 ?_
          refine my_top (v := v12263 40) (hf12275 40 (by decide)) ?_
          refine lv_if_ge (tgt := 70) hx hb dX12_either_58 (by decide) (fun c12279 => ?_) (fun c12279 => ?_)
          · skip
            have t12280 := cv_le (a := 0) (by decide) (b := (v12263 40).toInt) rfl c12279
            have hP9 : va_P (dC, dI) classes (wM g c v12273 F12274 rc) H := hP
            exact W.vret hx hb hr (fun t ht hW => ⟨⟨(v12273, F12274, rc), rfl, ⟨hI, rfl, (frC (by decide) hf12275 (frC (by decide) hf12265 (frU (by decide) (frC (by decide) hf11865 (fun _ _ => rfl))))), hF, (by show ((v 39).toInt ≤ (v12273 39).toInt ∧ (v12273 39).toInt ≤ (v 30).toInt ∧ (v 38).toInt ≤ (v12273 38).toInt ∧ (v12273 38).toInt - (v 38).toInt ≤ (v12273 39).toInt - (v 39).toInt ∧ (v 41).toInt ≤ (v12273 41).toInt ∧ ((v12273 40).toInt < 0 → (v12273 41).toInt = (v 41).toInt)) ∧ keepL (v 37) (F 28) (F 29) (F12274 28) (F12274 29) ∧ ((v12273 40).toInt < 0 → dp (F12274 28) (F12274 29) (bI (v 37)) (v12273 38).toInt.toNat = some (d + 1)); rw [show v12273 39 = v12263 39 from hf12275 39 (by decide)]; rw [show v12273 41 = v12263 41 from hf12275 41 (by decide)]; rw [show v12273 40 = v12263 40 from hf12275 40 (by decide)]; exact ⟨by omega, hk, fun hf => (hd (by omega)).trans (congrArg some (by omega))⟩)⟩, (by show va_P _ _ _ t.heap; rw [ht]; exact hP9)⟩, hS.F ht⟩) hS.2.2 dX12_either_70
          · skip
            have t12281 := cv_nle (a := 0) (by decide) (b := (v12263 40).toInt) rfl c12279
            refine lv_aload_n hx hb dX12_either_61 rfl (lv_at hl 1 rfl) ?_
            have t12282 : 0 ≤ (v 30).toInt ∧ (v 30).toInt ≤ 120 := by have h9 := hI.1 30 _ _ rfl; rw [show v12273 30 = v 30 from (hf12275 30 (by decide)).trans ((hf12265 30 (by decide)).trans (hf11865 30 (by decide)))] at h9; exact h9
            have t12283 : 0 ≤ (v12263 39).toInt ∧ (v12263 39).toInt ≤ 120 := by have h9 := hI.1 39 _ _ rfl; rw [show v12273 39 = v12263 39 from hf12275 39 (by decide)] at h9; exact h9
            refine va_calli (va_runV (As := []) (rest := []) ⟨hx, hb, hml, hown, hwd⟩ (c_X12_look l dC dI g c adK adV v12273 F12274 rc H.size  hg hI ) (cwV 0 hwd (gV wk_1017 wk_1014 wk_1015 wk_1016 wk_5) rfl rfl rfl (by decide +kernel) ⟨(by show 1 + 1 ≤ fr + 7; omega), (by show 8 + (1 + 11) + (40) ≤ lc + 280; omega)⟩) ⟨PM.blind, va_recv hK hP (ci := 12) (q0 := 0) rfl rfl, fun U hU hW => ⟨rfl, PM.at hK hE hP hS hU hW⟩⟩ rfl rfl hl.1 rfl (lv_room (Nat.le_of_ble_eq_true rfl)) dX12_either_62 ⟨Nat.le_of_ble_eq_true rfl, Nat.le_of_ble_eq_true rfl⟩) hS (fun q _ h => (freeM hS) q h) (freeM hS) (fun r12284 u t H1 locs ht hvm hw hB hz1 hk1 hS => ?_)
            unfold BM at hB
            rw [ht] at hB
            have hP : va_P (dC, dI) classes (wM g c v12273 F12274 rc) H1 := hB
            replace hw : r12284.toInt = lkM (v12273 39) (v12273 30) (F12274 24) ∧ ((v12273 39).toInt < (v12273 30).toInt ∨ r12284.toInt = -1) := hw
            rw [show v12273 39 = v12263 39 from hf12275 39 (by decide)] at hw
            rw [show v12273 30 = v 30 from (hf12275 30 (by decide)).trans ((hf12265 30 (by decide)).trans (hf11865 30 (by decide)))] at hw
            rw [hF 24 (by decide)] at hw
            have hw_r12284 := hw
            clear hw
            clear hz1
            generalize H1 = H at hP hS ⊢
            refine lv_bipush (v := 63) hx hb dX12_either_65 (by decide) ?_
            refine lv_icmp_eq (tgt := 71) hx hb dX12_either_67 (by decide) (fun c12285 => ?_) (fun c12285 => ?_)
            · skip
              have t12286 := cv_eq (a := r12284.toInt) rfl (b := 63) (by decide) c12285
              refine lv_aload_n hx hb dX12_either_71 rfl (lv_at hl 1 rfl) ?_
              have t12287 : 0 ≤ (v12263 39).toInt ∧ (v12263 39).toInt ≤ 120 := by have h9 := hI.1 39 _ _ rfl; rw [show v12273 39 = v12263 39 from hf12275 39 (by decide)] at h9; exact h9
              have t12288 : 0 ≤ (v12263 41).toInt ∧ (v12263 41).toInt ≤ 8 := by have h9 := hI.1 41 _ _ rfl; rw [show v12273 41 = v12263 41 from hf12275 41 (by decide)] at h9; exact h9
              refine va_calli (va_runV (As := []) (rest := []) ⟨hx, hb, hml, hown, hwd⟩ (c_X12_opens l dC dI g c adK adV v12273 F12274 rc H.size  hg hI (by have h9 : v12273 39 = v12263 39 := hf12275 39 (by decide); (try rw [h9]); clear h9; have h9 : v12273 30 = v 30 := (hf12275 30 (by decide)).trans ((hf12265 30 (by decide)).trans (hf11865 30 (by decide))); (try rw [h9]); clear h9; omega)) (cwV 0 hwd (gV wk_1025 wk_1022 wk_1023 wk_1024 wk_5) rfl rfl rfl (by decide +kernel) ⟨(by show 2 + 1 ≤ fr + 7; omega), (by show 8 + (1 + 11) + (80) ≤ lc + 280; omega)⟩) ⟨PM.blind, va_recv hK hP (ci := 12) (q0 := 0) rfl rfl, fun U hU hW => ⟨rfl, PM.at hK hE hP hS hU hW⟩⟩ rfl rfl hl.1 rfl (lv_room (Nat.le_of_ble_eq_true rfl)) dX12_either_72 ⟨Nat.le_of_ble_eq_true rfl, Nat.le_of_ble_eq_true rfl⟩) hS (fun q _ h => (freeM hS) q h) (freeM hS) (fun r12289 u t H1 locs ht hvm hw hB hz1 hk1 hS => ?_)
              unfold BM at hB
              rw [ht] at hB
              obtain ⟨v12290, F12291, rc9⟩ := u
              obtain ⟨hI, hrc, hf12292, hG12293, hw⟩ := hw
              dsimp only at hI hrc hB hf12292 hG12293 hw
              have hF := frCF (by decide) hG12293 hF
              rw [hrc] at hB
              have hP : va_P (dC, dI) classes (wM g c v12290 F12291 rc) H1 := hB
              replace hw : (r12289.toInt = 1 ∧ (v12273 41).toInt < 8 ∧ (v12290 41).toInt = (v12273 41).toInt + 1 ∧ (v12290 39).toInt = (v12273 39).toInt + 1 ∧ (v12290 40).toInt = (v12273 40).toInt) ∨ (r12289.toInt = 0 ∧ (v12273 41).toInt = 8 ∧ 0 ≤ (v12290 40).toInt ∧ (v12290 41).toInt = (v12273 41).toInt ∧ (v12290 39).toInt = (v12273 39).toInt) := hw
              rw [show v12273 41 = v12263 41 from hf12275 41 (by decide)] at hw
              rw [show v12273 39 = v12263 39 from hf12275 39 (by decide)] at hw
              rw [show v12273 40 = v12263 40 from hf12275 40 (by decide)] at hw
              have hw_r12289 := hw
              clear hw
              have t12294 : 0 ≤ (v12290 39).toInt ∧ (v12290 39).toInt ≤ 120 := hI.1 39 _ _ rfl
              have t12295 : 0 ≤ (v12290 41).toInt ∧ (v12290 41).toInt ≤ 8 := hI.1 41 _ _ rfl
              clear hz1
              generalize H1 = H at hP hS ⊢
              replace hk : keepL (v 37) (F 28) (F 29) (F12291 28) (F12291 29) := by rw [hG12293 28 (by decide), hG12293 29 (by decide)]; exact hk
              replace hd : (v12290 40).toInt < 0 → dp (F12291 28) (F12291 29) (bI (v 37)) (v12273 38).toInt.toNat = some (((d + 1) + 1) - 1) := fun hf => (by rw [hG12293 28 (by decide), hG12293 29 (by decide)]; exact hd (by omega))
              refine lv_if_ne (tgt := 79) hx hb dX12_either_75 (by decide) (fun c12296 => ?_) (fun c12296 => ?_)
              · skip
                have t12297 := cv_ne (a := r12289.toInt) rfl (b := 0) (by decide) c12296
                refine lv_aload_n hx hb dX12_either_79 rfl (lv_at hl 1 rfl) ?_
                have t12298 : 0 ≤ (v 30).toInt ∧ (v 30).toInt ≤ 120 := by have h9 := hI.1 30 _ _ rfl; rw [show v12290 30 = v 30 from (hf12292 30 (by decide)).trans ((hf12275 30 (by decide)).trans ((hf12265 30 (by decide)).trans (hf11865 30 (by decide))))] at h9; exact h9
                have t12299 : 0 ≤ (v 37).toInt ∧ (v 37).toInt ≤ 9 := by have h9 := hI.1 37 _ _ rfl; rw [show v12290 37 = v 37 from (hf12292 37 (by decide)).trans ((hf12275 37 (by decide)).trans ((hf12265 37 (by decide)).trans (hf11865 37 (by decide))))] at h9; exact h9
                have t12300 : 0 ≤ (v12273 38).toInt ∧ (v12273 38).toInt ≤ 120 := by have h9 := hI.1 38 _ _ rfl; rw [show v12290 38 = v12273 38 from hf12292 38 (by decide)] at h9; exact h9
                have t12301 : 0 ≤ (v12290 39).toInt ∧ (v12290 39).toInt ≤ 120 := hI.1 39 _ _ rfl
                have t12302 : 0 ≤ (v12290 41).toInt ∧ (v12290 41).toInt ≤ 8 := hI.1 41 _ _ rfl
                refine va_callv (va_runV (As := []) (rest := []) ⟨hx, hb, hml, hown, hwd⟩ (rE l dC dI g c adK adV v12290 F12291 rc H.size  (((d + 1) + 1) - 1) hg hI (by have h9 : v12290 38 = v12273 38 := hf12292 38 (by decide); (try rw [h9]); clear h9; have h9 : v12290 39 = v12290 39 := rfl; (try rw [h9]); clear h9; have h9 : v12290 30 = v 30 := (hf12292 30 (by decide)).trans ((hf12275 30 (by decide)).trans ((hf12265 30 (by decide)).trans (hf11865 30 (by decide)))); (try rw [h9]); clear h9; have h9 : v12290 40 = v12290 40 := rfl; (try rw [h9]); clear h9; have h9 : v12290 41 = v12290 41 := rfl; (try rw [h9]); clear h9; omega) (by have h9 : v12290 37 = (v 37) := (hf12292 37 (by decide)).trans ((hf12275 37 (by decide)).trans ((hf12265 37 (by decide)).trans (hf11865 37 (by decide)))); have h8 : v12290 38 = (v12273 38) := hf12292 38 (by decide); (try rw [h9]); (try rw [h8]); exact hd (by omega))) (cwV 0 hwd (gV wk_1010 wk_1007 wk_1008 wk_1009 wk_5) rfl rfl rfl (by decide +kernel) ⟨(by show fr + 3 + 1 ≤ fr + 7; omega), (by show 8 + (2 + 11) + (lc + 120) ≤ lc + 280; omega)⟩) ⟨PM.blind, va_recv hK hP (ci := 12) (q0 := 0) rfl rfl, fun U hU hW => ⟨rfl, PM.at hK hE hP hS hU hW⟩⟩ rfl rfl hl.1 rfl (lv_room (Nat.le_of_ble_eq_true rfl)) dX12_either_80 ⟨Nat.le_of_ble_eq_true rfl, Nat.le_of_ble_eq_true rfl⟩) hS (fun q _ h => (freeM hS) q h) (freeM hS) (fun u t H1 locs ht hvm hw hB hz1 hk1 hS => ?_)
                unfold BM at hB
                rw [ht] at hB
                obtain ⟨v12304, F12305, rc9⟩ := u
                obtain ⟨hI, hrc, hf12306, hG12307, hw⟩ := hw
                dsimp only at hI hrc hB hf12306 hG12307 hw
                have hF := frCF (by decide) hG12307 hF
                rw [hrc] at hB
                have hP : va_P (dC, dI) classes (wM g c v12304 F12305 rc) H1 := hB
                replace hw : ((v12290 39).toInt ≤ (v12304 39).toInt ∧ (v12304 39).toInt ≤ (v12290 30).toInt ∧ (v12290 38).toInt ≤ (v12304 38).toInt ∧ (v12304 38).toInt - (v12290 38).toInt ≤ (v12304 39).toInt - (v12290 39).toInt ∧ (v12290 41).toInt ≤ (v12304 41).toInt ∧ ((v12304 40).toInt < 0 → (v12304 41).toInt = (v12290 41).toInt)) ∧ keepL (v12290 37) (F12291 28) (F12291 29) (F12305 28) (F12305 29) ∧ ((v12304 40).toInt < 0 → dp (F12305 28) (F12305 29) (bI (v12290 37)) (v12304 38).toInt.toNat = some ((((d + 1) + 1) - 1) + 1)) := hw
                rw [show v12290 30 = v 30 from (hf12292 30 (by decide)).trans ((hf12275 30 (by decide)).trans ((hf12265 30 (by decide)).trans (hf11865 30 (by decide))))] at hw
                rw [show v12290 38 = v12273 38 from hf12292 38 (by decide)] at hw
                rw [show v12290 37 = v 37 from (hf12292 37 (by decide)).trans ((hf12275 37 (by decide)).trans ((hf12265 37 (by decide)).trans (hf11865 37 (by decide))))] at hw
                have hw_r12303 := hw
                clear hw
                have t12308 : 0 ≤ (v12304 38).toInt ∧ (v12304 38).toInt ≤ 120 := hI.1 38 _ _ rfl
                have t12309 : 0 ≤ (v12304 39).toInt ∧ (v12304 39).toInt ≤ 120 := hI.1 39 _ _ rfl
                have t12310 : 0 ≤ (v12304 41).toInt ∧ (v12304 41).toInt ≤ 8 := hI.1 41 _ _ rfl
                clear hz1
                generalize H1 = H at hP hS ⊢
                replace hk := hk.tr hw_r12303.2.1
                replace hd := hw_r12303.2.2
                replace hw_r12303 := hw_r12303.1
                refine lv_aload_n hx hb dX12_either_83 rfl (lv_at hl 1 rfl) ?_
                refine va_get (D := (dC, dI)) (ci := 12) (v := .int (v12304 40)) (C := RX12) (T := TX12) (N := 63) hx hb hwd inA_X12 hown hK hP 0 rfl rfl 40 (by decide) (hwd _ wk_1005) (fun _ h9 => h9) rfl dX12_either_84 ?_
                refine lv_if_lt (tgt := 91) hx hb dX12_either_87 (by decide) (fun c12311 => ?_) (fun c12311 => ?_)
                · skip
                  have t12312 := cv_lt (a := (v12304 40).toInt) rfl (b := 0) (by decide) c12311
                  refine lv_aload_n hx hb dX12_either_91 rfl (lv_at hl 1 rfl) ?_
                  have t12313 : 0 ≤ (v 30).toInt ∧ (v 30).toInt ≤ 120 := by have h9 := hI.1 30 _ _ rfl; rw [show v12304 30 = v 30 from (hf12306 30 (by decide)).trans ((hf12292 30 (by decide)).trans ((hf12275 30 (by decide)).trans ((hf12265 30 (by decide)).trans (hf11865 30 (by decide)))))] at h9; exact h9
                  have t12314 : 0 ≤ (v12304 39).toInt ∧ (v12304 39).toInt ≤ 120 := hI.1 39 _ _ rfl
                  refine va_calli (va_runV (As := []) (rest := []) ⟨hx, hb, hml, hown, hwd⟩ (c_X12_look l dC dI g c adK adV v12304 F12305 rc H.size  hg hI ) (cwV 0 hwd (gV wk_1017 wk_1014 wk_1015 wk_1016 wk_5) rfl rfl rfl (by decide +kernel) ⟨(by show 1 + 1 ≤ fr + 7; omega), (by show 8 + (1 + 11) + (40) ≤ lc + 280; omega)⟩) ⟨PM.blind, va_recv hK hP (ci := 12) (q0 := 0) rfl rfl, fun U hU hW => ⟨rfl, PM.at hK hE hP hS hU hW⟩⟩ rfl rfl hl.1 rfl (lv_room (Nat.le_of_ble_eq_true rfl)) dX12_either_92 ⟨Nat.le_of_ble_eq_true rfl, Nat.le_of_ble_eq_true rfl⟩) hS (fun q _ h => (freeM hS) q h) (freeM hS) (fun r12315 u t H1 locs ht hvm hw hB hz1 hk1 hS => ?_)
                  unfold BM at hB
                  rw [ht] at hB
                  have hP : va_P (dC, dI) classes (wM g c v12304 F12305 rc) H1 := hB
                  replace hw : r12315.toInt = lkM (v12304 39) (v12304 30) (F12305 24) ∧ ((v12304 39).toInt < (v12304 30).toInt ∨ r12315.toInt = -1) := hw
                  rw [show v12304 30 = v 30 from (hf12306 30 (by decide)).trans ((hf12292 30 (by decide)).trans ((hf12275 30 (by decide)).trans ((hf12265 30 (by decide)).trans (hf11865 30 (by decide)))))] at hw
                  rw [hF 24 (by decide)] at hw
                  have hw_r12315 := hw
                  clear hw
                  clear hz1
                  generalize H1 = H at hP hS ⊢
                  refine lv_bipush (v := 58) hx hb dX12_either_95 (by decide) ?_
                  refine lv_icmp_eq (tgt := 105) hx hb dX12_either_97 (by decide) (fun c12316 => ?_) (fun c12316 => ?_)
                  · skip
                    have t12317 := cv_eq (a := r12315.toInt) rfl (b := 58) (by decide) c12316
                    refine lv_aload_n hx hb dX12_either_105 rfl (lv_at hl 1 rfl) ?_
                    refine lv_dup hx hb dX12_either_106 rfl ?_
                    refine va_get (D := (dC, dI)) (ci := 12) (v := .int (v12304 39)) (C := RX12) (T := TX12) (N := 63) hx hb hwd inA_X12 hown hK hP 0 rfl rfl 39 (by decide) (hwd _ wk_1004) (fun _ h9 => h9) rfl dX12_either_107 ?_
                    have t12318 : 0 ≤ (v12304 39).toInt ∧ (v12304 39).toInt ≤ 120 := hI.1 39 _ _ rfl
                    refine lv_iconst (v := 1) hx hb dX12_either_110 (by decide) ?_
                    refine lv_iadd hx hb dX12_either_111 ?_
                    refine lv_topi (fun z12319 e12320 => ?_)
                    try (have t12321 := tadd e12320 (a := (v12304 39).toInt) rfl (b := 1) (by decide) (by omega))
                    refine va_put (D := (dC, dI)) (ci := 12) (v := .int z12319) (ty := .int) (C := RX12) (T := TX12) (N := 63) (fs := fsM_0 g v12304 rc) hx hb hwd inA_X12 tyX12 tyX12_ok nmX12 hown hK hP (DM hg) hS 0 rfl rfl 39 (by decide) (hwd _ wk_1004) (fun _ h9 => h9) rfl (by decide +kernel) rfl rfl (Nat.le_of_ble_eq_true rfl) dX12_either_112 (fun H locs hP _ hS => ?_)
                    have hP := va_P_eq (pM_39 g c _ _ _ _) hP
                    have hI := IM.put hI 39 z12319 rfl (by omega)
                    refine lv_aload_n hx hb dX12_either_115 rfl (lv_at hl 1 rfl) ?_
                    have t12322 : 0 ≤ (v 30).toInt ∧ (v 30).toInt ≤ 120 := by have h9 := hI.1 30 _ _ rfl; rw [show (va_up v12304 39 z12319) 30 = v 30 from (hf12306 30 (by decide)).trans ((hf12292 30 (by decide)).trans ((hf12275 30 (by decide)).trans ((hf12265 30 (by decide)).trans (hf11865 30 (by decide)))))] at h9; exact h9
                    have t12323 : 0 ≤ (v 37).toInt ∧ (v 37).toInt ≤ 9 := by have h9 := hI.1 37 _ _ rfl; rw [show (va_up v12304 39 z12319) 37 = v 37 from (hf12306 37 (by decide)).trans ((hf12292 37 (by decide)).trans ((hf12275 37 (by decide)).trans ((hf12265 37 (by decide)).trans (hf11865 37 (by decide)))))] at h9; exact h9
                    have t12324 : 0 ≤ (v12304 38).toInt ∧ (v12304 38).toInt ≤ 120 := hI.1 38 _ _ rfl
                    have t12325 : 0 ≤ z12319.toInt ∧ z12319.toInt ≤ 120 := hI.1 39 _ _ rfl
                    have t12326 : 0 ≤ (v12304 41).toInt ∧ (v12304 41).toInt ≤ 8 := hI.1 41 _ _ rfl
                    refine va_callv (va_runV (As := []) (rest := []) ⟨hx, hb, hml, hown, hwd⟩ (rE l dC dI g c adK adV (va_up v12304 39 z12319) F12305 rc H.size  ((((d + 1) + 1) - 1) + 1) hg hI (by have h9 : (va_up v12304 39 z12319) 38 = v12304 38 := rfl; (try rw [h9]); clear h9; have h9 : (va_up v12304 39 z12319) 39 = z12319 := rfl; (try rw [h9]); clear h9; have h9 : (va_up v12304 39 z12319) 30 = v 30 := (hf12306 30 (by decide)).trans ((hf12292 30 (by decide)).trans ((hf12275 30 (by decide)).trans ((hf12265 30 (by decide)).trans (hf11865 30 (by decide))))); (try rw [h9]); clear h9; have h9 : (va_up v12304 39 z12319) 40 = v12304 40 := rfl; (try rw [h9]); clear h9; have h9 : (va_up v12304 39 z12319) 41 = v12304 41 := rfl; (try rw [h9]); clear h9; omega) (by have h9 : (va_up v12304 39 z12319) 37 = (v 37) := (hf12306 37 (by decide)).trans ((hf12292 37 (by decide)).trans ((hf12275 37 (by decide)).trans ((hf12265 37 (by decide)).trans (hf11865 37 (by decide))))); have h8 : (va_up v12304 39 z12319) 38 = (v12304 38) := rfl; (try rw [h9]); (try rw [h8]); exact hd (by omega))) (cwV 0 hwd (gV wk_1010 wk_1007 wk_1008 wk_1009 wk_5) rfl rfl rfl (by decide +kernel) ⟨(by show fr + 3 + 1 ≤ fr + 7; omega), (by show 8 + (2 + 11) + (lc + 120) ≤ lc + 280; omega)⟩) ⟨PM.blind, va_recv hK hP (ci := 12) (q0 := 0) rfl rfl, fun U hU hW => ⟨rfl, PM.at hK hE hP hS hU hW⟩⟩ rfl rfl hl.1 rfl (lv_room (Nat.le_of_ble_eq_true rfl)) dX12_either_116 ⟨Nat.le_of_ble_eq_true rfl, Nat.le_of_ble_eq_true rfl⟩) hS (fun q _ h => (freeM hS) q h) (freeM hS) (fun u t H1 locs ht hvm hw hB hz1 hk1 hS => ?_)
                    unfold BM at hB
                    rw [ht] at hB
                    obtain ⟨v12328, F12329, rc9⟩ := u
                    obtain ⟨hI, hrc, hf12330, hG12331, hw⟩ := hw
                    dsimp only at hI hrc hB hf12330 hG12331 hw
                    have hF := frCF (by decide) hG12331 hF
                    rw [hrc] at hB
                    have hP : va_P (dC, dI) classes (wM g c v12328 F12329 rc) H1 := hB
                    replace hw : (z12319.toInt ≤ (v12328 39).toInt ∧ (v12328 39).toInt ≤ ((va_up v12304 39 z12319) 30).toInt ∧ (v12304 38).toInt ≤ (v12328 38).toInt ∧ (v12328 38).toInt - (v12304 38).toInt ≤ (v12328 39).toInt - z12319.toInt ∧ (v12304 41).toInt ≤ (v12328 41).toInt ∧ ((v12328 40).toInt < 0 → (v12328 41).toInt = (v12304 41).toInt)) ∧ keepL ((va_up v12304 39 z12319) 37) (F12305 28) (F12305 29) (F12329 28) (F12329 29) ∧ ((v12328 40).toInt < 0 → dp (F12329 28) (F12329 29) (bI ((va_up v12304 39 z12319) 37)) (v12328 38).toInt.toNat = some (((((d + 1) + 1) - 1) + 1) + 1)) := hw
                    rw [show (va_up v12304 39 z12319) 30 = v 30 from (hf12306 30 (by decide)).trans ((hf12292 30 (by decide)).trans ((hf12275 30 (by decide)).trans ((hf12265 30 (by decide)).trans (hf11865 30 (by decide)))))] at hw
                    rw [show (va_up v12304 39 z12319) 37 = v 37 from (hf12306 37 (by decide)).trans ((hf12292 37 (by decide)).trans ((hf12275 37 (by decide)).trans ((hf12265 37 (by decide)).trans (hf11865 37 (by decide)))))] at hw
                    have hw_r12327 := hw
                    clear hw
                    have t12332 : 0 ≤ (v12328 38).toInt ∧ (v12328 38).toInt ≤ 120 := hI.1 38 _ _ rfl
                    have t12333 : 0 ≤ (v12328 39).toInt ∧ (v12328 39).toInt ≤ 120 := hI.1 39 _ _ rfl
                    have t12334 : 0 ≤ (v12328 41).toInt ∧ (v12328 41).toInt ≤ 8 := hI.1 41 _ _ rfl
                    clear hz1
                    generalize H1 = H at hP hS ⊢
                    replace hk := hk.tr hw_r12327.2.1
                    replace hd := hw_r12327.2.2
                    replace hw_r12327 := hw_r12327.1
                    refine lv_aload_n hx hb dX12_either_119 rfl (lv_at hl 1 rfl) ?_
                    refine lv_iconst (v := 4) hx hb dX12_either_120 (by decide) ?_
                    refine lv_iconst (v := 0) hx hb dX12_either_121 (by decide) ?_
                    have t12335 : 0 ≤ (v 37).toInt ∧ (v 37).toInt ≤ 9 := by have h9 := hI.1 37 _ _ rfl; rw [show v12328 37 = v 37 from (hf12330 37 (by decide)).trans ((hf12306 37 (by decide)).trans ((hf12292 37 (by decide)).trans ((hf12275 37 (by decide)).trans ((hf12265 37 (by decide)).trans (hf11865 37 (by decide))))))] at h9; exact h9
                    have t12336 : 0 ≤ (v12328 38).toInt ∧ (v12328 38).toInt ≤ 120 := hI.1 38 _ _ rfl
                    refine va_callv (va_runV (As := [.int 4, .int 0]) (rest := []) ⟨hx, hb, hml, hown, hwd⟩ (c_X12_lay l dC dI g c adK adV v12328 F12329 rc H.size 4 0 hg hI (by have h9 : v12328 38 = v12328 38 := rfl; rw [h9]; omega)) (cwV 2 hwd (gV wk_1021 wk_1018 wk_1019 wk_1020 wk_5) rfl rfl rfl (by decide +kernel) ⟨(by show 1 + 1 ≤ fr + 7; omega), (by show 8 + (3 + 11) + (40) ≤ lc + 280; omega)⟩) ⟨PM.blind, va_recv hK hP (ci := 12) (q0 := 0) rfl rfl, fun U hU hW => ⟨rfl, PM.at hK hE hP hS hU hW⟩⟩ rfl rfl hl.1 rfl (lv_room (Nat.le_of_ble_eq_true rfl)) dX12_either_122 ⟨Nat.le_of_ble_eq_true rfl, Nat.le_of_ble_eq_true rfl⟩) hS (fun q _ h => (freeM hS) q h) (freeM hS) (fun u t H1 locs ht hvm hw hB hz1 hk1 hS => ?_)
                    unfold BM at hB
                    rw [ht] at hB
                    obtain ⟨v12338, F12339, rc9⟩ := u
                    obtain ⟨hI, hrc, hf12340, hG12341, hw⟩ := hw
                    dsimp only at hI hrc hB hf12340 hG12341 hw
                    have hF := frCF (by decide) hG12341 hF
                    rw [hrc] at hB
                    have hP : va_P (dC, dI) classes (wM g c v12338 F12339 rc) H1 := hB
                    replace hw : (v12338 38).toInt = (v12328 38).toInt + 1 ∧ keepL (v12328 37) (F12329 28) (F12329 29) (F12339 28) (F12339 29) ∧ dp (F12339 28) (F12339 29) (bI (v12328 37)) ((v12328 38).toInt.toNat + 1) = dpS (dp (F12329 28) (F12329 29) (bI (v12328 37)) (v12328 38).toInt.toNat) (4 : Int32) (0 : Int32) := hw
                    rw [show v12328 37 = v 37 from (hf12330 37 (by decide)).trans ((hf12306 37 (by decide)).trans ((hf12292 37 (by decide)).trans ((hf12275 37 (by decide)).trans ((hf12265 37 (by decide)).trans (hf11865 37 (by decide))))))] at hw
                    have hw_r12337 := hw
                    clear hw
                    have t12342 : 0 ≤ (v12338 38).toInt ∧ (v12338 38).toInt ≤ 120 := hI.1 38 _ _ rfl
                    have k12343 : (4 : Int32).toInt = 4 := by decide
                    have k12344 : (0 : Int32).toInt = 0 := by decide
                    clear hz1
                    generalize H1 = H at hP hS ⊢
                    replace hk := hk.tr hw_r12337.2.1
                    replace hd : (v12328 40).toInt < 0 → dp (F12339 28) (F12339 29) (bI (v 37)) (v12338 38).toInt.toNat = some ((((((d + 1) + 1) - 1) + 1) + 1) - 2) := fun hf => (by have e9 : (v12338 38).toInt.toNat = (v12328 38).toInt.toNat + 1 := (by omega); rw [e9, hw_r12337.2.2, hd hf]; exact dpS_4 (by decide) (by omega))
                    replace hw_r12337 := hw_r12337.1
                    refine lv_aload_n hx hb dX12_either_125 rfl (lv_at hl 1 rfl) ?_
                    refine lv_dup hx hb dX12_either_126 rfl ?_
                    refine va_get (D := (dC, dI)) (ci := 12) (v := .int (v12338 41)) (C := RX12) (T := TX12) (N := 63) hx hb hwd inA_X12 hown hK hP 0 rfl rfl 41 (by decide) (hwd _ wk_1006) (fun _ h9 => h9) rfl dX12_either_127 ?_
                    refine my_top (v := v12328 41) (hf12340 41 (by decide)) ?_
                    have t12345 : 0 ≤ (v12328 41).toInt ∧ (v12328 41).toInt ≤ 8 := by have h9 := hI.1 41 _ _ rfl; rw [show v12338 41 = v12328 41 from hf12340 41 (by decide)] at h9; exact h9
                    refine lv_iconst (v := 1) hx hb dX12_either_130 (by decide) ?_
                    refine lv_isub hx hb dX12_either_131 ?_
                    refine lv_topi (fun z12346 e12347 => ?_)
                    try (have t12348 := tsub e12347 (a := (v12328 41).toInt) rfl (b := 1) (by decide) (by omega))
                    refine va_put (D := (dC, dI)) (ci := 12) (v := .int z12346) (ty := .int) (C := RX12) (T := TX12) (N := 63) (fs := fsM_0 g v12338 rc) hx hb hwd inA_X12 tyX12 tyX12_ok nmX12 hown hK hP (DM hg) hS 0 rfl rfl 41 (by decide) (hwd _ wk_1006) (fun _ h9 => h9) rfl (by decide +kernel) rfl rfl (Nat.le_of_ble_eq_true rfl) dX12_either_132 (fun H locs hP _ hS => ?_)
                    have hP := va_P_eq (pM_41 g c _ _ _ _) hP
                    have hI := IM.put hI 41 z12346 rfl (by omega)
                    have hP9 : va_P (dC, dI) classes (wM g c (va_up v12338 41 z12346) F12339 rc) H := hP
                    exact W.vret hx hb hr (fun t ht hW => ⟨⟨((va_up v12338 41 z12346), F12339, rc), rfl, ⟨hI, rfl, (frU (by decide) (frC (by decide) hf12340 (frC (by decide) hf12330 (frU (by decide) (frC (by decide) hf12306 (frC (by decide) hf12292 (frC (by decide) hf12275 (frC (by decide) hf12265 (frU (by decide) (frC (by decide) hf11865 (fun _ _ => rfl))))))))))), hF, (by show ((v 39).toInt ≤ ((va_up v12338 41 z12346) 39).toInt ∧ ((va_up v12338 41 z12346) 39).toInt ≤ (v 30).toInt ∧ (v 38).toInt ≤ (v12338 38).toInt ∧ (v12338 38).toInt - (v 38).toInt ≤ ((va_up v12338 41 z12346) 39).toInt - (v 39).toInt ∧ (v 41).toInt ≤ z12346.toInt ∧ (((va_up v12338 41 z12346) 40).toInt < 0 → z12346.toInt = (v 41).toInt)) ∧ keepL (v 37) (F 28) (F 29) (F12339 28) (F12339 29) ∧ (((va_up v12338 41 z12346) 40).toInt < 0 → dp (F12339 28) (F12339 29) (bI (v 37)) (v12338 38).toInt.toNat = some (d + 1)); rw [show (va_up v12338 41 z12346) 39 = v12328 39 from hf12340 39 (by decide)]; rw [show (va_up v12338 41 z12346) 40 = v12328 40 from hf12340 40 (by decide)]; exact ⟨by omega, hk, fun hf => (hd (by omega)).trans (congrArg some (by omega))⟩)⟩, (by show va_P _ _ _ t.heap; rw [ht]; exact hP9)⟩, hS.F ht⟩) hS.2.2 dX12_either_135
                  · skip
                    have t12349 := cv_ne (a := r12315.toInt) rfl (b := 58) (by decide) c12316
                    refine lv_aload_n hx hb dX12_either_100 rfl (lv_at hl 1 rfl) ?_
                    refine va_callv (va_runV (As := []) (rest := []) ⟨hx, hb, hml, hown, hwd⟩ (c_X12_wrong l dC dI g c adK adV v12304 F12305 rc H.size  hg hI ) (cwV 0 hwd (gV wk_1029 wk_1026 wk_1027 wk_1028 wk_5) rfl rfl rfl (by decide +kernel) ⟨(by show 1 + 1 ≤ fr + 7; omega), (by show 8 + (1 + 11) + (40) ≤ lc + 280; omega)⟩) ⟨PM.blind, va_recv hK hP (ci := 12) (q0 := 0) rfl rfl, fun U hU hW => ⟨rfl, PM.at hK hE hP hS hU hW⟩⟩ rfl rfl hl.1 rfl (lv_room (Nat.le_of_ble_eq_true rfl)) dX12_either_101 ⟨Nat.le_of_ble_eq_true rfl, Nat.le_of_ble_eq_true rfl⟩) hS (fun q _ h => (freeM hS) q h) (freeM hS) (fun u t H1 locs ht hvm hw hB hz1 hk1 hS => ?_)
                    unfold BM at hB
                    rw [ht] at hB
                    obtain ⟨v12351, F12352, rc9⟩ := u
                    obtain ⟨hI, hrc, hf12353, hG12354, hw⟩ := hw
                    dsimp only at hI hrc hB hf12353 hG12354 hw
                    have hF := frCF (by decide) hG12354 hF
                    rw [hrc] at hB
                    have hP : va_P (dC, dI) classes (wM g c v12351 F12352 rc) H1 := hB
                    replace hw : 0 ≤ (v12351 40).toInt := hw
                    have hw_r12350 := hw
                    clear hw
                    clear hz1
                    generalize H1 = H at hP hS ⊢
                    replace hk : keepL (v 37) (F 28) (F 29) (F12352 28) (F12352 29) := by rw [hG12354 28 (by decide), hG12354 29 (by decide)]; exact hk
                    replace hd : (v12351 40).toInt < 0 → dp (F12352 28) (F12352 29) (bI (v 37)) (v12304 38).toInt.toNat = some ((((d + 1) + 1) - 1) + 1) := fun hf => (by rw [hG12354 28 (by decide), hG12354 29 (by decide)]; exact hd (by omega))
                    have hP9 : va_P (dC, dI) classes (wM g c v12351 F12352 rc) H := hP
                    exact W.vret hx hb hr (fun t ht hW => ⟨⟨(v12351, F12352, rc), rfl, ⟨hI, rfl, (frC (by decide) hf12353 (frC (by decide) hf12306 (frC (by decide) hf12292 (frC (by decide) hf12275 (frC (by decide) hf12265 (frU (by decide) (frC (by decide) hf11865 (fun _ _ => rfl)))))))), hF, (by show ((v 39).toInt ≤ (v12351 39).toInt ∧ (v12351 39).toInt ≤ (v 30).toInt ∧ (v 38).toInt ≤ (v12351 38).toInt ∧ (v12351 38).toInt - (v 38).toInt ≤ (v12351 39).toInt - (v 39).toInt ∧ (v 41).toInt ≤ (v12351 41).toInt ∧ ((v12351 40).toInt < 0 → (v12351 41).toInt = (v 41).toInt)) ∧ keepL (v 37) (F 28) (F 29) (F12352 28) (F12352 29) ∧ ((v12351 40).toInt < 0 → dp (F12352 28) (F12352 29) (bI (v 37)) (v12351 38).toInt.toNat = some (d + 1)); rw [show v12351 39 = v12304 39 from hf12353 39 (by decide)]; rw [show v12351 38 = v12304 38 from hf12353 38 (by decide)]; rw [show v12351 41 = v12304 41 from hf12353 41 (by decide)]; exact ⟨by omega, hk, fun hf => (hd (by omega)).trans (congrArg some (by omega))⟩)⟩, (by show va_P _ _ _ t.heap; rw [ht]; exact hP9)⟩, hS.F ht⟩) hS.2.2 dX12_either_104
                · skip
                  have t12355 := cv_nlt (a := (v12304 40).toInt) rfl (b := 0) (by decide) c12311
                  have hP9 : va_P (dC, dI) classes (wM g c v12304 F12305 rc) H := hP
                  exact W.vret hx hb hr (fun t ht hW => ⟨⟨(v12304, F12305, rc), rfl, ⟨hI, rfl, (frC (by decide) hf12306 (frC (by decide) hf12292 (frC (by decide) hf12275 (frC (by decide) hf12265 (frU (by decide) (frC (by decide) hf11865 (fun _ _ => rfl))))))), hF, (by show ((v 39).toInt ≤ (v12304 39).toInt ∧ (v12304 39).toInt ≤ (v 30).toInt ∧ (v 38).toInt ≤ (v12304 38).toInt ∧ (v12304 38).toInt - (v 38).toInt ≤ (v12304 39).toInt - (v 39).toInt ∧ (v 41).toInt ≤ (v12304 41).toInt ∧ ((v12304 40).toInt < 0 → (v12304 41).toInt = (v 41).toInt)) ∧ keepL (v 37) (F 28) (F 29) (F12305 28) (F12305 29) ∧ ((v12304 40).toInt < 0 → dp (F12305 28) (F12305 29) (bI (v 37)) (v12304 38).toInt.toNat = some (d + 1)); exact ⟨by omega, hk, fun hf => (hd (by omega)).trans (congrArg some (by omega))⟩)⟩, (by show va_P _ _ _ t.heap; rw [ht]; exact hP9)⟩, hS.F ht⟩) hS.2.2 dX12_either_90
              · skip
                have t12356 := cv_eq (a := r12289.toInt) rfl (b := 0) (by decide) c12296
                have hP9 : va_P (dC, dI) classes (wM g c v12290 F12291 rc) H := hP
                exact W.vret hx hb hr (fun t ht hW => ⟨⟨(v12290, F12291, rc), rfl, ⟨hI, rfl, (frC (by decide) hf12292 (frC (by decide) hf12275 (frC (by decide) hf12265 (frU (by decide) (frC (by decide) hf11865 (fun _ _ => rfl)))))), hF, (by show ((v 39).toInt ≤ (v12290 39).toInt ∧ (v12290 39).toInt ≤ (v 30).toInt ∧ (v 38).toInt ≤ (v12290 38).toInt ∧ (v12290 38).toInt - (v 38).toInt ≤ (v12290 39).toInt - (v 39).toInt ∧ (v 41).toInt ≤ (v12290 41).toInt ∧ ((v12290 40).toInt < 0 → (v12290 41).toInt = (v 41).toInt)) ∧ keepL (v 37) (F 28) (F 29) (F12291 28) (F12291 29) ∧ ((v12290 40).toInt < 0 → dp (F12291 28) (F12291 29) (bI (v 37)) (v12290 38).toInt.toNat = some (d + 1)); rw [show v12290 38 = v12273 38 from hf12292 38 (by decide)]; exact ⟨by omega, hk, fun hf => (hd (by omega)).trans (congrArg some (by omega))⟩)⟩, (by show va_P _ _ _ t.heap; rw [ht]; exact hP9)⟩, hS.F ht⟩) hS.2.2 dX12_either_78
            · skip
              have t12357 := cv_ne (a := r12284.toInt) rfl (b := 63) (by decide) c12285
              have hP9 : va_P (dC, dI) classes (wM g c v12273 F12274 rc) H := hP
              exact W.vret hx hb hr (fun t ht hW => ⟨⟨(v12273, F12274, rc), rfl, ⟨hI, rfl, (frC (by decide) hf12275 (frC (by decide) hf12265 (frU (by decide) (frC (by decide) hf11865 (fun _ _ => rfl))))), hF, (by show ((v 39).toInt ≤ (v12273 39).toInt ∧ (v12273 39).toInt ≤ (v 30).toInt ∧ (v 38).toInt ≤ (v12273 38).toInt ∧ (v12273 38).toInt - (v 38).toInt ≤ (v12273 39).toInt - (v 39).toInt ∧ (v 41).toInt ≤ (v12273 41).toInt ∧ ((v12273 40).toInt < 0 → (v12273 41).toInt = (v 41).toInt)) ∧ keepL (v 37) (F 28) (F 29) (F12274 28) (F12274 29) ∧ ((v12273 40).toInt < 0 → dp (F12274 28) (F12274 29) (bI (v 37)) (v12273 38).toInt.toNat = some (d + 1)); rw [show v12273 39 = v12263 39 from hf12275 39 (by decide)]; rw [show v12273 41 = v12263 41 from hf12275 41 (by decide)]; rw [show v12273 40 = v12263 40 from hf12275 40 (by decide)]; exact ⟨by omega, hk, fun hf => (hd (by omega)).trans (congrArg some (by omega))⟩)⟩, (by show va_P _ _ _ t.heap; rw [ht]; exact hP9)⟩, hS.F ht⟩) hS.2.2 dX12_either_70
