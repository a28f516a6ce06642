set_option maxHeartbeats 8000000 in
set_option maxRecDepth 100000 in
theorem c_X12_sum (D : Int) (fr lc : Nat) (rO : RPM 0 yX12_operand (Cond.code yX12_operand cX12_operand 2 none) (D + 1) fr lc) (rE : RPM 6 yX12_either (Cond.code yX12_either cX12_either 2 none) (D + 1) (fr + 3) (lc + 120)) (l : Launch) (dC : Nat → ClassId) (dI : Nat → Nat → Nat) (g : Nat → Nat) (c : Nat → ClassId) (adK adV : Nat → Nat) (v : Nat → Int32) (F : Nat → Nat → Int32) (rc sz : Nat) (d : Nat) (hg : injM g) (hI : IM v F) (hq : (v 38).toInt ≤ (v 39).toInt ∧ (v 39).toInt ≤ (v 30).toInt ∧ (v 40).toInt < 0 ∧ (v 41).toInt = D) (hdp : dp (F 28) (F 29) (bI (v 37)) (v 38).toInt.toNat = some d) : Met l yX12_sum (Cond.code yX12_sum cX12_sum 2 none :: wA) ({ frames := fr + 6, cells := 0, slots := 0, locals := lc + 240 }) (va_Pc [.ref (g 0)] (PM dC dI g c adK adV v F rc sz)) (va_Qv (fun (u : StM) => IM u.1 u.2.1 ∧ u.2.2 = rc ∧ (∀ k, k ∉ ([38, 39, 40, 41, 42] : List Nat) → u.1 k = v k) ∧ (∀ k, k ∉ ([28, 29] : List Nat) → u.2.1 k = F k) ∧ (((u.1 40).toInt ≤ (u.1 39).toInt ∧ (v 39).toInt ≤ (u.1 39).toInt ∧ (u.1 39).toInt ≤ (v 30).toInt ∧ (v 38).toInt ≤ (u.1 38).toInt ∧ (u.1 38).toInt - (v 38).toInt ≤ (u.1 39).toInt - (v 39).toInt ∧ (v 41).toInt ≤ (u.1 41).toInt ∧ ((u.1 40).toInt < 0 → (u.1 41).toInt = (v 41).toInt)) ∧ keepL (v 37) (F 28) (F 29) (u.2.1 28) (u.2.1 29) ∧ ((u.1 40).toInt < 0 → dp (u.2.1 28) (u.2.1 29) (bI (v 37)) (u.1 38).toInt.toNat = some (d + 1)) ∧ rd false (v 30) (F 24) 3 (v 41).toInt (v 39).toInt (u.1 40).toInt (u.1 39).toInt)) (BM dC dI g c) (AM g sz)) 0 0 (AM g sz) := by
  refine Met.ofW (cc := cX12_sum) (maxL := 2) (ret := none) (by decide) rfl ?_
  intro p e s m args below meth c0 s₁ B hml hv
  obtain ⟨rfl, hsz, hP, hK, hE⟩ := hv
  have hx := B.exec
  have hb := B.bytes
  have hr := B.returns
  have hts := atoms_spec (ws := Cond.code yX12_sum cX12_sum 2 none :: wA) B.pre
  have hwd : ∀ w ∈ wA, w.before _ s = true := fun w h => hts w (List.mem_cons_of_mem _ h)
  have hown : s.vm.findClass RX12 = some m.cls := findClass_of_methodNamed B.named
  have hlocks := B.notSynchronized
  subst hsz
  have hl := lv_entry ([.ref (g 0)]) (n := 2) (Nat.le_of_ble_eq_true rfl)
  rw [lg_entry_eq]
  generalize (lg_sl ([.ref (g 0)]) ++ List.replicate (2 - (lg_sl ([.ref (g 0)])).length) Slot.unset).toArray = ls at hl ⊢
  have hl : lv_has ls 2 [(0, .ref (g 0))] := hl
  obtain ⟨H, eH⟩ : ∃ z, z = s.heap := ⟨_, rfl⟩
  have hP : va_P (dC, dI) classes (wM g c v F rc) H := by rw [eH]; exact hP
  have hS : va_S (AM g s.heap.size) s.heap H [] := by rw [eH]; exact va_S.rf
  refine my_heap eH ?_
  have hF : ∀ k, k ∉ ([28, 29] : List Nat) → F k = F k := fun _ _ => rfl
  have hb30 : 0 ≤ (v 30).toInt ∧ (v 30).toInt ≤ 120 := hI.1 30 _ _ rfl
  have hb37 : 0 ≤ (v 37).toInt ∧ (v 37).toInt ≤ 9 := hI.1 37 _ _ rfl
  have hb38 : 0 ≤ (v 38).toInt ∧ (v 38).toInt ≤ 120 := hI.1 38 _ _ rfl
  have hb39 : 0 ≤ (v 39).toInt ∧ (v 39).toInt ≤ 120 := hI.1 39 _ _ rfl
  have hb41 : 0 ≤ (v 41).toInt ∧ (v 41).toInt ≤ 8 := hI.1 41 _ _ rfl
  have hk : keepL (v 37) (F 28) (F 29) (F 28) (F 29) := keepL.rf
  have hd : (v 40).toInt < 0 → dp (F 28) (F 29) (bI (v 37)) (v 38).toInt.toNat = some d := fun _ => hdp
  refine lv_aload_n hx hb dX12_sum_0 rfl (lv_at hl 0 rfl) ?_
  have t8950 : 0 ≤ (v 30).toInt ∧ (v 30).toInt ≤ 120 := hI.1 30 _ _ rfl
  have t8951 : 0 ≤ (v 37).toInt ∧ (v 37).toInt ≤ 9 := hI.1 37 _ _ rfl
  have t8952 : 0 ≤ (v 38).toInt ∧ (v 38).toInt ≤ 120 := hI.1 38 _ _ rfl
  have t8953 : 0 ≤ (v 39).toInt ∧ (v 39).toInt ≤ 120 := hI.1 39 _ _ rfl
  have t8954 : 0 ≤ (v 41).toInt ∧ (v 41).toInt ≤ 8 := hI.1 41 _ _ rfl
  refine va_callv (va_runV (As := []) (rest := []) ⟨hx, hb, hml, hown, hwd⟩ (c_X12_product D fr lc rO rE l dC dI g c adK adV v F rc H.size  d hg hI (by have h9 : v 38 = v 38 := rfl; (try rw [h9]); clear h9; have h9 : v 39 = v 39 := rfl; (try rw [h9]); clear h9; have h9 : v 30 = v 30 := rfl; (try rw [h9]); clear h9; have h9 : v 40 = v 40 := rfl; (try rw [h9]); clear h9; have h9 : v 41 = v 41 := rfl; (try rw [h9]); clear h9; omega) (by have h9 : v 37 = (v 37) := rfl; have h8 : v 38 = (v 38) := rfl; (try rw [h9]); (try rw [h8]); exact hd (by omega))) (cwV 0 hwd (gV wk_1042 wk_1044 wk_1045 wk_1046 wk_5) rfl rfl rfl (by decide +kernel) ⟨(by show fr + 5 + 1 ≤ fr + 6; omega), (by show 8 + (2 + 11) + (lc + 200) ≤ lc + 240; omega)⟩) ⟨PM.blind, va_recv hK hP (ci := 12) (q0 := 0) rfl rfl, fun U hU hW => ⟨rfl, PM.at hK hE hP hS hU hW⟩⟩ rfl rfl hl.1 rfl (lv_room (Nat.le_of_ble_eq_true rfl)) dX12_sum_1 ⟨Nat.le_of_ble_eq_true rfl, Nat.le_of_ble_eq_true rfl⟩) hS (fun q _ h => (freeM hS) q h) (freeM hS) (fun u t H1 locs ht hvm hw hB hz1 hk1 hS => ?_)
  unfold BM at hB
  rw [ht] at hB
  obtain ⟨v8956, F8957, rc9⟩ := u
  obtain ⟨hI, hrc, hf8958, hG8959, hw⟩ := hw
  dsimp only at hI hrc hB hf8958 hG8959 hw
  have hF := frCF (by decide) hG8959 hF
  rw [hrc] at hB
  have hP : va_P (dC, dI) classes (wM g c v8956 F8957 rc) H1 := hB
  replace hw : ((v8956 40).toInt ≤ (v8956 39).toInt ∧ (v 39).toInt ≤ (v8956 39).toInt ∧ (v8956 39).toInt ≤ (v 30).toInt ∧ (v 38).toInt ≤ (v8956 38).toInt ∧ (v8956 38).toInt - (v 38).toInt ≤ (v8956 39).toInt - (v 39).toInt ∧ (v 41).toInt ≤ (v8956 41).toInt ∧ ((v8956 40).toInt < 0 → (v8956 41).toInt = (v 41).toInt)) ∧ keepL (v 37) (F 28) (F 29) (F8957 28) (F8957 29) ∧ ((v8956 40).toInt < 0 → dp (F8957 28) (F8957 29) (bI (v 37)) (v8956 38).toInt.toNat = some (d + 1)) ∧ rd false (v 30) (F 24) 1 (v 41).toInt (v 39).toInt (v8956 40).toInt (v8956 39).toInt := hw
  have hw_r8955 := hw
  clear hw
  have t8960 : 0 ≤ (v8956 38).toInt ∧ (v8956 38).toInt ≤ 120 := hI.1 38 _ _ rfl
  have t8961 : 0 ≤ (v8956 39).toInt ∧ (v8956 39).toInt ≤ 120 := hI.1 39 _ _ rfl
  have t8962 : 0 ≤ (v8956 41).toInt ∧ (v8956 41).toInt ≤ 8 := hI.1 41 _ _ rfl
  clear hz1
  generalize H1 = H at hP hS ⊢
  replace hk := hk.tr hw_r8955.2.1
  replace hd := hw_r8955.2.2.1
  have hrd_r8955 := hw_r8955.2.2.2
  replace hw_r8955 := hw_r8955.1
  have lp8963 : ∀ (n : Nat) (v_lp8963 : Nat → Int32) (F_lp8963 : Nat → Nat → Int32) (H : Heap) (locs : List Loc) (ls : Array Slot), ((v_lp8963 40).toInt ≤ (v_lp8963 39).toInt ∧ (v 39).toInt ≤ (v_lp8963 39).toInt ∧ (v_lp8963 39).toInt ≤ (v 30).toInt ∧ (v 38).toInt ≤ (v_lp8963 38).toInt ∧ (v_lp8963 38).toInt - (v 38).toInt ≤ (v_lp8963 39).toInt - (v 39).toInt ∧ (v 41).toInt ≤ (v_lp8963 41).toInt ∧ ((v_lp8963 40).toInt < 0 → (v_lp8963 41).toInt = (v 41).toInt)) → (keepL (v 37) (F 28) (F 29) (F_lp8963 28) (F_lp8963 29)) → (((v_lp8963 40).toInt < 0 → dp (F_lp8963 28) (F_lp8963 29) (bI (v 37)) (v_lp8963 38).toInt.toNat = some (d + 1))) → (go false (v 30) (F 24) 3 4 (v 41).toInt (v 39).toInt (v_lp8963 40).toInt (v_lp8963 39).toInt) → (121 - (v_lp8963 39).toInt ≤ (n : Int)) → (∀ k, k ∉ ([38, 39, 40, 41, 42] : List Nat) → v_lp8963 k = v8956 k) → IM v_lp8963 F_lp8963 → (∀ k, k ∉ ([28, 29] : List Nat) → F_lp8963 k = F k) → va_P (dC, dI) classes (wM g c v_lp8963 F_lp8963 rc) H → va_S (AM g s.heap.size) s.heap H locs → lv_has ls 2 [(0, .ref (g 0))] → W p l e (headSpec (Cond.code yX12_sum cX12_sum 2 none :: wA) ({ frames := fr + 6, cells := 0, slots := 0, locals := lc + 240 })).room s m ([.ref (g 0)] : List Value).toArray below meth c0 H locs 0 0 (MQ below (va_Qv (fun (u : StM) => IM u.1 u.2.1 ∧ u.2.2 = rc ∧ (∀ k, k ∉ ([38, 39, 40, 41, 42] : List Nat) → u.1 k = v k) ∧ (∀ k, k ∉ ([28, 29] : List Nat) → u.2.1 k = F k) ∧ (((u.1 40).toInt ≤ (u.1 39).toInt ∧ (v 39).toInt ≤ (u.1 39).toInt ∧ (u.1 39).toInt ≤ (v 30).toInt ∧ (v 38).toInt ≤ (u.1 38).toInt ∧ (u.1 38).toInt - (v 38).toInt ≤ (u.1 39).toInt - (v 39).toInt ∧ (v 41).toInt ≤ (u.1 41).toInt ∧ ((u.1 40).toInt < 0 → (u.1 41).toInt = (v 41).toInt)) ∧ keepL (v 37) (F 28) (F 29) (u.2.1 28) (u.2.1 29) ∧ ((u.1 40).toInt < 0 → dp (u.2.1 28) (u.2.1 29) (bI (v 37)) (u.1 38).toInt.toNat = some (d + 1)) ∧ rd false (v 30) (F 24) 3 (v 41).toInt (v 39).toInt (u.1 40).toInt (u.1 39).toInt)) (BM dC dI g c) (AM g s.heap.size)) ([.ref (g 0)] : List Value).toArray s 0 0 (AM g s.heap.size)) (F0 m 4 ls []) := by
    intro n
    induction n with
    | zero =>
      intro v_lp8963 F_lp8963 H locs ls t8964 t8965 t8966 t8967 hm hf_lp8963 hI hF hP hS hl
      exfalso
      have hI1 := hI.1
      omega
    | succ n ih_lp8963 =>
      intro v_lp8963 F_lp8963 H locs ls t8964 t8965 t8966 t8967 hm hf_lp8963 hI hF hP hS hl
      clear hk hd
      have hk := t8965
      have hd := t8966
      clear t8965 t8966
      refine lv_aload_n hx hb dX12_sum_4 rfl (lv_at hl 0 rfl) ?_
      refine va_get (D := (dC, dI)) (ci := 12) (v := .int (v_lp8963 40)) (C := RX12) (T := TX12) (N := 63) hx hb hwd inA_X12 hown hK hP 0 rfl rfl 40 (by decide) (hwd _ wk_1005) (fun _ h9 => h9) rfl dX12_sum_5 ?_
      refine lv_if_ge (tgt := 57) hx hb dX12_sum_8 (by decide) (fun c8968 => ?_) (fun c8968 => ?_)
      · skip
        have t8969 := cv_le (a := 0) (by decide) (b := (v_lp8963 40).toInt) rfl c8968
        have hP9 : va_P (dC, dI) classes (wM g c v_lp8963 F_lp8963 rc) H := hP
        exact W.vret hx hb hr (fun t ht hW => ⟨⟨(v_lp8963, F_lp8963, rc), rfl, ⟨hI, rfl, (frC (by decide) hf_lp8963 (frC (by decide) hf8958 (fun _ _ => rfl))), hF, (by show ((v_lp8963 40).toInt ≤ (v_lp8963 39).toInt ∧ (v 39).toInt ≤ (v_lp8963 39).toInt ∧ (v_lp8963 39).toInt ≤ (v 30).toInt ∧ (v 38).toInt ≤ (v_lp8963 38).toInt ∧ (v_lp8963 38).toInt - (v 38).toInt ≤ (v_lp8963 39).toInt - (v 39).toInt ∧ (v 41).toInt ≤ (v_lp8963 41).toInt ∧ ((v_lp8963 40).toInt < 0 → (v_lp8963 41).toInt = (v 41).toInt)) ∧ keepL (v 37) (F 28) (F 29) (F_lp8963 28) (F_lp8963 29) ∧ ((v_lp8963 40).toInt < 0 → dp (F_lp8963 28) (F_lp8963 29) (bI (v 37)) (v_lp8963 38).toInt.toNat = some (d + 1)) ∧ rd false (v 30) (F 24) 3 (v 41).toInt (v 39).toInt (v_lp8963 40).toInt (v_lp8963 39).toInt; exact ⟨by omega, hk, fun hf => (hd (by omega)).trans (congrArg some (by omega)), go.sE t8967 (fun q9 => by omega)⟩)⟩, (by show va_P _ _ _ t.heap; rw [ht]; exact hP9)⟩, hS.F ht⟩) hS.2.2 dX12_sum_57
      · skip
        have t8970 := cv_nle (a := 0) (by decide) (b := (v_lp8963 40).toInt) rfl c8968
        refine lv_aload_n hx hb dX12_sum_11 rfl (lv_at hl 0 rfl) ?_
        have t8971 : 0 ≤ (v 30).toInt ∧ (v 30).toInt ≤ 120 := by have h9 := hI.1 30 _ _ rfl; rw [show v_lp8963 30 = v 30 from (hf_lp8963 30 (by decide)).trans (hf8958 30 (by decide))] at h9; exact h9
        have t8972 : 0 ≤ (v_lp8963 39).toInt ∧ (v_lp8963 39).toInt ≤ 120 := hI.1 39 _ _ rfl
        have hby24 : F_lp8963 24 = F 24 := hF 24 (by decide)
        refine va_calli (va_runV (As := []) (rest := []) ⟨hx, hb, hml, hown, hwd⟩ (c_X12_look l dC dI g c adK adV v_lp8963 F_lp8963 rc H.size  hg hI ) (cwV 0 hwd (gV wk_1017 wk_1014 wk_1015 wk_1016 wk_5) rfl rfl rfl (by decide +kernel) ⟨(by show 1 + 1 ≤ fr + 6; omega), (by show 8 + (1 + 11) + (40) ≤ lc + 240; omega)⟩) ⟨PM.blind, va_recv hK hP (ci := 12) (q0 := 0) rfl rfl, fun U hU hW => ⟨rfl, PM.at hK hE hP hS hU hW⟩⟩ rfl rfl hl.1 rfl (lv_room (Nat.le_of_ble_eq_true rfl)) dX12_sum_12 ⟨Nat.le_of_ble_eq_true rfl, Nat.le_of_ble_eq_true rfl⟩) hS (fun q _ h => (freeM hS) q h) (freeM hS) (fun r8973 u t H1 locs ht hvm hw hB hz1 hk1 hS => ?_)
        unfold BM at hB
        rw [ht] at hB
        have hP : va_P (dC, dI) classes (wM g c v_lp8963 F_lp8963 rc) H1 := hB
        replace hw : r8973.toInt = sg (v_lp8963 30) (F_lp8963 24) (v_lp8963 39).toInt ∧ ((v_lp8963 39).toInt < (v_lp8963 30).toInt ∨ r8973.toInt = -1) := hw
        rw [show v_lp8963 30 = v 30 from (hf_lp8963 30 (by decide)).trans (hf8958 30 (by decide))] at hw
        rw [hby24] at hw
        have hw_r8973 := hw
        clear hw
        clear hz1
        generalize H1 = H at hP hS ⊢
        refine lv_bipush (v := 43) hx hb dX12_sum_15 (by decide) ?_
        refine lv_icmp_eq (tgt := 29) hx hb dX12_sum_17 (by decide) (fun c8974 => ?_) (fun c8974 => ?_)
        · skip
          have t8975 := cv_eq (a := r8973.toInt) rfl (b := 43) (by decide) c8974
          refine lv_aload_n hx hb dX12_sum_29 rfl (lv_at hl 0 rfl) ?_
          have t8976 : 0 ≤ (v 30).toInt ∧ (v 30).toInt ≤ 120 := by have h9 := hI.1 30 _ _ rfl; rw [show v_lp8963 30 = v 30 from (hf_lp8963 30 (by decide)).trans (hf8958 30 (by decide))] at h9; exact h9
          have t8977 : 0 ≤ (v_lp8963 39).toInt ∧ (v_lp8963 39).toInt ≤ 120 := hI.1 39 _ _ rfl
          have hby24 : F_lp8963 24 = F 24 := hF 24 (by decide)
          refine va_calli (va_runV (As := []) (rest := []) ⟨hx, hb, hml, hown, hwd⟩ (c_X12_look l dC dI g c adK adV v_lp8963 F_lp8963 rc H.size  hg hI ) (cwV 0 hwd (gV wk_1017 wk_1014 wk_1015 wk_1016 wk_5) rfl rfl rfl (by decide +kernel) ⟨(by show 1 + 1 ≤ fr + 6; omega), (by show 8 + (1 + 11) + (40) ≤ lc + 240; omega)⟩) ⟨PM.blind, va_recv hK hP (ci := 12) (q0 := 0) rfl rfl, fun U hU hW => ⟨rfl, PM.at hK hE hP hS hU hW⟩⟩ rfl rfl hl.1 rfl (lv_room (Nat.le_of_ble_eq_true rfl)) dX12_sum_30 ⟨Nat.le_of_ble_eq_true rfl, Nat.le_of_ble_eq_true rfl⟩) hS (fun q _ h => (freeM hS) q h) (freeM hS) (fun r8978 u t H1 locs ht hvm hw hB hz1 hk1 hS => ?_)
          unfold BM at hB
          rw [ht] at hB
          have hP : va_P (dC, dI) classes (wM g c v_lp8963 F_lp8963 rc) H1 := hB
          replace hw : r8978.toInt = sg (v_lp8963 30) (F_lp8963 24) (v_lp8963 39).toInt ∧ ((v_lp8963 39).toInt < (v_lp8963 30).toInt ∨ r8978.toInt = -1) := hw
          rw [show v_lp8963 30 = v 30 from (hf_lp8963 30 (by decide)).trans (hf8958 30 (by decide))] at hw
          rw [hby24] at hw
          have hw_r8978 := hw
          clear hw
          clear hz1
          generalize H1 = H at hP hS ⊢
          refine lv_istore_n (lv' := [(1, .int r8978), (0, .ref (g 0))]) hx hb dX12_sum_33 rfl hl (by decide) rfl (fun ls hl => ?_)
          refine lv_aload_n hx hb dX12_sum_34 rfl (lv_at hl 1 rfl) ?_
          refine lv_dup hx hb dX12_sum_35 rfl ?_
          refine va_get (D := (dC, dI)) (ci := 12) (v := .int (v_lp8963 39)) (C := RX12) (T := TX12) (N := 63) hx hb hwd inA_X12 hown hK hP 0 rfl rfl 39 (by decide) (hwd _ wk_1004) (fun _ h9 => h9) rfl dX12_sum_36 ?_
          have t8979 : 0 ≤ (v_lp8963 39).toInt ∧ (v_lp8963 39).toInt ≤ 120 := hI.1 39 _ _ rfl
          refine lv_iconst (v := 1) hx hb dX12_sum_39 (by decide) ?_
          refine lv_iadd hx hb dX12_sum_40 ?_
          refine lv_topi (fun z8980 e8981 => ?_)
          try (have t8982 := tadd e8981 (a := (v_lp8963 39).toInt) rfl (b := 1) (by decide) (by omega))
          refine va_put (D := (dC, dI)) (ci := 12) (v := .int z8980) (ty := .int) (C := RX12) (T := TX12) (N := 63) (fs := fsM_0 g v_lp8963 rc) hx hb hwd inA_X12 tyX12 tyX12_ok nmX12 hown hK hP (DM hg) hS 0 rfl rfl 39 (by decide) (hwd _ wk_1004) (fun _ h9 => h9) rfl (by decide +kernel) rfl rfl (Nat.le_of_ble_eq_true rfl) dX12_sum_41 (fun H locs hP _ hS => ?_)
          have hP := va_P_eq (pM_39 g c _ _ _ _) hP
          have hI := IM.put hI 39 z8980 rfl (by omega)
          refine lv_aload_n hx hb dX12_sum_44 rfl (lv_at hl 1 rfl) ?_
          have t8983 : 0 ≤ (v 30).toInt ∧ (v 30).toInt ≤ 120 := by have h9 := hI.1 30 _ _ rfl; rw [show (va_up v_lp8963 39 z8980) 30 = v 30 from (hf_lp8963 30 (by decide)).trans (hf8958 30 (by decide))] at h9; exact h9
          have t8984 : 0 ≤ (v 37).toInt ∧ (v 37).toInt ≤ 9 := by have h9 := hI.1 37 _ _ rfl; rw [show (va_up v_lp8963 39 z8980) 37 = v 37 from (hf_lp8963 37 (by decide)).trans (hf8958 37 (by decide))] at h9; exact h9
          have t8985 : 0 ≤ (v_lp8963 38).toInt ∧ (v_lp8963 38).toInt ≤ 120 := hI.1 38 _ _ rfl
          have t8986 : 0 ≤ z8980.toInt ∧ z8980.toInt ≤ 120 := hI.1 39 _ _ rfl
          have t8987 : 0 ≤ (v_lp8963 41).toInt ∧ (v_lp8963 41).toInt ≤ 8 := hI.1 41 _ _ rfl
          have hby24 : F_lp8963 24 = F 24 := hF 24 (by decide)
          refine va_callv (va_runV (As := []) (rest := []) ⟨hx, hb, hml, hown, hwd⟩ (c_X12_product D fr lc rO rE l dC dI g c adK adV (va_up v_lp8963 39 z8980) F_lp8963 rc H.size  (d + 1) hg hI (by have h9 : (va_up v_lp8963 39 z8980) 38 = v_lp8963 38 := rfl; (try rw [h9]); clear h9; have h9 : (va_up v_lp8963 39 z8980) 39 = z8980 := rfl; (try rw [h9]); clear h9; have h9 : (va_up v_lp8963 39 z8980) 30 = v 30 := (hf_lp8963 30 (by decide)).trans (hf8958 30 (by decide)); (try rw [h9]); clear h9; have h9 : (va_up v_lp8963 39 z8980) 40 = v_lp8963 40 := rfl; (try rw [h9]); clear h9; have h9 : (va_up v_lp8963 39 z8980) 41 = v_lp8963 41 := rfl; (try rw [h9]); clear h9; omega) (by have h9 : (va_up v_lp8963 39 z8980) 37 = (v 37) := (hf_lp8963 37 (by decide)).trans (hf8958 37 (by decide)); have h8 : (va_up v_lp8963 39 z8980) 38 = (v_lp8963 38) := rfl; (try rw [h9]); (try rw [h8]); exact hd (by omega))) (cwV 0 hwd (gV wk_1042 wk_1044 wk_1045 wk_1046 wk_5) rfl rfl rfl (by decide +kernel) ⟨(by show fr + 5 + 1 ≤ fr + 6; omega), (by show 8 + (2 + 11) + (lc + 200) ≤ lc + 240; omega)⟩) ⟨PM.blind, va_recv hK hP (ci := 12) (q0 := 0) rfl rfl, fun U hU hW => ⟨rfl, PM.at hK hE hP hS hU hW⟩⟩ rfl rfl hl.1 rfl (lv_room (Nat.le_of_ble_eq_true rfl)) dX12_sum_45 ⟨Nat.le_of_ble_eq_true rfl, Nat.le_of_ble_eq_true rfl⟩) hS (fun q _ h => (freeM hS) q h) (freeM hS) (fun u t H1 locs ht hvm hw hB hz1 hk1 hS => ?_)
          unfold BM at hB
          rw [ht] at hB
          obtain ⟨v8989, F8990, rc9⟩ := u
          obtain ⟨hI, hrc, hf8991, hG8992, hw⟩ := hw
          dsimp only at hI hrc hB hf8991 hG8992 hw
          have hF := frCF (by decide) hG8992 hF
          rw [hrc] at hB
          have hP : va_P (dC, dI) classes (wM g c v8989 F8990 rc) H1 := hB
          replace hw : ((v8989 40).toInt ≤ (v8989 39).toInt ∧ z8980.toInt ≤ (v8989 39).toInt ∧ (v8989 39).toInt ≤ ((va_up v_lp8963 39 z8980) 30).toInt ∧ (v_lp8963 38).toInt ≤ (v8989 38).toInt ∧ (v8989 38).toInt - (v_lp8963 38).toInt ≤ (v8989 39).toInt - z8980.toInt ∧ (v_lp8963 41).toInt ≤ (v8989 41).toInt ∧ ((v8989 40).toInt < 0 → (v8989 41).toInt = (v_lp8963 41).toInt)) ∧ keepL ((va_up v_lp8963 39 z8980) 37) (F_lp8963 28) (F_lp8963 29) (F8990 28) (F8990 29) ∧ ((v8989 40).toInt < 0 → dp (F8990 28) (F8990 29) (bI ((va_up v_lp8963 39 z8980) 37)) (v8989 38).toInt.toNat = some ((d + 1) + 1)) ∧ rd false ((va_up v_lp8963 39 z8980) 30) (F_lp8963 24) 1 (v_lp8963 41).toInt z8980.toInt (v8989 40).toInt (v8989 39).toInt := hw
          rw [show (va_up v_lp8963 39 z8980) 30 = v 30 from (hf_lp8963 30 (by decide)).trans (hf8958 30 (by decide))] at hw
          rw [show (va_up v_lp8963 39 z8980) 37 = v 37 from (hf_lp8963 37 (by decide)).trans (hf8958 37 (by decide))] at hw
          rw [hby24] at hw
          have hw_r8988 := hw
          clear hw
          have t8993 : 0 ≤ (v8989 38).toInt ∧ (v8989 38).toInt ≤ 120 := hI.1 38 _ _ rfl
          have t8994 : 0 ≤ (v8989 39).toInt ∧ (v8989 39).toInt ≤ 120 := hI.1 39 _ _ rfl
          have t8995 : 0 ≤ (v8989 41).toInt ∧ (v8989 41).toInt ≤ 8 := hI.1 41 _ _ rfl
          clear hz1
          generalize H1 = H at hP hS ⊢
          replace hk := hk.tr hw_r8988.2.1
          replace hd := hw_r8988.2.2.1
          have hrd_r8988 := hw_r8988.2.2.2
          replace hw_r8988 := hw_r8988.1
          refine lv_aload_n hx hb dX12_sum_48 rfl (lv_at hl 1 rfl) ?_
          refine lv_iload_n hx hb dX12_sum_49 rfl (lv_at hl 0 rfl) ?_
          refine lv_iconst (v := 0) hx hb dX12_sum_50 (by decide) ?_
          have t8996 : 0 ≤ (v 37).toInt ∧ (v 37).toInt ≤ 9 := by have h9 := hI.1 37 _ _ rfl; rw [show v8989 37 = v 37 from (hf8991 37 (by decide)).trans ((hf_lp8963 37 (by decide)).trans (hf8958 37 (by decide)))] at h9; exact h9
          have t8997 : 0 ≤ (v8989 38).toInt ∧ (v8989 38).toInt ≤ 120 := hI.1 38 _ _ rfl
          refine va_callv (va_runV (As := [.int r8978, .int 0]) (rest := []) ⟨hx, hb, hml, hown, hwd⟩ (c_X12_lay l dC dI g c adK adV v8989 F8990 rc H.size r8978 0 hg hI (by have h9 : v8989 38 = v8989 38 := rfl; rw [h9]; omega)) (cwV 2 hwd (gV wk_1021 wk_1018 wk_1019 wk_1020 wk_5) rfl rfl rfl (by decide +kernel) ⟨(by show 1 + 1 ≤ fr + 6; omega), (by show 8 + (3 + 11) + (40) ≤ lc + 240; omega)⟩) ⟨PM.blind, va_recv hK hP (ci := 12) (q0 := 0) rfl rfl, fun U hU hW => ⟨rfl, PM.at hK hE hP hS hU hW⟩⟩ rfl rfl hl.1 rfl (lv_room (Nat.le_of_ble_eq_true rfl)) dX12_sum_51 ⟨Nat.le_of_ble_eq_true rfl, Nat.le_of_ble_eq_true rfl⟩) hS (fun q _ h => (freeM hS) q h) (freeM hS) (fun u t H1 locs ht hvm hw hB hz1 hk1 hS => ?_)
          unfold BM at hB
          rw [ht] at hB
          obtain ⟨v8999, F9000, rc9⟩ := u
          obtain ⟨hI, hrc, hf9001, hG9002, hw⟩ := hw
          dsimp only at hI hrc hB hf9001 hG9002 hw
          have hF := frCF (by decide) hG9002 hF
          rw [hrc] at hB
          have hP : va_P (dC, dI) classes (wM g c v8999 F9000 rc) H1 := hB
          replace hw : (v8999 38).toInt = (v8989 38).toInt + 1 ∧ keepL (v8989 37) (F8990 28) (F8990 29) (F9000 28) (F9000 29) ∧ dp (F9000 28) (F9000 29) (bI (v8989 37)) ((v8989 38).toInt.toNat + 1) = dpS (dp (F8990 28) (F8990 29) (bI (v8989 37)) (v8989 38).toInt.toNat) r8978 (0 : Int32) := hw
          rw [show v8989 37 = v 37 from (hf8991 37 (by decide)).trans ((hf_lp8963 37 (by decide)).trans (hf8958 37 (by decide)))] at hw
          have hw_r8998 := hw
          clear hw
          have t9003 : 0 ≤ (v8999 38).toInt ∧ (v8999 38).toInt ≤ 120 := hI.1 38 _ _ rfl
          have k9004 : (0 : Int32).toInt = 0 := by decide
          clear hz1
          generalize H1 = H at hP hS ⊢
          replace hk := hk.tr hw_r8998.2.1
          replace hd : (v8989 40).toInt < 0 → dp (F9000 28) (F9000 29) (bI (v 37)) (v8999 38).toInt.toNat = some (((d + 1) + 1) - 1) := fun hf => (by have e9 : (v8999 38).toInt.toNat = (v8989 38).toInt.toNat + 1 := (by omega); rw [e9, hw_r8998.2.2, hd hf]; exact dpS_5 (by omega) (by omega) (by omega) (by omega) (by omega))
          replace hw_r8998 := hw_r8998.1
          refine lv_goto (tgt := 4) hx hb dX12_sum_54 (by decide) ?_
          exact ih_lp8963  v8999 F9000 _ _ _ (by have h9 : v8999 39 = v8989 39 := hf9001 39 (by decide); (try rw [h9]); clear h9; have h9 : v8999 38 = v8999 38 := rfl; (try rw [h9]); clear h9; have h9 : v8999 41 = v8989 41 := hf9001 41 (by decide); (try rw [h9]); clear h9; have h9 : v8999 40 = v8989 40 := hf9001 40 (by decide); (try rw [h9]); clear h9; omega) hk (by have h9 : v8999 40 = v8989 40 := hf9001 40 (by decide); (try rw [h9]); clear h9; have h9 : v8999 38 = v8999 38 := rfl; (try rw [h9]); clear h9; exact fun hf => (hd (by omega)).trans (congrArg some (by omega))) (by have h9 : v8999 40 = v8989 40 := hf9001 40 (by decide); (try rw [h9]); clear h9; have h9 : v8999 39 = v8989 39 := hf9001 39 (by decide); (try rw [h9]); clear h9; exact go.sl t8967 (by omega) (by omega) (by omega) (hrd_r8988.cast (by omega) rfl rfl rfl)) (by have h9 : v8999 39 = v8989 39 := hf9001 39 (by decide); rw [h9]; omega) (frC (by decide) hf9001 (frC (by decide) hf8991 (frU (by decide) hf_lp8963))) hI hF hP hS (lv_sub hl [1] rfl)
        · skip
          have t9005 := cv_ne (a := r8973.toInt) rfl (b := 43) (by decide) c8974
          refine lv_aload_n hx hb dX12_sum_20 rfl (lv_at hl 0 rfl) ?_
          have t9006 : 0 ≤ (v 30).toInt ∧ (v 30).toInt ≤ 120 := by have h9 := hI.1 30 _ _ rfl; rw [show v_lp8963 30 = v 30 from (hf_lp8963 30 (by decide)).trans (hf8958 30 (by decide))] at h9; exact h9
          have t9007 : 0 ≤ (v_lp8963 39).toInt ∧ (v_lp8963 39).toInt ≤ 120 := hI.1 39 _ _ rfl
          have hby24 : F_lp8963 24 = F 24 := hF 24 (by decide)
          refine va_calli (va_runV (As := []) (rest := []) ⟨hx, hb, hml, hown, hwd⟩ (c_X12_look l dC dI g c adK adV v_lp8963 F_lp8963 rc H.size  hg hI ) (cwV 0 hwd (gV wk_1017 wk_1014 wk_1015 wk_1016 wk_5) rfl rfl rfl (by decide +kernel) ⟨(by show 1 + 1 ≤ fr + 6; omega), (by show 8 + (1 + 11) + (40) ≤ lc + 240; omega)⟩) ⟨PM.blind, va_recv hK hP (ci := 12) (q0 := 0) rfl rfl, fun U hU hW => ⟨rfl, PM.at hK hE hP hS hU hW⟩⟩ rfl rfl hl.1 rfl (lv_room (Nat.le_of_ble_eq_true rfl)) dX12_sum_21 ⟨Nat.le_of_ble_eq_true rfl, Nat.le_of_ble_eq_true rfl⟩) hS (fun q _ h => (freeM hS) q h) (freeM hS) (fun r9008 u t H1 locs ht hvm hw hB hz1 hk1 hS => ?_)
          unfold BM at hB
          rw [ht] at hB
          have hP : va_P (dC, dI) classes (wM g c v_lp8963 F_lp8963 rc) H1 := hB
          replace hw : r9008.toInt = sg (v_lp8963 30) (F_lp8963 24) (v_lp8963 39).toInt ∧ ((v_lp8963 39).toInt < (v_lp8963 30).toInt ∨ r9008.toInt = -1) := hw
          rw [show v_lp8963 30 = v 30 from (hf_lp8963 30 (by decide)).trans (hf8958 30 (by decide))] at hw
          rw [hby24] at hw
          have hw_r9008 := hw
          clear hw
          clear hz1
          generalize H1 = H at hP hS ⊢
          refine lv_bipush (v := 45) hx hb dX12_sum_24 (by decide) ?_
          refine lv_icmp_ne (tgt := 57) hx hb dX12_sum_26 (by decide) (fun c9009 => ?_) (fun c9009 => ?_)
          · skip
            have t9010 := cv_ne (a := r9008.toInt) rfl (b := 45) (by decide) c9009
            have hP9 : va_P (dC, dI) classes (wM g c v_lp8963 F_lp8963 rc) H := hP
            exact W.vret hx hb hr (fun t ht hW => ⟨⟨(v_lp8963, F_lp8963, rc), rfl, ⟨hI, rfl, (frC (by decide) hf_lp8963 (frC (by decide) hf8958 (fun _ _ => rfl))), hF, (by show ((v_lp8963 40).toInt ≤ (v_lp8963 39).toInt ∧ (v 39).toInt ≤ (v_lp8963 39).toInt ∧ (v_lp8963 39).toInt ≤ (v 30).toInt ∧ (v 38).toInt ≤ (v_lp8963 38).toInt ∧ (v_lp8963 38).toInt - (v 38).toInt ≤ (v_lp8963 39).toInt - (v 39).toInt ∧ (v 41).toInt ≤ (v_lp8963 41).toInt ∧ ((v_lp8963 40).toInt < 0 → (v_lp8963 41).toInt = (v 41).toInt)) ∧ keepL (v 37) (F 28) (F 29) (F_lp8963 28) (F_lp8963 29) ∧ ((v_lp8963 40).toInt < 0 → dp (F_lp8963 28) (F_lp8963 29) (bI (v 37)) (v_lp8963 38).toInt.toNat = some (d + 1)) ∧ rd false (v 30) (F 24) 3 (v 41).toInt (v 39).toInt (v_lp8963 40).toInt (v_lp8963 39).toInt; exact ⟨by omega, hk, fun hf => (hd (by omega)).trans (congrArg some (by omega)), go.sE t8967 (fun q9 => by omega)⟩)⟩, (by show va_P _ _ _ t.heap; rw [ht]; exact hP9)⟩, hS.F ht⟩) hS.2.2 dX12_sum_57
          · skip
            have t9011 := cv_eq (a := r9008.toInt) rfl (b := 45) (by decide) c9009
            refine lv_aload_n hx hb dX12_sum_29 rfl (lv_at hl 0 rfl) ?_
            have t9012 : 0 ≤ (v 30).toInt ∧ (v 30).toInt ≤ 120 := by have h9 := hI.1 30 _ _ rfl; rw [show v_lp8963 30 = v 30 from (hf_lp8963 30 (by decide)).trans (hf8958 30 (by decide))] at h9; exact h9
            have t9013 : 0 ≤ (v_lp8963 39).toInt ∧ (v_lp8963 39).toInt ≤ 120 := hI.1 39 _ _ rfl
            have hby24 : F_lp8963 24 = F 24 := hF 24 (by decide)
            refine va_calli (va_runV (As := []) (rest := []) ⟨hx, hb, hml, hown, hwd⟩ (c_X12_look l dC dI g c adK adV v_lp8963 F_lp8963 rc H.size  hg hI ) (cwV 0 hwd (gV wk_1017 wk_1014 wk_1015 wk_1016 wk_5) rfl rfl rfl (by decide +kernel) ⟨(by show 1 + 1 ≤ fr + 6; omega), (by show 8 + (1 + 11) + (40) ≤ lc + 240; omega)⟩) ⟨PM.blind, va_recv hK hP (ci := 12) (q0 := 0) rfl rfl, fun U hU hW => ⟨rfl, PM.at hK hE hP hS hU hW⟩⟩ rfl rfl hl.1 rfl (lv_room (Nat.le_of_ble_eq_true rfl)) dX12_sum_30 ⟨Nat.le_of_ble_eq_true rfl, Nat.le_of_ble_eq_true rfl⟩) hS (fun q _ h => (freeM hS) q h) (freeM hS) (fun r9014 u t H1 locs ht hvm hw hB hz1 hk1 hS => ?_)
            unfold BM at hB
            rw [ht] at hB
            have hP : va_P (dC, dI) classes (wM g c v_lp8963 F_lp8963 rc) H1 := hB
            replace hw : r9014.toInt = sg (v_lp8963 30) (F_lp8963 24) (v_lp8963 39).toInt ∧ ((v_lp8963 39).toInt < (v_lp8963 30).toInt ∨ r9014.toInt = -1) := hw
            rw [show v_lp8963 30 = v 30 from (hf_lp8963 30 (by decide)).trans (hf8958 30 (by decide))] at hw
            rw [hby24] at hw
            have hw_r9014 := hw
            clear hw
            clear hz1
            generalize H1 = H at hP hS ⊢
            refine lv_istore_n (lv' := [(1, .int r9014), (0, .ref (g 0))]) hx hb dX12_sum_33 rfl hl (by decide) rfl (fun ls hl => ?_)
            refine lv_aload_n hx hb dX12_sum_34 rfl (lv_at hl 1 rfl) ?_
            refine lv_dup hx hb dX12_sum_35 rfl ?_
            refine va_get (D := (dC, dI)) (ci := 12) (v := .int (v_lp8963 39)) (C := RX12) (T := TX12) (N := 63) hx hb hwd inA_X12 hown hK hP 0 rfl rfl 39 (by decide) (hwd _ wk_1004) (fun _ h9 => h9) rfl dX12_sum_36 ?_
            have t9015 : 0 ≤ (v_lp8963 39).toInt ∧ (v_lp8963 39).toInt ≤ 120 := hI.1 39 _ _ rfl
            refine lv_iconst (v := 1) hx hb dX12_sum_39 (by decide) ?_
            refine lv_iadd hx hb dX12_sum_40 ?_
            refine lv_topi (fun z9016 e9017 => ?_)
            try (have t9018 := tadd e9017 (a := (v_lp8963 39).toInt) rfl (b := 1) (by decide) (by omega))
            refine va_put (D := (dC, dI)) (ci := 12) (v := .int z9016) (ty := .int) (C := RX12) (T := TX12) (N := 63) (fs := fsM_0 g v_lp8963 rc) hx hb hwd inA_X12 tyX12 tyX12_ok nmX12 hown hK hP (DM hg) hS 0 rfl rfl 39 (by decide) (hwd _ wk_1004) (fun _ h9 => h9) rfl (by decide +kernel) rfl rfl (Nat.le_of_ble_eq_true rfl) dX12_sum_41 (fun H locs hP _ hS => ?_)
            have hP := va_P_eq (pM_39 g c _ _ _ _) hP
            have hI := IM.put hI 39 z9016 rfl (by omega)
            refine lv_aload_n hx hb dX12_sum_44 rfl (lv_at hl 1 rfl) ?_
            have t9019 : 0 ≤ (v 30).toInt ∧ (v 30).toInt ≤ 120 := by have h9 := hI.1 30 _ _ rfl; rw [show (va_up v_lp8963 39 z9016) 30 = v 30 from (hf_lp8963 30 (by decide)).trans (hf8958 30 (by decide))] at h9; exact h9
            have t9020 : 0 ≤ (v 37).toInt ∧ (v 37).toInt ≤ 9 := by have h9 := hI.1 37 _ _ rfl; rw [show (va_up v_lp8963 39 z9016) 37 = v 37 from (hf_lp8963 37 (by decide)).trans (hf8958 37 (by decide))] at h9; exact h9
            have t9021 : 0 ≤ (v_lp8963 38).toInt ∧ (v_lp8963 38).toInt ≤ 120 := hI.1 38 _ _ rfl
            have t9022 : 0 ≤ z9016.toInt ∧ z9016.toInt ≤ 120 := hI.1 39 _ _ rfl
            have t9023 : 0 ≤ (v_lp8963 41).toInt ∧ (v_lp8963 41).toInt ≤ 8 := hI.1 41 _ _ rfl
            have hby24 : F_lp8963 24 = F 24 := hF 24 (by decide)
            refine va_callv (va_runV (As := []) (rest := []) ⟨hx, hb, hml, hown, hwd⟩ (c_X12_product D fr lc rO rE l dC dI g c adK adV (va_up v_lp8963 39 z9016) F_lp8963 rc H.size  (d + 1) hg hI (by have h9 : (va_up v_lp8963 39 z9016) 38 = v_lp8963 38 := rfl; (try rw [h9]); clear h9; have h9 : (va_up v_lp8963 39 z9016) 39 = z9016 := rfl; (try rw [h9]); clear h9; have h9 : (va_up v_lp8963 39 z9016) 30 = v 30 := (hf_lp8963 30 (by decide)).trans (hf8958 30 (by decide)); (try rw [h9]); clear h9; have h9 : (va_up v_lp8963 39 z9016) 40 = v_lp8963 40 := rfl; (try rw [h9]); clear h9; have h9 : (va_up v_lp8963 39 z9016) 41 = v_lp8963 41 := rfl; (try rw [h9]); clear h9; omega) (by have h9 : (va_up v_lp8963 39 z9016) 37 = (v 37) := (hf_lp8963 37 (by decide)).trans (hf8958 37 (by decide)); have h8 : (va_up v_lp8963 39 z9016) 38 = (v_lp8963 38) := rfl; (try rw [h9]); (try rw [h8]); exact hd (by omega))) (cwV 0 hwd (gV wk_1042 wk_1044 wk_1045 wk_1046 wk_5) rfl rfl rfl (by decide +kernel) ⟨(by show fr + 5 + 1 ≤ fr + 6; omega), (by show 8 + (2 + 11) + (lc + 200) ≤ lc + 240; omega)⟩) ⟨PM.blind, va_recv hK hP (ci := 12) (q0 := 0) rfl rfl, fun U hU hW => ⟨rfl, PM.at hK hE hP hS hU hW⟩⟩ rfl rfl hl.1 rfl (lv_room (Nat.le_of_ble_eq_true rfl)) dX12_sum_45 ⟨Nat.le_of_ble_eq_true rfl, Nat.le_of_ble_eq_true rfl⟩) hS (fun q _ h => (freeM hS) q h) (freeM hS) (fun u t H1 locs ht hvm hw hB hz1 hk1 hS => ?_)
            unfold BM at hB
            rw [ht] at hB
            obtain ⟨v9025, F9026, rc9⟩ := u
            obtain ⟨hI, hrc, hf9027, hG9028, hw⟩ := hw
            dsimp only at hI hrc hB hf9027 hG9028 hw
            have hF := frCF (by decide) hG9028 hF
            rw [hrc] at hB
            have hP : va_P (dC, dI) classes (wM g c v9025 F9026 rc) H1 := hB
            replace hw : ((v9025 40).toInt ≤ (v9025 39).toInt ∧ z9016.toInt ≤ (v9025 39).toInt ∧ (v9025 39).toInt ≤ ((va_up v_lp8963 39 z9016) 30).toInt ∧ (v_lp8963 38).toInt ≤ (v9025 38).toInt ∧ (v9025 38).toInt - (v_lp8963 38).toInt ≤ (v9025 39).toInt - z9016.toInt ∧ (v_lp8963 41).toInt ≤ (v9025 41).toInt ∧ ((v9025 40).toInt < 0 → (v9025 41).toInt = (v_lp8963 41).toInt)) ∧ keepL ((va_up v_lp8963 39 z9016) 37) (F_lp8963 28) (F_lp8963 29) (F9026 28) (F9026 29) ∧ ((v9025 40).toInt < 0 → dp (F9026 28) (F9026 29) (bI ((va_up v_lp8963 39 z9016) 37)) (v9025 38).toInt.toNat = some ((d + 1) + 1)) ∧ rd false ((va_up v_lp8963 39 z9016) 30) (F_lp8963 24) 1 (v_lp8963 41).toInt z9016.toInt (v9025 40).toInt (v9025 39).toInt := hw
            rw [show (va_up v_lp8963 39 z9016) 30 = v 30 from (hf_lp8963 30 (by decide)).trans (hf8958 30 (by decide))] at hw
            rw [show (va_up v_lp8963 39 z9016) 37 = v 37 from (hf_lp8963 37 (by decide)).trans (hf8958 37 (by decide))] at hw
            rw [hby24] at hw
            have hw_r9024 := hw
            clear hw
            have t9029 : 0 ≤ (v9025 38).toInt ∧ (v9025 38).toInt ≤ 120 := hI.1 38 _ _ rfl
            have t9030 : 0 ≤ (v9025 39).toInt ∧ (v9025 39).toInt ≤ 120 := hI.1 39 _ _ rfl
            have t9031 : 0 ≤ (v9025 41).toInt ∧ (v9025 41).toInt ≤ 8 := hI.1 41 _ _ rfl
            clear hz1
            generalize H1 = H at hP hS ⊢
            replace hk := hk.tr hw_r9024.2.1
            replace hd := hw_r9024.2.2.1
            have hrd_r9024 := hw_r9024.2.2.2
            replace hw_r9024 := hw_r9024.1
            refine lv_aload_n hx hb dX12_sum_48 rfl (lv_at hl 1 rfl) ?_
            refine lv_iload_n hx hb dX12_sum_49 rfl (lv_at hl 0 rfl) ?_
            refine lv_iconst (v := 0) hx hb dX12_sum_50 (by decide) ?_
            have t9032 : 0 ≤ (v 37).toInt ∧ (v 37).toInt ≤ 9 := by have h9 := hI.1 37 _ _ rfl; rw [show v9025 37 = v 37 from (hf9027 37 (by decide)).trans ((hf_lp8963 37 (by decide)).trans (hf8958 37 (by decide)))] at h9; exact h9
            have t9033 : 0 ≤ (v9025 38).toInt ∧ (v9025 38).toInt ≤ 120 := hI.1 38 _ _ rfl
            refine va_callv (va_runV (As := [.int r9014, .int 0]) (rest := []) ⟨hx, hb, hml, hown, hwd⟩ (c_X12_lay l dC dI g c adK adV v9025 F9026 rc H.size r9014 0 hg hI (by have h9 : v9025 38 = v9025 38 := rfl; rw [h9]; omega)) (cwV 2 hwd (gV wk_1021 wk_1018 wk_1019 wk_1020 wk_5) rfl rfl rfl (by decide +kernel) ⟨(by show 1 + 1 ≤ fr + 6; omega), (by show 8 + (3 + 11) + (40) ≤ lc + 240; omega)⟩) ⟨PM.blind, va_recv hK hP (ci := 12) (q0 := 0) rfl rfl, fun U hU hW => ⟨rfl, PM.at hK hE hP hS hU hW⟩⟩ rfl rfl hl.1 rfl (lv_room (Nat.le_of_ble_eq_true rfl)) dX12_sum_51 ⟨Nat.le_of_ble_eq_true rfl, Nat.le_of_ble_eq_true rfl⟩) hS (fun q _ h => (freeM hS) q h) (freeM hS) (fun u t H1 locs ht hvm hw hB hz1 hk1 hS => ?_)
            unfold BM at hB
            rw [ht] at hB
            obtain ⟨v9035, F9036, rc9⟩ := u
            obtain ⟨hI, hrc, hf9037, hG9038, hw⟩ := hw
            dsimp only at hI hrc hB hf9037 hG9038 hw
            have hF := frCF (by decide) hG9038 hF
            rw [hrc] at hB
            have hP : va_P (dC, dI) classes (wM g c v9035 F9036 rc) H1 := hB
            replace hw : (v9035 38).toInt = (v9025 38).toInt + 1 ∧ keepL (v9025 37) (F9026 28) (F9026 29) (F9036 28) (F9036 29) ∧ dp (F9036 28) (F9036 29) (bI (v9025 37)) ((v9025 38).toInt.toNat + 1) = dpS (dp (F9026 28) (F9026 29) (bI (v9025 37)) (v9025 38).toInt.toNat) r9014 (0 : Int32) := hw
            rw [show v9025 37 = v 37 from (hf9027 37 (by decide)).trans ((hf_lp8963 37 (by decide)).trans (hf8958 37 (by decide)))] at hw
            have hw_r9034 := hw
            clear hw
            have t9039 : 0 ≤ (v9035 38).toInt ∧ (v9035 38).toInt ≤ 120 := hI.1 38 _ _ rfl
            have k9040 : (0 : Int32).toInt = 0 := by decide
            clear hz1
            generalize H1 = H at hP hS ⊢
            replace hk := hk.tr hw_r9034.2.1
            replace hd : (v9025 40).toInt < 0 → dp (F9036 28) (F9036 29) (bI (v 37)) (v9035 38).toInt.toNat = some (((d + 1) + 1) - 1) := fun hf => (by have e9 : (v9035 38).toInt.toNat = (v9025 38).toInt.toNat + 1 := (by omega); rw [e9, hw_r9034.2.2, hd hf]; exact dpS_5 (by omega) (by omega) (by omega) (by omega) (by omega))
            replace hw_r9034 := hw_r9034.1
            refine lv_goto (tgt := 4) hx hb dX12_sum_54 (by decide) ?_
            exact ih_lp8963  v9035 F9036 _ _ _ (by have h9 : v9035 39 = v9025 39 := hf9037 39 (by decide); (try rw [h9]); clear h9; have h9 : v9035 38 = v9035 38 := rfl; (try rw [h9]); clear h9; have h9 : v9035 41 = v9025 41 := hf9037 41 (by decide); (try rw [h9]); clear h9; have h9 : v9035 40 = v9025 40 := hf9037 40 (by decide); (try rw [h9]); clear h9; omega) hk (by have h9 : v9035 40 = v9025 40 := hf9037 40 (by decide); (try rw [h9]); clear h9; have h9 : v9035 38 = v9035 38 := rfl; (try rw [h9]); clear h9; exact fun hf => (hd (by omega)).trans (congrArg some (by omega))) (by have h9 : v9035 40 = v9025 40 := hf9037 40 (by decide); (try rw [h9]); clear h9; have h9 : v9035 39 = v9025 39 := hf9037 39 (by decide); (try rw [h9]); clear h9; exact go.sl t8967 (by omega) (by omega) (by omega) (hrd_r9024.cast (by omega) rfl rfl rfl)) (by have h9 : v9035 39 = v9025 39 := hf9037 39 (by decide); rw [h9]; omega) (frC (by decide) hf9037 (frC (by decide) hf9027 (frU (by decide) hf_lp8963))) hI hF hP hS (lv_sub hl [1] rfl)
  obtain ⟨n9, hn9⟩ : ∃ n : Nat, 121 - (v8956 39).toInt ≤ (n : Int) := ⟨((121 - (v8956 39).toInt : Int)).toNat, by omega⟩
  exact lp8963 n9  v8956 F8957 H _ ls (by have h9 : v8956 39 = v8956 39 := rfl; (try rw [h9]); clear h9; have h9 : v8956 38 = v8956 38 := rfl; (try rw [h9]); clear h9; have h9 : v8956 41 = v8956 41 := rfl; (try rw [h9]); clear h9; have h9 : v8956 40 = v8956 40 := rfl; (try rw [h9]); clear h9; omega) hk (by have h9 : v8956 40 = v8956 40 := rfl; (try rw [h9]); clear h9; have h9 : v8956 38 = v8956 38 := rfl; (try rw [h9]); clear h9; exact fun hf => (hd (by omega)).trans (congrArg some (by omega))) (by have h9 : v8956 40 = v8956 40 := rfl; (try rw [h9]); clear h9; have h9 : v8956 39 = v8956 39 := rfl; (try rw [h9]); clear h9; exact go.s hrd_r8955) (by have h9 : v8956 39 = v8956 39 := rfl; rw [h9]; omega) (fun _ _ => rfl) hI hF hP hS hl
