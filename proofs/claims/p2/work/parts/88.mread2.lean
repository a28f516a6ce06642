set_option maxHeartbeats 8000000 in
set_option maxRecDepth 100000 in
theorem c_X12_operand_2 (l : Launch) (dC : Nat → ClassId) (dI : Nat → Nat → Nat) (g : Nat → Nat) (c : Nat → ClassId) (adK adV : Nat → Nat) (v : Nat → Int32) (F : Nat → Nat → Int32) (rc sz : Nat) (d : Nat) (hg : injM g) (hI : IM v F) (hq : (v 38).toInt ≤ (v 39).toInt ∧ (v 39).toInt ≤ (v 30).toInt ∧ (v 40).toInt < 0 ∧ (v 41).toInt = 2) (hdp : dp (F 28) (F 29) (bI (v 37)) (v 38).toInt.toNat = some d) : Met l yX12_operand (Cond.code yX12_operand cX12_operand 2 none :: wA) ({ frames := 27, cells := 0, slots := 0, locals := 1080 }) (va_Pc [.ref (g 0)] (PM dC dI g c adK adV v F rc sz)) (va_Qv (fun (u : StM) => IM u.1 u.2.1 ∧ u.2.2 = rc ∧ (∀ k, k ∉ ([38, 39, 40, 41, 42] : List Nat) → u.1 k = v k) ∧ (∀ k, k ∉ ([28, 29] : List Nat) → u.2.1 k = F k) ∧ (((v 39).toInt ≤ (u.1 39).toInt ∧ (u.1 39).toInt ≤ (v 30).toInt ∧ (v 38).toInt ≤ (u.1 38).toInt ∧ (u.1 38).toInt - (v 38).toInt ≤ (u.1 39).toInt - (v 39).toInt ∧ (v 41).toInt ≤ (u.1 41).toInt ∧ ((u.1 40).toInt < 0 → (u.1 41).toInt = (v 41).toInt)) ∧ keepL (v 37) (F 28) (F 29) (u.2.1 28) (u.2.1 29) ∧ ((u.1 40).toInt < 0 → dp (u.2.1 28) (u.2.1 29) (bI (v 37)) (u.1 38).toInt.toNat = some (d + 1)))) (BM dC dI g c) (AM g sz)) 0 0 (AM g sz) := by
  refine Met.ofW (cc := cX12_operand) (maxL := 2) (ret := none) (by decide) rfl ?_
  intro p e s m args below meth c0 s₁ B hml hv
  obtain ⟨rfl, hsz, hP, hK, hE⟩ := hv
  have hx := B.exec
  have hb := B.bytes
  have hr := B.returns
  have hts := atoms_spec (ws := Cond.code yX12_operand cX12_operand 2 none :: wA) B.pre
  have hwd : ∀ w ∈ wA, w.before _ s = true := fun w h => hts w (List.mem_cons_of_mem _ h)
  have hown : s.vm.findClass RX12 = some m.cls := findClass_of_methodNamed B.named
  have hlocks := B.notSynchronized
  subst hsz
  have hl := lv_entry ([.ref (g 0)]) (n := 2) (Nat.le_of_ble_eq_true rfl)
  rw [lg_entry_eq]
  generalize (lg_sl ([.ref (g 0)]) ++ List.replicate (2 - (lg_sl ([.ref (g 0)])).length) Slot.unset).toArray = ls at hl ⊢
  have hl : lv_has ls 2 [(0, .ref (g 0))] := hl
  obtain ⟨H, eH⟩ : ∃ z, z = s.heap := ⟨_, rfl⟩
  have hP : va_P (dC, dI) classes (wM g c v F rc) H := by rw [eH]; exact hP
  have hS : va_S (AM g s.heap.size) s.heap H [] := by rw [eH]; exact va_S.rf
  refine my_heap eH ?_
  have hF : ∀ k, k ∉ ([28, 29] : List Nat) → F k = F k := fun _ _ => rfl
  have hb30 : 0 ≤ (v 30).toInt ∧ (v 30).toInt ≤ 120 := hI.1 30 _ _ rfl
  have hb37 : 0 ≤ (v 37).toInt ∧ (v 37).toInt ≤ 9 := hI.1 37 _ _ rfl
  have hb38 : 0 ≤ (v 38).toInt ∧ (v 38).toInt ≤ 120 := hI.1 38 _ _ rfl
  have hb39 : 0 ≤ (v 39).toInt ∧ (v 39).toInt ≤ 120 := hI.1 39 _ _ rfl
  have hb41 : 0 ≤ (v 41).toInt ∧ (v 41).toInt ≤ 8 := hI.1 41 _ _ rfl
  have hk : keepL (v 37) (F 28) (F 29) (F 28) (F 29) := keepL.rf
  have hd : (v 40).toInt < 0 → dp (F 28) (F 29) (bI (v 37)) (v 38).toInt.toNat = some d := fun _ => hdp
  refine lv_aload_n hx hb dX12_operand_0 rfl (lv_at hl 0 rfl) ?_
  have t19927 : 0 ≤ (v 30).toInt ∧ (v 30).toInt ≤ 120 := hI.1 30 _ _ rfl
  have t19928 : 0 ≤ (v 39).toInt ∧ (v 39).toInt ≤ 120 := hI.1 39 _ _ rfl
  refine va_calli (va_runV (As := []) (rest := []) ⟨hx, hb, hml, hown, hwd⟩ (c_X12_look l dC dI g c adK adV v F rc H.size  hg hI ) (cwV 0 hwd (gV wk_1017 wk_1014 wk_1015 wk_1016 wk_5) rfl rfl rfl (by decide +kernel) ⟨Nat.le_of_ble_eq_true rfl, Nat.le_of_ble_eq_true rfl⟩) ⟨PM.blind, va_recv hK hP (ci := 12) (q0 := 0) rfl rfl, fun U hU hW => ⟨rfl, PM.at hK hE hP hS hU hW⟩⟩ rfl rfl hl.1 rfl (lv_room (Nat.le_of_ble_eq_true rfl)) dX12_operand_1 ⟨Nat.le_of_ble_eq_true rfl, Nat.le_of_ble_eq_true rfl⟩) hS (fun q _ h => (freeM hS) q h) (freeM hS) (fun r19929 u t H1 locs ht hvm hw hB hz1 hk1 hS => ?_)
  unfold BM at hB
  rw [ht] at hB
  have hP : va_P (dC, dI) classes (wM g c v F rc) H1 := hB
  have hw : r19929.toInt = lkM (v 39) (v 30) (F 24) ∧ ((v 39).toInt < (v 30).toInt ∨ r19929.toInt = -1) := hw
  have hw_r19929 := hw
  generalize H1 = H at hP hS ⊢
  refine lv_istore_n (lv' := [(1, .int r19929), (0, .ref (g 0))]) hx hb dX12_operand_4 rfl hl (by decide) rfl (fun ls hl => ?_)
  refine lv_iload_n hx hb dX12_operand_5 rfl (lv_at hl 0 rfl) ?_
  refine va_calli (va_runS (As := [.int r19929]) (rest := []) ⟨hx, hb, hml, hown, hwd⟩ (c_X12_nameOf l dC dI g c adK adV v F rc H.size r19929 hg hI ) (va_cwS 1 hwd (gT wk_1034 wk_1032 wk_1033 wk_5) rfl rfl rfl (by decide +kernel) ⟨Nat.le_of_ble_eq_true rfl, Nat.le_of_ble_eq_true rfl⟩) ⟨PM.blind, fun U hU hW => ⟨rfl, PM.at hK hE hP hS hU hW⟩⟩ rfl rfl hl.1 rfl (lv_room (Nat.le_of_ble_eq_true rfl)) dX12_operand_6 ⟨Nat.le_of_ble_eq_true rfl, Nat.le_of_ble_eq_true rfl⟩) hS (fun q _ h => (freeM hS) q h) (freeM hS) (fun r19930 u t H1 locs ht hvm hw hB hz1 hk1 hS => ?_)
  unfold BM at hB
  rw [ht] at hB
  have hP : va_P (dC, dI) classes (wM g c v F rc) H1 := hB
  have hw : r19930.toInt = nmM r19929 ∧ (-1 ≤ r19930.toInt ∧ r19930.toInt ≤ 5) := hw
  have hw_r19930 := hw
  generalize H1 = H at hP hS ⊢
  have np_r19930 := nmM_pos r19929
  refine lv_if_lt (tgt := 34) hx hb dX12_operand_9 (by decide) (fun c19931 => ?_) (fun c19931 => ?_)
  · skip
    have t19932 := cv_lt (a := r19930.toInt) rfl (b := 0) (by decide) c19931
    refine lv_iload_n hx hb dX12_operand_34 rfl (lv_at hl 0 rfl) ?_
    refine lv_bipush (v := 45) hx hb dX12_operand_35 (by decide) ?_
    refine lv_icmp_ne (tgt := 71) hx hb dX12_operand_37 (by decide) (fun c19933 => ?_) (fun c19933 => ?_)
    · skip
      have t19934 := cv_ne (a := r19929.toInt) rfl (b := 45) (by decide) c19933
      refine lv_iload_n hx hb dX12_operand_71 rfl (lv_at hl 0 rfl) ?_
      refine lv_bipush (v := 40) hx hb dX12_operand_72 (by decide) ?_
      refine lv_icmp_ne (tgt := 134) hx hb dX12_operand_74 (by decide) (fun c19935 => ?_) (fun c19935 => ?_)
      · skip
        have t19936 := cv_ne (a := r19929.toInt) rfl (b := 40) (by decide) c19935
        refine lv_aload_n hx hb dX12_operand_134 rfl (lv_at hl 1 rfl) ?_
        have t19937 : 0 ≤ (v 30).toInt ∧ (v 30).toInt ≤ 120 := hI.1 30 _ _ rfl
        have t19938 : 0 ≤ (v 39).toInt ∧ (v 39).toInt ≤ 120 := hI.1 39 _ _ rfl
        refine va_calli (va_runV (As := []) (rest := []) ⟨hx, hb, hml, hown, hwd⟩ (c_X12_digits l dC dI g c adK adV v F rc H.size  hg hI (by have h9 : v 39 = v 39 := rfl; (try rw [h9]); clear h9; have h9 : v 30 = v 30 := rfl; (try rw [h9]); clear h9; omega)) (cwV 0 hwd (gV wk_1041 wk_1038 wk_1039 wk_1040 wk_5) rfl rfl rfl (by decide +kernel) ⟨Nat.le_of_ble_eq_true rfl, Nat.le_of_ble_eq_true rfl⟩) ⟨PM.blind, va_recv hK hP (ci := 12) (q0 := 0) rfl rfl, fun U hU hW => ⟨rfl, PM.at hK hE hP hS hU hW⟩⟩ rfl rfl hl.1 rfl (lv_room (Nat.le_of_ble_eq_true rfl)) dX12_operand_135 ⟨Nat.le_of_ble_eq_true rfl, Nat.le_of_ble_eq_true rfl⟩) hS (fun q _ h => (freeM hS) q h) (freeM hS) (fun r19939 u t H1 locs ht hvm hw hB hz1 hk1 hS => ?_)
        unfold BM at hB
        rw [ht] at hB
        obtain ⟨v19940, F19941, rc9⟩ := u
        obtain ⟨hI, hrc, hf19942, hG19943, hw⟩ := hw
        dsimp only at hI hrc hB hf19942 hG19943 hw
        have hF := frCF (by decide) hG19943 hF
        rw [hrc] at hB
        have hP : va_P (dC, dI) classes (wM g c v19940 F19941 rc) H1 := hB
        have hw : (r19939.toInt = 1 ∧ (v 39).toInt < (v19940 39).toInt ∧ (v19940 39).toInt ≤ (v 30).toInt ∧ (v19940 40).toInt = (v 40).toInt) ∨ (r19939.toInt = 0 ∧ 0 ≤ (v19940 40).toInt ∧ (v 39).toInt ≤ (v19940 39).toInt ∧ (v19940 39).toInt ≤ (v 30).toInt) := hw
        have hw_r19939 := hw
        have t19944 : 0 ≤ (v19940 39).toInt ∧ (v19940 39).toInt ≤ 120 := hI.1 39 _ _ rfl
        generalize H1 = H at hP hS ⊢
        have hk : keepL (v 37) (F 28) (F 29) (F19941 28) (F19941 29) := by rw [hG19943 28 (by decide), hG19943 29 (by decide)]; exact hk
        have hd : (v19940 40).toInt < 0 → dp (F19941 28) (F19941 29) (bI (v 37)) (v 38).toInt.toNat = some d := fun hf => (by rw [hG19943 28 (by decide), hG19943 29 (by decide)]; exact hd (by omega))
        refine lv_if_eq (tgt := 150) hx hb dX12_operand_138 (by decide) (fun c19945 => ?_) (fun c19945 => ?_)
        · skip
          have t19946 := cv_eq (a := r19939.toInt) rfl (b := 0) (by decide) c19945
          have hP9 : va_P (dC, dI) classes (wM g c v19940 F19941 rc) H := hP
          exact W.vret hx hb hr (fun t ht hW => ⟨⟨(v19940, F19941, rc), rfl, ⟨hI, rfl, (frC (by decide) hf19942 (fun _ _ => rfl)), hF, (by show ((v 39).toInt ≤ (v19940 39).toInt ∧ (v19940 39).toInt ≤ (v 30).toInt ∧ (v 38).toInt ≤ (v19940 38).toInt ∧ (v19940 38).toInt - (v 38).toInt ≤ (v19940 39).toInt - (v 39).toInt ∧ (v 41).toInt ≤ (v19940 41).toInt ∧ ((v19940 40).toInt < 0 → (v19940 41).toInt = (v 41).toInt)) ∧ keepL (v 37) (F 28) (F 29) (F19941 28) (F19941 29) ∧ ((v19940 40).toInt < 0 → dp (F19941 28) (F19941 29) (bI (v 37)) (v19940 38).toInt.toNat = some (d + 1)); rw [show v19940 38 = v 38 from hf19942 38 (by decide)]; rw [show v19940 41 = v 41 from hf19942 41 (by decide)]; exact ⟨by omega, hk, fun hf => (hd (by omega)).trans (congrArg some (by omega))⟩)⟩, (by show va_P _ _ _ t.heap; rw [ht]; exact hP9)⟩, hS.F ht⟩) hS.2.2 dX12_operand_150
        · skip
          have t19947 := cv_ne (a := r19939.toInt) rfl (b := 0) (by decide) c19945
          refine lv_aload_n hx hb dX12_operand_141 rfl (lv_at hl 1 rfl) ?_
          refine lv_iconst (v := 1) hx hb dX12_operand_142 (by decide) ?_
          refine lv_aload_n hx hb dX12_operand_143 rfl (lv_at hl 1 rfl) ?_
          refine va_get (D := (dC, dI)) (ci := 12) (v := .int (v19940 42)) (C := RX12) (T := TX12) (N := 63) hx hb hwd inA_X12 hown hK hP 0 rfl rfl 42 (by decide) (hwd _ wk_1031) (fun _ h9 => h9) rfl dX12_operand_144 ?_
          have t19948 : 0 ≤ (v 37).toInt ∧ (v 37).toInt ≤ 9 := by have h9 := hI.1 37 _ _ rfl; rw [show v19940 37 = v 37 from hf19942 37 (by decide)] at h9; exact h9
          have t19949 : 0 ≤ (v 38).toInt ∧ (v 38).toInt ≤ 120 := by have h9 := hI.1 38 _ _ rfl; rw [show v19940 38 = v 38 from hf19942 38 (by decide)] at h9; exact h9
          refine va_callv (va_runV (As := [.int 1, .int (v19940 42)]) (rest := []) ⟨hx, hb, hml, hown, hwd⟩ (c_X12_lay l dC dI g c adK adV v19940 F19941 rc H.size 1 (v19940 42) hg hI (by have h9 : v19940 38 = v 38 := hf19942 38 (by decide); rw [h9]; omega)) (cwV 2 hwd (gV wk_1021 wk_1018 wk_1019 wk_1020 wk_5) rfl rfl rfl (by decide +kernel) ⟨Nat.le_of_ble_eq_true rfl, Nat.le_of_ble_eq_true rfl⟩) ⟨PM.blind, va_recv hK hP (ci := 12) (q0 := 0) rfl rfl, fun U hU hW => ⟨rfl, PM.at hK hE hP hS hU hW⟩⟩ rfl rfl hl.1 rfl (lv_room (Nat.le_of_ble_eq_true rfl)) dX12_operand_147 ⟨Nat.le_of_ble_eq_true rfl, Nat.le_of_ble_eq_true rfl⟩) hS (fun q _ h => (freeM hS) q h) (freeM hS) (fun u t H1 locs ht hvm hw hB hz1 hk1 hS => ?_)
          unfold BM at hB
          rw [ht] at hB
          obtain ⟨v19951, F19952, rc9⟩ := u
          obtain ⟨hI, hrc, hf19953, hG19954, hw⟩ := hw
          dsimp only at hI hrc hB hf19953 hG19954 hw
          have hF := frCF (by decide) hG19954 hF
          rw [hrc] at hB
          have hP : va_P (dC, dI) classes (wM g c v19951 F19952 rc) H1 := hB
          have hw : (v19951 38).toInt = (v19940 38).toInt + 1 ∧ keepL (v19940 37) (F19941 28) (F19941 29) (F19952 28) (F19952 29) ∧ dp (F19952 28) (F19952 29) (bI (v19940 37)) ((v19940 38).toInt.toNat + 1) = dpS (dp (F19941 28) (F19941 29) (bI (v19940 37)) (v19940 38).toInt.toNat) (1 : Int32) (v19940 42) := hw
          rw [show v19940 38 = v 38 from hf19942 38 (by decide)] at hw
          rw [show v19940 37 = v 37 from hf19942 37 (by decide)] at hw
          have hw_r19950 := hw
          have t19955 : 0 ≤ (v19951 38).toInt ∧ (v19951 38).toInt ≤ 120 := hI.1 38 _ _ rfl
          have k19956 : (1 : Int32).toInt = 1 := by decide
          generalize H1 = H at hP hS ⊢
          have hk := hk.tr hw_r19950.2.1
          have hd : (v19940 40).toInt < 0 → dp (F19952 28) (F19952 29) (bI (v 37)) (v19951 38).toInt.toNat = some (d + 1) := fun hf => (by have e9 : (v19951 38).toInt.toNat = (v 38).toInt.toNat + 1 := (by omega); rw [e9, hw_r19950.2.2, hd hf]; exact dpS_1 (by decide))
          have hP9 : va_P (dC, dI) classes (wM g c v19951 F19952 rc) H := hP
          exact W.vret hx hb hr (fun t ht hW => ⟨⟨(v19951, F19952, rc), rfl, ⟨hI, rfl, (frC (by decide) hf19953 (frC (by decide) hf19942 (fun _ _ => rfl))), hF, (by show ((v 39).toInt ≤ (v19951 39).toInt ∧ (v19951 39).toInt ≤ (v 30).toInt ∧ (v 38).toInt ≤ (v19951 38).toInt ∧ (v19951 38).toInt - (v 38).toInt ≤ (v19951 39).toInt - (v 39).toInt ∧ (v 41).toInt ≤ (v19951 41).toInt ∧ ((v19951 40).toInt < 0 → (v19951 41).toInt = (v 41).toInt)) ∧ keepL (v 37) (F 28) (F 29) (F19952 28) (F19952 29) ∧ ((v19951 40).toInt < 0 → dp (F19952 28) (F19952 29) (bI (v 37)) (v19951 38).toInt.toNat = some (d + 1)); rw [show v19951 39 = v19940 39 from hf19953 39 (by decide)]; rw [show v19951 41 = v 41 from (hf19953 41 (by decide)).trans (hf19942 41 (by decide))]; rw [show v19951 40 = v19940 40 from hf19953 40 (by decide)]; exact ⟨by omega, hk, fun hf => (hd (by omega)).trans (congrArg some (by omega))⟩)⟩, (by show va_P _ _ _ t.heap; rw [ht]; exact hP9)⟩, hS.F ht⟩) hS.2.2 dX12_operand_150
      · skip
        have t19957 := cv_eq (a := r19929.toInt) rfl (b := 40) (by decide) c19935
        refine lv_aload_n hx hb dX12_operand_77 rfl (lv_at hl 1 rfl) ?_
        have t19958 : 0 ≤ (v 39).toInt ∧ (v 39).toInt ≤ 120 := hI.1 39 _ _ rfl
        have t19959 : 0 ≤ (v 41).toInt ∧ (v 41).toInt ≤ 8 := hI.1 41 _ _ rfl
        refine va_calli (va_runV (As := []) (rest := []) ⟨hx, hb, hml, hown, hwd⟩ (c_X12_opens l dC dI g c adK adV v F rc H.size  hg hI (by have h9 : v 39 = v 39 := rfl; (try rw [h9]); clear h9; have h9 : v 30 = v 30 := rfl; (try rw [h9]); clear h9; omega)) (cwV 0 hwd (gV wk_1025 wk_1022 wk_1023 wk_1024 wk_5) rfl rfl rfl (by decide +kernel) ⟨Nat.le_of_ble_eq_true rfl, Nat.le_of_ble_eq_true rfl⟩) ⟨PM.blind, va_recv hK hP (ci := 12) (q0 := 0) rfl rfl, fun U hU hW => ⟨rfl, PM.at hK hE hP hS hU hW⟩⟩ rfl rfl hl.1 rfl (lv_room (Nat.le_of_ble_eq_true rfl)) dX12_operand_78 ⟨Nat.le_of_ble_eq_true rfl, Nat.le_of_ble_eq_true rfl⟩) hS (fun q _ h => (freeM hS) q h) (freeM hS) (fun r19960 u t H1 locs ht hvm hw hB hz1 hk1 hS => ?_)
        unfold BM at hB
        rw [ht] at hB
        obtain ⟨v19961, F19962, rc9⟩ := u
        obtain ⟨hI, hrc, hf19963, hG19964, hw⟩ := hw
        dsimp only at hI hrc hB hf19963 hG19964 hw
        have hF := frCF (by decide) hG19964 hF
        rw [hrc] at hB
        have hP : va_P (dC, dI) classes (wM g c v19961 F19962 rc) H1 := hB
        have hw : (r19960.toInt = 1 ∧ (v 41).toInt < 8 ∧ (v19961 41).toInt = (v 41).toInt + 1 ∧ (v19961 39).toInt = (v 39).toInt + 1 ∧ (v19961 40).toInt = (v 40).toInt) ∨ (r19960.toInt = 0 ∧ (v 41).toInt = 8 ∧ 0 ≤ (v19961 40).toInt ∧ (v19961 41).toInt = (v 41).toInt ∧ (v19961 39).toInt = (v 39).toInt) := hw
        have hw_r19960 := hw
        have t19965 : 0 ≤ (v19961 39).toInt ∧ (v19961 39).toInt ≤ 120 := hI.1 39 _ _ rfl
        have t19966 : 0 ≤ (v19961 41).toInt ∧ (v19961 41).toInt ≤ 8 := hI.1 41 _ _ rfl
        generalize H1 = H at hP hS ⊢
        have hk : keepL (v 37) (F 28) (F 29) (F19962 28) (F19962 29) := by rw [hG19964 28 (by decide), hG19964 29 (by decide)]; exact hk
        have hd : (v19961 40).toInt < 0 → dp (F19962 28) (F19962 29) (bI (v 37)) (v 38).toInt.toNat = some d := fun hf => (by rw [hG19964 28 (by decide), hG19964 29 (by decide)]; exact hd (by omega))
        refine lv_if_ne (tgt := 85) hx hb dX12_operand_81 (by decide) (fun c19967 => ?_) (fun c19967 => ?_)
        · skip
          have t19968 := cv_ne (a := r19960.toInt) rfl (b := 0) (by decide) c19967
          refine lv_aload_n hx hb dX12_operand_85 rfl (lv_at hl 1 rfl) ?_
          have t19969 : 0 ≤ (v 30).toInt ∧ (v 30).toInt ≤ 120 := by have h9 := hI.1 30 _ _ rfl; rw [show v19961 30 = v 30 from hf19963 30 (by decide)] at h9; exact h9
          have t19970 : 0 ≤ (v 37).toInt ∧ (v 37).toInt ≤ 9 := by have h9 := hI.1 37 _ _ rfl; rw [show v19961 37 = v 37 from hf19963 37 (by decide)] at h9; exact h9
          have t19971 : 0 ≤ (v 38).toInt ∧ (v 38).toInt ≤ 120 := by have h9 := hI.1 38 _ _ rfl; rw [show v19961 38 = v 38 from hf19963 38 (by decide)] at h9; exact h9
          have t19972 : 0 ≤ (v19961 39).toInt ∧ (v19961 39).toInt ≤ 120 := hI.1 39 _ _ rfl
          have t19973 : 0 ≤ (v19961 41).toInt ∧ (v19961 41).toInt ≤ 8 := hI.1 41 _ _ rfl
          refine va_callv (va_runV (As := []) (rest := []) ⟨hx, hb, hml, hown, hwd⟩ (c_X12_either_3 l dC dI g c adK adV v19961 F19962 rc H.size  d hg hI (by have h9 : v19961 38 = v 38 := hf19963 38 (by decide); (try rw [h9]); clear h9; have h9 : v19961 39 = v19961 39 := rfl; (try rw [h9]); clear h9; have h9 : v19961 30 = v 30 := hf19963 30 (by decide); (try rw [h9]); clear h9; have h9 : v19961 40 = v19961 40 := rfl; (try rw [h9]); clear h9; have h9 : v19961 41 = v19961 41 := rfl; (try rw [h9]); clear h9; omega) (by have h9 : v19961 37 = (v 37) := hf19963 37 (by decide); have h8 : v19961 38 = (v 38) := hf19963 38 (by decide); (try rw [h9]); (try rw [h8]); exact hd (by omega))) (cwV 0 hwd (gV wk_1010 wk_1007 wk_1008 wk_1009 wk_5) rfl rfl rfl (by decide +kernel) ⟨Nat.le_of_ble_eq_true rfl, Nat.le_of_ble_eq_true rfl⟩) ⟨PM.blind, va_recv hK hP (ci := 12) (q0 := 0) rfl rfl, fun U hU hW => ⟨rfl, PM.at hK hE hP hS hU hW⟩⟩ rfl rfl hl.1 rfl (lv_room (Nat.le_of_ble_eq_true rfl)) dX12_operand_86 ⟨Nat.le_of_ble_eq_true rfl, Nat.le_of_ble_eq_true rfl⟩) hS (fun q _ h => (freeM hS) q h) (freeM hS) (fun u t H1 locs ht hvm hw hB hz1 hk1 hS => ?_)
          unfold BM at hB
          rw [ht] at hB
          obtain ⟨v19975, F19976, rc9⟩ := u
          obtain ⟨hI, hrc, hf19977, hG19978, hw⟩ := hw
          dsimp only at hI hrc hB hf19977 hG19978 hw
          have hF := frCF (by decide) hG19978 hF
          rw [hrc] at hB
          have hP : va_P (dC, dI) classes (wM g c v19975 F19976 rc) H1 := hB
          have hw : ((v19961 39).toInt ≤ (v19975 39).toInt ∧ (v19975 39).toInt ≤ (v19961 30).toInt ∧ (v19961 38).toInt ≤ (v19975 38).toInt ∧ (v19975 38).toInt - (v19961 38).toInt ≤ (v19975 39).toInt - (v19961 39).toInt ∧ (v19961 41).toInt ≤ (v19975 41).toInt ∧ ((v19975 40).toInt < 0 → (v19975 41).toInt = (v19961 41).toInt)) ∧ keepL (v19961 37) (F19962 28) (F19962 29) (F19976 28) (F19976 29) ∧ ((v19975 40).toInt < 0 → dp (F19976 28) (F19976 29) (bI (v19961 37)) (v19975 38).toInt.toNat = some (d + 1)) := hw
          rw [show v19961 30 = v 30 from hf19963 30 (by decide)] at hw
          rw [show v19961 38 = v 38 from hf19963 38 (by decide)] at hw
          rw [show v19961 37 = v 37 from hf19963 37 (by decide)] at hw
          have hw_r19974 := hw
          have t19979 : 0 ≤ (v19975 38).toInt ∧ (v19975 38).toInt ≤ 120 := hI.1 38 _ _ rfl
          have t19980 : 0 ≤ (v19975 39).toInt ∧ (v19975 39).toInt ≤ 120 := hI.1 39 _ _ rfl
          have t19981 : 0 ≤ (v19975 41).toInt ∧ (v19975 41).toInt ≤ 8 := hI.1 41 _ _ rfl
          generalize H1 = H at hP hS ⊢
          have hk := hk.tr hw_r19974.2.1
          have hd := hw_r19974.2.2
          refine lv_aload_n hx hb dX12_operand_89 rfl (lv_at hl 1 rfl) ?_
          refine va_get (D := (dC, dI)) (ci := 12) (v := .int (v19975 40)) (C := RX12) (T := TX12) (N := 63) hx hb hwd inA_X12 hown hK hP 0 rfl rfl 40 (by decide) (hwd _ wk_1005) (fun _ h9 => h9) rfl dX12_operand_90 ?_
          refine lv_if_lt (tgt := 97) hx hb dX12_operand_93 (by decide) (fun c19982 => ?_) (fun c19982 => ?_)
          · skip
            have t19983 := cv_lt (a := (v19975 40).toInt) rfl (b := 0) (by decide) c19982
            refine lv_aload_n hx hb dX12_operand_97 rfl (lv_at hl 1 rfl) ?_
            have t19984 : 0 ≤ (v 30).toInt ∧ (v 30).toInt ≤ 120 := by have h9 := hI.1 30 _ _ rfl; rw [show v19975 30 = v 30 from (hf19977 30 (by decide)).trans (hf19963 30 (by decide))] at h9; exact h9
            have t19985 : 0 ≤ (v19975 39).toInt ∧ (v19975 39).toInt ≤ 120 := hI.1 39 _ _ rfl
            refine va_calli (va_runV (As := []) (rest := []) ⟨hx, hb, hml, hown, hwd⟩ (c_X12_look l dC dI g c adK adV v19975 F19976 rc H.size  hg hI ) (cwV 0 hwd (gV wk_1017 wk_1014 wk_1015 wk_1016 wk_5) rfl rfl rfl (by decide +kernel) ⟨Nat.le_of_ble_eq_true rfl, Nat.le_of_ble_eq_true rfl⟩) ⟨PM.blind, va_recv hK hP (ci := 12) (q0 := 0) rfl rfl, fun U hU hW => ⟨rfl, PM.at hK hE hP hS hU hW⟩⟩ rfl rfl hl.1 rfl (lv_room (Nat.le_of_ble_eq_true rfl)) dX12_operand_98 ⟨Nat.le_of_ble_eq_true rfl, Nat.le_of_ble_eq_true rfl⟩) hS (fun q _ h => (freeM hS) q h) (freeM hS) (fun r19986 u t H1 locs ht hvm hw hB hz1 hk1 hS => ?_)
            unfold BM at hB
            rw [ht] at hB
            have hP : va_P (dC, dI) classes (wM g c v19975 F19976 rc) H1 := hB
            have hw : r19986.toInt = lkM (v19975 39) (v19975 30) (F19976 24) ∧ ((v19975 39).toInt < (v19975 30).toInt ∨ r19986.toInt = -1) := hw
            rw [show v19975 30 = v 30 from (hf19977 30 (by decide)).trans (hf19963 30 (by decide))] at hw
            rw [hF 24 (by decide)] at hw
            have hw_r19986 := hw
            generalize H1 = H at hP hS ⊢
            refine lv_bipush (v := 41) hx hb dX12_operand_101 (by decide) ?_
            refine lv_icmp_eq (tgt := 111) hx hb dX12_operand_103 (by decide) (fun c19987 => ?_) (fun c19987 => ?_)
            · skip
              have t19988 := cv_eq (a := r19986.toInt) rfl (b := 41) (by decide) c19987
              refine lv_aload_n hx hb dX12_operand_111 rfl (lv_at hl 1 rfl) ?_
              refine lv_dup hx hb dX12_operand_112 rfl ?_
              refine va_get (D := (dC, dI)) (ci := 12) (v := .int (v19975 39)) (C := RX12) (T := TX12) (N := 63) hx hb hwd inA_X12 hown hK hP 0 rfl rfl 39 (by decide) (hwd _ wk_1004) (fun _ h9 => h9) rfl dX12_operand_113 ?_
              have t19989 : 0 ≤ (v19975 39).toInt ∧ (v19975 39).toInt ≤ 120 := hI.1 39 _ _ rfl
              refine lv_iconst (v := 1) hx hb dX12_operand_116 (by decide) ?_
              refine lv_iadd hx hb dX12_operand_117 ?_
              refine lv_topi (fun z19990 e19991 => ?_)
              try (have t19992 := tadd e19991 (a := (v19975 39).toInt) rfl (b := 1) (by decide) (by omega))
              refine va_put (D := (dC, dI)) (ci := 12) (v := .int z19990) (ty := .int) (C := RX12) (T := TX12) (N := 63) (fs := fsM_0 g v19975 rc) hx hb hwd inA_X12 tyX12 tyX12_ok nmX12 hown hK hP (DM hg) hS 0 rfl rfl 39 (by decide) (hwd _ wk_1004) (fun _ h9 => h9) rfl (by decide +kernel) rfl rfl (Nat.le_of_ble_eq_true rfl) dX12_operand_118 (fun H locs hP _ hS => ?_)
              have hP := va_P_eq (pM_39 g c _ _ _ _) hP
              have hI := IM.put hI 39 z19990 rfl (by omega)
              refine lv_aload_n hx hb dX12_operand_121 rfl (lv_at hl 1 rfl) ?_
              refine lv_dup hx hb dX12_operand_122 rfl ?_
              refine va_get (D := (dC, dI)) (ci := 12) (v := .int (v19975 41)) (C := RX12) (T := TX12) (N := 63) hx hb hwd inA_X12 hown hK hP 0 rfl rfl 41 (by decide) (hwd _ wk_1006) (fun _ h9 => h9) rfl dX12_operand_123 ?_
              have t19993 : 0 ≤ (v19975 41).toInt ∧ (v19975 41).toInt ≤ 8 := hI.1 41 _ _ rfl
              refine lv_iconst (v := 1) hx hb dX12_operand_126 (by decide) ?_
              refine lv_isub hx hb dX12_operand_127 ?_
              refine lv_topi (fun z19994 e19995 => ?_)
              try (have t19996 := tsub e19995 (a := (v19975 41).toInt) rfl (b := 1) (by decide) (by omega))
              refine va_put (D := (dC, dI)) (ci := 12) (v := .int z19994) (ty := .int) (C := RX12) (T := TX12) (N := 63) (fs := fsM_0 g (va_up v19975 39 z19990) rc) hx hb hwd inA_X12 tyX12 tyX12_ok nmX12 hown hK hP (DM hg) hS 0 rfl rfl 41 (by decide) (hwd _ wk_1006) (fun _ h9 => h9) rfl (by decide +kernel) rfl rfl (Nat.le_of_ble_eq_true rfl) dX12_operand_128 (fun H locs hP _ hS => ?_)
              have hP := va_P_eq (pM_41 g c _ _ _ _) hP
              have hI := IM.put hI 41 z19994 rfl (by omega)
              refine lv_goto (tgt := 150) hx hb dX12_operand_131 (by decide) ?_
              have hP9 : va_P (dC, dI) classes (wM g c (va_up (va_up v19975 39 z19990) 41 z19994) F19976 rc) H := hP
              exact W.vret hx hb hr (fun t ht hW => ⟨⟨((va_up (va_up v19975 39 z19990) 41 z19994), F19976, rc), rfl, ⟨hI, rfl, (frU (by decide) (frU (by decide) (frC (by decide) hf19977 (frC (by decide) hf19963 (fun _ _ => rfl))))), hF, (by show ((v 39).toInt ≤ z19990.toInt ∧ z19990.toInt ≤ (v 30).toInt ∧ (v 38).toInt ≤ (v19975 38).toInt ∧ (v19975 38).toInt - (v 38).toInt ≤ z19990.toInt - (v 39).toInt ∧ (v 41).toInt ≤ z19994.toInt ∧ ((v19975 40).toInt < 0 → z19994.toInt = (v 41).toInt)) ∧ keepL (v 37) (F 28) (F 29) (F19976 28) (F19976 29) ∧ ((v19975 40).toInt < 0 → dp (F19976 28) (F19976 29) (bI (v 37)) (v19975 38).toInt.toNat = some (d + 1)); exact ⟨by omega, hk, fun hf => (hd (by omega)).trans (congrArg some (by omega))⟩)⟩, (by show va_P _ _ _ t.heap; rw [ht]; exact hP9)⟩, hS.F ht⟩) hS.2.2 dX12_operand_150
            · skip
              have t19997 := cv_ne (a := r19986.toInt) rfl (b := 41) (by decide) c19987
              refine lv_aload_n hx hb dX12_operand_106 rfl (lv_at hl 1 rfl) ?_
              refine va_callv (va_runV (As := []) (rest := []) ⟨hx, hb, hml, hown, hwd⟩ (c_X12_wrong l dC dI g c adK adV v19975 F19976 rc H.size  hg hI ) (cwV 0 hwd (gV wk_1029 wk_1026 wk_1027 wk_1028 wk_5) rfl rfl rfl (by decide +kernel) ⟨Nat.le_of_ble_eq_true rfl, Nat.le_of_ble_eq_true rfl⟩) ⟨PM.blind, va_recv hK hP (ci := 12) (q0 := 0) rfl rfl, fun U hU hW => ⟨rfl, PM.at hK hE hP hS hU hW⟩⟩ rfl rfl hl.1 rfl (lv_room (Nat.le_of_ble_eq_true rfl)) dX12_operand_107 ⟨Nat.le_of_ble_eq_true rfl, Nat.le_of_ble_eq_true rfl⟩) hS (fun q _ h => (freeM hS) q h) (freeM hS) (fun u t H1 locs ht hvm hw hB hz1 hk1 hS => ?_)
              unfold BM at hB
              rw [ht] at hB
              obtain ⟨v19999, F20000, rc9⟩ := u
              obtain ⟨hI, hrc, hf20001, hG20002, hw⟩ := hw
              dsimp only at hI hrc hB hf20001 hG20002 hw
              have hF := frCF (by decide) hG20002 hF
              rw [hrc] at hB
              have hP : va_P (dC, dI) classes (wM g c v19999 F20000 rc) H1 := hB
              have hw : 0 ≤ (v19999 40).toInt := hw
              have hw_r19998 := hw
              generalize H1 = H at hP hS ⊢
              have hk : keepL (v 37) (F 28) (F 29) (F20000 28) (F20000 29) := by rw [hG20002 28 (by decide), hG20002 29 (by decide)]; exact hk
              have hd : (v19999 40).toInt < 0 → dp (F20000 28) (F20000 29) (bI (v 37)) (v19975 38).toInt.toNat = some (d + 1) := fun hf => (by rw [hG20002 28 (by decide), hG20002 29 (by decide)]; exact hd (by omega))
              have hP9 : va_P (dC, dI) classes (wM g c v19999 F20000 rc) H := hP
              exact W.vret hx hb hr (fun t ht hW => ⟨⟨(v19999, F20000, rc), rfl, ⟨hI, rfl, (frC (by decide) hf20001 (frC (by decide) hf19977 (frC (by decide) hf19963 (fun _ _ => rfl)))), hF, (by show ((v 39).toInt ≤ (v19999 39).toInt ∧ (v19999 39).toInt ≤ (v 30).toInt ∧ (v 38).toInt ≤ (v19999 38).toInt ∧ (v19999 38).toInt - (v 38).toInt ≤ (v19999 39).toInt - (v 39).toInt ∧ (v 41).toInt ≤ (v19999 41).toInt ∧ ((v19999 40).toInt < 0 → (v19999 41).toInt = (v 41).toInt)) ∧ keepL (v 37) (F 28) (F 29) (F20000 28) (F20000 29) ∧ ((v19999 40).toInt < 0 → dp (F20000 28) (F20000 29) (bI (v 37)) (v19999 38).toInt.toNat = some (d + 1)); rw [show v19999 39 = v19975 39 from hf20001 39 (by decide)]; rw [show v19999 38 = v19975 38 from hf20001 38 (by decide)]; rw [show v19999 41 = v19975 41 from hf20001 41 (by decide)]; exact ⟨by omega, hk, fun hf => (hd (by omega)).trans (congrArg some (by omega))⟩)⟩, (by show va_P _ _ _ t.heap; rw [ht]; exact hP9)⟩, hS.F ht⟩) hS.2.2 dX12_operand_110
          · skip
            have t20003 := cv_nlt (a := (v19975 40).toInt) rfl (b := 0) (by decide) c19982
            have hP9 : va_P (dC, dI) classes (wM g c v19975 F19976 rc) H := hP
            exact W.vret hx hb hr (fun t ht hW => ⟨⟨(v19975, F19976, rc), rfl, ⟨hI, rfl, (frC (by decide) hf19977 (frC (by decide) hf19963 (fun _ _ => rfl))), hF, (by show ((v 39).toInt ≤ (v19975 39).toInt ∧ (v19975 39).toInt ≤ (v 30).toInt ∧ (v 38).toInt ≤ (v19975 38).toInt ∧ (v19975 38).toInt - (v 38).toInt ≤ (v19975 39).toInt - (v 39).toInt ∧ (v 41).toInt ≤ (v19975 41).toInt ∧ ((v19975 40).toInt < 0 → (v19975 41).toInt = (v 41).toInt)) ∧ keepL (v 37) (F 28) (F 29) (F19976 28) (F19976 29) ∧ ((v19975 40).toInt < 0 → dp (F19976 28) (F19976 29) (bI (v 37)) (v19975 38).toInt.toNat = some (d + 1)); exact ⟨by omega, hk, fun hf => (hd (by omega)).trans (congrArg some (by omega))⟩)⟩, (by show va_P _ _ _ t.heap; rw [ht]; exact hP9)⟩, hS.F ht⟩) hS.2.2 dX12_operand_96
        · skip
          have t20004 := cv_eq (a := r19960.toInt) rfl (b := 0) (by decide) c19967
          have hP9 : va_P (dC, dI) classes (wM g c v19961 F19962 rc) H := hP
          exact W.vret hx hb hr (fun t ht hW => ⟨⟨(v19961, F19962, rc), rfl, ⟨hI, rfl, (frC (by decide) hf19963 (fun _ _ => rfl)), hF, (by show ((v 39).toInt ≤ (v19961 39).toInt ∧ (v19961 39).toInt ≤ (v 30).toInt ∧ (v 38).toInt ≤ (v19961 38).toInt ∧ (v19961 38).toInt - (v 38).toInt ≤ (v19961 39).toInt - (v 39).toInt ∧ (v 41).toInt ≤ (v19961 41).toInt ∧ ((v19961 40).toInt < 0 → (v19961 41).toInt = (v 41).toInt)) ∧ keepL (v 37) (F 28) (F 29) (F19962 28) (F19962 29) ∧ ((v19961 40).toInt < 0 → dp (F19962 28) (F19962 29) (bI (v 37)) (v19961 38).toInt.toNat = some (d + 1)); rw [show v19961 38 = v 38 from hf19963 38 (by decide)]; exact ⟨by omega, hk, fun hf => (hd (by omega)).trans (congrArg some (by omega))⟩)⟩, (by show va_P _ _ _ t.heap; rw [ht]; exact hP9)⟩, hS.F ht⟩) hS.2.2 dX12_operand_84
    · skip
      have t20005 := cv_eq (a := r19929.toInt) rfl (b := 45) (by decide) c19933
      refine lv_aload_n hx hb dX12_operand_40 rfl (lv_at hl 1 rfl) ?_
      have t20006 : 0 ≤ (v 39).toInt ∧ (v 39).toInt ≤ 120 := hI.1 39 _ _ rfl
      have t20007 : 0 ≤ (v 41).toInt ∧ (v 41).toInt ≤ 8 := hI.1 41 _ _ rfl
      refine va_calli (va_runV (As := []) (rest := []) ⟨hx, hb, hml, hown, hwd⟩ (c_X12_opens l dC dI g c adK adV v F rc H.size  hg hI (by have h9 : v 39 = v 39 := rfl; (try rw [h9]); clear h9; have h9 : v 30 = v 30 := rfl; (try rw [h9]); clear h9; omega)) (cwV 0 hwd (gV wk_1025 wk_1022 wk_1023 wk_1024 wk_5) rfl rfl rfl (by decide +kernel) ⟨Nat.le_of_ble_eq_true rfl, Nat.le_of_ble_eq_true rfl⟩) ⟨PM.blind, va_recv hK hP (ci := 12) (q0 := 0) rfl rfl, fun U hU hW => ⟨rfl, PM.at hK hE hP hS hU hW⟩⟩ rfl rfl hl.1 rfl (lv_room (Nat.le_of_ble_eq_true rfl)) dX12_operand_41 ⟨Nat.le_of_ble_eq_true rfl, Nat.le_of_ble_eq_true rfl⟩) hS (fun q _ h => (freeM hS) q h) (freeM hS) (fun r20008 u t H1 locs ht hvm hw hB hz1 hk1 hS => ?_)
      unfold BM at hB
      rw [ht] at hB
      obtain ⟨v20009, F20010, rc9⟩ := u
      obtain ⟨hI, hrc, hf20011, hG20012, hw⟩ := hw
      dsimp only at hI hrc hB hf20011 hG20012 hw
      have hF := frCF (by decide) hG20012 hF
      rw [hrc] at hB
      have hP : va_P (dC, dI) classes (wM g c v20009 F20010 rc) H1 := hB
      have hw : (r20008.toInt = 1 ∧ (v 41).toInt < 8 ∧ (v20009 41).toInt = (v 41).toInt + 1 ∧ (v20009 39).toInt = (v 39).toInt + 1 ∧ (v20009 40).toInt = (v 40).toInt) ∨ (r20008.toInt = 0 ∧ (v 41).toInt = 8 ∧ 0 ≤ (v20009 40).toInt ∧ (v20009 41).toInt = (v 41).toInt ∧ (v20009 39).toInt = (v 39).toInt) := hw
      have hw_r20008 := hw
      have t20013 : 0 ≤ (v20009 39).toInt ∧ (v20009 39).toInt ≤ 120 := hI.1 39 _ _ rfl
      have t20014 : 0 ≤ (v20009 41).toInt ∧ (v20009 41).toInt ≤ 8 := hI.1 41 _ _ rfl
      generalize H1 = H at hP hS ⊢
      have hk : keepL (v 37) (F 28) (F 29) (F20010 28) (F20010 29) := by rw [hG20012 28 (by decide), hG20012 29 (by decide)]; exact hk
      have hd : (v20009 40).toInt < 0 → dp (F20010 28) (F20010 29) (bI (v 37)) (v 38).toInt.toNat = some d := fun hf => (by rw [hG20012 28 (by decide), hG20012 29 (by decide)]; exact hd (by omega))
      refine lv_if_ne (tgt := 48) hx hb dX12_operand_44 (by decide) (fun c20015 => ?_) (fun c20015 => ?_)
      · skip
        have t20016 := cv_ne (a := r20008.toInt) rfl (b := 0) (by decide) c20015
        refine lv_aload_n hx hb dX12_operand_48 rfl (lv_at hl 1 rfl) ?_
        have t20017 : 0 ≤ (v 30).toInt ∧ (v 30).toInt ≤ 120 := by have h9 := hI.1 30 _ _ rfl; rw [show v20009 30 = v 30 from hf20011 30 (by decide)] at h9; exact h9
        have t20018 : 0 ≤ (v 37).toInt ∧ (v 37).toInt ≤ 9 := by have h9 := hI.1 37 _ _ rfl; rw [show v20009 37 = v 37 from hf20011 37 (by decide)] at h9; exact h9
        have t20019 : 0 ≤ (v 38).toInt ∧ (v 38).toInt ≤ 120 := by have h9 := hI.1 38 _ _ rfl; rw [show v20009 38 = v 38 from hf20011 38 (by decide)] at h9; exact h9
        have t20020 : 0 ≤ (v20009 39).toInt ∧ (v20009 39).toInt ≤ 120 := hI.1 39 _ _ rfl
        have t20021 : 0 ≤ (v20009 41).toInt ∧ (v20009 41).toInt ≤ 8 := hI.1 41 _ _ rfl
        refine va_callv (va_runV (As := []) (rest := []) ⟨hx, hb, hml, hown, hwd⟩ (c_X12_operand_3 l dC dI g c adK adV v20009 F20010 rc H.size  d hg hI (by have h9 : v20009 38 = v 38 := hf20011 38 (by decide); (try rw [h9]); clear h9; have h9 : v20009 39 = v20009 39 := rfl; (try rw [h9]); clear h9; have h9 : v20009 30 = v 30 := hf20011 30 (by decide); (try rw [h9]); clear h9; have h9 : v20009 40 = v20009 40 := rfl; (try rw [h9]); clear h9; have h9 : v20009 41 = v20009 41 := rfl; (try rw [h9]); clear h9; omega) (by have h9 : v20009 37 = (v 37) := hf20011 37 (by decide); have h8 : v20009 38 = (v 38) := hf20011 38 (by decide); (try rw [h9]); (try rw [h8]); exact hd (by omega))) (cwV 0 hwd (gV wk_1030 wk_1035 wk_1036 wk_1037 wk_5) rfl rfl rfl (by decide +kernel) ⟨Nat.le_of_ble_eq_true rfl, Nat.le_of_ble_eq_true rfl⟩) ⟨PM.blind, va_recv hK hP (ci := 12) (q0 := 0) rfl rfl, fun U hU hW => ⟨rfl, PM.at hK hE hP hS hU hW⟩⟩ rfl rfl hl.1 rfl (lv_room (Nat.le_of_ble_eq_true rfl)) dX12_operand_49 ⟨Nat.le_of_ble_eq_true rfl, Nat.le_of_ble_eq_true rfl⟩) hS (fun q _ h => (freeM hS) q h) (freeM hS) (fun u t H1 locs ht hvm hw hB hz1 hk1 hS => ?_)
        unfold BM at hB
        rw [ht] at hB
        obtain ⟨v20023, F20024, rc9⟩ := u
        obtain ⟨hI, hrc, hf20025, hG20026, hw⟩ := hw
        dsimp only at hI hrc hB hf20025 hG20026 hw
        have hF := frCF (by decide) hG20026 hF
        rw [hrc] at hB
        have hP : va_P (dC, dI) classes (wM g c v20023 F20024 rc) H1 := hB
        have hw : ((v20009 39).toInt ≤ (v20023 39).toInt ∧ (v20023 39).toInt ≤ (v20009 30).toInt ∧ (v20009 38).toInt ≤ (v20023 38).toInt ∧ (v20023 38).toInt - (v20009 38).toInt ≤ (v20023 39).toInt - (v20009 39).toInt ∧ (v20009 41).toInt ≤ (v20023 41).toInt ∧ ((v20023 40).toInt < 0 → (v20023 41).toInt = (v20009 41).toInt)) ∧ keepL (v20009 37) (F20010 28) (F20010 29) (F20024 28) (F20024 29) ∧ ((v20023 40).toInt < 0 → dp (F20024 28) (F20024 29) (bI (v20009 37)) (v20023 38).toInt.toNat = some (d + 1)) := hw
        rw [show v20009 30 = v 30 from hf20011 30 (by decide)] at hw
        rw [show v20009 38 = v 38 from hf20011 38 (by decide)] at hw
        rw [show v20009 37 = v 37 from hf20011 37 (by decide)] at hw
        have hw_r20022 := hw
        have t20027 : 0 ≤ (v20023 38).toInt ∧ (v20023 38).toInt ≤ 120 := hI.1 38 _ _ rfl
        have t20028 : 0 ≤ (v20023 39).toInt ∧ (v20023 39).toInt ≤ 120 := hI.1 39 _ _ rfl
        have t20029 : 0 ≤ (v20023 41).toInt ∧ (v20023 41).toInt ≤ 8 := hI.1 41 _ _ rfl
        generalize H1 = H at hP hS ⊢
        have hk := hk.tr hw_r20022.2.1
        have hd := hw_r20022.2.2
        refine lv_aload_n hx hb dX12_operand_52 rfl (lv_at hl 1 rfl) ?_
        refine lv_iconst (v := 3) hx hb dX12_operand_53 (by decide) ?_
        refine lv_iconst (v := 0) hx hb dX12_operand_54 (by decide) ?_
        have t20030 : 0 ≤ (v 37).toInt ∧ (v 37).toInt ≤ 9 := by have h9 := hI.1 37 _ _ rfl; rw [show v20023 37 = v 37 from (hf20025 37 (by decide)).trans (hf20011 37 (by decide))] at h9; exact h9
        have t20031 : 0 ≤ (v20023 38).toInt ∧ (v20023 38).toInt ≤ 120 := hI.1 38 _ _ rfl
        refine va_callv (va_runV (As := [.int 3, .int 0]) (rest := []) ⟨hx, hb, hml, hown, hwd⟩ (c_X12_lay l dC dI g c adK adV v20023 F20024 rc H.size 3 0 hg hI (by have h9 : v20023 38 = v20023 38 := rfl; rw [h9]; omega)) (cwV 2 hwd (gV wk_1021 wk_1018 wk_1019 wk_1020 wk_5) rfl rfl rfl (by decide +kernel) ⟨Nat.le_of_ble_eq_true rfl, Nat.le_of_ble_eq_true rfl⟩) ⟨PM.blind, va_recv hK hP (ci := 12) (q0 := 0) rfl rfl, fun U hU hW => ⟨rfl, PM.at hK hE hP hS hU hW⟩⟩ rfl rfl hl.1 rfl (lv_room (Nat.le_of_ble_eq_true rfl)) dX12_operand_55 ⟨Nat.le_of_ble_eq_true rfl, Nat.le_of_ble_eq_true rfl⟩) hS (fun q _ h => (freeM hS) q h) (freeM hS) (fun u t H1 locs ht hvm hw hB hz1 hk1 hS => ?_)
        unfold BM at hB
        rw [ht] at hB
        obtain ⟨v20033, F20034, rc9⟩ := u
        obtain ⟨hI, hrc, hf20035, hG20036, hw⟩ := hw
        dsimp only at hI hrc hB hf20035 hG20036 hw
        have hF := frCF (by decide) hG20036 hF
        rw [hrc] at hB
        have hP : va_P (dC, dI) classes (wM g c v20033 F20034 rc) H1 := hB
        have hw : (v20033 38).toInt = (v20023 38).toInt + 1 ∧ keepL (v20023 37) (F20024 28) (F20024 29) (F20034 28) (F20034 29) ∧ dp (F20034 28) (F20034 29) (bI (v20023 37)) ((v20023 38).toInt.toNat + 1) = dpS (dp (F20024 28) (F20024 29) (bI (v20023 37)) (v20023 38).toInt.toNat) (3 : Int32) (0 : Int32) := hw
        rw [show v20023 37 = v 37 from (hf20025 37 (by decide)).trans (hf20011 37 (by decide))] at hw
        have hw_r20032 := hw
        have t20037 : 0 ≤ (v20033 38).toInt ∧ (v20033 38).toInt ≤ 120 := hI.1 38 _ _ rfl
        have k20038 : (3 : Int32).toInt = 3 := by decide
        have k20039 : (0 : Int32).toInt = 0 := by decide
        generalize H1 = H at hP hS ⊢
        have hk := hk.tr hw_r20032.2.1
        have hd : (v20023 40).toInt < 0 → dp (F20034 28) (F20034 29) (bI (v 37)) (v20033 38).toInt.toNat = some (d + 1) := fun hf => (by have e9 : (v20033 38).toInt.toNat = (v20023 38).toInt.toNat + 1 := (by omega); rw [e9, hw_r20032.2.2, hd hf]; exact dpS_3 (by decide) (by omega))
        refine lv_aload_n hx hb dX12_operand_58 rfl (lv_at hl 1 rfl) ?_
        refine lv_dup hx hb dX12_operand_59 rfl ?_
        refine va_get (D := (dC, dI)) (ci := 12) (v := .int (v20033 41)) (C := RX12) (T := TX12) (N := 63) hx hb hwd inA_X12 hown hK hP 0 rfl rfl 41 (by decide) (hwd _ wk_1006) (fun _ h9 => h9) rfl dX12_operand_60 ?_
        refine my_top (v := v20023 41) (hf20035 41 (by decide)) ?_
        have t20040 : 0 ≤ (v20023 41).toInt ∧ (v20023 41).toInt ≤ 8 := by have h9 := hI.1 41 _ _ rfl; rw [show v20033 41 = v20023 41 from hf20035 41 (by decide)] at h9; exact h9
        refine lv_iconst (v := 1) hx hb dX12_operand_63 (by decide) ?_
        refine lv_isub hx hb dX12_operand_64 ?_
        refine lv_topi (fun z20041 e20042 => ?_)
        try (have t20043 := tsub e20042 (a := (v20023 41).toInt) rfl (b := 1) (by decide) (by omega))
        refine va_put (D := (dC, dI)) (ci := 12) (v := .int z20041) (ty := .int) (C := RX12) (T := TX12) (N := 63) (fs := fsM_0 g v20033 rc) hx hb hwd inA_X12 tyX12 tyX12_ok nmX12 hown hK hP (DM hg) hS 0 rfl rfl 41 (by decide) (hwd _ wk_1006) (fun _ h9 => h9) rfl (by decide +kernel) rfl rfl (Nat.le_of_ble_eq_true rfl) dX12_operand_65 (fun H locs hP _ hS => ?_)
        have hP := va_P_eq (pM_41 g c _ _ _ _) hP
        have hI := IM.put hI 41 z20041 rfl (by omega)
        refine lv_goto (tgt := 150) hx hb dX12_operand_68 (by decide) ?_
        have hP9 : va_P (dC, dI) classes (wM g c (va_up v20033 41 z20041) F20034 rc) H := hP
        exact W.vret hx hb hr (fun t ht hW => ⟨⟨((va_up v20033 41 z20041), F20034, rc), rfl, ⟨hI, rfl, (frU (by decide) (frC (by decide) hf20035 (frC (by decide) hf20025 (frC (by decide) hf20011 (fun _ _ => rfl))))), hF, (by show ((v 39).toInt ≤ ((va_up v20033 41 z20041) 39).toInt ∧ ((va_up v20033 41 z20041) 39).toInt ≤ (v 30).toInt ∧ (v 38).toInt ≤ (v20033 38).toInt ∧ (v20033 38).toInt - (v 38).toInt ≤ ((va_up v20033 41 z20041) 39).toInt - (v 39).toInt ∧ (v 41).toInt ≤ z20041.toInt ∧ (((va_up v20033 41 z20041) 40).toInt < 0 → z20041.toInt = (v 41).toInt)) ∧ keepL (v 37) (F 28) (F 29) (F20034 28) (F20034 29) ∧ (((va_up v20033 41 z20041) 40).toInt < 0 → dp (F20034 28) (F20034 29) (bI (v 37)) (v20033 38).toInt.toNat = some (d + 1)); rw [show (va_up v20033 41 z20041) 39 = v20023 39 from hf20035 39 (by decide)]; rw [show (va_up v20033 41 z20041) 40 = v20023 40 from hf20035 40 (by decide)]; exact ⟨by omega, hk, fun hf => (hd (by omega)).trans (congrArg some (by omega))⟩)⟩, (by show va_P _ _ _ t.heap; rw [ht]; exact hP9)⟩, hS.F ht⟩) hS.2.2 dX12_operand_150
      · skip
        have t20044 := cv_eq (a := r20008.toInt) rfl (b := 0) (by decide) c20015
        have hP9 : va_P (dC, dI) classes (wM g c v20009 F20010 rc) H := hP
        exact W.vret hx hb hr (fun t ht hW => ⟨⟨(v20009, F20010, rc), rfl, ⟨hI, rfl, (frC (by decide) hf20011 (fun _ _ => rfl)), hF, (by show ((v 39).toInt ≤ (v20009 39).toInt ∧ (v20009 39).toInt ≤ (v 30).toInt ∧ (v 38).toInt ≤ (v20009 38).toInt ∧ (v20009 38).toInt - (v 38).toInt ≤ (v20009 39).toInt - (v 39).toInt ∧ (v 41).toInt ≤ (v20009 41).toInt ∧ ((v20009 40).toInt < 0 → (v20009 41).toInt = (v 41).toInt)) ∧ keepL (v 37) (F 28) (F 29) (F20010 28) (F20010 29) ∧ ((v20009 40).toInt < 0 → dp (F20010 28) (F20010 29) (bI (v 37)) (v20009 38).toInt.toNat = some (d + 1)); rw [show v20009 38 = v 38 from hf20011 38 (by decide)]; exact ⟨by omega, hk, fun hf => (hd (by omega)).trans (congrArg some (by omega))⟩)⟩, (by show va_P _ _ _ t.heap; rw [ht]; exact hP9)⟩, hS.F ht⟩) hS.2.2 dX12_operand_47
  · skip
    have t20045 := cv_nlt (a := r19930.toInt) rfl (b := 0) (by decide) c19931
    refine lv_aload_n hx hb dX12_operand_12 rfl (lv_at hl 1 rfl) ?_
    refine lv_iconst (v := 2) hx hb dX12_operand_13 (by decide) ?_
    refine lv_iload_n hx hb dX12_operand_14 rfl (lv_at hl 0 rfl) ?_
    refine va_calli (va_runS (As := [.int r19929]) (rest := [.int 2, .ref (g 0)]) ⟨hx, hb, hml, hown, hwd⟩ (c_X12_nameOf l dC dI g c adK adV v F rc H.size r19929 hg hI ) (va_cwS 1 hwd (gT wk_1034 wk_1032 wk_1033 wk_5) rfl rfl rfl (by decide +kernel) ⟨Nat.le_of_ble_eq_true rfl, Nat.le_of_ble_eq_true rfl⟩) ⟨PM.blind, fun U hU hW => ⟨rfl, PM.at hK hE hP hS hU hW⟩⟩ rfl rfl hl.1 rfl (lv_room (Nat.le_of_ble_eq_true rfl)) dX12_operand_15 ⟨Nat.le_of_ble_eq_true rfl, Nat.le_of_ble_eq_true rfl⟩) hS (fun q _ h => (freeM hS) q h) (freeM hS) (fun r20046 u t H1 locs ht hvm hw hB hz1 hk1 hS => ?_)
    unfold BM at hB
    rw [ht] at hB
    have hP : va_P (dC, dI) classes (wM g c v F rc) H1 := hB
    have hw : r20046.toInt = nmM r19929 ∧ (-1 ≤ r20046.toInt ∧ r20046.toInt ≤ 5) := hw
    have hw_r20046 := hw
    generalize H1 = H at hP hS ⊢
    have np_r20046 := nmM_pos r19929
    have t20047 : 0 ≤ (v 37).toInt ∧ (v 37).toInt ≤ 9 := hI.1 37 _ _ rfl
    have t20048 : 0 ≤ (v 38).toInt ∧ (v 38).toInt ≤ 120 := hI.1 38 _ _ rfl
    refine va_callv (va_runV (As := [.int 2, .int r20046]) (rest := []) ⟨hx, hb, hml, hown, hwd⟩ (c_X12_lay l dC dI g c adK adV v F rc H.size 2 r20046 hg hI (by have h9 : v 38 = v 38 := rfl; rw [h9]; omega)) (cwV 2 hwd (gV wk_1021 wk_1018 wk_1019 wk_1020 wk_5) rfl rfl rfl (by decide +kernel) ⟨Nat.le_of_ble_eq_true rfl, Nat.le_of_ble_eq_true rfl⟩) ⟨PM.blind, va_recv hK hP (ci := 12) (q0 := 0) rfl rfl, fun U hU hW => ⟨rfl, PM.at hK hE hP hS hU hW⟩⟩ rfl rfl hl.1 rfl (lv_room (Nat.le_of_ble_eq_true rfl)) dX12_operand_18 ⟨Nat.le_of_ble_eq_true rfl, Nat.le_of_ble_eq_true rfl⟩) hS (fun q _ h => (freeM hS) q h) (freeM hS) (fun u t H1 locs ht hvm hw hB hz1 hk1 hS => ?_)
    unfold BM at hB
    rw [ht] at hB
    obtain ⟨v20050, F20051, rc9⟩ := u
    obtain ⟨hI, hrc, hf20052, hG20053, hw⟩ := hw
    dsimp only at hI hrc hB hf20052 hG20053 hw
    have hF := frCF (by decide) hG20053 hF
    rw [hrc] at hB
    have hP : va_P (dC, dI) classes (wM g c v20050 F20051 rc) H1 := hB
    have hw : (v20050 38).toInt = (v 38).toInt + 1 ∧ keepL (v 37) (F 28) (F 29) (F20051 28) (F20051 29) ∧ dp (F20051 28) (F20051 29) (bI (v 37)) ((v 38).toInt.toNat + 1) = dpS (dp (F 28) (F 29) (bI (v 37)) (v 38).toInt.toNat) (2 : Int32) r20046 := hw
    have hw_r20049 := hw
    have t20054 : 0 ≤ (v20050 38).toInt ∧ (v20050 38).toInt ≤ 120 := hI.1 38 _ _ rfl
    have k20055 : (2 : Int32).toInt = 2 := by decide
    generalize H1 = H at hP hS ⊢
    have hk := hk.tr hw_r20049.2.1
    have hd : (v 40).toInt < 0 → dp (F20051 28) (F20051 29) (bI (v 37)) (v20050 38).toInt.toNat = some (d + 1) := fun hf => (by have e9 : (v20050 38).toInt.toNat = (v 38).toInt.toNat + 1 := (by omega); rw [e9, hw_r20049.2.2, hd hf]; exact dpS_2 (by decide) (by omega))
    refine lv_aload_n hx hb dX12_operand_21 rfl (lv_at hl 1 rfl) ?_
    refine lv_dup hx hb dX12_operand_22 rfl ?_
    refine va_get (D := (dC, dI)) (ci := 12) (v := .int (v20050 39)) (C := RX12) (T := TX12) (N := 63) hx hb hwd inA_X12 hown hK hP 0 rfl rfl 39 (by decide) (hwd _ wk_1004) (fun _ h9 => h9) rfl dX12_operand_23 ?_
    refine my_top (v := v 39) (hf20052 39 (by decide)) ?_
    have t20056 : 0 ≤ (v 39).toInt ∧ (v 39).toInt ≤ 120 := by have h9 := hI.1 39 _ _ rfl; rw [show v20050 39 = v 39 from hf20052 39 (by decide)] at h9; exact h9
    refine lv_iconst (v := 1) hx hb dX12_operand_26 (by decide) ?_
    refine lv_iadd hx hb dX12_operand_27 ?_
    refine lv_topi (fun z20057 e20058 => ?_)
    try (have t20059 := tadd e20058 (a := (v 39).toInt) rfl (b := 1) (by decide) (by omega))
    refine va_put (D := (dC, dI)) (ci := 12) (v := .int z20057) (ty := .int) (C := RX12) (T := TX12) (N := 63) (fs := fsM_0 g v20050 rc) hx hb hwd inA_X12 tyX12 tyX12_ok nmX12 hown hK hP (DM hg) hS 0 rfl rfl 39 (by decide) (hwd _ wk_1004) (fun _ h9 => h9) rfl (by decide +kernel) rfl rfl (Nat.le_of_ble_eq_true rfl) dX12_operand_28 (fun H locs hP _ hS => ?_)
    have hP := va_P_eq (pM_39 g c _ _ _ _) hP
    have hI := IM.put hI 39 z20057 rfl (by omega)
    refine lv_goto (tgt := 150) hx hb dX12_operand_31 (by decide) ?_
    have hP9 : va_P (dC, dI) classes (wM g c (va_up v20050 39 z20057) F20051 rc) H := hP
    exact W.vret hx hb hr (fun t ht hW => ⟨⟨((va_up v20050 39 z20057), F20051, rc), rfl, ⟨hI, rfl, (frU (by decide) (frC (by decide) hf20052 (fun _ _ => rfl))), hF, (by show ((v 39).toInt ≤ z20057.toInt ∧ z20057.toInt ≤ (v 30).toInt ∧ (v 38).toInt ≤ (v20050 38).toInt ∧ (v20050 38).toInt - (v 38).toInt ≤ z20057.toInt - (v 39).toInt ∧ (v 41).toInt ≤ ((va_up v20050 39 z20057) 41).toInt ∧ (((va_up v20050 39 z20057) 40).toInt < 0 → ((va_up v20050 39 z20057) 41).toInt = (v 41).toInt)) ∧ keepL (v 37) (F 28) (F 29) (F20051 28) (F20051 29) ∧ (((va_up v20050 39 z20057) 40).toInt < 0 → dp (F20051 28) (F20051 29) (bI (v 37)) (v20050 38).toInt.toNat = some (d + 1)); rw [show (va_up v20050 39 z20057) 41 = v 41 from hf20052 41 (by decide)]; rw [show (va_up v20050 39 z20057) 40 = v 40 from hf20052 40 (by decide)]; exact ⟨by omega, hk, fun hf => (hd (by omega)).trans (congrArg some (by omega))⟩)⟩, (by show va_P _ _ _ t.heap; rw [ht]; exact hP9)⟩, hS.F ht⟩) hS.2.2 dX12_operand_150
set_option maxHeartbeats 8000000 in
set_option maxRecDepth 100000 in
theorem c_X12_product_2 (l : Launch) (dC : Nat → ClassId) (dI : Nat → Nat → Nat) (g : Nat → Nat) (c : Nat → ClassId) (adK adV : Nat → Nat) (v : Nat → Int32) (F : Nat → Nat → Int32) (rc sz : Nat) (d : Nat) (hg : injM g) (hI : IM v F) (hq : (v 38).toInt ≤ (v 39).toInt ∧ (v 39).toInt ≤ (v 30).toInt ∧ (v 40).toInt < 0 ∧ (v 41).toInt = 2) (hdp : dp (F 28) (F 29) (bI (v 37)) (v 38).toInt.toNat = some d) : Met l yX12_product (Cond.code yX12_product cX12_product 2 none :: wA) ({ frames := 28, cells := 0, slots := 0, locals := 1120 }) (va_Pc [.ref (g 0)] (PM dC dI g c adK adV v F rc sz)) (va_Qv (fun (u : StM) => IM u.1 u.2.1 ∧ u.2.2 = rc ∧ (∀ k, k ∉ ([38, 39, 40, 41, 42] : List Nat) → u.1 k = v k) ∧ (∀ k, k ∉ ([28, 29] : List Nat) → u.2.1 k = F k) ∧ (((v 39).toInt ≤ (u.1 39).toInt ∧ (u.1 39).toInt ≤ (v 30).toInt ∧ (v 38).toInt ≤ (u.1 38).toInt ∧ (u.1 38).toInt - (v 38).toInt ≤ (u.1 39).toInt - (v 39).toInt ∧ (v 41).toInt ≤ (u.1 41).toInt ∧ ((u.1 40).toInt < 0 → (u.1 41).toInt = (v 41).toInt)) ∧ keepL (v 37) (F 28) (F 29) (u.2.1 28) (u.2.1 29) ∧ ((u.1 40).toInt < 0 → dp (u.2.1 28) (u.2.1 29) (bI (v 37)) (u.1 38).toInt.toNat = some (d + 1)))) (BM dC dI g c) (AM g sz)) 0 0 (AM g sz) := by
  refine Met.ofW (cc := cX12_product) (maxL := 2) (ret := none) (by decide) rfl ?_
  intro p e s m args below meth c0 s₁ B hml hv
  obtain ⟨rfl, hsz, hP, hK, hE⟩ := hv
  have hx := B.exec
  have hb := B.bytes
  have hr := B.returns
  have hts := atoms_spec (ws := Cond.code yX12_product cX12_product 2 none :: wA) B.pre
  have hwd : ∀ w ∈ wA, w.before _ s = true := fun w h => hts w (List.mem_cons_of_mem _ h)
  have hown : s.vm.findClass RX12 = some m.cls := findClass_of_methodNamed B.named
  have hlocks := B.notSynchronized
  subst hsz
  have hl := lv_entry ([.ref (g 0)]) (n := 2) (Nat.le_of_ble_eq_true rfl)
  rw [lg_entry_eq]
  generalize (lg_sl ([.ref (g 0)]) ++ List.replicate (2 - (lg_sl ([.ref (g 0)])).length) Slot.unset).toArray = ls at hl ⊢
  have hl : lv_has ls 2 [(0, .ref (g 0))] := hl
  obtain ⟨H, eH⟩ : ∃ z, z = s.heap := ⟨_, rfl⟩
  have hP : va_P (dC, dI) classes (wM g c v F rc) H := by rw [eH]; exact hP
  have hS : va_S (AM g s.heap.size) s.heap H [] := by rw [eH]; exact va_S.rf
  refine my_heap eH ?_
  have hF : ∀ k, k ∉ ([28, 29] : List Nat) → F k = F k := fun _ _ => rfl
  have hb30 : 0 ≤ (v 30).toInt ∧ (v 30).toInt ≤ 120 := hI.1 30 _ _ rfl
  have hb37 : 0 ≤ (v 37).toInt ∧ (v 37).toInt ≤ 9 := hI.1 37 _ _ rfl
  have hb38 : 0 ≤ (v 38).toInt ∧ (v 38).toInt ≤ 120 := hI.1 38 _ _ rfl
  have hb39 : 0 ≤ (v 39).toInt ∧ (v 39).toInt ≤ 120 := hI.1 39 _ _ rfl
  have hb41 : 0 ≤ (v 41).toInt ∧ (v 41).toInt ≤ 8 := hI.1 41 _ _ rfl
  have hk : keepL (v 37) (F 28) (F 29) (F 28) (F 29) := keepL.rf
  have hd : (v 40).toInt < 0 → dp (F 28) (F 29) (bI (v 37)) (v 38).toInt.toNat = some d := fun _ => hdp
  refine lv_aload_n hx hb dX12_product_0 rfl (lv_at hl 0 rfl) ?_
  have t20150 : 0 ≤ (v 30).toInt ∧ (v 30).toInt ≤ 120 := hI.1 30 _ _ rfl
  have t20151 : 0 ≤ (v 37).toInt ∧ (v 37).toInt ≤ 9 := hI.1 37 _ _ rfl
  have t20152 : 0 ≤ (v 38).toInt ∧ (v 38).toInt ≤ 120 := hI.1 38 _ _ rfl
  have t20153 : 0 ≤ (v 39).toInt ∧ (v 39).toInt ≤ 120 := hI.1 39 _ _ rfl
  have t20154 : 0 ≤ (v 41).toInt ∧ (v 41).toInt ≤ 8 := hI.1 41 _ _ rfl
  refine va_callv (va_runV (As := []) (rest := []) ⟨hx, hb, hml, hown, hwd⟩ (c_X12_operand_2 l dC dI g c adK adV v F rc H.size  d hg hI (by have h9 : v 38 = v 38 := rfl; (try rw [h9]); clear h9; have h9 : v 39 = v 39 := rfl; (try rw [h9]); clear h9; have h9 : v 30 = v 30 := rfl; (try rw [h9]); clear h9; have h9 : v 40 = v 40 := rfl; (try rw [h9]); clear h9; have h9 : v 41 = v 41 := rfl; (try rw [h9]); clear h9; omega) (by have h9 : v 37 = (v 37) := rfl; have h8 : v 38 = (v 38) := rfl; (try rw [h9]); (try rw [h8]); exact hd (by omega))) (cwV 0 hwd (gV wk_1030 wk_1035 wk_1036 wk_1037 wk_5) rfl rfl rfl (by decide +kernel) ⟨Nat.le_of_ble_eq_true rfl, Nat.le_of_ble_eq_true rfl⟩) ⟨PM.blind, va_recv hK hP (ci := 12) (q0 := 0) rfl rfl, fun U hU hW => ⟨rfl, PM.at hK hE hP hS hU hW⟩⟩ rfl rfl hl.1 rfl (lv_room (Nat.le_of_ble_eq_true rfl)) dX12_product_1 ⟨Nat.le_of_ble_eq_true rfl, Nat.le_of_ble_eq_true rfl⟩) hS (fun q _ h => (freeM hS) q h) (freeM hS) (fun u t H1 locs ht hvm hw hB hz1 hk1 hS => ?_)
  unfold BM at hB
  rw [ht] at hB
  obtain ⟨v20156, F20157, rc9⟩ := u
  obtain ⟨hI, hrc, hf20158, hG20159, hw⟩ := hw
  dsimp only at hI hrc hB hf20158 hG20159 hw
  have hF := frCF (by decide) hG20159 hF
  rw [hrc] at hB
  have hP : va_P (dC, dI) classes (wM g c v20156 F20157 rc) H1 := hB
  have hw : ((v 39).toInt ≤ (v20156 39).toInt ∧ (v20156 39).toInt ≤ (v 30).toInt ∧ (v 38).toInt ≤ (v20156 38).toInt ∧ (v20156 38).toInt - (v 38).toInt ≤ (v20156 39).toInt - (v 39).toInt ∧ (v 41).toInt ≤ (v20156 41).toInt ∧ ((v20156 40).toInt < 0 → (v20156 41).toInt = (v 41).toInt)) ∧ keepL (v 37) (F 28) (F 29) (F20157 28) (F20157 29) ∧ ((v20156 40).toInt < 0 → dp (F20157 28) (F20157 29) (bI (v 37)) (v20156 38).toInt.toNat = some (d + 1)) := hw
  have hw_r20155 := hw
  have t20160 : 0 ≤ (v20156 38).toInt ∧ (v20156 38).toInt ≤ 120 := hI.1 38 _ _ rfl
  have t20161 : 0 ≤ (v20156 39).toInt ∧ (v20156 39).toInt ≤ 120 := hI.1 39 _ _ rfl
  have t20162 : 0 ≤ (v20156 41).toInt ∧ (v20156 41).toInt ≤ 8 := hI.1 41 _ _ rfl
  generalize H1 = H at hP hS ⊢
  have hk := hk.tr hw_r20155.2.1
  have hd := hw_r20155.2.2
  have lp20163 : ∀ (n : Nat) (v_lp20163 : Nat → Int32) (F_lp20163 : Nat → Nat → Int32) (H : Heap) (locs : List Loc) (ls : Array Slot), ((v 39).toInt ≤ (v_lp20163 39).toInt ∧ (v_lp20163 39).toInt ≤ (v 30).toInt ∧ (v 38).toInt ≤ (v_lp20163 38).toInt ∧ (v_lp20163 38).toInt - (v 38).toInt ≤ (v_lp20163 39).toInt - (v 39).toInt ∧ (v 41).toInt ≤ (v_lp20163 41).toInt ∧ ((v_lp20163 40).toInt < 0 → (v_lp20163 41).toInt = (v 41).toInt)) → (keepL (v 37) (F 28) (F 29) (F_lp20163 28) (F_lp20163 29)) → (((v_lp20163 40).toInt < 0 → dp (F_lp20163 28) (F_lp20163 29) (bI (v 37)) (v_lp20163 38).toInt.toNat = some (d + 1))) → (121 - (v_lp20163 39).toInt ≤ (n : Int)) → (∀ k, k ∉ ([38, 39, 40, 41, 42] : List Nat) → v_lp20163 k = v20156 k) → IM v_lp20163 F_lp20163 → (∀ k, k ∉ ([28, 29] : List Nat) → F_lp20163 k = F k) → va_P (dC, dI) classes (wM g c v_lp20163 F_lp20163 rc) H → va_S (AM g s.heap.size) s.heap H locs → lv_has ls 2 [(0, .ref (g 0))] → W p l e (headSpec (Cond.code yX12_product cX12_product 2 none :: wA) ({ frames := 28, cells := 0, slots := 0, locals := 1120 })).room s m ([.ref (g 0)] : List Value).toArray below meth c0 H locs 0 0 (MQ below (va_Qv (fun (u : StM) => IM u.1 u.2.1 ∧ u.2.2 = rc ∧ (∀ k, k ∉ ([38, 39, 40, 41, 42] : List Nat) → u.1 k = v k) ∧ (∀ k, k ∉ ([28, 29] : List Nat) → u.2.1 k = F k) ∧ (((v 39).toInt ≤ (u.1 39).toInt ∧ (u.1 39).toInt ≤ (v 30).toInt ∧ (v 38).toInt ≤ (u.1 38).toInt ∧ (u.1 38).toInt - (v 38).toInt ≤ (u.1 39).toInt - (v 39).toInt ∧ (v 41).toInt ≤ (u.1 41).toInt ∧ ((u.1 40).toInt < 0 → (u.1 41).toInt = (v 41).toInt)) ∧ keepL (v 37) (F 28) (F 29) (u.2.1 28) (u.2.1 29) ∧ ((u.1 40).toInt < 0 → dp (u.2.1 28) (u.2.1 29) (bI (v 37)) (u.1 38).toInt.toNat = some (d + 1)))) (BM dC dI g c) (AM g s.heap.size)) ([.ref (g 0)] : List Value).toArray s 0 0 (AM g s.heap.size)) (F0 m 4 ls []) := by
    intro n
    induction n with
    | zero =>
      intro v_lp20163 F_lp20163 H locs ls t20164 t20165 t20166 hm hf_lp20163 hI hF hP hS hl
      exfalso
      have hI1 := hI.1
      omega
    | succ n ih_lp20163 =>
      intro v_lp20163 F_lp20163 H locs ls t20164 t20165 t20166 hm hf_lp20163 hI hF hP hS hl
      have hk := t20165
      have hd := t20166
      refine lv_aload_n hx hb dX12_product_4 rfl (lv_at hl 0 rfl) ?_
      refine va_get (D := (dC, dI)) (ci := 12) (v := .int (v_lp20163 40)) (C := RX12) (T := TX12) (N := 63) hx hb hwd inA_X12 hown hK hP 0 rfl rfl 40 (by decide) (hwd _ wk_1005) (fun _ h9 => h9) rfl dX12_product_5 ?_
      refine lv_if_ge (tgt := 57) hx hb dX12_product_8 (by decide) (fun c20167 => ?_) (fun c20167 => ?_)
      · skip
        have t20168 := cv_le (a := 0) (by decide) (b := (v_lp20163 40).toInt) rfl c20167
        have hP9 : va_P (dC, dI) classes (wM g c v_lp20163 F_lp20163 rc) H := hP
        exact W.vret hx hb hr (fun t ht hW => ⟨⟨(v_lp20163, F_lp20163, rc), rfl, ⟨hI, rfl, (frC (by decide) hf_lp20163 (frC (by decide) hf20158 (fun _ _ => rfl))), hF, (by show ((v 39).toInt ≤ (v_lp20163 39).toInt ∧ (v_lp20163 39).toInt ≤ (v 30).toInt ∧ (v 38).toInt ≤ (v_lp20163 38).toInt ∧ (v_lp20163 38).toInt - (v 38).toInt ≤ (v_lp20163 39).toInt - (v 39).toInt ∧ (v 41).toInt ≤ (v_lp20163 41).toInt ∧ ((v_lp20163 40).toInt < 0 → (v_lp20163 41).toInt = (v 41).toInt)) ∧ keepL (v 37) (F 28) (F 29) (F_lp20163 28) (F_lp20163 29) ∧ ((v_lp20163 40).toInt < 0 → dp (F_lp20163 28) (F_lp20163 29) (bI (v 37)) (v_lp20163 38).toInt.toNat = some (d + 1)); exact ⟨by omega, hk, fun hf => (hd (by omega)).trans (congrArg some (by omega))⟩)⟩, (by show va_P _ _ _ t.heap; rw [ht]; exact hP9)⟩, hS.F ht⟩) hS.2.2 dX12_product_57
      · skip
        have t20169 := cv_nle (a := 0) (by decide) (b := (v_lp20163 40).toInt) rfl c20167
        refine lv_aload_n hx hb dX12_product_11 rfl (lv_at hl 0 rfl) ?_
        have t20170 : 0 ≤ (v 30).toInt ∧ (v 30).toInt ≤ 120 := by have h9 := hI.1 30 _ _ rfl; rw [show v_lp20163 30 = v 30 from (hf_lp20163 30 (by decide)).trans (hf20158 30 (by decide))] at h9; exact h9
        have t20171 : 0 ≤ (v_lp20163 39).toInt ∧ (v_lp20163 39).toInt ≤ 120 := hI.1 39 _ _ rfl
        refine va_calli (va_runV (As := []) (rest := []) ⟨hx, hb, hml, hown, hwd⟩ (c_X12_look l dC dI g c adK adV v_lp20163 F_lp20163 rc H.size  hg hI ) (cwV 0 hwd (gV wk_1017 wk_1014 wk_1015 wk_1016 wk_5) rfl rfl rfl (by decide +kernel) ⟨Nat.le_of_ble_eq_true rfl, Nat.le_of_ble_eq_true rfl⟩) ⟨PM.blind, va_recv hK hP (ci := 12) (q0 := 0) rfl rfl, fun U hU hW => ⟨rfl, PM.at hK hE hP hS hU hW⟩⟩ rfl rfl hl.1 rfl (lv_room (Nat.le_of_ble_eq_true rfl)) dX12_product_12 ⟨Nat.le_of_ble_eq_true rfl, Nat.le_of_ble_eq_true rfl⟩) hS (fun q _ h => (freeM hS) q h) (freeM hS) (fun r20172 u t H1 locs ht hvm hw hB hz1 hk1 hS => ?_)
        unfold BM at hB
        rw [ht] at hB
        have hP : va_P (dC, dI) classes (wM g c v_lp20163 F_lp20163 rc) H1 := hB
        have hw : r20172.toInt = lkM (v_lp20163 39) (v_lp20163 30) (F_lp20163 24) ∧ ((v_lp20163 39).toInt < (v_lp20163 30).toInt ∨ r20172.toInt = -1) := hw
        rw [show v_lp20163 30 = v 30 from (hf_lp20163 30 (by decide)).trans (hf20158 30 (by decide))] at hw
        rw [hF 24 (by decide)] at hw
        have hw_r20172 := hw
        generalize H1 = H at hP hS ⊢
        refine lv_bipush (v := 42) hx hb dX12_product_15 (by decide) ?_
        refine lv_icmp_eq (tgt := 29) hx hb dX12_product_17 (by decide) (fun c20173 => ?_) (fun c20173 => ?_)
        · skip
          have t20174 := cv_eq (a := r20172.toInt) rfl (b := 42) (by decide) c20173
          refine lv_aload_n hx hb dX12_product_29 rfl (lv_at hl 0 rfl) ?_
          have t20175 : 0 ≤ (v 30).toInt ∧ (v 30).toInt ≤ 120 := by have h9 := hI.1 30 _ _ rfl; rw [show v_lp20163 30 = v 30 from (hf_lp20163 30 (by decide)).trans (hf20158 30 (by decide))] at h9; exact h9
          have t20176 : 0 ≤ (v_lp20163 39).toInt ∧ (v_lp20163 39).toInt ≤ 120 := hI.1 39 _ _ rfl
          refine va_calli (va_runV (As := []) (rest := []) ⟨hx, hb, hml, hown, hwd⟩ (c_X12_look l dC dI g c adK adV v_lp20163 F_lp20163 rc H.size  hg hI ) (cwV 0 hwd (gV wk_1017 wk_1014 wk_1015 wk_1016 wk_5) rfl rfl rfl (by decide +kernel) ⟨Nat.le_of_ble_eq_true rfl, Nat.le_of_ble_eq_true rfl⟩) ⟨PM.blind, va_recv hK hP (ci := 12) (q0 := 0) rfl rfl, fun U hU hW => ⟨rfl, PM.at hK hE hP hS hU hW⟩⟩ rfl rfl hl.1 rfl (lv_room (Nat.le_of_ble_eq_true rfl)) dX12_product_30 ⟨Nat.le_of_ble_eq_true rfl, Nat.le_of_ble_eq_true rfl⟩) hS (fun q _ h => (freeM hS) q h) (freeM hS) (fun r20177 u t H1 locs ht hvm hw hB hz1 hk1 hS => ?_)
          unfold BM at hB
          rw [ht] at hB
          have hP : va_P (dC, dI) classes (wM g c v_lp20163 F_lp20163 rc) H1 := hB
          have hw : r20177.toInt = lkM (v_lp20163 39) (v_lp20163 30) (F_lp20163 24) ∧ ((v_lp20163 39).toInt < (v_lp20163 30).toInt ∨ r20177.toInt = -1) := hw
          rw [show v_lp20163 30 = v 30 from (hf_lp20163 30 (by decide)).trans (hf20158 30 (by decide))] at hw
          rw [hF 24 (by decide)] at hw
          have hw_r20177 := hw
          generalize H1 = H at hP hS ⊢
          refine lv_istore_n (lv' := [(1, .int r20177), (0, .ref (g 0))]) hx hb dX12_product_33 rfl hl (by decide) rfl (fun ls hl => ?_)
          refine lv_aload_n hx hb dX12_product_34 rfl (lv_at hl 1 rfl) ?_
          refine lv_dup hx hb dX12_product_35 rfl ?_
          refine va_get (D := (dC, dI)) (ci := 12) (v := .int (v_lp20163 39)) (C := RX12) (T := TX12) (N := 63) hx hb hwd inA_X12 hown hK hP 0 rfl rfl 39 (by decide) (hwd _ wk_1004) (fun _ h9 => h9) rfl dX12_product_36 ?_
          have t20178 : 0 ≤ (v_lp20163 39).toInt ∧ (v_lp20163 39).toInt ≤ 120 := hI.1 39 _ _ rfl
          refine lv_iconst (v := 1) hx hb dX12_product_39 (by decide) ?_
          refine lv_iadd hx hb dX12_product_40 ?_
          refine lv_topi (fun z20179 e20180 => ?_)
          try (have t20181 := tadd e20180 (a := (v_lp20163 39).toInt) rfl (b := 1) (by decide) (by omega))
          refine va_put (D := (dC, dI)) (ci := 12) (v := .int z20179) (ty := .int) (C := RX12) (T := TX12) (N := 63) (fs := fsM_0 g v_lp20163 rc) hx hb hwd inA_X12 tyX12 tyX12_ok nmX12 hown hK hP (DM hg) hS 0 rfl rfl 39 (by decide) (hwd _ wk_1004) (fun _ h9 => h9) rfl (by decide +kernel) rfl rfl (Nat.le_of_ble_eq_true rfl) dX12_product_41 (fun H locs hP _ hS => ?_)
          have hP := va_P_eq (pM_39 g c _ _ _ _) hP
          have hI := IM.put hI 39 z20179 rfl (by omega)
          refine lv_aload_n hx hb dX12_product_44 rfl (lv_at hl 1 rfl) ?_
          have t20182 : 0 ≤ (v 30).toInt ∧ (v 30).toInt ≤ 120 := by have h9 := hI.1 30 _ _ rfl; rw [show (va_up v_lp20163 39 z20179) 30 = v 30 from (hf_lp20163 30 (by decide)).trans (hf20158 30 (by decide))] at h9; exact h9
          have t20183 : 0 ≤ (v 37).toInt ∧ (v 37).toInt ≤ 9 := by have h9 := hI.1 37 _ _ rfl; rw [show (va_up v_lp20163 39 z20179) 37 = v 37 from (hf_lp20163 37 (by decide)).trans (hf20158 37 (by decide))] at h9; exact h9
          have t20184 : 0 ≤ (v_lp20163 38).toInt ∧ (v_lp20163 38).toInt ≤ 120 := hI.1 38 _ _ rfl
          have t20185 : 0 ≤ z20179.toInt ∧ z20179.toInt ≤ 120 := hI.1 39 _ _ rfl
          have t20186 : 0 ≤ (v_lp20163 41).toInt ∧ (v_lp20163 41).toInt ≤ 8 := hI.1 41 _ _ rfl
          refine va_callv (va_runV (As := []) (rest := []) ⟨hx, hb, hml, hown, hwd⟩ (c_X12_operand_2 l dC dI g c adK adV (va_up v_lp20163 39 z20179) F_lp20163 rc H.size  (d + 1) hg hI (by have h9 : (va_up v_lp20163 39 z20179) 38 = v_lp20163 38 := rfl; (try rw [h9]); clear h9; have h9 : (va_up v_lp20163 39 z20179) 39 = z20179 := rfl; (try rw [h9]); clear h9; have h9 : (va_up v_lp20163 39 z20179) 30 = v 30 := (hf_lp20163 30 (by decide)).trans (hf20158 30 (by decide)); (try rw [h9]); clear h9; have h9 : (va_up v_lp20163 39 z20179) 40 = v_lp20163 40 := rfl; (try rw [h9]); clear h9; have h9 : (va_up v_lp20163 39 z20179) 41 = v_lp20163 41 := rfl; (try rw [h9]); clear h9; omega) (by have h9 : (va_up v_lp20163 39 z20179) 37 = (v 37) := (hf_lp20163 37 (by decide)).trans (hf20158 37 (by decide)); have h8 : (va_up v_lp20163 39 z20179) 38 = (v_lp20163 38) := rfl; (try rw [h9]); (try rw [h8]); exact hd (by omega))) (cwV 0 hwd (gV wk_1030 wk_1035 wk_1036 wk_1037 wk_5) rfl rfl rfl (by decide +kernel) ⟨Nat.le_of_ble_eq_true rfl, Nat.le_of_ble_eq_true rfl⟩) ⟨PM.blind, va_recv hK hP (ci := 12) (q0 := 0) rfl rfl, fun U hU hW => ⟨rfl, PM.at hK hE hP hS hU hW⟩⟩ rfl rfl hl.1 rfl (lv_room (Nat.le_of_ble_eq_true rfl)) dX12_product_45 ⟨Nat.le_of_ble_eq_true rfl, Nat.le_of_ble_eq_true rfl⟩) hS (fun q _ h => (freeM hS) q h) (freeM hS) (fun u t H1 locs ht hvm hw hB hz1 hk1 hS => ?_)
          unfold BM at hB
          rw [ht] at hB
          obtain ⟨v20188, F20189, rc9⟩ := u
          obtain ⟨hI, hrc, hf20190, hG20191, hw⟩ := hw
          dsimp only at hI hrc hB hf20190 hG20191 hw
          have hF := frCF (by decide) hG20191 hF
          rw [hrc] at hB
          have hP : va_P (dC, dI) classes (wM g c v20188 F20189 rc) H1 := hB
          have hw : (z20179.toInt ≤ (v20188 39).toInt ∧ (v20188 39).toInt ≤ ((va_up v_lp20163 39 z20179) 30).toInt ∧ (v_lp20163 38).toInt ≤ (v20188 38).toInt ∧ (v20188 38).toInt - (v_lp20163 38).toInt ≤ (v20188 39).toInt - z20179.toInt ∧ (v_lp20163 41).toInt ≤ (v20188 41).toInt ∧ ((v20188 40).toInt < 0 → (v20188 41).toInt = (v_lp20163 41).toInt)) ∧ keepL ((va_up v_lp20163 39 z20179) 37) (F_lp20163 28) (F_lp20163 29) (F20189 28) (F20189 29) ∧ ((v20188 40).toInt < 0 → dp (F20189 28) (F20189 29) (bI ((va_up v_lp20163 39 z20179) 37)) (v20188 38).toInt.toNat = some ((d + 1) + 1)) := hw
          rw [show (va_up v_lp20163 39 z20179) 30 = v 30 from (hf_lp20163 30 (by decide)).trans (hf20158 30 (by decide))] at hw
          rw [show (va_up v_lp20163 39 z20179) 37 = v 37 from (hf_lp20163 37 (by decide)).trans (hf20158 37 (by decide))] at hw
          have hw_r20187 := hw
          have t20192 : 0 ≤ (v20188 38).toInt ∧ (v20188 38).toInt ≤ 120 := hI.1 38 _ _ rfl
          have t20193 : 0 ≤ (v20188 39).toInt ∧ (v20188 39).toInt ≤ 120 := hI.1 39 _ _ rfl
          have t20194 : 0 ≤ (v20188 41).toInt ∧ (v20188 41).toInt ≤ 8 := hI.1 41 _ _ rfl
          generalize H1 = H at hP hS ⊢
          have hk := hk.tr hw_r20187.2.1
          have hd := hw_r20187.2.2
          refine lv_aload_n hx hb dX12_product_48 rfl (lv_at hl 1 rfl) ?_
          refine lv_iload_n hx hb dX12_product_49 rfl (lv_at hl 0 rfl) ?_
          refine lv_iconst (v := 0) hx hb dX12_product_50 (by decide) ?_
          have t20195 : 0 ≤ (v 37).toInt ∧ (v 37).toInt ≤ 9 := by have h9 := hI.1 37 _ _ rfl; rw [show v20188 37 = v 37 from (hf20190 37 (by decide)).trans ((hf_lp20163 37 (by decide)).trans (hf20158 37 (by decide)))] at h9; exact h9
          have t20196 : 0 ≤ (v20188 38).toInt ∧ (v20188 38).toInt ≤ 120 := hI.1 38 _ _ rfl
          refine va_callv (va_runV (As := [.int r20177, .int 0]) (rest := []) ⟨hx, hb, hml, hown, hwd⟩ (c_X12_lay l dC dI g c adK adV v20188 F20189 rc H.size r20177 0 hg hI (by have h9 : v20188 38 = v20188 38 := rfl; rw [h9]; omega)) (cwV 2 hwd (gV wk_1021 wk_1018 wk_1019 wk_1020 wk_5) rfl rfl rfl (by decide +kernel) ⟨Nat.le_of_ble_eq_true rfl, Nat.le_of_ble_eq_true rfl⟩) ⟨PM.blind, va_recv hK hP (ci := 12) (q0 := 0) rfl rfl, fun U hU hW => ⟨rfl, PM.at hK hE hP hS hU hW⟩⟩ rfl rfl hl.1 rfl (lv_room (Nat.le_of_ble_eq_true rfl)) dX12_product_51 ⟨Nat.le_of_ble_eq_true rfl, Nat.le_of_ble_eq_true rfl⟩) hS (fun q _ h => (freeM hS) q h) (freeM hS) (fun u t H1 locs ht hvm hw hB hz1 hk1 hS => ?_)
          unfold BM at hB
          rw [ht] at hB
          obtain ⟨v20198, F20199, rc9⟩ := u
          obtain ⟨hI, hrc, hf20200, hG20201, hw⟩ := hw
          dsimp only at hI hrc hB hf20200 hG20201 hw
          have hF := frCF (by decide) hG20201 hF
          rw [hrc] at hB
          have hP : va_P (dC, dI) classes (wM g c v20198 F20199 rc) H1 := hB
          have hw : (v20198 38).toInt = (v20188 38).toInt + 1 ∧ keepL (v20188 37) (F20189 28) (F20189 29) (F20199 28) (F20199 29) ∧ dp (F20199 28) (F20199 29) (bI (v20188 37)) ((v20188 38).toInt.toNat + 1) = dpS (dp (F20189 28) (F20189 29) (bI (v20188 37)) (v20188 38).toInt.toNat) r20177 (0 : Int32) := hw
          rw [show v20188 37 = v 37 from (hf20190 37 (by decide)).trans ((hf_lp20163 37 (by decide)).trans (hf20158 37 (by decide)))] at hw
          have hw_r20197 := hw
          have t20202 : 0 ≤ (v20198 38).toInt ∧ (v20198 38).toInt ≤ 120 := hI.1 38 _ _ rfl
          have k20203 : (0 : Int32).toInt = 0 := by decide
          generalize H1 = H at hP hS ⊢
          have hk := hk.tr hw_r20197.2.1
          have hd : (v20188 40).toInt < 0 → dp (F20199 28) (F20199 29) (bI (v 37)) (v20198 38).toInt.toNat = some (((d + 1) + 1) - 1) := fun hf => (by have e9 : (v20198 38).toInt.toNat = (v20188 38).toInt.toNat + 1 := (by omega); rw [e9, hw_r20197.2.2, hd hf]; exact dpS_5 (by omega) (by omega) (by omega) (by omega) (by omega))
          refine lv_goto (tgt := 4) hx hb dX12_product_54 (by decide) ?_
          exact ih_lp20163  v20198 F20199 _ _ _ (by have h9 : v20198 39 = v20188 39 := hf20200 39 (by decide); (try rw [h9]); clear h9; have h9 : v20198 38 = v20198 38 := rfl; (try rw [h9]); clear h9; have h9 : v20198 41 = v20188 41 := hf20200 41 (by decide); (try rw [h9]); clear h9; have h9 : v20198 40 = v20188 40 := hf20200 40 (by decide); (try rw [h9]); clear h9; omega) hk (by have h9 : v20198 40 = v20188 40 := hf20200 40 (by decide); (try rw [h9]); clear h9; have h9 : v20198 38 = v20198 38 := rfl; (try rw [h9]); clear h9; exact fun hf => (hd (by omega)).trans (congrArg some (by omega))) (by have h9 : v20198 39 = v20188 39 := hf20200 39 (by decide); rw [h9]; omega) (frC (by decide) hf20200 (frC (by decide) hf20190 (frU (by decide) hf_lp20163))) hI hF hP hS (lv_sub hl [1] rfl)
        · skip
          have t20204 := cv_ne (a := r20172.toInt) rfl (b := 42) (by decide) c20173
          refine lv_aload_n hx hb dX12_product_20 rfl (lv_at hl 0 rfl) ?_
          have t20205 : 0 ≤ (v 30).toInt ∧ (v 30).toInt ≤ 120 := by have h9 := hI.1 30 _ _ rfl; rw [show v_lp20163 30 = v 30 from (hf_lp20163 30 (by decide)).trans (hf20158 30 (by decide))] at h9; exact h9
          have t20206 : 0 ≤ (v_lp20163 39).toInt ∧ (v_lp20163 39).toInt ≤ 120 := hI.1 39 _ _ rfl
          refine va_calli (va_runV (As := []) (rest := []) ⟨hx, hb, hml, hown, hwd⟩ (c_X12_look l dC dI g c adK adV v_lp20163 F_lp20163 rc H.size  hg hI ) (cwV 0 hwd (gV wk_1017 wk_1014 wk_1015 wk_1016 wk_5) rfl rfl rfl (by decide +kernel) ⟨Nat.le_of_ble_eq_true rfl, Nat.le_of_ble_eq_true rfl⟩) ⟨PM.blind, va_recv hK hP (ci := 12) (q0 := 0) rfl rfl, fun U hU hW => ⟨rfl, PM.at hK hE hP hS hU hW⟩⟩ rfl rfl hl.1 rfl (lv_room (Nat.le_of_ble_eq_true rfl)) dX12_product_21 ⟨Nat.le_of_ble_eq_true rfl, Nat.le_of_ble_eq_true rfl⟩) hS (fun q _ h => (freeM hS) q h) (freeM hS) (fun r20207 u t H1 locs ht hvm hw hB hz1 hk1 hS => ?_)
          unfold BM at hB
          rw [ht] at hB
          have hP : va_P (dC, dI) classes (wM g c v_lp20163 F_lp20163 rc) H1 := hB
          have hw : r20207.toInt = lkM (v_lp20163 39) (v_lp20163 30) (F_lp20163 24) ∧ ((v_lp20163 39).toInt < (v_lp20163 30).toInt ∨ r20207.toInt = -1) := hw
          rw [show v_lp20163 30 = v 30 from (hf_lp20163 30 (by decide)).trans (hf20158 30 (by decide))] at hw
          rw [hF 24 (by decide)] at hw
          have hw_r20207 := hw
          generalize H1 = H at hP hS ⊢
          refine lv_bipush (v := 47) hx hb dX12_product_24 (by decide) ?_
          refine lv_icmp_ne (tgt := 57) hx hb dX12_product_26 (by decide) (fun c20208 => ?_) (fun c20208 => ?_)
          · skip
            have t20209 := cv_ne (a := r20207.toInt) rfl (b := 47) (by decide) c20208
            have hP9 : va_P (dC, dI) classes (wM g c v_lp20163 F_lp20163 rc) H := hP
            exact W.vret hx hb hr (fun t ht hW => ⟨⟨(v_lp20163, F_lp20163, rc), rfl, ⟨hI, rfl, (frC (by decide) hf_lp20163 (frC (by decide) hf20158 (fun _ _ => rfl))), hF, (by show ((v 39).toInt ≤ (v_lp20163 39).toInt ∧ (v_lp20163 39).toInt ≤ (v 30).toInt ∧ (v 38).toInt ≤ (v_lp20163 38).toInt ∧ (v_lp20163 38).toInt - (v 38).toInt ≤ (v_lp20163 39).toInt - (v 39).toInt ∧ (v 41).toInt ≤ (v_lp20163 41).toInt ∧ ((v_lp20163 40).toInt < 0 → (v_lp20163 41).toInt = (v 41).toInt)) ∧ keepL (v 37) (F 28) (F 29) (F_lp20163 28) (F_lp20163 29) ∧ ((v_lp20163 40).toInt < 0 → dp (F_lp20163 28) (F_lp20163 29) (bI (v 37)) (v_lp20163 38).toInt.toNat = some (d + 1)); exact ⟨by omega, hk, fun hf => (hd (by omega)).trans (congrArg some (by omega))⟩)⟩, (by show va_P _ _ _ t.heap; rw [ht]; exact hP9)⟩, hS.F ht⟩) hS.2.2 dX12_product_57
          · skip
            have t20210 := cv_eq (a := r20207.toInt) rfl (b := 47) (by decide) c20208
            refine lv_aload_n hx hb dX12_product_29 rfl (lv_at hl 0 rfl) ?_
            have t20211 : 0 ≤ (v 30).toInt ∧ (v 30).toInt ≤ 120 := by have h9 := hI.1 30 _ _ rfl; rw [show v_lp20163 30 = v 30 from (hf_lp20163 30 (by decide)).trans (hf20158 30 (by decide))] at h9; exact h9
            have t20212 : 0 ≤ (v_lp20163 39).toInt ∧ (v_lp20163 39).toInt ≤ 120 := hI.1 39 _ _ rfl
            refine va_calli (va_runV (As := []) (rest := []) ⟨hx, hb, hml, hown, hwd⟩ (c_X12_look l dC dI g c adK adV v_lp20163 F_lp20163 rc H.size  hg hI ) (cwV 0 hwd (gV wk_1017 wk_1014 wk_1015 wk_1016 wk_5) rfl rfl rfl (by decide +kernel) ⟨Nat.le_of_ble_eq_true rfl, Nat.le_of_ble_eq_true rfl⟩) ⟨PM.blind, va_recv hK hP (ci := 12) (q0 := 0) rfl rfl, fun U hU hW => ⟨rfl, PM.at hK hE hP hS hU hW⟩⟩ rfl rfl hl.1 rfl (lv_room (Nat.le_of_ble_eq_true rfl)) dX12_product_30 ⟨Nat.le_of_ble_eq_true rfl, Nat.le_of_ble_eq_true rfl⟩) hS (fun q _ h => (freeM hS) q h) (freeM hS) (fun r20213 u t H1 locs ht hvm hw hB hz1 hk1 hS => ?_)
            unfold BM at hB
            rw [ht] at hB
            have hP : va_P (dC, dI) classes (wM g c v_lp20163 F_lp20163 rc) H1 := hB
            have hw : r20213.toInt = lkM (v_lp20163 39) (v_lp20163 30) (F_lp20163 24) ∧ ((v_lp20163 39).toInt < (v_lp20163 30).toInt ∨ r20213.toInt = -1) := hw
            rw [show v_lp20163 30 = v 30 from (hf_lp20163 30 (by decide)).trans (hf20158 30 (by decide))] at hw
            rw [hF 24 (by decide)] at hw
            have hw_r20213 := hw
            generalize H1 = H at hP hS ⊢
            refine lv_istore_n (lv' := [(1, .int r20213), (0, .ref (g 0))]) hx hb dX12_product_33 rfl hl (by decide) rfl (fun ls hl => ?_)
            refine lv_aload_n hx hb dX12_product_34 rfl (lv_at hl 1 rfl) ?_
            refine lv_dup hx hb dX12_product_35 rfl ?_
            refine va_get (D := (dC, dI)) (ci := 12) (v := .int (v_lp20163 39)) (C := RX12) (T := TX12) (N := 63) hx hb hwd inA_X12 hown hK hP 0 rfl rfl 39 (by decide) (hwd _ wk_1004) (fun _ h9 => h9) rfl dX12_product_36 ?_
            have t20214 : 0 ≤ (v_lp20163 39).toInt ∧ (v_lp20163 39).toInt ≤ 120 := hI.1 39 _ _ rfl
            refine lv_iconst (v := 1) hx hb dX12_product_39 (by decide) ?_
            refine lv_iadd hx hb dX12_product_40 ?_
            refine lv_topi (fun z20215 e20216 => ?_)
            try (have t20217 := tadd e20216 (a := (v_lp20163 39).toInt) rfl (b := 1) (by decide) (by omega))
            refine va_put (D := (dC, dI)) (ci := 12) (v := .int z20215) (ty := .int) (C := RX12) (T := TX12) (N := 63) (fs := fsM_0 g v_lp20163 rc) hx hb hwd inA_X12 tyX12 tyX12_ok nmX12 hown hK hP (DM hg) hS 0 rfl rfl 39 (by decide) (hwd _ wk_1004) (fun _ h9 => h9) rfl (by decide +kernel) rfl rfl (Nat.le_of_ble_eq_true rfl) dX12_product_41 (fun H locs hP _ hS => ?_)
            have hP := va_P_eq (pM_39 g c _ _ _ _) hP
            have hI := IM.put hI 39 z20215 rfl (by omega)
            refine lv_aload_n hx hb dX12_product_44 rfl (lv_at hl 1 rfl) ?_
            have t20218 : 0 ≤ (v 30).toInt ∧ (v 30).toInt ≤ 120 := by have h9 := hI.1 30 _ _ rfl; rw [show (va_up v_lp20163 39 z20215) 30 = v 30 from (hf_lp20163 30 (by decide)).trans (hf20158 30 (by decide))] at h9; exact h9
            have t20219 : 0 ≤ (v 37).toInt ∧ (v 37).toInt ≤ 9 := by have h9 := hI.1 37 _ _ rfl; rw [show (va_up v_lp20163 39 z20215) 37 = v 37 from (hf_lp20163 37 (by decide)).trans (hf20158 37 (by decide))] at h9; exact h9
            have t20220 : 0 ≤ (v_lp20163 38).toInt ∧ (v_lp20163 38).toInt ≤ 120 := hI.1 38 _ _ rfl
            have t20221 : 0 ≤ z20215.toInt ∧ z20215.toInt ≤ 120 := hI.1 39 _ _ rfl
            have t20222 : 0 ≤ (v_lp20163 41).toInt ∧ (v_lp20163 41).toInt ≤ 8 := hI.1 41 _ _ rfl
            refine va_callv (va_runV (As := []) (rest := []) ⟨hx, hb, hml, hown, hwd⟩ (c_X12_operand_2 l dC dI g c adK adV (va_up v_lp20163 39 z20215) F_lp20163 rc H.size  (d + 1) hg hI (by have h9 : (va_up v_lp20163 39 z20215) 38 = v_lp20163 38 := rfl; (try rw [h9]); clear h9; have h9 : (va_up v_lp20163 39 z20215) 39 = z20215 := rfl; (try rw [h9]); clear h9; have h9 : (va_up v_lp20163 39 z20215) 30 = v 30 := (hf_lp20163 30 (by decide)).trans (hf20158 30 (by decide)); (try rw [h9]); clear h9; have h9 : (va_up v_lp20163 39 z20215) 40 = v_lp20163 40 := rfl; (try rw [h9]); clear h9; have h9 : (va_up v_lp20163 39 z20215) 41 = v_lp20163 41 := rfl; (try rw [h9]); clear h9; omega) (by have h9 : (va_up v_lp20163 39 z20215) 37 = (v 37) := (hf_lp20163 37 (by decide)).trans (hf20158 37 (by decide)); have h8 : (va_up v_lp20163 39 z20215) 38 = (v_lp20163 38) := rfl; (try rw [h9]); (try rw [h8]); exact hd (by omega))) (cwV 0 hwd (gV wk_1030 wk_1035 wk_1036 wk_1037 wk_5) rfl rfl rfl (by decide +kernel) ⟨Nat.le_of_ble_eq_true rfl, Nat.le_of_ble_eq_true rfl⟩) ⟨PM.blind, va_recv hK hP (ci := 12) (q0 := 0) rfl rfl, fun U hU hW => ⟨rfl, PM.at hK hE hP hS hU hW⟩⟩ rfl rfl hl.1 rfl (lv_room (Nat.le_of_ble_eq_true rfl)) dX12_product_45 ⟨Nat.le_of_ble_eq_true rfl, Nat.le_of_ble_eq_true rfl⟩) hS (fun q _ h => (freeM hS) q h) (freeM hS) (fun u t H1 locs ht hvm hw hB hz1 hk1 hS => ?_)
            unfold BM at hB
            rw [ht] at hB
            obtain ⟨v20224, F20225, rc9⟩ := u
            obtain ⟨hI, hrc, hf20226, hG20227, hw⟩ := hw
            dsimp only at hI hrc hB hf20226 hG20227 hw
            have hF := frCF (by decide) hG20227 hF
            rw [hrc] at hB
            have hP : va_P (dC, dI) classes (wM g c v20224 F20225 rc) H1 := hB
            have hw : (z20215.toInt ≤ (v20224 39).toInt ∧ (v20224 39).toInt ≤ ((va_up v_lp20163 39 z20215) 30).toInt ∧ (v_lp20163 38).toInt ≤ (v20224 38).toInt ∧ (v20224 38).toInt - (v_lp20163 38).toInt ≤ (v20224 39).toInt - z20215.toInt ∧ (v_lp20163 41).toInt ≤ (v20224 41).toInt ∧ ((v20224 40).toInt < 0 → (v20224 41).toInt = (v_lp20163 41).toInt)) ∧ keepL ((va_up v_lp20163 39 z20215) 37) (F_lp20163 28) (F_lp20163 29) (F20225 28) (F20225 29) ∧ ((v20224 40).toInt < 0 → dp (F20225 28) (F20225 29) (bI ((va_up v_lp20163 39 z20215) 37)) (v20224 38).toInt.toNat = some ((d + 1) + 1)) := hw
            rw [show (va_up v_lp20163 39 z20215) 30 = v 30 from (hf_lp20163 30 (by decide)).trans (hf20158 30 (by decide))] at hw
            rw [show (va_up v_lp20163 39 z20215) 37 = v 37 from (hf_lp20163 37 (by decide)).trans (hf20158 37 (by decide))] at hw
            have hw_r20223 := hw
            have t20228 : 0 ≤ (v20224 38).toInt ∧ (v20224 38).toInt ≤ 120 := hI.1 38 _ _ rfl
            have t20229 : 0 ≤ (v20224 39).toInt ∧ (v20224 39).toInt ≤ 120 := hI.1 39 _ _ rfl
            have t20230 : 0 ≤ (v20224 41).toInt ∧ (v20224 41).toInt ≤ 8 := hI.1 41 _ _ rfl
            generalize H1 = H at hP hS ⊢
            have hk := hk.tr hw_r20223.2.1
            have hd := hw_r20223.2.2
            refine lv_aload_n hx hb dX12_product_48 rfl (lv_at hl 1 rfl) ?_
            refine lv_iload_n hx hb dX12_product_49 rfl (lv_at hl 0 rfl) ?_
            refine lv_iconst (v := 0) hx hb dX12_product_50 (by decide) ?_
            have t20231 : 0 ≤ (v 37).toInt ∧ (v 37).toInt ≤ 9 := by have h9 := hI.1 37 _ _ rfl; rw [show v20224 37 = v 37 from (hf20226 37 (by decide)).trans ((hf_lp20163 37 (by decide)).trans (hf20158 37 (by decide)))] at h9; exact h9
            have t20232 : 0 ≤ (v20224 38).toInt ∧ (v20224 38).toInt ≤ 120 := hI.1 38 _ _ rfl
            refine va_callv (va_runV (As := [.int r20213, .int 0]) (rest := []) ⟨hx, hb, hml, hown, hwd⟩ (c_X12_lay l dC dI g c adK adV v20224 F20225 rc H.size r20213 0 hg hI (by have h9 : v20224 38 = v20224 38 := rfl; rw [h9]; omega)) (cwV 2 hwd (gV wk_1021 wk_1018 wk_1019 wk_1020 wk_5) rfl rfl rfl (by decide +kernel) ⟨Nat.le_of_ble_eq_true rfl, Nat.le_of_ble_eq_true rfl⟩) ⟨PM.blind, va_recv hK hP (ci := 12) (q0 := 0) rfl rfl, fun U hU hW => ⟨rfl, PM.at hK hE hP hS hU hW⟩⟩ rfl rfl hl.1 rfl (lv_room (Nat.le_of_ble_eq_true rfl)) dX12_product_51 ⟨Nat.le_of_ble_eq_true rfl, Nat.le_of_ble_eq_true rfl⟩) hS (fun q _ h => (freeM hS) q h) (freeM hS) (fun u t H1 locs ht hvm hw hB hz1 hk1 hS => ?_)
            unfold BM at hB
            rw [ht] at hB
            obtain ⟨v20234, F20235, rc9⟩ := u
            obtain ⟨hI, hrc, hf20236, hG20237, hw⟩ := hw
            dsimp only at hI hrc hB hf20236 hG20237 hw
            have hF := frCF (by decide) hG20237 hF
            rw [hrc] at hB
            have hP : va_P (dC, dI) classes (wM g c v20234 F20235 rc) H1 := hB
            have hw : (v20234 38).toInt = (v20224 38).toInt + 1 ∧ keepL (v20224 37) (F20225 28) (F20225 29) (F20235 28) (F20235 29) ∧ dp (F20235 28) (F20235 29) (bI (v20224 37)) ((v20224 38).toInt.toNat + 1) = dpS (dp (F20225 28) (F20225 29) (bI (v20224 37)) (v20224 38).toInt.toNat) r20213 (0 : Int32) := hw
            rw [show v20224 37 = v 37 from (hf20226 37 (by decide)).trans ((hf_lp20163 37 (by decide)).trans (hf20158 37 (by decide)))] at hw
            have hw_r20233 := hw
            have t20238 : 0 ≤ (v20234 38).toInt ∧ (v20234 38).toInt ≤ 120 := hI.1 38 _ _ rfl
            have k20239 : (0 : Int32).toInt = 0 := by decide
            generalize H1 = H at hP hS ⊢
            have hk := hk.tr hw_r20233.2.1
            have hd : (v20224 40).toInt < 0 → dp (F20235 28) (F20235 29) (bI (v 37)) (v20234 38).toInt.toNat = some (((d + 1) + 1) - 1) := fun hf => (by have e9 : (v20234 38).toInt.toNat = (v20224 38).toInt.toNat + 1 := (by omega); rw [e9, hw_r20233.2.2, hd hf]; exact dpS_5 (by omega) (by omega) (by omega) (by omega) (by omega))
            refine lv_goto (tgt := 4) hx hb dX12_product_54 (by decide) ?_
            exact ih_lp20163  v20234 F20235 _ _ _ (by have h9 : v20234 39 = v20224 39 := hf20236 39 (by decide); (try rw [h9]); clear h9; have h9 : v20234 38 = v20234 38 := rfl; (try rw [h9]); clear h9; have h9 : v20234 41 = v20224 41 := hf20236 41 (by decide); (try rw [h9]); clear h9; have h9 : v20234 40 = v20224 40 := hf20236 40 (by decide); (try rw [h9]); clear h9; omega) hk (by have h9 : v20234 40 = v20224 40 := hf20236 40 (by decide); (try rw [h9]); clear h9; have h9 : v20234 38 = v20234 38 := rfl; (try rw [h9]); clear h9; exact fun hf => (hd (by omega)).trans (congrArg some (by omega))) (by have h9 : v20234 39 = v20224 39 := hf20236 39 (by decide); rw [h9]; omega) (frC (by decide) hf20236 (frC (by decide) hf20226 (frU (by decide) hf_lp20163))) hI hF hP hS (lv_sub hl [1] rfl)
  obtain ⟨n9, hn9⟩ : ∃ n : Nat, 121 - (v20156 39).toInt ≤ (n : Int) := ⟨((121 - (v20156 39).toInt : Int)).toNat, by omega⟩
  exact lp20163 n9  v20156 F20157 H _ ls (by have h9 : v20156 39 = v20156 39 := rfl; (try rw [h9]); clear h9; have h9 : v20156 38 = v20156 38 := rfl; (try rw [h9]); clear h9; have h9 : v20156 41 = v20156 41 := rfl; (try rw [h9]); clear h9; have h9 : v20156 40 = v20156 40 := rfl; (try rw [h9]); clear h9; omega) hk (by have h9 : v20156 40 = v20156 40 := rfl; (try rw [h9]); clear h9; have h9 : v20156 38 = v20156 38 := rfl; (try rw [h9]); clear h9; exact fun hf => (hd (by omega)).trans (congrArg some (by omega))) (by have h9 : v20156 39 = v20156 39 := rfl; rw [h9]; omega) (fun _ _ => rfl) hI hF hP hS hl
set_option maxHeartbeats 8000000 in
set_option maxRecDepth 100000 in
theorem c_X12_sum_2 (l : Launch) (dC : Nat → ClassId) (dI : Nat → Nat → Nat) (g : Nat → Nat) (c : Nat → ClassId) (adK adV : Nat → Nat) (v : Nat → Int32) (F : Nat → Nat → Int32) (rc sz : Nat) (d : Nat) (hg : injM g) (hI : IM v F) (hq : (v 38).toInt ≤ (v 39).toInt ∧ (v 39).toInt ≤ (v 30).toInt ∧ (v 40).toInt < 0 ∧ (v 41).toInt = 2) (hdp : dp (F 28) (F 29) (bI (v 37)) (v 38).toInt.toNat = some d) : Met l yX12_sum (Cond.code yX12_sum cX12_sum 2 none :: wA) ({ frames := 29, cells := 0, slots := 0, locals := 1160 }) (va_Pc [.ref (g 0)] (PM dC dI g c adK adV v F rc sz)) (va_Qv (fun (u : StM) => IM u.1 u.2.1 ∧ u.2.2 = rc ∧ (∀ k, k ∉ ([38, 39, 40, 41, 42] : List Nat) → u.1 k = v k) ∧ (∀ k, k ∉ ([28, 29] : List Nat) → u.2.1 k = F k) ∧ (((v 39).toInt ≤ (u.1 39).toInt ∧ (u.1 39).toInt ≤ (v 30).toInt ∧ (v 38).toInt ≤ (u.1 38).toInt ∧ (u.1 38).toInt - (v 38).toInt ≤ (u.1 39).toInt - (v 39).toInt ∧ (v 41).toInt ≤ (u.1 41).toInt ∧ ((u.1 40).toInt < 0 → (u.1 41).toInt = (v 41).toInt)) ∧ keepL (v 37) (F 28) (F 29) (u.2.1 28) (u.2.1 29) ∧ ((u.1 40).toInt < 0 → dp (u.2.1 28) (u.2.1 29) (bI (v 37)) (u.1 38).toInt.toNat = some (d + 1)))) (BM dC dI g c) (AM g sz)) 0 0 (AM g sz) := by
  refine Met.ofW (cc := cX12_sum) (maxL := 2) (ret := none) (by decide) rfl ?_
  intro p e s m args below meth c0 s₁ B hml hv
  obtain ⟨rfl, hsz, hP, hK, hE⟩ := hv
  have hx := B.exec
  have hb := B.bytes
  have hr := B.returns
  have hts := atoms_spec (ws := Cond.code yX12_sum cX12_sum 2 none :: wA) B.pre
  have hwd : ∀ w ∈ wA, w.before _ s = true := fun w h => hts w (List.mem_cons_of_mem _ h)
  have hown : s.vm.findClass RX12 = some m.cls := findClass_of_methodNamed B.named
  have hlocks := B.notSynchronized
  subst hsz
  have hl := lv_entry ([.ref (g 0)]) (n := 2) (Nat.le_of_ble_eq_true rfl)
  rw [lg_entry_eq]
  generalize (lg_sl ([.ref (g 0)]) ++ List.replicate (2 - (lg_sl ([.ref (g 0)])).length) Slot.unset).toArray = ls at hl ⊢
  have hl : lv_has ls 2 [(0, .ref (g 0))] := hl
  obtain ⟨H, eH⟩ : ∃ z, z = s.heap := ⟨_, rfl⟩
  have hP : va_P (dC, dI) classes (wM g c v F rc) H := by rw [eH]; exact hP
  have hS : va_S (AM g s.heap.size) s.heap H [] := by rw [eH]; exact va_S.rf
  refine my_heap eH ?_
  have hF : ∀ k, k ∉ ([28, 29] : List Nat) → F k = F k := fun _ _ => rfl
  have hb30 : 0 ≤ (v 30).toInt ∧ (v 30).toInt ≤ 120 := hI.1 30 _ _ rfl
  have hb37 : 0 ≤ (v 37).toInt ∧ (v 37).toInt ≤ 9 := hI.1 37 _ _ rfl
  have hb38 : 0 ≤ (v 38).toInt ∧ (v 38).toInt ≤ 120 := hI.1 38 _ _ rfl
  have hb39 : 0 ≤ (v 39).toInt ∧ (v 39).toInt ≤ 120 := hI.1 39 _ _ rfl
  have hb41 : 0 ≤ (v 41).toInt ∧ (v 41).toInt ≤ 8 := hI.1 41 _ _ rfl
  have hk : keepL (v 37) (F 28) (F 29) (F 28) (F 29) := keepL.rf
  have hd : (v 40).toInt < 0 → dp (F 28) (F 29) (bI (v 37)) (v 38).toInt.toNat = some d := fun _ => hdp
  refine lv_aload_n hx hb dX12_sum_0 rfl (lv_at hl 0 rfl) ?_
  have t20330 : 0 ≤ (v 30).toInt ∧ (v 30).toInt ≤ 120 := hI.1 30 _ _ rfl
  have t20331 : 0 ≤ (v 37).toInt ∧ (v 37).toInt ≤ 9 := hI.1 37 _ _ rfl
  have t20332 : 0 ≤ (v 38).toInt ∧ (v 38).toInt ≤ 120 := hI.1 38 _ _ rfl
  have t20333 : 0 ≤ (v 39).toInt ∧ (v 39).toInt ≤ 120 := hI.1 39 _ _ rfl
  have t20334 : 0 ≤ (v 41).toInt ∧ (v 41).toInt ≤ 8 := hI.1 41 _ _ rfl
  refine va_callv (va_runV (As := []) (rest := []) ⟨hx, hb, hml, hown, hwd⟩ (c_X12_product_2 l dC dI g c adK adV v F rc H.size  d hg hI (by have h9 : v 38 = v 38 := rfl; (try rw [h9]); clear h9; have h9 : v 39 = v 39 := rfl; (try rw [h9]); clear h9; have h9 : v 30 = v 30 := rfl; (try rw [h9]); clear h9; have h9 : v 40 = v 40 := rfl; (try rw [h9]); clear h9; have h9 : v 41 = v 41 := rfl; (try rw [h9]); clear h9; omega) (by have h9 : v 37 = (v 37) := rfl; have h8 : v 38 = (v 38) := rfl; (try rw [h9]); (try rw [h8]); exact hd (by omega))) (cwV 0 hwd (gV wk_1042 wk_1044 wk_1045 wk_1046 wk_5) rfl rfl rfl (by decide +kernel) ⟨Nat.le_of_ble_eq_true rfl, Nat.le_of_ble_eq_true rfl⟩) ⟨PM.blind, va_recv hK hP (ci := 12) (q0 := 0) rfl rfl, fun U hU hW => ⟨rfl, PM.at hK hE hP hS hU hW⟩⟩ rfl rfl hl.1 rfl (lv_room (Nat.le_of_ble_eq_true rfl)) dX12_sum_1 ⟨Nat.le_of_ble_eq_true rfl, Nat.le_of_ble_eq_true rfl⟩) hS (fun q _ h => (freeM hS) q h) (freeM hS) (fun u t H1 locs ht hvm hw hB hz1 hk1 hS => ?_)
  unfold BM at hB
  rw [ht] at hB
  obtain ⟨v20336, F20337, rc9⟩ := u
  obtain ⟨hI, hrc, hf20338, hG20339, hw⟩ := hw
  dsimp only at hI hrc hB hf20338 hG20339 hw
  have hF := frCF (by decide) hG20339 hF
  rw [hrc] at hB
  have hP : va_P (dC, dI) classes (wM g c v20336 F20337 rc) H1 := hB
  have hw : ((v 39).toInt ≤ (v20336 39).toInt ∧ (v20336 39).toInt ≤ (v 30).toInt ∧ (v 38).toInt ≤ (v20336 38).toInt ∧ (v20336 38).toInt - (v 38).toInt ≤ (v20336 39).toInt - (v 39).toInt ∧ (v 41).toInt ≤ (v20336 41).toInt ∧ ((v20336 40).toInt < 0 → (v20336 41).toInt = (v 41).toInt)) ∧ keepL (v 37) (F 28) (F 29) (F20337 28) (F20337 29) ∧ ((v20336 40).toInt < 0 → dp (F20337 28) (F20337 29) (bI (v 37)) (v20336 38).toInt.toNat = some (d + 1)) := hw
  have hw_r20335 := hw
  have t20340 : 0 ≤ (v20336 38).toInt ∧ (v20336 38).toInt ≤ 120 := hI.1 38 _ _ rfl
  have t20341 : 0 ≤ (v20336 39).toInt ∧ (v20336 39).toInt ≤ 120 := hI.1 39 _ _ rfl
  have t20342 : 0 ≤ (v20336 41).toInt ∧ (v20336 41).toInt ≤ 8 := hI.1 41 _ _ rfl
  generalize H1 = H at hP hS ⊢
  have hk := hk.tr hw_r20335.2.1
  have hd := hw_r20335.2.2
  have lp20343 : ∀ (n : Nat) (v_lp20343 : Nat → Int32) (F_lp20343 : Nat → Nat → Int32) (H : Heap) (locs : List Loc) (ls : Array Slot), ((v 39).toInt ≤ (v_lp20343 39).toInt ∧ (v_lp20343 39).toInt ≤ (v 30).toInt ∧ (v 38).toInt ≤ (v_lp20343 38).toInt ∧ (v_lp20343 38).toInt - (v 38).toInt ≤ (v_lp20343 39).toInt - (v 39).toInt ∧ (v 41).toInt ≤ (v_lp20343 41).toInt ∧ ((v_lp20343 40).toInt < 0 → (v_lp20343 41).toInt = (v 41).toInt)) → (keepL (v 37) (F 28) (F 29) (F_lp20343 28) (F_lp20343 29)) → (((v_lp20343 40).toInt < 0 → dp (F_lp20343 28) (F_lp20343 29) (bI (v 37)) (v_lp20343 38).toInt.toNat = some (d + 1))) → (121 - (v_lp20343 39).toInt ≤ (n : Int)) → (∀ k, k ∉ ([38, 39, 40, 41, 42] : List Nat) → v_lp20343 k = v20336 k) → IM v_lp20343 F_lp20343 → (∀ k, k ∉ ([28, 29] : List Nat) → F_lp20343 k = F k) → va_P (dC, dI) classes (wM g c v_lp20343 F_lp20343 rc) H → va_S (AM g s.heap.size) s.heap H locs → lv_has ls 2 [(0, .ref (g 0))] → W p l e (headSpec (Cond.code yX12_sum cX12_sum 2 none :: wA) ({ frames := 29, cells := 0, slots := 0, locals := 1160 })).room s m ([.ref (g 0)] : List Value).toArray below meth c0 H locs 0 0 (MQ below (va_Qv (fun (u : StM) => IM u.1 u.2.1 ∧ u.2.2 = rc ∧ (∀ k, k ∉ ([38, 39, 40, 41, 42] : List Nat) → u.1 k = v k) ∧ (∀ k, k ∉ ([28, 29] : List Nat) → u.2.1 k = F k) ∧ (((v 39).toInt ≤ (u.1 39).toInt ∧ (u.1 39).toInt ≤ (v 30).toInt ∧ (v 38).toInt ≤ (u.1 38).toInt ∧ (u.1 38).toInt - (v 38).toInt ≤ (u.1 39).toInt - (v 39).toInt ∧ (v 41).toInt ≤ (u.1 41).toInt ∧ ((u.1 40).toInt < 0 → (u.1 41).toInt = (v 41).toInt)) ∧ keepL (v 37) (F 28) (F 29) (u.2.1 28) (u.2.1 29) ∧ ((u.1 40).toInt < 0 → dp (u.2.1 28) (u.2.1 29) (bI (v 37)) (u.1 38).toInt.toNat = some (d + 1)))) (BM dC dI g c) (AM g s.heap.size)) ([.ref (g 0)] : List Value).toArray s 0 0 (AM g s.heap.size)) (F0 m 4 ls []) := by
    intro n
    induction n with
    | zero =>
      intro v_lp20343 F_lp20343 H locs ls t20344 t20345 t20346 hm hf_lp20343 hI hF hP hS hl
      exfalso
      have hI1 := hI.1
      omega
    | succ n ih_lp20343 =>
      intro v_lp20343 F_lp20343 H locs ls t20344 t20345 t20346 hm hf_lp20343 hI hF hP hS hl
      have hk := t20345
      have hd := t20346
      refine lv_aload_n hx hb dX12_sum_4 rfl (lv_at hl 0 rfl) ?_
      refine va_get (D := (dC, dI)) (ci := 12) (v := .int (v_lp20343 40)) (C := RX12) (T := TX12) (N := 63) hx hb hwd inA_X12 hown hK hP 0 rfl rfl 40 (by decide) (hwd _ wk_1005) (fun _ h9 => h9) rfl dX12_sum_5 ?_
      refine lv_if_ge (tgt := 57) hx hb dX12_sum_8 (by decide) (fun c20347 => ?_) (fun c20347 => ?_)
      · skip
        have t20348 := cv_le (a := 0) (by decide) (b := (v_lp20343 40).toInt) rfl c20347
        have hP9 : va_P (dC, dI) classes (wM g c v_lp20343 F_lp20343 rc) H := hP
        exact W.vret hx hb hr (fun t ht hW => ⟨⟨(v_lp20343, F_lp20343, rc), rfl, ⟨hI, rfl, (frC (by decide) hf_lp20343 (frC (by decide) hf20338 (fun _ _ => rfl))), hF, (by show ((v 39).toInt ≤ (v_lp20343 39).toInt ∧ (v_lp20343 39).toInt ≤ (v 30).toInt ∧ (v 38).toInt ≤ (v_lp20343 38).toInt ∧ (v_lp20343 38).toInt - (v 38).toInt ≤ (v_lp20343 39).toInt - (v 39).toInt ∧ (v 41).toInt ≤ (v_lp20343 41).toInt ∧ ((v_lp20343 40).toInt < 0 → (v_lp20343 41).toInt = (v 41).toInt)) ∧ keepL (v 37) (F 28) (F 29) (F_lp20343 28) (F_lp20343 29) ∧ ((v_lp20343 40).toInt < 0 → dp (F_lp20343 28) (F_lp20343 29) (bI (v 37)) (v_lp20343 38).toInt.toNat = some (d + 1)); exact ⟨by omega, hk, fun hf => (hd (by omega)).trans (congrArg some (by omega))⟩)⟩, (by show va_P _ _ _ t.heap; rw [ht]; exact hP9)⟩, hS.F ht⟩) hS.2.2 dX12_sum_57
      · skip
        have t20349 := cv_nle (a := 0) (by decide) (b := (v_lp20343 40).toInt) rfl c20347
        refine lv_aload_n hx hb dX12_sum_11 rfl (lv_at hl 0 rfl) ?_
        have t20350 : 0 ≤ (v 30).toInt ∧ (v 30).toInt ≤ 120 := by have h9 := hI.1 30 _ _ rfl; rw [show v_lp20343 30 = v 30 from (hf_lp20343 30 (by decide)).trans (hf20338 30 (by decide))] at h9; exact h9
        have t20351 : 0 ≤ (v_lp20343 39).toInt ∧ (v_lp20343 39).toInt ≤ 120 := hI.1 39 _ _ rfl
        refine va_calli (va_runV (As := []) (rest := []) ⟨hx, hb, hml, hown, hwd⟩ (c_X12_look l dC dI g c adK adV v_lp20343 F_lp20343 rc H.size  hg hI ) (cwV 0 hwd (gV wk_1017 wk_1014 wk_1015 wk_1016 wk_5) rfl rfl rfl (by decide +kernel) ⟨Nat.le_of_ble_eq_true rfl, Nat.le_of_ble_eq_true rfl⟩) ⟨PM.blind, va_recv hK hP (ci := 12) (q0 := 0) rfl rfl, fun U hU hW => ⟨rfl, PM.at hK hE hP hS hU hW⟩⟩ rfl rfl hl.1 rfl (lv_room (Nat.le_of_ble_eq_true rfl)) dX12_sum_12 ⟨Nat.le_of_ble_eq_true rfl, Nat.le_of_ble_eq_true rfl⟩) hS (fun q _ h => (freeM hS) q h) (freeM hS) (fun r20352 u t H1 locs ht hvm hw hB hz1 hk1 hS => ?_)
        unfold BM at hB
        rw [ht] at hB
        have hP : va_P (dC, dI) classes (wM g c v_lp20343 F_lp20343 rc) H1 := hB
        have hw : r20352.toInt = lkM (v_lp20343 39) (v_lp20343 30) (F_lp20343 24) ∧ ((v_lp20343 39).toInt < (v_lp20343 30).toInt ∨ r20352.toInt = -1) := hw
        rw [show v_lp20343 30 = v 30 from (hf_lp20343 30 (by decide)).trans (hf20338 30 (by decide))] at hw
        rw [hF 24 (by decide)] at hw
        have hw_r20352 := hw
        generalize H1 = H at hP hS ⊢
        refine lv_bipush (v := 43) hx hb dX12_sum_15 (by decide) ?_
        refine lv_icmp_eq (tgt := 29) hx hb dX12_sum_17 (by decide) (fun c20353 => ?_) (fun c20353 => ?_)
        · skip
          have t20354 := cv_eq (a := r20352.toInt) rfl (b := 43) (by decide) c20353
          refine lv_aload_n hx hb dX12_sum_29 rfl (lv_at hl 0 rfl) ?_
          have t20355 : 0 ≤ (v 30).toInt ∧ (v 30).toInt ≤ 120 := by have h9 := hI.1 30 _ _ rfl; rw [show v_lp20343 30 = v 30 from (hf_lp20343 30 (by decide)).trans (hf20338 30 (by decide))] at h9; exact h9
          have t20356 : 0 ≤ (v_lp20343 39).toInt ∧ (v_lp20343 39).toInt ≤ 120 := hI.1 39 _ _ rfl
          refine va_calli (va_runV (As := []) (rest := []) ⟨hx, hb, hml, hown, hwd⟩ (c_X12_look l dC dI g c adK adV v_lp20343 F_lp20343 rc H.size  hg hI ) (cwV 0 hwd (gV wk_1017 wk_1014 wk_1015 wk_1016 wk_5) rfl rfl rfl (by decide +kernel) ⟨Nat.le_of_ble_eq_true rfl, Nat.le_of_ble_eq_true rfl⟩) ⟨PM.blind, va_recv hK hP (ci := 12) (q0 := 0) rfl rfl, fun U hU hW => ⟨rfl, PM.at hK hE hP hS hU hW⟩⟩ rfl rfl hl.1 rfl (lv_room (Nat.le_of_ble_eq_true rfl)) dX12_sum_30 ⟨Nat.le_of_ble_eq_true rfl, Nat.le_of_ble_eq_true rfl⟩) hS (fun q _ h => (freeM hS) q h) (freeM hS) (fun r20357 u t H1 locs ht hvm hw hB hz1 hk1 hS => ?_)
          unfold BM at hB
          rw [ht] at hB
          have hP : va_P (dC, dI) classes (wM g c v_lp20343 F_lp20343 rc) H1 := hB
          have hw : r20357.toInt = lkM (v_lp20343 39) (v_lp20343 30) (F_lp20343 24) ∧ ((v_lp20343 39).toInt < (v_lp20343 30).toInt ∨ r20357.toInt = -1) := hw
          rw [show v_lp20343 30 = v 30 from (hf_lp20343 30 (by decide)).trans (hf20338 30 (by decide))] at hw
          rw [hF 24 (by decide)] at hw
          have hw_r20357 := hw
          generalize H1 = H at hP hS ⊢
          refine lv_istore_n (lv' := [(1, .int r20357), (0, .ref (g 0))]) hx hb dX12_sum_33 rfl hl (by decide) rfl (fun ls hl => ?_)
          refine lv_aload_n hx hb dX12_sum_34 rfl (lv_at hl 1 rfl) ?_
          refine lv_dup hx hb dX12_sum_35 rfl ?_
          refine va_get (D := (dC, dI)) (ci := 12) (v := .int (v_lp20343 39)) (C := RX12) (T := TX12) (N := 63) hx hb hwd inA_X12 hown hK hP 0 rfl rfl 39 (by decide) (hwd _ wk_1004) (fun _ h9 => h9) rfl dX12_sum_36 ?_
          have t20358 : 0 ≤ (v_lp20343 39).toInt ∧ (v_lp20343 39).toInt ≤ 120 := hI.1 39 _ _ rfl
          refine lv_iconst (v := 1) hx hb dX12_sum_39 (by decide) ?_
          refine lv_iadd hx hb dX12_sum_40 ?_
          refine lv_topi (fun z20359 e20360 => ?_)
          try (have t20361 := tadd e20360 (a := (v_lp20343 39).toInt) rfl (b := 1) (by decide) (by omega))
          refine va_put (D := (dC, dI)) (ci := 12) (v := .int z20359) (ty := .int) (C := RX12) (T := TX12) (N := 63) (fs := fsM_0 g v_lp20343 rc) hx hb hwd inA_X12 tyX12 tyX12_ok nmX12 hown hK hP (DM hg) hS 0 rfl rfl 39 (by decide) (hwd _ wk_1004) (fun _ h9 => h9) rfl (by decide +kernel) rfl rfl (Nat.le_of_ble_eq_true rfl) dX12_sum_41 (fun H locs hP _ hS => ?_)
          have hP := va_P_eq (pM_39 g c _ _ _ _) hP
          have hI := IM.put hI 39 z20359 rfl (by omega)
          refine lv_aload_n hx hb dX12_sum_44 rfl (lv_at hl 1 rfl) ?_
          have t20362 : 0 ≤ (v 30).toInt ∧ (v 30).toInt ≤ 120 := by have h9 := hI.1 30 _ _ rfl; rw [show (va_up v_lp20343 39 z20359) 30 = v 30 from (hf_lp20343 30 (by decide)).trans (hf20338 30 (by decide))] at h9; exact h9
          have t20363 : 0 ≤ (v 37).toInt ∧ (v 37).toInt ≤ 9 := by have h9 := hI.1 37 _ _ rfl; rw [show (va_up v_lp20343 39 z20359) 37 = v 37 from (hf_lp20343 37 (by decide)).trans (hf20338 37 (by decide))] at h9; exact h9
          have t20364 : 0 ≤ (v_lp20343 38).toInt ∧ (v_lp20343 38).toInt ≤ 120 := hI.1 38 _ _ rfl
          have t20365 : 0 ≤ z20359.toInt ∧ z20359.toInt ≤ 120 := hI.1 39 _ _ rfl
          have t20366 : 0 ≤ (v_lp20343 41).toInt ∧ (v_lp20343 41).toInt ≤ 8 := hI.1 41 _ _ rfl
          refine va_callv (va_runV (As := []) (rest := []) ⟨hx, hb, hml, hown, hwd⟩ (c_X12_product_2 l dC dI g c adK adV (va_up v_lp20343 39 z20359) F_lp20343 rc H.size  (d + 1) hg hI (by have h9 : (va_up v_lp20343 39 z20359) 38 = v_lp20343 38 := rfl; (try rw [h9]); clear h9; have h9 : (va_up v_lp20343 39 z20359) 39 = z20359 := rfl; (try rw [h9]); clear h9; have h9 : (va_up v_lp20343 39 z20359) 30 = v 30 := (hf_lp20343 30 (by decide)).trans (hf20338 30 (by decide)); (try rw [h9]); clear h9; have h9 : (va_up v_lp20343 39 z20359) 40 = v_lp20343 40 := rfl; (try rw [h9]); clear h9; have h9 : (va_up v_lp20343 39 z20359) 41 = v_lp20343 41 := rfl; (try rw [h9]); clear h9; omega) (by have h9 : (va_up v_lp20343 39 z20359) 37 = (v 37) := (hf_lp20343 37 (by decide)).trans (hf20338 37 (by decide)); have h8 : (va_up v_lp20343 39 z20359) 38 = (v_lp20343 38) := rfl; (try rw [h9]); (try rw [h8]); exact hd (by omega))) (cwV 0 hwd (gV wk_1042 wk_1044 wk_1045 wk_1046 wk_5) rfl rfl rfl (by decide +kernel) ⟨Nat.le_of_ble_eq_true rfl, Nat.le_of_ble_eq_true rfl⟩) ⟨PM.blind, va_recv hK hP (ci := 12) (q0 := 0) rfl rfl, fun U hU hW => ⟨rfl, PM.at hK hE hP hS hU hW⟩⟩ rfl rfl hl.1 rfl (lv_room (Nat.le_of_ble_eq_true rfl)) dX12_sum_45 ⟨Nat.le_of_ble_eq_true rfl, Nat.le_of_ble_eq_true rfl⟩) hS (fun q _ h => (freeM hS) q h) (freeM hS) (fun u t H1 locs ht hvm hw hB hz1 hk1 hS => ?_)
          unfold BM at hB
          rw [ht] at hB
          obtain ⟨v20368, F20369, rc9⟩ := u
          obtain ⟨hI, hrc, hf20370, hG20371, hw⟩ := hw
          dsimp only at hI hrc hB hf20370 hG20371 hw
          have hF := frCF (by decide) hG20371 hF
          rw [hrc] at hB
          have hP : va_P (dC, dI) classes (wM g c v20368 F20369 rc) H1 := hB
          have hw : (z20359.toInt ≤ (v20368 39).toInt ∧ (v20368 39).toInt ≤ ((va_up v_lp20343 39 z20359) 30).toInt ∧ (v_lp20343 38).toInt ≤ (v20368 38).toInt ∧ (v20368 38).toInt - (v_lp20343 38).toInt ≤ (v20368 39).toInt - z20359.toInt ∧ (v_lp20343 41).toInt ≤ (v20368 41).toInt ∧ ((v20368 40).toInt < 0 → (v20368 41).toInt = (v_lp20343 41).toInt)) ∧ keepL ((va_up v_lp20343 39 z20359) 37) (F_lp20343 28) (F_lp20343 29) (F20369 28) (F20369 29) ∧ ((v20368 40).toInt < 0 → dp (F20369 28) (F20369 29) (bI ((va_up v_lp20343 39 z20359) 37)) (v20368 38).toInt.toNat = some ((d + 1) + 1)) := hw
          rw [show (va_up v_lp20343 39 z20359) 30 = v 30 from (hf_lp20343 30 (by decide)).trans (hf20338 30 (by decide))] at hw
          rw [show (va_up v_lp20343 39 z20359) 37 = v 37 from (hf_lp20343 37 (by decide)).trans (hf20338 37 (by decide))] at hw
          have hw_r20367 := hw
          have t20372 : 0 ≤ (v20368 38).toInt ∧ (v20368 38).toInt ≤ 120 := hI.1 38 _ _ rfl
          have t20373 : 0 ≤ (v20368 39).toInt ∧ (v20368 39).toInt ≤ 120 := hI.1 39 _ _ rfl
          have t20374 : 0 ≤ (v20368 41).toInt ∧ (v20368 41).toInt ≤ 8 := hI.1 41 _ _ rfl
          generalize H1 = H at hP hS ⊢
          have hk := hk.tr hw_r20367.2.1
          have hd := hw_r20367.2.2
          refine lv_aload_n hx hb dX12_sum_48 rfl (lv_at hl 1 rfl) ?_
          refine lv_iload_n hx hb dX12_sum_49 rfl (lv_at hl 0 rfl) ?_
          refine lv_iconst (v := 0) hx hb dX12_sum_50 (by decide) ?_
          have t20375 : 0 ≤ (v 37).toInt ∧ (v 37).toInt ≤ 9 := by have h9 := hI.1 37 _ _ rfl; rw [show v20368 37 = v 37 from (hf20370 37 (by decide)).trans ((hf_lp20343 37 (by decide)).trans (hf20338 37 (by decide)))] at h9; exact h9
          have t20376 : 0 ≤ (v20368 38).toInt ∧ (v20368 38).toInt ≤ 120 := hI.1 38 _ _ rfl
          refine va_callv (va_runV (As := [.int r20357, .int 0]) (rest := []) ⟨hx, hb, hml, hown, hwd⟩ (c_X12_lay l dC dI g c adK adV v20368 F20369 rc H.size r20357 0 hg hI (by have h9 : v20368 38 = v20368 38 := rfl; rw [h9]; omega)) (cwV 2 hwd (gV wk_1021 wk_1018 wk_1019 wk_1020 wk_5) rfl rfl rfl (by decide +kernel) ⟨Nat.le_of_ble_eq_true rfl, Nat.le_of_ble_eq_true rfl⟩) ⟨PM.blind, va_recv hK hP (ci := 12) (q0 := 0) rfl rfl, fun U hU hW => ⟨rfl, PM.at hK hE hP hS hU hW⟩⟩ rfl rfl hl.1 rfl (lv_room (Nat.le_of_ble_eq_true rfl)) dX12_sum_51 ⟨Nat.le_of_ble_eq_true rfl, Nat.le_of_ble_eq_true rfl⟩) hS (fun q _ h => (freeM hS) q h) (freeM hS) (fun u t H1 locs ht hvm hw hB hz1 hk1 hS => ?_)
          unfold BM at hB
          rw [ht] at hB
          obtain ⟨v20378, F20379, rc9⟩ := u
          obtain ⟨hI, hrc, hf20380, hG20381, hw⟩ := hw
          dsimp only at hI hrc hB hf20380 hG20381 hw
          have hF := frCF (by decide) hG20381 hF
          rw [hrc] at hB
          have hP : va_P (dC, dI) classes (wM g c v20378 F20379 rc) H1 := hB
          have hw : (v20378 38).toInt = (v20368 38).toInt + 1 ∧ keepL (v20368 37) (F20369 28) (F20369 29) (F20379 28) (F20379 29) ∧ dp (F20379 28) (F20379 29) (bI (v20368 37)) ((v20368 38).toInt.toNat + 1) = dpS (dp (F20369 28) (F20369 29) (bI (v20368 37)) (v20368 38).toInt.toNat) r20357 (0 : Int32) := hw
          rw [show v20368 37 = v 37 from (hf20370 37 (by decide)).trans ((hf_lp20343 37 (by decide)).trans (hf20338 37 (by decide)))] at hw
          have hw_r20377 := hw
          have t20382 : 0 ≤ (v20378 38).toInt ∧ (v20378 38).toInt ≤ 120 := hI.1 38 _ _ rfl
          have k20383 : (0 : Int32).toInt = 0 := by decide
          generalize H1 = H at hP hS ⊢
          have hk := hk.tr hw_r20377.2.1
          have hd : (v20368 40).toInt < 0 → dp (F20379 28) (F20379 29) (bI (v 37)) (v20378 38).toInt.toNat = some (((d + 1) + 1) - 1) := fun hf => (by have e9 : (v20378 38).toInt.toNat = (v20368 38).toInt.toNat + 1 := (by omega); rw [e9, hw_r20377.2.2, hd hf]; exact dpS_5 (by omega) (by omega) (by omega) (by omega) (by omega))
          refine lv_goto (tgt := 4) hx hb dX12_sum_54 (by decide) ?_
          exact ih_lp20343  v20378 F20379 _ _ _ (by have h9 : v20378 39 = v20368 39 := hf20380 39 (by decide); (try rw [h9]); clear h9; have h9 : v20378 38 = v20378 38 := rfl; (try rw [h9]); clear h9; have h9 : v20378 41 = v20368 41 := hf20380 41 (by decide); (try rw [h9]); clear h9; have h9 : v20378 40 = v20368 40 := hf20380 40 (by decide); (try rw [h9]); clear h9; omega) hk (by have h9 : v20378 40 = v20368 40 := hf20380 40 (by decide); (try rw [h9]); clear h9; have h9 : v20378 38 = v20378 38 := rfl; (try rw [h9]); clear h9; exact fun hf => (hd (by omega)).trans (congrArg some (by omega))) (by have h9 : v20378 39 = v20368 39 := hf20380 39 (by decide); rw [h9]; omega) (frC (by decide) hf20380 (frC (by decide) hf20370 (frU (by decide) hf_lp20343))) hI hF hP hS (lv_sub hl [1] rfl)
        · skip
          have t20384 := cv_ne (a := r20352.toInt) rfl (b := 43) (by decide) c20353
          refine lv_aload_n hx hb dX12_sum_20 rfl (lv_at hl 0 rfl) ?_
          have t20385 : 0 ≤ (v 30).toInt ∧ (v 30).toInt ≤ 120 := by have h9 := hI.1 30 _ _ rfl; rw [show v_lp20343 30 = v 30 from (hf_lp20343 30 (by decide)).trans (hf20338 30 (by decide))] at h9; exact h9
          have t20386 : 0 ≤ (v_lp20343 39).toInt ∧ (v_lp20343 39).toInt ≤ 120 := hI.1 39 _ _ rfl
          refine va_calli (va_runV (As := []) (rest := []) ⟨hx, hb, hml, hown, hwd⟩ (c_X12_look l dC dI g c adK adV v_lp20343 F_lp20343 rc H.size  hg hI ) (cwV 0 hwd (gV wk_1017 wk_1014 wk_1015 wk_1016 wk_5) rfl rfl rfl (by decide +kernel) ⟨Nat.le_of_ble_eq_true rfl, Nat.le_of_ble_eq_true rfl⟩) ⟨PM.blind, va_recv hK hP (ci := 12) (q0 := 0) rfl rfl, fun U hU hW => ⟨rfl, PM.at hK hE hP hS hU hW⟩⟩ rfl rfl hl.1 rfl (lv_room (Nat.le_of_ble_eq_true rfl)) dX12_sum_21 ⟨Nat.le_of_ble_eq_true rfl, Nat.le_of_ble_eq_true rfl⟩) hS (fun q _ h => (freeM hS) q h) (freeM hS) (fun r20387 u t H1 locs ht hvm hw hB hz1 hk1 hS => ?_)
          unfold BM at hB
          rw [ht] at hB
          have hP : va_P (dC, dI) classes (wM g c v_lp20343 F_lp20343 rc) H1 := hB
          have hw : r20387.toInt = lkM (v_lp20343 39) (v_lp20343 30) (F_lp20343 24) ∧ ((v_lp20343 39).toInt < (v_lp20343 30).toInt ∨ r20387.toInt = -1) := hw
          rw [show v_lp20343 30 = v 30 from (hf_lp20343 30 (by decide)).trans (hf20338 30 (by decide))] at hw
          rw [hF 24 (by decide)] at hw
          have hw_r20387 := hw
          generalize H1 = H at hP hS ⊢
          refine lv_bipush (v := 45) hx hb dX12_sum_24 (by decide) ?_
          refine lv_icmp_ne (tgt := 57) hx hb dX12_sum_26 (by decide) (fun c20388 => ?_) (fun c20388 => ?_)
          · skip
            have t20389 := cv_ne (a := r20387.toInt) rfl (b := 45) (by decide) c20388
            have hP9 : va_P (dC, dI) classes (wM g c v_lp20343 F_lp20343 rc) H := hP
            exact W.vret hx hb hr (fun t ht hW => ⟨⟨(v_lp20343, F_lp20343, rc), rfl, ⟨hI, rfl, (frC (by decide) hf_lp20343 (frC (by decide) hf20338 (fun _ _ => rfl))), hF, (by show ((v 39).toInt ≤ (v_lp20343 39).toInt ∧ (v_lp20343 39).toInt ≤ (v 30).toInt ∧ (v 38).toInt ≤ (v_lp20343 38).toInt ∧ (v_lp20343 38).toInt - (v 38).toInt ≤ (v_lp20343 39).toInt - (v 39).toInt ∧ (v 41).toInt ≤ (v_lp20343 41).toInt ∧ ((v_lp20343 40).toInt < 0 → (v_lp20343 41).toInt = (v 41).toInt)) ∧ keepL (v 37) (F 28) (F 29) (F_lp20343 28) (F_lp20343 29) ∧ ((v_lp20343 40).toInt < 0 → dp (F_lp20343 28) (F_lp20343 29) (bI (v 37)) (v_lp20343 38).toInt.toNat = some (d + 1)); exact ⟨by omega, hk, fun hf => (hd (by omega)).trans (congrArg some (by omega))⟩)⟩, (by show va_P _ _ _ t.heap; rw [ht]; exact hP9)⟩, hS.F ht⟩) hS.2.2 dX12_sum_57
          · skip
            have t20390 := cv_eq (a := r20387.toInt) rfl (b := 45) (by decide) c20388
            refine lv_aload_n hx hb dX12_sum_29 rfl (lv_at hl 0 rfl) ?_
            have t20391 : 0 ≤ (v 30).toInt ∧ (v 30).toInt ≤ 120 := by have h9 := hI.1 30 _ _ rfl; rw [show v_lp20343 30 = v 30 from (hf_lp20343 30 (by decide)).trans (hf20338 30 (by decide))] at h9; exact h9
            have t20392 : 0 ≤ (v_lp20343 39).toInt ∧ (v_lp20343 39).toInt ≤ 120 := hI.1 39 _ _ rfl
            refine va_calli (va_runV (As := []) (rest := []) ⟨hx, hb, hml, hown, hwd⟩ (c_X12_look l dC dI g c adK adV v_lp20343 F_lp20343 rc H.size  hg hI ) (cwV 0 hwd (gV wk_1017 wk_1014 wk_1015 wk_1016 wk_5) rfl rfl rfl (by decide +kernel) ⟨Nat.le_of_ble_eq_true rfl, Nat.le_of_ble_eq_true rfl⟩) ⟨PM.blind, va_recv hK hP (ci := 12) (q0 := 0) rfl rfl, fun U hU hW => ⟨rfl, PM.at hK hE hP hS hU hW⟩⟩ rfl rfl hl.1 rfl (lv_room (Nat.le_of_ble_eq_true rfl)) dX12_sum_30 ⟨Nat.le_of_ble_eq_true rfl, Nat.le_of_ble_eq_true rfl⟩) hS (fun q _ h => (freeM hS) q h) (freeM hS) (fun r20393 u t H1 locs ht hvm hw hB hz1 hk1 hS => ?_)
            unfold BM at hB
            rw [ht] at hB
            have hP : va_P (dC, dI) classes (wM g c v_lp20343 F_lp20343 rc) H1 := hB
            have hw : r20393.toInt = lkM (v_lp20343 39) (v_lp20343 30) (F_lp20343 24) ∧ ((v_lp20343 39).toInt < (v_lp20343 30).toInt ∨ r20393.toInt = -1) := hw
            rw [show v_lp20343 30 = v 30 from (hf_lp20343 30 (by decide)).trans (hf20338 30 (by decide))] at hw
            rw [hF 24 (by decide)] at hw
            have hw_r20393 := hw
            generalize H1 = H at hP hS ⊢
            refine lv_istore_n (lv' := [(1, .int r20393), (0, .ref (g 0))]) hx hb dX12_sum_33 rfl hl (by decide) rfl (fun ls hl => ?_)
            refine lv_aload_n hx hb dX12_sum_34 rfl (lv_at hl 1 rfl) ?_
            refine lv_dup hx hb dX12_sum_35 rfl ?_
            refine va_get (D := (dC, dI)) (ci := 12) (v := .int (v_lp20343 39)) (C := RX12) (T := TX12) (N := 63) hx hb hwd inA_X12 hown hK hP 0 rfl rfl 39 (by decide) (hwd _ wk_1004) (fun _ h9 => h9) rfl dX12_sum_36 ?_
            have t20394 : 0 ≤ (v_lp20343 39).toInt ∧ (v_lp20343 39).toInt ≤ 120 := hI.1 39 _ _ rfl
            refine lv_iconst (v := 1) hx hb dX12_sum_39 (by decide) ?_
            refine lv_iadd hx hb dX12_sum_40 ?_
            refine lv_topi (fun z20395 e20396 => ?_)
            try (have t20397 := tadd e20396 (a := (v_lp20343 39).toInt) rfl (b := 1) (by decide) (by omega))
            refine va_put (D := (dC, dI)) (ci := 12) (v := .int z20395) (ty := .int) (C := RX12) (T := TX12) (N := 63) (fs := fsM_0 g v_lp20343 rc) hx hb hwd inA_X12 tyX12 tyX12_ok nmX12 hown hK hP (DM hg) hS 0 rfl rfl 39 (by decide) (hwd _ wk_1004) (fun _ h9 => h9) rfl (by decide +kernel) rfl rfl (Nat.le_of_ble_eq_true rfl) dX12_sum_41 (fun H locs hP _ hS => ?_)
            have hP := va_P_eq (pM_39 g c _ _ _ _) hP
            have hI := IM.put hI 39 z20395 rfl (by omega)
            refine lv_aload_n hx hb dX12_sum_44 rfl (lv_at hl 1 rfl) ?_
            have t20398 : 0 ≤ (v 30).toInt ∧ (v 30).toInt ≤ 120 := by have h9 := hI.1 30 _ _ rfl; rw [show (va_up v_lp20343 39 z20395) 30 = v 30 from (hf_lp20343 30 (by decide)).trans (hf20338 30 (by decide))] at h9; exact h9
            have t20399 : 0 ≤ (v 37).toInt ∧ (v 37).toInt ≤ 9 := by have h9 := hI.1 37 _ _ rfl; rw [show (va_up v_lp20343 39 z20395) 37 = v 37 from (hf_lp20343 37 (by decide)).trans (hf20338 37 (by decide))] at h9; exact h9
            have t20400 : 0 ≤ (v_lp20343 38).toInt ∧ (v_lp20343 38).toInt ≤ 120 := hI.1 38 _ _ rfl
            have t20401 : 0 ≤ z20395.toInt ∧ z20395.toInt ≤ 120 := hI.1 39 _ _ rfl
            have t20402 : 0 ≤ (v_lp20343 41).toInt ∧ (v_lp20343 41).toInt ≤ 8 := hI.1 41 _ _ rfl
            refine va_callv (va_runV (As := []) (rest := []) ⟨hx, hb, hml, hown, hwd⟩ (c_X12_product_2 l dC dI g c adK adV (va_up v_lp20343 39 z20395) F_lp20343 rc H.size  (d + 1) hg hI (by have h9 : (va_up v_lp20343 39 z20395) 38 = v_lp20343 38 := rfl; (try rw [h9]); clear h9; have h9 : (va_up v_lp20343 39 z20395) 39 = z20395 := rfl; (try rw [h9]); clear h9; have h9 : (va_up v_lp20343 39 z20395) 30 = v 30 := (hf_lp20343 30 (by decide)).trans (hf20338 30 (by decide)); (try rw [h9]); clear h9; have h9 : (va_up v_lp20343 39 z20395) 40 = v_lp20343 40 := rfl; (try rw [h9]); clear h9; have h9 : (va_up v_lp20343 39 z20395) 41 = v_lp20343 41 := rfl; (try rw [h9]); clear h9; omega) (by have h9 : (va_up v_lp20343 39 z20395) 37 = (v 37) := (hf_lp20343 37 (by decide)).trans (hf20338 37 (by decide)); have h8 : (va_up v_lp20343 39 z20395) 38 = (v_lp20343 38) := rfl; (try rw [h9]); (try rw [h8]); exact hd (by omega))) (cwV 0 hwd (gV wk_1042 wk_1044 wk_1045 wk_1046 wk_5) rfl rfl rfl (by decide +kernel) ⟨Nat.le_of_ble_eq_true rfl, Nat.le_of_ble_eq_true rfl⟩) ⟨PM.blind, va_recv hK hP (ci := 12) (q0 := 0) rfl rfl, fun U hU hW => ⟨rfl, PM.at hK hE hP hS hU hW⟩⟩ rfl rfl hl.1 rfl (lv_room (Nat.le_of_ble_eq_true rfl)) dX12_sum_45 ⟨Nat.le_of_ble_eq_true rfl, Nat.le_of_ble_eq_true rfl⟩) hS (fun q _ h => (freeM hS) q h) (freeM hS) (fun u t H1 locs ht hvm hw hB hz1 hk1 hS => ?_)
            unfold BM at hB
            rw [ht] at hB
            obtain ⟨v20404, F20405, rc9⟩ := u
            obtain ⟨hI, hrc, hf20406, hG20407, hw⟩ := hw
            dsimp only at hI hrc hB hf20406 hG20407 hw
            have hF := frCF (by decide) hG20407 hF
            rw [hrc] at hB
            have hP : va_P (dC, dI) classes (wM g c v20404 F20405 rc) H1 := hB
            have hw : (z20395.toInt ≤ (v20404 39).toInt ∧ (v20404 39).toInt ≤ ((va_up v_lp20343 39 z20395) 30).toInt ∧ (v_lp20343 38).toInt ≤ (v20404 38).toInt ∧ (v20404 38).toInt - (v_lp20343 38).toInt ≤ (v20404 39).toInt - z20395.toInt ∧ (v_lp20343 41).toInt ≤ (v20404 41).toInt ∧ ((v20404 40).toInt < 0 → (v20404 41).toInt = (v_lp20343 41).toInt)) ∧ keepL ((va_up v_lp20343 39 z20395) 37) (F_lp20343 28) (F_lp20343 29) (F20405 28) (F20405 29) ∧ ((v20404 40).toInt < 0 → dp (F20405 28) (F20405 29) (bI ((va_up v_lp20343 39 z20395) 37)) (v20404 38).toInt.toNat = some ((d + 1) + 1)) := hw
            rw [show (va_up v_lp20343 39 z20395) 30 = v 30 from (hf_lp20343 30 (by decide)).trans (hf20338 30 (by decide))] at hw
            rw [show (va_up v_lp20343 39 z20395) 37 = v 37 from (hf_lp20343 37 (by decide)).trans (hf20338 37 (by decide))] at hw
            have hw_r20403 := hw
            have t20408 : 0 ≤ (v20404 38).toInt ∧ (v20404 38).toInt ≤ 120 := hI.1 38 _ _ rfl
            have t20409 : 0 ≤ (v20404 39).toInt ∧ (v20404 39).toInt ≤ 120 := hI.1 39 _ _ rfl
            have t20410 : 0 ≤ (v20404 41).toInt ∧ (v20404 41).toInt ≤ 8 := hI.1 41 _ _ rfl
            generalize H1 = H at hP hS ⊢
            have hk := hk.tr hw_r20403.2.1
            have hd := hw_r20403.2.2
            refine lv_aload_n hx hb dX12_sum_48 rfl (lv_at hl 1 rfl) ?_
            refine lv_iload_n hx hb dX12_sum_49 rfl (lv_at hl 0 rfl) ?_
            refine lv_iconst (v := 0) hx hb dX12_sum_50 (by decide) ?_
            have t20411 : 0 ≤ (v 37).toInt ∧ (v 37).toInt ≤ 9 := by have h9 := hI.1 37 _ _ rfl; rw [show v20404 37 = v 37 from (hf20406 37 (by decide)).trans ((hf_lp20343 37 (by decide)).trans (hf20338 37 (by decide)))] at h9; exact h9
            have t20412 : 0 ≤ (v20404 38).toInt ∧ (v20404 38).toInt ≤ 120 := hI.1 38 _ _ rfl
            refine va_callv (va_runV (As := [.int r20393, .int 0]) (rest := []) ⟨hx, hb, hml, hown, hwd⟩ (c_X12_lay l dC dI g c adK adV v20404 F20405 rc H.size r20393 0 hg hI (by have h9 : v20404 38 = v20404 38 := rfl; rw [h9]; omega)) (cwV 2 hwd (gV wk_1021 wk_1018 wk_1019 wk_1020 wk_5) rfl rfl rfl (by decide +kernel) ⟨Nat.le_of_ble_eq_true rfl, Nat.le_of_ble_eq_true rfl⟩) ⟨PM.blind, va_recv hK hP (ci := 12) (q0 := 0) rfl rfl, fun U hU hW => ⟨rfl, PM.at hK hE hP hS hU hW⟩⟩ rfl rfl hl.1 rfl (lv_room (Nat.le_of_ble_eq_true rfl)) dX12_sum_51 ⟨Nat.le_of_ble_eq_true rfl, Nat.le_of_ble_eq_true rfl⟩) hS (fun q _ h => (freeM hS) q h) (freeM hS) (fun u t H1 locs ht hvm hw hB hz1 hk1 hS => ?_)
            unfold BM at hB
            rw [ht] at hB
            obtain ⟨v20414, F20415, rc9⟩ := u
            obtain ⟨hI, hrc, hf20416, hG20417, hw⟩ := hw
            dsimp only at hI hrc hB hf20416 hG20417 hw
            have hF := frCF (by decide) hG20417 hF
            rw [hrc] at hB
            have hP : va_P (dC, dI) classes (wM g c v20414 F20415 rc) H1 := hB
            have hw : (v20414 38).toInt = (v20404 38).toInt + 1 ∧ keepL (v20404 37) (F20405 28) (F20405 29) (F20415 28) (F20415 29) ∧ dp (F20415 28) (F20415 29) (bI (v20404 37)) ((v20404 38).toInt.toNat + 1) = dpS (dp (F20405 28) (F20405 29) (bI (v20404 37)) (v20404 38).toInt.toNat) r20393 (0 : Int32) := hw
            rw [show v20404 37 = v 37 from (hf20406 37 (by decide)).trans ((hf_lp20343 37 (by decide)).trans (hf20338 37 (by decide)))] at hw
            have hw_r20413 := hw
            have t20418 : 0 ≤ (v20414 38).toInt ∧ (v20414 38).toInt ≤ 120 := hI.1 38 _ _ rfl
            have k20419 : (0 : Int32).toInt = 0 := by decide
            generalize H1 = H at hP hS ⊢
            have hk := hk.tr hw_r20413.2.1
            have hd : (v20404 40).toInt < 0 → dp (F20415 28) (F20415 29) (bI (v 37)) (v20414 38).toInt.toNat = some (((d + 1) + 1) - 1) := fun hf => (by have e9 : (v20414 38).toInt.toNat = (v20404 38).toInt.toNat + 1 := (by omega); rw [e9, hw_r20413.2.2, hd hf]; exact dpS_5 (by omega) (by omega) (by omega) (by omega) (by omega))
            refine lv_goto (tgt := 4) hx hb dX12_sum_54 (by decide) ?_
            exact ih_lp20343  v20414 F20415 _ _ _ (by have h9 : v20414 39 = v20404 39 := hf20416 39 (by decide); (try rw [h9]); clear h9; have h9 : v20414 38 = v20414 38 := rfl; (try rw [h9]); clear h9; have h9 : v20414 41 = v20404 41 := hf20416 41 (by decide); (try rw [h9]); clear h9; have h9 : v20414 40 = v20404 40 := hf20416 40 (by decide); (try rw [h9]); clear h9; omega) hk (by have h9 : v20414 40 = v20404 40 := hf20416 40 (by decide); (try rw [h9]); clear h9; have h9 : v20414 38 = v20414 38 := rfl; (try rw [h9]); clear h9; exact fun hf => (hd (by omega)).trans (congrArg some (by omega))) (by have h9 : v20414 39 = v20404 39 := hf20416 39 (by decide); rw [h9]; omega) (frC (by decide) hf20416 (frC (by decide) hf20406 (frU (by decide) hf_lp20343))) hI hF hP hS (lv_sub hl [1] rfl)
  obtain ⟨n9, hn9⟩ : ∃ n : Nat, 121 - (v20336 39).toInt ≤ (n : Int) := ⟨((121 - (v20336 39).toInt : Int)).toNat, by omega⟩
  exact lp20343 n9  v20336 F20337 H _ ls (by have h9 : v20336 39 = v20336 39 := rfl; (try rw [h9]); clear h9; have h9 : v20336 38 = v20336 38 := rfl; (try rw [h9]); clear h9; have h9 : v20336 41 = v20336 41 := rfl; (try rw [h9]); clear h9; have h9 : v20336 40 = v20336 40 := rfl; (try rw [h9]); clear h9; omega) hk (by have h9 : v20336 40 = v20336 40 := rfl; (try rw [h9]); clear h9; have h9 : v20336 38 = v20336 38 := rfl; (try rw [h9]); clear h9; exact fun hf => (hd (by omega)).trans (congrArg some (by omega))) (by have h9 : v20336 39 = v20336 39 := rfl; rw [h9]; omega) (fun _ _ => rfl) hI hF hP hS hl
set_option maxHeartbeats 8000000 in
set_option maxRecDepth 100000 in
theorem c_X12_either_2 (l : Launch) (dC : Nat → ClassId) (dI : Nat → Nat → Nat) (g : Nat → Nat) (c : Nat → ClassId) (adK adV : Nat → Nat) (v : Nat → Int32) (F : Nat → Nat → Int32) (rc sz : Nat) (d : Nat) (hg : injM g) (hI : IM v F) (hq : (v 38).toInt ≤ (v 39).toInt ∧ (v 39).toInt ≤ (v 30).toInt ∧ (v 40).toInt < 0 ∧ (v 41).toInt = 2) (hdp : dp (F 28) (F 29) (bI (v 37)) (v 38).toInt.toNat = some d) : Met l yX12_either (Cond.code yX12_either cX12_either 2 none :: wA) ({ frames := 30, cells := 0, slots := 0, locals := 1200 }) (va_Pc [.ref (g 0)] (PM dC dI g c adK adV v F rc sz)) (va_Qv (fun (u : StM) => IM u.1 u.2.1 ∧ u.2.2 = rc ∧ (∀ k, k ∉ ([38, 39, 40, 41, 42] : List Nat) → u.1 k = v k) ∧ (∀ k, k ∉ ([28, 29] : List Nat) → u.2.1 k = F k) ∧ (((v 39).toInt ≤ (u.1 39).toInt ∧ (u.1 39).toInt ≤ (v 30).toInt ∧ (v 38).toInt ≤ (u.1 38).toInt ∧ (u.1 38).toInt - (v 38).toInt ≤ (u.1 39).toInt - (v 39).toInt ∧ (v 41).toInt ≤ (u.1 41).toInt ∧ ((u.1 40).toInt < 0 → (u.1 41).toInt = (v 41).toInt)) ∧ keepL (v 37) (F 28) (F 29) (u.2.1 28) (u.2.1 29) ∧ ((u.1 40).toInt < 0 → dp (u.2.1 28) (u.2.1 29) (bI (v 37)) (u.1 38).toInt.toNat = some (d + 1)))) (BM dC dI g c) (AM g sz)) 0 0 (AM g sz) := by
  refine Met.ofW (cc := cX12_either) (maxL := 2) (ret := none) (by decide) rfl ?_
  intro p e s m args below meth c0 s₁ B hml hv
  obtain ⟨rfl, hsz, hP, hK, hE⟩ := hv
  have hx := B.exec
  have hb := B.bytes
  have hr := B.returns
  have hts := atoms_spec (ws := Cond.code yX12_either cX12_either 2 none :: wA) B.pre
  have hwd : ∀ w ∈ wA, w.before _ s = true := fun w h => hts w (List.mem_cons_of_mem _ h)
  have hown : s.vm.findClass RX12 = some m.cls := findClass_of_methodNamed B.named
  have hlocks := B.notSynchronized
  subst hsz
  have hl := lv_entry ([.ref (g 0)]) (n := 2) (Nat.le_of_ble_eq_true rfl)
  rw [lg_entry_eq]
  generalize (lg_sl ([.ref (g 0)]) ++ List.replicate (2 - (lg_sl ([.ref (g 0)])).length) Slot.unset).toArray = ls at hl ⊢
  have hl : lv_has ls 2 [(0, .ref (g 0))] := hl
  obtain ⟨H, eH⟩ : ∃ z, z = s.heap := ⟨_, rfl⟩
  have hP : va_P (dC, dI) classes (wM g c v F rc) H := by rw [eH]; exact hP
  have hS : va_S (AM g s.heap.size) s.heap H [] := by rw [eH]; exact va_S.rf
  refine my_heap eH ?_
  have hF : ∀ k, k ∉ ([28, 29] : List Nat) → F k = F k := fun _ _ => rfl
  have hb30 : 0 ≤ (v 30).toInt ∧ (v 30).toInt ≤ 120 := hI.1 30 _ _ rfl
  have hb37 : 0 ≤ (v 37).toInt ∧ (v 37).toInt ≤ 9 := hI.1 37 _ _ rfl
  have hb38 : 0 ≤ (v 38).toInt ∧ (v 38).toInt ≤ 120 := hI.1 38 _ _ rfl
  have hb39 : 0 ≤ (v 39).toInt ∧ (v 39).toInt ≤ 120 := hI.1 39 _ _ rfl
  have hb41 : 0 ≤ (v 41).toInt ∧ (v 41).toInt ≤ 8 := hI.1 41 _ _ rfl
  have hk : keepL (v 37) (F 28) (F 29) (F 28) (F 29) := keepL.rf
  have hd : (v 40).toInt < 0 → dp (F 28) (F 29) (bI (v 37)) (v 38).toInt.toNat = some d := fun _ => hdp
  refine lv_aload_n hx hb dX12_either_0 rfl (lv_at hl 0 rfl) ?_
  have t20921 : 0 ≤ (v 30).toInt ∧ (v 30).toInt ≤ 120 := hI.1 30 _ _ rfl
  have t20922 : 0 ≤ (v 37).toInt ∧ (v 37).toInt ≤ 9 := hI.1 37 _ _ rfl
  have t20923 : 0 ≤ (v 38).toInt ∧ (v 38).toInt ≤ 120 := hI.1 38 _ _ rfl
  have t20924 : 0 ≤ (v 39).toInt ∧ (v 39).toInt ≤ 120 := hI.1 39 _ _ rfl
  have t20925 : 0 ≤ (v 41).toInt ∧ (v 41).toInt ≤ 8 := hI.1 41 _ _ rfl
  refine va_callv (va_runV (As := []) (rest := []) ⟨hx, hb, hml, hown, hwd⟩ (c_X12_sum_2 l dC dI g c adK adV v F rc H.size  d hg hI (by have h9 : v 38 = v 38 := rfl; (try rw [h9]); clear h9; have h9 : v 39 = v 39 := rfl; (try rw [h9]); clear h9; have h9 : v 30 = v 30 := rfl; (try rw [h9]); clear h9; have h9 : v 40 = v 40 := rfl; (try rw [h9]); clear h9; have h9 : v 41 = v 41 := rfl; (try rw [h9]); clear h9; omega) (by have h9 : v 37 = (v 37) := rfl; have h8 : v 38 = (v 38) := rfl; (try rw [h9]); (try rw [h8]); exact hd (by omega))) (cwV 0 hwd (gV wk_1043 wk_1011 wk_1012 wk_1013 wk_5) rfl rfl rfl (by decide +kernel) ⟨Nat.le_of_ble_eq_true rfl, Nat.le_of_ble_eq_true rfl⟩) ⟨PM.blind, va_recv hK hP (ci := 12) (q0 := 0) rfl rfl, fun U hU hW => ⟨rfl, PM.at hK hE hP hS hU hW⟩⟩ rfl rfl hl.1 rfl (lv_room (Nat.le_of_ble_eq_true rfl)) dX12_either_1 ⟨Nat.le_of_ble_eq_true rfl, Nat.le_of_ble_eq_true rfl⟩) hS (fun q _ h => (freeM hS) q h) (freeM hS) (fun u t H1 locs ht hvm hw hB hz1 hk1 hS => ?_)
  unfold BM at hB
  rw [ht] at hB
  obtain ⟨v20927, F20928, rc9⟩ := u
  obtain ⟨hI, hrc, hf20929, hG20930, hw⟩ := hw
  dsimp only at hI hrc hB hf20929 hG20930 hw
  have hF := frCF (by decide) hG20930 hF
  rw [hrc] at hB
  have hP : va_P (dC, dI) classes (wM g c v20927 F20928 rc) H1 := hB
  have hw : ((v 39).toInt ≤ (v20927 39).toInt ∧ (v20927 39).toInt ≤ (v 30).toInt ∧ (v 38).toInt ≤ (v20927 38).toInt ∧ (v20927 38).toInt - (v 38).toInt ≤ (v20927 39).toInt - (v 39).toInt ∧ (v 41).toInt ≤ (v20927 41).toInt ∧ ((v20927 40).toInt < 0 → (v20927 41).toInt = (v 41).toInt)) ∧ keepL (v 37) (F 28) (F 29) (F20928 28) (F20928 29) ∧ ((v20927 40).toInt < 0 → dp (F20928 28) (F20928 29) (bI (v 37)) (v20927 38).toInt.toNat = some (d + 1)) := hw
  have hw_r20926 := hw
  have t20931 : 0 ≤ (v20927 38).toInt ∧ (v20927 38).toInt ≤ 120 := hI.1 38 _ _ rfl
  have t20932 : 0 ≤ (v20927 39).toInt ∧ (v20927 39).toInt ≤ 120 := hI.1 39 _ _ rfl
  have t20933 : 0 ≤ (v20927 41).toInt ∧ (v20927 41).toInt ≤ 8 := hI.1 41 _ _ rfl
  generalize H1 = H at hP hS ⊢
  have hk := hk.tr hw_r20926.2.1
  have hd := hw_r20926.2.2
  refine lv_aload_n hx hb dX12_either_4 rfl (lv_at hl 0 rfl) ?_
  have t20934 : 0 ≤ (v 30).toInt ∧ (v 30).toInt ≤ 120 := by have h9 := hI.1 30 _ _ rfl; rw [show v20927 30 = v 30 from hf20929 30 (by decide)] at h9; exact h9
  have t20935 : 0 ≤ (v20927 39).toInt ∧ (v20927 39).toInt ≤ 120 := hI.1 39 _ _ rfl
  refine va_calli (va_runV (As := []) (rest := []) ⟨hx, hb, hml, hown, hwd⟩ (c_X12_look l dC dI g c adK adV v20927 F20928 rc H.size  hg hI ) (cwV 0 hwd (gV wk_1017 wk_1014 wk_1015 wk_1016 wk_5) rfl rfl rfl (by decide +kernel) ⟨Nat.le_of_ble_eq_true rfl, Nat.le_of_ble_eq_true rfl⟩) ⟨PM.blind, va_recv hK hP (ci := 12) (q0 := 0) rfl rfl, fun U hU hW => ⟨rfl, PM.at hK hE hP hS hU hW⟩⟩ rfl rfl hl.1 rfl (lv_room (Nat.le_of_ble_eq_true rfl)) dX12_either_5 ⟨Nat.le_of_ble_eq_true rfl, Nat.le_of_ble_eq_true rfl⟩) hS (fun q _ h => (freeM hS) q h) (freeM hS) (fun r20936 u t H1 locs ht hvm hw hB hz1 hk1 hS => ?_)
  unfold BM at hB
  rw [ht] at hB
  have hP : va_P (dC, dI) classes (wM g c v20927 F20928 rc) H1 := hB
  have hw : r20936.toInt = lkM (v20927 39) (v20927 30) (F20928 24) ∧ ((v20927 39).toInt < (v20927 30).toInt ∨ r20936.toInt = -1) := hw
  rw [show v20927 30 = v 30 from hf20929 30 (by decide)] at hw
  rw [hF 24 (by decide)] at hw
  have hw_r20936 := hw
  generalize H1 = H at hP hS ⊢
  refine lv_istore_n (lv' := [(1, .int r20936), (0, .ref (g 0))]) hx hb dX12_either_8 rfl hl (by decide) rfl (fun ls hl => ?_)
  refine lv_aload_n hx hb dX12_either_9 rfl (lv_at hl 1 rfl) ?_
  refine va_get (D := (dC, dI)) (ci := 12) (v := .int (v20927 40)) (C := RX12) (T := TX12) (N := 63) hx hb hwd inA_X12 hown hK hP 0 rfl rfl 40 (by decide) (hwd _ wk_1005) (fun _ h9 => h9) rfl dX12_either_10 ?_
  refine lv_if_ge (tgt := 54) hx hb dX12_either_13 (by decide) (fun c20937 => ?_) (fun c20937 => ?_)
  · skip
    have t20938 := cv_le (a := 0) (by decide) (b := (v20927 40).toInt) rfl c20937
    refine lv_aload_n hx hb dX12_either_54 rfl (lv_at hl 1 rfl) ?_
    refine va_get (D := (dC, dI)) (ci := 12) (v := .int (v20927 40)) (C := RX12) (T := TX12) (N := 63) hx hb hwd inA_X12 hown hK hP 0 rfl rfl 40 (by decide) (hwd _ wk_1005) (fun _ h9 => h9) rfl dX12_either_55 ?_
    refine lv_if_ge (tgt := 70) hx hb dX12_either_58 (by decide) (fun c20939 => ?_) (fun c20939 => ?_)
    · skip
      have t20940 := cv_le (a := 0) (by decide) (b := (v20927 40).toInt) rfl c20939
      have hP9 : va_P (dC, dI) classes (wM g c v20927 F20928 rc) H := hP
      exact W.vret hx hb hr (fun t ht hW => ⟨⟨(v20927, F20928, rc), rfl, ⟨hI, rfl, (frC (by decide) hf20929 (fun _ _ => rfl)), hF, (by show ((v 39).toInt ≤ (v20927 39).toInt ∧ (v20927 39).toInt ≤ (v 30).toInt ∧ (v 38).toInt ≤ (v20927 38).toInt ∧ (v20927 38).toInt - (v 38).toInt ≤ (v20927 39).toInt - (v 39).toInt ∧ (v 41).toInt ≤ (v20927 41).toInt ∧ ((v20927 40).toInt < 0 → (v20927 41).toInt = (v 41).toInt)) ∧ keepL (v 37) (F 28) (F 29) (F20928 28) (F20928 29) ∧ ((v20927 40).toInt < 0 → dp (F20928 28) (F20928 29) (bI (v 37)) (v20927 38).toInt.toNat = some (d + 1)); exact ⟨by omega, hk, fun hf => (hd (by omega)).trans (congrArg some (by omega))⟩)⟩, (by show va_P _ _ _ t.heap; rw [ht]; exact hP9)⟩, hS.F ht⟩) hS.2.2 dX12_either_70
    · skip
      have t20941 := cv_nle (a := 0) (by decide) (b := (v20927 40).toInt) rfl c20939
      refine lv_aload_n hx hb dX12_either_61 rfl (lv_at hl 1 rfl) ?_
      have t20942 : 0 ≤ (v 30).toInt ∧ (v 30).toInt ≤ 120 := by have h9 := hI.1 30 _ _ rfl; rw [show v20927 30 = v 30 from hf20929 30 (by decide)] at h9; exact h9
      have t20943 : 0 ≤ (v20927 39).toInt ∧ (v20927 39).toInt ≤ 120 := hI.1 39 _ _ rfl
      refine va_calli (va_runV (As := []) (rest := []) ⟨hx, hb, hml, hown, hwd⟩ (c_X12_look l dC dI g c adK adV v20927 F20928 rc H.size  hg hI ) (cwV 0 hwd (gV wk_1017 wk_1014 wk_1015 wk_1016 wk_5) rfl rfl rfl (by decide +kernel) ⟨Nat.le_of_ble_eq_true rfl, Nat.le_of_ble_eq_true rfl⟩) ⟨PM.blind, va_recv hK hP (ci := 12) (q0 := 0) rfl rfl, fun U hU hW => ⟨rfl, PM.at hK hE hP hS hU hW⟩⟩ rfl rfl hl.1 rfl (lv_room (Nat.le_of_ble_eq_true rfl)) dX12_either_62 ⟨Nat.le_of_ble_eq_true rfl, Nat.le_of_ble_eq_true rfl⟩) hS (fun q _ h => (freeM hS) q h) (freeM hS) (fun r20944 u t H1 locs ht hvm hw hB hz1 hk1 hS => ?_)
      unfold BM at hB
      rw [ht] at hB
      have hP : va_P (dC, dI) classes (wM g c v20927 F20928 rc) H1 := hB
      have hw : r20944.toInt = lkM (v20927 39) (v20927 30) (F20928 24) ∧ ((v20927 39).toInt < (v20927 30).toInt ∨ r20944.toInt = -1) := hw
      rw [show v20927 30 = v 30 from hf20929 30 (by decide)] at hw
      rw [hF 24 (by decide)] at hw
      have hw_r20944 := hw
      generalize H1 = H at hP hS ⊢
      refine lv_bipush (v := 63) hx hb dX12_either_65 (by decide) ?_
      refine lv_icmp_eq (tgt := 71) hx hb dX12_either_67 (by decide) (fun c20945 => ?_) (fun c20945 => ?_)
      · skip
        have t20946 := cv_eq (a := r20944.toInt) rfl (b := 63) (by decide) c20945
        refine lv_aload_n hx hb dX12_either_71 rfl (lv_at hl 1 rfl) ?_
        have t20947 : 0 ≤ (v20927 39).toInt ∧ (v20927 39).toInt ≤ 120 := hI.1 39 _ _ rfl
        have t20948 : 0 ≤ (v20927 41).toInt ∧ (v20927 41).toInt ≤ 8 := hI.1 41 _ _ rfl
        refine va_calli (va_runV (As := []) (rest := []) ⟨hx, hb, hml, hown, hwd⟩ (c_X12_opens l dC dI g c adK adV v20927 F20928 rc H.size  hg hI (by have h9 : v20927 39 = v20927 39 := rfl; (try rw [h9]); clear h9; have h9 : v20927 30 = v 30 := hf20929 30 (by decide); (try rw [h9]); clear h9; omega)) (cwV 0 hwd (gV wk_1025 wk_1022 wk_1023 wk_1024 wk_5) rfl rfl rfl (by decide +kernel) ⟨Nat.le_of_ble_eq_true rfl, Nat.le_of_ble_eq_true rfl⟩) ⟨PM.blind, va_recv hK hP (ci := 12) (q0 := 0) rfl rfl, fun U hU hW => ⟨rfl, PM.at hK hE hP hS hU hW⟩⟩ rfl rfl hl.1 rfl (lv_room (Nat.le_of_ble_eq_true rfl)) dX12_either_72 ⟨Nat.le_of_ble_eq_true rfl, Nat.le_of_ble_eq_true rfl⟩) hS (fun q _ h => (freeM hS) q h) (freeM hS) (fun r20949 u t H1 locs ht hvm hw hB hz1 hk1 hS => ?_)
        unfold BM at hB
        rw [ht] at hB
        obtain ⟨v20950, F20951, rc9⟩ := u
        obtain ⟨hI, hrc, hf20952, hG20953, hw⟩ := hw
        dsimp only at hI hrc hB hf20952 hG20953 hw
        have hF := frCF (by decide) hG20953 hF
        rw [hrc] at hB
        have hP : va_P (dC, dI) classes (wM g c v20950 F20951 rc) H1 := hB
        have hw : (r20949.toInt = 1 ∧ (v20927 41).toInt < 8 ∧ (v20950 41).toInt = (v20927 41).toInt + 1 ∧ (v20950 39).toInt = (v20927 39).toInt + 1 ∧ (v20950 40).toInt = (v20927 40).toInt) ∨ (r20949.toInt = 0 ∧ (v20927 41).toInt = 8 ∧ 0 ≤ (v20950 40).toInt ∧ (v20950 41).toInt = (v20927 41).toInt ∧ (v20950 39).toInt = (v20927 39).toInt) := hw
        have hw_r20949 := hw
        have t20954 : 0 ≤ (v20950 39).toInt ∧ (v20950 39).toInt ≤ 120 := hI.1 39 _ _ rfl
        have t20955 : 0 ≤ (v20950 41).toInt ∧ (v20950 41).toInt ≤ 8 := hI.1 41 _ _ rfl
        generalize H1 = H at hP hS ⊢
        have hk : keepL (v 37) (F 28) (F 29) (F20951 28) (F20951 29) := by rw [hG20953 28 (by decide), hG20953 29 (by decide)]; exact hk
        have hd : (v20950 40).toInt < 0 → dp (F20951 28) (F20951 29) (bI (v 37)) (v20927 38).toInt.toNat = some (d + 1) := fun hf => (by rw [hG20953 28 (by decide), hG20953 29 (by decide)]; exact hd (by omega))
        refine lv_if_ne (tgt := 79) hx hb dX12_either_75 (by decide) (fun c20956 => ?_) (fun c20956 => ?_)
        · skip
          have t20957 := cv_ne (a := r20949.toInt) rfl (b := 0) (by decide) c20956
          refine lv_aload_n hx hb dX12_either_79 rfl (lv_at hl 1 rfl) ?_
          have t20958 : 0 ≤ (v 30).toInt ∧ (v 30).toInt ≤ 120 := by have h9 := hI.1 30 _ _ rfl; rw [show v20950 30 = v 30 from (hf20952 30 (by decide)).trans (hf20929 30 (by decide))] at h9; exact h9
          have t20959 : 0 ≤ (v 37).toInt ∧ (v 37).toInt ≤ 9 := by have h9 := hI.1 37 _ _ rfl; rw [show v20950 37 = v 37 from (hf20952 37 (by decide)).trans (hf20929 37 (by decide))] at h9; exact h9
          have t20960 : 0 ≤ (v20927 38).toInt ∧ (v20927 38).toInt ≤ 120 := by have h9 := hI.1 38 _ _ rfl; rw [show v20950 38 = v20927 38 from hf20952 38 (by decide)] at h9; exact h9
          have t20961 : 0 ≤ (v20950 39).toInt ∧ (v20950 39).toInt ≤ 120 := hI.1 39 _ _ rfl
          have t20962 : 0 ≤ (v20950 41).toInt ∧ (v20950 41).toInt ≤ 8 := hI.1 41 _ _ rfl
          refine va_callv (va_runV (As := []) (rest := []) ⟨hx, hb, hml, hown, hwd⟩ (c_X12_either_3 l dC dI g c adK adV v20950 F20951 rc H.size  (d + 1) hg hI (by have h9 : v20950 38 = v20927 38 := hf20952 38 (by decide); (try rw [h9]); clear h9; have h9 : v20950 39 = v20950 39 := rfl; (try rw [h9]); clear h9; have h9 : v20950 30 = v 30 := (hf20952 30 (by decide)).trans (hf20929 30 (by decide)); (try rw [h9]); clear h9; have h9 : v20950 40 = v20950 40 := rfl; (try rw [h9]); clear h9; have h9 : v20950 41 = v20950 41 := rfl; (try rw [h9]); clear h9; omega) (by have h9 : v20950 37 = (v 37) := (hf20952 37 (by decide)).trans (hf20929 37 (by decide)); have h8 : v20950 38 = (v20927 38) := hf20952 38 (by decide); (try rw [h9]); (try rw [h8]); exact hd (by omega))) (cwV 0 hwd (gV wk_1010 wk_1007 wk_1008 wk_1009 wk_5) rfl rfl rfl (by decide +kernel) ⟨Nat.le_of_ble_eq_true rfl, Nat.le_of_ble_eq_true rfl⟩) ⟨PM.blind, va_recv hK hP (ci := 12) (q0 := 0) rfl rfl, fun U hU hW => ⟨rfl, PM.at hK hE hP hS hU hW⟩⟩ rfl rfl hl.1 rfl (lv_room (Nat.le_of_ble_eq_true rfl)) dX12_either_80 ⟨Nat.le_of_ble_eq_true rfl, Nat.le_of_ble_eq_true rfl⟩) hS (fun q _ h => (freeM hS) q h) (freeM hS) (fun u t H1 locs ht hvm hw hB hz1 hk1 hS => ?_)
          unfold BM at hB
          rw [ht] at hB
          obtain ⟨v20964, F20965, rc9⟩ := u
          obtain ⟨hI, hrc, hf20966, hG20967, hw⟩ := hw
          dsimp only at hI hrc hB hf20966 hG20967 hw
          have hF := frCF (by decide) hG20967 hF
          rw [hrc] at hB
          have hP : va_P (dC, dI) classes (wM g c v20964 F20965 rc) H1 := hB
          have hw : ((v20950 39).toInt ≤ (v20964 39).toInt ∧ (v20964 39).toInt ≤ (v20950 30).toInt ∧ (v20950 38).toInt ≤ (v20964 38).toInt ∧ (v20964 38).toInt - (v20950 38).toInt ≤ (v20964 39).toInt - (v20950 39).toInt ∧ (v20950 41).toInt ≤ (v20964 41).toInt ∧ ((v20964 40).toInt < 0 → (v20964 41).toInt = (v20950 41).toInt)) ∧ keepL (v20950 37) (F20951 28) (F20951 29) (F20965 28) (F20965 29) ∧ ((v20964 40).toInt < 0 → dp (F20965 28) (F20965 29) (bI (v20950 37)) (v20964 38).toInt.toNat = some ((d + 1) + 1)) := hw
          rw [show v20950 30 = v 30 from (hf20952 30 (by decide)).trans (hf20929 30 (by decide))] at hw
          rw [show v20950 38 = v20927 38 from hf20952 38 (by decide)] at hw
          rw [show v20950 37 = v 37 from (hf20952 37 (by decide)).trans (hf20929 37 (by decide))] at hw
          have hw_r20963 := hw
          have t20968 : 0 ≤ (v20964 38).toInt ∧ (v20964 38).toInt ≤ 120 := hI.1 38 _ _ rfl
          have t20969 : 0 ≤ (v20964 39).toInt ∧ (v20964 39).toInt ≤ 120 := hI.1 39 _ _ rfl
          have t20970 : 0 ≤ (v20964 41).toInt ∧ (v20964 41).toInt ≤ 8 := hI.1 41 _ _ rfl
          generalize H1 = H at hP hS ⊢
          have hk := hk.tr hw_r20963.2.1
          have hd := hw_r20963.2.2
          refine lv_aload_n hx hb dX12_either_83 rfl (lv_at hl 1 rfl) ?_
          refine va_get (D := (dC, dI)) (ci := 12) (v := .int (v20964 40)) (C := RX12) (T := TX12) (N := 63) hx hb hwd inA_X12 hown hK hP 0 rfl rfl 40 (by decide) (hwd _ wk_1005) (fun _ h9 => h9) rfl dX12_either_84 ?_
          refine lv_if_lt (tgt := 91) hx hb dX12_either_87 (by decide) (fun c20971 => ?_) (fun c20971 => ?_)
          · skip
            have t20972 := cv_lt (a := (v20964 40).toInt) rfl (b := 0) (by decide) c20971
            refine lv_aload_n hx hb dX12_either_91 rfl (lv_at hl 1 rfl) ?_
            have t20973 : 0 ≤ (v 30).toInt ∧ (v 30).toInt ≤ 120 := by have h9 := hI.1 30 _ _ rfl; rw [show v20964 30 = v 30 from (hf20966 30 (by decide)).trans ((hf20952 30 (by decide)).trans (hf20929 30 (by decide)))] at h9; exact h9
            have t20974 : 0 ≤ (v20964 39).toInt ∧ (v20964 39).toInt ≤ 120 := hI.1 39 _ _ rfl
            refine va_calli (va_runV (As := []) (rest := []) ⟨hx, hb, hml, hown, hwd⟩ (c_X12_look l dC dI g c adK adV v20964 F20965 rc H.size  hg hI ) (cwV 0 hwd (gV wk_1017 wk_1014 wk_1015 wk_1016 wk_5) rfl rfl rfl (by decide +kernel) ⟨Nat.le_of_ble_eq_true rfl, Nat.le_of_ble_eq_true rfl⟩) ⟨PM.blind, va_recv hK hP (ci := 12) (q0 := 0) rfl rfl, fun U hU hW => ⟨rfl, PM.at hK hE hP hS hU hW⟩⟩ rfl rfl hl.1 rfl (lv_room (Nat.le_of_ble_eq_true rfl)) dX12_either_92 ⟨Nat.le_of_ble_eq_true rfl, Nat.le_of_ble_eq_true rfl⟩) hS (fun q _ h => (freeM hS) q h) (freeM hS) (fun r20975 u t H1 locs ht hvm hw hB hz1 hk1 hS => ?_)
            unfold BM at hB
            rw [ht] at hB
            have hP : va_P (dC, dI) classes (wM g c v20964 F20965 rc) H1 := hB
            have hw : r20975.toInt = lkM (v20964 39) (v20964 30) (F20965 24) ∧ ((v20964 39).toInt < (v20964 30).toInt ∨ r20975.toInt = -1) := hw
            rw [show v20964 30 = v 30 from (hf20966 30 (by decide)).trans ((hf20952 30 (by decide)).trans (hf20929 30 (by decide)))] at hw
            rw [hF 24 (by decide)] at hw
            have hw_r20975 := hw
            generalize H1 = H at hP hS ⊢
            refine lv_bipush (v := 58) hx hb dX12_either_95 (by decide) ?_
            refine lv_icmp_eq (tgt := 105) hx hb dX12_either_97 (by decide) (fun c20976 => ?_) (fun c20976 => ?_)
            · skip
              have t20977 := cv_eq (a := r20975.toInt) rfl (b := 58) (by decide) c20976
              refine lv_aload_n hx hb dX12_either_105 rfl (lv_at hl 1 rfl) ?_
              refine lv_dup hx hb dX12_either_106 rfl ?_
              refine va_get (D := (dC, dI)) (ci := 12) (v := .int (v20964 39)) (C := RX12) (T := TX12) (N := 63) hx hb hwd inA_X12 hown hK hP 0 rfl rfl 39 (by decide) (hwd _ wk_1004) (fun _ h9 => h9) rfl dX12_either_107 ?_
              have t20978 : 0 ≤ (v20964 39).toInt ∧ (v20964 39).toInt ≤ 120 := hI.1 39 _ _ rfl
              refine lv_iconst (v := 1) hx hb dX12_either_110 (by decide) ?_
              refine lv_iadd hx hb dX12_either_111 ?_
              refine lv_topi (fun z20979 e20980 => ?_)
              try (have t20981 := tadd e20980 (a := (v20964 39).toInt) rfl (b := 1) (by decide) (by omega))
              refine va_put (D := (dC, dI)) (ci := 12) (v := .int z20979) (ty := .int) (C := RX12) (T := TX12) (N := 63) (fs := fsM_0 g v20964 rc) hx hb hwd inA_X12 tyX12 tyX12_ok nmX12 hown hK hP (DM hg) hS 0 rfl rfl 39 (by decide) (hwd _ wk_1004) (fun _ h9 => h9) rfl (by decide +kernel) rfl rfl (Nat.le_of_ble_eq_true rfl) dX12_either_112 (fun H locs hP _ hS => ?_)
              have hP := va_P_eq (pM_39 g c _ _ _ _) hP
              have hI := IM.put hI 39 z20979 rfl (by omega)
              refine lv_aload_n hx hb dX12_either_115 rfl (lv_at hl 1 rfl) ?_
              have t20982 : 0 ≤ (v 30).toInt ∧ (v 30).toInt ≤ 120 := by have h9 := hI.1 30 _ _ rfl; rw [show (va_up v20964 39 z20979) 30 = v 30 from (hf20966 30 (by decide)).trans ((hf20952 30 (by decide)).trans (hf20929 30 (by decide)))] at h9; exact h9
              have t20983 : 0 ≤ (v 37).toInt ∧ (v 37).toInt ≤ 9 := by have h9 := hI.1 37 _ _ rfl; rw [show (va_up v20964 39 z20979) 37 = v 37 from (hf20966 37 (by decide)).trans ((hf20952 37 (by decide)).trans (hf20929 37 (by decide)))] at h9; exact h9
              have t20984 : 0 ≤ (v20964 38).toInt ∧ (v20964 38).toInt ≤ 120 := hI.1 38 _ _ rfl
              have t20985 : 0 ≤ z20979.toInt ∧ z20979.toInt ≤ 120 := hI.1 39 _ _ rfl
              have t20986 : 0 ≤ (v20964 41).toInt ∧ (v20964 41).toInt ≤ 8 := hI.1 41 _ _ rfl
              refine va_callv (va_runV (As := []) (rest := []) ⟨hx, hb, hml, hown, hwd⟩ (c_X12_either_3 l dC dI g c adK adV (va_up v20964 39 z20979) F20965 rc H.size  ((d + 1) + 1) hg hI (by have h9 : (va_up v20964 39 z20979) 38 = v20964 38 := rfl; (try rw [h9]); clear h9; have h9 : (va_up v20964 39 z20979) 39 = z20979 := rfl; (try rw [h9]); clear h9; have h9 : (va_up v20964 39 z20979) 30 = v 30 := (hf20966 30 (by decide)).trans ((hf20952 30 (by decide)).trans (hf20929 30 (by decide))); (try rw [h9]); clear h9; have h9 : (va_up v20964 39 z20979) 40 = v20964 40 := rfl; (try rw [h9]); clear h9; have h9 : (va_up v20964 39 z20979) 41 = v20964 41 := rfl; (try rw [h9]); clear h9; omega) (by have h9 : (va_up v20964 39 z20979) 37 = (v 37) := (hf20966 37 (by decide)).trans ((hf20952 37 (by decide)).trans (hf20929 37 (by decide))); have h8 : (va_up v20964 39 z20979) 38 = (v20964 38) := rfl; (try rw [h9]); (try rw [h8]); exact hd (by omega))) (cwV 0 hwd (gV wk_1010 wk_1007 wk_1008 wk_1009 wk_5) rfl rfl rfl (by decide +kernel) ⟨Nat.le_of_ble_eq_true rfl, Nat.le_of_ble_eq_true rfl⟩) ⟨PM.blind, va_recv hK hP (ci := 12) (q0 := 0) rfl rfl, fun U hU hW => ⟨rfl, PM.at hK hE hP hS hU hW⟩⟩ rfl rfl hl.1 rfl (lv_room (Nat.le_of_ble_eq_true rfl)) dX12_either_116 ⟨Nat.le_of_ble_eq_true rfl, Nat.le_of_ble_eq_true rfl⟩) hS (fun q _ h => (freeM hS) q h) (freeM hS) (fun u t H1 locs ht hvm hw hB hz1 hk1 hS => ?_)
              unfold BM at hB
              rw [ht] at hB
              obtain ⟨v20988, F20989, rc9⟩ := u
              obtain ⟨hI, hrc, hf20990, hG20991, hw⟩ := hw
              dsimp only at hI hrc hB hf20990 hG20991 hw
              have hF := frCF (by decide) hG20991 hF
              rw [hrc] at hB
              have hP : va_P (dC, dI) classes (wM g c v20988 F20989 rc) H1 := hB
              have hw : (z20979.toInt ≤ (v20988 39).toInt ∧ (v20988 39).toInt ≤ ((va_up v20964 39 z20979) 30).toInt ∧ (v20964 38).toInt ≤ (v20988 38).toInt ∧ (v20988 38).toInt - (v20964 38).toInt ≤ (v20988 39).toInt - z20979.toInt ∧ (v20964 41).toInt ≤ (v20988 41).toInt ∧ ((v20988 40).toInt < 0 → (v20988 41).toInt = (v20964 41).toInt)) ∧ keepL ((va_up v20964 39 z20979) 37) (F20965 28) (F20965 29) (F20989 28) (F20989 29) ∧ ((v20988 40).toInt < 0 → dp (F20989 28) (F20989 29) (bI ((va_up v20964 39 z20979) 37)) (v20988 38).toInt.toNat = some (((d + 1) + 1) + 1)) := hw
              rw [show (va_up v20964 39 z20979) 30 = v 30 from (hf20966 30 (by decide)).trans ((hf20952 30 (by decide)).trans (hf20929 30 (by decide)))] at hw
              rw [show (va_up v20964 39 z20979) 37 = v 37 from (hf20966 37 (by decide)).trans ((hf20952 37 (by decide)).trans (hf20929 37 (by decide)))] at hw
              have hw_r20987 := hw
              have t20992 : 0 ≤ (v20988 38).toInt ∧ (v20988 38).toInt ≤ 120 := hI.1 38 _ _ rfl
              have t20993 : 0 ≤ (v20988 39).toInt ∧ (v20988 39).toInt ≤ 120 := hI.1 39 _ _ rfl
              have t20994 : 0 ≤ (v20988 41).toInt ∧ (v20988 41).toInt ≤ 8 := hI.1 41 _ _ rfl
              generalize H1 = H at hP hS ⊢
              have hk := hk.tr hw_r20987.2.1
              have hd := hw_r20987.2.2
              refine lv_aload_n hx hb dX12_either_119 rfl (lv_at hl 1 rfl) ?_
              refine lv_iconst (v := 4) hx hb dX12_either_120 (by decide) ?_
              refine lv_iconst (v := 0) hx hb dX12_either_121 (by decide) ?_
              have t20995 : 0 ≤ (v 37).toInt ∧ (v 37).toInt ≤ 9 := by have h9 := hI.1 37 _ _ rfl; rw [show v20988 37 = v 37 from (hf20990 37 (by decide)).trans ((hf20966 37 (by decide)).trans ((hf20952 37 (by decide)).trans (hf20929 37 (by decide))))] at h9; exact h9
              have t20996 : 0 ≤ (v20988 38).toInt ∧ (v20988 38).toInt ≤ 120 := hI.1 38 _ _ rfl
              refine va_callv (va_runV (As := [.int 4, .int 0]) (rest := []) ⟨hx, hb, hml, hown, hwd⟩ (c_X12_lay l dC dI g c adK adV v20988 F20989 rc H.size 4 0 hg hI (by have h9 : v20988 38 = v20988 38 := rfl; rw [h9]; omega)) (cwV 2 hwd (gV wk_1021 wk_1018 wk_1019 wk_1020 wk_5) rfl rfl rfl (by decide +kernel) ⟨Nat.le_of_ble_eq_true rfl, Nat.le_of_ble_eq_true rfl⟩) ⟨PM.blind, va_recv hK hP (ci := 12) (q0 := 0) rfl rfl, fun U hU hW => ⟨rfl, PM.at hK hE hP hS hU hW⟩⟩ rfl rfl hl.1 rfl (lv_room (Nat.le_of_ble_eq_true rfl)) dX12_either_122 ⟨Nat.le_of_ble_eq_true rfl, Nat.le_of_ble_eq_true rfl⟩) hS (fun q _ h => (freeM hS) q h) (freeM hS) (fun u t H1 locs ht hvm hw hB hz1 hk1 hS => ?_)
              unfold BM at hB
              rw [ht] at hB
              obtain ⟨v20998, F20999, rc9⟩ := u
              obtain ⟨hI, hrc, hf21000, hG21001, hw⟩ := hw
              dsimp only at hI hrc hB hf21000 hG21001 hw
              have hF := frCF (by decide) hG21001 hF
              rw [hrc] at hB
              have hP : va_P (dC, dI) classes (wM g c v20998 F20999 rc) H1 := hB
              have hw : (v20998 38).toInt = (v20988 38).toInt + 1 ∧ keepL (v20988 37) (F20989 28) (F20989 29) (F20999 28) (F20999 29) ∧ dp (F20999 28) (F20999 29) (bI (v20988 37)) ((v20988 38).toInt.toNat + 1) = dpS (dp (F20989 28) (F20989 29) (bI (v20988 37)) (v20988 38).toInt.toNat) (4 : Int32) (0 : Int32) := hw
              rw [show v20988 37 = v 37 from (hf20990 37 (by decide)).trans ((hf20966 37 (by decide)).trans ((hf20952 37 (by decide)).trans (hf20929 37 (by decide))))] at hw
              have hw_r20997 := hw
              have t21002 : 0 ≤ (v20998 38).toInt ∧ (v20998 38).toInt ≤ 120 := hI.1 38 _ _ rfl
              have k21003 : (4 : Int32).toInt = 4 := by decide
              have k21004 : (0 : Int32).toInt = 0 := by decide
              generalize H1 = H at hP hS ⊢
              have hk := hk.tr hw_r20997.2.1
              have hd : (v20988 40).toInt < 0 → dp (F20999 28) (F20999 29) (bI (v 37)) (v20998 38).toInt.toNat = some ((((d + 1) + 1) + 1) - 2) := fun hf => (by have e9 : (v20998 38).toInt.toNat = (v20988 38).toInt.toNat + 1 := (by omega); rw [e9, hw_r20997.2.2, hd hf]; exact dpS_4 (by decide) (by omega))
              refine lv_aload_n hx hb dX12_either_125 rfl (lv_at hl 1 rfl) ?_
              refine lv_dup hx hb dX12_either_126 rfl ?_
              refine va_get (D := (dC, dI)) (ci := 12) (v := .int (v20998 41)) (C := RX12) (T := TX12) (N := 63) hx hb hwd inA_X12 hown hK hP 0 rfl rfl 41 (by decide) (hwd _ wk_1006) (fun _ h9 => h9) rfl dX12_either_127 ?_
              refine my_top (v := v20988 41) (hf21000 41 (by decide)) ?_
              have t21005 : 0 ≤ (v20988 41).toInt ∧ (v20988 41).toInt ≤ 8 := by have h9 := hI.1 41 _ _ rfl; rw [show v20998 41 = v20988 41 from hf21000 41 (by decide)] at h9; exact h9
              refine lv_iconst (v := 1) hx hb dX12_either_130 (by decide) ?_
              refine lv_isub hx hb dX12_either_131 ?_
              refine lv_topi (fun z21006 e21007 => ?_)
              try (have t21008 := tsub e21007 (a := (v20988 41).toInt) rfl (b := 1) (by decide) (by omega))
              refine va_put (D := (dC, dI)) (ci := 12) (v := .int z21006) (ty := .int) (C := RX12) (T := TX12) (N := 63) (fs := fsM_0 g v20998 rc) hx hb hwd inA_X12 tyX12 tyX12_ok nmX12 hown hK hP (DM hg) hS 0 rfl rfl 41 (by decide) (hwd _ wk_1006) (fun _ h9 => h9) rfl (by decide +kernel) rfl rfl (Nat.le_of_ble_eq_true rfl) dX12_either_132 (fun H locs hP _ hS => ?_)
              have hP := va_P_eq (pM_41 g c _ _ _ _) hP
              have hI := IM.put hI 41 z21006 rfl (by omega)
              have hP9 : va_P (dC, dI) classes (wM g c (va_up v20998 41 z21006) F20999 rc) H := hP
              exact W.vret hx hb hr (fun t ht hW => ⟨⟨((va_up v20998 41 z21006), F20999, rc), rfl, ⟨hI, rfl, (frU (by decide) (frC (by decide) hf21000 (frC (by decide) hf20990 (frU (by decide) (frC (by decide) hf20966 (frC (by decide) hf20952 (frC (by decide) hf20929 (fun _ _ => rfl)))))))), hF, (by show ((v 39).toInt ≤ ((va_up v20998 41 z21006) 39).toInt ∧ ((va_up v20998 41 z21006) 39).toInt ≤ (v 30).toInt ∧ (v 38).toInt ≤ (v20998 38).toInt ∧ (v20998 38).toInt - (v 38).toInt ≤ ((va_up v20998 41 z21006) 39).toInt - (v 39).toInt ∧ (v 41).toInt ≤ z21006.toInt ∧ (((va_up v20998 41 z21006) 40).toInt < 0 → z21006.toInt = (v 41).toInt)) ∧ keepL (v 37) (F 28) (F 29) (F20999 28) (F20999 29) ∧ (((va_up v20998 41 z21006) 40).toInt < 0 → dp (F20999 28) (F20999 29) (bI (v 37)) (v20998 38).toInt.toNat = some (d + 1)); rw [show (va_up v20998 41 z21006) 39 = v20988 39 from hf21000 39 (by decide)]; rw [show (va_up v20998 41 z21006) 40 = v20988 40 from hf21000 40 (by decide)]; exact ⟨by omega, hk, fun hf => (hd (by omega)).trans (congrArg some (by omega))⟩)⟩, (by show va_P _ _ _ t.heap; rw [ht]; exact hP9)⟩, hS.F ht⟩) hS.2.2 dX12_either_135
            · skip
              have t21009 := cv_ne (a := r20975.toInt) rfl (b := 58) (by decide) c20976
              refine lv_aload_n hx hb dX12_either_100 rfl (lv_at hl 1 rfl) ?_
              refine va_callv (va_runV (As := []) (rest := []) ⟨hx, hb, hml, hown, hwd⟩ (c_X12_wrong l dC dI g c adK adV v20964 F20965 rc H.size  hg hI ) (cwV 0 hwd (gV wk_1029 wk_1026 wk_1027 wk_1028 wk_5) rfl rfl rfl (by decide +kernel) ⟨Nat.le_of_ble_eq_true rfl, Nat.le_of_ble_eq_true rfl⟩) ⟨PM.blind, va_recv hK hP (ci := 12) (q0 := 0) rfl rfl, fun U hU hW => ⟨rfl, PM.at hK hE hP hS hU hW⟩⟩ rfl rfl hl.1 rfl (lv_room (Nat.le_of_ble_eq_true rfl)) dX12_either_101 ⟨Nat.le_of_ble_eq_true rfl, Nat.le_of_ble_eq_true rfl⟩) hS (fun q _ h => (freeM hS) q h) (freeM hS) (fun u t H1 locs ht hvm hw hB hz1 hk1 hS => ?_)
              unfold BM at hB
              rw [ht] at hB
              obtain ⟨v21011, F21012, rc9⟩ := u
              obtain ⟨hI, hrc, hf21013, hG21014, hw⟩ := hw
              dsimp only at hI hrc hB hf21013 hG21014 hw
              have hF := frCF (by decide) hG21014 hF
              rw [hrc] at hB
              have hP : va_P (dC, dI) classes (wM g c v21011 F21012 rc) H1 := hB
              have hw : 0 ≤ (v21011 40).toInt := hw
              have hw_r21010 := hw
              generalize H1 = H at hP hS ⊢
              have hk : keepL (v 37) (F 28) (F 29) (F21012 28) (F21012 29) := by rw [hG21014 28 (by decide), hG21014 29 (by decide)]; exact hk
              have hd : (v21011 40).toInt < 0 → dp (F21012 28) (F21012 29) (bI (v 37)) (v20964 38).toInt.toNat = some ((d + 1) + 1) := fun hf => (by rw [hG21014 28 (by decide), hG21014 29 (by decide)]; exact hd (by omega))
              have hP9 : va_P (dC, dI) classes (wM g c v21011 F21012 rc) H := hP
              exact W.vret hx hb hr (fun t ht hW => ⟨⟨(v21011, F21012, rc), rfl, ⟨hI, rfl, (frC (by decide) hf21013 (frC (by decide) hf20966 (frC (by decide) hf20952 (frC (by decide) hf20929 (fun _ _ => rfl))))), hF, (by show ((v 39).toInt ≤ (v21011 39).toInt ∧ (v21011 39).toInt ≤ (v 30).toInt ∧ (v 38).toInt ≤ (v21011 38).toInt ∧ (v21011 38).toInt - (v 38).toInt ≤ (v21011 39).toInt - (v 39).toInt ∧ (v 41).toInt ≤ (v21011 41).toInt ∧ ((v21011 40).toInt < 0 → (v21011 41).toInt = (v 41).toInt)) ∧ keepL (v 37) (F 28) (F 29) (F21012 28) (F21012 29) ∧ ((v21011 40).toInt < 0 → dp (F21012 28) (F21012 29) (bI (v 37)) (v21011 38).toInt.toNat = some (d + 1)); rw [show v21011 39 = v20964 39 from hf21013 39 (by decide)]; rw [show v21011 38 = v20964 38 from hf21013 38 (by decide)]; rw [show v21011 41 = v20964 41 from hf21013 41 (by decide)]; exact ⟨by omega, hk, fun hf => (hd (by omega)).trans (congrArg some (by omega))⟩)⟩, (by show va_P _ _ _ t.heap; rw [ht]; exact hP9)⟩, hS.F ht⟩) hS.2.2 dX12_either_104
          · skip
            have t21015 := cv_nlt (a := (v20964 40).toInt) rfl (b := 0) (by decide) c20971
            have hP9 : va_P (dC, dI) classes (wM g c v20964 F20965 rc) H := hP
            exact W.vret hx hb hr (fun t ht hW => ⟨⟨(v20964, F20965, rc), rfl, ⟨hI, rfl, (frC (by decide) hf20966 (frC (by decide) hf20952 (frC (by decide) hf20929 (fun _ _ => rfl)))), hF, (by show ((v 39).toInt ≤ (v20964 39).toInt ∧ (v20964 39).toInt ≤ (v 30).toInt ∧ (v 38).toInt ≤ (v20964 38).toInt ∧ (v20964 38).toInt - (v 38).toInt ≤ (v20964 39).toInt - (v 39).toInt ∧ (v 41).toInt ≤ (v20964 41).toInt ∧ ((v20964 40).toInt < 0 → (v20964 41).toInt = (v 41).toInt)) ∧ keepL (v 37) (F 28) (F 29) (F20965 28) (F20965 29) ∧ ((v20964 40).toInt < 0 → dp (F20965 28) (F20965 29) (bI (v 37)) (v20964 38).toInt.toNat = some (d + 1)); exact ⟨by omega, hk, fun hf => (hd (by omega)).trans (congrArg some (by omega))⟩)⟩, (by show va_P _ _ _ t.heap; rw [ht]; exact hP9)⟩, hS.F ht⟩) hS.2.2 dX12_either_90
        · skip
          have t21016 := cv_eq (a := r20949.toInt) rfl (b := 0) (by decide) c20956
          have hP9 : va_P (dC, dI) classes (wM g c v20950 F20951 rc) H := hP
          exact W.vret hx hb hr (fun t ht hW => ⟨⟨(v20950, F20951, rc), rfl, ⟨hI, rfl, (frC (by decide) hf20952 (frC (by decide) hf20929 (fun _ _ => rfl))), hF, (by show ((v 39).toInt ≤ (v20950 39).toInt ∧ (v20950 39).toInt ≤ (v 30).toInt ∧ (v 38).toInt ≤ (v20950 38).toInt ∧ (v20950 38).toInt - (v 38).toInt ≤ (v20950 39).toInt - (v 39).toInt ∧ (v 41).toInt ≤ (v20950 41).toInt ∧ ((v20950 40).toInt < 0 → (v20950 41).toInt = (v 41).toInt)) ∧ keepL (v 37) (F 28) (F 29) (F20951 28) (F20951 29) ∧ ((v20950 40).toInt < 0 → dp (F20951 28) (F20951 29) (bI (v 37)) (v20950 38).toInt.toNat = some (d + 1)); rw [show v20950 38 = v20927 38 from hf20952 38 (by decide)]; exact ⟨by omega, hk, fun hf => (hd (by omega)).trans (congrArg some (by omega))⟩)⟩, (by show va_P _ _ _ t.heap; rw [ht]; exact hP9)⟩, hS.F ht⟩) hS.2.2 dX12_either_78
      · skip
        have t21017 := cv_ne (a := r20944.toInt) rfl (b := 63) (by decide) c20945
        have hP9 : va_P (dC, dI) classes (wM g c v20927 F20928 rc) H := hP
        exact W.vret hx hb hr (fun t ht hW => ⟨⟨(v20927, F20928, rc), rfl, ⟨hI, rfl, (frC (by decide) hf20929 (fun _ _ => rfl)), hF, (by show ((v 39).toInt ≤ (v20927 39).toInt ∧ (v20927 39).toInt ≤ (v 30).toInt ∧ (v 38).toInt ≤ (v20927 38).toInt ∧ (v20927 38).toInt - (v 38).toInt ≤ (v20927 39).toInt - (v 39).toInt ∧ (v 41).toInt ≤ (v20927 41).toInt ∧ ((v20927 40).toInt < 0 → (v20927 41).toInt = (v 41).toInt)) ∧ keepL (v 37) (F 28) (F 29) (F20928 28) (F20928 29) ∧ ((v20927 40).toInt < 0 → dp (F20928 28) (F20928 29) (bI (v 37)) (v20927 38).toInt.toNat = some (d + 1)); exact ⟨by omega, hk, fun hf => (hd (by omega)).trans (congrArg some (by omega))⟩)⟩, (by show va_P _ _ _ t.heap; rw [ht]; exact hP9)⟩, hS.F ht⟩) hS.2.2 dX12_either_70
  · skip
    have t21018 := cv_nle (a := 0) (by decide) (b := (v20927 40).toInt) rfl c20937
    refine lv_iload_n hx hb dX12_either_16 rfl (lv_at hl 0 rfl) ?_
    refine lv_bipush (v := 60) hx hb dX12_either_17 (by decide) ?_
    refine lv_icmp_eq (tgt := 34) hx hb dX12_either_19 (by decide) (fun c21019 => ?_) (fun c21019 => ?_)
    · skip
      have t21020 := cv_eq (a := r20936.toInt) rfl (b := 60) (by decide) c21019
      refine lv_aload_n hx hb dX12_either_34 rfl (lv_at hl 1 rfl) ?_
      refine lv_dup hx hb dX12_either_35 rfl ?_
      refine va_get (D := (dC, dI)) (ci := 12) (v := .int (v20927 39)) (C := RX12) (T := TX12) (N := 63) hx hb hwd inA_X12 hown hK hP 0 rfl rfl 39 (by decide) (hwd _ wk_1004) (fun _ h9 => h9) rfl dX12_either_36 ?_
      have t21021 : 0 ≤ (v20927 39).toInt ∧ (v20927 39).toInt ≤ 120 := hI.1 39 _ _ rfl
      refine lv_iconst (v := 1) hx hb dX12_either_39 (by decide) ?_
      refine lv_iadd hx hb dX12_either_40 ?_
      refine lv_topi (fun z21022 e21023 => ?_)
      try (have t21024 := tadd e21023 (a := (v20927 39).toInt) rfl (b := 1) (by decide) (by omega))
      refine va_put (D := (dC, dI)) (ci := 12) (v := .int z21022) (ty := .int) (C := RX12) (T := TX12) (N := 63) (fs := fsM_0 g v20927 rc) hx hb hwd inA_X12 tyX12 tyX12_ok nmX12 hown hK hP (DM hg) hS 0 rfl rfl 39 (by decide) (hwd _ wk_1004) (fun _ h9 => h9) rfl (by decide +kernel) rfl rfl (Nat.le_of_ble_eq_true rfl) dX12_either_41 (fun H locs hP _ hS => ?_)
      have hP := va_P_eq (pM_39 g c _ _ _ _) hP
      have hI := IM.put hI 39 z21022 rfl (by omega)
      refine lv_aload_n hx hb dX12_either_44 rfl (lv_at hl 1 rfl) ?_
      have t21025 : 0 ≤ (v 30).toInt ∧ (v 30).toInt ≤ 120 := by have h9 := hI.1 30 _ _ rfl; rw [show (va_up v20927 39 z21022) 30 = v 30 from hf20929 30 (by decide)] at h9; exact h9
      have t21026 : 0 ≤ (v 37).toInt ∧ (v 37).toInt ≤ 9 := by have h9 := hI.1 37 _ _ rfl; rw [show (va_up v20927 39 z21022) 37 = v 37 from hf20929 37 (by decide)] at h9; exact h9
      have t21027 : 0 ≤ (v20927 38).toInt ∧ (v20927 38).toInt ≤ 120 := hI.1 38 _ _ rfl
      have t21028 : 0 ≤ z21022.toInt ∧ z21022.toInt ≤ 120 := hI.1 39 _ _ rfl
      have t21029 : 0 ≤ (v20927 41).toInt ∧ (v20927 41).toInt ≤ 8 := hI.1 41 _ _ rfl
      refine va_callv (va_runV (As := []) (rest := []) ⟨hx, hb, hml, hown, hwd⟩ (c_X12_sum_2 l dC dI g c adK adV (va_up v20927 39 z21022) F20928 rc H.size  (d + 1) hg hI (by have h9 : (va_up v20927 39 z21022) 38 = v20927 38 := rfl; (try rw [h9]); clear h9; have h9 : (va_up v20927 39 z21022) 39 = z21022 := rfl; (try rw [h9]); clear h9; have h9 : (va_up v20927 39 z21022) 30 = v 30 := hf20929 30 (by decide); (try rw [h9]); clear h9; have h9 : (va_up v20927 39 z21022) 40 = v20927 40 := rfl; (try rw [h9]); clear h9; have h9 : (va_up v20927 39 z21022) 41 = v20927 41 := rfl; (try rw [h9]); clear h9; omega) (by have h9 : (va_up v20927 39 z21022) 37 = (v 37) := hf20929 37 (by decide); have h8 : (va_up v20927 39 z21022) 38 = (v20927 38) := rfl; (try rw [h9]); (try rw [h8]); exact hd (by omega))) (cwV 0 hwd (gV wk_1043 wk_1011 wk_1012 wk_1013 wk_5) rfl rfl rfl (by decide +kernel) ⟨Nat.le_of_ble_eq_true rfl, Nat.le_of_ble_eq_true rfl⟩) ⟨PM.blind, va_recv hK hP (ci := 12) (q0 := 0) rfl rfl, fun U hU hW => ⟨rfl, PM.at hK hE hP hS hU hW⟩⟩ rfl rfl hl.1 rfl (lv_room (Nat.le_of_ble_eq_true rfl)) dX12_either_45 ⟨Nat.le_of_ble_eq_true rfl, Nat.le_of_ble_eq_true rfl⟩) hS (fun q _ h => (freeM hS) q h) (freeM hS) (fun u t H1 locs ht hvm hw hB hz1 hk1 hS => ?_)
      unfold BM at hB
      rw [ht] at hB
      obtain ⟨v21031, F21032, rc9⟩ := u
      obtain ⟨hI, hrc, hf21033, hG21034, hw⟩ := hw
      dsimp only at hI hrc hB hf21033 hG21034 hw
      have hF := frCF (by decide) hG21034 hF
      rw [hrc] at hB
      have hP : va_P (dC, dI) classes (wM g c v21031 F21032 rc) H1 := hB
      have hw : (z21022.toInt ≤ (v21031 39).toInt ∧ (v21031 39).toInt ≤ ((va_up v20927 39 z21022) 30).toInt ∧ (v20927 38).toInt ≤ (v21031 38).toInt ∧ (v21031 38).toInt - (v20927 38).toInt ≤ (v21031 39).toInt - z21022.toInt ∧ (v20927 41).toInt ≤ (v21031 41).toInt ∧ ((v21031 40).toInt < 0 → (v21031 41).toInt = (v20927 41).toInt)) ∧ keepL ((va_up v20927 39 z21022) 37) (F20928 28) (F20928 29) (F21032 28) (F21032 29) ∧ ((v21031 40).toInt < 0 → dp (F21032 28) (F21032 29) (bI ((va_up v20927 39 z21022) 37)) (v21031 38).toInt.toNat = some ((d + 1) + 1)) := hw
      rw [show (va_up v20927 39 z21022) 30 = v 30 from hf20929 30 (by decide)] at hw
      rw [show (va_up v20927 39 z21022) 37 = v 37 from hf20929 37 (by decide)] at hw
      have hw_r21030 := hw
      have t21035 : 0 ≤ (v21031 38).toInt ∧ (v21031 38).toInt ≤ 120 := hI.1 38 _ _ rfl
      have t21036 : 0 ≤ (v21031 39).toInt ∧ (v21031 39).toInt ≤ 120 := hI.1 39 _ _ rfl
      have t21037 : 0 ≤ (v21031 41).toInt ∧ (v21031 41).toInt ≤ 8 := hI.1 41 _ _ rfl
      generalize H1 = H at hP hS ⊢
      have hk := hk.tr hw_r21030.2.1
      have hd := hw_r21030.2.2
      refine lv_aload_n hx hb dX12_either_48 rfl (lv_at hl 1 rfl) ?_
      refine lv_iload_n hx hb dX12_either_49 rfl (lv_at hl 0 rfl) ?_
      refine lv_iconst (v := 0) hx hb dX12_either_50 (by decide) ?_
      have t21038 : 0 ≤ (v 37).toInt ∧ (v 37).toInt ≤ 9 := by have h9 := hI.1 37 _ _ rfl; rw [show v21031 37 = v 37 from (hf21033 37 (by decide)).trans (hf20929 37 (by decide))] at h9; exact h9
      have t21039 : 0 ≤ (v21031 38).toInt ∧ (v21031 38).toInt ≤ 120 := hI.1 38 _ _ rfl
      refine va_callv (va_runV (As := [.int r20936, .int 0]) (rest := []) ⟨hx, hb, hml, hown, hwd⟩ (c_X12_lay l dC dI g c adK adV v21031 F21032 rc H.size r20936 0 hg hI (by have h9 : v21031 38 = v21031 38 := rfl; rw [h9]; omega)) (cwV 2 hwd (gV wk_1021 wk_1018 wk_1019 wk_1020 wk_5) rfl rfl rfl (by decide +kernel) ⟨Nat.le_of_ble_eq_true rfl, Nat.le_of_ble_eq_true rfl⟩) ⟨PM.blind, va_recv hK hP (ci := 12) (q0 := 0) rfl rfl, fun U hU hW => ⟨rfl, PM.at hK hE hP hS hU hW⟩⟩ rfl rfl hl.1 rfl (lv_room (Nat.le_of_ble_eq_true rfl)) dX12_either_51 ⟨Nat.le_of_ble_eq_true rfl, Nat.le_of_ble_eq_true rfl⟩) hS (fun q _ h => (freeM hS) q h) (freeM hS) (fun u t H1 locs ht hvm hw hB hz1 hk1 hS => ?_)
      unfold BM at hB
      rw [ht] at hB
      obtain ⟨v21041, F21042, rc9⟩ := u
      obtain ⟨hI, hrc, hf21043, hG21044, hw⟩ := hw
      dsimp only at hI hrc hB hf21043 hG21044 hw
      have hF := frCF (by decide) hG21044 hF
      rw [hrc] at hB
      have hP : va_P (dC, dI) classes (wM g c v21041 F21042 rc) H1 := hB
      have hw : (v21041 38).toInt = (v21031 38).toInt + 1 ∧ keepL (v21031 37) (F21032 28) (F21032 29) (F21042 28) (F21042 29) ∧ dp (F21042 28) (F21042 29) (bI (v21031 37)) ((v21031 38).toInt.toNat + 1) = dpS (dp (F21032 28) (F21032 29) (bI (v21031 37)) (v21031 38).toInt.toNat) r20936 (0 : Int32) := hw
      rw [show v21031 37 = v 37 from (hf21033 37 (by decide)).trans (hf20929 37 (by decide))] at hw
      have hw_r21040 := hw
      have t21045 : 0 ≤ (v21041 38).toInt ∧ (v21041 38).toInt ≤ 120 := hI.1 38 _ _ rfl
      have k21046 : (0 : Int32).toInt = 0 := by decide
      generalize H1 = H at hP hS ⊢
      have hk := hk.tr hw_r21040.2.1
      have hd : (v21031 40).toInt < 0 → dp (F21042 28) (F21042 29) (bI (v 37)) (v21041 38).toInt.toNat = some (((d + 1) + 1) - 1) := fun hf => (by have e9 : (v21041 38).toInt.toNat = (v21031 38).toInt.toNat + 1 := (by omega); rw [e9, hw_r21040.2.2, hd hf]; exact dpS_5 (by omega) (by omega) (by omega) (by omega) (by omega))
      refine lv_aload_n hx hb dX12_either_54 rfl (lv_at hl 1 rfl) ?_
      refine va_get (D := (dC, dI)) (ci := 12) (v := .int (v21041 40)) (C := RX12) (T := TX12) (N := 63) hx hb hwd inA_X12 hown hK hP 0 rfl rfl 40 (by decide) (hwd _ wk_1005) (fun _ h9 => h9) rfl dX12_either_55 ?_
      refine my_top (v := v21031 40) (hf21043 40 (by decide)) ?_
      refine lv_if_ge (tgt := 70) hx hb dX12_either_58 (by decide) (fun c21047 => ?_) (fun c21047 => ?_)
      · skip
        have t21048 := cv_le (a := 0) (by decide) (b := (v21031 40).toInt) rfl c21047
        have hP9 : va_P (dC, dI) classes (wM g c v21041 F21042 rc) H := hP
        exact W.vret hx hb hr (fun t ht hW => ⟨⟨(v21041, F21042, rc), rfl, ⟨hI, rfl, (frC (by decide) hf21043 (frC (by decide) hf21033 (frU (by decide) (frC (by decide) hf20929 (fun _ _ => rfl))))), hF, (by show ((v 39).toInt ≤ (v21041 39).toInt ∧ (v21041 39).toInt ≤ (v 30).toInt ∧ (v 38).toInt ≤ (v21041 38).toInt ∧ (v21041 38).toInt - (v 38).toInt ≤ (v21041 39).toInt - (v 39).toInt ∧ (v 41).toInt ≤ (v21041 41).toInt ∧ ((v21041 40).toInt < 0 → (v21041 41).toInt = (v 41).toInt)) ∧ keepL (v 37) (F 28) (F 29) (F21042 28) (F21042 29) ∧ ((v21041 40).toInt < 0 → dp (F21042 28) (F21042 29) (bI (v 37)) (v21041 38).toInt.toNat = some (d + 1)); rw [show v21041 39 = v21031 39 from hf21043 39 (by decide)]; rw [show v21041 41 = v21031 41 from hf21043 41 (by decide)]; rw [show v21041 40 = v21031 40 from hf21043 40 (by decide)]; exact ⟨by omega, hk, fun hf => (hd (by omega)).trans (congrArg some (by omega))⟩)⟩, (by show va_P _ _ _ t.heap; rw [ht]; exact hP9)⟩, hS.F ht⟩) hS.2.2 dX12_either_70
      · skip
        have t21049 := cv_nle (a := 0) (by decide) (b := (v21031 40).toInt) rfl c21047
        refine lv_aload_n hx hb dX12_either_61 rfl (lv_at hl 1 rfl) ?_
        have t21050 : 0 ≤ (v 30).toInt ∧ (v 30).toInt ≤ 120 := by have h9 := hI.1 30 _ _ rfl; rw [show v21041 30 = v 30 from (hf21043 30 (by decide)).trans ((hf21033 30 (by decide)).trans (hf20929 30 (by decide)))] at h9; exact h9
        have t21051 : 0 ≤ (v21031 39).toInt ∧ (v21031 39).toInt ≤ 120 := by have h9 := hI.1 39 _ _ rfl; rw [show v21041 39 = v21031 39 from hf21043 39 (by decide)] at h9; exact h9
        refine va_calli (va_runV (As := []) (rest := []) ⟨hx, hb, hml, hown, hwd⟩ (c_X12_look l dC dI g c adK adV v21041 F21042 rc H.size  hg hI ) (cwV 0 hwd (gV wk_1017 wk_1014 wk_1015 wk_1016 wk_5) rfl rfl rfl (by decide +kernel) ⟨Nat.le_of_ble_eq_true rfl, Nat.le_of_ble_eq_true rfl⟩) ⟨PM.blind, va_recv hK hP (ci := 12) (q0 := 0) rfl rfl, fun U hU hW => ⟨rfl, PM.at hK hE hP hS hU hW⟩⟩ rfl rfl hl.1 rfl (lv_room (Nat.le_of_ble_eq_true rfl)) dX12_either_62 ⟨Nat.le_of_ble_eq_true rfl, Nat.le_of_ble_eq_true rfl⟩) hS (fun q _ h => (freeM hS) q h) (freeM hS) (fun r21052 u t H1 locs ht hvm hw hB hz1 hk1 hS => ?_)
        unfold BM at hB
        rw [ht] at hB
        have hP : va_P (dC, dI) classes (wM g c v21041 F21042 rc) H1 := hB
        have hw : r21052.toInt = lkM (v21041 39) (v21041 30) (F21042 24) ∧ ((v21041 39).toInt < (v21041 30).toInt ∨ r21052.toInt = -1) := hw
        rw [show v21041 39 = v21031 39 from hf21043 39 (by decide)] at hw
        rw [show v21041 30 = v 30 from (hf21043 30 (by decide)).trans ((hf21033 30 (by decide)).trans (hf20929 30 (by decide)))] at hw
        rw [hF 24 (by decide)] at hw
        have hw_r21052 := hw
        generalize H1 = H at hP hS ⊢
        refine lv_bipush (v := 63) hx hb dX12_either_65 (by decide) ?_
        refine lv_icmp_eq (tgt := 71) hx hb dX12_either_67 (by decide) (fun c21053 => ?_) (fun c21053 => ?_)
        · skip
          have t21054 := cv_eq (a := r21052.toInt) rfl (b := 63) (by decide) c21053
          refine lv_aload_n hx hb dX12_either_71 rfl (lv_at hl 1 rfl) ?_
          have t21055 : 0 ≤ (v21031 39).toInt ∧ (v21031 39).toInt ≤ 120 := by have h9 := hI.1 39 _ _ rfl; rw [show v21041 39 = v21031 39 from hf21043 39 (by decide)] at h9; exact h9
          have t21056 : 0 ≤ (v21031 41).toInt ∧ (v21031 41).toInt ≤ 8 := by have h9 := hI.1 41 _ _ rfl; rw [show v21041 41 = v21031 41 from hf21043 41 (by decide)] at h9; exact h9
          refine va_calli (va_runV (As := []) (rest := []) ⟨hx, hb, hml, hown, hwd⟩ (c_X12_opens l dC dI g c adK adV v21041 F21042 rc H.size  hg hI (by have h9 : v21041 39 = v21031 39 := hf21043 39 (by decide); (try rw [h9]); clear h9; have h9 : v21041 30 = v 30 := (hf21043 30 (by decide)).trans ((hf21033 30 (by decide)).trans (hf20929 30 (by decide))); (try rw [h9]); clear h9; omega)) (cwV 0 hwd (gV wk_1025 wk_1022 wk_1023 wk_1024 wk_5) rfl rfl rfl (by decide +kernel) ⟨Nat.le_of_ble_eq_true rfl, Nat.le_of_ble_eq_true rfl⟩) ⟨PM.blind, va_recv hK hP (ci := 12) (q0 := 0) rfl rfl, fun U hU hW => ⟨rfl, PM.at hK hE hP hS hU hW⟩⟩ rfl rfl hl.1 rfl (lv_room (Nat.le_of_ble_eq_true rfl)) dX12_either_72 ⟨Nat.le_of_ble_eq_true rfl, Nat.le_of_ble_eq_true rfl⟩) hS (fun q _ h => (freeM hS) q h) (freeM hS) (fun r21057 u t H1 locs ht hvm hw hB hz1 hk1 hS => ?_)
          unfold BM at hB
          rw [ht] at hB
          obtain ⟨v21058, F21059, rc9⟩ := u
          obtain ⟨hI, hrc, hf21060, hG21061, hw⟩ := hw
          dsimp only at hI hrc hB hf21060 hG21061 hw
          have hF := frCF (by decide) hG21061 hF
          rw [hrc] at hB
          have hP : va_P (dC, dI) classes (wM g c v21058 F21059 rc) H1 := hB
          have hw : (r21057.toInt = 1 ∧ (v21041 41).toInt < 8 ∧ (v21058 41).toInt = (v21041 41).toInt + 1 ∧ (v21058 39).toInt = (v21041 39).toInt + 1 ∧ (v21058 40).toInt = (v21041 40).toInt) ∨ (r21057.toInt = 0 ∧ (v21041 41).toInt = 8 ∧ 0 ≤ (v21058 40).toInt ∧ (v21058 41).toInt = (v21041 41).toInt ∧ (v21058 39).toInt = (v21041 39).toInt) := hw
          rw [show v21041 41 = v21031 41 from hf21043 41 (by decide)] at hw
          rw [show v21041 39 = v21031 39 from hf21043 39 (by decide)] at hw
          rw [show v21041 40 = v21031 40 from hf21043 40 (by decide)] at hw
          have hw_r21057 := hw
          have t21062 : 0 ≤ (v21058 39).toInt ∧ (v21058 39).toInt ≤ 120 := hI.1 39 _ _ rfl
          have t21063 : 0 ≤ (v21058 41).toInt ∧ (v21058 41).toInt ≤ 8 := hI.1 41 _ _ rfl
          generalize H1 = H at hP hS ⊢
          have hk : keepL (v 37) (F 28) (F 29) (F21059 28) (F21059 29) := by rw [hG21061 28 (by decide), hG21061 29 (by decide)]; exact hk
          have hd : (v21058 40).toInt < 0 → dp (F21059 28) (F21059 29) (bI (v 37)) (v21041 38).toInt.toNat = some (((d + 1) + 1) - 1) := fun hf => (by rw [hG21061 28 (by decide), hG21061 29 (by decide)]; exact hd (by omega))
          refine lv_if_ne (tgt := 79) hx hb dX12_either_75 (by decide) (fun c21064 => ?_) (fun c21064 => ?_)
          · skip
            have t21065 := cv_ne (a := r21057.toInt) rfl (b := 0) (by decide) c21064
            refine lv_aload_n hx hb dX12_either_79 rfl (lv_at hl 1 rfl) ?_
            have t21066 : 0 ≤ (v 30).toInt ∧ (v 30).toInt ≤ 120 := by have h9 := hI.1 30 _ _ rfl; rw [show v21058 30 = v 30 from (hf21060 30 (by decide)).trans ((hf21043 30 (by decide)).trans ((hf21033 30 (by decide)).trans (hf20929 30 (by decide))))] at h9; exact h9
            have t21067 : 0 ≤ (v 37).toInt ∧ (v 37).toInt ≤ 9 := by have h9 := hI.1 37 _ _ rfl; rw [show v21058 37 = v 37 from (hf21060 37 (by decide)).trans ((hf21043 37 (by decide)).trans ((hf21033 37 (by decide)).trans (hf20929 37 (by decide))))] at h9; exact h9
            have t21068 : 0 ≤ (v21041 38).toInt ∧ (v21041 38).toInt ≤ 120 := by have h9 := hI.1 38 _ _ rfl; rw [show v21058 38 = v21041 38 from hf21060 38 (by decide)] at h9; exact h9
            have t21069 : 0 ≤ (v21058 39).toInt ∧ (v21058 39).toInt ≤ 120 := hI.1 39 _ _ rfl
            have t21070 : 0 ≤ (v21058 41).toInt ∧ (v21058 41).toInt ≤ 8 := hI.1 41 _ _ rfl
            refine va_callv (va_runV (As := []) (rest := []) ⟨hx, hb, hml, hown, hwd⟩ (c_X12_either_3 l dC dI g c adK adV v21058 F21059 rc H.size  (((d + 1) + 1) - 1) hg hI (by have h9 : v21058 38 = v21041 38 := hf21060 38 (by decide); (try rw [h9]); clear h9; have h9 : v21058 39 = v21058 39 := rfl; (try rw [h9]); clear h9; have h9 : v21058 30 = v 30 := (hf21060 30 (by decide)).trans ((hf21043 30 (by decide)).trans ((hf21033 30 (by decide)).trans (hf20929 30 (by decide)))); (try rw [h9]); clear h9; have h9 : v21058 40 = v21058 40 := rfl; (try rw [h9]); clear h9; have h9 : v21058 41 = v21058 41 := rfl; (try rw [h9]); clear h9; omega) (by have h9 : v21058 37 = (v 37) := (hf21060 37 (by decide)).trans ((hf21043 37 (by decide)).trans ((hf21033 37 (by decide)).trans (hf20929 37 (by decide)))); have h8 : v21058 38 = (v21041 38) := hf21060 38 (by decide); (try rw [h9]); (try rw [h8]); exact hd (by omega))) (cwV 0 hwd (gV wk_1010 wk_1007 wk_1008 wk_1009 wk_5) rfl rfl rfl (by decide +kernel) ⟨Nat.le_of_ble_eq_true rfl, Nat.le_of_ble_eq_true rfl⟩) ⟨PM.blind, va_recv hK hP (ci := 12) (q0 := 0) rfl rfl, fun U hU hW => ⟨rfl, PM.at hK hE hP hS hU hW⟩⟩ rfl rfl hl.1 rfl (lv_room (Nat.le_of_ble_eq_true rfl)) dX12_either_80 ⟨Nat.le_of_ble_eq_true rfl, Nat.le_of_ble_eq_true rfl⟩) hS (fun q _ h => (freeM hS) q h) (freeM hS) (fun u t H1 locs ht hvm hw hB hz1 hk1 hS => ?_)
            unfold BM at hB
            rw [ht] at hB
            obtain ⟨v21072, F21073, rc9⟩ := u
            obtain ⟨hI, hrc, hf21074, hG21075, hw⟩ := hw
            dsimp only at hI hrc hB hf21074 hG21075 hw
            have hF := frCF (by decide) hG21075 hF
            rw [hrc] at hB
            have hP : va_P (dC, dI) classes (wM g c v21072 F21073 rc) H1 := hB
            have hw : ((v21058 39).toInt ≤ (v21072 39).toInt ∧ (v21072 39).toInt ≤ (v21058 30).toInt ∧ (v21058 38).toInt ≤ (v21072 38).toInt ∧ (v21072 38).toInt - (v21058 38).toInt ≤ (v21072 39).toInt - (v21058 39).toInt ∧ (v21058 41).toInt ≤ (v21072 41).toInt ∧ ((v21072 40).toInt < 0 → (v21072 41).toInt = (v21058 41).toInt)) ∧ keepL (v21058 37) (F21059 28) (F21059 29) (F21073 28) (F21073 29) ∧ ((v21072 40).toInt < 0 → dp (F21073 28) (F21073 29) (bI (v21058 37)) (v21072 38).toInt.toNat = some ((((d + 1) + 1) - 1) + 1)) := hw
            rw [show v21058 30 = v 30 from (hf21060 30 (by decide)).trans ((hf21043 30 (by decide)).trans ((hf21033 30 (by decide)).trans (hf20929 30 (by decide))))] at hw
            rw [show v21058 38 = v21041 38 from hf21060 38 (by decide)] at hw
            rw [show v21058 37 = v 37 from (hf21060 37 (by decide)).trans ((hf21043 37 (by decide)).trans ((hf21033 37 (by decide)).trans (hf20929 37 (by decide))))] at hw
            have hw_r21071 := hw
            have t21076 : 0 ≤ (v21072 38).toInt ∧ (v21072 38).toInt ≤ 120 := hI.1 38 _ _ rfl
            have t21077 : 0 ≤ (v21072 39).toInt ∧ (v21072 39).toInt ≤ 120 := hI.1 39 _ _ rfl
            have t21078 : 0 ≤ (v21072 41).toInt ∧ (v21072 41).toInt ≤ 8 := hI.1 41 _ _ rfl
            generalize H1 = H at hP hS ⊢
            have hk := hk.tr hw_r21071.2.1
            have hd := hw_r21071.2.2
            refine lv_aload_n hx hb dX12_either_83 rfl (lv_at hl 1 rfl) ?_
            refine va_get (D := (dC, dI)) (ci := 12) (v := .int (v21072 40)) (C := RX12) (T := TX12) (N := 63) hx hb hwd inA_X12 hown hK hP 0 rfl rfl 40 (by decide) (hwd _ wk_1005) (fun _ h9 => h9) rfl dX12_either_84 ?_
            refine lv_if_lt (tgt := 91) hx hb dX12_either_87 (by decide) (fun c21079 => ?_) (fun c21079 => ?_)
            · skip
              have t21080 := cv_lt (a := (v21072 40).toInt) rfl (b := 0) (by decide) c21079
              refine lv_aload_n hx hb dX12_either_91 rfl (lv_at hl 1 rfl) ?_
              have t21081 : 0 ≤ (v 30).toInt ∧ (v 30).toInt ≤ 120 := by have h9 := hI.1 30 _ _ rfl; rw [show v21072 30 = v 30 from (hf21074 30 (by decide)).trans ((hf21060 30 (by decide)).trans ((hf21043 30 (by decide)).trans ((hf21033 30 (by decide)).trans (hf20929 30 (by decide)))))] at h9; exact h9
              have t21082 : 0 ≤ (v21072 39).toInt ∧ (v21072 39).toInt ≤ 120 := hI.1 39 _ _ rfl
              refine va_calli (va_runV (As := []) (rest := []) ⟨hx, hb, hml, hown, hwd⟩ (c_X12_look l dC dI g c adK adV v21072 F21073 rc H.size  hg hI ) (cwV 0 hwd (gV wk_1017 wk_1014 wk_1015 wk_1016 wk_5) rfl rfl rfl (by decide +kernel) ⟨Nat.le_of_ble_eq_true rfl, Nat.le_of_ble_eq_true rfl⟩) ⟨PM.blind, va_recv hK hP (ci := 12) (q0 := 0) rfl rfl, fun U hU hW => ⟨rfl, PM.at hK hE hP hS hU hW⟩⟩ rfl rfl hl.1 rfl (lv_room (Nat.le_of_ble_eq_true rfl)) dX12_either_92 ⟨Nat.le_of_ble_eq_true rfl, Nat.le_of_ble_eq_true rfl⟩) hS (fun q _ h => (freeM hS) q h) (freeM hS) (fun r21083 u t H1 locs ht hvm hw hB hz1 hk1 hS => ?_)
              unfold BM at hB
              rw [ht] at hB
              have hP : va_P (dC, dI) classes (wM g c v21072 F21073 rc) H1 := hB
              have hw : r21083.toInt = lkM (v21072 39) (v21072 30) (F21073 24) ∧ ((v21072 39).toInt < (v21072 30).toInt ∨ r21083.toInt = -1) := hw
              rw [show v21072 30 = v 30 from (hf21074 30 (by decide)).trans ((hf21060 30 (by decide)).trans ((hf21043 30 (by decide)).trans ((hf21033 30 (by decide)).trans (hf20929 30 (by decide)))))] at hw
              rw [hF 24 (by decide)] at hw
              have hw_r21083 := hw
              generalize H1 = H at hP hS ⊢
              refine lv_bipush (v := 58) hx hb dX12_either_95 (by decide) ?_
              refine lv_icmp_eq (tgt := 105) hx hb dX12_either_97 (by decide) (fun c21084 => ?_) (fun c21084 => ?_)
              · skip
                have t21085 := cv_eq (a := r21083.toInt) rfl (b := 58) (by decide) c21084
                refine lv_aload_n hx hb dX12_either_105 rfl (lv_at hl 1 rfl) ?_
                refine lv_dup hx hb dX12_either_106 rfl ?_
                refine va_get (D := (dC, dI)) (ci := 12) (v := .int (v21072 39)) (C := RX12) (T := TX12) (N := 63) hx hb hwd inA_X12 hown hK hP 0 rfl rfl 39 (by decide) (hwd _ wk_1004) (fun _ h9 => h9) rfl dX12_either_107 ?_
                have t21086 : 0 ≤ (v21072 39).toInt ∧ (v21072 39).toInt ≤ 120 := hI.1 39 _ _ rfl
                refine lv_iconst (v := 1) hx hb dX12_either_110 (by decide) ?_
                refine lv_iadd hx hb dX12_either_111 ?_
                refine lv_topi (fun z21087 e21088 => ?_)
                try (have t21089 := tadd e21088 (a := (v21072 39).toInt) rfl (b := 1) (by decide) (by omega))
                refine va_put (D := (dC, dI)) (ci := 12) (v := .int z21087) (ty := .int) (C := RX12) (T := TX12) (N := 63) (fs := fsM_0 g v21072 rc) hx hb hwd inA_X12 tyX12 tyX12_ok nmX12 hown hK hP (DM hg) hS 0 rfl rfl 39 (by decide) (hwd _ wk_1004) (fun _ h9 => h9) rfl (by decide +kernel) rfl rfl (Nat.le_of_ble_eq_true rfl) dX12_either_112 (fun H locs hP _ hS => ?_)
                have hP := va_P_eq (pM_39 g c _ _ _ _) hP
                have hI := IM.put hI 39 z21087 rfl (by omega)
                refine lv_aload_n hx hb dX12_either_115 rfl (lv_at hl 1 rfl) ?_
                have t21090 : 0 ≤ (v 30).toInt ∧ (v 30).toInt ≤ 120 := by have h9 := hI.1 30 _ _ rfl; rw [show (va_up v21072 39 z21087) 30 = v 30 from (hf21074 30 (by decide)).trans ((hf21060 30 (by decide)).trans ((hf21043 30 (by decide)).trans ((hf21033 30 (by decide)).trans (hf20929 30 (by decide)))))] at h9; exact h9
                have t21091 : 0 ≤ (v 37).toInt ∧ (v 37).toInt ≤ 9 := by have h9 := hI.1 37 _ _ rfl; rw [show (va_up v21072 39 z21087) 37 = v 37 from (hf21074 37 (by decide)).trans ((hf21060 37 (by decide)).trans ((hf21043 37 (by decide)).trans ((hf21033 37 (by decide)).trans (hf20929 37 (by decide)))))] at h9; exact h9
                have t21092 : 0 ≤ (v21072 38).toInt ∧ (v21072 38).toInt ≤ 120 := hI.1 38 _ _ rfl
                have t21093 : 0 ≤ z21087.toInt ∧ z21087.toInt ≤ 120 := hI.1 39 _ _ rfl
                have t21094 : 0 ≤ (v21072 41).toInt ∧ (v21072 41).toInt ≤ 8 := hI.1 41 _ _ rfl
                refine va_callv (va_runV (As := []) (rest := []) ⟨hx, hb, hml, hown, hwd⟩ (c_X12_either_3 l dC dI g c adK adV (va_up v21072 39 z21087) F21073 rc H.size  ((((d + 1) + 1) - 1) + 1) hg hI (by have h9 : (va_up v21072 39 z21087) 38 = v21072 38 := rfl; (try rw [h9]); clear h9; have h9 : (va_up v21072 39 z21087) 39 = z21087 := rfl; (try rw [h9]); clear h9; have h9 : (va_up v21072 39 z21087) 30 = v 30 := (hf21074 30 (by decide)).trans ((hf21060 30 (by decide)).trans ((hf21043 30 (by decide)).trans ((hf21033 30 (by decide)).trans (hf20929 30 (by decide))))); (try rw [h9]); clear h9; have h9 : (va_up v21072 39 z21087) 40 = v21072 40 := rfl; (try rw [h9]); clear h9; have h9 : (va_up v21072 39 z21087) 41 = v21072 41 := rfl; (try rw [h9]); clear h9; omega) (by have h9 : (va_up v21072 39 z21087) 37 = (v 37) := (hf21074 37 (by decide)).trans ((hf21060 37 (by decide)).trans ((hf21043 37 (by decide)).trans ((hf21033 37 (by decide)).trans (hf20929 37 (by decide))))); have h8 : (va_up v21072 39 z21087) 38 = (v21072 38) := rfl; (try rw [h9]); (try rw [h8]); exact hd (by omega))) (cwV 0 hwd (gV wk_1010 wk_1007 wk_1008 wk_1009 wk_5) rfl rfl rfl (by decide +kernel) ⟨Nat.le_of_ble_eq_true rfl, Nat.le_of_ble_eq_true rfl⟩) ⟨PM.blind, va_recv hK hP (ci := 12) (q0 := 0) rfl rfl, fun U hU hW => ⟨rfl, PM.at hK hE hP hS hU hW⟩⟩ rfl rfl hl.1 rfl (lv_room (Nat.le_of_ble_eq_true rfl)) dX12_either_116 ⟨Nat.le_of_ble_eq_true rfl, Nat.le_of_ble_eq_true rfl⟩) hS (fun q _ h => (freeM hS) q h) (freeM hS) (fun u t H1 locs ht hvm hw hB hz1 hk1 hS => ?_)
                unfold BM at hB
                rw [ht] at hB
                obtain ⟨v21096, F21097, rc9⟩ := u
                obtain ⟨hI, hrc, hf21098, hG21099, hw⟩ := hw
                dsimp only at hI hrc hB hf21098 hG21099 hw
                have hF := frCF (by decide) hG21099 hF
                rw [hrc] at hB
                have hP : va_P (dC, dI) classes (wM g c v21096 F21097 rc) H1 := hB
                have hw : (z21087.toInt ≤ (v21096 39).toInt ∧ (v21096 39).toInt ≤ ((va_up v21072 39 z21087) 30).toInt ∧ (v21072 38).toInt ≤ (v21096 38).toInt ∧ (v21096 38).toInt - (v21072 38).toInt ≤ (v21096 39).toInt - z21087.toInt ∧ (v21072 41).toInt ≤ (v21096 41).toInt ∧ ((v21096 40).toInt < 0 → (v21096 41).toInt = (v21072 41).toInt)) ∧ keepL ((va_up v21072 39 z21087) 37) (F21073 28) (F21073 29) (F21097 28) (F21097 29) ∧ ((v21096 40).toInt < 0 → dp (F21097 28) (F21097 29) (bI ((va_up v21072 39 z21087) 37)) (v21096 38).toInt.toNat = some (((((d + 1) + 1) - 1) + 1) + 1)) := hw
                rw [show (va_up v21072 39 z21087) 30 = v 30 from (hf21074 30 (by decide)).trans ((hf21060 30 (by decide)).trans ((hf21043 30 (by decide)).trans ((hf21033 30 (by decide)).trans (hf20929 30 (by decide)))))] at hw
                rw [show (va_up v21072 39 z21087) 37 = v 37 from (hf21074 37 (by decide)).trans ((hf21060 37 (by decide)).trans ((hf21043 37 (by decide)).trans ((hf21033 37 (by decide)).trans (hf20929 37 (by decide)))))] at hw
                have hw_r21095 := hw
                have t21100 : 0 ≤ (v21096 38).toInt ∧ (v21096 38).toInt ≤ 120 := hI.1 38 _ _ rfl
                have t21101 : 0 ≤ (v21096 39).toInt ∧ (v21096 39).toInt ≤ 120 := hI.1 39 _ _ rfl
                have t21102 : 0 ≤ (v21096 41).toInt ∧ (v21096 41).toInt ≤ 8 := hI.1 41 _ _ rfl
                generalize H1 = H at hP hS ⊢
                have hk := hk.tr hw_r21095.2.1
                have hd := hw_r21095.2.2
                refine lv_aload_n hx hb dX12_either_119 rfl (lv_at hl 1 rfl) ?_
                refine lv_iconst (v := 4) hx hb dX12_either_120 (by decide) ?_
                refine lv_iconst (v := 0) hx hb dX12_either_121 (by decide) ?_
                have t21103 : 0 ≤ (v 37).toInt ∧ (v 37).toInt ≤ 9 := by have h9 := hI.1 37 _ _ rfl; rw [show v21096 37 = v 37 from (hf21098 37 (by decide)).trans ((hf21074 37 (by decide)).trans ((hf21060 37 (by decide)).trans ((hf21043 37 (by decide)).trans ((hf21033 37 (by decide)).trans (hf20929 37 (by decide))))))] at h9; exact h9
                have t21104 : 0 ≤ (v21096 38).toInt ∧ (v21096 38).toInt ≤ 120 := hI.1 38 _ _ rfl
                refine va_callv (va_runV (As := [.int 4, .int 0]) (rest := []) ⟨hx, hb, hml, hown, hwd⟩ (c_X12_lay l dC dI g c adK adV v21096 F21097 rc H.size 4 0 hg hI (by have h9 : v21096 38 = v21096 38 := rfl; rw [h9]; omega)) (cwV 2 hwd (gV wk_1021 wk_1018 wk_1019 wk_1020 wk_5) rfl rfl rfl (by decide +kernel) ⟨Nat.le_of_ble_eq_true rfl, Nat.le_of_ble_eq_true rfl⟩) ⟨PM.blind, va_recv hK hP (ci := 12) (q0 := 0) rfl rfl, fun U hU hW => ⟨rfl, PM.at hK hE hP hS hU hW⟩⟩ rfl rfl hl.1 rfl (lv_room (Nat.le_of_ble_eq_true rfl)) dX12_either_122 ⟨Nat.le_of_ble_eq_true rfl, Nat.le_of_ble_eq_true rfl⟩) hS (fun q _ h => (freeM hS) q h) (freeM hS) (fun u t H1 locs ht hvm hw hB hz1 hk1 hS => ?_)
                unfold BM at hB
                rw [ht] at hB
                obtain ⟨v21106, F21107, rc9⟩ := u
                obtain ⟨hI, hrc, hf21108, hG21109, hw⟩ := hw
                dsimp only at hI hrc hB hf21108 hG21109 hw
                have hF := frCF (by decide) hG21109 hF
                rw [hrc] at hB
                have hP : va_P (dC, dI) classes (wM g c v21106 F21107 rc) H1 := hB
                have hw : (v21106 38).toInt = (v21096 38).toInt + 1 ∧ keepL (v21096 37) (F21097 28) (F21097 29) (F21107 28) (F21107 29) ∧ dp (F21107 28) (F21107 29) (bI (v21096 37)) ((v21096 38).toInt.toNat + 1) = dpS (dp (F21097 28) (F21097 29) (bI (v21096 37)) (v21096 38).toInt.toNat) (4 : Int32) (0 : Int32) := hw
                rw [show v21096 37 = v 37 from (hf21098 37 (by decide)).trans ((hf21074 37 (by decide)).trans ((hf21060 37 (by decide)).trans ((hf21043 37 (by decide)).trans ((hf21033 37 (by decide)).trans (hf20929 37 (by decide))))))] at hw
                have hw_r21105 := hw
                have t21110 : 0 ≤ (v21106 38).toInt ∧ (v21106 38).toInt ≤ 120 := hI.1 38 _ _ rfl
                have k21111 : (4 : Int32).toInt = 4 := by decide
                have k21112 : (0 : Int32).toInt = 0 := by decide
                generalize H1 = H at hP hS ⊢
                have hk := hk.tr hw_r21105.2.1
                have hd : (v21096 40).toInt < 0 → dp (F21107 28) (F21107 29) (bI (v 37)) (v21106 38).toInt.toNat = some ((((((d + 1) + 1) - 1) + 1) + 1) - 2) := fun hf => (by have e9 : (v21106 38).toInt.toNat = (v21096 38).toInt.toNat + 1 := (by omega); rw [e9, hw_r21105.2.2, hd hf]; exact dpS_4 (by decide) (by omega))
                refine lv_aload_n hx hb dX12_either_125 rfl (lv_at hl 1 rfl) ?_
                refine lv_dup hx hb dX12_either_126 rfl ?_
                refine va_get (D := (dC, dI)) (ci := 12) (v := .int (v21106 41)) (C := RX12) (T := TX12) (N := 63) hx hb hwd inA_X12 hown hK hP 0 rfl rfl 41 (by decide) (hwd _ wk_1006) (fun _ h9 => h9) rfl dX12_either_127 ?_
                refine my_top (v := v21096 41) (hf21108 41 (by decide)) ?_
                have t21113 : 0 ≤ (v21096 41).toInt ∧ (v21096 41).toInt ≤ 8 := by have h9 := hI.1 41 _ _ rfl; rw [show v21106 41 = v21096 41 from hf21108 41 (by decide)] at h9; exact h9
                refine lv_iconst (v := 1) hx hb dX12_either_130 (by decide) ?_
                refine lv_isub hx hb dX12_either_131 ?_
                refine lv_topi (fun z21114 e21115 => ?_)
                try (have t21116 := tsub e21115 (a := (v21096 41).toInt) rfl (b := 1) (by decide) (by omega))
                refine va_put (D := (dC, dI)) (ci := 12) (v := .int z21114) (ty := .int) (C := RX12) (T := TX12) (N := 63) (fs := fsM_0 g v21106 rc) hx hb hwd inA_X12 tyX12 tyX12_ok nmX12 hown hK hP (DM hg) hS 0 rfl rfl 41 (by decide) (hwd _ wk_1006) (fun _ h9 => h9) rfl (by decide +kernel) rfl rfl (Nat.le_of_ble_eq_true rfl) dX12_either_132 (fun H locs hP _ hS => ?_)
                have hP := va_P_eq (pM_41 g c _ _ _ _) hP
                have hI := IM.put hI 41 z21114 rfl (by omega)
                have hP9 : va_P (dC, dI) classes (wM g c (va_up v21106 41 z21114) F21107 rc) H := hP
                exact W.vret hx hb hr (fun t ht hW => ⟨⟨((va_up v21106 41 z21114), F21107, rc), rfl, ⟨hI, rfl, (frU (by decide) (frC (by decide) hf21108 (frC (by decide) hf21098 (frU (by decide) (frC (by decide) hf21074 (frC (by decide) hf21060 (frC (by decide) hf21043 (frC (by decide) hf21033 (frU (by decide) (frC (by decide) hf20929 (fun _ _ => rfl))))))))))), hF, (by show ((v 39).toInt ≤ ((va_up v21106 41 z21114) 39).toInt ∧ ((va_up v21106 41 z21114) 39).toInt ≤ (v 30).toInt ∧ (v 38).toInt ≤ (v21106 38).toInt ∧ (v21106 38).toInt - (v 38).toInt ≤ ((va_up v21106 41 z21114) 39).toInt - (v 39).toInt ∧ (v 41).toInt ≤ z21114.toInt ∧ (((va_up v21106 41 z21114) 40).toInt < 0 → z21114.toInt = (v 41).toInt)) ∧ keepL (v 37) (F 28) (F 29) (F21107 28) (F21107 29) ∧ (((va_up v21106 41 z21114) 40).toInt < 0 → dp (F21107 28) (F21107 29) (bI (v 37)) (v21106 38).toInt.toNat = some (d + 1)); rw [show (va_up v21106 41 z21114) 39 = v21096 39 from hf21108 39 (by decide)]; rw [show (va_up v21106 41 z21114) 40 = v21096 40 from hf21108 40 (by decide)]; exact ⟨by omega, hk, fun hf => (hd (by omega)).trans (congrArg some (by omega))⟩)⟩, (by show va_P _ _ _ t.heap; rw [ht]; exact hP9)⟩, hS.F ht⟩) hS.2.2 dX12_either_135
              · skip
                have t21117 := cv_ne (a := r21083.toInt) rfl (b := 58) (by decide) c21084
                refine lv_aload_n hx hb dX12_either_100 rfl (lv_at hl 1 rfl) ?_
                refine va_callv (va_runV (As := []) (rest := []) ⟨hx, hb, hml, hown, hwd⟩ (c_X12_wrong l dC dI g c adK adV v21072 F21073 rc H.size  hg hI ) (cwV 0 hwd (gV wk_1029 wk_1026 wk_1027 wk_1028 wk_5) rfl rfl rfl (by decide +kernel) ⟨Nat.le_of_ble_eq_true rfl, Nat.le_of_ble_eq_true rfl⟩) ⟨PM.blind, va_recv hK hP (ci := 12) (q0 := 0) rfl rfl, fun U hU hW => ⟨rfl, PM.at hK hE hP hS hU hW⟩⟩ rfl rfl hl.1 rfl (lv_room (Nat.le_of_ble_eq_true rfl)) dX12_either_101 ⟨Nat.le_of_ble_eq_true rfl, Nat.le_of_ble_eq_true rfl⟩) hS (fun q _ h => (freeM hS) q h) (freeM hS) (fun u t H1 locs ht hvm hw hB hz1 hk1 hS => ?_)
                unfold BM at hB
                rw [ht] at hB
                obtain ⟨v21119, F21120, rc9⟩ := u
                obtain ⟨hI, hrc, hf21121, hG21122, hw⟩ := hw
                dsimp only at hI hrc hB hf21121 hG21122 hw
                have hF := frCF (by decide) hG21122 hF
                rw [hrc] at hB
                have hP : va_P (dC, dI) classes (wM g c v21119 F21120 rc) H1 := hB
                have hw : 0 ≤ (v21119 40).toInt := hw
                have hw_r21118 := hw
                generalize H1 = H at hP hS ⊢
                have hk : keepL (v 37) (F 28) (F 29) (F21120 28) (F21120 29) := by rw [hG21122 28 (by decide), hG21122 29 (by decide)]; exact hk
                have hd : (v21119 40).toInt < 0 → dp (F21120 28) (F21120 29) (bI (v 37)) (v21072 38).toInt.toNat = some ((((d + 1) + 1) - 1) + 1) := fun hf => (by rw [hG21122 28 (by decide), hG21122 29 (by decide)]; exact hd (by omega))
                have hP9 : va_P (dC, dI) classes (wM g c v21119 F21120 rc) H := hP
                exact W.vret hx hb hr (fun t ht hW => ⟨⟨(v21119, F21120, rc), rfl, ⟨hI, rfl, (frC (by decide) hf21121 (frC (by decide) hf21074 (frC (by decide) hf21060 (frC (by decide) hf21043 (frC (by decide) hf21033 (frU (by decide) (frC (by decide) hf20929 (fun _ _ => rfl)))))))), hF, (by show ((v 39).toInt ≤ (v21119 39).toInt ∧ (v21119 39).toInt ≤ (v 30).toInt ∧ (v 38).toInt ≤ (v21119 38).toInt ∧ (v21119 38).toInt - (v 38).toInt ≤ (v21119 39).toInt - (v 39).toInt ∧ (v 41).toInt ≤ (v21119 41).toInt ∧ ((v21119 40).toInt < 0 → (v21119 41).toInt = (v 41).toInt)) ∧ keepL (v 37) (F 28) (F 29) (F21120 28) (F21120 29) ∧ ((v21119 40).toInt < 0 → dp (F21120 28) (F21120 29) (bI (v 37)) (v21119 38).toInt.toNat = some (d + 1)); rw [show v21119 39 = v21072 39 from hf21121 39 (by decide)]; rw [show v21119 38 = v21072 38 from hf21121 38 (by decide)]; rw [show v21119 41 = v21072 41 from hf21121 41 (by decide)]; exact ⟨by omega, hk, fun hf => (hd (by omega)).trans (congrArg some (by omega))⟩)⟩, (by show va_P _ _ _ t.heap; rw [ht]; exact hP9)⟩, hS.F ht⟩) hS.2.2 dX12_either_104
            · skip
              have t21123 := cv_nlt (a := (v21072 40).toInt) rfl (b := 0) (by decide) c21079
              have hP9 : va_P (dC, dI) classes (wM g c v21072 F21073 rc) H := hP
              exact W.vret hx hb hr (fun t ht hW => ⟨⟨(v21072, F21073, rc), rfl, ⟨hI, rfl, (frC (by decide) hf21074 (frC (by decide) hf21060 (frC (by decide) hf21043 (frC (by decide) hf21033 (frU (by decide) (frC (by decide) hf20929 (fun _ _ => rfl))))))), hF, (by show ((v 39).toInt ≤ (v21072 39).toInt ∧ (v21072 39).toInt ≤ (v 30).toInt ∧ (v 38).toInt ≤ (v21072 38).toInt ∧ (v21072 38).toInt - (v 38).toInt ≤ (v21072 39).toInt - (v 39).toInt ∧ (v 41).toInt ≤ (v21072 41).toInt ∧ ((v21072 40).toInt < 0 → (v21072 41).toInt = (v 41).toInt)) ∧ keepL (v 37) (F 28) (F 29) (F21073 28) (F21073 29) ∧ ((v21072 40).toInt < 0 → dp (F21073 28) (F21073 29) (bI (v 37)) (v21072 38).toInt.toNat = some (d + 1)); exact ⟨by omega, hk, fun hf => (hd (by omega)).trans (congrArg some (by omega))⟩)⟩, (by show va_P _ _ _ t.heap; rw [ht]; exact hP9)⟩, hS.F ht⟩) hS.2.2 dX12_either_90
          · skip
            have t21124 := cv_eq (a := r21057.toInt) rfl (b := 0) (by decide) c21064
            have hP9 : va_P (dC, dI) classes (wM g c v21058 F21059 rc) H := hP
            exact W.vret hx hb hr (fun t ht hW => ⟨⟨(v21058, F21059, rc), rfl, ⟨hI, rfl, (frC (by decide) hf21060 (frC (by decide) hf21043 (frC (by decide) hf21033 (frU (by decide) (frC (by decide) hf20929 (fun _ _ => rfl)))))), hF, (by show ((v 39).toInt ≤ (v21058 39).toInt ∧ (v21058 39).toInt ≤ (v 30).toInt ∧ (v 38).toInt ≤ (v21058 38).toInt ∧ (v21058 38).toInt - (v 38).toInt ≤ (v21058 39).toInt - (v 39).toInt ∧ (v 41).toInt ≤ (v21058 41).toInt ∧ ((v21058 40).toInt < 0 → (v21058 41).toInt = (v 41).toInt)) ∧ keepL (v 37) (F 28) (F 29) (F21059 28) (F21059 29) ∧ ((v21058 40).toInt < 0 → dp (F21059 28) (F21059 29) (bI (v 37)) (v21058 38).toInt.toNat = some (d + 1)); rw [show v21058 38 = v21041 38 from hf21060 38 (by decide)]; exact ⟨by omega, hk, fun hf => (hd (by omega)).trans (congrArg some (by omega))⟩)⟩, (by show va_P _ _ _ t.heap; rw [ht]; exact hP9)⟩, hS.F ht⟩) hS.2.2 dX12_either_78
        · skip
          have t21125 := cv_ne (a := r21052.toInt) rfl (b := 63) (by decide) c21053
          have hP9 : va_P (dC, dI) classes (wM g c v21041 F21042 rc) H := hP
          exact W.vret hx hb hr (fun t ht hW => ⟨⟨(v21041, F21042, rc), rfl, ⟨hI, rfl, (frC (by decide) hf21043 (frC (by decide) hf21033 (frU (by decide) (frC (by decide) hf20929 (fun _ _ => rfl))))), hF, (by show ((v 39).toInt ≤ (v21041 39).toInt ∧ (v21041 39).toInt ≤ (v 30).toInt ∧ (v 38).toInt ≤ (v21041 38).toInt ∧ (v21041 38).toInt - (v 38).toInt ≤ (v21041 39).toInt - (v 39).toInt ∧ (v 41).toInt ≤ (v21041 41).toInt ∧ ((v21041 40).toInt < 0 → (v21041 41).toInt = (v 41).toInt)) ∧ keepL (v 37) (F 28) (F 29) (F21042 28) (F21042 29) ∧ ((v21041 40).toInt < 0 → dp (F21042 28) (F21042 29) (bI (v 37)) (v21041 38).toInt.toNat = some (d + 1)); rw [show v21041 39 = v21031 39 from hf21043 39 (by decide)]; rw [show v21041 41 = v21031 41 from hf21043 41 (by decide)]; rw [show v21041 40 = v21031 40 from hf21043 40 (by decide)]; exact ⟨by omega, hk, fun hf => (hd (by omega)).trans (congrArg some (by omega))⟩)⟩, (by show va_P _ _ _ t.heap; rw [ht]; exact hP9)⟩, hS.F ht⟩) hS.2.2 dX12_either_70
    · skip
      have t21126 := cv_ne (a := r20936.toInt) rfl (b := 60) (by decide) c21019
      refine lv_iload_n hx hb dX12_either_22 rfl (lv_at hl 0 rfl) ?_
      refine lv_bipush (v := 61) hx hb dX12_either_23 (by decide) ?_
      refine lv_icmp_eq (tgt := 34) hx hb dX12_either_25 (by decide) (fun c21127 => ?_) (fun c21127 => ?_)
      · skip
        have t21128 := cv_eq (a := r20936.toInt) rfl (b := 61) (by decide) c21127
        refine lv_aload_n hx hb dX12_either_34 rfl (lv_at hl 1 rfl) ?_
        refine lv_dup hx hb dX12_either_35 rfl ?_
        refine va_get (D := (dC, dI)) (ci := 12) (v := .int (v20927 39)) (C := RX12) (T := TX12) (N := 63) hx hb hwd inA_X12 hown hK hP 0 rfl rfl 39 (by decide) (hwd _ wk_1004) (fun _ h9 => h9) rfl dX12_either_36 ?_
        have t21129 : 0 ≤ (v20927 39).toInt ∧ (v20927 39).toInt ≤ 120 := hI.1 39 _ _ rfl
        refine lv_iconst (v := 1) hx hb dX12_either_39 (by decide) ?_
        refine lv_iadd hx hb dX12_either_40 ?_
        refine lv_topi (fun z21130 e21131 => ?_)
        try (have t21132 := tadd e21131 (a := (v20927 39).toInt) rfl (b := 1) (by decide) (by omega))
        refine va_put (D := (dC, dI)) (ci := 12) (v := .int z21130) (ty := .int) (C := RX12) (T := TX12) (N := 63) (fs := fsM_0 g v20927 rc) hx hb hwd inA_X12 tyX12 tyX12_ok nmX12 hown hK hP (DM hg) hS 0 rfl rfl 39 (by decide) (hwd _ wk_1004) (fun _ h9 => h9) rfl (by decide +kernel) rfl rfl (Nat.le_of_ble_eq_true rfl) dX12_either_41 (fun H locs hP _ hS => ?_)
        have hP := va_P_eq (pM_39 g c _ _ _ _) hP
        have hI := IM.put hI 39 z21130 rfl (by omega)
        refine lv_aload_n hx hb dX12_either_44 rfl (lv_at hl 1 rfl) ?_
        have t21133 : 0 ≤ (v 30).toInt ∧ (v 30).toInt ≤ 120 := by have h9 := hI.1 30 _ _ rfl; rw [show (va_up v20927 39 z21130) 30 = v 30 from hf20929 30 (by decide)] at h9; exact h9
        have t21134 : 0 ≤ (v 37).toInt ∧ (v 37).toInt ≤ 9 := by have h9 := hI.1 37 _ _ rfl; rw [show (va_up v20927 39 z21130) 37 = v 37 from hf20929 37 (by decide)] at h9; exact h9
        have t21135 : 0 ≤ (v20927 38).toInt ∧ (v20927 38).toInt ≤ 120 := hI.1 38 _ _ rfl
        have t21136 : 0 ≤ z21130.toInt ∧ z21130.toInt ≤ 120 := hI.1 39 _ _ rfl
        have t21137 : 0 ≤ (v20927 41).toInt ∧ (v20927 41).toInt ≤ 8 := hI.1 41 _ _ rfl
        refine va_callv (va_runV (As := []) (rest := []) ⟨hx, hb, hml, hown, hwd⟩ (c_X12_sum_2 l dC dI g c adK adV (va_up v20927 39 z21130) F20928 rc H.size  (d + 1) hg hI (by have h9 : (va_up v20927 39 z21130) 38 = v20927 38 := rfl; (try rw [h9]); clear h9; have h9 : (va_up v20927 39 z21130) 39 = z21130 := rfl; (try rw [h9]); clear h9; have h9 : (va_up v20927 39 z21130) 30 = v 30 := hf20929 30 (by decide); (try rw [h9]); clear h9; have h9 : (va_up v20927 39 z21130) 40 = v20927 40 := rfl; (try rw [h9]); clear h9; have h9 : (va_up v20927 39 z21130) 41 = v20927 41 := rfl; (try rw [h9]); clear h9; omega) (by have h9 : (va_up v20927 39 z21130) 37 = (v 37) := hf20929 37 (by decide); have h8 : (va_up v20927 39 z21130) 38 = (v20927 38) := rfl; (try rw [h9]); (try rw [h8]); exact hd (by omega))) (cwV 0 hwd (gV wk_1043 wk_1011 wk_1012 wk_1013 wk_5) rfl rfl rfl (by decide +kernel) ⟨Nat.le_of_ble_eq_true rfl, Nat.le_of_ble_eq_true rfl⟩) ⟨PM.blind, va_recv hK hP (ci := 12) (q0 := 0) rfl rfl, fun U hU hW => ⟨rfl, PM.at hK hE hP hS hU hW⟩⟩ rfl rfl hl.1 rfl (lv_room (Nat.le_of_ble_eq_true rfl)) dX12_either_45 ⟨Nat.le_of_ble_eq_true rfl, Nat.le_of_ble_eq_true rfl⟩) hS (fun q _ h => (freeM hS) q h) (freeM hS) (fun u t H1 locs ht hvm hw hB hz1 hk1 hS => ?_)
        unfold BM at hB
        rw [ht] at hB
        obtain ⟨v21139, F21140, rc9⟩ := u
        obtain ⟨hI, hrc, hf21141, hG21142, hw⟩ := hw
        dsimp only at hI hrc hB hf21141 hG21142 hw
        have hF := frCF (by decide) hG21142 hF
        rw [hrc] at hB
        have hP : va_P (dC, dI) classes (wM g c v21139 F21140 rc) H1 := hB
        have hw : (z21130.toInt ≤ (v21139 39).toInt ∧ (v21139 39).toInt ≤ ((va_up v20927 39 z21130) 30).toInt ∧ (v20927 38).toInt ≤ (v21139 38).toInt ∧ (v21139 38).toInt - (v20927 38).toInt ≤ (v21139 39).toInt - z21130.toInt ∧ (v20927 41).toInt ≤ (v21139 41).toInt ∧ ((v21139 40).toInt < 0 → (v21139 41).toInt = (v20927 41).toInt)) ∧ keepL ((va_up v20927 39 z21130) 37) (F20928 28) (F20928 29) (F21140 28) (F21140 29) ∧ ((v21139 40).toInt < 0 → dp (F21140 28) (F21140 29) (bI ((va_up v20927 39 z21130) 37)) (v21139 38).toInt.toNat = some ((d + 1) + 1)) := hw
        rw [show (va_up v20927 39 z21130) 30 = v 30 from hf20929 30 (by decide)] at hw
        rw [show (va_up v20927 39 z21130) 37 = v 37 from hf20929 37 (by decide)] at hw
        have hw_r21138 := hw
        have t21143 : 0 ≤ (v21139 38).toInt ∧ (v21139 38).toInt ≤ 120 := hI.1 38 _ _ rfl
        have t21144 : 0 ≤ (v21139 39).toInt ∧ (v21139 39).toInt ≤ 120 := hI.1 39 _ _ rfl
        have t21145 : 0 ≤ (v21139 41).toInt ∧ (v21139 41).toInt ≤ 8 := hI.1 41 _ _ rfl
        generalize H1 = H at hP hS ⊢
        have hk := hk.tr hw_r21138.2.1
        have hd := hw_r21138.2.2
        refine lv_aload_n hx hb dX12_either_48 rfl (lv_at hl 1 rfl) ?_
        refine lv_iload_n hx hb dX12_either_49 rfl (lv_at hl 0 rfl) ?_
        refine lv_iconst (v := 0) hx hb dX12_either_50 (by decide) ?_
        have t21146 : 0 ≤ (v 37).toInt ∧ (v 37).toInt ≤ 9 := by have h9 := hI.1 37 _ _ rfl; rw [show v21139 37 = v 37 from (hf21141 37 (by decide)).trans (hf20929 37 (by decide))] at h9; exact h9
        have t21147 : 0 ≤ (v21139 38).toInt ∧ (v21139 38).toInt ≤ 120 := hI.1 38 _ _ rfl
        refine va_callv (va_runV (As := [.int r20936, .int 0]) (rest := []) ⟨hx, hb, hml, hown, hwd⟩ (c_X12_lay l dC dI g c adK adV v21139 F21140 rc H.size r20936 0 hg hI (by have h9 : v21139 38 = v21139 38 := rfl; rw [h9]; omega)) (cwV 2 hwd (gV wk_1021 wk_1018 wk_1019 wk_1020 wk_5) rfl rfl rfl (by decide +kernel) ⟨Nat.le_of_ble_eq_true rfl, Nat.le_of_ble_eq_true rfl⟩) ⟨PM.blind, va_recv hK hP (ci := 12) (q0 := 0) rfl rfl, fun U hU hW => ⟨rfl, PM.at hK hE hP hS hU hW⟩⟩ rfl rfl hl.1 rfl (lv_room (Nat.le_of_ble_eq_true rfl)) dX12_either_51 ⟨Nat.le_of_ble_eq_true rfl, Nat.le_of_ble_eq_true rfl⟩) hS (fun q _ h => (freeM hS) q h) (freeM hS) (fun u t H1 locs ht hvm hw hB hz1 hk1 hS => ?_)
        unfold BM at hB
        rw [ht] at hB
        obtain ⟨v21149, F21150, rc9⟩ := u
        obtain ⟨hI, hrc, hf21151, hG21152, hw⟩ := hw
        dsimp only at hI hrc hB hf21151 hG21152 hw
        have hF := frCF (by decide) hG21152 hF
        rw [hrc] at hB
        have hP : va_P (dC, dI) classes (wM g c v21149 F21150 rc) H1 := hB
        have hw : (v21149 38).toInt = (v21139 38).toInt + 1 ∧ keepL (v21139 37) (F21140 28) (F21140 29) (F21150 28) (F21150 29) ∧ dp (F21150 28) (F21150 29) (bI (v21139 37)) ((v21139 38).toInt.toNat + 1) = dpS (dp (F21140 28) (F21140 29) (bI (v21139 37)) (v21139 38).toInt.toNat) r20936 (0 : Int32) := hw
        rw [show v21139 37 = v 37 from (hf21141 37 (by decide)).trans (hf20929 37 (by decide))] at hw
        have hw_r21148 := hw
        have t21153 : 0 ≤ (v21149 38).toInt ∧ (v21149 38).toInt ≤ 120 := hI.1 38 _ _ rfl
        have k21154 : (0 : Int32).toInt = 0 := by decide
        generalize H1 = H at hP hS ⊢
        have hk := hk.tr hw_r21148.2.1
        have hd : (v21139 40).toInt < 0 → dp (F21150 28) (F21150 29) (bI (v 37)) (v21149 38).toInt.toNat = some (((d + 1) + 1) - 1) := fun hf => (by have e9 : (v21149 38).toInt.toNat = (v21139 38).toInt.toNat + 1 := (by omega); rw [e9, hw_r21148.2.2, hd hf]; exact dpS_5 (by omega) (by omega) (by omega) (by omega) (by omega))
        refine lv_aload_n hx hb dX12_either_54 rfl (lv_at hl 1 rfl) ?_
        refine va_get (D := (dC, dI)) (ci := 12) (v := .int (v21149 40)) (C := RX12) (T := TX12) (N := 63) hx hb hwd inA_X12 hown hK hP 0 rfl rfl 40 (by decide) (hwd _ wk_1005) (fun _ h9 => h9) rfl dX12_either_55 ?_
        refine my_top (v := v21139 40) (hf21151 40 (by decide)) ?_
        refine lv_if_ge (tgt := 70) hx hb dX12_either_58 (by decide) (fun c21155 => ?_) (fun c21155 => ?_)
        · skip
          have t21156 := cv_le (a := 0) (by decide) (b := (v21139 40).toInt) rfl c21155
          have hP9 : va_P (dC, dI) classes (wM g c v21149 F21150 rc) H := hP
          exact W.vret hx hb hr (fun t ht hW => ⟨⟨(v21149, F21150, rc), rfl, ⟨hI, rfl, (frC (by decide) hf21151 (frC (by decide) hf21141 (frU (by decide) (frC (by decide) hf20929 (fun _ _ => rfl))))), hF, (by show ((v 39).toInt ≤ (v21149 39).toInt ∧ (v21149 39).toInt ≤ (v 30).toInt ∧ (v 38).toInt ≤ (v21149 38).toInt ∧ (v21149 38).toInt - (v 38).toInt ≤ (v21149 39).toInt - (v 39).toInt ∧ (v 41).toInt ≤ (v21149 41).toInt ∧ ((v21149 40).toInt < 0 → (v21149 41).toInt = (v 41).toInt)) ∧ keepL (v 37) (F 28) (F 29) (F21150 28) (F21150 29) ∧ ((v21149 40).toInt < 0 → dp (F21150 28) (F21150 29) (bI (v 37)) (v21149 38).toInt.toNat = some (d + 1)); rw [show v21149 39 = v21139 39 from hf21151 39 (by decide)]; rw [show v21149 41 = v21139 41 from hf21151 41 (by decide)]; rw [show v21149 40 = v21139 40 from hf21151 40 (by decide)]; exact ⟨by omega, hk, fun hf => (hd (by omega)).trans (congrArg some (by omega))⟩)⟩, (by show va_P _ _ _ t.heap; rw [ht]; exact hP9)⟩, hS.F ht⟩) hS.2.2 dX12_either_70
        · skip
          have t21157 := cv_nle (a := 0) (by decide) (b := (v21139 40).toInt) rfl c21155
          refine lv_aload_n hx hb dX12_either_61 rfl (lv_at hl 1 rfl) ?_
          have t21158 : 0 ≤ (v 30).toInt ∧ (v 30).toInt ≤ 120 := by have h9 := hI.1 30 _ _ rfl; rw [show v21149 30 = v 30 from (hf21151 30 (by decide)).trans ((hf21141 30 (by decide)).trans (hf20929 30 (by decide)))] at h9; exact h9
          have t21159 : 0 ≤ (v21139 39).toInt ∧ (v21139 39).toInt ≤ 120 := by have h9 := hI.1 39 _ _ rfl; rw [show v21149 39 = v21139 39 from hf21151 39 (by decide)] at h9; exact h9
          refine va_calli (va_runV (As := []) (rest := []) ⟨hx, hb, hml, hown, hwd⟩ (c_X12_look l dC dI g c adK adV v21149 F21150 rc H.size  hg hI ) (cwV 0 hwd (gV wk_1017 wk_1014 wk_1015 wk_1016 wk_5) rfl rfl rfl (by decide +kernel) ⟨Nat.le_of_ble_eq_true rfl, Nat.le_of_ble_eq_true rfl⟩) ⟨PM.blind, va_recv hK hP (ci := 12) (q0 := 0) rfl rfl, fun U hU hW => ⟨rfl, PM.at hK hE hP hS hU hW⟩⟩ rfl rfl hl.1 rfl (lv_room (Nat.le_of_ble_eq_true rfl)) dX12_either_62 ⟨Nat.le_of_ble_eq_true rfl, Nat.le_of_ble_eq_true rfl⟩) hS (fun q _ h => (freeM hS) q h) (freeM hS) (fun r21160 u t H1 locs ht hvm hw hB hz1 hk1 hS => ?_)
          unfold BM at hB
          rw [ht] at hB
          have hP : va_P (dC, dI) classes (wM g c v21149 F21150 rc) H1 := hB
          have hw : r21160.toInt = lkM (v21149 39) (v21149 30) (F21150 24) ∧ ((v21149 39).toInt < (v21149 30).toInt ∨ r21160.toInt = -1) := hw
          rw [show v21149 39 = v21139 39 from hf21151 39 (by decide)] at hw
          rw [show v21149 30 = v 30 from (hf21151 30 (by decide)).trans ((hf21141 30 (by decide)).trans (hf20929 30 (by decide)))] at hw
          rw [hF 24 (by decide)] at hw
          have hw_r21160 := hw
          generalize H1 = H at hP hS ⊢
          refine lv_bipush (v := 63) hx hb dX12_either_65 (by decide) ?_
          refine lv_icmp_eq (tgt := 71) hx hb dX12_either_67 (by decide) (fun c21161 => ?_) (fun c21161 => ?_)
          · skip
            have t21162 := cv_eq (a := r21160.toInt) rfl (b := 63) (by decide) c21161
            refine lv_aload_n hx hb dX12_either_71 rfl (lv_at hl 1 rfl) ?_
            have t21163 : 0 ≤ (v21139 39).toInt ∧ (v21139 39).toInt ≤ 120 := by have h9 := hI.1 39 _ _ rfl; rw [show v21149 39 = v21139 39 from hf21151 39 (by decide)] at h9; exact h9
            have t21164 : 0 ≤ (v21139 41).toInt ∧ (v21139 41).toInt ≤ 8 := by have h9 := hI.1 41 _ _ rfl; rw [show v21149 41 = v21139 41 from hf21151 41 (by decide)] at h9; exact h9
            refine va_calli (va_runV (As := []) (rest := []) ⟨hx, hb, hml, hown, hwd⟩ (c_X12_opens l dC dI g c adK adV v21149 F21150 rc H.size  hg hI (by have h9 : v21149 39 = v21139 39 := hf21151 39 (by decide); (try rw [h9]); clear h9; have h9 : v21149 30 = v 30 := (hf21151 30 (by decide)).trans ((hf21141 30 (by decide)).trans (hf20929 30 (by decide))); (try rw [h9]); clear h9; omega)) (cwV 0 hwd (gV wk_1025 wk_1022 wk_1023 wk_1024 wk_5) rfl rfl rfl (by decide +kernel) ⟨Nat.le_of_ble_eq_true rfl, Nat.le_of_ble_eq_true rfl⟩) ⟨PM.blind, va_recv hK hP (ci := 12) (q0 := 0) rfl rfl, fun U hU hW => ⟨rfl, PM.at hK hE hP hS hU hW⟩⟩ rfl rfl hl.1 rfl (lv_room (Nat.le_of_ble_eq_true rfl)) dX12_either_72 ⟨Nat.le_of_ble_eq_true rfl, Nat.le_of_ble_eq_true rfl⟩) hS (fun q _ h => (freeM hS) q h) (freeM hS) (fun r21165 u t H1 locs ht hvm hw hB hz1 hk1 hS => ?_)
            unfold BM at hB
            rw [ht] at hB
            obtain ⟨v21166, F21167, rc9⟩ := u
            obtain ⟨hI, hrc, hf21168, hG21169, hw⟩ := hw
            dsimp only at hI hrc hB hf21168 hG21169 hw
            have hF := frCF (by decide) hG21169 hF
            rw [hrc] at hB
            have hP : va_P (dC, dI) classes (wM g c v21166 F21167 rc) H1 := hB
            have hw : (r21165.toInt = 1 ∧ (v21149 41).toInt < 8 ∧ (v21166 41).toInt = (v21149 41).toInt + 1 ∧ (v21166 39).toInt = (v21149 39).toInt + 1 ∧ (v21166 40).toInt = (v21149 40).toInt) ∨ (r21165.toInt = 0 ∧ (v21149 41).toInt = 8 ∧ 0 ≤ (v21166 40).toInt ∧ (v21166 41).toInt = (v21149 41).toInt ∧ (v21166 39).toInt = (v21149 39).toInt) := hw
            rw [show v21149 41 = v21139 41 from hf21151 41 (by decide)] at hw
            rw [show v21149 39 = v21139 39 from hf21151 39 (by decide)] at hw
            rw [show v21149 40 = v21139 40 from hf21151 40 (by decide)] at hw
            have hw_r21165 := hw
            have t21170 : 0 ≤ (v21166 39).toInt ∧ (v21166 39).toInt ≤ 120 := hI.1 39 _ _ rfl
            have t21171 : 0 ≤ (v21166 41).toInt ∧ (v21166 41).toInt ≤ 8 := hI.1 41 _ _ rfl
            generalize H1 = H at hP hS ⊢
            have hk : keepL (v 37) (F 28) (F 29) (F21167 28) (F21167 29) := by rw [hG21169 28 (by decide), hG21169 29 (by decide)]; exact hk
            have hd : (v21166 40).toInt < 0 → dp (F21167 28) (F21167 29) (bI (v 37)) (v21149 38).toInt.toNat = some (((d + 1) + 1) - 1) := fun hf => (by rw [hG21169 28 (by decide), hG21169 29 (by decide)]; exact hd (by omega))
            refine lv_if_ne (tgt := 79) hx hb dX12_either_75 (by decide) (fun c21172 => ?_) (fun c21172 => ?_)
            · skip
              have t21173 := cv_ne (a := r21165.toInt) rfl (b := 0) (by decide) c21172
              refine lv_aload_n hx hb dX12_either_79 rfl (lv_at hl 1 rfl) ?_
              have t21174 : 0 ≤ (v 30).toInt ∧ (v 30).toInt ≤ 120 := by have h9 := hI.1 30 _ _ rfl; rw [show v21166 30 = v 30 from (hf21168 30 (by decide)).trans ((hf21151 30 (by decide)).trans ((hf21141 30 (by decide)).trans (hf20929 30 (by decide))))] at h9; exact h9
              have t21175 : 0 ≤ (v 37).toInt ∧ (v 37).toInt ≤ 9 := by have h9 := hI.1 37 _ _ rfl; rw [show v21166 37 = v 37 from (hf21168 37 (by decide)).trans ((hf21151 37 (by decide)).trans ((hf21141 37 (by decide)).trans (hf20929 37 (by decide))))] at h9; exact h9
              have t21176 : 0 ≤ (v21149 38).toInt ∧ (v21149 38).toInt ≤ 120 := by have h9 := hI.1 38 _ _ rfl; rw [show v21166 38 = v21149 38 from hf21168 38 (by decide)] at h9; exact h9
              have t21177 : 0 ≤ (v21166 39).toInt ∧ (v21166 39).toInt ≤ 120 := hI.1 39 _ _ rfl
              have t21178 : 0 ≤ (v21166 41).toInt ∧ (v21166 41).toInt ≤ 8 := hI.1 41 _ _ rfl
              refine va_callv (va_runV (As := []) (rest := []) ⟨hx, hb, hml, hown, hwd⟩ (c_X12_either_3 l dC dI g c adK adV v21166 F21167 rc H.size  (((d + 1) + 1) - 1) hg hI (by have h9 : v21166 38 = v21149 38 := hf21168 38 (by decide); (try rw [h9]); clear h9; have h9 : v21166 39 = v21166 39 := rfl; (try rw [h9]); clear h9; have h9 : v21166 30 = v 30 := (hf21168 30 (by decide)).trans ((hf21151 30 (by decide)).trans ((hf21141 30 (by decide)).trans (hf20929 30 (by decide)))); (try rw [h9]); clear h9; have h9 : v21166 40 = v21166 40 := rfl; (try rw [h9]); clear h9; have h9 : v21166 41 = v21166 41 := rfl; (try rw [h9]); clear h9; omega) (by have h9 : v21166 37 = (v 37) := (hf21168 37 (by decide)).trans ((hf21151 37 (by decide)).trans ((hf21141 37 (by decide)).trans (hf20929 37 (by decide)))); have h8 : v21166 38 = (v21149 38) := hf21168 38 (by decide); (try rw [h9]); (try rw [h8]); exact hd (by omega))) (cwV 0 hwd (gV wk_1010 wk_1007 wk_1008 wk_1009 wk_5) rfl rfl rfl (by decide +kernel) ⟨Nat.le_of_ble_eq_true rfl, Nat.le_of_ble_eq_true rfl⟩) ⟨PM.blind, va_recv hK hP (ci := 12) (q0 := 0) rfl rfl, fun U hU hW => ⟨rfl, PM.at hK hE hP hS hU hW⟩⟩ rfl rfl hl.1 rfl (lv_room (Nat.le_of_ble_eq_true rfl)) dX12_either_80 ⟨Nat.le_of_ble_eq_true rfl, Nat.le_of_ble_eq_true rfl⟩) hS (fun q _ h => (freeM hS) q h) (freeM hS) (fun u t H1 locs ht hvm hw hB hz1 hk1 hS => ?_)
              unfold BM at hB
              rw [ht] at hB
              obtain ⟨v21180, F21181, rc9⟩ := u
              obtain ⟨hI, hrc, hf21182, hG21183, hw⟩ := hw
              dsimp only at hI hrc hB hf21182 hG21183 hw
              have hF := frCF (by decide) hG21183 hF
              rw [hrc] at hB
              have hP : va_P (dC, dI) classes (wM g c v21180 F21181 rc) H1 := hB
              have hw : ((v21166 39).toInt ≤ (v21180 39).toInt ∧ (v21180 39).toInt ≤ (v21166 30).toInt ∧ (v21166 38).toInt ≤ (v21180 38).toInt ∧ (v21180 38).toInt - (v21166 38).toInt ≤ (v21180 39).toInt - (v21166 39).toInt ∧ (v21166 41).toInt ≤ (v21180 41).toInt ∧ ((v21180 40).toInt < 0 → (v21180 41).toInt = (v21166 41).toInt)) ∧ keepL (v21166 37) (F21167 28) (F21167 29) (F21181 28) (F21181 29) ∧ ((v21180 40).toInt < 0 → dp (F21181 28) (F21181 29) (bI (v21166 37)) (v21180 38).toInt.toNat = some ((((d + 1) + 1) - 1) + 1)) := hw
              rw [show v21166 30 = v 30 from (hf21168 30 (by decide)).trans ((hf21151 30 (by decide)).trans ((hf21141 30 (by decide)).trans (hf20929 30 (by decide))))] at hw
              rw [show v21166 38 = v21149 38 from hf21168 38 (by decide)] at hw
              rw [show v21166 37 = v 37 from (hf21168 37 (by decide)).trans ((hf21151 37 (by decide)).trans ((hf21141 37 (by decide)).trans (hf20929 37 (by decide))))] at hw
              have hw_r21179 := hw
              have t21184 : 0 ≤ (v21180 38).toInt ∧ (v21180 38).toInt ≤ 120 := hI.1 38 _ _ rfl
              have t21185 : 0 ≤ (v21180 39).toInt ∧ (v21180 39).toInt ≤ 120 := hI.1 39 _ _ rfl
              have t21186 : 0 ≤ (v21180 41).toInt ∧ (v21180 41).toInt ≤ 8 := hI.1 41 _ _ rfl
              generalize H1 = H at hP hS ⊢
              have hk := hk.tr hw_r21179.2.1
              have hd := hw_r21179.2.2
              refine lv_aload_n hx hb dX12_either_83 rfl (lv_at hl 1 rfl) ?_
              refine va_get (D := (dC, dI)) (ci := 12) (v := .int (v21180 40)) (C := RX12) (T := TX12) (N := 63) hx hb hwd inA_X12 hown hK hP 0 rfl rfl 40 (by decide) (hwd _ wk_1005) (fun _ h9 => h9) rfl dX12_either_84 ?_
              refine lv_if_lt (tgt := 91) hx hb dX12_either_87 (by decide) (fun c21187 => ?_) (fun c21187 => ?_)
              · skip
                have t21188 := cv_lt (a := (v21180 40).toInt) rfl (b := 0) (by decide) c21187
                refine lv_aload_n hx hb dX12_either_91 rfl (lv_at hl 1 rfl) ?_
                have t21189 : 0 ≤ (v 30).toInt ∧ (v 30).toInt ≤ 120 := by have h9 := hI.1 30 _ _ rfl; rw [show v21180 30 = v 30 from (hf21182 30 (by decide)).trans ((hf21168 30 (by decide)).trans ((hf21151 30 (by decide)).trans ((hf21141 30 (by decide)).trans (hf20929 30 (by decide)))))] at h9; exact h9
                have t21190 : 0 ≤ (v21180 39).toInt ∧ (v21180 39).toInt ≤ 120 := hI.1 39 _ _ rfl
                refine va_calli (va_runV (As := []) (rest := []) ⟨hx, hb, hml, hown, hwd⟩ (c_X12_look l dC dI g c adK adV v21180 F21181 rc H.size  hg hI ) (cwV 0 hwd (gV wk_1017 wk_1014 wk_1015 wk_1016 wk_5) rfl rfl rfl (by decide +kernel) ⟨Nat.le_of_ble_eq_true rfl, Nat.le_of_ble_eq_true rfl⟩) ⟨PM.blind, va_recv hK hP (ci := 12) (q0 := 0) rfl rfl, fun U hU hW => ⟨rfl, PM.at hK hE hP hS hU hW⟩⟩ rfl rfl hl.1 rfl (lv_room (Nat.le_of_ble_eq_true rfl)) dX12_either_92 ⟨Nat.le_of_ble_eq_true rfl, Nat.le_of_ble_eq_true rfl⟩) hS (fun q _ h => (freeM hS) q h) (freeM hS) (fun r21191 u t H1 locs ht hvm hw hB hz1 hk1 hS => ?_)
                unfold BM at hB
                rw [ht] at hB
                have hP : va_P (dC, dI) classes (wM g c v21180 F21181 rc) H1 := hB
                have hw : r21191.toInt = lkM (v21180 39) (v21180 30) (F21181 24) ∧ ((v21180 39).toInt < (v21180 30).toInt ∨ r21191.toInt = -1) := hw
                rw [show v21180 30 = v 30 from (hf21182 30 (by decide)).trans ((hf21168 30 (by decide)).trans ((hf21151 30 (by decide)).trans ((hf21141 30 (by decide)).trans (hf20929 30 (by decide)))))] at hw
                rw [hF 24 (by decide)] at hw
                have hw_r21191 := hw
                generalize H1 = H at hP hS ⊢
                refine lv_bipush (v := 58) hx hb dX12_either_95 (by decide) ?_
                refine lv_icmp_eq (tgt := 105) hx hb dX12_either_97 (by decide) (fun c21192 => ?_) (fun c21192 => ?_)
                · skip
                  have t21193 := cv_eq (a := r21191.toInt) rfl (b := 58) (by decide) c21192
                  refine lv_aload_n hx hb dX12_either_105 rfl (lv_at hl 1 rfl) ?_
                  refine lv_dup hx hb dX12_either_106 rfl ?_
                  refine va_get (D := (dC, dI)) (ci := 12) (v := .int (v21180 39)) (C := RX12) (T := TX12) (N := 63) hx hb hwd inA_X12 hown hK hP 0 rfl rfl 39 (by decide) (hwd _ wk_1004) (fun _ h9 => h9) rfl dX12_either_107 ?_
                  have t21194 : 0 ≤ (v21180 39).toInt ∧ (v21180 39).toInt ≤ 120 := hI.1 39 _ _ rfl
                  refine lv_iconst (v := 1) hx hb dX12_either_110 (by decide) ?_
                  refine lv_iadd hx hb dX12_either_111 ?_
                  refine lv_topi (fun z21195 e21196 => ?_)
                  try (have t21197 := tadd e21196 (a := (v21180 39).toInt) rfl (b := 1) (by decide) (by omega))
                  refine va_put (D := (dC, dI)) (ci := 12) (v := .int z21195) (ty := .int) (C := RX12) (T := TX12) (N := 63) (fs := fsM_0 g v21180 rc) hx hb hwd inA_X12 tyX12 tyX12_ok nmX12 hown hK hP (DM hg) hS 0 rfl rfl 39 (by decide) (hwd _ wk_1004) (fun _ h9 => h9) rfl (by decide +kernel) rfl rfl (Nat.le_of_ble_eq_true rfl) dX12_either_112 (fun H locs hP _ hS => ?_)
                  have hP := va_P_eq (pM_39 g c _ _ _ _) hP
                  have hI := IM.put hI 39 z21195 rfl (by omega)
                  refine lv_aload_n hx hb dX12_either_115 rfl (lv_at hl 1 rfl) ?_
                  have t21198 : 0 ≤ (v 30).toInt ∧ (v 30).toInt ≤ 120 := by have h9 := hI.1 30 _ _ rfl; rw [show (va_up v21180 39 z21195) 30 = v 30 from (hf21182 30 (by decide)).trans ((hf21168 30 (by decide)).trans ((hf21151 30 (by decide)).trans ((hf21141 30 (by decide)).trans (hf20929 30 (by decide)))))] at h9; exact h9
                  have t21199 : 0 ≤ (v 37).toInt ∧ (v 37).toInt ≤ 9 := by have h9 := hI.1 37 _ _ rfl; rw [show (va_up v21180 39 z21195) 37 = v 37 from (hf21182 37 (by decide)).trans ((hf21168 37 (by decide)).trans ((hf21151 37 (by decide)).trans ((hf21141 37 (by decide)).trans (hf20929 37 (by decide)))))] at h9; exact h9
                  have t21200 : 0 ≤ (v21180 38).toInt ∧ (v21180 38).toInt ≤ 120 := hI.1 38 _ _ rfl
                  have t21201 : 0 ≤ z21195.toInt ∧ z21195.toInt ≤ 120 := hI.1 39 _ _ rfl
                  have t21202 : 0 ≤ (v21180 41).toInt ∧ (v21180 41).toInt ≤ 8 := hI.1 41 _ _ rfl
                  refine va_callv (va_runV (As := []) (rest := []) ⟨hx, hb, hml, hown, hwd⟩ (c_X12_either_3 l dC dI g c adK adV (va_up v21180 39 z21195) F21181 rc H.size  ((((d + 1) + 1) - 1) + 1) hg hI (by have h9 : (va_up v21180 39 z21195) 38 = v21180 38 := rfl; (try rw [h9]); clear h9; have h9 : (va_up v21180 39 z21195) 39 = z21195 := rfl; (try rw [h9]); clear h9; have h9 : (va_up v21180 39 z21195) 30 = v 30 := (hf21182 30 (by decide)).trans ((hf21168 30 (by decide)).trans ((hf21151 30 (by decide)).trans ((hf21141 30 (by decide)).trans (hf20929 30 (by decide))))); (try rw [h9]); clear h9; have h9 : (va_up v21180 39 z21195) 40 = v21180 40 := rfl; (try rw [h9]); clear h9; have h9 : (va_up v21180 39 z21195) 41 = v21180 41 := rfl; (try rw [h9]); clear h9; omega) (by have h9 : (va_up v21180 39 z21195) 37 = (v 37) := (hf21182 37 (by decide)).trans ((hf21168 37 (by decide)).trans ((hf21151 37 (by decide)).trans ((hf21141 37 (by decide)).trans (hf20929 37 (by decide))))); have h8 : (va_up v21180 39 z21195) 38 = (v21180 38) := rfl; (try rw [h9]); (try rw [h8]); exact hd (by omega))) (cwV 0 hwd (gV wk_1010 wk_1007 wk_1008 wk_1009 wk_5) rfl rfl rfl (by decide +kernel) ⟨Nat.le_of_ble_eq_true rfl, Nat.le_of_ble_eq_true rfl⟩) ⟨PM.blind, va_recv hK hP (ci := 12) (q0 := 0) rfl rfl, fun U hU hW => ⟨rfl, PM.at hK hE hP hS hU hW⟩⟩ rfl rfl hl.1 rfl (lv_room (Nat.le_of_ble_eq_true rfl)) dX12_either_116 ⟨Nat.le_of_ble_eq_true rfl, Nat.le_of_ble_eq_true rfl⟩) hS (fun q _ h => (freeM hS) q h) (freeM hS) (fun u t H1 locs ht hvm hw hB hz1 hk1 hS => ?_)
                  unfold BM at hB
                  rw [ht] at hB
                  obtain ⟨v21204, F21205, rc9⟩ := u
                  obtain ⟨hI, hrc, hf21206, hG21207, hw⟩ := hw
                  dsimp only at hI hrc hB hf21206 hG21207 hw
                  have hF := frCF (by decide) hG21207 hF
                  rw [hrc] at hB
                  have hP : va_P (dC, dI) classes (wM g c v21204 F21205 rc) H1 := hB
                  have hw : (z21195.toInt ≤ (v21204 39).toInt ∧ (v21204 39).toInt ≤ ((va_up v21180 39 z21195) 30).toInt ∧ (v21180 38).toInt ≤ (v21204 38).toInt ∧ (v21204 38).toInt - (v21180 38).toInt ≤ (v21204 39).toInt - z21195.toInt ∧ (v21180 41).toInt ≤ (v21204 41).toInt ∧ ((v21204 40).toInt < 0 → (v21204 41).toInt = (v21180 41).toInt)) ∧ keepL ((va_up v21180 39 z21195) 37) (F21181 28) (F21181 29) (F21205 28) (F21205 29) ∧ ((v21204 40).toInt < 0 → dp (F21205 28) (F21205 29) (bI ((va_up v21180 39 z21195) 37)) (v21204 38).toInt.toNat = some (((((d + 1) + 1) - 1) + 1) + 1)) := hw
                  rw [show (va_up v21180 39 z21195) 30 = v 30 from (hf21182 30 (by decide)).trans ((hf21168 30 (by decide)).trans ((hf21151 30 (by decide)).trans ((hf21141 30 (by decide)).trans (hf20929 30 (by decide)))))] at hw
                  rw [show (va_up v21180 39 z21195) 37 = v 37 from (hf21182 37 (by decide)).trans ((hf21168 37 (by decide)).trans ((hf21151 37 (by decide)).trans ((hf21141 37 (by decide)).trans (hf20929 37 (by decide)))))] at hw
                  have hw_r21203 := hw
                  have t21208 : 0 ≤ (v21204 38).toInt ∧ (v21204 38).toInt ≤ 120 := hI.1 38 _ _ rfl
                  have t21209 : 0 ≤ (v21204 39).toInt ∧ (v21204 39).toInt ≤ 120 := hI.1 39 _ _ rfl
                  have t21210 : 0 ≤ (v21204 41).toInt ∧ (v21204 41).toInt ≤ 8 := hI.1 41 _ _ rfl
                  generalize H1 = H at hP hS ⊢
                  have hk := hk.tr hw_r21203.2.1
                  have hd := hw_r21203.2.2
                  refine lv_aload_n hx hb dX12_either_119 rfl (lv_at hl 1 rfl) ?_
                  refine lv_iconst (v := 4) hx hb dX12_either_120 (by decide) ?_
                  refine lv_iconst (v := 0) hx hb dX12_either_121 (by decide) ?_
                  have t21211 : 0 ≤ (v 37).toInt ∧ (v 37).toInt ≤ 9 := by have h9 := hI.1 37 _ _ rfl; rw [show v21204 37 = v 37 from (hf21206 37 (by decide)).trans ((hf21182 37 (by decide)).trans ((hf21168 37 (by decide)).trans ((hf21151 37 (by decide)).trans ((hf21141 37 (by decide)).trans (hf20929 37 (by decide))))))] at h9; exact h9
                  have t21212 : 0 ≤ (v21204 38).toInt ∧ (v21204 38).toInt ≤ 120 := hI.1 38 _ _ rfl
                  refine va_callv (va_runV (As := [.int 4, .int 0]) (rest := []) ⟨hx, hb, hml, hown, hwd⟩ (c_X12_lay l dC dI g c adK adV v21204 F21205 rc H.size 4 0 hg hI (by have h9 : v21204 38 = v21204 38 := rfl; rw [h9]; omega)) (cwV 2 hwd (gV wk_1021 wk_1018 wk_1019 wk_1020 wk_5) rfl rfl rfl (by decide +kernel) ⟨Nat.le_of_ble_eq_true rfl, Nat.le_of_ble_eq_true rfl⟩) ⟨PM.blind, va_recv hK hP (ci := 12) (q0 := 0) rfl rfl, fun U hU hW => ⟨rfl, PM.at hK hE hP hS hU hW⟩⟩ rfl rfl hl.1 rfl (lv_room (Nat.le_of_ble_eq_true rfl)) dX12_either_122 ⟨Nat.le_of_ble_eq_true rfl, Nat.le_of_ble_eq_true rfl⟩) hS (fun q _ h => (freeM hS) q h) (freeM hS) (fun u t H1 locs ht hvm hw hB hz1 hk1 hS => ?_)
                  unfold BM at hB
                  rw [ht] at hB
                  obtain ⟨v21214, F21215, rc9⟩ := u
                  obtain ⟨hI, hrc, hf21216, hG21217, hw⟩ := hw
                  dsimp only at hI hrc hB hf21216 hG21217 hw
                  have hF := frCF (by decide) hG21217 hF
                  rw [hrc] at hB
                  have hP : va_P (dC, dI) classes (wM g c v21214 F21215 rc) H1 := hB
                  have hw : (v21214 38).toInt = (v21204 38).toInt + 1 ∧ keepL (v21204 37) (F21205 28) (F21205 29) (F21215 28) (F21215 29) ∧ dp (F21215 28) (F21215 29) (bI (v21204 37)) ((v21204 38).toInt.toNat + 1) = dpS (dp (F21205 28) (F21205 29) (bI (v21204 37)) (v21204 38).toInt.toNat) (4 : Int32) (0 : Int32) := hw
                  rw [show v21204 37 = v 37 from (hf21206 37 (by decide)).trans ((hf21182 37 (by decide)).trans ((hf21168 37 (by decide)).trans ((hf21151 37 (by decide)).trans ((hf21141 37 (by decide)).trans (hf20929 37 (by decide))))))] at hw
                  have hw_r21213 := hw
                  have t21218 : 0 ≤ (v21214 38).toInt ∧ (v21214 38).toInt ≤ 120 := hI.1 38 _ _ rfl
                  have k21219 : (4 : Int32).toInt = 4 := by decide
                  have k21220 : (0 : Int32).toInt = 0 := by decide
                  generalize H1 = H at hP hS ⊢
                  have hk := hk.tr hw_r21213.2.1
                  have hd : (v21204 40).toInt < 0 → dp (F21215 28) (F21215 29) (bI (v 37)) (v21214 38).toInt.toNat = some ((((((d + 1) + 1) - 1) + 1) + 1) - 2) := fun hf => (by have e9 : (v21214 38).toInt.toNat = (v21204 38).toInt.toNat + 1 := (by omega); rw [e9, hw_r21213.2.2, hd hf]; exact dpS_4 (by decide) (by omega))
                  refine lv_aload_n hx hb dX12_either_125 rfl (lv_at hl 1 rfl) ?_
                  refine lv_dup hx hb dX12_either_126 rfl ?_
                  refine va_get (D := (dC, dI)) (ci := 12) (v := .int (v21214 41)) (C := RX12) (T := TX12) (N := 63) hx hb hwd inA_X12 hown hK hP 0 rfl rfl 41 (by decide) (hwd _ wk_1006) (fun _ h9 => h9) rfl dX12_either_127 ?_
                  refine my_top (v := v21204 41) (hf21216 41 (by decide)) ?_
                  have t21221 : 0 ≤ (v21204 41).toInt ∧ (v21204 41).toInt ≤ 8 := by have h9 := hI.1 41 _ _ rfl; rw [show v21214 41 = v21204 41 from hf21216 41 (by decide)] at h9; exact h9
                  refine lv_iconst (v := 1) hx hb dX12_either_130 (by decide) ?_
                  refine lv_isub hx hb dX12_either_131 ?_
                  refine lv_topi (fun z21222 e21223 => ?_)
                  try (have t21224 := tsub e21223 (a := (v21204 41).toInt) rfl (b := 1) (by decide) (by omega))
                  refine va_put (D := (dC, dI)) (ci := 12) (v := .int z21222) (ty := .int) (C := RX12) (T := TX12) (N := 63) (fs := fsM_0 g v21214 rc) hx hb hwd inA_X12 tyX12 tyX12_ok nmX12 hown hK hP (DM hg) hS 0 rfl rfl 41 (by decide) (hwd _ wk_1006) (fun _ h9 => h9) rfl (by decide +kernel) rfl rfl (Nat.le_of_ble_eq_true rfl) dX12_either_132 (fun H locs hP _ hS => ?_)
                  have hP := va_P_eq (pM_41 g c _ _ _ _) hP
                  have hI := IM.put hI 41 z21222 rfl (by omega)
                  have hP9 : va_P (dC, dI) classes (wM g c (va_up v21214 41 z21222) F21215 rc) H := hP
                  exact W.vret hx hb hr (fun t ht hW => ⟨⟨((va_up v21214 41 z21222), F21215, rc), rfl, ⟨hI, rfl, (frU (by decide) (frC (by decide) hf21216 (frC (by decide) hf21206 (frU (by decide) (frC (by decide) hf21182 (frC (by decide) hf21168 (frC (by decide) hf21151 (frC (by decide) hf21141 (frU (by decide) (frC (by decide) hf20929 (fun _ _ => rfl))))))))))), hF, (by show ((v 39).toInt ≤ ((va_up v21214 41 z21222) 39).toInt ∧ ((va_up v21214 41 z21222) 39).toInt ≤ (v 30).toInt ∧ (v 38).toInt ≤ (v21214 38).toInt ∧ (v21214 38).toInt - (v 38).toInt ≤ ((va_up v21214 41 z21222) 39).toInt - (v 39).toInt ∧ (v 41).toInt ≤ z21222.toInt ∧ (((va_up v21214 41 z21222) 40).toInt < 0 → z21222.toInt = (v 41).toInt)) ∧ keepL (v 37) (F 28) (F 29) (F21215 28) (F21215 29) ∧ (((va_up v21214 41 z21222) 40).toInt < 0 → dp (F21215 28) (F21215 29) (bI (v 37)) (v21214 38).toInt.toNat = some (d + 1)); rw [show (va_up v21214 41 z21222) 39 = v21204 39 from hf21216 39 (by decide)]; rw [show (va_up v21214 41 z21222) 40 = v21204 40 from hf21216 40 (by decide)]; exact ⟨by omega, hk, fun hf => (hd (by omega)).trans (congrArg some (by omega))⟩)⟩, (by show va_P _ _ _ t.heap; rw [ht]; exact hP9)⟩, hS.F ht⟩) hS.2.2 dX12_either_135
                · skip
                  have t21225 := cv_ne (a := r21191.toInt) rfl (b := 58) (by decide) c21192
                  refine lv_aload_n hx hb dX12_either_100 rfl (lv_at hl 1 rfl) ?_
                  refine va_callv (va_runV (As := []) (rest := []) ⟨hx, hb, hml, hown, hwd⟩ (c_X12_wrong l dC dI g c adK adV v21180 F21181 rc H.size  hg hI ) (cwV 0 hwd (gV wk_1029 wk_1026 wk_1027 wk_1028 wk_5) rfl rfl rfl (by decide +kernel) ⟨Nat.le_of_ble_eq_true rfl, Nat.le_of_ble_eq_true rfl⟩) ⟨PM.blind, va_recv hK hP (ci := 12) (q0 := 0) rfl rfl, fun U hU hW => ⟨rfl, PM.at hK hE hP hS hU hW⟩⟩ rfl rfl hl.1 rfl (lv_room (Nat.le_of_ble_eq_true rfl)) dX12_either_101 ⟨Nat.le_of_ble_eq_true rfl, Nat.le_of_ble_eq_true rfl⟩) hS (fun q _ h => (freeM hS) q h) (freeM hS) (fun u t H1 locs ht hvm hw hB hz1 hk1 hS => ?_)
                  unfold BM at hB
                  rw [ht] at hB
                  obtain ⟨v21227, F21228, rc9⟩ := u
                  obtain ⟨hI, hrc, hf21229, hG21230, hw⟩ := hw
                  dsimp only at hI hrc hB hf21229 hG21230 hw
                  have hF := frCF (by decide) hG21230 hF
                  rw [hrc] at hB
                  have hP : va_P (dC, dI) classes (wM g c v21227 F21228 rc) H1 := hB
                  have hw : 0 ≤ (v21227 40).toInt := hw
                  have hw_r21226 := hw
                  generalize H1 = H at hP hS ⊢
                  have hk : keepL (v 37) (F 28) (F 29) (F21228 28) (F21228 29) := by rw [hG21230 28 (by decide), hG21230 29 (by decide)]; exact hk
                  have hd : (v21227 40).toInt < 0 → dp (F21228 28) (F21228 29) (bI (v 37)) (v21180 38).toInt.toNat = some ((((d + 1) + 1) - 1) + 1) := fun hf => (by rw [hG21230 28 (by decide), hG21230 29 (by decide)]; exact hd (by omega))
                  have hP9 : va_P (dC, dI) classes (wM g c v21227 F21228 rc) H := hP
                  exact W.vret hx hb hr (fun t ht hW => ⟨⟨(v21227, F21228, rc), rfl, ⟨hI, rfl, (frC (by decide) hf21229 (frC (by decide) hf21182 (frC (by decide) hf21168 (frC (by decide) hf21151 (frC (by decide) hf21141 (frU (by decide) (frC (by decide) hf20929 (fun _ _ => rfl)))))))), hF, (by show ((v 39).toInt ≤ (v21227 39).toInt ∧ (v21227 39).toInt ≤ (v 30).toInt ∧ (v 38).toInt ≤ (v21227 38).toInt ∧ (v21227 38).toInt - (v 38).toInt ≤ (v21227 39).toInt - (v 39).toInt ∧ (v 41).toInt ≤ (v21227 41).toInt ∧ ((v21227 40).toInt < 0 → (v21227 41).toInt = (v 41).toInt)) ∧ keepL (v 37) (F 28) (F 29) (F21228 28) (F21228 29) ∧ ((v21227 40).toInt < 0 → dp (F21228 28) (F21228 29) (bI (v 37)) (v21227 38).toInt.toNat = some (d + 1)); rw [show v21227 39 = v21180 39 from hf21229 39 (by decide)]; rw [show v21227 38 = v21180 38 from hf21229 38 (by decide)]; rw [show v21227 41 = v21180 41 from hf21229 41 (by decide)]; exact ⟨by omega, hk, fun hf => (hd (by omega)).trans (congrArg some (by omega))⟩)⟩, (by show va_P _ _ _ t.heap; rw [ht]; exact hP9)⟩, hS.F ht⟩) hS.2.2 dX12_either_104
              · skip
                have t21231 := cv_nlt (a := (v21180 40).toInt) rfl (b := 0) (by decide) c21187
                have hP9 : va_P (dC, dI) classes (wM g c v21180 F21181 rc) H := hP
                exact W.vret hx hb hr (fun t ht hW => ⟨⟨(v21180, F21181, rc), rfl, ⟨hI, rfl, (frC (by decide) hf21182 (frC (by decide) hf21168 (frC (by decide) hf21151 (frC (by decide) hf21141 (frU (by decide) (frC (by decide) hf20929 (fun _ _ => rfl))))))), hF, (by show ((v 39).toInt ≤ (v21180 39).toInt ∧ (v21180 39).toInt ≤ (v 30).toInt ∧ (v 38).toInt ≤ (v21180 38).toInt ∧ (v21180 38).toInt - (v 38).toInt ≤ (v21180 39).toInt - (v 39).toInt ∧ (v 41).toInt ≤ (v21180 41).toInt ∧ ((v21180 40).toInt < 0 → (v21180 41).toInt = (v 41).toInt)) ∧ keepL (v 37) (F 28) (F 29) (F21181 28) (F21181 29) ∧ ((v21180 40).toInt < 0 → dp (F21181 28) (F21181 29) (bI (v 37)) (v21180 38).toInt.toNat = some (d + 1)); exact ⟨by omega, hk, fun hf => (hd (by omega)).trans (congrArg some (by omega))⟩)⟩, (by show va_P _ _ _ t.heap; rw [ht]; exact hP9)⟩, hS.F ht⟩) hS.2.2 dX12_either_90
            · skip
              have t21232 := cv_eq (a := r21165.toInt) rfl (b := 0) (by decide) c21172
              have hP9 : va_P (dC, dI) classes (wM g c v21166 F21167 rc) H := hP
              exact W.vret hx hb hr (fun t ht hW => ⟨⟨(v21166, F21167, rc), rfl, ⟨hI, rfl, (frC (by decide) hf21168 (frC (by decide) hf21151 (frC (by decide) hf21141 (frU (by decide) (frC (by decide) hf20929 (fun _ _ => rfl)))))), hF, (by show ((v 39).toInt ≤ (v21166 39).toInt ∧ (v21166 39).toInt ≤ (v 30).toInt ∧ (v 38).toInt ≤ (v21166 38).toInt ∧ (v21166 38).toInt - (v 38).toInt ≤ (v21166 39).toInt - (v 39).toInt ∧ (v 41).toInt ≤ (v21166 41).toInt ∧ ((v21166 40).toInt < 0 → (v21166 41).toInt = (v 41).toInt)) ∧ keepL (v 37) (F 28) (F 29) (F21167 28) (F21167 29) ∧ ((v21166 40).toInt < 0 → dp (F21167 28) (F21167 29) (bI (v 37)) (v21166 38).toInt.toNat = some (d + 1)); rw [show v21166 38 = v21149 38 from hf21168 38 (by decide)]; exact ⟨by omega, hk, fun hf => (hd (by omega)).trans (congrArg some (by omega))⟩)⟩, (by show va_P _ _ _ t.heap; rw [ht]; exact hP9)⟩, hS.F ht⟩) hS.2.2 dX12_either_78
          · skip
            have t21233 := cv_ne (a := r21160.toInt) rfl (b := 63) (by decide) c21161
            have hP9 : va_P (dC, dI) classes (wM g c v21149 F21150 rc) H := hP
            exact W.vret hx hb hr (fun t ht hW => ⟨⟨(v21149, F21150, rc), rfl, ⟨hI, rfl, (frC (by decide) hf21151 (frC (by decide) hf21141 (frU (by decide) (frC (by decide) hf20929 (fun _ _ => rfl))))), hF, (by show ((v 39).toInt ≤ (v21149 39).toInt ∧ (v21149 39).toInt ≤ (v 30).toInt ∧ (v 38).toInt ≤ (v21149 38).toInt ∧ (v21149 38).toInt - (v 38).toInt ≤ (v21149 39).toInt - (v 39).toInt ∧ (v 41).toInt ≤ (v21149 41).toInt ∧ ((v21149 40).toInt < 0 → (v21149 41).toInt = (v 41).toInt)) ∧ keepL (v 37) (F 28) (F 29) (F21150 28) (F21150 29) ∧ ((v21149 40).toInt < 0 → dp (F21150 28) (F21150 29) (bI (v 37)) (v21149 38).toInt.toNat = some (d + 1)); rw [show v21149 39 = v21139 39 from hf21151 39 (by decide)]; rw [show v21149 41 = v21139 41 from hf21151 41 (by decide)]; rw [show v21149 40 = v21139 40 from hf21151 40 (by decide)]; exact ⟨by omega, hk, fun hf => (hd (by omega)).trans (congrArg some (by omega))⟩)⟩, (by show va_P _ _ _ t.heap; rw [ht]; exact hP9)⟩, hS.F ht⟩) hS.2.2 dX12_either_70
      · skip
        have t21234 := cv_ne (a := r20936.toInt) rfl (b := 61) (by decide) c21127
        refine lv_iload_n hx hb dX12_either_28 rfl (lv_at hl 0 rfl) ?_
        refine lv_bipush (v := 62) hx hb dX12_either_29 (by decide) ?_
        refine lv_icmp_ne (tgt := 54) hx hb dX12_either_31 (by decide) (fun c21235 => ?_) (fun c21235 => ?_)
        · skip
          have t21236 := cv_ne (a := r20936.toInt) rfl (b := 62) (by decide) c21235
          refine lv_aload_n hx hb dX12_either_54 rfl (lv_at hl 1 rfl) ?_
          refine va_get (D := (dC, dI)) (ci := 12) (v := .int (v20927 40)) (C := RX12) (T := TX12) (N := 63) hx hb hwd inA_X12 hown hK hP 0 rfl rfl 40 (by decide) (hwd _ wk_1005) (fun _ h9 => h9) rfl dX12_either_55 ?_
          refine lv_if_ge (tgt := 70) hx hb dX12_either_58 (by decide) (fun c21237 => ?_) (fun c21237 => ?_)
          · skip
            have t21238 := cv_le (a := 0) (by decide) (b := (v20927 40).toInt) rfl c21237
            have hP9 : va_P (dC, dI) classes (wM g c v20927 F20928 rc) H := hP
            exact W.vret hx hb hr (fun t ht hW => ⟨⟨(v20927, F20928, rc), rfl, ⟨hI, rfl, (frC (by decide) hf20929 (fun _ _ => rfl)), hF, (by show ((v 39).toInt ≤ (v20927 39).toInt ∧ (v20927 39).toInt ≤ (v 30).toInt ∧ (v 38).toInt ≤ (v20927 38).toInt ∧ (v20927 38).toInt - (v 38).toInt ≤ (v20927 39).toInt - (v 39).toInt ∧ (v 41).toInt ≤ (v20927 41).toInt ∧ ((v20927 40).toInt < 0 → (v20927 41).toInt = (v 41).toInt)) ∧ keepL (v 37) (F 28) (F 29) (F20928 28) (F20928 29) ∧ ((v20927 40).toInt < 0 → dp (F20928 28) (F20928 29) (bI (v 37)) (v20927 38).toInt.toNat = some (d + 1)); exact ⟨by omega, hk, fun hf => (hd (by omega)).trans (congrArg some (by omega))⟩)⟩, (by show va_P _ _ _ t.heap; rw [ht]; exact hP9)⟩, hS.F ht⟩) hS.2.2 dX12_either_70
          · skip
            have t21239 := cv_nle (a := 0) (by decide) (b := (v20927 40).toInt) rfl c21237
            refine lv_aload_n hx hb dX12_either_61 rfl (lv_at hl 1 rfl) ?_
            have t21240 : 0 ≤ (v 30).toInt ∧ (v 30).toInt ≤ 120 := by have h9 := hI.1 30 _ _ rfl; rw [show v20927 30 = v 30 from hf20929 30 (by decide)] at h9; exact h9
            have t21241 : 0 ≤ (v20927 39).toInt ∧ (v20927 39).toInt ≤ 120 := hI.1 39 _ _ rfl
            refine va_calli (va_runV (As := []) (rest := []) ⟨hx, hb, hml, hown, hwd⟩ (c_X12_look l dC dI g c adK adV v20927 F20928 rc H.size  hg hI ) (cwV 0 hwd (gV wk_1017 wk_1014 wk_1015 wk_1016 wk_5) rfl rfl rfl (by decide +kernel) ⟨Nat.le_of_ble_eq_true rfl, Nat.le_of_ble_eq_true rfl⟩) ⟨PM.blind, va_recv hK hP (ci := 12) (q0 := 0) rfl rfl, fun U hU hW => ⟨rfl, PM.at hK hE hP hS hU hW⟩⟩ rfl rfl hl.1 rfl (lv_room (Nat.le_of_ble_eq_true rfl)) dX12_either_62 ⟨Nat.le_of_ble_eq_true rfl, Nat.le_of_ble_eq_true rfl⟩) hS (fun q _ h => (freeM hS) q h) (freeM hS) (fun r21242 u t H1 locs ht hvm hw hB hz1 hk1 hS => ?_)
            unfold BM at hB
            rw [ht] at hB
            have hP : va_P (dC, dI) classes (wM g c v20927 F20928 rc) H1 := hB
            have hw : r21242.toInt = lkM (v20927 39) (v20927 30) (F20928 24) ∧ ((v20927 39).toInt < (v20927 30).toInt ∨ r21242.toInt = -1) := hw
            rw [show v20927 30 = v 30 from hf20929 30 (by decide)] at hw
            rw [hF 24 (by decide)] at hw
            have hw_r21242 := hw
            generalize H1 = H at hP hS ⊢
            refine lv_bipush (v := 63) hx hb dX12_either_65 (by decide) ?_
            refine lv_icmp_eq (tgt := 71) hx hb dX12_either_67 (by decide) (fun c21243 => ?_) (fun c21243 => ?_)
            · skip
              have t21244 := cv_eq (a := r21242.toInt) rfl (b := 63) (by decide) c21243
              refine lv_aload_n hx hb dX12_either_71 rfl (lv_at hl 1 rfl) ?_
              have t21245 : 0 ≤ (v20927 39).toInt ∧ (v20927 39).toInt ≤ 120 := hI.1 39 _ _ rfl
              have t21246 : 0 ≤ (v20927 41).toInt ∧ (v20927 41).toInt ≤ 8 := hI.1 41 _ _ rfl
              refine va_calli (va_runV (As := []) (rest := []) ⟨hx, hb, hml, hown, hwd⟩ (c_X12_opens l dC dI g c adK adV v20927 F20928 rc H.size  hg hI (by have h9 : v20927 39 = v20927 39 := rfl; (try rw [h9]); clear h9; have h9 : v20927 30 = v 30 := hf20929 30 (by decide); (try rw [h9]); clear h9; omega)) (cwV 0 hwd (gV wk_1025 wk_1022 wk_1023 wk_1024 wk_5) rfl rfl rfl (by decide +kernel) ⟨Nat.le_of_ble_eq_true rfl, Nat.le_of_ble_eq_true rfl⟩) ⟨PM.blind, va_recv hK hP (ci := 12) (q0 := 0) rfl rfl, fun U hU hW => ⟨rfl, PM.at hK hE hP hS hU hW⟩⟩ rfl rfl hl.1 rfl (lv_room (Nat.le_of_ble_eq_true rfl)) dX12_either_72 ⟨Nat.le_of_ble_eq_true rfl, Nat.le_of_ble_eq_true rfl⟩) hS (fun q _ h => (freeM hS) q h) (freeM hS) (fun r21247 u t H1 locs ht hvm hw hB hz1 hk1 hS => ?_)
              unfold BM at hB
              rw [ht] at hB
              obtain ⟨v21248, F21249, rc9⟩ := u
              obtain ⟨hI, hrc, hf21250, hG21251, hw⟩ := hw
              dsimp only at hI hrc hB hf21250 hG21251 hw
              have hF := frCF (by decide) hG21251 hF
              rw [hrc] at hB
              have hP : va_P (dC, dI) classes (wM g c v21248 F21249 rc) H1 := hB
              have hw : (r21247.toInt = 1 ∧ (v20927 41).toInt < 8 ∧ (v21248 41).toInt = (v20927 41).toInt + 1 ∧ (v21248 39).toInt = (v20927 39).toInt + 1 ∧ (v21248 40).toInt = (v20927 40).toInt) ∨ (r21247.toInt = 0 ∧ (v20927 41).toInt = 8 ∧ 0 ≤ (v21248 40).toInt ∧ (v21248 41).toInt = (v20927 41).toInt ∧ (v21248 39).toInt = (v20927 39).toInt) := hw
              have hw_r21247 := hw
              have t21252 : 0 ≤ (v21248 39).toInt ∧ (v21248 39).toInt ≤ 120 := hI.1 39 _ _ rfl
              have t21253 : 0 ≤ (v21248 41).toInt ∧ (v21248 41).toInt ≤ 8 := hI.1 41 _ _ rfl
              generalize H1 = H at hP hS ⊢
              have hk : keepL (v 37) (F 28) (F 29) (F21249 28) (F21249 29) := by rw [hG21251 28 (by decide), hG21251 29 (by decide)]; exact hk
              have hd : (v21248 40).toInt < 0 → dp (F21249 28) (F21249 29) (bI (v 37)) (v20927 38).toInt.toNat = some (d + 1) := fun hf => (by rw [hG21251 28 (by decide), hG21251 29 (by decide)]; exact hd (by omega))
              refine lv_if_ne (tgt := 79) hx hb dX12_either_75 (by decide) (fun c21254 => ?_) (fun c21254 => ?_)
              · skip
                have t21255 := cv_ne (a := r21247.toInt) rfl (b := 0) (by decide) c21254
                refine lv_aload_n hx hb dX12_either_79 rfl (lv_at hl 1 rfl) ?_
                have t21256 : 0 ≤ (v 30).toInt ∧ (v 30).toInt ≤ 120 := by have h9 := hI.1 30 _ _ rfl; rw [show v21248 30 = v 30 from (hf21250 30 (by decide)).trans (hf20929 30 (by decide))] at h9; exact h9
                have t21257 : 0 ≤ (v 37).toInt ∧ (v 37).toInt ≤ 9 := by have h9 := hI.1 37 _ _ rfl; rw [show v21248 37 = v 37 from (hf21250 37 (by decide)).trans (hf20929 37 (by decide))] at h9; exact h9
                have t21258 : 0 ≤ (v20927 38).toInt ∧ (v20927 38).toInt ≤ 120 := by have h9 := hI.1 38 _ _ rfl; rw [show v21248 38 = v20927 38 from hf21250 38 (by decide)] at h9; exact h9
                have t21259 : 0 ≤ (v21248 39).toInt ∧ (v21248 39).toInt ≤ 120 := hI.1 39 _ _ rfl
                have t21260 : 0 ≤ (v21248 41).toInt ∧ (v21248 41).toInt ≤ 8 := hI.1 41 _ _ rfl
                refine va_callv (va_runV (As := []) (rest := []) ⟨hx, hb, hml, hown, hwd⟩ (c_X12_either_3 l dC dI g c adK adV v21248 F21249 rc H.size  (d + 1) hg hI (by have h9 : v21248 38 = v20927 38 := hf21250 38 (by decide); (try rw [h9]); clear h9; have h9 : v21248 39 = v21248 39 := rfl; (try rw [h9]); clear h9; have h9 : v21248 30 = v 30 := (hf21250 30 (by decide)).trans (hf20929 30 (by decide)); (try rw [h9]); clear h9; have h9 : v21248 40 = v21248 40 := rfl; (try rw [h9]); clear h9; have h9 : v21248 41 = v21248 41 := rfl; (try rw [h9]); clear h9; omega) (by have h9 : v21248 37 = (v 37) := (hf21250 37 (by decide)).trans (hf20929 37 (by decide)); have h8 : v21248 38 = (v20927 38) := hf21250 38 (by decide); (try rw [h9]); (try rw [h8]); exact hd (by omega))) (cwV 0 hwd (gV wk_1010 wk_1007 wk_1008 wk_1009 wk_5) rfl rfl rfl (by decide +kernel) ⟨Nat.le_of_ble_eq_true rfl, Nat.le_of_ble_eq_true rfl⟩) ⟨PM.blind, va_recv hK hP (ci := 12) (q0 := 0) rfl rfl, fun U hU hW => ⟨rfl, PM.at hK hE hP hS hU hW⟩⟩ rfl rfl hl.1 rfl (lv_room (Nat.le_of_ble_eq_true rfl)) dX12_either_80 ⟨Nat.le_of_ble_eq_true rfl, Nat.le_of_ble_eq_true rfl⟩) hS (fun q _ h => (freeM hS) q h) (freeM hS) (fun u t H1 locs ht hvm hw hB hz1 hk1 hS => ?_)
                unfold BM at hB
                rw [ht] at hB
                obtain ⟨v21262, F21263, rc9⟩ := u
                obtain ⟨hI, hrc, hf21264, hG21265, hw⟩ := hw
                dsimp only at hI hrc hB hf21264 hG21265 hw
                have hF := frCF (by decide) hG21265 hF
                rw [hrc] at hB
                have hP : va_P (dC, dI) classes (wM g c v21262 F21263 rc) H1 := hB
                have hw : ((v21248 39).toInt ≤ (v21262 39).toInt ∧ (v21262 39).toInt ≤ (v21248 30).toInt ∧ (v21248 38).toInt ≤ (v21262 38).toInt ∧ (v21262 38).toInt - (v21248 38).toInt ≤ (v21262 39).toInt - (v21248 39).toInt ∧ (v21248 41).toInt ≤ (v21262 41).toInt ∧ ((v21262 40).toInt < 0 → (v21262 41).toInt = (v21248 41).toInt)) ∧ keepL (v21248 37) (F21249 28) (F21249 29) (F21263 28) (F21263 29) ∧ ((v21262 40).toInt < 0 → dp (F21263 28) (F21263 29) (bI (v21248 37)) (v21262 38).toInt.toNat = some ((d + 1) + 1)) := hw
                rw [show v21248 30 = v 30 from (hf21250 30 (by decide)).trans (hf20929 30 (by decide))] at hw
                rw [show v21248 38 = v20927 38 from hf21250 38 (by decide)] at hw
                rw [show v21248 37 = v 37 from (hf21250 37 (by decide)).trans (hf20929 37 (by decide))] at hw
                have hw_r21261 := hw
                have t21266 : 0 ≤ (v21262 38).toInt ∧ (v21262 38).toInt ≤ 120 := hI.1 38 _ _ rfl
                have t21267 : 0 ≤ (v21262 39).toInt ∧ (v21262 39).toInt ≤ 120 := hI.1 39 _ _ rfl
                have t21268 : 0 ≤ (v21262 41).toInt ∧ (v21262 41).toInt ≤ 8 := hI.1 41 _ _ rfl
                generalize H1 = H at hP hS ⊢
                have hk := hk.tr hw_r21261.2.1
                have hd := hw_r21261.2.2
                refine lv_aload_n hx hb dX12_either_83 rfl (lv_at hl 1 rfl) ?_
                refine va_get (D := (dC, dI)) (ci := 12) (v := .int (v21262 40)) (C := RX12) (T := TX12) (N := 63) hx hb hwd inA_X12 hown hK hP 0 rfl rfl 40 (by decide) (hwd _ wk_1005) (fun _ h9 => h9) rfl dX12_either_84 ?_
                refine lv_if_lt (tgt := 91) hx hb dX12_either_87 (by decide) (fun c21269 => ?_) (fun c21269 => ?_)
                · skip
                  have t21270 := cv_lt (a := (v21262 40).toInt) rfl (b := 0) (by decide) c21269
                  refine lv_aload_n hx hb dX12_either_91 rfl (lv_at hl 1 rfl) ?_
                  have t21271 : 0 ≤ (v 30).toInt ∧ (v 30).toInt ≤ 120 := by have h9 := hI.1 30 _ _ rfl; rw [show v21262 30 = v 30 from (hf21264 30 (by decide)).trans ((hf21250 30 (by decide)).trans (hf20929 30 (by decide)))] at h9; exact h9
                  have t21272 : 0 ≤ (v21262 39).toInt ∧ (v21262 39).toInt ≤ 120 := hI.1 39 _ _ rfl
                  refine va_calli (va_runV (As := []) (rest := []) ⟨hx, hb, hml, hown, hwd⟩ (c_X12_look l dC dI g c adK adV v21262 F21263 rc H.size  hg hI ) (cwV 0 hwd (gV wk_1017 wk_1014 wk_1015 wk_1016 wk_5) rfl rfl rfl (by decide +kernel) ⟨Nat.le_of_ble_eq_true rfl, Nat.le_of_ble_eq_true rfl⟩) ⟨PM.blind, va_recv hK hP (ci := 12) (q0 := 0) rfl rfl, fun U hU hW => ⟨rfl, PM.at hK hE hP hS hU hW⟩⟩ rfl rfl hl.1 rfl (lv_room (Nat.le_of_ble_eq_true rfl)) dX12_either_92 ⟨Nat.le_of_ble_eq_true rfl, Nat.le_of_ble_eq_true rfl⟩) hS (fun q _ h => (freeM hS) q h) (freeM hS) (fun r21273 u t H1 locs ht hvm hw hB hz1 hk1 hS => ?_)
                  unfold BM at hB
                  rw [ht] at hB
                  have hP : va_P (dC, dI) classes (wM g c v21262 F21263 rc) H1 := hB
                  have hw : r21273.toInt = lkM (v21262 39) (v21262 30) (F21263 24) ∧ ((v21262 39).toInt < (v21262 30).toInt ∨ r21273.toInt = -1) := hw
                  rw [show v21262 30 = v 30 from (hf21264 30 (by decide)).trans ((hf21250 30 (by decide)).trans (hf20929 30 (by decide)))] at hw
                  rw [hF 24 (by decide)] at hw
                  have hw_r21273 := hw
                  generalize H1 = H at hP hS ⊢
                  refine lv_bipush (v := 58) hx hb dX12_either_95 (by decide) ?_
                  refine lv_icmp_eq (tgt := 105) hx hb dX12_either_97 (by decide) (fun c21274 => ?_) (fun c21274 => ?_)
                  · skip
                    have t21275 := cv_eq (a := r21273.toInt) rfl (b := 58) (by decide) c21274
                    refine lv_aload_n hx hb dX12_either_105 rfl (lv_at hl 1 rfl) ?_
                    refine lv_dup hx hb dX12_either_106 rfl ?_
                    refine va_get (D := (dC, dI)) (ci := 12) (v := .int (v21262 39)) (C := RX12) (T := TX12) (N := 63) hx hb hwd inA_X12 hown hK hP 0 rfl rfl 39 (by decide) (hwd _ wk_1004) (fun _ h9 => h9) rfl dX12_either_107 ?_
                    have t21276 : 0 ≤ (v21262 39).toInt ∧ (v21262 39).toInt ≤ 120 := hI.1 39 _ _ rfl
                    refine lv_iconst (v := 1) hx hb dX12_either_110 (by decide) ?_
                    refine lv_iadd hx hb dX12_either_111 ?_
                    refine lv_topi (fun z21277 e21278 => ?_)
                    try (have t21279 := tadd e21278 (a := (v21262 39).toInt) rfl (b := 1) (by decide) (by omega))
                    refine va_put (D := (dC, dI)) (ci := 12) (v := .int z21277) (ty := .int) (C := RX12) (T := TX12) (N := 63) (fs := fsM_0 g v21262 rc) hx hb hwd inA_X12 tyX12 tyX12_ok nmX12 hown hK hP (DM hg) hS 0 rfl rfl 39 (by decide) (hwd _ wk_1004) (fun _ h9 => h9) rfl (by decide +kernel) rfl rfl (Nat.le_of_ble_eq_true rfl) dX12_either_112 (fun H locs hP _ hS => ?_)
                    have hP := va_P_eq (pM_39 g c _ _ _ _) hP
                    have hI := IM.put hI 39 z21277 rfl (by omega)
                    refine lv_aload_n hx hb dX12_either_115 rfl (lv_at hl 1 rfl) ?_
                    have t21280 : 0 ≤ (v 30).toInt ∧ (v 30).toInt ≤ 120 := by have h9 := hI.1 30 _ _ rfl; rw [show (va_up v21262 39 z21277) 30 = v 30 from (hf21264 30 (by decide)).trans ((hf21250 30 (by decide)).trans (hf20929 30 (by decide)))] at h9; exact h9
                    have t21281 : 0 ≤ (v 37).toInt ∧ (v 37).toInt ≤ 9 := by have h9 := hI.1 37 _ _ rfl; rw [show (va_up v21262 39 z21277) 37 = v 37 from (hf21264 37 (by decide)).trans ((hf21250 37 (by decide)).trans (hf20929 37 (by decide)))] at h9; exact h9
                    have t21282 : 0 ≤ (v21262 38).toInt ∧ (v21262 38).toInt ≤ 120 := hI.1 38 _ _ rfl
                    have t21283 : 0 ≤ z21277.toInt ∧ z21277.toInt ≤ 120 := hI.1 39 _ _ rfl
                    have t21284 : 0 ≤ (v21262 41).toInt ∧ (v21262 41).toInt ≤ 8 := hI.1 41 _ _ rfl
                    refine va_callv (va_runV (As := []) (rest := []) ⟨hx, hb, hml, hown, hwd⟩ (c_X12_either_3 l dC dI g c adK adV (va_up v21262 39 z21277) F21263 rc H.size  ((d + 1) + 1) hg hI (by have h9 : (va_up v21262 39 z21277) 38 = v21262 38 := rfl; (try rw [h9]); clear h9; have h9 : (va_up v21262 39 z21277) 39 = z21277 := rfl; (try rw [h9]); clear h9; have h9 : (va_up v21262 39 z21277) 30 = v 30 := (hf21264 30 (by decide)).trans ((hf21250 30 (by decide)).trans (hf20929 30 (by decide))); (try rw [h9]); clear h9; have h9 : (va_up v21262 39 z21277) 40 = v21262 40 := rfl; (try rw [h9]); clear h9; have h9 : (va_up v21262 39 z21277) 41 = v21262 41 := rfl; (try rw [h9]); clear h9; omega) (by have h9 : (va_up v21262 39 z21277) 37 = (v 37) := (hf21264 37 (by decide)).trans ((hf21250 37 (by decide)).trans (hf20929 37 (by decide))); have h8 : (va_up v21262 39 z21277) 38 = (v21262 38) := rfl; (try rw [h9]); (try rw [h8]); exact hd (by omega))) (cwV 0 hwd (gV wk_1010 wk_1007 wk_1008 wk_1009 wk_5) rfl rfl rfl (by decide +kernel) ⟨Nat.le_of_ble_eq_true rfl, Nat.le_of_ble_eq_true rfl⟩) ⟨PM.blind, va_recv hK hP (ci := 12) (q0 := 0) rfl rfl, fun U hU hW => ⟨rfl, PM.at hK hE hP hS hU hW⟩⟩ rfl rfl hl.1 rfl (lv_room (Nat.le_of_ble_eq_true rfl)) dX12_either_116 ⟨Nat.le_of_ble_eq_true rfl, Nat.le_of_ble_eq_true rfl⟩) hS (fun q _ h => (freeM hS) q h) (freeM hS) (fun u t H1 locs ht hvm hw hB hz1 hk1 hS => ?_)
                    unfold BM at hB
                    rw [ht] at hB
                    obtain ⟨v21286, F21287, rc9⟩ := u
                    obtain ⟨hI, hrc, hf21288, hG21289, hw⟩ := hw
                    dsimp only at hI hrc hB hf21288 hG21289 hw
                    have hF := frCF (by decide) hG21289 hF
                    rw [hrc] at hB
                    have hP : va_P (dC, dI) classes (wM g c v21286 F21287 rc) H1 := hB
                    have hw : (z21277.toInt ≤ (v21286 39).toInt ∧ (v21286 39).toInt ≤ ((va_up v21262 39 z21277) 30).toInt ∧ (v21262 38).toInt ≤ (v21286 38).toInt ∧ (v21286 38).toInt - (v21262 38).toInt ≤ (v21286 39).toInt - z21277.toInt ∧ (v21262 41).toInt ≤ (v21286 41).toInt ∧ ((v21286 40).toInt < 0 → (v21286 41).toInt = (v21262 41).toInt)) ∧ keepL ((va_up v21262 39 z21277) 37) (F21263 28) (F21263 29) (F21287 28) (F21287 29) ∧ ((v21286 40).toInt < 0 → dp (F21287 28) (F21287 29) (bI ((va_up v21262 39 z21277) 37)) (v21286 38).toInt.toNat = some (((d + 1) + 1) + 1)) := hw
                    rw [show (va_up v21262 39 z21277) 30 = v 30 from (hf21264 30 (by decide)).trans ((hf21250 30 (by decide)).trans (hf20929 30 (by decide)))] at hw
                    rw [show (va_up v21262 39 z21277) 37 = v 37 from (hf21264 37 (by decide)).trans ((hf21250 37 (by decide)).trans (hf20929 37 (by decide)))] at hw
                    have hw_r21285 := hw
                    have t21290 : 0 ≤ (v21286 38).toInt ∧ (v21286 38).toInt ≤ 120 := hI.1 38 _ _ rfl
                    have t21291 : 0 ≤ (v21286 39).toInt ∧ (v21286 39).toInt ≤ 120 := hI.1 39 _ _ rfl
                    have t21292 : 0 ≤ (v21286 41).toInt ∧ (v21286 41).toInt ≤ 8 := hI.1 41 _ _ rfl
                    generalize H1 = H at hP hS ⊢
                    have hk := hk.tr hw_r21285.2.1
                    have hd := hw_r21285.2.2
                    refine lv_aload_n hx hb dX12_either_119 rfl (lv_at hl 1 rfl) ?_
                    refine lv_iconst (v := 4) hx hb dX12_either_120 (by decide) ?_
                    refine lv_iconst (v := 0) hx hb dX12_either_121 (by decide) ?_
                    have t21293 : 0 ≤ (v 37).toInt ∧ (v 37).toInt ≤ 9 := by have h9 := hI.1 37 _ _ rfl; rw [show v21286 37 = v 37 from (hf21288 37 (by decide)).trans ((hf21264 37 (by decide)).trans ((hf21250 37 (by decide)).trans (hf20929 37 (by decide))))] at h9; exact h9
                    have t21294 : 0 ≤ (v21286 38).toInt ∧ (v21286 38).toInt ≤ 120 := hI.1 38 _ _ rfl
                    refine va_callv (va_runV (As := [.int 4, .int 0]) (rest := []) ⟨hx, hb, hml, hown, hwd⟩ (c_X12_lay l dC dI g c adK adV v21286 F21287 rc H.size 4 0 hg hI (by have h9 : v21286 38 = v21286 38 := rfl; rw [h9]; omega)) (cwV 2 hwd (gV wk_1021 wk_1018 wk_1019 wk_1020 wk_5) rfl rfl rfl (by decide +kernel) ⟨Nat.le_of_ble_eq_true rfl, Nat.le_of_ble_eq_true rfl⟩) ⟨PM.blind, va_recv hK hP (ci := 12) (q0 := 0) rfl rfl, fun U hU hW => ⟨rfl, PM.at hK hE hP hS hU hW⟩⟩ rfl rfl hl.1 rfl (lv_room (Nat.le_of_ble_eq_true rfl)) dX12_either_122 ⟨Nat.le_of_ble_eq_true rfl, Nat.le_of_ble_eq_true rfl⟩) hS (fun q _ h => (freeM hS) q h) (freeM hS) (fun u t H1 locs ht hvm hw hB hz1 hk1 hS => ?_)
                    unfold BM at hB
                    rw [ht] at hB
                    obtain ⟨v21296, F21297, rc9⟩ := u
                    obtain ⟨hI, hrc, hf21298, hG21299, hw⟩ := hw
                    dsimp only at hI hrc hB hf21298 hG21299 hw
                    have hF := frCF (by decide) hG21299 hF
                    rw [hrc] at hB
                    have hP : va_P (dC, dI) classes (wM g c v21296 F21297 rc) H1 := hB
                    have hw : (v21296 38).toInt = (v21286 38).toInt + 1 ∧ keepL (v21286 37) (F21287 28) (F21287 29) (F21297 28) (F21297 29) ∧ dp (F21297 28) (F21297 29) (bI (v21286 37)) ((v21286 38).toInt.toNat + 1) = dpS (dp (F21287 28) (F21287 29) (bI (v21286 37)) (v21286 38).toInt.toNat) (4 : Int32) (0 : Int32) := hw
                    rw [show v21286 37 = v 37 from (hf21288 37 (by decide)).trans ((hf21264 37 (by decide)).trans ((hf21250 37 (by decide)).trans (hf20929 37 (by decide))))] at hw
                    have hw_r21295 := hw
                    have t21300 : 0 ≤ (v21296 38).toInt ∧ (v21296 38).toInt ≤ 120 := hI.1 38 _ _ rfl
                    have k21301 : (4 : Int32).toInt = 4 := by decide
                    have k21302 : (0 : Int32).toInt = 0 := by decide
                    generalize H1 = H at hP hS ⊢
                    have hk := hk.tr hw_r21295.2.1
                    have hd : (v21286 40).toInt < 0 → dp (F21297 28) (F21297 29) (bI (v 37)) (v21296 38).toInt.toNat = some ((((d + 1) + 1) + 1) - 2) := fun hf => (by have e9 : (v21296 38).toInt.toNat = (v21286 38).toInt.toNat + 1 := (by omega); rw [e9, hw_r21295.2.2, hd hf]; exact dpS_4 (by decide) (by omega))
                    refine lv_aload_n hx hb dX12_either_125 rfl (lv_at hl 1 rfl) ?_
                    refine lv_dup hx hb dX12_either_126 rfl ?_
                    refine va_get (D := (dC, dI)) (ci := 12) (v := .int (v21296 41)) (C := RX12) (T := TX12) (N := 63) hx hb hwd inA_X12 hown hK hP 0 rfl rfl 41 (by decide) (hwd _ wk_1006) (fun _ h9 => h9) rfl dX12_either_127 ?_
                    refine my_top (v := v21286 41) (hf21298 41 (by decide)) ?_
                    have t21303 : 0 ≤ (v21286 41).toInt ∧ (v21286 41).toInt ≤ 8 := by have h9 := hI.1 41 _ _ rfl; rw [show v21296 41 = v21286 41 from hf21298 41 (by decide)] at h9; exact h9
                    refine lv_iconst (v := 1) hx hb dX12_either_130 (by decide) ?_
                    refine lv_isub hx hb dX12_either_131 ?_
                    refine lv_topi (fun z21304 e21305 => ?_)
                    try (have t21306 := tsub e21305 (a := (v21286 41).toInt) rfl (b := 1) (by decide) (by omega))
                    refine va_put (D := (dC, dI)) (ci := 12) (v := .int z21304) (ty := .int) (C := RX12) (T := TX12) (N := 63) (fs := fsM_0 g v21296 rc) hx hb hwd inA_X12 tyX12 tyX12_ok nmX12 hown hK hP (DM hg) hS 0 rfl rfl 41 (by decide) (hwd _ wk_1006) (fun _ h9 => h9) rfl (by decide +kernel) rfl rfl (Nat.le_of_ble_eq_true rfl) dX12_either_132 (fun H locs hP _ hS => ?_)
                    have hP := va_P_eq (pM_41 g c _ _ _ _) hP
                    have hI := IM.put hI 41 z21304 rfl (by omega)
                    have hP9 : va_P (dC, dI) classes (wM g c (va_up v21296 41 z21304) F21297 rc) H := hP
                    exact W.vret hx hb hr (fun t ht hW => ⟨⟨((va_up v21296 41 z21304), F21297, rc), rfl, ⟨hI, rfl, (frU (by decide) (frC (by decide) hf21298 (frC (by decide) hf21288 (frU (by decide) (frC (by decide) hf21264 (frC (by decide) hf21250 (frC (by decide) hf20929 (fun _ _ => rfl)))))))), hF, (by show ((v 39).toInt ≤ ((va_up v21296 41 z21304) 39).toInt ∧ ((va_up v21296 41 z21304) 39).toInt ≤ (v 30).toInt ∧ (v 38).toInt ≤ (v21296 38).toInt ∧ (v21296 38).toInt - (v 38).toInt ≤ ((va_up v21296 41 z21304) 39).toInt - (v 39).toInt ∧ (v 41).toInt ≤ z21304.toInt ∧ (((va_up v21296 41 z21304) 40).toInt < 0 → z21304.toInt = (v 41).toInt)) ∧ keepL (v 37) (F 28) (F 29) (F21297 28) (F21297 29) ∧ (((va_up v21296 41 z21304) 40).toInt < 0 → dp (F21297 28) (F21297 29) (bI (v 37)) (v21296 38).toInt.toNat = some (d + 1)); rw [show (va_up v21296 41 z21304) 39 = v21286 39 from hf21298 39 (by decide)]; rw [show (va_up v21296 41 z21304) 40 = v21286 40 from hf21298 40 (by decide)]; exact ⟨by omega, hk, fun hf => (hd (by omega)).trans (congrArg some (by omega))⟩)⟩, (by show va_P _ _ _ t.heap; rw [ht]; exact hP9)⟩, hS.F ht⟩) hS.2.2 dX12_either_135
                  · skip
                    have t21307 := cv_ne (a := r21273.toInt) rfl (b := 58) (by decide) c21274
                    refine lv_aload_n hx hb dX12_either_100 rfl (lv_at hl 1 rfl) ?_
                    refine va_callv (va_runV (As := []) (rest := []) ⟨hx, hb, hml, hown, hwd⟩ (c_X12_wrong l dC dI g c adK adV v21262 F21263 rc H.size  hg hI ) (cwV 0 hwd (gV wk_1029 wk_1026 wk_1027 wk_1028 wk_5) rfl rfl rfl (by decide +kernel) ⟨Nat.le_of_ble_eq_true rfl, Nat.le_of_ble_eq_true rfl⟩) ⟨PM.blind, va_recv hK hP (ci := 12) (q0 := 0) rfl rfl, fun U hU hW => ⟨rfl, PM.at hK hE hP hS hU hW⟩⟩ rfl rfl hl.1 rfl (lv_room (Nat.le_of_ble_eq_true rfl)) dX12_either_101 ⟨Nat.le_of_ble_eq_true rfl, Nat.le_of_ble_eq_true rfl⟩) hS (fun q _ h => (freeM hS) q h) (freeM hS) (fun u t H1 locs ht hvm hw hB hz1 hk1 hS => ?_)
                    unfold BM at hB
                    rw [ht] at hB
                    obtain ⟨v21309, F21310, rc9⟩ := u
                    obtain ⟨hI, hrc, hf21311, hG21312, hw⟩ := hw
                    dsimp only at hI hrc hB hf21311 hG21312 hw
                    have hF := frCF (by decide) hG21312 hF
                    rw [hrc] at hB
                    have hP : va_P (dC, dI) classes (wM g c v21309 F21310 rc) H1 := hB
                    have hw : 0 ≤ (v21309 40).toInt := hw
                    have hw_r21308 := hw
                    generalize H1 = H at hP hS ⊢
                    have hk : keepL (v 37) (F 28) (F 29) (F21310 28) (F21310 29) := by rw [hG21312 28 (by decide), hG21312 29 (by decide)]; exact hk
                    have hd : (v21309 40).toInt < 0 → dp (F21310 28) (F21310 29) (bI (v 37)) (v21262 38).toInt.toNat = some ((d + 1) + 1) := fun hf => (by rw [hG21312 28 (by decide), hG21312 29 (by decide)]; exact hd (by omega))
                    have hP9 : va_P (dC, dI) classes (wM g c v21309 F21310 rc) H := hP
                    exact W.vret hx hb hr (fun t ht hW => ⟨⟨(v21309, F21310, rc), rfl, ⟨hI, rfl, (frC (by decide) hf21311 (frC (by decide) hf21264 (frC (by decide) hf21250 (frC (by decide) hf20929 (fun _ _ => rfl))))), hF, (by show ((v 39).toInt ≤ (v21309 39).toInt ∧ (v21309 39).toInt ≤ (v 30).toInt ∧ (v 38).toInt ≤ (v21309 38).toInt ∧ (v21309 38).toInt - (v 38).toInt ≤ (v21309 39).toInt - (v 39).toInt ∧ (v 41).toInt ≤ (v21309 41).toInt ∧ ((v21309 40).toInt < 0 → (v21309 41).toInt = (v 41).toInt)) ∧ keepL (v 37) (F 28) (F 29) (F21310 28) (F21310 29) ∧ ((v21309 40).toInt < 0 → dp (F21310 28) (F21310 29) (bI (v 37)) (v21309 38).toInt.toNat = some (d + 1)); rw [show v21309 39 = v21262 39 from hf21311 39 (by decide)]; rw [show v21309 38 = v21262 38 from hf21311 38 (by decide)]; rw [show v21309 41 = v21262 41 from hf21311 41 (by decide)]; exact ⟨by omega, hk, fun hf => (hd (by omega)).trans (congrArg some (by omega))⟩)⟩, (by show va_P _ _ _ t.heap; rw [ht]; exact hP9)⟩, hS.F ht⟩) hS.2.2 dX12_either_104
                · skip
                  have t21313 := cv_nlt (a := (v21262 40).toInt) rfl (b := 0) (by decide) c21269
                  have hP9 : va_P (dC, dI) classes (wM g c v21262 F21263 rc) H := hP
                  exact W.vret hx hb hr (fun t ht hW => ⟨⟨(v21262, F21263, rc), rfl, ⟨hI, rfl, (frC (by decide) hf21264 (frC (by decide) hf21250 (frC (by decide) hf20929 (fun _ _ => rfl)))), hF, (by show ((v 39).toInt ≤ (v21262 39).toInt ∧ (v21262 39).toInt ≤ (v 30).toInt ∧ (v 38).toInt ≤ (v21262 38).toInt ∧ (v21262 38).toInt - (v 38).toInt ≤ (v21262 39).toInt - (v 39).toInt ∧ (v 41).toInt ≤ (v21262 41).toInt ∧ ((v21262 40).toInt < 0 → (v21262 41).toInt = (v 41).toInt)) ∧ keepL (v 37) (F 28) (F 29) (F21263 28) (F21263 29) ∧ ((v21262 40).toInt < 0 → dp (F21263 28) (F21263 29) (bI (v 37)) (v21262 38).toInt.toNat = some (d + 1)); exact ⟨by omega, hk, fun hf => (hd (by omega)).trans (congrArg some (by omega))⟩)⟩, (by show va_P _ _ _ t.heap; rw [ht]; exact hP9)⟩, hS.F ht⟩) hS.2.2 dX12_either_90
              · skip
                have t21314 := cv_eq (a := r21247.toInt) rfl (b := 0) (by decide) c21254
                have hP9 : va_P (dC, dI) classes (wM g c v21248 F21249 rc) H := hP
                exact W.vret hx hb hr (fun t ht hW => ⟨⟨(v21248, F21249, rc), rfl, ⟨hI, rfl, (frC (by decide) hf21250 (frC (by decide) hf20929 (fun _ _ => rfl))), hF, (by show ((v 39).toInt ≤ (v21248 39).toInt ∧ (v21248 39).toInt ≤ (v 30).toInt ∧ (v 38).toInt ≤ (v21248 38).toInt ∧ (v21248 38).toInt - (v 38).toInt ≤ (v21248 39).toInt - (v 39).toInt ∧ (v 41).toInt ≤ (v21248 41).toInt ∧ ((v21248 40).toInt < 0 → (v21248 41).toInt = (v 41).toInt)) ∧ keepL (v 37) (F 28) (F 29) (F21249 28) (F21249 29) ∧ ((v21248 40).toInt < 0 → dp (F21249 28) (F21249 29) (bI (v 37)) (v21248 38).toInt.toNat = some (d + 1)); rw [show v21248 38 = v20927 38 from hf21250 38 (by decide)]; exact ⟨by omega, hk, fun hf => (hd (by omega)).trans (congrArg some (by omega))⟩)⟩, (by show va_P _ _ _ t.heap; rw [ht]; exact hP9)⟩, hS.F ht⟩) hS.2.2 dX12_either_78
            · skip
              have t21315 := cv_ne (a := r21242.toInt) rfl (b := 63) (by decide) c21243
              have hP9 : va_P (dC, dI) classes (wM g c v20927 F20928 rc) H := hP
              exact W.vret hx hb hr (fun t ht hW => ⟨⟨(v20927, F20928, rc), rfl, ⟨hI, rfl, (frC (by decide) hf20929 (fun _ _ => rfl)), hF, (by show ((v 39).toInt ≤ (v20927 39).toInt ∧ (v20927 39).toInt ≤ (v 30).toInt ∧ (v 38).toInt ≤ (v20927 38).toInt ∧ (v20927 38).toInt - (v 38).toInt ≤ (v20927 39).toInt - (v 39).toInt ∧ (v 41).toInt ≤ (v20927 41).toInt ∧ ((v20927 40).toInt < 0 → (v20927 41).toInt = (v 41).toInt)) ∧ keepL (v 37) (F 28) (F 29) (F20928 28) (F20928 29) ∧ ((v20927 40).toInt < 0 → dp (F20928 28) (F20928 29) (bI (v 37)) (v20927 38).toInt.toNat = some (d + 1)); exact ⟨by omega, hk, fun hf => (hd (by omega)).trans (congrArg some (by omega))⟩)⟩, (by show va_P _ _ _ t.heap; rw [ht]; exact hP9)⟩, hS.F ht⟩) hS.2.2 dX12_either_70
        · skip
          have t21316 := cv_eq (a := r20936.toInt) rfl (b := 62) (by decide) c21235
          refine lv_aload_n hx hb dX12_either_34 rfl (lv_at hl 1 rfl) ?_
          refine lv_dup hx hb dX12_either_35 rfl ?_
          refine va_get (D := (dC, dI)) (ci := 12) (v := .int (v20927 39)) (C := RX12) (T := TX12) (N := 63) hx hb hwd inA_X12 hown hK hP 0 rfl rfl 39 (by decide) (hwd _ wk_1004) (fun _ h9 => h9) rfl dX12_either_36 ?_
          have t21317 : 0 ≤ (v20927 39).toInt ∧ (v20927 39).toInt ≤ 120 := hI.1 39 _ _ rfl
          refine lv_iconst (v := 1) hx hb dX12_either_39 (by decide) ?_
          refine lv_iadd hx hb dX12_either_40 ?_
          refine lv_topi (fun z21318 e21319 => ?_)
          try (have t21320 := tadd e21319 (a := (v20927 39).toInt) rfl (b := 1) (by decide) (by omega))
          refine va_put (D := (dC, dI)) (ci := 12) (v := .int z21318) (ty := .int) (C := RX12) (T := TX12) (N := 63) (fs := fsM_0 g v20927 rc) hx hb hwd inA_X12 tyX12 tyX12_ok nmX12 hown hK hP (DM hg) hS 0 rfl rfl 39 (by decide) (hwd _ wk_1004) (fun _ h9 => h9) rfl (by decide +kernel) rfl rfl (Nat.le_of_ble_eq_true rfl) dX12_either_41 (fun H locs hP _ hS => ?_)
          have hP := va_P_eq (pM_39 g c _ _ _ _) hP
          have hI := IM.put hI 39 z21318 rfl (by omega)
          refine lv_aload_n hx hb dX12_either_44 rfl (lv_at hl 1 rfl) ?_
          have t21321 : 0 ≤ (v 30).toInt ∧ (v 30).toInt ≤ 120 := by have h9 := hI.1 30 _ _ rfl; rw [show (va_up v20927 39 z21318) 30 = v 30 from hf20929 30 (by decide)] at h9; exact h9
          have t21322 : 0 ≤ (v 37).toInt ∧ (v 37).toInt ≤ 9 := by have h9 := hI.1 37 _ _ rfl; rw [show (va_up v20927 39 z21318) 37 = v 37 from hf20929 37 (by decide)] at h9; exact h9
          have t21323 : 0 ≤ (v20927 38).toInt ∧ (v20927 38).toInt ≤ 120 := hI.1 38 _ _ rfl
          have t21324 : 0 ≤ z21318.toInt ∧ z21318.toInt ≤ 120 := hI.1 39 _ _ rfl
          have t21325 : 0 ≤ (v20927 41).toInt ∧ (v20927 41).toInt ≤ 8 := hI.1 41 _ _ rfl
          refine va_callv (va_runV (As := []) (rest := []) ⟨hx, hb, hml, hown, hwd⟩ (c_X12_sum_2 l dC dI g c adK adV (va_up v20927 39 z21318) F20928 rc H.size  (d + 1) hg hI (by have h9 : (va_up v20927 39 z21318) 38 = v20927 38 := rfl; (try rw [h9]); clear h9; have h9 : (va_up v20927 39 z21318) 39 = z21318 := rfl; (try rw [h9]); clear h9; have h9 : (va_up v20927 39 z21318) 30 = v 30 := hf20929 30 (by decide); (try rw [h9]); clear h9; have h9 : (va_up v20927 39 z21318) 40 = v20927 40 := rfl; (try rw [h9]); clear h9; have h9 : (va_up v20927 39 z21318) 41 = v20927 41 := rfl; (try rw [h9]); clear h9; omega) (by have h9 : (va_up v20927 39 z21318) 37 = (v 37) := hf20929 37 (by decide); have h8 : (va_up v20927 39 z21318) 38 = (v20927 38) := rfl; (try rw [h9]); (try rw [h8]); exact hd (by omega))) (cwV 0 hwd (gV wk_1043 wk_1011 wk_1012 wk_1013 wk_5) rfl rfl rfl (by decide +kernel) ⟨Nat.le_of_ble_eq_true rfl, Nat.le_of_ble_eq_true rfl⟩) ⟨PM.blind, va_recv hK hP (ci := 12) (q0 := 0) rfl rfl, fun U hU hW => ⟨rfl, PM.at hK hE hP hS hU hW⟩⟩ rfl rfl hl.1 rfl (lv_room (Nat.le_of_ble_eq_true rfl)) dX12_either_45 ⟨Nat.le_of_ble_eq_true rfl, Nat.le_of_ble_eq_true rfl⟩) hS (fun q _ h => (freeM hS) q h) (freeM hS) (fun u t H1 locs ht hvm hw hB hz1 hk1 hS => ?_)
          unfold BM at hB
          rw [ht] at hB
          obtain ⟨v21327, F21328, rc9⟩ := u
          obtain ⟨hI, hrc, hf21329, hG21330, hw⟩ := hw
          dsimp only at hI hrc hB hf21329 hG21330 hw
          have hF := frCF (by decide) hG21330 hF
          rw [hrc] at hB
          have hP : va_P (dC, dI) classes (wM g c v21327 F21328 rc) H1 := hB
          have hw : (z21318.toInt ≤ (v21327 39).toInt ∧ (v21327 39).toInt ≤ ((va_up v20927 39 z21318) 30).toInt ∧ (v20927 38).toInt ≤ (v21327 38).toInt ∧ (v21327 38).toInt - (v20927 38).toInt ≤ (v21327 39).toInt - z21318.toInt ∧ (v20927 41).toInt ≤ (v21327 41).toInt ∧ ((v21327 40).toInt < 0 → (v21327 41).toInt = (v20927 41).toInt)) ∧ keepL ((va_up v20927 39 z21318) 37) (F20928 28) (F20928 29) (F21328 28) (F21328 29) ∧ ((v21327 40).toInt < 0 → dp (F21328 28) (F21328 29) (bI ((va_up v20927 39 z21318) 37)) (v21327 38).toInt.toNat = some ((d + 1) + 1)) := hw
          rw [show (va_up v20927 39 z21318) 30 = v 30 from hf20929 30 (by decide)] at hw
          rw [show (va_up v20927 39 z21318) 37 = v 37 from hf20929 37 (by decide)] at hw
          have hw_r21326 := hw
          have t21331 : 0 ≤ (v21327 38).toInt ∧ (v21327 38).toInt ≤ 120 := hI.1 38 _ _ rfl
          have t21332 : 0 ≤ (v21327 39).toInt ∧ (v21327 39).toInt ≤ 120 := hI.1 39 _ _ rfl
          have t21333 : 0 ≤ (v21327 41).toInt ∧ (v21327 41).toInt ≤ 8 := hI.1 41 _ _ rfl
          generalize H1 = H at hP hS ⊢
          have hk := hk.tr hw_r21326.2.1
          have hd := hw_r21326.2.2
          refine lv_aload_n hx hb dX12_either_48 rfl (lv_at hl 1 rfl) ?_
          refine lv_iload_n hx hb dX12_either_49 rfl (lv_at hl 0 rfl) ?_
          refine lv_iconst (v := 0) hx hb dX12_either_50 (by decide) ?_
          have t21334 : 0 ≤ (v 37).toInt ∧ (v 37).toInt ≤ 9 := by have h9 := hI.1 37 _ _ rfl; rw [show v21327 37 = v 37 from (hf21329 37 (by decide)).trans (hf20929 37 (by decide))] at h9; exact h9
          have t21335 : 0 ≤ (v21327 38).toInt ∧ (v21327 38).toInt ≤ 120 := hI.1 38 _ _ rfl
          refine va_callv (va_runV (As := [.int r20936, .int 0]) (rest := []) ⟨hx, hb, hml, hown, hwd⟩ (c_X12_lay l dC dI g c adK adV v21327 F21328 rc H.size r20936 0 hg hI (by have h9 : v21327 38 = v21327 38 := rfl; rw [h9]; omega)) (cwV 2 hwd (gV wk_1021 wk_1018 wk_1019 wk_1020 wk_5) rfl rfl rfl (by decide +kernel) ⟨Nat.le_of_ble_eq_true rfl, Nat.le_of_ble_eq_true rfl⟩) ⟨PM.blind, va_recv hK hP (ci := 12) (q0 := 0) rfl rfl, fun U hU hW => ⟨rfl, PM.at hK hE hP hS hU hW⟩⟩ rfl rfl hl.1 rfl (lv_room (Nat.le_of_ble_eq_true rfl)) dX12_either_51 ⟨Nat.le_of_ble_eq_true rfl, Nat.le_of_ble_eq_true rfl⟩) hS (fun q _ h => (freeM hS) q h) (freeM hS) (fun u t H1 locs ht hvm hw hB hz1 hk1 hS => ?_)
          unfold BM at hB
          rw [ht] at hB
          obtain ⟨v21337, F21338, rc9⟩ := u
          obtain ⟨hI, hrc, hf21339, hG21340, hw⟩ := hw
          dsimp only at hI hrc hB hf21339 hG21340 hw
          have hF := frCF (by decide) hG21340 hF
          rw [hrc] at hB
          have hP : va_P (dC, dI) classes (wM g c v21337 F21338 rc) H1 := hB
          have hw : (v21337 38).toInt = (v21327 38).toInt + 1 ∧ keepL (v21327 37) (F21328 28) (F21328 29) (F21338 28) (F21338 29) ∧ dp (F21338 28) (F21338 29) (bI (v21327 37)) ((v21327 38).toInt.toNat + 1) = dpS (dp (F21328 28) (F21328 29) (bI (v21327 37)) (v21327 38).toInt.toNat) r20936 (0 : Int32) := hw
          rw [show v21327 37 = v 37 from (hf21329 37 (by decide)).trans (hf20929 37 (by decide))] at hw
          have hw_r21336 := hw
          have t21341 : 0 ≤ (v21337 38).toInt ∧ (v21337 38).toInt ≤ 120 := hI.1 38 _ _ rfl
          have k21342 : (0 : Int32).toInt = 0 := by decide
          generalize H1 = H at hP hS ⊢
          have hk := hk.tr hw_r21336.2.1
          have hd : (v21327 40).toInt < 0 → dp (F21338 28) (F21338 29) (bI (v 37)) (v21337 38).toInt.toNat = some (((d + 1) + 1) - 1) := fun hf => (by have e9 : (v21337 38).toInt.toNat = (v21327 38).toInt.toNat + 1 := (by omega); rw [e9, hw_r21336.2.2, hd hf]; exact dpS_5 (by omega) (by omega) (by omega) (by omega) (by omega))
          refine lv_aload_n hx hb dX12_either_54 rfl (lv_at hl 1 rfl) ?_
          refine va_get (D := (dC, dI)) (ci := 12) (v := .int (v21337 40)) (C := RX12) (T := TX12) (N := 63) hx hb hwd inA_X12 hown hK hP 0 rfl rfl 40 (by decide) (hwd _ wk_1005) (fun _ h9 => h9) rfl dX12_either_55 ?_
          refine my_top (v := v21327 40) (hf21339 40 (by decide)) ?_
          refine lv_if_ge (tgt := 70) hx hb dX12_either_58 (by decide) (fun c21343 => ?_) (fun c21343 => ?_)
          · skip
            have t21344 := cv_le (a := 0) (by decide) (b := (v21327 40).toInt) rfl c21343
            have hP9 : va_P (dC, dI) classes (wM g c v21337 F21338 rc) H := hP
            exact W.vret hx hb hr (fun t ht hW => ⟨⟨(v21337, F21338, rc), rfl, ⟨hI, rfl, (frC (by decide) hf21339 (frC (by decide) hf21329 (frU (by decide) (frC (by decide) hf20929 (fun _ _ => rfl))))), hF, (by show ((v 39).toInt ≤ (v21337 39).toInt ∧ (v21337 39).toInt ≤ (v 30).toInt ∧ (v 38).toInt ≤ (v21337 38).toInt ∧ (v21337 38).toInt - (v 38).toInt ≤ (v21337 39).toInt - (v 39).toInt ∧ (v 41).toInt ≤ (v21337 41).toInt ∧ ((v21337 40).toInt < 0 → (v21337 41).toInt = (v 41).toInt)) ∧ keepL (v 37) (F 28) (F 29) (F21338 28) (F21338 29) ∧ ((v21337 40).toInt < 0 → dp (F21338 28) (F21338 29) (bI (v 37)) (v21337 38).toInt.toNat = some (d + 1)); rw [show v21337 39 = v21327 39 from hf21339 39 (by decide)]; rw [show v21337 41 = v21327 41 from hf21339 41 (by decide)]; rw [show v21337 40 = v21327 40 from hf21339 40 (by decide)]; exact ⟨by omega, hk, fun hf => (hd (by omega)).trans (congrArg some (by omega))⟩)⟩, (by show va_P _ _ _ t.heap; rw [ht]; exact hP9)⟩, hS.F ht⟩) hS.2.2 dX12_either_70
          · skip
            have t21345 := cv_nle (a := 0) (by decide) (b := (v21327 40).toInt) rfl c21343
            refine lv_aload_n hx hb dX12_either_61 rfl (lv_at hl 1 rfl) ?_
            have t21346 : 0 ≤ (v 30).toInt ∧ (v 30).toInt ≤ 120 := by have h9 := hI.1 30 _ _ rfl; rw [show v21337 30 = v 30 from (hf21339 30 (by decide)).trans ((hf21329 30 (by decide)).trans (hf20929 30 (by decide)))] at h9; exact h9
            have t21347 : 0 ≤ (v21327 39).toInt ∧ (v21327 39).toInt ≤ 120 := by have h9 := hI.1 39 _ _ rfl; rw [show v21337 39 = v21327 39 from hf21339 39 (by decide)] at h9; exact h9
            refine va_calli (va_runV (As := []) (rest := []) ⟨hx, hb, hml, hown, hwd⟩ (c_X12_look l dC dI g c adK adV v21337 F21338 rc H.size  hg hI ) (cwV 0 hwd (gV wk_1017 wk_1014 wk_1015 wk_1016 wk_5) rfl rfl rfl (by decide +kernel) ⟨Nat.le_of_ble_eq_true rfl, Nat.le_of_ble_eq_true rfl⟩) ⟨PM.blind, va_recv hK hP (ci := 12) (q0 := 0) rfl rfl, fun U hU hW => ⟨rfl, PM.at hK hE hP hS hU hW⟩⟩ rfl rfl hl.1 rfl (lv_room (Nat.le_of_ble_eq_true rfl)) dX12_either_62 ⟨Nat.le_of_ble_eq_true rfl, Nat.le_of_ble_eq_true rfl⟩) hS (fun q _ h => (freeM hS) q h) (freeM hS) (fun r21348 u t H1 locs ht hvm hw hB hz1 hk1 hS => ?_)
            unfold BM at hB
            rw [ht] at hB
            have hP : va_P (dC, dI) classes (wM g c v21337 F21338 rc) H1 := hB
            have hw : r21348.toInt = lkM (v21337 39) (v21337 30) (F21338 24) ∧ ((v21337 39).toInt < (v21337 30).toInt ∨ r21348.toInt = -1) := hw
            rw [show v21337 39 = v21327 39 from hf21339 39 (by decide)] at hw
            rw [show v21337 30 = v 30 from (hf21339 30 (by decide)).trans ((hf21329 30 (by decide)).trans (hf20929 30 (by decide)))] at hw
            rw [hF 24 (by decide)] at hw
            have hw_r21348 := hw
            generalize H1 = H at hP hS ⊢
            refine lv_bipush (v := 63) hx hb dX12_either_65 (by decide) ?_
            refine lv_icmp_eq (tgt := 71) hx hb dX12_either_67 (by decide) (fun c21349 => ?_) (fun c21349 => ?_)
            · skip
              have t21350 := cv_eq (a := r21348.toInt) rfl (b := 63) (by decide) c21349
              refine lv_aload_n hx hb dX12_either_71 rfl (lv_at hl 1 rfl) ?_
              have t21351 : 0 ≤ (v21327 39).toInt ∧ (v21327 39).toInt ≤ 120 := by have h9 := hI.1 39 _ _ rfl; rw [show v21337 39 = v21327 39 from hf21339 39 (by decide)] at h9; exact h9
              have t21352 : 0 ≤ (v21327 41).toInt ∧ (v21327 41).toInt ≤ 8 := by have h9 := hI.1 41 _ _ rfl; rw [show v21337 41 = v21327 41 from hf21339 41 (by decide)] at h9; exact h9
              refine va_calli (va_runV (As := []) (rest := []) ⟨hx, hb, hml, hown, hwd⟩ (c_X12_opens l dC dI g c adK adV v21337 F21338 rc H.size  hg hI (by have h9 : v21337 39 = v21327 39 := hf21339 39 (by decide); (try rw [h9]); clear h9; have h9 : v21337 30 = v 30 := (hf21339 30 (by decide)).trans ((hf21329 30 (by decide)).trans (hf20929 30 (by decide))); (try rw [h9]); clear h9; omega)) (cwV 0 hwd (gV wk_1025 wk_1022 wk_1023 wk_1024 wk_5) rfl rfl rfl (by decide +kernel) ⟨Nat.le_of_ble_eq_true rfl, Nat.le_of_ble_eq_true rfl⟩) ⟨PM.blind, va_recv hK hP (ci := 12) (q0 := 0) rfl rfl, fun U hU hW => ⟨rfl, PM.at hK hE hP hS hU hW⟩⟩ rfl rfl hl.1 rfl (lv_room (Nat.le_of_ble_eq_true rfl)) dX12_either_72 ⟨Nat.le_of_ble_eq_true rfl, Nat.le_of_ble_eq_true rfl⟩) hS (fun q _ h => (freeM hS) q h) (freeM hS) (fun r21353 u t H1 locs ht hvm hw hB hz1 hk1 hS => ?_)
              unfold BM at hB
              rw [ht] at hB
              obtain ⟨v21354, F21355, rc9⟩ := u
              obtain ⟨hI, hrc, hf21356, hG21357, hw⟩ := hw
              dsimp only at hI hrc hB hf21356 hG21357 hw
              have hF := frCF (by decide) hG21357 hF
              rw [hrc] at hB
              have hP : va_P (dC, dI) classes (wM g c v21354 F21355 rc) H1 := hB
              have hw : (r21353.toInt = 1 ∧ (v21337 41).toInt < 8 ∧ (v21354 41).toInt = (v21337 41).toInt + 1 ∧ (v21354 39).toInt = (v21337 39).toInt + 1 ∧ (v21354 40).toInt = (v21337 40).toInt) ∨ (r21353.toInt = 0 ∧ (v21337 41).toInt = 8 ∧ 0 ≤ (v21354 40).toInt ∧ (v21354 41).toInt = (v21337 41).toInt ∧ (v21354 39).toInt = (v21337 39).toInt) := hw
              rw [show v21337 41 = v21327 41 from hf21339 41 (by decide)] at hw
              rw [show v21337 39 = v21327 39 from hf21339 39 (by decide)] at hw
              rw [show v21337 40 = v21327 40 from hf21339 40 (by decide)] at hw
              have hw_r21353 := hw
              have t21358 : 0 ≤ (v21354 39).toInt ∧ (v21354 39).toInt ≤ 120 := hI.1 39 _ _ rfl
              have t21359 : 0 ≤ (v21354 41).toInt ∧ (v21354 41).toInt ≤ 8 := hI.1 41 _ _ rfl
              generalize H1 = H at hP hS ⊢
              have hk : keepL (v 37) (F 28) (F 29) (F21355 28) (F21355 29) := by rw [hG21357 28 (by decide), hG21357 29 (by decide)]; exact hk
              have hd : (v21354 40).toInt < 0 → dp (F21355 28) (F21355 29) (bI (v 37)) (v21337 38).toInt.toNat = some (((d + 1) + 1) - 1) := fun hf => (by rw [hG21357 28 (by decide), hG21357 29 (by decide)]; exact hd (by omega))
              refine lv_if_ne (tgt := 79) hx hb dX12_either_75 (by decide) (fun c21360 => ?_) (fun c21360 => ?_)
              · skip
                have t21361 := cv_ne (a := r21353.toInt) rfl (b := 0) (by decide) c21360
                refine lv_aload_n hx hb dX12_either_79 rfl (lv_at hl 1 rfl) ?_
                have t21362 : 0 ≤ (v 30).toInt ∧ (v 30).toInt ≤ 120 := by have h9 := hI.1 30 _ _ rfl; rw [show v21354 30 = v 30 from (hf21356 30 (by decide)).trans ((hf21339 30 (by decide)).trans ((hf21329 30 (by decide)).trans (hf20929 30 (by decide))))] at h9; exact h9
                have t21363 : 0 ≤ (v 37).toInt ∧ (v 37).toInt ≤ 9 := by have h9 := hI.1 37 _ _ rfl; rw [show v21354 37 = v 37 from (hf21356 37 (by decide)).trans ((hf21339 37 (by decide)).trans ((hf21329 37 (by decide)).trans (hf20929 37 (by decide))))] at h9; exact h9
                have t21364 : 0 ≤ (v21337 38).toInt ∧ (v21337 38).toInt ≤ 120 := by have h9 := hI.1 38 _ _ rfl; rw [show v21354 38 = v21337 38 from hf21356 38 (by decide)] at h9; exact h9
                have t21365 : 0 ≤ (v21354 39).toInt ∧ (v21354 39).toInt ≤ 120 := hI.1 39 _ _ rfl
                have t21366 : 0 ≤ (v21354 41).toInt ∧ (v21354 41).toInt ≤ 8 := hI.1 41 _ _ rfl
                refine va_callv (va_runV (As := []) (rest := []) ⟨hx, hb, hml, hown, hwd⟩ (c_X12_either_3 l dC dI g c adK adV v21354 F21355 rc H.size  (((d + 1) + 1) - 1) hg hI (by have h9 : v21354 38 = v21337 38 := hf21356 38 (by decide); (try rw [h9]); clear h9; have h9 : v21354 39 = v21354 39 := rfl; (try rw [h9]); clear h9; have h9 : v21354 30 = v 30 := (hf21356 30 (by decide)).trans ((hf21339 30 (by decide)).trans ((hf21329 30 (by decide)).trans (hf20929 30 (by decide)))); (try rw [h9]); clear h9; have h9 : v21354 40 = v21354 40 := rfl; (try rw [h9]); clear h9; have h9 : v21354 41 = v21354 41 := rfl; (try rw [h9]); clear h9; omega) (by have h9 : v21354 37 = (v 37) := (hf21356 37 (by decide)).trans ((hf21339 37 (by decide)).trans ((hf21329 37 (by decide)).trans (hf20929 37 (by decide)))); have h8 : v21354 38 = (v21337 38) := hf21356 38 (by decide); (try rw [h9]); (try rw [h8]); exact hd (by omega))) (cwV 0 hwd (gV wk_1010 wk_1007 wk_1008 wk_1009 wk_5) rfl rfl rfl (by decide +kernel) ⟨Nat.le_of_ble_eq_true rfl, Nat.le_of_ble_eq_true rfl⟩) ⟨PM.blind, va_recv hK hP (ci := 12) (q0 := 0) rfl rfl, fun U hU hW => ⟨rfl, PM.at hK hE hP hS hU hW⟩⟩ rfl rfl hl.1 rfl (lv_room (Nat.le_of_ble_eq_true rfl)) dX12_either_80 ⟨Nat.le_of_ble_eq_true rfl, Nat.le_of_ble_eq_true rfl⟩) hS (fun q _ h => (freeM hS) q h) (freeM hS) (fun u t H1 locs ht hvm hw hB hz1 hk1 hS => ?_)
                unfold BM at hB
                rw [ht] at hB
                obtain ⟨v21368, F21369, rc9⟩ := u
                obtain ⟨hI, hrc, hf21370, hG21371, hw⟩ := hw
                dsimp only at hI hrc hB hf21370 hG21371 hw
                have hF := frCF (by decide) hG21371 hF
                rw [hrc] at hB
                have hP : va_P (dC, dI) classes (wM g c v21368 F21369 rc) H1 := hB
                have hw : ((v21354 39).toInt ≤ (v21368 39).toInt ∧ (v21368 39).toInt ≤ (v21354 30).toInt ∧ (v21354 38).toInt ≤ (v21368 38).toInt ∧ (v21368 38).toInt - (v21354 38).toInt ≤ (v21368 39).toInt - (v21354 39).toInt ∧ (v21354 41).toInt ≤ (v21368 41).toInt ∧ ((v21368 40).toInt < 0 → (v21368 41).toInt = (v21354 41).toInt)) ∧ keepL (v21354 37) (F21355 28) (F21355 29) (F21369 28) (F21369 29) ∧ ((v21368 40).toInt < 0 → dp (F21369 28) (F21369 29) (bI (v21354 37)) (v21368 38).toInt.toNat = some ((((d + 1) + 1) - 1) + 1)) := hw
                rw [show v21354 30 = v 30 from (hf21356 30 (by decide)).trans ((hf21339 30 (by decide)).trans ((hf21329 30 (by decide)).trans (hf20929 30 (by decide))))] at hw
                rw [show v21354 38 = v21337 38 from hf21356 38 (by decide)] at hw
                rw [show v21354 37 = v 37 from (hf21356 37 (by decide)).trans ((hf21339 37 (by decide)).trans ((hf21329 37 (by decide)).trans (hf20929 37 (by decide))))] at hw
                have hw_r21367 := hw
                have t21372 : 0 ≤ (v21368 38).toInt ∧ (v21368 38).toInt ≤ 120 := hI.1 38 _ _ rfl
                have t21373 : 0 ≤ (v21368 39).toInt ∧ (v21368 39).toInt ≤ 120 := hI.1 39 _ _ rfl
                have t21374 : 0 ≤ (v21368 41).toInt ∧ (v21368 41).toInt ≤ 8 := hI.1 41 _ _ rfl
                generalize H1 = H at hP hS ⊢
                have hk := hk.tr hw_r21367.2.1
                have hd := hw_r21367.2.2
                refine lv_aload_n hx hb dX12_either_83 rfl (lv_at hl 1 rfl) ?_
                refine va_get (D := (dC, dI)) (ci := 12) (v := .int (v21368 40)) (C := RX12) (T := TX12) (N := 63) hx hb hwd inA_X12 hown hK hP 0 rfl rfl 40 (by decide) (hwd _ wk_1005) (fun _ h9 => h9) rfl dX12_either_84 ?_
                refine lv_if_lt (tgt := 91) hx hb dX12_either_87 (by decide) (fun c21375 => ?_) (fun c21375 => ?_)
                · skip
                  have t21376 := cv_lt (a := (v21368 40).toInt) rfl (b := 0) (by decide) c21375
                  refine lv_aload_n hx hb dX12_either_91 rfl (lv_at hl 1 rfl) ?_
                  have t21377 : 0 ≤ (v 30).toInt ∧ (v 30).toInt ≤ 120 := by have h9 := hI.1 30 _ _ rfl; rw [show v21368 30 = v 30 from (hf21370 30 (by decide)).trans ((hf21356 30 (by decide)).trans ((hf21339 30 (by decide)).trans ((hf21329 30 (by decide)).trans (hf20929 30 (by decide)))))] at h9; exact h9
                  have t21378 : 0 ≤ (v21368 39).toInt ∧ (v21368 39).toInt ≤ 120 := hI.1 39 _ _ rfl
                  refine va_calli (va_runV (As := []) (rest := []) ⟨hx, hb, hml, hown, hwd⟩ (c_X12_look l dC dI g c adK adV v21368 F21369 rc H.size  hg hI ) (cwV 0 hwd (gV wk_1017 wk_1014 wk_1015 wk_1016 wk_5) rfl rfl rfl (by decide +kernel) ⟨Nat.le_of_ble_eq_true rfl, Nat.le_of_ble_eq_true rfl⟩) ⟨PM.blind, va_recv hK hP (ci := 12) (q0 := 0) rfl rfl, fun U hU hW => ⟨rfl, PM.at hK hE hP hS hU hW⟩⟩ rfl rfl hl.1 rfl (lv_room (Nat.le_of_ble_eq_true rfl)) dX12_either_92 ⟨Nat.le_of_ble_eq_true rfl, Nat.le_of_ble_eq_true rfl⟩) hS (fun q _ h => (freeM hS) q h) (freeM hS) (fun r21379 u t H1 locs ht hvm hw hB hz1 hk1 hS => ?_)
                  unfold BM at hB
                  rw [ht] at hB
                  have hP : va_P (dC, dI) classes (wM g c v21368 F21369 rc) H1 := hB
                  have hw : r21379.toInt = lkM (v21368 39) (v21368 30) (F21369 24) ∧ ((v21368 39).toInt < (v21368 30).toInt ∨ r21379.toInt = -1) := hw
                  rw [show v21368 30 = v 30 from (hf21370 30 (by decide)).trans ((hf21356 30 (by decide)).trans ((hf21339 30 (by decide)).trans ((hf21329 30 (by decide)).trans (hf20929 30 (by decide)))))] at hw
                  rw [hF 24 (by decide)] at hw
                  have hw_r21379 := hw
                  generalize H1 = H at hP hS ⊢
                  refine lv_bipush (v := 58) hx hb dX12_either_95 (by decide) ?_
                  refine lv_icmp_eq (tgt := 105) hx hb dX12_either_97 (by decide) (fun c21380 => ?_) (fun c21380 => ?_)
                  · skip
                    have t21381 := cv_eq (a := r21379.toInt) rfl (b := 58) (by decide) c21380
                    refine lv_aload_n hx hb dX12_either_105 rfl (lv_at hl 1 rfl) ?_
                    refine lv_dup hx hb dX12_either_106 rfl ?_
                    refine va_get (D := (dC, dI)) (ci := 12) (v := .int (v21368 39)) (C := RX12) (T := TX12) (N := 63) hx hb hwd inA_X12 hown hK hP 0 rfl rfl 39 (by decide) (hwd _ wk_1004) (fun _ h9 => h9) rfl dX12_either_107 ?_
                    have t21382 : 0 ≤ (v21368 39).toInt ∧ (v21368 39).toInt ≤ 120 := hI.1 39 _ _ rfl
                    refine lv_iconst (v := 1) hx hb dX12_either_110 (by decide) ?_
                    refine lv_iadd hx hb dX12_either_111 ?_
                    refine lv_topi (fun z21383 e21384 => ?_)
                    try (have t21385 := tadd e21384 (a := (v21368 39).toInt) rfl (b := 1) (by decide) (by omega))
                    refine va_put (D := (dC, dI)) (ci := 12) (v := .int z21383) (ty := .int) (C := RX12) (T := TX12) (N := 63) (fs := fsM_0 g v21368 rc) hx hb hwd inA_X12 tyX12 tyX12_ok nmX12 hown hK hP (DM hg) hS 0 rfl rfl 39 (by decide) (hwd _ wk_1004) (fun _ h9 => h9) rfl (by decide +kernel) rfl rfl (Nat.le_of_ble_eq_true rfl) dX12_either_112 (fun H locs hP _ hS => ?_)
                    have hP := va_P_eq (pM_39 g c _ _ _ _) hP
                    have hI := IM.put hI 39 z21383 rfl (by omega)
                    refine lv_aload_n hx hb dX12_either_115 rfl (lv_at hl 1 rfl) ?_
                    have t21386 : 0 ≤ (v 30).toInt ∧ (v 30).toInt ≤ 120 := by have h9 := hI.1 30 _ _ rfl; rw [show (va_up v21368 39 z21383) 30 = v 30 from (hf21370 30 (by decide)).trans ((hf21356 30 (by decide)).trans ((hf21339 30 (by decide)).trans ((hf21329 30 (by decide)).trans (hf20929 30 (by decide)))))] at h9; exact h9
                    have t21387 : 0 ≤ (v 37).toInt ∧ (v 37).toInt ≤ 9 := by have h9 := hI.1 37 _ _ rfl; rw [show (va_up v21368 39 z21383) 37 = v 37 from (hf21370 37 (by decide)).trans ((hf21356 37 (by decide)).trans ((hf21339 37 (by decide)).trans ((hf21329 37 (by decide)).trans (hf20929 37 (by decide)))))] at h9; exact h9
                    have t21388 : 0 ≤ (v21368 38).toInt ∧ (v21368 38).toInt ≤ 120 := hI.1 38 _ _ rfl
                    have t21389 : 0 ≤ z21383.toInt ∧ z21383.toInt ≤ 120 := hI.1 39 _ _ rfl
                    have t21390 : 0 ≤ (v21368 41).toInt ∧ (v21368 41).toInt ≤ 8 := hI.1 41 _ _ rfl
                    refine va_callv (va_runV (As := []) (rest := []) ⟨hx, hb, hml, hown, hwd⟩ (c_X12_either_3 l dC dI g c adK adV (va_up v21368 39 z21383) F21369 rc H.size  ((((d + 1) + 1) - 1) + 1) hg hI (by have h9 : (va_up v21368 39 z21383) 38 = v21368 38 := rfl; (try rw [h9]); clear h9; have h9 : (va_up v21368 39 z21383) 39 = z21383 := rfl; (try rw [h9]); clear h9; have h9 : (va_up v21368 39 z21383) 30 = v 30 := (hf21370 30 (by decide)).trans ((hf21356 30 (by decide)).trans ((hf21339 30 (by decide)).trans ((hf21329 30 (by decide)).trans (hf20929 30 (by decide))))); (try rw [h9]); clear h9; have h9 : (va_up v21368 39 z21383) 40 = v21368 40 := rfl; (try rw [h9]); clear h9; have h9 : (va_up v21368 39 z21383) 41 = v21368 41 := rfl; (try rw [h9]); clear h9; omega) (by have h9 : (va_up v21368 39 z21383) 37 = (v 37) := (hf21370 37 (by decide)).trans ((hf21356 37 (by decide)).trans ((hf21339 37 (by decide)).trans ((hf21329 37 (by decide)).trans (hf20929 37 (by decide))))); have h8 : (va_up v21368 39 z21383) 38 = (v21368 38) := rfl; (try rw [h9]); (try rw [h8]); exact hd (by omega))) (cwV 0 hwd (gV wk_1010 wk_1007 wk_1008 wk_1009 wk_5) rfl rfl rfl (by decide +kernel) ⟨Nat.le_of_ble_eq_true rfl, Nat.le_of_ble_eq_true rfl⟩) ⟨PM.blind, va_recv hK hP (ci := 12) (q0 := 0) rfl rfl, fun U hU hW => ⟨rfl, PM.at hK hE hP hS hU hW⟩⟩ rfl rfl hl.1 rfl (lv_room (Nat.le_of_ble_eq_true rfl)) dX12_either_116 ⟨Nat.le_of_ble_eq_true rfl, Nat.le_of_ble_eq_true rfl⟩) hS (fun q _ h => (freeM hS) q h) (freeM hS) (fun u t H1 locs ht hvm hw hB hz1 hk1 hS => ?_)
                    unfold BM at hB
                    rw [ht] at hB
                    obtain ⟨v21392, F21393, rc9⟩ := u
                    obtain ⟨hI, hrc, hf21394, hG21395, hw⟩ := hw
                    dsimp only at hI hrc hB hf21394 hG21395 hw
                    have hF := frCF (by decide) hG21395 hF
                    rw [hrc] at hB
                    have hP : va_P (dC, dI) classes (wM g c v21392 F21393 rc) H1 := hB
                    have hw : (z21383.toInt ≤ (v21392 39).toInt ∧ (v21392 39).toInt ≤ ((va_up v21368 39 z21383) 30).toInt ∧ (v21368 38).toInt ≤ (v21392 38).toInt ∧ (v21392 38).toInt - (v21368 38).toInt ≤ (v21392 39).toInt - z21383.toInt ∧ (v21368 41).toInt ≤ (v21392 41).toInt ∧ ((v21392 40).toInt < 0 → (v21392 41).toInt = (v21368 41).toInt)) ∧ keepL ((va_up v21368 39 z21383) 37) (F21369 28) (F21369 29) (F21393 28) (F21393 29) ∧ ((v21392 40).toInt < 0 → dp (F21393 28) (F21393 29) (bI ((va_up v21368 39 z21383) 37)) (v21392 38).toInt.toNat = some (((((d + 1) + 1) - 1) + 1) + 1)) := hw
                    rw [show (va_up v21368 39 z21383) 30 = v 30 from (hf21370 30 (by decide)).trans ((hf21356 30 (by decide)).trans ((hf21339 30 (by decide)).trans ((hf21329 30 (by decide)).trans (hf20929 30 (by decide)))))] at hw
                    rw [show (va_up v21368 39 z21383) 37 = v 37 from (hf21370 37 (by decide)).trans ((hf21356 37 (by decide)).trans ((hf21339 37 (by decide)).trans ((hf21329 37 (by decide)).trans (hf20929 37 (by decide)))))] at hw
                    have hw_r21391 := hw
                    have t21396 : 0 ≤ (v21392 38).toInt ∧ (v21392 38).toInt ≤ 120 := hI.1 38 _ _ rfl
                    have t21397 : 0 ≤ (v21392 39).toInt ∧ (v21392 39).toInt ≤ 120 := hI.1 39 _ _ rfl
                    have t21398 : 0 ≤ (v21392 41).toInt ∧ (v21392 41).toInt ≤ 8 := hI.1 41 _ _ rfl
                    generalize H1 = H at hP hS ⊢
                    have hk := hk.tr hw_r21391.2.1
                    have hd := hw_r21391.2.2
                    refine lv_aload_n hx hb dX12_either_119 rfl (lv_at hl 1 rfl) ?_
                    refine lv_iconst (v := 4) hx hb dX12_either_120 (by decide) ?_
                    refine lv_iconst (v := 0) hx hb dX12_either_121 (by decide) ?_
                    have t21399 : 0 ≤ (v 37).toInt ∧ (v 37).toInt ≤ 9 := by have h9 := hI.1 37 _ _ rfl; rw [show v21392 37 = v 37 from (hf21394 37 (by decide)).trans ((hf21370 37 (by decide)).trans ((hf21356 37 (by decide)).trans ((hf21339 37 (by decide)).trans ((hf21329 37 (by decide)).trans (hf20929 37 (by decide))))))] at h9; exact h9
                    have t21400 : 0 ≤ (v21392 38).toInt ∧ (v21392 38).toInt ≤ 120 := hI.1 38 _ _ rfl
                    refine va_callv (va_runV (As := [.int 4, .int 0]) (rest := []) ⟨hx, hb, hml, hown, hwd⟩ (c_X12_lay l dC dI g c adK adV v21392 F21393 rc H.size 4 0 hg hI (by have h9 : v21392 38 = v21392 38 := rfl; rw [h9]; omega)) (cwV 2 hwd (gV wk_1021 wk_1018 wk_1019 wk_1020 wk_5) rfl rfl rfl (by decide +kernel) ⟨Nat.le_of_ble_eq_true rfl, Nat.le_of_ble_eq_true rfl⟩) ⟨PM.blind, va_recv hK hP (ci := 12) (q0 := 0) rfl rfl, fun U hU hW => ⟨rfl, PM.at hK hE hP hS hU hW⟩⟩ rfl rfl hl.1 rfl (lv_room (Nat.le_of_ble_eq_true rfl)) dX12_either_122 ⟨Nat.le_of_ble_eq_true rfl, Nat.le_of_ble_eq_true rfl⟩) hS (fun q _ h => (freeM hS) q h) (freeM hS) (fun u t H1 locs ht hvm hw hB hz1 hk1 hS => ?_)
                    unfold BM at hB
                    rw [ht] at hB
                    obtain ⟨v21402, F21403, rc9⟩ := u
                    obtain ⟨hI, hrc, hf21404, hG21405, hw⟩ := hw
                    dsimp only at hI hrc hB hf21404 hG21405 hw
                    have hF := frCF (by decide) hG21405 hF
                    rw [hrc] at hB
                    have hP : va_P (dC, dI) classes (wM g c v21402 F21403 rc) H1 := hB
                    have hw : (v21402 38).toInt = (v21392 38).toInt + 1 ∧ keepL (v21392 37) (F21393 28) (F21393 29) (F21403 28) (F21403 29) ∧ dp (F21403 28) (F21403 29) (bI (v21392 37)) ((v21392 38).toInt.toNat + 1) = dpS (dp (F21393 28) (F21393 29) (bI (v21392 37)) (v21392 38).toInt.toNat) (4 : Int32) (0 : Int32) := hw
                    rw [show v21392 37 = v 37 from (hf21394 37 (by decide)).trans ((hf21370 37 (by decide)).trans ((hf21356 37 (by decide)).trans ((hf21339 37 (by decide)).trans ((hf21329 37 (by decide)).trans (hf20929 37 (by decide))))))] at hw
                    have hw_r21401 := hw
                    have t21406 : 0 ≤ (v21402 38).toInt ∧ (v21402 38).toInt ≤ 120 := hI.1 38 _ _ rfl
                    have k21407 : (4 : Int32).toInt = 4 := by decide
                    have k21408 : (0 : Int32).toInt = 0 := by decide
                    generalize H1 = H at hP hS ⊢
                    have hk := hk.tr hw_r21401.2.1
                    have hd : (v21392 40).toInt < 0 → dp (F21403 28) (F21403 29) (bI (v 37)) (v21402 38).toInt.toNat = some ((((((d + 1) + 1) - 1) + 1) + 1) - 2) := fun hf => (by have e9 : (v21402 38).toInt.toNat = (v21392 38).toInt.toNat + 1 := (by omega); rw [e9, hw_r21401.2.2, hd hf]; exact dpS_4 (by decide) (by omega))
                    refine lv_aload_n hx hb dX12_either_125 rfl (lv_at hl 1 rfl) ?_
                    refine lv_dup hx hb dX12_either_126 rfl ?_
                    refine va_get (D := (dC, dI)) (ci := 12) (v := .int (v21402 41)) (C := RX12) (T := TX12) (N := 63) hx hb hwd inA_X12 hown hK hP 0 rfl rfl 41 (by decide) (hwd _ wk_1006) (fun _ h9 => h9) rfl dX12_either_127 ?_
                    refine my_top (v := v21392 41) (hf21404 41 (by decide)) ?_
                    have t21409 : 0 ≤ (v21392 41).toInt ∧ (v21392 41).toInt ≤ 8 := by have h9 := hI.1 41 _ _ rfl; rw [show v21402 41 = v21392 41 from hf21404 41 (by decide)] at h9; exact h9
                    refine lv_iconst (v := 1) hx hb dX12_either_130 (by decide) ?_
                    refine lv_isub hx hb dX12_either_131 ?_
                    refine lv_topi (fun z21410 e21411 => ?_)
                    try (have t21412 := tsub e21411 (a := (v21392 41).toInt) rfl (b := 1) (by decide) (by omega))
                    refine va_put (D := (dC, dI)) (ci := 12) (v := .int z21410) (ty := .int) (C := RX12) (T := TX12) (N := 63) (fs := fsM_0 g v21402 rc) hx hb hwd inA_X12 tyX12 tyX12_ok nmX12 hown hK hP (DM hg) hS 0 rfl rfl 41 (by decide) (hwd _ wk_1006) (fun _ h9 => h9) rfl (by decide +kernel) rfl rfl (Nat.le_of_ble_eq_true rfl) dX12_either_132 (fun H locs hP _ hS => ?_)
                    have hP := va_P_eq (pM_41 g c _ _ _ _) hP
                    have hI := IM.put hI 41 z21410 rfl (by omega)
                    have hP9 : va_P (dC, dI) classes (wM g c (va_up v21402 41 z21410) F21403 rc) H := hP
                    exact W.vret hx hb hr (fun t ht hW => ⟨⟨((va_up v21402 41 z21410), F21403, rc), rfl, ⟨hI, rfl, (frU (by decide) (frC (by decide) hf21404 (frC (by decide) hf21394 (frU (by decide) (frC (by decide) hf21370 (frC (by decide) hf21356 (frC (by decide) hf21339 (frC (by decide) hf21329 (frU (by decide) (frC (by decide) hf20929 (fun _ _ => rfl))))))))))), hF, (by show ((v 39).toInt ≤ ((va_up v21402 41 z21410) 39).toInt ∧ ((va_up v21402 41 z21410) 39).toInt ≤ (v 30).toInt ∧ (v 38).toInt ≤ (v21402 38).toInt ∧ (v21402 38).toInt - (v 38).toInt ≤ ((va_up v21402 41 z21410) 39).toInt - (v 39).toInt ∧ (v 41).toInt ≤ z21410.toInt ∧ (((va_up v21402 41 z21410) 40).toInt < 0 → z21410.toInt = (v 41).toInt)) ∧ keepL (v 37) (F 28) (F 29) (F21403 28) (F21403 29) ∧ (((va_up v21402 41 z21410) 40).toInt < 0 → dp (F21403 28) (F21403 29) (bI (v 37)) (v21402 38).toInt.toNat = some (d + 1)); rw [show (va_up v21402 41 z21410) 39 = v21392 39 from hf21404 39 (by decide)]; rw [show (va_up v21402 41 z21410) 40 = v21392 40 from hf21404 40 (by decide)]; exact ⟨by omega, hk, fun hf => (hd (by omega)).trans (congrArg some (by omega))⟩)⟩, (by show va_P _ _ _ t.heap; rw [ht]; exact hP9)⟩, hS.F ht⟩) hS.2.2 dX12_either_135
                  · skip
                    have t21413 := cv_ne (a := r21379.toInt) rfl (b := 58) (by decide) c21380
                    refine lv_aload_n hx hb dX12_either_100 rfl (lv_at hl 1 rfl) ?_
                    refine va_callv (va_runV (As := []) (rest := []) ⟨hx, hb, hml, hown, hwd⟩ (c_X12_wrong l dC dI g c adK adV v21368 F21369 rc H.size  hg hI ) (cwV 0 hwd (gV wk_1029 wk_1026 wk_1027 wk_1028 wk_5) rfl rfl rfl (by decide +kernel) ⟨Nat.le_of_ble_eq_true rfl, Nat.le_of_ble_eq_true rfl⟩) ⟨PM.blind, va_recv hK hP (ci := 12) (q0 := 0) rfl rfl, fun U hU hW => ⟨rfl, PM.at hK hE hP hS hU hW⟩⟩ rfl rfl hl.1 rfl (lv_room (Nat.le_of_ble_eq_true rfl)) dX12_either_101 ⟨Nat.le_of_ble_eq_true rfl, Nat.le_of_ble_eq_true rfl⟩) hS (fun q _ h => (freeM hS) q h) (freeM hS) (fun u t H1 locs ht hvm hw hB hz1 hk1 hS => ?_)
                    unfold BM at hB
                    rw [ht] at hB
                    obtain ⟨v21415, F21416, rc9⟩ := u
                    obtain ⟨hI, hrc, hf21417, hG21418, hw⟩ := hw
                    dsimp only at hI hrc hB hf21417 hG21418 hw
                    have hF := frCF (by decide) hG21418 hF
                    rw [hrc] at hB
                    have hP : va_P (dC, dI) classes (wM g c v21415 F21416 rc) H1 := hB
                    have hw : 0 ≤ (v21415 40).toInt := hw
                    have hw_r21414 := hw
                    generalize H1 = H at hP hS ⊢
                    have hk : keepL (v 37) (F 28) (F 29) (F21416 28) (F21416 29) := by rw [hG21418 28 (by decide), hG21418 29 (by decide)]; exact hk
                    have hd : (v21415 40).toInt < 0 → dp (F21416 28) (F21416 29) (bI (v 37)) (v21368 38).toInt.toNat = some ((((d + 1) + 1) - 1) + 1) := fun hf => (by rw [hG21418 28 (by decide), hG21418 29 (by decide)]; exact hd (by omega))
                    have hP9 : va_P (dC, dI) classes (wM g c v21415 F21416 rc) H := hP
                    exact W.vret hx hb hr (fun t ht hW => ⟨⟨(v21415, F21416, rc), rfl, ⟨hI, rfl, (frC (by decide) hf21417 (frC (by decide) hf21370 (frC (by decide) hf21356 (frC (by decide) hf21339 (frC (by decide) hf21329 (frU (by decide) (frC (by decide) hf20929 (fun _ _ => rfl)))))))), hF, (by show ((v 39).toInt ≤ (v21415 39).toInt ∧ (v21415 39).toInt ≤ (v 30).toInt ∧ (v 38).toInt ≤ (v21415 38).toInt ∧ (v21415 38).toInt - (v 38).toInt ≤ (v21415 39).toInt - (v 39).toInt ∧ (v 41).toInt ≤ (v21415 41).toInt ∧ ((v21415 40).toInt < 0 → (v21415 41).toInt = (v 41).toInt)) ∧ keepL (v 37) (F 28) (F 29) (F21416 28) (F21416 29) ∧ ((v21415 40).toInt < 0 → dp (F21416 28) (F21416 29) (bI (v 37)) (v21415 38).toInt.toNat = some (d + 1)); rw [show v21415 39 = v21368 39 from hf21417 39 (by decide)]; rw [show v21415 38 = v21368 38 from hf21417 38 (by decide)]; rw [show v21415 41 = v21368 41 from hf21417 41 (by decide)]; exact ⟨by omega, hk, fun hf => (hd (by omega)).trans (congrArg some (by omega))⟩)⟩, (by show va_P _ _ _ t.heap; rw [ht]; exact hP9)⟩, hS.F ht⟩) hS.2.2 dX12_either_104
                · skip
                  have t21419 := cv_nlt (a := (v21368 40).toInt) rfl (b := 0) (by decide) c21375
                  have hP9 : va_P (dC, dI) classes (wM g c v21368 F21369 rc) H := hP
                  exact W.vret hx hb hr (fun t ht hW => ⟨⟨(v21368, F21369, rc), rfl, ⟨hI, rfl, (frC (by decide) hf21370 (frC (by decide) hf21356 (frC (by decide) hf21339 (frC (by decide) hf21329 (frU (by decide) (frC (by decide) hf20929 (fun _ _ => rfl))))))), hF, (by show ((v 39).toInt ≤ (v21368 39).toInt ∧ (v21368 39).toInt ≤ (v 30).toInt ∧ (v 38).toInt ≤ (v21368 38).toInt ∧ (v21368 38).toInt - (v 38).toInt ≤ (v21368 39).toInt - (v 39).toInt ∧ (v 41).toInt ≤ (v21368 41).toInt ∧ ((v21368 40).toInt < 0 → (v21368 41).toInt = (v 41).toInt)) ∧ keepL (v 37) (F 28) (F 29) (F21369 28) (F21369 29) ∧ ((v21368 40).toInt < 0 → dp (F21369 28) (F21369 29) (bI (v 37)) (v21368 38).toInt.toNat = some (d + 1)); exact ⟨by omega, hk, fun hf => (hd (by omega)).trans (congrArg some (by omega))⟩)⟩, (by show va_P _ _ _ t.heap; rw [ht]; exact hP9)⟩, hS.F ht⟩) hS.2.2 dX12_either_90
              · skip
                have t21420 := cv_eq (a := r21353.toInt) rfl (b := 0) (by decide) c21360
                have hP9 : va_P (dC, dI) classes (wM g c v21354 F21355 rc) H := hP
                exact W.vret hx hb hr (fun t ht hW => ⟨⟨(v21354, F21355, rc), rfl, ⟨hI, rfl, (frC (by decide) hf21356 (frC (by decide) hf21339 (frC (by decide) hf21329 (frU (by decide) (frC (by decide) hf20929 (fun _ _ => rfl)))))), hF, (by show ((v 39).toInt ≤ (v21354 39).toInt ∧ (v21354 39).toInt ≤ (v 30).toInt ∧ (v 38).toInt ≤ (v21354 38).toInt ∧ (v21354 38).toInt - (v 38).toInt ≤ (v21354 39).toInt - (v 39).toInt ∧ (v 41).toInt ≤ (v21354 41).toInt ∧ ((v21354 40).toInt < 0 → (v21354 41).toInt = (v 41).toInt)) ∧ keepL (v 37) (F 28) (F 29) (F21355 28) (F21355 29) ∧ ((v21354 40).toInt < 0 → dp (F21355 28) (F21355 29) (bI (v 37)) (v21354 38).toInt.toNat = some (d + 1)); rw [show v21354 38 = v21337 38 from hf21356 38 (by decide)]; exact ⟨by omega, hk, fun hf => (hd (by omega)).trans (congrArg some (by omega))⟩)⟩, (by show va_P _ _ _ t.heap; rw [ht]; exact hP9)⟩, hS.F ht⟩) hS.2.2 dX12_either_78
            · skip
              have t21421 := cv_ne (a := r21348.toInt) rfl (b := 63) (by decide) c21349
              have hP9 : va_P (dC, dI) classes (wM g c v21337 F21338 rc) H := hP
              exact W.vret hx hb hr (fun t ht hW => ⟨⟨(v21337, F21338, rc), rfl, ⟨hI, rfl, (frC (by decide) hf21339 (frC (by decide) hf21329 (frU (by decide) (frC (by decide) hf20929 (fun _ _ => rfl))))), hF, (by show ((v 39).toInt ≤ (v21337 39).toInt ∧ (v21337 39).toInt ≤ (v 30).toInt ∧ (v 38).toInt ≤ (v21337 38).toInt ∧ (v21337 38).toInt - (v 38).toInt ≤ (v21337 39).toInt - (v 39).toInt ∧ (v 41).toInt ≤ (v21337 41).toInt ∧ ((v21337 40).toInt < 0 → (v21337 41).toInt = (v 41).toInt)) ∧ keepL (v 37) (F 28) (F 29) (F21338 28) (F21338 29) ∧ ((v21337 40).toInt < 0 → dp (F21338 28) (F21338 29) (bI (v 37)) (v21337 38).toInt.toNat = some (d + 1)); rw [show v21337 39 = v21327 39 from hf21339 39 (by decide)]; rw [show v21337 41 = v21327 41 from hf21339 41 (by decide)]; rw [show v21337 40 = v21327 40 from hf21339 40 (by decide)]; exact ⟨by omega, hk, fun hf => (hd (by omega)).trans (congrArg some (by omega))⟩)⟩, (by show va_P _ _ _ t.heap; rw [ht]; exact hP9)⟩, hS.F ht⟩) hS.2.2 dX12_either_70
