set_option maxHeartbeats 8000000 in
set_option maxRecDepth 100000 in
theorem c_X3_readOperand_7 (l : Launch) (dC : Nat → ClassId) (dI : Nat → Nat → Nat) (g : Nat → Nat) (c : Nat → ClassId) (adK adV : Nat → Nat) (v : Nat → Int32) (F : Nat → Nat → Int32) (nr sz : Nat) (hg : injX g) (hnr : nr < 10) (hI : IX v F) : Met l yX3_readOperand (Cond.code yX3_readOperand cX3_readOperand 3 none :: wA) ({ frames := 11, cells := 0, slots := 0, locals := 440 }) (va_Pc [.ref (g 7), .int 7] (PX dC dI g c adK adV v F (g (44 + nr)) sz)) (va_Qv (fun (u : StX) => IX u.1 u.2.1 ∧ alX u.1 u.2.1 = alX v F ∧ u.2.2 = (g (44 + nr)) ∧ (∀ k, k ∉ ([142, 143, 144] : List Nat) → u.1 k = v k) ∧ True) (BX dC dI g c) (AX g sz)) 0 0 (AX g sz) := by
  refine Met.ofW (cc := cX3_readOperand) (maxL := 3) (ret := none) (by decide) rfl ?_
  intro p e s m args below meth c0 s₁ B hml hv
  obtain ⟨rfl, hsz, hP, hK, hE⟩ := hv
  have hx := B.exec
  have hb := B.bytes
  have hr := B.returns
  have hts := atoms_spec (ws := Cond.code yX3_readOperand cX3_readOperand 3 none :: wA) B.pre
  have hwd : ∀ w ∈ wA, w.before _ s = true := fun w h => hts w (List.mem_cons_of_mem _ h)
  have hown : s.vm.findClass RX3 = some m.cls := findClass_of_methodNamed B.named
  have hlocks := B.notSynchronized
  subst hsz
  have hl := lv_entry ([.ref (g 7), .int 7]) (n := 3) (Nat.le_of_ble_eq_true rfl)
  rw [lg_entry_eq]
  generalize (lg_sl ([.ref (g 7), .int 7]) ++ List.replicate (3 - (lg_sl ([.ref (g 7), .int 7])).length) Slot.unset).toArray = ls at hl ⊢
  have hl : lv_has ls 3 [(0, .ref (g 7)), (1, .int 7)] := hl
  obtain ⟨H, eH⟩ : ∃ z, z = s.heap := ⟨_, rfl⟩
  have hP : va_P (dC, dI) classes (wX g c v F (g (44 + nr))) H := by rw [eH]; exact hP
  have hS : va_S (AX g s.heap.size) s.heap H [] := by rw [eH]; exact va_S.rf
  refine my_heap eH ?_
  have hal : alX v F = alX v F := rfl
  refine lv_aload_n hx hb dX3_readOperand_0 rfl (lv_at hl 0 rfl) ?_
  refine va_calli (va_runV (As := []) (rest := []) ⟨hx, hb, hml, hown, hwd⟩ (c_X3_next l dC dI g c adK adV v F nr H.size  hg hnr hI ) (cwV 0 hwd (gV wk_866 wk_863 wk_864 wk_865 wk_38) rfl rfl rfl (by decide +kernel) ⟨Nat.le_of_ble_eq_true rfl, Nat.le_of_ble_eq_true rfl⟩) ⟨PX.blind, va_recv hK hP (ci := 3) (q0 := 7) rfl rfl, fun U hU hW => ⟨rfl, PX.at hK hE hP hS hU hW⟩⟩ rfl rfl hl.1 rfl (lv_room (Nat.le_of_ble_eq_true rfl)) dX3_readOperand_1 ⟨Nat.le_of_ble_eq_true rfl, Nat.le_of_ble_eq_true rfl⟩) hS (fun q _ h => (freeX hS) q h) (freeX hS) (fun r3921 u t H1 locs ht hvm hw hB hz1 hk1 hS => ?_)
  unfold BX at hB
  rw [ht] at hB
  have hP : va_P (dC, dI) classes (wX g c v F (g (44 + nr))) H1 := hB
  generalize H1 = H at hP hS ⊢
  have rr_r3921 := i32_rng r3921
  refine lv_istore_n (lv' := [(2, .int r3921), (0, .ref (g 7)), (1, .int 7)]) hx hb dX3_readOperand_4 rfl hl (by decide) rfl (fun ls hl => ?_)
  refine lv_iload_n hx hb dX3_readOperand_5 rfl (lv_at hl 0 rfl) ?_
  refine lv_bipush (v := 45) hx hb dX3_readOperand_6 (by decide) ?_
  refine lv_icmp_ne (tgt := 36) hx hb dX3_readOperand_8 (by decide) (fun c3922 => ?_) (fun c3922 => ?_)
  · skip
    have t3923 := cv_ne (a := r3921.toInt) rfl (b := 45) (by decide) c3922
    refine lv_iload_n hx hb dX3_readOperand_36 rfl (lv_at hl 0 rfl) ?_
    refine lv_bipush (v := 40) hx hb dX3_readOperand_37 (by decide) ?_
    refine lv_icmp_ne (tgt := 66) hx hb dX3_readOperand_39 (by decide) (fun c3924 => ?_) (fun c3924 => ?_)
    · skip
      have t3925 := cv_ne (a := r3921.toInt) rfl (b := 40) (by decide) c3924
      refine lv_aload_n hx hb dX3_readOperand_66 rfl (lv_at hl 1 rfl) ?_
      refine lv_iload_n hx hb dX3_readOperand_67 rfl (lv_at hl 0 rfl) ?_
      refine va_callv (va_runV (As := [.int r3921]) (rest := []) ⟨hx, hb, hml, hown, hwd⟩ (c_X3_readNumberOrName l dC dI g c adK adV v F nr H.size r3921 hg hnr hI ) (cwV 1 hwd (gV wk_902 wk_899 wk_900 wk_901 wk_38) rfl rfl rfl (by decide +kernel) ⟨Nat.le_of_ble_eq_true rfl, Nat.le_of_ble_eq_true rfl⟩) ⟨PX.blind, va_recv hK hP (ci := 3) (q0 := 7) rfl rfl, fun U hU hW => ⟨rfl, PX.at hK hE hP hS hU hW⟩⟩ rfl rfl hl.1 rfl (lv_room (Nat.le_of_ble_eq_true rfl)) dX3_readOperand_68 ⟨Nat.le_of_ble_eq_true rfl, Nat.le_of_ble_eq_true rfl⟩) hS (fun q _ h => (freeX hS) q h) (freeX hS) (fun u t H1 locs ht hvm hw hB hz1 hk1 hS => ?_)
      unfold BX at hB
      rw [ht] at hB
      obtain ⟨v3927, F3928, rc9⟩ := u
      obtain ⟨hI, hal9, hrc, hf3929, hw⟩ := hw
      dsimp only at hI hal9 hrc hB hf3929 hw
      rw [hrc] at hB
      have hal := hal9.trans hal
      have hP : va_P (dC, dI) classes (wX g c v3927 F3928 (g (44 + nr))) H1 := hB
      generalize H1 = H at hP hS ⊢
      have hP9 : va_P (dC, dI) classes (wX g c v3927 F3928 (g (44 + nr))) H := hP
      exact W.vret hx hb hr (fun t ht hW => ⟨⟨(v3927, F3928, (g (44 + nr))), rfl, ⟨hI, hal, rfl, (frC (by decide) hf3929 (fun _ _ => rfl)), trivial⟩, (by show va_P _ _ _ t.heap; rw [ht]; exact hP9)⟩, hS.F ht⟩) hS.2.2 dX3_readOperand_71
    · skip
      have t3930 := cv_eq (a := r3921.toInt) rfl (b := 40) (by decide) c3924
      refine lv_aload_n hx hb dX3_readOperand_42 rfl (lv_at hl 1 rfl) ?_
      refine lv_iload_n hx hb dX3_readOperand_43 rfl (lv_at hl 2 rfl) ?_
      refine va_calli (va_runV (As := [.int 7]) (rest := []) ⟨hx, hb, hml, hown, hwd⟩ (c_X3_opens l dC dI g c adK adV v F nr H.size 7 hg hnr hI ) (cwV 1 hwd (gV wk_874 wk_871 wk_872 wk_873 wk_38) rfl rfl rfl (by decide +kernel) ⟨Nat.le_of_ble_eq_true rfl, Nat.le_of_ble_eq_true rfl⟩) ⟨PX.blind, va_recv hK hP (ci := 3) (q0 := 7) rfl rfl, fun U hU hW => ⟨rfl, PX.at hK hE hP hS hU hW⟩⟩ rfl rfl hl.1 rfl (lv_room (Nat.le_of_ble_eq_true rfl)) dX3_readOperand_44 ⟨Nat.le_of_ble_eq_true rfl, Nat.le_of_ble_eq_true rfl⟩) hS (fun q _ h => (freeX hS) q h) (freeX hS) (fun r3931 u t H1 locs ht hvm hw hB hz1 hk1 hS => ?_)
      unfold BX at hB
      rw [ht] at hB
      obtain ⟨v3932, F3933, rc9⟩ := u
      obtain ⟨hI, hal9, hrc, hf3934, hw⟩ := hw
      dsimp only at hI hal9 hrc hB hf3934 hw
      rw [hrc] at hB
      have hal := hal9.trans hal
      have hP : va_P (dC, dI) classes (wX g c v3932 F3933 (g (44 + nr))) H1 := hB
      have hw : (r3931.toInt = 1 ∧ (7 : Int32).toInt < 8) ∨ (r3931.toInt = 0 ∧ 8 ≤ (7 : Int32).toInt) := hw
      have k3935 : (7 : Int32).toInt = 7 := by decide
      generalize H1 = H at hP hS ⊢
      have hw_r3931 := hw
      refine lv_if_eq (tgt := 71) hx hb dX3_readOperand_47 (by decide) (fun c3936 => ?_) (fun c3936 => ?_)
      · skip
        have t3937 := cv_eq (a := r3931.toInt) rfl (b := 0) (by decide) c3936
        have hP9 : va_P (dC, dI) classes (wX g c v3932 F3933 (g (44 + nr))) H := hP
        exact W.vret hx hb hr (fun t ht hW => ⟨⟨(v3932, F3933, (g (44 + nr))), rfl, ⟨hI, hal, rfl, (frC (by decide) hf3934 (fun _ _ => rfl)), trivial⟩, (by show va_P _ _ _ t.heap; rw [ht]; exact hP9)⟩, hS.F ht⟩) hS.2.2 dX3_readOperand_71
      · skip
        have t3938 := cv_ne (a := r3931.toInt) rfl (b := 0) (by decide) c3936
        refine lv_aload_n hx hb dX3_readOperand_50 rfl (lv_at hl 1 rfl) ?_
        refine lv_iload_n hx hb dX3_readOperand_51 rfl (lv_at hl 2 rfl) ?_
        refine lv_iconst (v := 1) hx hb dX3_readOperand_52 (by decide) ?_
        refine lv_iadd hx hb dX3_readOperand_53 ?_
        refine my_top (v := 8) (by decide) ?_
        refine va_callv (va_runV (As := [.int 8]) (rest := []) ⟨hx, hb, hml, hown, hwd⟩ (c_X3_readChoice_8 l dC dI g c adK adV v3932 F3933 nr H.size  hg hnr hI ) (cwV 1 hwd (gV wk_859 wk_856 wk_857 wk_858 wk_38) rfl rfl rfl (by decide +kernel) ⟨Nat.le_of_ble_eq_true rfl, Nat.le_of_ble_eq_true rfl⟩) ⟨PX.blind, va_recv hK hP (ci := 3) (q0 := 7) rfl rfl, fun U hU hW => ⟨rfl, PX.at hK hE hP hS hU hW⟩⟩ rfl rfl hl.1 rfl (lv_room (Nat.le_of_ble_eq_true rfl)) dX3_readOperand_54 ⟨Nat.le_of_ble_eq_true rfl, Nat.le_of_ble_eq_true rfl⟩) hS (fun q _ h => (freeX hS) q h) (freeX hS) (fun u t H1 locs ht hvm hw hB hz1 hk1 hS => ?_)
        unfold BX at hB
        rw [ht] at hB
        obtain ⟨v3940, F3941, rc9⟩ := u
        obtain ⟨hI, hal9, hrc, hf3942, hw⟩ := hw
        dsimp only at hI hal9 hrc hB hf3942 hw
        rw [hrc] at hB
        have hal := hal9.trans hal
        have hP : va_P (dC, dI) classes (wX g c v3940 F3941 (g (44 + nr))) H1 := hB
        generalize H1 = H at hP hS ⊢
        refine lv_aload_n hx hb dX3_readOperand_57 rfl (lv_at hl 1 rfl) ?_
        refine lv_bipush (v := 41) hx hb dX3_readOperand_58 (by decide) ?_
        refine va_callv (va_runV (As := [.int 41]) (rest := []) ⟨hx, hb, hml, hown, hwd⟩ (c_X3_take l dC dI g c adK adV v3940 F3941 nr H.size 41 hg hnr hI ) (cwV 1 hwd (gV wk_886 wk_883 wk_884 wk_885 wk_38) rfl rfl rfl (by decide +kernel) ⟨Nat.le_of_ble_eq_true rfl, Nat.le_of_ble_eq_true rfl⟩) ⟨PX.blind, va_recv hK hP (ci := 3) (q0 := 7) rfl rfl, fun U hU hW => ⟨rfl, PX.at hK hE hP hS hU hW⟩⟩ rfl rfl hl.1 rfl (lv_room (Nat.le_of_ble_eq_true rfl)) dX3_readOperand_60 ⟨Nat.le_of_ble_eq_true rfl, Nat.le_of_ble_eq_true rfl⟩) hS (fun q _ h => (freeX hS) q h) (freeX hS) (fun u t H1 locs ht hvm hw hB hz1 hk1 hS => ?_)
        unfold BX at hB
        rw [ht] at hB
        obtain ⟨v3944, F3945, rc9⟩ := u
        obtain ⟨hI, hal9, hrc, hf3946, hw⟩ := hw
        dsimp only at hI hal9 hrc hB hf3946 hw
        rw [hrc] at hB
        have hal := hal9.trans hal
        have hP : va_P (dC, dI) classes (wX g c v3944 F3945 (g (44 + nr))) H1 := hB
        generalize H1 = H at hP hS ⊢
        refine lv_goto (tgt := 71) hx hb dX3_readOperand_63 (by decide) ?_
        have hP9 : va_P (dC, dI) classes (wX g c v3944 F3945 (g (44 + nr))) H := hP
        exact W.vret hx hb hr (fun t ht hW => ⟨⟨(v3944, F3945, (g (44 + nr))), rfl, ⟨hI, hal, rfl, (frC (by decide) hf3946 (frC (by decide) hf3942 (frC (by decide) hf3934 (fun _ _ => rfl)))), trivial⟩, (by show va_P _ _ _ t.heap; rw [ht]; exact hP9)⟩, hS.F ht⟩) hS.2.2 dX3_readOperand_71
  · skip
    have t3947 := cv_eq (a := r3921.toInt) rfl (b := 45) (by decide) c3922
    refine lv_aload_n hx hb dX3_readOperand_11 rfl (lv_at hl 1 rfl) ?_
    refine lv_iload_n hx hb dX3_readOperand_12 rfl (lv_at hl 2 rfl) ?_
    refine va_calli (va_runV (As := [.int 7]) (rest := []) ⟨hx, hb, hml, hown, hwd⟩ (c_X3_opens l dC dI g c adK adV v F nr H.size 7 hg hnr hI ) (cwV 1 hwd (gV wk_874 wk_871 wk_872 wk_873 wk_38) rfl rfl rfl (by decide +kernel) ⟨Nat.le_of_ble_eq_true rfl, Nat.le_of_ble_eq_true rfl⟩) ⟨PX.blind, va_recv hK hP (ci := 3) (q0 := 7) rfl rfl, fun U hU hW => ⟨rfl, PX.at hK hE hP hS hU hW⟩⟩ rfl rfl hl.1 rfl (lv_room (Nat.le_of_ble_eq_true rfl)) dX3_readOperand_13 ⟨Nat.le_of_ble_eq_true rfl, Nat.le_of_ble_eq_true rfl⟩) hS (fun q _ h => (freeX hS) q h) (freeX hS) (fun r3948 u t H1 locs ht hvm hw hB hz1 hk1 hS => ?_)
    unfold BX at hB
    rw [ht] at hB
    obtain ⟨v3949, F3950, rc9⟩ := u
    obtain ⟨hI, hal9, hrc, hf3951, hw⟩ := hw
    dsimp only at hI hal9 hrc hB hf3951 hw
    rw [hrc] at hB
    have hal := hal9.trans hal
    have hP : va_P (dC, dI) classes (wX g c v3949 F3950 (g (44 + nr))) H1 := hB
    have hw : (r3948.toInt = 1 ∧ (7 : Int32).toInt < 8) ∨ (r3948.toInt = 0 ∧ 8 ≤ (7 : Int32).toInt) := hw
    have k3952 : (7 : Int32).toInt = 7 := by decide
    generalize H1 = H at hP hS ⊢
    have hw_r3948 := hw
    refine lv_if_eq (tgt := 71) hx hb dX3_readOperand_16 (by decide) (fun c3953 => ?_) (fun c3953 => ?_)
    · skip
      have t3954 := cv_eq (a := r3948.toInt) rfl (b := 0) (by decide) c3953
      have hP9 : va_P (dC, dI) classes (wX g c v3949 F3950 (g (44 + nr))) H := hP
      exact W.vret hx hb hr (fun t ht hW => ⟨⟨(v3949, F3950, (g (44 + nr))), rfl, ⟨hI, hal, rfl, (frC (by decide) hf3951 (fun _ _ => rfl)), trivial⟩, (by show va_P _ _ _ t.heap; rw [ht]; exact hP9)⟩, hS.F ht⟩) hS.2.2 dX3_readOperand_71
    · skip
      have t3955 := cv_ne (a := r3948.toInt) rfl (b := 0) (by decide) c3953
      refine lv_aload_n hx hb dX3_readOperand_19 rfl (lv_at hl 1 rfl) ?_
      refine lv_iload_n hx hb dX3_readOperand_20 rfl (lv_at hl 2 rfl) ?_
      refine lv_iconst (v := 1) hx hb dX3_readOperand_21 (by decide) ?_
      refine lv_iadd hx hb dX3_readOperand_22 ?_
      refine my_top (v := 8) (by decide) ?_
      refine va_callv (va_runV (As := [.int 8]) (rest := []) ⟨hx, hb, hml, hown, hwd⟩ (c_X3_readOperand_8 l dC dI g c adK adV v3949 F3950 nr H.size  hg hnr hI ) (cwV 1 hwd (gV wk_895 wk_896 wk_897 wk_898 wk_38) rfl rfl rfl (by decide +kernel) ⟨Nat.le_of_ble_eq_true rfl, Nat.le_of_ble_eq_true rfl⟩) ⟨PX.blind, va_recv hK hP (ci := 3) (q0 := 7) rfl rfl, fun U hU hW => ⟨rfl, PX.at hK hE hP hS hU hW⟩⟩ rfl rfl hl.1 rfl (lv_room (Nat.le_of_ble_eq_true rfl)) dX3_readOperand_23 ⟨Nat.le_of_ble_eq_true rfl, Nat.le_of_ble_eq_true rfl⟩) hS (fun q _ h => (freeX hS) q h) (freeX hS) (fun u t H1 locs ht hvm hw hB hz1 hk1 hS => ?_)
      unfold BX at hB
      rw [ht] at hB
      obtain ⟨v3957, F3958, rc9⟩ := u
      obtain ⟨hI, hal9, hrc, hf3959, hw⟩ := hw
      dsimp only at hI hal9 hrc hB hf3959 hw
      rw [hrc] at hB
      have hal := hal9.trans hal
      have hP : va_P (dC, dI) classes (wX g c v3957 F3958 (g (44 + nr))) H1 := hB
      generalize H1 = H at hP hS ⊢
      refine lv_aload_n hx hb dX3_readOperand_26 rfl (lv_at hl 1 rfl) ?_
      refine lv_iconst (v := 2) hx hb dX3_readOperand_27 (by decide) ?_
      refine lv_iconst (v := 0) hx hb dX3_readOperand_28 (by decide) ?_
      refine va_calli (va_runV (As := [.int 2, .int 0]) (rest := []) ⟨hx, hb, hml, hown, hwd⟩ (c_X3_put l dC dI g c adK adV v3957 F3958 nr H.size 2 0 hg hnr hI (by have : (2 : Int32).toInt = 2 := (by decide); omega) (by have : (0 : Int32).toInt = 0 := (by decide); omega)) (cwV 2 hwd (gV wk_882 wk_879 wk_880 wk_881 wk_38) rfl rfl rfl (by decide +kernel) ⟨Nat.le_of_ble_eq_true rfl, Nat.le_of_ble_eq_true rfl⟩) ⟨PX.blind, va_recv hK hP (ci := 3) (q0 := 7) rfl rfl, fun U hU hW => ⟨rfl, PX.at hK hE hP hS hU hW⟩⟩ rfl rfl hl.1 rfl (lv_room (Nat.le_of_ble_eq_true rfl)) dX3_readOperand_29 ⟨Nat.le_of_ble_eq_true rfl, Nat.le_of_ble_eq_true rfl⟩) hS (fun q _ h => (freeX hS) q h) (freeX hS) (fun r3960 u t H1 locs ht hvm hw hB hz1 hk1 hS => ?_)
      unfold BX at hB
      rw [ht] at hB
      obtain ⟨v3961, F3962, rc9⟩ := u
      obtain ⟨hI, hal9, hrc, hf3963, hw⟩ := hw
      dsimp only at hI hal9 hrc hB hf3963 hw
      rw [hrc] at hB
      have hal := hal9.trans hal
      have hP : va_P (dC, dI) classes (wX g c v3961 F3962 (g (44 + nr))) H1 := hB
      have hw : -1 ≤ r3960.toInt ∧ r3960.toInt ≤ 119 := hw
      have k3964 : (2 : Int32).toInt = 2 := by decide
      have k3965 : (0 : Int32).toInt = 0 := by decide
      generalize H1 = H at hP hS ⊢
      have hw_r3960 := hw
      refine lv_pop hx hb dX3_readOperand_32 rfl ?_
      refine lv_goto (tgt := 71) hx hb dX3_readOperand_33 (by decide) ?_
      have hP9 : va_P (dC, dI) classes (wX g c v3961 F3962 (g (44 + nr))) H := hP
      exact W.vret hx hb hr (fun t ht hW => ⟨⟨(v3961, F3962, (g (44 + nr))), rfl, ⟨hI, hal, rfl, (frC (by decide) hf3963 (frC (by decide) hf3959 (frC (by decide) hf3951 (fun _ _ => rfl)))), trivial⟩, (by show va_P _ _ _ t.heap; rw [ht]; exact hP9)⟩, hS.F ht⟩) hS.2.2 dX3_readOperand_71
set_option maxHeartbeats 8000000 in
set_option maxRecDepth 100000 in
theorem c_X3_readProduct_7 (l : Launch) (dC : Nat → ClassId) (dI : Nat → Nat → Nat) (g : Nat → Nat) (c : Nat → ClassId) (adK adV : Nat → Nat) (v : Nat → Int32) (F : Nat → Nat → Int32) (nr sz : Nat) (hg : injX g) (hnr : nr < 10) (hI : IX v F) : Met l yX3_readProduct (Cond.code yX3_readProduct cX3_readProduct 4 none :: wA) ({ frames := 12, cells := 0, slots := 0, locals := 480 }) (va_Pc [.ref (g 7), .int 7] (PX dC dI g c adK adV v F (g (44 + nr)) sz)) (va_Qv (fun (u : StX) => IX u.1 u.2.1 ∧ alX u.1 u.2.1 = alX v F ∧ u.2.2 = (g (44 + nr)) ∧ (∀ k, k ∉ ([142, 143, 144] : List Nat) → u.1 k = v k) ∧ True) (BX dC dI g c) (AX g sz)) 0 0 (AX g sz) := by
  refine Met.ofW (cc := cX3_readProduct) (maxL := 4) (ret := none) (by decide) rfl ?_
  intro p e s m args below meth c0 s₁ B hml hv
  obtain ⟨rfl, hsz, hP, hK, hE⟩ := hv
  have hx := B.exec
  have hb := B.bytes
  have hr := B.returns
  have hts := atoms_spec (ws := Cond.code yX3_readProduct cX3_readProduct 4 none :: wA) B.pre
  have hwd : ∀ w ∈ wA, w.before _ s = true := fun w h => hts w (List.mem_cons_of_mem _ h)
  have hown : s.vm.findClass RX3 = some m.cls := findClass_of_methodNamed B.named
  have hlocks := B.notSynchronized
  subst hsz
  have hl := lv_entry ([.ref (g 7), .int 7]) (n := 4) (Nat.le_of_ble_eq_true rfl)
  rw [lg_entry_eq]
  generalize (lg_sl ([.ref (g 7), .int 7]) ++ List.replicate (4 - (lg_sl ([.ref (g 7), .int 7])).length) Slot.unset).toArray = ls at hl ⊢
  have hl : lv_has ls 4 [(0, .ref (g 7)), (1, .int 7)] := hl
  obtain ⟨H, eH⟩ : ∃ z, z = s.heap := ⟨_, rfl⟩
  have hP : va_P (dC, dI) classes (wX g c v F (g (44 + nr))) H := by rw [eH]; exact hP
  have hS : va_S (AX g s.heap.size) s.heap H [] := by rw [eH]; exact va_S.rf
  refine my_heap eH ?_
  have hal : alX v F = alX v F := rfl
  refine lv_aload_n hx hb dX3_readProduct_0 rfl (lv_at hl 0 rfl) ?_
  refine lv_iload_n hx hb dX3_readProduct_1 rfl (lv_at hl 1 rfl) ?_
  refine va_callv (va_runV (As := [.int 7]) (rest := []) ⟨hx, hb, hml, hown, hwd⟩ (c_X3_readOperand_7 l dC dI g c adK adV v F nr H.size  hg hnr hI ) (cwV 1 hwd (gV wk_895 wk_896 wk_897 wk_898 wk_38) rfl rfl rfl (by decide +kernel) ⟨Nat.le_of_ble_eq_true rfl, Nat.le_of_ble_eq_true rfl⟩) ⟨PX.blind, va_recv hK hP (ci := 3) (q0 := 7) rfl rfl, fun U hU hW => ⟨rfl, PX.at hK hE hP hS hU hW⟩⟩ rfl rfl hl.1 rfl (lv_room (Nat.le_of_ble_eq_true rfl)) dX3_readProduct_2 ⟨Nat.le_of_ble_eq_true rfl, Nat.le_of_ble_eq_true rfl⟩) hS (fun q _ h => (freeX hS) q h) (freeX hS) (fun u t H1 locs ht hvm hw hB hz1 hk1 hS => ?_)
  unfold BX at hB
  rw [ht] at hB
  obtain ⟨v3967, F3968, rc9⟩ := u
  obtain ⟨hI, hal9, hrc, hf3969, hw⟩ := hw
  dsimp only at hI hal9 hrc hB hf3969 hw
  rw [hrc] at hB
  have hal := hal9.trans hal
  have hP : va_P (dC, dI) classes (wX g c v3967 F3968 (g (44 + nr))) H1 := hB
  generalize H1 = H at hP hS ⊢
  refine lv_iconst (v := 0) hx hb dX3_readProduct_5 (by decide) ?_
  refine lv_istore_n (lv' := [(2, .int 0), (0, .ref (g 7)), (1, .int 7)]) hx hb dX3_readProduct_6 rfl hl (by decide) rfl (fun ls hl => ?_)
  have lp3970 : ∀ (n : Nat) (x2_lp3970 : Int32) (v_lp3970 : Nat → Int32) (F_lp3970 : Nat → Nat → Int32) (H : Heap) (locs : List Loc) (ls : Array Slot), (0 ≤ x2_lp3970.toInt) → (2147483648 - x2_lp3970.toInt ≤ (n : Int)) → (∀ k, k ∉ ([142, 143, 144] : List Nat) → v_lp3970 k = v3967 k) → IX v_lp3970 F_lp3970 → alX v_lp3970 F_lp3970 = alX v F → va_P (dC, dI) classes (wX g c v_lp3970 F_lp3970 (g (44 + nr))) H → va_S (AX g s.heap.size) s.heap H locs → lv_has ls 4 [(2, .int x2_lp3970), (0, .ref (g 7)), (1, .int 7)] → W p l e (headSpec (Cond.code yX3_readProduct cX3_readProduct 4 none :: wA) ({ frames := 12, cells := 0, slots := 0, locals := 480 })).room s m ([.ref (g 7), .int 7] : List Value).toArray below meth c0 H locs 0 0 (MQ below (va_Qv (fun (u : StX) => IX u.1 u.2.1 ∧ alX u.1 u.2.1 = alX v F ∧ u.2.2 = (g (44 + nr)) ∧ (∀ k, k ∉ ([142, 143, 144] : List Nat) → u.1 k = v k) ∧ True) (BX dC dI g c) (AX g s.heap.size)) ([.ref (g 7), .int 7] : List Value).toArray s 0 0 (AX g s.heap.size)) (F0 m 7 ls []) := by
    intro n
    induction n with
    | zero =>
      intro x2_lp3970 v_lp3970 F_lp3970 H locs ls t3971 hm hf_lp3970 hI hal hP hS hl
      exfalso
      have := i32_rng x2_lp3970
      have hI1 := hI.1
      omega
    | succ n ih_lp3970 =>
      intro x2_lp3970 v_lp3970 F_lp3970 H locs ls t3971 hm hf_lp3970 hI hal hP hS hl
      have rx2_lp3970 := i32_rng x2_lp3970
      refine lv_iload_n hx hb dX3_readProduct_7 rfl (lv_at hl 0 rfl) ?_
      refine lv_bipush (v := 120) hx hb dX3_readProduct_8 (by decide) ?_
      refine lv_icmp_ge (tgt := 76) hx hb dX3_readProduct_10 (by decide) (fun c3972 => ?_) (fun c3972 => ?_)
      · skip
        have t3973 := cv_le (a := 120) (by decide) (b := x2_lp3970.toInt) rfl c3972
        have hP9 : va_P (dC, dI) classes (wX g c v_lp3970 F_lp3970 (g (44 + nr))) H := hP
        exact W.vret hx hb hr (fun t ht hW => ⟨⟨(v_lp3970, F_lp3970, (g (44 + nr))), rfl, ⟨hI, hal, rfl, (frC (by decide) hf_lp3970 (frC (by decide) hf3969 (fun _ _ => rfl))), trivial⟩, (by show va_P _ _ _ t.heap; rw [ht]; exact hP9)⟩, hS.F ht⟩) hS.2.2 dX3_readProduct_76
      · skip
        have t3974 := cv_nle (a := 120) (by decide) (b := x2_lp3970.toInt) rfl c3972
        refine lv_aload_n hx hb dX3_readProduct_13 rfl (lv_at hl 1 rfl) ?_
        refine va_calli (va_runV (As := []) (rest := []) ⟨hx, hb, hml, hown, hwd⟩ (c_X3_next l dC dI g c adK adV v_lp3970 F_lp3970 nr H.size  hg hnr hI ) (cwV 0 hwd (gV wk_866 wk_863 wk_864 wk_865 wk_38) rfl rfl rfl (by decide +kernel) ⟨Nat.le_of_ble_eq_true rfl, Nat.le_of_ble_eq_true rfl⟩) ⟨PX.blind, va_recv hK hP (ci := 3) (q0 := 7) rfl rfl, fun U hU hW => ⟨rfl, PX.at hK hE hP hS hU hW⟩⟩ rfl rfl hl.1 rfl (lv_room (Nat.le_of_ble_eq_true rfl)) dX3_readProduct_14 ⟨Nat.le_of_ble_eq_true rfl, Nat.le_of_ble_eq_true rfl⟩) hS (fun q _ h => (freeX hS) q h) (freeX hS) (fun r3975 u t H1 locs ht hvm hw hB hz1 hk1 hS => ?_)
        unfold BX at hB
        rw [ht] at hB
        have hP : va_P (dC, dI) classes (wX g c v_lp3970 F_lp3970 (g (44 + nr))) H1 := hB
        generalize H1 = H at hP hS ⊢
        have rr_r3975 := i32_rng r3975
        refine lv_bipush (v := 42) hx hb dX3_readProduct_17 (by decide) ?_
        refine lv_icmp_eq (tgt := 31) hx hb dX3_readProduct_19 (by decide) (fun c3976 => ?_) (fun c3976 => ?_)
        · skip
          have t3977 := cv_eq (a := r3975.toInt) rfl (b := 42) (by decide) c3976
          refine lv_aload_n hx hb dX3_readProduct_31 rfl (lv_at hl 1 rfl) ?_
          refine va_calli (va_runV (As := []) (rest := []) ⟨hx, hb, hml, hown, hwd⟩ (c_X3_next l dC dI g c adK adV v_lp3970 F_lp3970 nr H.size  hg hnr hI ) (cwV 0 hwd (gV wk_866 wk_863 wk_864 wk_865 wk_38) rfl rfl rfl (by decide +kernel) ⟨Nat.le_of_ble_eq_true rfl, Nat.le_of_ble_eq_true rfl⟩) ⟨PX.blind, va_recv hK hP (ci := 3) (q0 := 7) rfl rfl, fun U hU hW => ⟨rfl, PX.at hK hE hP hS hU hW⟩⟩ rfl rfl hl.1 rfl (lv_room (Nat.le_of_ble_eq_true rfl)) dX3_readProduct_32 ⟨Nat.le_of_ble_eq_true rfl, Nat.le_of_ble_eq_true rfl⟩) hS (fun q _ h => (freeX hS) q h) (freeX hS) (fun r3978 u t H1 locs ht hvm hw hB hz1 hk1 hS => ?_)
          unfold BX at hB
          rw [ht] at hB
          have hP : va_P (dC, dI) classes (wX g c v_lp3970 F_lp3970 (g (44 + nr))) H1 := hB
          generalize H1 = H at hP hS ⊢
          have rr_r3978 := i32_rng r3978
          refine lv_bipush (v := 42) hx hb dX3_readProduct_35 (by decide) ?_
          refine lv_icmp_ne (tgt := 45) hx hb dX3_readProduct_37 (by decide) (fun c3979 => ?_) (fun c3979 => ?_)
          · skip
            have t3980 := cv_ne (a := r3978.toInt) rfl (b := 42) (by decide) c3979
            refine lv_bipush (v := 8) hx hb dX3_readProduct_45 (by decide) ?_
            refine lv_istore_n (lv' := [(3, .int 8), (2, .int x2_lp3970), (0, .ref (g 7)), (1, .int 7)]) hx hb dX3_readProduct_47 rfl hl (by decide) rfl (fun ls hl => ?_)
            refine lv_aload_n hx hb dX3_readProduct_48 rfl (lv_at hl 2 rfl) ?_
            refine lv_dup hx hb dX3_readProduct_49 rfl ?_
            refine va_get (D := (dC, dI)) (ci := 3) (v := .int (v_lp3970 143)) (C := RX3) (T := TX3) (N := 5) hx hb hwd inA_X3 hown hK hP 7 rfl rfl 3 (by decide) (hwd _ wk_853) (fun _ h9 => h9) rfl dX3_readProduct_50 ?_
            refine lv_iconst (v := 1) hx hb dX3_readProduct_53 (by decide) ?_
            refine lv_iadd hx hb dX3_readProduct_54 ?_
            refine lv_topi (fun z3981 e3982 => ?_)
            try (have t3983 := tadd e3982 (a := (v_lp3970 143).toInt) rfl (b := 1) (by decide) (by omega))
            refine va_put (D := (dC, dI)) (ci := 3) (v := .int z3981) (ty := .int) (C := RX3) (T := TX3) (N := 5) (fs := fsX_7 g v_lp3970 (g (44 + nr))) hx hb hwd inA_X3 tyX3 tyX3_ok nmX3 hown hK hP (DX hg) hS 7 rfl rfl 3 (by decide) (hwd _ wk_853) (fun _ h9 => h9) rfl (by decide +kernel) rfl rfl (Nat.le_of_ble_eq_true rfl) dX3_readProduct_55 (fun H locs hP _ hS => ?_)
            have hP := va_P_eq (pX_143 g c _ _ _ _) hP
            have hI := IX.put0 hI 143 z3981 rfl
            have hal := (alX_v _ _ 143 z3981 (by decide) (by decide) (by decide) (by decide)).trans hal
            refine lv_aload_n hx hb dX3_readProduct_58 rfl (lv_at hl 2 rfl) ?_
            refine lv_iload_n hx hb dX3_readProduct_59 rfl (lv_at hl 3 rfl) ?_
            refine va_callv (va_runV (As := [.int 7]) (rest := []) ⟨hx, hb, hml, hown, hwd⟩ (c_X3_readOperand_7 l dC dI g c adK adV (va_up v_lp3970 143 z3981) F_lp3970 nr H.size  hg hnr hI ) (cwV 1 hwd (gV wk_895 wk_896 wk_897 wk_898 wk_38) rfl rfl rfl (by decide +kernel) ⟨Nat.le_of_ble_eq_true rfl, Nat.le_of_ble_eq_true rfl⟩) ⟨PX.blind, va_recv hK hP (ci := 3) (q0 := 7) rfl rfl, fun U hU hW => ⟨rfl, PX.at hK hE hP hS hU hW⟩⟩ rfl rfl hl.1 rfl (lv_room (Nat.le_of_ble_eq_true rfl)) dX3_readProduct_60 ⟨Nat.le_of_ble_eq_true rfl, Nat.le_of_ble_eq_true rfl⟩) hS (fun q _ h => (freeX hS) q h) (freeX hS) (fun u t H1 locs ht hvm hw hB hz1 hk1 hS => ?_)
            unfold BX at hB
            rw [ht] at hB
            obtain ⟨v3985, F3986, rc9⟩ := u
            obtain ⟨hI, hal9, hrc, hf3987, hw⟩ := hw
            dsimp only at hI hal9 hrc hB hf3987 hw
            rw [hrc] at hB
            have hal := hal9.trans hal
            have hP : va_P (dC, dI) classes (wX g c v3985 F3986 (g (44 + nr))) H1 := hB
            generalize H1 = H at hP hS ⊢
            refine lv_aload_n hx hb dX3_readProduct_63 rfl (lv_at hl 2 rfl) ?_
            refine lv_iload_n hx hb dX3_readProduct_64 rfl (lv_at hl 0 rfl) ?_
            refine lv_iconst (v := 0) hx hb dX3_readProduct_65 (by decide) ?_
            refine va_calli (va_runV (As := [.int 8, .int 0]) (rest := []) ⟨hx, hb, hml, hown, hwd⟩ (c_X3_put l dC dI g c adK adV v3985 F3986 nr H.size 8 0 hg hnr hI (by have : (8 : Int32).toInt = 8 := (by decide); omega) (by have : (0 : Int32).toInt = 0 := (by decide); omega)) (cwV 2 hwd (gV wk_882 wk_879 wk_880 wk_881 wk_38) rfl rfl rfl (by decide +kernel) ⟨Nat.le_of_ble_eq_true rfl, Nat.le_of_ble_eq_true rfl⟩) ⟨PX.blind, va_recv hK hP (ci := 3) (q0 := 7) rfl rfl, fun U hU hW => ⟨rfl, PX.at hK hE hP hS hU hW⟩⟩ rfl rfl hl.1 rfl (lv_room (Nat.le_of_ble_eq_true rfl)) dX3_readProduct_66 ⟨Nat.le_of_ble_eq_true rfl, Nat.le_of_ble_eq_true rfl⟩) hS (fun q _ h => (freeX hS) q h) (freeX hS) (fun r3988 u t H1 locs ht hvm hw hB hz1 hk1 hS => ?_)
            unfold BX at hB
            rw [ht] at hB
            obtain ⟨v3989, F3990, rc9⟩ := u
            obtain ⟨hI, hal9, hrc, hf3991, hw⟩ := hw
            dsimp only at hI hal9 hrc hB hf3991 hw
            rw [hrc] at hB
            have hal := hal9.trans hal
            have hP : va_P (dC, dI) classes (wX g c v3989 F3990 (g (44 + nr))) H1 := hB
            have hw : -1 ≤ r3988.toInt ∧ r3988.toInt ≤ 119 := hw
            have k3992 : (8 : Int32).toInt = 8 := by decide
            have k3993 : (0 : Int32).toInt = 0 := by decide
            generalize H1 = H at hP hS ⊢
            have hw_r3988 := hw
            refine lv_pop hx hb dX3_readProduct_69 rfl ?_
            obtain ⟨z3994, e3995⟩ : ∃ y : Int32, y = x2_lp3970 + 1 := ⟨_, rfl⟩
            try (have t3996 := tadd e3995 rfl (b := 1) (by decide) (by omega))
            refine lv_iinc (v := z3994) (lv' := [(2, .int z3994), (3, .int 8), (0, .ref (g 7)), (1, .int 7)]) hx hb dX3_readProduct_70 hl (k := 1) rfl (by rw [e3995]; rfl) (by decide) rfl (fun ls hl => ?_)
            refine lv_goto (tgt := 7) hx hb dX3_readProduct_73 (by decide) ?_
            exact ih_lp3970 z3994 v3989 F3990 _ _ _ (by omega) (by omega) (frC (by decide) hf3991 (frC (by decide) hf3987 (frU (by decide) hf_lp3970))) hI hal hP hS (lv_sub hl [0, 2, 3] rfl)
          · skip
            have t3997 := cv_eq (a := r3978.toInt) rfl (b := 42) (by decide) c3979
            refine lv_bipush (v := 7) hx hb dX3_readProduct_40 (by decide) ?_
            refine lv_goto (tgt := 47) hx hb dX3_readProduct_42 (by decide) ?_
            refine lv_istore_n (lv' := [(3, .int 7), (2, .int x2_lp3970), (0, .ref (g 7)), (1, .int 7)]) hx hb dX3_readProduct_47 rfl hl (by decide) rfl (fun ls hl => ?_)
            refine lv_aload_n hx hb dX3_readProduct_48 rfl (lv_at hl 2 rfl) ?_
            refine lv_dup hx hb dX3_readProduct_49 rfl ?_
            refine va_get (D := (dC, dI)) (ci := 3) (v := .int (v_lp3970 143)) (C := RX3) (T := TX3) (N := 5) hx hb hwd inA_X3 hown hK hP 7 rfl rfl 3 (by decide) (hwd _ wk_853) (fun _ h9 => h9) rfl dX3_readProduct_50 ?_
            refine lv_iconst (v := 1) hx hb dX3_readProduct_53 (by decide) ?_
            refine lv_iadd hx hb dX3_readProduct_54 ?_
            refine lv_topi (fun z3998 e3999 => ?_)
            try (have t4000 := tadd e3999 (a := (v_lp3970 143).toInt) rfl (b := 1) (by decide) (by omega))
            refine va_put (D := (dC, dI)) (ci := 3) (v := .int z3998) (ty := .int) (C := RX3) (T := TX3) (N := 5) (fs := fsX_7 g v_lp3970 (g (44 + nr))) hx hb hwd inA_X3 tyX3 tyX3_ok nmX3 hown hK hP (DX hg) hS 7 rfl rfl 3 (by decide) (hwd _ wk_853) (fun _ h9 => h9) rfl (by decide +kernel) rfl rfl (Nat.le_of_ble_eq_true rfl) dX3_readProduct_55 (fun H locs hP _ hS => ?_)
            have hP := va_P_eq (pX_143 g c _ _ _ _) hP
            have hI := IX.put0 hI 143 z3998 rfl
            have hal := (alX_v _ _ 143 z3998 (by decide) (by decide) (by decide) (by decide)).trans hal
            refine lv_aload_n hx hb dX3_readProduct_58 rfl (lv_at hl 2 rfl) ?_
            refine lv_iload_n hx hb dX3_readProduct_59 rfl (lv_at hl 3 rfl) ?_
            refine va_callv (va_runV (As := [.int 7]) (rest := []) ⟨hx, hb, hml, hown, hwd⟩ (c_X3_readOperand_7 l dC dI g c adK adV (va_up v_lp3970 143 z3998) F_lp3970 nr H.size  hg hnr hI ) (cwV 1 hwd (gV wk_895 wk_896 wk_897 wk_898 wk_38) rfl rfl rfl (by decide +kernel) ⟨Nat.le_of_ble_eq_true rfl, Nat.le_of_ble_eq_true rfl⟩) ⟨PX.blind, va_recv hK hP (ci := 3) (q0 := 7) rfl rfl, fun U hU hW => ⟨rfl, PX.at hK hE hP hS hU hW⟩⟩ rfl rfl hl.1 rfl (lv_room (Nat.le_of_ble_eq_true rfl)) dX3_readProduct_60 ⟨Nat.le_of_ble_eq_true rfl, Nat.le_of_ble_eq_true rfl⟩) hS (fun q _ h => (freeX hS) q h) (freeX hS) (fun u t H1 locs ht hvm hw hB hz1 hk1 hS => ?_)
            unfold BX at hB
            rw [ht] at hB
            obtain ⟨v4002, F4003, rc9⟩ := u
            obtain ⟨hI, hal9, hrc, hf4004, hw⟩ := hw
            dsimp only at hI hal9 hrc hB hf4004 hw
            rw [hrc] at hB
            have hal := hal9.trans hal
            have hP : va_P (dC, dI) classes (wX g c v4002 F4003 (g (44 + nr))) H1 := hB
            generalize H1 = H at hP hS ⊢
            refine lv_aload_n hx hb dX3_readProduct_63 rfl (lv_at hl 2 rfl) ?_
            refine lv_iload_n hx hb dX3_readProduct_64 rfl (lv_at hl 0 rfl) ?_
            refine lv_iconst (v := 0) hx hb dX3_readProduct_65 (by decide) ?_
            refine va_calli (va_runV (As := [.int 7, .int 0]) (rest := []) ⟨hx, hb, hml, hown, hwd⟩ (c_X3_put l dC dI g c adK adV v4002 F4003 nr H.size 7 0 hg hnr hI (by have : (7 : Int32).toInt = 7 := (by decide); omega) (by have : (0 : Int32).toInt = 0 := (by decide); omega)) (cwV 2 hwd (gV wk_882 wk_879 wk_880 wk_881 wk_38) rfl rfl rfl (by decide +kernel) ⟨Nat.le_of_ble_eq_true rfl, Nat.le_of_ble_eq_true rfl⟩) ⟨PX.blind, va_recv hK hP (ci := 3) (q0 := 7) rfl rfl, fun U hU hW => ⟨rfl, PX.at hK hE hP hS hU hW⟩⟩ rfl rfl hl.1 rfl (lv_room (Nat.le_of_ble_eq_true rfl)) dX3_readProduct_66 ⟨Nat.le_of_ble_eq_true rfl, Nat.le_of_ble_eq_true rfl⟩) hS (fun q _ h => (freeX hS) q h) (freeX hS) (fun r4005 u t H1 locs ht hvm hw hB hz1 hk1 hS => ?_)
            unfold BX at hB
            rw [ht] at hB
            obtain ⟨v4006, F4007, rc9⟩ := u
            obtain ⟨hI, hal9, hrc, hf4008, hw⟩ := hw
            dsimp only at hI hal9 hrc hB hf4008 hw
            rw [hrc] at hB
            have hal := hal9.trans hal
            have hP : va_P (dC, dI) classes (wX g c v4006 F4007 (g (44 + nr))) H1 := hB
            have hw : -1 ≤ r4005.toInt ∧ r4005.toInt ≤ 119 := hw
            have k4009 : (7 : Int32).toInt = 7 := by decide
            have k4010 : (0 : Int32).toInt = 0 := by decide
            generalize H1 = H at hP hS ⊢
            have hw_r4005 := hw
            refine lv_pop hx hb dX3_readProduct_69 rfl ?_
            obtain ⟨z4011, e4012⟩ : ∃ y : Int32, y = x2_lp3970 + 1 := ⟨_, rfl⟩
            try (have t4013 := tadd e4012 rfl (b := 1) (by decide) (by omega))
            refine lv_iinc (v := z4011) (lv' := [(2, .int z4011), (3, .int 7), (0, .ref (g 7)), (1, .int 7)]) hx hb dX3_readProduct_70 hl (k := 1) rfl (by rw [e4012]; rfl) (by decide) rfl (fun ls hl => ?_)
            refine lv_goto (tgt := 7) hx hb dX3_readProduct_73 (by decide) ?_
            exact ih_lp3970 z4011 v4006 F4007 _ _ _ (by omega) (by omega) (frC (by decide) hf4008 (frC (by decide) hf4004 (frU (by decide) hf_lp3970))) hI hal hP hS (lv_sub hl [0, 2, 3] rfl)
        · skip
          have t4014 := cv_ne (a := r3975.toInt) rfl (b := 42) (by decide) c3976
          refine lv_aload_n hx hb dX3_readProduct_22 rfl (lv_at hl 1 rfl) ?_
          refine va_calli (va_runV (As := []) (rest := []) ⟨hx, hb, hml, hown, hwd⟩ (c_X3_next l dC dI g c adK adV v_lp3970 F_lp3970 nr H.size  hg hnr hI ) (cwV 0 hwd (gV wk_866 wk_863 wk_864 wk_865 wk_38) rfl rfl rfl (by decide +kernel) ⟨Nat.le_of_ble_eq_true rfl, Nat.le_of_ble_eq_true rfl⟩) ⟨PX.blind, va_recv hK hP (ci := 3) (q0 := 7) rfl rfl, fun U hU hW => ⟨rfl, PX.at hK hE hP hS hU hW⟩⟩ rfl rfl hl.1 rfl (lv_room (Nat.le_of_ble_eq_true rfl)) dX3_readProduct_23 ⟨Nat.le_of_ble_eq_true rfl, Nat.le_of_ble_eq_true rfl⟩) hS (fun q _ h => (freeX hS) q h) (freeX hS) (fun r4015 u t H1 locs ht hvm hw hB hz1 hk1 hS => ?_)
          unfold BX at hB
          rw [ht] at hB
          have hP : va_P (dC, dI) classes (wX g c v_lp3970 F_lp3970 (g (44 + nr))) H1 := hB
          generalize H1 = H at hP hS ⊢
          have rr_r4015 := i32_rng r4015
          refine lv_bipush (v := 47) hx hb dX3_readProduct_26 (by decide) ?_
          refine lv_icmp_ne (tgt := 76) hx hb dX3_readProduct_28 (by decide) (fun c4016 => ?_) (fun c4016 => ?_)
          · skip
            have t4017 := cv_ne (a := r4015.toInt) rfl (b := 47) (by decide) c4016
            have hP9 : va_P (dC, dI) classes (wX g c v_lp3970 F_lp3970 (g (44 + nr))) H := hP
            exact W.vret hx hb hr (fun t ht hW => ⟨⟨(v_lp3970, F_lp3970, (g (44 + nr))), rfl, ⟨hI, hal, rfl, (frC (by decide) hf_lp3970 (frC (by decide) hf3969 (fun _ _ => rfl))), trivial⟩, (by show va_P _ _ _ t.heap; rw [ht]; exact hP9)⟩, hS.F ht⟩) hS.2.2 dX3_readProduct_76
          · skip
            have t4018 := cv_eq (a := r4015.toInt) rfl (b := 47) (by decide) c4016
            refine lv_aload_n hx hb dX3_readProduct_31 rfl (lv_at hl 1 rfl) ?_
            refine va_calli (va_runV (As := []) (rest := []) ⟨hx, hb, hml, hown, hwd⟩ (c_X3_next l dC dI g c adK adV v_lp3970 F_lp3970 nr H.size  hg hnr hI ) (cwV 0 hwd (gV wk_866 wk_863 wk_864 wk_865 wk_38) rfl rfl rfl (by decide +kernel) ⟨Nat.le_of_ble_eq_true rfl, Nat.le_of_ble_eq_true rfl⟩) ⟨PX.blind, va_recv hK hP (ci := 3) (q0 := 7) rfl rfl, fun U hU hW => ⟨rfl, PX.at hK hE hP hS hU hW⟩⟩ rfl rfl hl.1 rfl (lv_room (Nat.le_of_ble_eq_true rfl)) dX3_readProduct_32 ⟨Nat.le_of_ble_eq_true rfl, Nat.le_of_ble_eq_true rfl⟩) hS (fun q _ h => (freeX hS) q h) (freeX hS) (fun r4019 u t H1 locs ht hvm hw hB hz1 hk1 hS => ?_)
            unfold BX at hB
            rw [ht] at hB
            have hP : va_P (dC, dI) classes (wX g c v_lp3970 F_lp3970 (g (44 + nr))) H1 := hB
            generalize H1 = H at hP hS ⊢
            have rr_r4019 := i32_rng r4019
            refine lv_bipush (v := 42) hx hb dX3_readProduct_35 (by decide) ?_
            refine lv_icmp_ne (tgt := 45) hx hb dX3_readProduct_37 (by decide) (fun c4020 => ?_) (fun c4020 => ?_)
            · skip
              have t4021 := cv_ne (a := r4019.toInt) rfl (b := 42) (by decide) c4020
              refine lv_bipush (v := 8) hx hb dX3_readProduct_45 (by decide) ?_
              refine lv_istore_n (lv' := [(3, .int 8), (2, .int x2_lp3970), (0, .ref (g 7)), (1, .int 7)]) hx hb dX3_readProduct_47 rfl hl (by decide) rfl (fun ls hl => ?_)
              refine lv_aload_n hx hb dX3_readProduct_48 rfl (lv_at hl 2 rfl) ?_
              refine lv_dup hx hb dX3_readProduct_49 rfl ?_
              refine va_get (D := (dC, dI)) (ci := 3) (v := .int (v_lp3970 143)) (C := RX3) (T := TX3) (N := 5) hx hb hwd inA_X3 hown hK hP 7 rfl rfl 3 (by decide) (hwd _ wk_853) (fun _ h9 => h9) rfl dX3_readProduct_50 ?_
              refine lv_iconst (v := 1) hx hb dX3_readProduct_53 (by decide) ?_
              refine lv_iadd hx hb dX3_readProduct_54 ?_
              refine lv_topi (fun z4022 e4023 => ?_)
              try (have t4024 := tadd e4023 (a := (v_lp3970 143).toInt) rfl (b := 1) (by decide) (by omega))
              refine va_put (D := (dC, dI)) (ci := 3) (v := .int z4022) (ty := .int) (C := RX3) (T := TX3) (N := 5) (fs := fsX_7 g v_lp3970 (g (44 + nr))) hx hb hwd inA_X3 tyX3 tyX3_ok nmX3 hown hK hP (DX hg) hS 7 rfl rfl 3 (by decide) (hwd _ wk_853) (fun _ h9 => h9) rfl (by decide +kernel) rfl rfl (Nat.le_of_ble_eq_true rfl) dX3_readProduct_55 (fun H locs hP _ hS => ?_)
              have hP := va_P_eq (pX_143 g c _ _ _ _) hP
              have hI := IX.put0 hI 143 z4022 rfl
              have hal := (alX_v _ _ 143 z4022 (by decide) (by decide) (by decide) (by decide)).trans hal
              refine lv_aload_n hx hb dX3_readProduct_58 rfl (lv_at hl 2 rfl) ?_
              refine lv_iload_n hx hb dX3_readProduct_59 rfl (lv_at hl 3 rfl) ?_
              refine va_callv (va_runV (As := [.int 7]) (rest := []) ⟨hx, hb, hml, hown, hwd⟩ (c_X3_readOperand_7 l dC dI g c adK adV (va_up v_lp3970 143 z4022) F_lp3970 nr H.size  hg hnr hI ) (cwV 1 hwd (gV wk_895 wk_896 wk_897 wk_898 wk_38) rfl rfl rfl (by decide +kernel) ⟨Nat.le_of_ble_eq_true rfl, Nat.le_of_ble_eq_true rfl⟩) ⟨PX.blind, va_recv hK hP (ci := 3) (q0 := 7) rfl rfl, fun U hU hW => ⟨rfl, PX.at hK hE hP hS hU hW⟩⟩ rfl rfl hl.1 rfl (lv_room (Nat.le_of_ble_eq_true rfl)) dX3_readProduct_60 ⟨Nat.le_of_ble_eq_true rfl, Nat.le_of_ble_eq_true rfl⟩) hS (fun q _ h => (freeX hS) q h) (freeX hS) (fun u t H1 locs ht hvm hw hB hz1 hk1 hS => ?_)
              unfold BX at hB
              rw [ht] at hB
              obtain ⟨v4026, F4027, rc9⟩ := u
              obtain ⟨hI, hal9, hrc, hf4028, hw⟩ := hw
              dsimp only at hI hal9 hrc hB hf4028 hw
              rw [hrc] at hB
              have hal := hal9.trans hal
              have hP : va_P (dC, dI) classes (wX g c v4026 F4027 (g (44 + nr))) H1 := hB
              generalize H1 = H at hP hS ⊢
              refine lv_aload_n hx hb dX3_readProduct_63 rfl (lv_at hl 2 rfl) ?_
              refine lv_iload_n hx hb dX3_readProduct_64 rfl (lv_at hl 0 rfl) ?_
              refine lv_iconst (v := 0) hx hb dX3_readProduct_65 (by decide) ?_
              refine va_calli (va_runV (As := [.int 8, .int 0]) (rest := []) ⟨hx, hb, hml, hown, hwd⟩ (c_X3_put l dC dI g c adK adV v4026 F4027 nr H.size 8 0 hg hnr hI (by have : (8 : Int32).toInt = 8 := (by decide); omega) (by have : (0 : Int32).toInt = 0 := (by decide); omega)) (cwV 2 hwd (gV wk_882 wk_879 wk_880 wk_881 wk_38) rfl rfl rfl (by decide +kernel) ⟨Nat.le_of_ble_eq_true rfl, Nat.le_of_ble_eq_true rfl⟩) ⟨PX.blind, va_recv hK hP (ci := 3) (q0 := 7) rfl rfl, fun U hU hW => ⟨rfl, PX.at hK hE hP hS hU hW⟩⟩ rfl rfl hl.1 rfl (lv_room (Nat.le_of_ble_eq_true rfl)) dX3_readProduct_66 ⟨Nat.le_of_ble_eq_true rfl, Nat.le_of_ble_eq_true rfl⟩) hS (fun q _ h => (freeX hS) q h) (freeX hS) (fun r4029 u t H1 locs ht hvm hw hB hz1 hk1 hS => ?_)
              unfold BX at hB
              rw [ht] at hB
              obtain ⟨v4030, F4031, rc9⟩ := u
              obtain ⟨hI, hal9, hrc, hf4032, hw⟩ := hw
              dsimp only at hI hal9 hrc hB hf4032 hw
              rw [hrc] at hB
              have hal := hal9.trans hal
              have hP : va_P (dC, dI) classes (wX g c v4030 F4031 (g (44 + nr))) H1 := hB
              have hw : -1 ≤ r4029.toInt ∧ r4029.toInt ≤ 119 := hw
              have k4033 : (8 : Int32).toInt = 8 := by decide
              have k4034 : (0 : Int32).toInt = 0 := by decide
              generalize H1 = H at hP hS ⊢
              have hw_r4029 := hw
              refine lv_pop hx hb dX3_readProduct_69 rfl ?_
              obtain ⟨z4035, e4036⟩ : ∃ y : Int32, y = x2_lp3970 + 1 := ⟨_, rfl⟩
              try (have t4037 := tadd e4036 rfl (b := 1) (by decide) (by omega))
              refine lv_iinc (v := z4035) (lv' := [(2, .int z4035), (3, .int 8), (0, .ref (g 7)), (1, .int 7)]) hx hb dX3_readProduct_70 hl (k := 1) rfl (by rw [e4036]; rfl) (by decide) rfl (fun ls hl => ?_)
              refine lv_goto (tgt := 7) hx hb dX3_readProduct_73 (by decide) ?_
              exact ih_lp3970 z4035 v4030 F4031 _ _ _ (by omega) (by omega) (frC (by decide) hf4032 (frC (by decide) hf4028 (frU (by decide) hf_lp3970))) hI hal hP hS (lv_sub hl [0, 2, 3] rfl)
            · skip
              have t4038 := cv_eq (a := r4019.toInt) rfl (b := 42) (by decide) c4020
              refine lv_bipush (v := 7) hx hb dX3_readProduct_40 (by decide) ?_
              refine lv_goto (tgt := 47) hx hb dX3_readProduct_42 (by decide) ?_
              refine lv_istore_n (lv' := [(3, .int 7), (2, .int x2_lp3970), (0, .ref (g 7)), (1, .int 7)]) hx hb dX3_readProduct_47 rfl hl (by decide) rfl (fun ls hl => ?_)
              refine lv_aload_n hx hb dX3_readProduct_48 rfl (lv_at hl 2 rfl) ?_
              refine lv_dup hx hb dX3_readProduct_49 rfl ?_
              refine va_get (D := (dC, dI)) (ci := 3) (v := .int (v_lp3970 143)) (C := RX3) (T := TX3) (N := 5) hx hb hwd inA_X3 hown hK hP 7 rfl rfl 3 (by decide) (hwd _ wk_853) (fun _ h9 => h9) rfl dX3_readProduct_50 ?_
              refine lv_iconst (v := 1) hx hb dX3_readProduct_53 (by decide) ?_
              refine lv_iadd hx hb dX3_readProduct_54 ?_
              refine lv_topi (fun z4039 e4040 => ?_)
              try (have t4041 := tadd e4040 (a := (v_lp3970 143).toInt) rfl (b := 1) (by decide) (by omega))
              refine va_put (D := (dC, dI)) (ci := 3) (v := .int z4039) (ty := .int) (C := RX3) (T := TX3) (N := 5) (fs := fsX_7 g v_lp3970 (g (44 + nr))) hx hb hwd inA_X3 tyX3 tyX3_ok nmX3 hown hK hP (DX hg) hS 7 rfl rfl 3 (by decide) (hwd _ wk_853) (fun _ h9 => h9) rfl (by decide +kernel) rfl rfl (Nat.le_of_ble_eq_true rfl) dX3_readProduct_55 (fun H locs hP _ hS => ?_)
              have hP := va_P_eq (pX_143 g c _ _ _ _) hP
              have hI := IX.put0 hI 143 z4039 rfl
              have hal := (alX_v _ _ 143 z4039 (by decide) (by decide) (by decide) (by decide)).trans hal
              refine lv_aload_n hx hb dX3_readProduct_58 rfl (lv_at hl 2 rfl) ?_
              refine lv_iload_n hx hb dX3_readProduct_59 rfl (lv_at hl 3 rfl) ?_
              refine va_callv (va_runV (As := [.int 7]) (rest := []) ⟨hx, hb, hml, hown, hwd⟩ (c_X3_readOperand_7 l dC dI g c adK adV (va_up v_lp3970 143 z4039) F_lp3970 nr H.size  hg hnr hI ) (cwV 1 hwd (gV wk_895 wk_896 wk_897 wk_898 wk_38) rfl rfl rfl (by decide +kernel) ⟨Nat.le_of_ble_eq_true rfl, Nat.le_of_ble_eq_true rfl⟩) ⟨PX.blind, va_recv hK hP (ci := 3) (q0 := 7) rfl rfl, fun U hU hW => ⟨rfl, PX.at hK hE hP hS hU hW⟩⟩ rfl rfl hl.1 rfl (lv_room (Nat.le_of_ble_eq_true rfl)) dX3_readProduct_60 ⟨Nat.le_of_ble_eq_true rfl, Nat.le_of_ble_eq_true rfl⟩) hS (fun q _ h => (freeX hS) q h) (freeX hS) (fun u t H1 locs ht hvm hw hB hz1 hk1 hS => ?_)
              unfold BX at hB
              rw [ht] at hB
              obtain ⟨v4043, F4044, rc9⟩ := u
              obtain ⟨hI, hal9, hrc, hf4045, hw⟩ := hw
              dsimp only at hI hal9 hrc hB hf4045 hw
              rw [hrc] at hB
              have hal := hal9.trans hal
              have hP : va_P (dC, dI) classes (wX g c v4043 F4044 (g (44 + nr))) H1 := hB
              generalize H1 = H at hP hS ⊢
              refine lv_aload_n hx hb dX3_readProduct_63 rfl (lv_at hl 2 rfl) ?_
              refine lv_iload_n hx hb dX3_readProduct_64 rfl (lv_at hl 0 rfl) ?_
              refine lv_iconst (v := 0) hx hb dX3_readProduct_65 (by decide) ?_
              refine va_calli (va_runV (As := [.int 7, .int 0]) (rest := []) ⟨hx, hb, hml, hown, hwd⟩ (c_X3_put l dC dI g c adK adV v4043 F4044 nr H.size 7 0 hg hnr hI (by have : (7 : Int32).toInt = 7 := (by decide); omega) (by have : (0 : Int32).toInt = 0 := (by decide); omega)) (cwV 2 hwd (gV wk_882 wk_879 wk_880 wk_881 wk_38) rfl rfl rfl (by decide +kernel) ⟨Nat.le_of_ble_eq_true rfl, Nat.le_of_ble_eq_true rfl⟩) ⟨PX.blind, va_recv hK hP (ci := 3) (q0 := 7) rfl rfl, fun U hU hW => ⟨rfl, PX.at hK hE hP hS hU hW⟩⟩ rfl rfl hl.1 rfl (lv_room (Nat.le_of_ble_eq_true rfl)) dX3_readProduct_66 ⟨Nat.le_of_ble_eq_true rfl, Nat.le_of_ble_eq_true rfl⟩) hS (fun q _ h => (freeX hS) q h) (freeX hS) (fun r4046 u t H1 locs ht hvm hw hB hz1 hk1 hS => ?_)
              unfold BX at hB
              rw [ht] at hB
              obtain ⟨v4047, F4048, rc9⟩ := u
              obtain ⟨hI, hal9, hrc, hf4049, hw⟩ := hw
              dsimp only at hI hal9 hrc hB hf4049 hw
              rw [hrc] at hB
              have hal := hal9.trans hal
              have hP : va_P (dC, dI) classes (wX g c v4047 F4048 (g (44 + nr))) H1 := hB
              have hw : -1 ≤ r4046.toInt ∧ r4046.toInt ≤ 119 := hw
              have k4050 : (7 : Int32).toInt = 7 := by decide
              have k4051 : (0 : Int32).toInt = 0 := by decide
              generalize H1 = H at hP hS ⊢
              have hw_r4046 := hw
              refine lv_pop hx hb dX3_readProduct_69 rfl ?_
              obtain ⟨z4052, e4053⟩ : ∃ y : Int32, y = x2_lp3970 + 1 := ⟨_, rfl⟩
              try (have t4054 := tadd e4053 rfl (b := 1) (by decide) (by omega))
              refine lv_iinc (v := z4052) (lv' := [(2, .int z4052), (3, .int 7), (0, .ref (g 7)), (1, .int 7)]) hx hb dX3_readProduct_70 hl (k := 1) rfl (by rw [e4053]; rfl) (by decide) rfl (fun ls hl => ?_)
              refine lv_goto (tgt := 7) hx hb dX3_readProduct_73 (by decide) ?_
              exact ih_lp3970 z4052 v4047 F4048 _ _ _ (by omega) (by omega) (frC (by decide) hf4049 (frC (by decide) hf4045 (frU (by decide) hf_lp3970))) hI hal hP hS (lv_sub hl [0, 2, 3] rfl)
  obtain ⟨n9, hn9⟩ : ∃ n : Nat, 2147483648 - 0 ≤ (n : Int) := ⟨((2147483648 - 0 : Int)).toNat, by omega⟩
  exact lp3970 n9 0 v3967 F3968 H _ ls (by have : (0 : Int32).toInt = 0 := (by decide); omega) (by have : (0 : Int32).toInt = 0 := (by decide); omega) (fun _ _ => rfl) hI hal hP hS hl
set_option maxHeartbeats 8000000 in
set_option maxRecDepth 100000 in
theorem c_X3_readSum_7 (l : Launch) (dC : Nat → ClassId) (dI : Nat → Nat → Nat) (g : Nat → Nat) (c : Nat → ClassId) (adK adV : Nat → Nat) (v : Nat → Int32) (F : Nat → Nat → Int32) (nr sz : Nat) (hg : injX g) (hnr : nr < 10) (hI : IX v F) : Met l yX3_readSum (Cond.code yX3_readSum cX3_readSum 4 none :: wA) ({ frames := 13, cells := 0, slots := 0, locals := 520 }) (va_Pc [.ref (g 7), .int 7] (PX dC dI g c adK adV v F (g (44 + nr)) sz)) (va_Qv (fun (u : StX) => IX u.1 u.2.1 ∧ alX u.1 u.2.1 = alX v F ∧ u.2.2 = (g (44 + nr)) ∧ (∀ k, k ∉ ([142, 143, 144] : List Nat) → u.1 k = v k) ∧ True) (BX dC dI g c) (AX g sz)) 0 0 (AX g sz) := by
  refine Met.ofW (cc := cX3_readSum) (maxL := 4) (ret := none) (by decide) rfl ?_
  intro p e s m args below meth c0 s₁ B hml hv
  obtain ⟨rfl, hsz, hP, hK, hE⟩ := hv
  have hx := B.exec
  have hb := B.bytes
  have hr := B.returns
  have hts := atoms_spec (ws := Cond.code yX3_readSum cX3_readSum 4 none :: wA) B.pre
  have hwd : ∀ w ∈ wA, w.before _ s = true := fun w h => hts w (List.mem_cons_of_mem _ h)
  have hown : s.vm.findClass RX3 = some m.cls := findClass_of_methodNamed B.named
  have hlocks := B.notSynchronized
  subst hsz
  have hl := lv_entry ([.ref (g 7), .int 7]) (n := 4) (Nat.le_of_ble_eq_true rfl)
  rw [lg_entry_eq]
  generalize (lg_sl ([.ref (g 7), .int 7]) ++ List.replicate (4 - (lg_sl ([.ref (g 7), .int 7])).length) Slot.unset).toArray = ls at hl ⊢
  have hl : lv_has ls 4 [(0, .ref (g 7)), (1, .int 7)] := hl
  obtain ⟨H, eH⟩ : ∃ z, z = s.heap := ⟨_, rfl⟩
  have hP : va_P (dC, dI) classes (wX g c v F (g (44 + nr))) H := by rw [eH]; exact hP
  have hS : va_S (AX g s.heap.size) s.heap H [] := by rw [eH]; exact va_S.rf
  refine my_heap eH ?_
  have hal : alX v F = alX v F := rfl
  refine lv_aload_n hx hb dX3_readSum_0 rfl (lv_at hl 0 rfl) ?_
  refine lv_iload_n hx hb dX3_readSum_1 rfl (lv_at hl 1 rfl) ?_
  refine va_callv (va_runV (As := [.int 7]) (rest := []) ⟨hx, hb, hml, hown, hwd⟩ (c_X3_readProduct_7 l dC dI g c adK adV v F nr H.size  hg hnr hI ) (cwV 1 hwd (gV wk_989 wk_991 wk_992 wk_993 wk_38) rfl rfl rfl (by decide +kernel) ⟨Nat.le_of_ble_eq_true rfl, Nat.le_of_ble_eq_true rfl⟩) ⟨PX.blind, va_recv hK hP (ci := 3) (q0 := 7) rfl rfl, fun U hU hW => ⟨rfl, PX.at hK hE hP hS hU hW⟩⟩ rfl rfl hl.1 rfl (lv_room (Nat.le_of_ble_eq_true rfl)) dX3_readSum_2 ⟨Nat.le_of_ble_eq_true rfl, Nat.le_of_ble_eq_true rfl⟩) hS (fun q _ h => (freeX hS) q h) (freeX hS) (fun u t H1 locs ht hvm hw hB hz1 hk1 hS => ?_)
  unfold BX at hB
  rw [ht] at hB
  obtain ⟨v4056, F4057, rc9⟩ := u
  obtain ⟨hI, hal9, hrc, hf4058, hw⟩ := hw
  dsimp only at hI hal9 hrc hB hf4058 hw
  rw [hrc] at hB
  have hal := hal9.trans hal
  have hP : va_P (dC, dI) classes (wX g c v4056 F4057 (g (44 + nr))) H1 := hB
  generalize H1 = H at hP hS ⊢
  refine lv_iconst (v := 0) hx hb dX3_readSum_5 (by decide) ?_
  refine lv_istore_n (lv' := [(2, .int 0), (0, .ref (g 7)), (1, .int 7)]) hx hb dX3_readSum_6 rfl hl (by decide) rfl (fun ls hl => ?_)
  have lp4059 : ∀ (n : Nat) (x2_lp4059 : Int32) (v_lp4059 : Nat → Int32) (F_lp4059 : Nat → Nat → Int32) (H : Heap) (locs : List Loc) (ls : Array Slot), (0 ≤ x2_lp4059.toInt) → (2147483648 - x2_lp4059.toInt ≤ (n : Int)) → (∀ k, k ∉ ([142, 143, 144] : List Nat) → v_lp4059 k = v4056 k) → IX v_lp4059 F_lp4059 → alX v_lp4059 F_lp4059 = alX v F → va_P (dC, dI) classes (wX g c v_lp4059 F_lp4059 (g (44 + nr))) H → va_S (AX g s.heap.size) s.heap H locs → lv_has ls 4 [(2, .int x2_lp4059), (0, .ref (g 7)), (1, .int 7)] → W p l e (headSpec (Cond.code yX3_readSum cX3_readSum 4 none :: wA) ({ frames := 13, cells := 0, slots := 0, locals := 520 })).room s m ([.ref (g 7), .int 7] : List Value).toArray below meth c0 H locs 0 0 (MQ below (va_Qv (fun (u : StX) => IX u.1 u.2.1 ∧ alX u.1 u.2.1 = alX v F ∧ u.2.2 = (g (44 + nr)) ∧ (∀ k, k ∉ ([142, 143, 144] : List Nat) → u.1 k = v k) ∧ True) (BX dC dI g c) (AX g s.heap.size)) ([.ref (g 7), .int 7] : List Value).toArray s 0 0 (AX g s.heap.size)) (F0 m 7 ls []) := by
    intro n
    induction n with
    | zero =>
      intro x2_lp4059 v_lp4059 F_lp4059 H locs ls t4060 hm hf_lp4059 hI hal hP hS hl
      exfalso
      have := i32_rng x2_lp4059
      have hI1 := hI.1
      omega
    | succ n ih_lp4059 =>
      intro x2_lp4059 v_lp4059 F_lp4059 H locs ls t4060 hm hf_lp4059 hI hal hP hS hl
      have rx2_lp4059 := i32_rng x2_lp4059
      refine lv_iload_n hx hb dX3_readSum_7 rfl (lv_at hl 0 rfl) ?_
      refine lv_bipush (v := 120) hx hb dX3_readSum_8 (by decide) ?_
      refine lv_icmp_ge (tgt := 75) hx hb dX3_readSum_10 (by decide) (fun c4061 => ?_) (fun c4061 => ?_)
      · skip
        have t4062 := cv_le (a := 120) (by decide) (b := x2_lp4059.toInt) rfl c4061
        have hP9 : va_P (dC, dI) classes (wX g c v_lp4059 F_lp4059 (g (44 + nr))) H := hP
        exact W.vret hx hb hr (fun t ht hW => ⟨⟨(v_lp4059, F_lp4059, (g (44 + nr))), rfl, ⟨hI, hal, rfl, (frC (by decide) hf_lp4059 (frC (by decide) hf4058 (fun _ _ => rfl))), trivial⟩, (by show va_P _ _ _ t.heap; rw [ht]; exact hP9)⟩, hS.F ht⟩) hS.2.2 dX3_readSum_75
      · skip
        have t4063 := cv_nle (a := 120) (by decide) (b := x2_lp4059.toInt) rfl c4061
        refine lv_aload_n hx hb dX3_readSum_13 rfl (lv_at hl 1 rfl) ?_
        refine va_calli (va_runV (As := []) (rest := []) ⟨hx, hb, hml, hown, hwd⟩ (c_X3_next l dC dI g c adK adV v_lp4059 F_lp4059 nr H.size  hg hnr hI ) (cwV 0 hwd (gV wk_866 wk_863 wk_864 wk_865 wk_38) rfl rfl rfl (by decide +kernel) ⟨Nat.le_of_ble_eq_true rfl, Nat.le_of_ble_eq_true rfl⟩) ⟨PX.blind, va_recv hK hP (ci := 3) (q0 := 7) rfl rfl, fun U hU hW => ⟨rfl, PX.at hK hE hP hS hU hW⟩⟩ rfl rfl hl.1 rfl (lv_room (Nat.le_of_ble_eq_true rfl)) dX3_readSum_14 ⟨Nat.le_of_ble_eq_true rfl, Nat.le_of_ble_eq_true rfl⟩) hS (fun q _ h => (freeX hS) q h) (freeX hS) (fun r4064 u t H1 locs ht hvm hw hB hz1 hk1 hS => ?_)
        unfold BX at hB
        rw [ht] at hB
        have hP : va_P (dC, dI) classes (wX g c v_lp4059 F_lp4059 (g (44 + nr))) H1 := hB
        generalize H1 = H at hP hS ⊢
        have rr_r4064 := i32_rng r4064
        refine lv_bipush (v := 43) hx hb dX3_readSum_17 (by decide) ?_
        refine lv_icmp_eq (tgt := 31) hx hb dX3_readSum_19 (by decide) (fun c4065 => ?_) (fun c4065 => ?_)
        · skip
          have t4066 := cv_eq (a := r4064.toInt) rfl (b := 43) (by decide) c4065
          refine lv_aload_n hx hb dX3_readSum_31 rfl (lv_at hl 1 rfl) ?_
          refine va_calli (va_runV (As := []) (rest := []) ⟨hx, hb, hml, hown, hwd⟩ (c_X3_next l dC dI g c adK adV v_lp4059 F_lp4059 nr H.size  hg hnr hI ) (cwV 0 hwd (gV wk_866 wk_863 wk_864 wk_865 wk_38) rfl rfl rfl (by decide +kernel) ⟨Nat.le_of_ble_eq_true rfl, Nat.le_of_ble_eq_true rfl⟩) ⟨PX.blind, va_recv hK hP (ci := 3) (q0 := 7) rfl rfl, fun U hU hW => ⟨rfl, PX.at hK hE hP hS hU hW⟩⟩ rfl rfl hl.1 rfl (lv_room (Nat.le_of_ble_eq_true rfl)) dX3_readSum_32 ⟨Nat.le_of_ble_eq_true rfl, Nat.le_of_ble_eq_true rfl⟩) hS (fun q _ h => (freeX hS) q h) (freeX hS) (fun r4067 u t H1 locs ht hvm hw hB hz1 hk1 hS => ?_)
          unfold BX at hB
          rw [ht] at hB
          have hP : va_P (dC, dI) classes (wX g c v_lp4059 F_lp4059 (g (44 + nr))) H1 := hB
          generalize H1 = H at hP hS ⊢
          have rr_r4067 := i32_rng r4067
          refine lv_bipush (v := 43) hx hb dX3_readSum_35 (by decide) ?_
          refine lv_icmp_ne (tgt := 44) hx hb dX3_readSum_37 (by decide) (fun c4068 => ?_) (fun c4068 => ?_)
          · skip
            have t4069 := cv_ne (a := r4067.toInt) rfl (b := 43) (by decide) c4068
            refine lv_bipush (v := 6) hx hb dX3_readSum_44 (by decide) ?_
            refine lv_istore_n (lv' := [(3, .int 6), (2, .int x2_lp4059), (0, .ref (g 7)), (1, .int 7)]) hx hb dX3_readSum_46 rfl hl (by decide) rfl (fun ls hl => ?_)
            refine lv_aload_n hx hb dX3_readSum_47 rfl (lv_at hl 2 rfl) ?_
            refine lv_dup hx hb dX3_readSum_48 rfl ?_
            refine va_get (D := (dC, dI)) (ci := 3) (v := .int (v_lp4059 143)) (C := RX3) (T := TX3) (N := 5) hx hb hwd inA_X3 hown hK hP 7 rfl rfl 3 (by decide) (hwd _ wk_853) (fun _ h9 => h9) rfl dX3_readSum_49 ?_
            refine lv_iconst (v := 1) hx hb dX3_readSum_52 (by decide) ?_
            refine lv_iadd hx hb dX3_readSum_53 ?_
            refine lv_topi (fun z4070 e4071 => ?_)
            try (have t4072 := tadd e4071 (a := (v_lp4059 143).toInt) rfl (b := 1) (by decide) (by omega))
            refine va_put (D := (dC, dI)) (ci := 3) (v := .int z4070) (ty := .int) (C := RX3) (T := TX3) (N := 5) (fs := fsX_7 g v_lp4059 (g (44 + nr))) hx hb hwd inA_X3 tyX3 tyX3_ok nmX3 hown hK hP (DX hg) hS 7 rfl rfl 3 (by decide) (hwd _ wk_853) (fun _ h9 => h9) rfl (by decide +kernel) rfl rfl (Nat.le_of_ble_eq_true rfl) dX3_readSum_54 (fun H locs hP _ hS => ?_)
            have hP := va_P_eq (pX_143 g c _ _ _ _) hP
            have hI := IX.put0 hI 143 z4070 rfl
            have hal := (alX_v _ _ 143 z4070 (by decide) (by decide) (by decide) (by decide)).trans hal
            refine lv_aload_n hx hb dX3_readSum_57 rfl (lv_at hl 2 rfl) ?_
            refine lv_iload_n hx hb dX3_readSum_58 rfl (lv_at hl 3 rfl) ?_
            refine va_callv (va_runV (As := [.int 7]) (rest := []) ⟨hx, hb, hml, hown, hwd⟩ (c_X3_readProduct_7 l dC dI g c adK adV (va_up v_lp4059 143 z4070) F_lp4059 nr H.size  hg hnr hI ) (cwV 1 hwd (gV wk_989 wk_991 wk_992 wk_993 wk_38) rfl rfl rfl (by decide +kernel) ⟨Nat.le_of_ble_eq_true rfl, Nat.le_of_ble_eq_true rfl⟩) ⟨PX.blind, va_recv hK hP (ci := 3) (q0 := 7) rfl rfl, fun U hU hW => ⟨rfl, PX.at hK hE hP hS hU hW⟩⟩ rfl rfl hl.1 rfl (lv_room (Nat.le_of_ble_eq_true rfl)) dX3_readSum_59 ⟨Nat.le_of_ble_eq_true rfl, Nat.le_of_ble_eq_true rfl⟩) hS (fun q _ h => (freeX hS) q h) (freeX hS) (fun u t H1 locs ht hvm hw hB hz1 hk1 hS => ?_)
            unfold BX at hB
            rw [ht] at hB
            obtain ⟨v4074, F4075, rc9⟩ := u
            obtain ⟨hI, hal9, hrc, hf4076, hw⟩ := hw
            dsimp only at hI hal9 hrc hB hf4076 hw
            rw [hrc] at hB
            have hal := hal9.trans hal
            have hP : va_P (dC, dI) classes (wX g c v4074 F4075 (g (44 + nr))) H1 := hB
            generalize H1 = H at hP hS ⊢
            refine lv_aload_n hx hb dX3_readSum_62 rfl (lv_at hl 2 rfl) ?_
            refine lv_iload_n hx hb dX3_readSum_63 rfl (lv_at hl 0 rfl) ?_
            refine lv_iconst (v := 0) hx hb dX3_readSum_64 (by decide) ?_
            refine va_calli (va_runV (As := [.int 6, .int 0]) (rest := []) ⟨hx, hb, hml, hown, hwd⟩ (c_X3_put l dC dI g c adK adV v4074 F4075 nr H.size 6 0 hg hnr hI (by have : (6 : Int32).toInt = 6 := (by decide); omega) (by have : (0 : Int32).toInt = 0 := (by decide); omega)) (cwV 2 hwd (gV wk_882 wk_879 wk_880 wk_881 wk_38) rfl rfl rfl (by decide +kernel) ⟨Nat.le_of_ble_eq_true rfl, Nat.le_of_ble_eq_true rfl⟩) ⟨PX.blind, va_recv hK hP (ci := 3) (q0 := 7) rfl rfl, fun U hU hW => ⟨rfl, PX.at hK hE hP hS hU hW⟩⟩ rfl rfl hl.1 rfl (lv_room (Nat.le_of_ble_eq_true rfl)) dX3_readSum_65 ⟨Nat.le_of_ble_eq_true rfl, Nat.le_of_ble_eq_true rfl⟩) hS (fun q _ h => (freeX hS) q h) (freeX hS) (fun r4077 u t H1 locs ht hvm hw hB hz1 hk1 hS => ?_)
            unfold BX at hB
            rw [ht] at hB
            obtain ⟨v4078, F4079, rc9⟩ := u
            obtain ⟨hI, hal9, hrc, hf4080, hw⟩ := hw
            dsimp only at hI hal9 hrc hB hf4080 hw
            rw [hrc] at hB
            have hal := hal9.trans hal
            have hP : va_P (dC, dI) classes (wX g c v4078 F4079 (g (44 + nr))) H1 := hB
            have hw : -1 ≤ r4077.toInt ∧ r4077.toInt ≤ 119 := hw
            have k4081 : (6 : Int32).toInt = 6 := by decide
            have k4082 : (0 : Int32).toInt = 0 := by decide
            generalize H1 = H at hP hS ⊢
            have hw_r4077 := hw
            refine lv_pop hx hb dX3_readSum_68 rfl ?_
            obtain ⟨z4083, e4084⟩ : ∃ y : Int32, y = x2_lp4059 + 1 := ⟨_, rfl⟩
            try (have t4085 := tadd e4084 rfl (b := 1) (by decide) (by omega))
            refine lv_iinc (v := z4083) (lv' := [(2, .int z4083), (3, .int 6), (0, .ref (g 7)), (1, .int 7)]) hx hb dX3_readSum_69 hl (k := 1) rfl (by rw [e4084]; rfl) (by decide) rfl (fun ls hl => ?_)
            refine lv_goto (tgt := 7) hx hb dX3_readSum_72 (by decide) ?_
            exact ih_lp4059 z4083 v4078 F4079 _ _ _ (by omega) (by omega) (frC (by decide) hf4080 (frC (by decide) hf4076 (frU (by decide) hf_lp4059))) hI hal hP hS (lv_sub hl [0, 2, 3] rfl)
          · skip
            have t4086 := cv_eq (a := r4067.toInt) rfl (b := 43) (by decide) c4068
            refine lv_iconst (v := 5) hx hb dX3_readSum_40 (by decide) ?_
            refine lv_goto (tgt := 46) hx hb dX3_readSum_41 (by decide) ?_
            refine lv_istore_n (lv' := [(3, .int 5), (2, .int x2_lp4059), (0, .ref (g 7)), (1, .int 7)]) hx hb dX3_readSum_46 rfl hl (by decide) rfl (fun ls hl => ?_)
            refine lv_aload_n hx hb dX3_readSum_47 rfl (lv_at hl 2 rfl) ?_
            refine lv_dup hx hb dX3_readSum_48 rfl ?_
            refine va_get (D := (dC, dI)) (ci := 3) (v := .int (v_lp4059 143)) (C := RX3) (T := TX3) (N := 5) hx hb hwd inA_X3 hown hK hP 7 rfl rfl 3 (by decide) (hwd _ wk_853) (fun _ h9 => h9) rfl dX3_readSum_49 ?_
            refine lv_iconst (v := 1) hx hb dX3_readSum_52 (by decide) ?_
            refine lv_iadd hx hb dX3_readSum_53 ?_
            refine lv_topi (fun z4087 e4088 => ?_)
            try (have t4089 := tadd e4088 (a := (v_lp4059 143).toInt) rfl (b := 1) (by decide) (by omega))
            refine va_put (D := (dC, dI)) (ci := 3) (v := .int z4087) (ty := .int) (C := RX3) (T := TX3) (N := 5) (fs := fsX_7 g v_lp4059 (g (44 + nr))) hx hb hwd inA_X3 tyX3 tyX3_ok nmX3 hown hK hP (DX hg) hS 7 rfl rfl 3 (by decide) (hwd _ wk_853) (fun _ h9 => h9) rfl (by decide +kernel) rfl rfl (Nat.le_of_ble_eq_true rfl) dX3_readSum_54 (fun H locs hP _ hS => ?_)
            have hP := va_P_eq (pX_143 g c _ _ _ _) hP
            have hI := IX.put0 hI 143 z4087 rfl
            have hal := (alX_v _ _ 143 z4087 (by decide) (by decide) (by decide) (by decide)).trans hal
            refine lv_aload_n hx hb dX3_readSum_57 rfl (lv_at hl 2 rfl) ?_
            refine lv_iload_n hx hb dX3_readSum_58 rfl (lv_at hl 3 rfl) ?_
            refine va_callv (va_runV (As := [.int 7]) (rest := []) ⟨hx, hb, hml, hown, hwd⟩ (c_X3_readProduct_7 l dC dI g c adK adV (va_up v_lp4059 143 z4087) F_lp4059 nr H.size  hg hnr hI ) (cwV 1 hwd (gV wk_989 wk_991 wk_992 wk_993 wk_38) rfl rfl rfl (by decide +kernel) ⟨Nat.le_of_ble_eq_true rfl, Nat.le_of_ble_eq_true rfl⟩) ⟨PX.blind, va_recv hK hP (ci := 3) (q0 := 7) rfl rfl, fun U hU hW => ⟨rfl, PX.at hK hE hP hS hU hW⟩⟩ rfl rfl hl.1 rfl (lv_room (Nat.le_of_ble_eq_true rfl)) dX3_readSum_59 ⟨Nat.le_of_ble_eq_true rfl, Nat.le_of_ble_eq_true rfl⟩) hS (fun q _ h => (freeX hS) q h) (freeX hS) (fun u t H1 locs ht hvm hw hB hz1 hk1 hS => ?_)
            unfold BX at hB
            rw [ht] at hB
            obtain ⟨v4091, F4092, rc9⟩ := u
            obtain ⟨hI, hal9, hrc, hf4093, hw⟩ := hw
            dsimp only at hI hal9 hrc hB hf4093 hw
            rw [hrc] at hB
            have hal := hal9.trans hal
            have hP : va_P (dC, dI) classes (wX g c v4091 F4092 (g (44 + nr))) H1 := hB
            generalize H1 = H at hP hS ⊢
            refine lv_aload_n hx hb dX3_readSum_62 rfl (lv_at hl 2 rfl) ?_
            refine lv_iload_n hx hb dX3_readSum_63 rfl (lv_at hl 0 rfl) ?_
            refine lv_iconst (v := 0) hx hb dX3_readSum_64 (by decide) ?_
            refine va_calli (va_runV (As := [.int 5, .int 0]) (rest := []) ⟨hx, hb, hml, hown, hwd⟩ (c_X3_put l dC dI g c adK adV v4091 F4092 nr H.size 5 0 hg hnr hI (by have : (5 : Int32).toInt = 5 := (by decide); omega) (by have : (0 : Int32).toInt = 0 := (by decide); omega)) (cwV 2 hwd (gV wk_882 wk_879 wk_880 wk_881 wk_38) rfl rfl rfl (by decide +kernel) ⟨Nat.le_of_ble_eq_true rfl, Nat.le_of_ble_eq_true rfl⟩) ⟨PX.blind, va_recv hK hP (ci := 3) (q0 := 7) rfl rfl, fun U hU hW => ⟨rfl, PX.at hK hE hP hS hU hW⟩⟩ rfl rfl hl.1 rfl (lv_room (Nat.le_of_ble_eq_true rfl)) dX3_readSum_65 ⟨Nat.le_of_ble_eq_true rfl, Nat.le_of_ble_eq_true rfl⟩) hS (fun q _ h => (freeX hS) q h) (freeX hS) (fun r4094 u t H1 locs ht hvm hw hB hz1 hk1 hS => ?_)
            unfold BX at hB
            rw [ht] at hB
            obtain ⟨v4095, F4096, rc9⟩ := u
            obtain ⟨hI, hal9, hrc, hf4097, hw⟩ := hw
            dsimp only at hI hal9 hrc hB hf4097 hw
            rw [hrc] at hB
            have hal := hal9.trans hal
            have hP : va_P (dC, dI) classes (wX g c v4095 F4096 (g (44 + nr))) H1 := hB
            have hw : -1 ≤ r4094.toInt ∧ r4094.toInt ≤ 119 := hw
            have k4098 : (5 : Int32).toInt = 5 := by decide
            have k4099 : (0 : Int32).toInt = 0 := by decide
            generalize H1 = H at hP hS ⊢
            have hw_r4094 := hw
            refine lv_pop hx hb dX3_readSum_68 rfl ?_
            obtain ⟨z4100, e4101⟩ : ∃ y : Int32, y = x2_lp4059 + 1 := ⟨_, rfl⟩
            try (have t4102 := tadd e4101 rfl (b := 1) (by decide) (by omega))
            refine lv_iinc (v := z4100) (lv' := [(2, .int z4100), (3, .int 5), (0, .ref (g 7)), (1, .int 7)]) hx hb dX3_readSum_69 hl (k := 1) rfl (by rw [e4101]; rfl) (by decide) rfl (fun ls hl => ?_)
            refine lv_goto (tgt := 7) hx hb dX3_readSum_72 (by decide) ?_
            exact ih_lp4059 z4100 v4095 F4096 _ _ _ (by omega) (by omega) (frC (by decide) hf4097 (frC (by decide) hf4093 (frU (by decide) hf_lp4059))) hI hal hP hS (lv_sub hl [0, 2, 3] rfl)
        · skip
          have t4103 := cv_ne (a := r4064.toInt) rfl (b := 43) (by decide) c4065
          refine lv_aload_n hx hb dX3_readSum_22 rfl (lv_at hl 1 rfl) ?_
          refine va_calli (va_runV (As := []) (rest := []) ⟨hx, hb, hml, hown, hwd⟩ (c_X3_next l dC dI g c adK adV v_lp4059 F_lp4059 nr H.size  hg hnr hI ) (cwV 0 hwd (gV wk_866 wk_863 wk_864 wk_865 wk_38) rfl rfl rfl (by decide +kernel) ⟨Nat.le_of_ble_eq_true rfl, Nat.le_of_ble_eq_true rfl⟩) ⟨PX.blind, va_recv hK hP (ci := 3) (q0 := 7) rfl rfl, fun U hU hW => ⟨rfl, PX.at hK hE hP hS hU hW⟩⟩ rfl rfl hl.1 rfl (lv_room (Nat.le_of_ble_eq_true rfl)) dX3_readSum_23 ⟨Nat.le_of_ble_eq_true rfl, Nat.le_of_ble_eq_true rfl⟩) hS (fun q _ h => (freeX hS) q h) (freeX hS) (fun r4104 u t H1 locs ht hvm hw hB hz1 hk1 hS => ?_)
          unfold BX at hB
          rw [ht] at hB
          have hP : va_P (dC, dI) classes (wX g c v_lp4059 F_lp4059 (g (44 + nr))) H1 := hB
          generalize H1 = H at hP hS ⊢
          have rr_r4104 := i32_rng r4104
          refine lv_bipush (v := 45) hx hb dX3_readSum_26 (by decide) ?_
          refine lv_icmp_ne (tgt := 75) hx hb dX3_readSum_28 (by decide) (fun c4105 => ?_) (fun c4105 => ?_)
          · skip
            have t4106 := cv_ne (a := r4104.toInt) rfl (b := 45) (by decide) c4105
            have hP9 : va_P (dC, dI) classes (wX g c v_lp4059 F_lp4059 (g (44 + nr))) H := hP
            exact W.vret hx hb hr (fun t ht hW => ⟨⟨(v_lp4059, F_lp4059, (g (44 + nr))), rfl, ⟨hI, hal, rfl, (frC (by decide) hf_lp4059 (frC (by decide) hf4058 (fun _ _ => rfl))), trivial⟩, (by show va_P _ _ _ t.heap; rw [ht]; exact hP9)⟩, hS.F ht⟩) hS.2.2 dX3_readSum_75
          · skip
            have t4107 := cv_eq (a := r4104.toInt) rfl (b := 45) (by decide) c4105
            refine lv_aload_n hx hb dX3_readSum_31 rfl (lv_at hl 1 rfl) ?_
            refine va_calli (va_runV (As := []) (rest := []) ⟨hx, hb, hml, hown, hwd⟩ (c_X3_next l dC dI g c adK adV v_lp4059 F_lp4059 nr H.size  hg hnr hI ) (cwV 0 hwd (gV wk_866 wk_863 wk_864 wk_865 wk_38) rfl rfl rfl (by decide +kernel) ⟨Nat.le_of_ble_eq_true rfl, Nat.le_of_ble_eq_true rfl⟩) ⟨PX.blind, va_recv hK hP (ci := 3) (q0 := 7) rfl rfl, fun U hU hW => ⟨rfl, PX.at hK hE hP hS hU hW⟩⟩ rfl rfl hl.1 rfl (lv_room (Nat.le_of_ble_eq_true rfl)) dX3_readSum_32 ⟨Nat.le_of_ble_eq_true rfl, Nat.le_of_ble_eq_true rfl⟩) hS (fun q _ h => (freeX hS) q h) (freeX hS) (fun r4108 u t H1 locs ht hvm hw hB hz1 hk1 hS => ?_)
            unfold BX at hB
            rw [ht] at hB
            have hP : va_P (dC, dI) classes (wX g c v_lp4059 F_lp4059 (g (44 + nr))) H1 := hB
            generalize H1 = H at hP hS ⊢
            have rr_r4108 := i32_rng r4108
            refine lv_bipush (v := 43) hx hb dX3_readSum_35 (by decide) ?_
            refine lv_icmp_ne (tgt := 44) hx hb dX3_readSum_37 (by decide) (fun c4109 => ?_) (fun c4109 => ?_)
            · skip
              have t4110 := cv_ne (a := r4108.toInt) rfl (b := 43) (by decide) c4109
              refine lv_bipush (v := 6) hx hb dX3_readSum_44 (by decide) ?_
              refine lv_istore_n (lv' := [(3, .int 6), (2, .int x2_lp4059), (0, .ref (g 7)), (1, .int 7)]) hx hb dX3_readSum_46 rfl hl (by decide) rfl (fun ls hl => ?_)
              refine lv_aload_n hx hb dX3_readSum_47 rfl (lv_at hl 2 rfl) ?_
              refine lv_dup hx hb dX3_readSum_48 rfl ?_
              refine va_get (D := (dC, dI)) (ci := 3) (v := .int (v_lp4059 143)) (C := RX3) (T := TX3) (N := 5) hx hb hwd inA_X3 hown hK hP 7 rfl rfl 3 (by decide) (hwd _ wk_853) (fun _ h9 => h9) rfl dX3_readSum_49 ?_
              refine lv_iconst (v := 1) hx hb dX3_readSum_52 (by decide) ?_
              refine lv_iadd hx hb dX3_readSum_53 ?_
              refine lv_topi (fun z4111 e4112 => ?_)
              try (have t4113 := tadd e4112 (a := (v_lp4059 143).toInt) rfl (b := 1) (by decide) (by omega))
              refine va_put (D := (dC, dI)) (ci := 3) (v := .int z4111) (ty := .int) (C := RX3) (T := TX3) (N := 5) (fs := fsX_7 g v_lp4059 (g (44 + nr))) hx hb hwd inA_X3 tyX3 tyX3_ok nmX3 hown hK hP (DX hg) hS 7 rfl rfl 3 (by decide) (hwd _ wk_853) (fun _ h9 => h9) rfl (by decide +kernel) rfl rfl (Nat.le_of_ble_eq_true rfl) dX3_readSum_54 (fun H locs hP _ hS => ?_)
              have hP := va_P_eq (pX_143 g c _ _ _ _) hP
              have hI := IX.put0 hI 143 z4111 rfl
              have hal := (alX_v _ _ 143 z4111 (by decide) (by decide) (by decide) (by decide)).trans hal
              refine lv_aload_n hx hb dX3_readSum_57 rfl (lv_at hl 2 rfl) ?_
              refine lv_iload_n hx hb dX3_readSum_58 rfl (lv_at hl 3 rfl) ?_
              refine va_callv (va_runV (As := [.int 7]) (rest := []) ⟨hx, hb, hml, hown, hwd⟩ (c_X3_readProduct_7 l dC dI g c adK adV (va_up v_lp4059 143 z4111) F_lp4059 nr H.size  hg hnr hI ) (cwV 1 hwd (gV wk_989 wk_991 wk_992 wk_993 wk_38) rfl rfl rfl (by decide +kernel) ⟨Nat.le_of_ble_eq_true rfl, Nat.le_of_ble_eq_true rfl⟩) ⟨PX.blind, va_recv hK hP (ci := 3) (q0 := 7) rfl rfl, fun U hU hW => ⟨rfl, PX.at hK hE hP hS hU hW⟩⟩ rfl rfl hl.1 rfl (lv_room (Nat.le_of_ble_eq_true rfl)) dX3_readSum_59 ⟨Nat.le_of_ble_eq_true rfl, Nat.le_of_ble_eq_true rfl⟩) hS (fun q _ h => (freeX hS) q h) (freeX hS) (fun u t H1 locs ht hvm hw hB hz1 hk1 hS => ?_)
              unfold BX at hB
              rw [ht] at hB
              obtain ⟨v4115, F4116, rc9⟩ := u
              obtain ⟨hI, hal9, hrc, hf4117, hw⟩ := hw
              dsimp only at hI hal9 hrc hB hf4117 hw
              rw [hrc] at hB
              have hal := hal9.trans hal
              have hP : va_P (dC, dI) classes (wX g c v4115 F4116 (g (44 + nr))) H1 := hB
              generalize H1 = H at hP hS ⊢
              refine lv_aload_n hx hb dX3_readSum_62 rfl (lv_at hl 2 rfl) ?_
              refine lv_iload_n hx hb dX3_readSum_63 rfl (lv_at hl 0 rfl) ?_
              refine lv_iconst (v := 0) hx hb dX3_readSum_64 (by decide) ?_
              refine va_calli (va_runV (As := [.int 6, .int 0]) (rest := []) ⟨hx, hb, hml, hown, hwd⟩ (c_X3_put l dC dI g c adK adV v4115 F4116 nr H.size 6 0 hg hnr hI (by have : (6 : Int32).toInt = 6 := (by decide); omega) (by have : (0 : Int32).toInt = 0 := (by decide); omega)) (cwV 2 hwd (gV wk_882 wk_879 wk_880 wk_881 wk_38) rfl rfl rfl (by decide +kernel) ⟨Nat.le_of_ble_eq_true rfl, Nat.le_of_ble_eq_true rfl⟩) ⟨PX.blind, va_recv hK hP (ci := 3) (q0 := 7) rfl rfl, fun U hU hW => ⟨rfl, PX.at hK hE hP hS hU hW⟩⟩ rfl rfl hl.1 rfl (lv_room (Nat.le_of_ble_eq_true rfl)) dX3_readSum_65 ⟨Nat.le_of_ble_eq_true rfl, Nat.le_of_ble_eq_true rfl⟩) hS (fun q _ h => (freeX hS) q h) (freeX hS) (fun r4118 u t H1 locs ht hvm hw hB hz1 hk1 hS => ?_)
              unfold BX at hB
              rw [ht] at hB
              obtain ⟨v4119, F4120, rc9⟩ := u
              obtain ⟨hI, hal9, hrc, hf4121, hw⟩ := hw
              dsimp only at hI hal9 hrc hB hf4121 hw
              rw [hrc] at hB
              have hal := hal9.trans hal
              have hP : va_P (dC, dI) classes (wX g c v4119 F4120 (g (44 + nr))) H1 := hB
              have hw : -1 ≤ r4118.toInt ∧ r4118.toInt ≤ 119 := hw
              have k4122 : (6 : Int32).toInt = 6 := by decide
              have k4123 : (0 : Int32).toInt = 0 := by decide
              generalize H1 = H at hP hS ⊢
              have hw_r4118 := hw
              refine lv_pop hx hb dX3_readSum_68 rfl ?_
              obtain ⟨z4124, e4125⟩ : ∃ y : Int32, y = x2_lp4059 + 1 := ⟨_, rfl⟩
              try (have t4126 := tadd e4125 rfl (b := 1) (by decide) (by omega))
              refine lv_iinc (v := z4124) (lv' := [(2, .int z4124), (3, .int 6), (0, .ref (g 7)), (1, .int 7)]) hx hb dX3_readSum_69 hl (k := 1) rfl (by rw [e4125]; rfl) (by decide) rfl (fun ls hl => ?_)
              refine lv_goto (tgt := 7) hx hb dX3_readSum_72 (by decide) ?_
              exact ih_lp4059 z4124 v4119 F4120 _ _ _ (by omega) (by omega) (frC (by decide) hf4121 (frC (by decide) hf4117 (frU (by decide) hf_lp4059))) hI hal hP hS (lv_sub hl [0, 2, 3] rfl)
            · skip
              have t4127 := cv_eq (a := r4108.toInt) rfl (b := 43) (by decide) c4109
              refine lv_iconst (v := 5) hx hb dX3_readSum_40 (by decide) ?_
              refine lv_goto (tgt := 46) hx hb dX3_readSum_41 (by decide) ?_
              refine lv_istore_n (lv' := [(3, .int 5), (2, .int x2_lp4059), (0, .ref (g 7)), (1, .int 7)]) hx hb dX3_readSum_46 rfl hl (by decide) rfl (fun ls hl => ?_)
              refine lv_aload_n hx hb dX3_readSum_47 rfl (lv_at hl 2 rfl) ?_
              refine lv_dup hx hb dX3_readSum_48 rfl ?_
              refine va_get (D := (dC, dI)) (ci := 3) (v := .int (v_lp4059 143)) (C := RX3) (T := TX3) (N := 5) hx hb hwd inA_X3 hown hK hP 7 rfl rfl 3 (by decide) (hwd _ wk_853) (fun _ h9 => h9) rfl dX3_readSum_49 ?_
              refine lv_iconst (v := 1) hx hb dX3_readSum_52 (by decide) ?_
              refine lv_iadd hx hb dX3_readSum_53 ?_
              refine lv_topi (fun z4128 e4129 => ?_)
              try (have t4130 := tadd e4129 (a := (v_lp4059 143).toInt) rfl (b := 1) (by decide) (by omega))
              refine va_put (D := (dC, dI)) (ci := 3) (v := .int z4128) (ty := .int) (C := RX3) (T := TX3) (N := 5) (fs := fsX_7 g v_lp4059 (g (44 + nr))) hx hb hwd inA_X3 tyX3 tyX3_ok nmX3 hown hK hP (DX hg) hS 7 rfl rfl 3 (by decide) (hwd _ wk_853) (fun _ h9 => h9) rfl (by decide +kernel) rfl rfl (Nat.le_of_ble_eq_true rfl) dX3_readSum_54 (fun H locs hP _ hS => ?_)
              have hP := va_P_eq (pX_143 g c _ _ _ _) hP
              have hI := IX.put0 hI 143 z4128 rfl
              have hal := (alX_v _ _ 143 z4128 (by decide) (by decide) (by decide) (by decide)).trans hal
              refine lv_aload_n hx hb dX3_readSum_57 rfl (lv_at hl 2 rfl) ?_
              refine lv_iload_n hx hb dX3_readSum_58 rfl (lv_at hl 3 rfl) ?_
              refine va_callv (va_runV (As := [.int 7]) (rest := []) ⟨hx, hb, hml, hown, hwd⟩ (c_X3_readProduct_7 l dC dI g c adK adV (va_up v_lp4059 143 z4128) F_lp4059 nr H.size  hg hnr hI ) (cwV 1 hwd (gV wk_989 wk_991 wk_992 wk_993 wk_38) rfl rfl rfl (by decide +kernel) ⟨Nat.le_of_ble_eq_true rfl, Nat.le_of_ble_eq_true rfl⟩) ⟨PX.blind, va_recv hK hP (ci := 3) (q0 := 7) rfl rfl, fun U hU hW => ⟨rfl, PX.at hK hE hP hS hU hW⟩⟩ rfl rfl hl.1 rfl (lv_room (Nat.le_of_ble_eq_true rfl)) dX3_readSum_59 ⟨Nat.le_of_ble_eq_true rfl, Nat.le_of_ble_eq_true rfl⟩) hS (fun q _ h => (freeX hS) q h) (freeX hS) (fun u t H1 locs ht hvm hw hB hz1 hk1 hS => ?_)
              unfold BX at hB
              rw [ht] at hB
              obtain ⟨v4132, F4133, rc9⟩ := u
              obtain ⟨hI, hal9, hrc, hf4134, hw⟩ := hw
              dsimp only at hI hal9 hrc hB hf4134 hw
              rw [hrc] at hB
              have hal := hal9.trans hal
              have hP : va_P (dC, dI) classes (wX g c v4132 F4133 (g (44 + nr))) H1 := hB
              generalize H1 = H at hP hS ⊢
              refine lv_aload_n hx hb dX3_readSum_62 rfl (lv_at hl 2 rfl) ?_
              refine lv_iload_n hx hb dX3_readSum_63 rfl (lv_at hl 0 rfl) ?_
              refine lv_iconst (v := 0) hx hb dX3_readSum_64 (by decide) ?_
              refine va_calli (va_runV (As := [.int 5, .int 0]) (rest := []) ⟨hx, hb, hml, hown, hwd⟩ (c_X3_put l dC dI g c adK adV v4132 F4133 nr H.size 5 0 hg hnr hI (by have : (5 : Int32).toInt = 5 := (by decide); omega) (by have : (0 : Int32).toInt = 0 := (by decide); omega)) (cwV 2 hwd (gV wk_882 wk_879 wk_880 wk_881 wk_38) rfl rfl rfl (by decide +kernel) ⟨Nat.le_of_ble_eq_true rfl, Nat.le_of_ble_eq_true rfl⟩) ⟨PX.blind, va_recv hK hP (ci := 3) (q0 := 7) rfl rfl, fun U hU hW => ⟨rfl, PX.at hK hE hP hS hU hW⟩⟩ rfl rfl hl.1 rfl (lv_room (Nat.le_of_ble_eq_true rfl)) dX3_readSum_65 ⟨Nat.le_of_ble_eq_true rfl, Nat.le_of_ble_eq_true rfl⟩) hS (fun q _ h => (freeX hS) q h) (freeX hS) (fun r4135 u t H1 locs ht hvm hw hB hz1 hk1 hS => ?_)
              unfold BX at hB
              rw [ht] at hB
              obtain ⟨v4136, F4137, rc9⟩ := u
              obtain ⟨hI, hal9, hrc, hf4138, hw⟩ := hw
              dsimp only at hI hal9 hrc hB hf4138 hw
              rw [hrc] at hB
              have hal := hal9.trans hal
              have hP : va_P (dC, dI) classes (wX g c v4136 F4137 (g (44 + nr))) H1 := hB
              have hw : -1 ≤ r4135.toInt ∧ r4135.toInt ≤ 119 := hw
              have k4139 : (5 : Int32).toInt = 5 := by decide
              have k4140 : (0 : Int32).toInt = 0 := by decide
              generalize H1 = H at hP hS ⊢
              have hw_r4135 := hw
              refine lv_pop hx hb dX3_readSum_68 rfl ?_
              obtain ⟨z4141, e4142⟩ : ∃ y : Int32, y = x2_lp4059 + 1 := ⟨_, rfl⟩
              try (have t4143 := tadd e4142 rfl (b := 1) (by decide) (by omega))
              refine lv_iinc (v := z4141) (lv' := [(2, .int z4141), (3, .int 5), (0, .ref (g 7)), (1, .int 7)]) hx hb dX3_readSum_69 hl (k := 1) rfl (by rw [e4142]; rfl) (by decide) rfl (fun ls hl => ?_)
              refine lv_goto (tgt := 7) hx hb dX3_readSum_72 (by decide) ?_
              exact ih_lp4059 z4141 v4136 F4137 _ _ _ (by omega) (by omega) (frC (by decide) hf4138 (frC (by decide) hf4134 (frU (by decide) hf_lp4059))) hI hal hP hS (lv_sub hl [0, 2, 3] rfl)
  obtain ⟨n9, hn9⟩ : ∃ n : Nat, 2147483648 - 0 ≤ (n : Int) := ⟨((2147483648 - 0 : Int)).toNat, by omega⟩
  exact lp4059 n9 0 v4056 F4057 H _ ls (by have : (0 : Int32).toInt = 0 := (by decide); omega) (by have : (0 : Int32).toInt = 0 := (by decide); omega) (fun _ _ => rfl) hI hal hP hS hl
set_option maxHeartbeats 8000000 in
set_option maxRecDepth 100000 in
theorem c_X3_readComparison_7 (l : Launch) (dC : Nat → ClassId) (dI : Nat → Nat → Nat) (g : Nat → Nat) (c : Nat → ClassId) (adK adV : Nat → Nat) (v : Nat → Int32) (F : Nat → Nat → Int32) (nr sz : Nat) (hg : injX g) (hnr : nr < 10) (hI : IX v F) : Met l yX3_readComparison (Cond.code yX3_readComparison cX3_readComparison 3 none :: wA) ({ frames := 14, cells := 0, slots := 0, locals := 560 }) (va_Pc [.ref (g 7), .int 7] (PX dC dI g c adK adV v F (g (44 + nr)) sz)) (va_Qv (fun (u : StX) => IX u.1 u.2.1 ∧ alX u.1 u.2.1 = alX v F ∧ u.2.2 = (g (44 + nr)) ∧ (∀ k, k ∉ ([142, 143, 144] : List Nat) → u.1 k = v k) ∧ True) (BX dC dI g c) (AX g sz)) 0 0 (AX g sz) := by
  refine Met.ofW (cc := cX3_readComparison) (maxL := 3) (ret := none) (by decide) rfl ?_
  intro p e s m args below meth c0 s₁ B hml hv
  obtain ⟨rfl, hsz, hP, hK, hE⟩ := hv
  have hx := B.exec
  have hb := B.bytes
  have hr := B.returns
  have hts := atoms_spec (ws := Cond.code yX3_readComparison cX3_readComparison 3 none :: wA) B.pre
  have hwd : ∀ w ∈ wA, w.before _ s = true := fun w h => hts w (List.mem_cons_of_mem _ h)
  have hown : s.vm.findClass RX3 = some m.cls := findClass_of_methodNamed B.named
  have hlocks := B.notSynchronized
  subst hsz
  have hl := lv_entry ([.ref (g 7), .int 7]) (n := 3) (Nat.le_of_ble_eq_true rfl)
  rw [lg_entry_eq]
  generalize (lg_sl ([.ref (g 7), .int 7]) ++ List.replicate (3 - (lg_sl ([.ref (g 7), .int 7])).length) Slot.unset).toArray = ls at hl ⊢
  have hl : lv_has ls 3 [(0, .ref (g 7)), (1, .int 7)] := hl
  obtain ⟨H, eH⟩ : ∃ z, z = s.heap := ⟨_, rfl⟩
  have hP : va_P (dC, dI) classes (wX g c v F (g (44 + nr))) H := by rw [eH]; exact hP
  have hS : va_S (AX g s.heap.size) s.heap H [] := by rw [eH]; exact va_S.rf
  refine my_heap eH ?_
  have hal : alX v F = alX v F := rfl
  refine lv_aload_n hx hb dX3_readComparison_0 rfl (lv_at hl 0 rfl) ?_
  refine lv_iload_n hx hb dX3_readComparison_1 rfl (lv_at hl 1 rfl) ?_
  refine va_callv (va_runV (As := [.int 7]) (rest := []) ⟨hx, hb, hml, hown, hwd⟩ (c_X3_readSum_7 l dC dI g c adK adV v F nr H.size  hg hnr hI ) (cwV 1 hwd (gV wk_990 wk_892 wk_893 wk_894 wk_38) rfl rfl rfl (by decide +kernel) ⟨Nat.le_of_ble_eq_true rfl, Nat.le_of_ble_eq_true rfl⟩) ⟨PX.blind, va_recv hK hP (ci := 3) (q0 := 7) rfl rfl, fun U hU hW => ⟨rfl, PX.at hK hE hP hS hU hW⟩⟩ rfl rfl hl.1 rfl (lv_room (Nat.le_of_ble_eq_true rfl)) dX3_readComparison_2 ⟨Nat.le_of_ble_eq_true rfl, Nat.le_of_ble_eq_true rfl⟩) hS (fun q _ h => (freeX hS) q h) (freeX hS) (fun u t H1 locs ht hvm hw hB hz1 hk1 hS => ?_)
  unfold BX at hB
  rw [ht] at hB
  obtain ⟨v4145, F4146, rc9⟩ := u
  obtain ⟨hI, hal9, hrc, hf4147, hw⟩ := hw
  dsimp only at hI hal9 hrc hB hf4147 hw
  rw [hrc] at hB
  have hal := hal9.trans hal
  have hP : va_P (dC, dI) classes (wX g c v4145 F4146 (g (44 + nr))) H1 := hB
  generalize H1 = H at hP hS ⊢
  refine lv_aload_n hx hb dX3_readComparison_5 rfl (lv_at hl 0 rfl) ?_
  refine va_calli (va_runV (As := []) (rest := []) ⟨hx, hb, hml, hown, hwd⟩ (c_X3_next l dC dI g c adK adV v4145 F4146 nr H.size  hg hnr hI ) (cwV 0 hwd (gV wk_866 wk_863 wk_864 wk_865 wk_38) rfl rfl rfl (by decide +kernel) ⟨Nat.le_of_ble_eq_true rfl, Nat.le_of_ble_eq_true rfl⟩) ⟨PX.blind, va_recv hK hP (ci := 3) (q0 := 7) rfl rfl, fun U hU hW => ⟨rfl, PX.at hK hE hP hS hU hW⟩⟩ rfl rfl hl.1 rfl (lv_room (Nat.le_of_ble_eq_true rfl)) dX3_readComparison_6 ⟨Nat.le_of_ble_eq_true rfl, Nat.le_of_ble_eq_true rfl⟩) hS (fun q _ h => (freeX hS) q h) (freeX hS) (fun r4148 u t H1 locs ht hvm hw hB hz1 hk1 hS => ?_)
  unfold BX at hB
  rw [ht] at hB
  have hP : va_P (dC, dI) classes (wX g c v4145 F4146 (g (44 + nr))) H1 := hB
  generalize H1 = H at hP hS ⊢
  have rr_r4148 := i32_rng r4148
  refine lv_istore_n (lv' := [(2, .int r4148), (0, .ref (g 7)), (1, .int 7)]) hx hb dX3_readComparison_9 rfl hl (by decide) rfl (fun ls hl => ?_)
  refine lv_iload_n hx hb dX3_readComparison_10 rfl (lv_at hl 0 rfl) ?_
  refine lv_bipush (v := 60) hx hb dX3_readComparison_11 (by decide) ?_
  refine lv_icmp_eq (tgt := 28) hx hb dX3_readComparison_13 (by decide) (fun c4149 => ?_) (fun c4149 => ?_)
  · skip
    have t4150 := cv_eq (a := r4148.toInt) rfl (b := 60) (by decide) c4149
    refine lv_aload_n hx hb dX3_readComparison_28 rfl (lv_at hl 1 rfl) ?_
    refine lv_dup hx hb dX3_readComparison_29 rfl ?_
    refine va_get (D := (dC, dI)) (ci := 3) (v := .int (v4145 143)) (C := RX3) (T := TX3) (N := 5) hx hb hwd inA_X3 hown hK hP 7 rfl rfl 3 (by decide) (hwd _ wk_853) (fun _ h9 => h9) rfl dX3_readComparison_30 ?_
    refine lv_iconst (v := 1) hx hb dX3_readComparison_33 (by decide) ?_
    refine lv_iadd hx hb dX3_readComparison_34 ?_
    refine lv_topi (fun z4151 e4152 => ?_)
    try (have t4153 := tadd e4152 (a := (v4145 143).toInt) rfl (b := 1) (by decide) (by omega))
    refine va_put (D := (dC, dI)) (ci := 3) (v := .int z4151) (ty := .int) (C := RX3) (T := TX3) (N := 5) (fs := fsX_7 g v4145 (g (44 + nr))) hx hb hwd inA_X3 tyX3 tyX3_ok nmX3 hown hK hP (DX hg) hS 7 rfl rfl 3 (by decide) (hwd _ wk_853) (fun _ h9 => h9) rfl (by decide +kernel) rfl rfl (Nat.le_of_ble_eq_true rfl) dX3_readComparison_35 (fun H locs hP _ hS => ?_)
    have hP := va_P_eq (pX_143 g c _ _ _ _) hP
    have hI := IX.put0 hI 143 z4151 rfl
    have hal := (alX_v _ _ 143 z4151 (by decide) (by decide) (by decide) (by decide)).trans hal
    refine lv_aload_n hx hb dX3_readComparison_38 rfl (lv_at hl 1 rfl) ?_
    refine lv_iload_n hx hb dX3_readComparison_39 rfl (lv_at hl 2 rfl) ?_
    refine va_callv (va_runV (As := [.int 7]) (rest := []) ⟨hx, hb, hml, hown, hwd⟩ (c_X3_readSum_7 l dC dI g c adK adV (va_up v4145 143 z4151) F4146 nr H.size  hg hnr hI ) (cwV 1 hwd (gV wk_990 wk_892 wk_893 wk_894 wk_38) rfl rfl rfl (by decide +kernel) ⟨Nat.le_of_ble_eq_true rfl, Nat.le_of_ble_eq_true rfl⟩) ⟨PX.blind, va_recv hK hP (ci := 3) (q0 := 7) rfl rfl, fun U hU hW => ⟨rfl, PX.at hK hE hP hS hU hW⟩⟩ rfl rfl hl.1 rfl (lv_room (Nat.le_of_ble_eq_true rfl)) dX3_readComparison_40 ⟨Nat.le_of_ble_eq_true rfl, Nat.le_of_ble_eq_true rfl⟩) hS (fun q _ h => (freeX hS) q h) (freeX hS) (fun u t H1 locs ht hvm hw hB hz1 hk1 hS => ?_)
    unfold BX at hB
    rw [ht] at hB
    obtain ⟨v4155, F4156, rc9⟩ := u
    obtain ⟨hI, hal9, hrc, hf4157, hw⟩ := hw
    dsimp only at hI hal9 hrc hB hf4157 hw
    rw [hrc] at hB
    have hal := hal9.trans hal
    have hP : va_P (dC, dI) classes (wX g c v4155 F4156 (g (44 + nr))) H1 := hB
    generalize H1 = H at hP hS ⊢
    refine lv_aload_n hx hb dX3_readComparison_43 rfl (lv_at hl 1 rfl) ?_
    refine lv_iload_n hx hb dX3_readComparison_44 rfl (lv_at hl 0 rfl) ?_
    refine lv_bipush (v := 60) hx hb dX3_readComparison_45 (by decide) ?_
    refine lv_icmp_ne (tgt := 55) hx hb dX3_readComparison_47 (by decide) (fun c4158 => ?_) (fun c4158 => ?_)
    · skip
      have t4159 := cv_ne (a := r4148.toInt) rfl (b := 60) (by decide) c4158
      refine lv_iload_n hx hb dX3_readComparison_55 rfl (lv_at hl 0 rfl) ?_
      refine lv_bipush (v := 61) hx hb dX3_readComparison_56 (by decide) ?_
      refine lv_icmp_ne (tgt := 66) hx hb dX3_readComparison_58 (by decide) (fun c4160 => ?_) (fun c4160 => ?_)
      · skip
        have t4161 := cv_ne (a := r4148.toInt) rfl (b := 61) (by decide) c4160
        refine lv_bipush (v := 11) hx hb dX3_readComparison_66 (by decide) ?_
        refine lv_iconst (v := 0) hx hb dX3_readComparison_68 (by decide) ?_
        refine va_calli (va_runV (As := [.int 11, .int 0]) (rest := []) ⟨hx, hb, hml, hown, hwd⟩ (c_X3_put l dC dI g c adK adV v4155 F4156 nr H.size 11 0 hg hnr hI (by have : (11 : Int32).toInt = 11 := (by decide); omega) (by have : (0 : Int32).toInt = 0 := (by decide); omega)) (cwV 2 hwd (gV wk_882 wk_879 wk_880 wk_881 wk_38) rfl rfl rfl (by decide +kernel) ⟨Nat.le_of_ble_eq_true rfl, Nat.le_of_ble_eq_true rfl⟩) ⟨PX.blind, va_recv hK hP (ci := 3) (q0 := 7) rfl rfl, fun U hU hW => ⟨rfl, PX.at hK hE hP hS hU hW⟩⟩ rfl rfl hl.1 rfl (lv_room (Nat.le_of_ble_eq_true rfl)) dX3_readComparison_69 ⟨Nat.le_of_ble_eq_true rfl, Nat.le_of_ble_eq_true rfl⟩) hS (fun q _ h => (freeX hS) q h) (freeX hS) (fun r4162 u t H1 locs ht hvm hw hB hz1 hk1 hS => ?_)
        unfold BX at hB
        rw [ht] at hB
        obtain ⟨v4163, F4164, rc9⟩ := u
        obtain ⟨hI, hal9, hrc, hf4165, hw⟩ := hw
        dsimp only at hI hal9 hrc hB hf4165 hw
        rw [hrc] at hB
        have hal := hal9.trans hal
        have hP : va_P (dC, dI) classes (wX g c v4163 F4164 (g (44 + nr))) H1 := hB
        have hw : -1 ≤ r4162.toInt ∧ r4162.toInt ≤ 119 := hw
        have k4166 : (11 : Int32).toInt = 11 := by decide
        have k4167 : (0 : Int32).toInt = 0 := by decide
        generalize H1 = H at hP hS ⊢
        have hw_r4162 := hw
        refine lv_pop hx hb dX3_readComparison_72 rfl ?_
        have hP9 : va_P (dC, dI) classes (wX g c v4163 F4164 (g (44 + nr))) H := hP
        exact W.vret hx hb hr (fun t ht hW => ⟨⟨(v4163, F4164, (g (44 + nr))), rfl, ⟨hI, hal, rfl, (frC (by decide) hf4165 (frC (by decide) hf4157 (frU (by decide) (frC (by decide) hf4147 (fun _ _ => rfl))))), trivial⟩, (by show va_P _ _ _ t.heap; rw [ht]; exact hP9)⟩, hS.F ht⟩) hS.2.2 dX3_readComparison_73
      · skip
        have t4168 := cv_eq (a := r4148.toInt) rfl (b := 61) (by decide) c4160
        refine lv_bipush (v := 10) hx hb dX3_readComparison_61 (by decide) ?_
        refine lv_goto (tgt := 68) hx hb dX3_readComparison_63 (by decide) ?_
        refine lv_iconst (v := 0) hx hb dX3_readComparison_68 (by decide) ?_
        refine va_calli (va_runV (As := [.int 10, .int 0]) (rest := []) ⟨hx, hb, hml, hown, hwd⟩ (c_X3_put l dC dI g c adK adV v4155 F4156 nr H.size 10 0 hg hnr hI (by have : (10 : Int32).toInt = 10 := (by decide); omega) (by have : (0 : Int32).toInt = 0 := (by decide); omega)) (cwV 2 hwd (gV wk_882 wk_879 wk_880 wk_881 wk_38) rfl rfl rfl (by decide +kernel) ⟨Nat.le_of_ble_eq_true rfl, Nat.le_of_ble_eq_true rfl⟩) ⟨PX.blind, va_recv hK hP (ci := 3) (q0 := 7) rfl rfl, fun U hU hW => ⟨rfl, PX.at hK hE hP hS hU hW⟩⟩ rfl rfl hl.1 rfl (lv_room (Nat.le_of_ble_eq_true rfl)) dX3_readComparison_69 ⟨Nat.le_of_ble_eq_true rfl, Nat.le_of_ble_eq_true rfl⟩) hS (fun q _ h => (freeX hS) q h) (freeX hS) (fun r4169 u t H1 locs ht hvm hw hB hz1 hk1 hS => ?_)
        unfold BX at hB
        rw [ht] at hB
        obtain ⟨v4170, F4171, rc9⟩ := u
        obtain ⟨hI, hal9, hrc, hf4172, hw⟩ := hw
        dsimp only at hI hal9 hrc hB hf4172 hw
        rw [hrc] at hB
        have hal := hal9.trans hal
        have hP : va_P (dC, dI) classes (wX g c v4170 F4171 (g (44 + nr))) H1 := hB
        have hw : -1 ≤ r4169.toInt ∧ r4169.toInt ≤ 119 := hw
        have k4173 : (10 : Int32).toInt = 10 := by decide
        have k4174 : (0 : Int32).toInt = 0 := by decide
        generalize H1 = H at hP hS ⊢
        have hw_r4169 := hw
        refine lv_pop hx hb dX3_readComparison_72 rfl ?_
        have hP9 : va_P (dC, dI) classes (wX g c v4170 F4171 (g (44 + nr))) H := hP
        exact W.vret hx hb hr (fun t ht hW => ⟨⟨(v4170, F4171, (g (44 + nr))), rfl, ⟨hI, hal, rfl, (frC (by decide) hf4172 (frC (by decide) hf4157 (frU (by decide) (frC (by decide) hf4147 (fun _ _ => rfl))))), trivial⟩, (by show va_P _ _ _ t.heap; rw [ht]; exact hP9)⟩, hS.F ht⟩) hS.2.2 dX3_readComparison_73
    · skip
      have t4175 := cv_eq (a := r4148.toInt) rfl (b := 60) (by decide) c4158
      refine lv_bipush (v := 9) hx hb dX3_readComparison_50 (by decide) ?_
      refine lv_goto (tgt := 68) hx hb dX3_readComparison_52 (by decide) ?_
      refine lv_iconst (v := 0) hx hb dX3_readComparison_68 (by decide) ?_
      refine va_calli (va_runV (As := [.int 9, .int 0]) (rest := []) ⟨hx, hb, hml, hown, hwd⟩ (c_X3_put l dC dI g c adK adV v4155 F4156 nr H.size 9 0 hg hnr hI (by have : (9 : Int32).toInt = 9 := (by decide); omega) (by have : (0 : Int32).toInt = 0 := (by decide); omega)) (cwV 2 hwd (gV wk_882 wk_879 wk_880 wk_881 wk_38) rfl rfl rfl (by decide +kernel) ⟨Nat.le_of_ble_eq_true rfl, Nat.le_of_ble_eq_true rfl⟩) ⟨PX.blind, va_recv hK hP (ci := 3) (q0 := 7) rfl rfl, fun U hU hW => ⟨rfl, PX.at hK hE hP hS hU hW⟩⟩ rfl rfl hl.1 rfl (lv_room (Nat.le_of_ble_eq_true rfl)) dX3_readComparison_69 ⟨Nat.le_of_ble_eq_true rfl, Nat.le_of_ble_eq_true rfl⟩) hS (fun q _ h => (freeX hS) q h) (freeX hS) (fun r4176 u t H1 locs ht hvm hw hB hz1 hk1 hS => ?_)
      unfold BX at hB
      rw [ht] at hB
      obtain ⟨v4177, F4178, rc9⟩ := u
      obtain ⟨hI, hal9, hrc, hf4179, hw⟩ := hw
      dsimp only at hI hal9 hrc hB hf4179 hw
      rw [hrc] at hB
      have hal := hal9.trans hal
      have hP : va_P (dC, dI) classes (wX g c v4177 F4178 (g (44 + nr))) H1 := hB
      have hw : -1 ≤ r4176.toInt ∧ r4176.toInt ≤ 119 := hw
      have k4180 : (9 : Int32).toInt = 9 := by decide
      have k4181 : (0 : Int32).toInt = 0 := by decide
      generalize H1 = H at hP hS ⊢
      have hw_r4176 := hw
      refine lv_pop hx hb dX3_readComparison_72 rfl ?_
      have hP9 : va_P (dC, dI) classes (wX g c v4177 F4178 (g (44 + nr))) H := hP
      exact W.vret hx hb hr (fun t ht hW => ⟨⟨(v4177, F4178, (g (44 + nr))), rfl, ⟨hI, hal, rfl, (frC (by decide) hf4179 (frC (by decide) hf4157 (frU (by decide) (frC (by decide) hf4147 (fun _ _ => rfl))))), trivial⟩, (by show va_P _ _ _ t.heap; rw [ht]; exact hP9)⟩, hS.F ht⟩) hS.2.2 dX3_readComparison_73
  · skip
    have t4182 := cv_ne (a := r4148.toInt) rfl (b := 60) (by decide) c4149
    refine lv_iload_n hx hb dX3_readComparison_16 rfl (lv_at hl 0 rfl) ?_
    refine lv_bipush (v := 61) hx hb dX3_readComparison_17 (by decide) ?_
    refine lv_icmp_eq (tgt := 28) hx hb dX3_readComparison_19 (by decide) (fun c4183 => ?_) (fun c4183 => ?_)
    · skip
      have t4184 := cv_eq (a := r4148.toInt) rfl (b := 61) (by decide) c4183
      refine lv_aload_n hx hb dX3_readComparison_28 rfl (lv_at hl 1 rfl) ?_
      refine lv_dup hx hb dX3_readComparison_29 rfl ?_
      refine va_get (D := (dC, dI)) (ci := 3) (v := .int (v4145 143)) (C := RX3) (T := TX3) (N := 5) hx hb hwd inA_X3 hown hK hP 7 rfl rfl 3 (by decide) (hwd _ wk_853) (fun _ h9 => h9) rfl dX3_readComparison_30 ?_
      refine lv_iconst (v := 1) hx hb dX3_readComparison_33 (by decide) ?_
      refine lv_iadd hx hb dX3_readComparison_34 ?_
      refine lv_topi (fun z4185 e4186 => ?_)
      try (have t4187 := tadd e4186 (a := (v4145 143).toInt) rfl (b := 1) (by decide) (by omega))
      refine va_put (D := (dC, dI)) (ci := 3) (v := .int z4185) (ty := .int) (C := RX3) (T := TX3) (N := 5) (fs := fsX_7 g v4145 (g (44 + nr))) hx hb hwd inA_X3 tyX3 tyX3_ok nmX3 hown hK hP (DX hg) hS 7 rfl rfl 3 (by decide) (hwd _ wk_853) (fun _ h9 => h9) rfl (by decide +kernel) rfl rfl (Nat.le_of_ble_eq_true rfl) dX3_readComparison_35 (fun H locs hP _ hS => ?_)
      have hP := va_P_eq (pX_143 g c _ _ _ _) hP
      have hI := IX.put0 hI 143 z4185 rfl
      have hal := (alX_v _ _ 143 z4185 (by decide) (by decide) (by decide) (by decide)).trans hal
      refine lv_aload_n hx hb dX3_readComparison_38 rfl (lv_at hl 1 rfl) ?_
      refine lv_iload_n hx hb dX3_readComparison_39 rfl (lv_at hl 2 rfl) ?_
      refine va_callv (va_runV (As := [.int 7]) (rest := []) ⟨hx, hb, hml, hown, hwd⟩ (c_X3_readSum_7 l dC dI g c adK adV (va_up v4145 143 z4185) F4146 nr H.size  hg hnr hI ) (cwV 1 hwd (gV wk_990 wk_892 wk_893 wk_894 wk_38) rfl rfl rfl (by decide +kernel) ⟨Nat.le_of_ble_eq_true rfl, Nat.le_of_ble_eq_true rfl⟩) ⟨PX.blind, va_recv hK hP (ci := 3) (q0 := 7) rfl rfl, fun U hU hW => ⟨rfl, PX.at hK hE hP hS hU hW⟩⟩ rfl rfl hl.1 rfl (lv_room (Nat.le_of_ble_eq_true rfl)) dX3_readComparison_40 ⟨Nat.le_of_ble_eq_true rfl, Nat.le_of_ble_eq_true rfl⟩) hS (fun q _ h => (freeX hS) q h) (freeX hS) (fun u t H1 locs ht hvm hw hB hz1 hk1 hS => ?_)
      unfold BX at hB
      rw [ht] at hB
      obtain ⟨v4189, F4190, rc9⟩ := u
      obtain ⟨hI, hal9, hrc, hf4191, hw⟩ := hw
      dsimp only at hI hal9 hrc hB hf4191 hw
      rw [hrc] at hB
      have hal := hal9.trans hal
      have hP : va_P (dC, dI) classes (wX g c v4189 F4190 (g (44 + nr))) H1 := hB
      generalize H1 = H at hP hS ⊢
      refine lv_aload_n hx hb dX3_readComparison_43 rfl (lv_at hl 1 rfl) ?_
      refine lv_iload_n hx hb dX3_readComparison_44 rfl (lv_at hl 0 rfl) ?_
      refine lv_bipush (v := 60) hx hb dX3_readComparison_45 (by decide) ?_
      refine lv_icmp_ne (tgt := 55) hx hb dX3_readComparison_47 (by decide) (fun c4192 => ?_) (fun c4192 => ?_)
      · skip
        have t4193 := cv_ne (a := r4148.toInt) rfl (b := 60) (by decide) c4192
        refine lv_iload_n hx hb dX3_readComparison_55 rfl (lv_at hl 0 rfl) ?_
        refine lv_bipush (v := 61) hx hb dX3_readComparison_56 (by decide) ?_
        refine lv_icmp_ne (tgt := 66) hx hb dX3_readComparison_58 (by decide) (fun c4194 => ?_) (fun c4194 => ?_)
        · skip
          have t4195 := cv_ne (a := r4148.toInt) rfl (b := 61) (by decide) c4194
          refine lv_bipush (v := 11) hx hb dX3_readComparison_66 (by decide) ?_
          refine lv_iconst (v := 0) hx hb dX3_readComparison_68 (by decide) ?_
          refine va_calli (va_runV (As := [.int 11, .int 0]) (rest := []) ⟨hx, hb, hml, hown, hwd⟩ (c_X3_put l dC dI g c adK adV v4189 F4190 nr H.size 11 0 hg hnr hI (by have : (11 : Int32).toInt = 11 := (by decide); omega) (by have : (0 : Int32).toInt = 0 := (by decide); omega)) (cwV 2 hwd (gV wk_882 wk_879 wk_880 wk_881 wk_38) rfl rfl rfl (by decide +kernel) ⟨Nat.le_of_ble_eq_true rfl, Nat.le_of_ble_eq_true rfl⟩) ⟨PX.blind, va_recv hK hP (ci := 3) (q0 := 7) rfl rfl, fun U hU hW => ⟨rfl, PX.at hK hE hP hS hU hW⟩⟩ rfl rfl hl.1 rfl (lv_room (Nat.le_of_ble_eq_true rfl)) dX3_readComparison_69 ⟨Nat.le_of_ble_eq_true rfl, Nat.le_of_ble_eq_true rfl⟩) hS (fun q _ h => (freeX hS) q h) (freeX hS) (fun r4196 u t H1 locs ht hvm hw hB hz1 hk1 hS => ?_)
          unfold BX at hB
          rw [ht] at hB
          obtain ⟨v4197, F4198, rc9⟩ := u
          obtain ⟨hI, hal9, hrc, hf4199, hw⟩ := hw
          dsimp only at hI hal9 hrc hB hf4199 hw
          rw [hrc] at hB
          have hal := hal9.trans hal
          have hP : va_P (dC, dI) classes (wX g c v4197 F4198 (g (44 + nr))) H1 := hB
          have hw : -1 ≤ r4196.toInt ∧ r4196.toInt ≤ 119 := hw
          have k4200 : (11 : Int32).toInt = 11 := by decide
          have k4201 : (0 : Int32).toInt = 0 := by decide
          generalize H1 = H at hP hS ⊢
          have hw_r4196 := hw
          refine lv_pop hx hb dX3_readComparison_72 rfl ?_
          have hP9 : va_P (dC, dI) classes (wX g c v4197 F4198 (g (44 + nr))) H := hP
          exact W.vret hx hb hr (fun t ht hW => ⟨⟨(v4197, F4198, (g (44 + nr))), rfl, ⟨hI, hal, rfl, (frC (by decide) hf4199 (frC (by decide) hf4191 (frU (by decide) (frC (by decide) hf4147 (fun _ _ => rfl))))), trivial⟩, (by show va_P _ _ _ t.heap; rw [ht]; exact hP9)⟩, hS.F ht⟩) hS.2.2 dX3_readComparison_73
        · skip
          have t4202 := cv_eq (a := r4148.toInt) rfl (b := 61) (by decide) c4194
          refine lv_bipush (v := 10) hx hb dX3_readComparison_61 (by decide) ?_
          refine lv_goto (tgt := 68) hx hb dX3_readComparison_63 (by decide) ?_
          refine lv_iconst (v := 0) hx hb dX3_readComparison_68 (by decide) ?_
          refine va_calli (va_runV (As := [.int 10, .int 0]) (rest := []) ⟨hx, hb, hml, hown, hwd⟩ (c_X3_put l dC dI g c adK adV v4189 F4190 nr H.size 10 0 hg hnr hI (by have : (10 : Int32).toInt = 10 := (by decide); omega) (by have : (0 : Int32).toInt = 0 := (by decide); omega)) (cwV 2 hwd (gV wk_882 wk_879 wk_880 wk_881 wk_38) rfl rfl rfl (by decide +kernel) ⟨Nat.le_of_ble_eq_true rfl, Nat.le_of_ble_eq_true rfl⟩) ⟨PX.blind, va_recv hK hP (ci := 3) (q0 := 7) rfl rfl, fun U hU hW => ⟨rfl, PX.at hK hE hP hS hU hW⟩⟩ rfl rfl hl.1 rfl (lv_room (Nat.le_of_ble_eq_true rfl)) dX3_readComparison_69 ⟨Nat.le_of_ble_eq_true rfl, Nat.le_of_ble_eq_true rfl⟩) hS (fun q _ h => (freeX hS) q h) (freeX hS) (fun r4203 u t H1 locs ht hvm hw hB hz1 hk1 hS => ?_)
          unfold BX at hB
          rw [ht] at hB
          obtain ⟨v4204, F4205, rc9⟩ := u
          obtain ⟨hI, hal9, hrc, hf4206, hw⟩ := hw
          dsimp only at hI hal9 hrc hB hf4206 hw
          rw [hrc] at hB
          have hal := hal9.trans hal
          have hP : va_P (dC, dI) classes (wX g c v4204 F4205 (g (44 + nr))) H1 := hB
          have hw : -1 ≤ r4203.toInt ∧ r4203.toInt ≤ 119 := hw
          have k4207 : (10 : Int32).toInt = 10 := by decide
          have k4208 : (0 : Int32).toInt = 0 := by decide
          generalize H1 = H at hP hS ⊢
          have hw_r4203 := hw
          refine lv_pop hx hb dX3_readComparison_72 rfl ?_
          have hP9 : va_P (dC, dI) classes (wX g c v4204 F4205 (g (44 + nr))) H := hP
          exact W.vret hx hb hr (fun t ht hW => ⟨⟨(v4204, F4205, (g (44 + nr))), rfl, ⟨hI, hal, rfl, (frC (by decide) hf4206 (frC (by decide) hf4191 (frU (by decide) (frC (by decide) hf4147 (fun _ _ => rfl))))), trivial⟩, (by show va_P _ _ _ t.heap; rw [ht]; exact hP9)⟩, hS.F ht⟩) hS.2.2 dX3_readComparison_73
      · skip
        have t4209 := cv_eq (a := r4148.toInt) rfl (b := 60) (by decide) c4192
        refine lv_bipush (v := 9) hx hb dX3_readComparison_50 (by decide) ?_
        refine lv_goto (tgt := 68) hx hb dX3_readComparison_52 (by decide) ?_
        refine lv_iconst (v := 0) hx hb dX3_readComparison_68 (by decide) ?_
        refine va_calli (va_runV (As := [.int 9, .int 0]) (rest := []) ⟨hx, hb, hml, hown, hwd⟩ (c_X3_put l dC dI g c adK adV v4189 F4190 nr H.size 9 0 hg hnr hI (by have : (9 : Int32).toInt = 9 := (by decide); omega) (by have : (0 : Int32).toInt = 0 := (by decide); omega)) (cwV 2 hwd (gV wk_882 wk_879 wk_880 wk_881 wk_38) rfl rfl rfl (by decide +kernel) ⟨Nat.le_of_ble_eq_true rfl, Nat.le_of_ble_eq_true rfl⟩) ⟨PX.blind, va_recv hK hP (ci := 3) (q0 := 7) rfl rfl, fun U hU hW => ⟨rfl, PX.at hK hE hP hS hU hW⟩⟩ rfl rfl hl.1 rfl (lv_room (Nat.le_of_ble_eq_true rfl)) dX3_readComparison_69 ⟨Nat.le_of_ble_eq_true rfl, Nat.le_of_ble_eq_true rfl⟩) hS (fun q _ h => (freeX hS) q h) (freeX hS) (fun r4210 u t H1 locs ht hvm hw hB hz1 hk1 hS => ?_)
        unfold BX at hB
        rw [ht] at hB
        obtain ⟨v4211, F4212, rc9⟩ := u
        obtain ⟨hI, hal9, hrc, hf4213, hw⟩ := hw
        dsimp only at hI hal9 hrc hB hf4213 hw
        rw [hrc] at hB
        have hal := hal9.trans hal
        have hP : va_P (dC, dI) classes (wX g c v4211 F4212 (g (44 + nr))) H1 := hB
        have hw : -1 ≤ r4210.toInt ∧ r4210.toInt ≤ 119 := hw
        have k4214 : (9 : Int32).toInt = 9 := by decide
        have k4215 : (0 : Int32).toInt = 0 := by decide
        generalize H1 = H at hP hS ⊢
        have hw_r4210 := hw
        refine lv_pop hx hb dX3_readComparison_72 rfl ?_
        have hP9 : va_P (dC, dI) classes (wX g c v4211 F4212 (g (44 + nr))) H := hP
        exact W.vret hx hb hr (fun t ht hW => ⟨⟨(v4211, F4212, (g (44 + nr))), rfl, ⟨hI, hal, rfl, (frC (by decide) hf4213 (frC (by decide) hf4191 (frU (by decide) (frC (by decide) hf4147 (fun _ _ => rfl))))), trivial⟩, (by show va_P _ _ _ t.heap; rw [ht]; exact hP9)⟩, hS.F ht⟩) hS.2.2 dX3_readComparison_73
    · skip
      have t4216 := cv_ne (a := r4148.toInt) rfl (b := 61) (by decide) c4183
      refine lv_iload_n hx hb dX3_readComparison_22 rfl (lv_at hl 0 rfl) ?_
      refine lv_bipush (v := 62) hx hb dX3_readComparison_23 (by decide) ?_
      refine lv_icmp_ne (tgt := 73) hx hb dX3_readComparison_25 (by decide) (fun c4217 => ?_) (fun c4217 => ?_)
      · skip
        have t4218 := cv_ne (a := r4148.toInt) rfl (b := 62) (by decide) c4217
        have hP9 : va_P (dC, dI) classes (wX g c v4145 F4146 (g (44 + nr))) H := hP
        exact W.vret hx hb hr (fun t ht hW => ⟨⟨(v4145, F4146, (g (44 + nr))), rfl, ⟨hI, hal, rfl, (frC (by decide) hf4147 (fun _ _ => rfl)), trivial⟩, (by show va_P _ _ _ t.heap; rw [ht]; exact hP9)⟩, hS.F ht⟩) hS.2.2 dX3_readComparison_73
      · skip
        have t4219 := cv_eq (a := r4148.toInt) rfl (b := 62) (by decide) c4217
        refine lv_aload_n hx hb dX3_readComparison_28 rfl (lv_at hl 1 rfl) ?_
        refine lv_dup hx hb dX3_readComparison_29 rfl ?_
        refine va_get (D := (dC, dI)) (ci := 3) (v := .int (v4145 143)) (C := RX3) (T := TX3) (N := 5) hx hb hwd inA_X3 hown hK hP 7 rfl rfl 3 (by decide) (hwd _ wk_853) (fun _ h9 => h9) rfl dX3_readComparison_30 ?_
        refine lv_iconst (v := 1) hx hb dX3_readComparison_33 (by decide) ?_
        refine lv_iadd hx hb dX3_readComparison_34 ?_
        refine lv_topi (fun z4220 e4221 => ?_)
        try (have t4222 := tadd e4221 (a := (v4145 143).toInt) rfl (b := 1) (by decide) (by omega))
        refine va_put (D := (dC, dI)) (ci := 3) (v := .int z4220) (ty := .int) (C := RX3) (T := TX3) (N := 5) (fs := fsX_7 g v4145 (g (44 + nr))) hx hb hwd inA_X3 tyX3 tyX3_ok nmX3 hown hK hP (DX hg) hS 7 rfl rfl 3 (by decide) (hwd _ wk_853) (fun _ h9 => h9) rfl (by decide +kernel) rfl rfl (Nat.le_of_ble_eq_true rfl) dX3_readComparison_35 (fun H locs hP _ hS => ?_)
        have hP := va_P_eq (pX_143 g c _ _ _ _) hP
        have hI := IX.put0 hI 143 z4220 rfl
        have hal := (alX_v _ _ 143 z4220 (by decide) (by decide) (by decide) (by decide)).trans hal
        refine lv_aload_n hx hb dX3_readComparison_38 rfl (lv_at hl 1 rfl) ?_
        refine lv_iload_n hx hb dX3_readComparison_39 rfl (lv_at hl 2 rfl) ?_
        refine va_callv (va_runV (As := [.int 7]) (rest := []) ⟨hx, hb, hml, hown, hwd⟩ (c_X3_readSum_7 l dC dI g c adK adV (va_up v4145 143 z4220) F4146 nr H.size  hg hnr hI ) (cwV 1 hwd (gV wk_990 wk_892 wk_893 wk_894 wk_38) rfl rfl rfl (by decide +kernel) ⟨Nat.le_of_ble_eq_true rfl, Nat.le_of_ble_eq_true rfl⟩) ⟨PX.blind, va_recv hK hP (ci := 3) (q0 := 7) rfl rfl, fun U hU hW => ⟨rfl, PX.at hK hE hP hS hU hW⟩⟩ rfl rfl hl.1 rfl (lv_room (Nat.le_of_ble_eq_true rfl)) dX3_readComparison_40 ⟨Nat.le_of_ble_eq_true rfl, Nat.le_of_ble_eq_true rfl⟩) hS (fun q _ h => (freeX hS) q h) (freeX hS) (fun u t H1 locs ht hvm hw hB hz1 hk1 hS => ?_)
        unfold BX at hB
        rw [ht] at hB
        obtain ⟨v4224, F4225, rc9⟩ := u
        obtain ⟨hI, hal9, hrc, hf4226, hw⟩ := hw
        dsimp only at hI hal9 hrc hB hf4226 hw
        rw [hrc] at hB
        have hal := hal9.trans hal
        have hP : va_P (dC, dI) classes (wX g c v4224 F4225 (g (44 + nr))) H1 := hB
        generalize H1 = H at hP hS ⊢
        refine lv_aload_n hx hb dX3_readComparison_43 rfl (lv_at hl 1 rfl) ?_
        refine lv_iload_n hx hb dX3_readComparison_44 rfl (lv_at hl 0 rfl) ?_
        refine lv_bipush (v := 60) hx hb dX3_readComparison_45 (by decide) ?_
        refine lv_icmp_ne (tgt := 55) hx hb dX3_readComparison_47 (by decide) (fun c4227 => ?_) (fun c4227 => ?_)
        · skip
          have t4228 := cv_ne (a := r4148.toInt) rfl (b := 60) (by decide) c4227
          refine lv_iload_n hx hb dX3_readComparison_55 rfl (lv_at hl 0 rfl) ?_
          refine lv_bipush (v := 61) hx hb dX3_readComparison_56 (by decide) ?_
          refine lv_icmp_ne (tgt := 66) hx hb dX3_readComparison_58 (by decide) (fun c4229 => ?_) (fun c4229 => ?_)
          · skip
            have t4230 := cv_ne (a := r4148.toInt) rfl (b := 61) (by decide) c4229
            refine lv_bipush (v := 11) hx hb dX3_readComparison_66 (by decide) ?_
            refine lv_iconst (v := 0) hx hb dX3_readComparison_68 (by decide) ?_
            refine va_calli (va_runV (As := [.int 11, .int 0]) (rest := []) ⟨hx, hb, hml, hown, hwd⟩ (c_X3_put l dC dI g c adK adV v4224 F4225 nr H.size 11 0 hg hnr hI (by have : (11 : Int32).toInt = 11 := (by decide); omega) (by have : (0 : Int32).toInt = 0 := (by decide); omega)) (cwV 2 hwd (gV wk_882 wk_879 wk_880 wk_881 wk_38) rfl rfl rfl (by decide +kernel) ⟨Nat.le_of_ble_eq_true rfl, Nat.le_of_ble_eq_true rfl⟩) ⟨PX.blind, va_recv hK hP (ci := 3) (q0 := 7) rfl rfl, fun U hU hW => ⟨rfl, PX.at hK hE hP hS hU hW⟩⟩ rfl rfl hl.1 rfl (lv_room (Nat.le_of_ble_eq_true rfl)) dX3_readComparison_69 ⟨Nat.le_of_ble_eq_true rfl, Nat.le_of_ble_eq_true rfl⟩) hS (fun q _ h => (freeX hS) q h) (freeX hS) (fun r4231 u t H1 locs ht hvm hw hB hz1 hk1 hS => ?_)
            unfold BX at hB
            rw [ht] at hB
            obtain ⟨v4232, F4233, rc9⟩ := u
            obtain ⟨hI, hal9, hrc, hf4234, hw⟩ := hw
            dsimp only at hI hal9 hrc hB hf4234 hw
            rw [hrc] at hB
            have hal := hal9.trans hal
            have hP : va_P (dC, dI) classes (wX g c v4232 F4233 (g (44 + nr))) H1 := hB
            have hw : -1 ≤ r4231.toInt ∧ r4231.toInt ≤ 119 := hw
            have k4235 : (11 : Int32).toInt = 11 := by decide
            have k4236 : (0 : Int32).toInt = 0 := by decide
            generalize H1 = H at hP hS ⊢
            have hw_r4231 := hw
            refine lv_pop hx hb dX3_readComparison_72 rfl ?_
            have hP9 : va_P (dC, dI) classes (wX g c v4232 F4233 (g (44 + nr))) H := hP
            exact W.vret hx hb hr (fun t ht hW => ⟨⟨(v4232, F4233, (g (44 + nr))), rfl, ⟨hI, hal, rfl, (frC (by decide) hf4234 (frC (by decide) hf4226 (frU (by decide) (frC (by decide) hf4147 (fun _ _ => rfl))))), trivial⟩, (by show va_P _ _ _ t.heap; rw [ht]; exact hP9)⟩, hS.F ht⟩) hS.2.2 dX3_readComparison_73
          · skip
            have t4237 := cv_eq (a := r4148.toInt) rfl (b := 61) (by decide) c4229
            refine lv_bipush (v := 10) hx hb dX3_readComparison_61 (by decide) ?_
            refine lv_goto (tgt := 68) hx hb dX3_readComparison_63 (by decide) ?_
            refine lv_iconst (v := 0) hx hb dX3_readComparison_68 (by decide) ?_
            refine va_calli (va_runV (As := [.int 10, .int 0]) (rest := []) ⟨hx, hb, hml, hown, hwd⟩ (c_X3_put l dC dI g c adK adV v4224 F4225 nr H.size 10 0 hg hnr hI (by have : (10 : Int32).toInt = 10 := (by decide); omega) (by have : (0 : Int32).toInt = 0 := (by decide); omega)) (cwV 2 hwd (gV wk_882 wk_879 wk_880 wk_881 wk_38) rfl rfl rfl (by decide +kernel) ⟨Nat.le_of_ble_eq_true rfl, Nat.le_of_ble_eq_true rfl⟩) ⟨PX.blind, va_recv hK hP (ci := 3) (q0 := 7) rfl rfl, fun U hU hW => ⟨rfl, PX.at hK hE hP hS hU hW⟩⟩ rfl rfl hl.1 rfl (lv_room (Nat.le_of_ble_eq_true rfl)) dX3_readComparison_69 ⟨Nat.le_of_ble_eq_true rfl, Nat.le_of_ble_eq_true rfl⟩) hS (fun q _ h => (freeX hS) q h) (freeX hS) (fun r4238 u t H1 locs ht hvm hw hB hz1 hk1 hS => ?_)
            unfold BX at hB
            rw [ht] at hB
            obtain ⟨v4239, F4240, rc9⟩ := u
            obtain ⟨hI, hal9, hrc, hf4241, hw⟩ := hw
            dsimp only at hI hal9 hrc hB hf4241 hw
            rw [hrc] at hB
            have hal := hal9.trans hal
            have hP : va_P (dC, dI) classes (wX g c v4239 F4240 (g (44 + nr))) H1 := hB
            have hw : -1 ≤ r4238.toInt ∧ r4238.toInt ≤ 119 := hw
            have k4242 : (10 : Int32).toInt = 10 := by decide
            have k4243 : (0 : Int32).toInt = 0 := by decide
            generalize H1 = H at hP hS ⊢
            have hw_r4238 := hw
            refine lv_pop hx hb dX3_readComparison_72 rfl ?_
            have hP9 : va_P (dC, dI) classes (wX g c v4239 F4240 (g (44 + nr))) H := hP
            exact W.vret hx hb hr (fun t ht hW => ⟨⟨(v4239, F4240, (g (44 + nr))), rfl, ⟨hI, hal, rfl, (frC (by decide) hf4241 (frC (by decide) hf4226 (frU (by decide) (frC (by decide) hf4147 (fun _ _ => rfl))))), trivial⟩, (by show va_P _ _ _ t.heap; rw [ht]; exact hP9)⟩, hS.F ht⟩) hS.2.2 dX3_readComparison_73
        · skip
          have t4244 := cv_eq (a := r4148.toInt) rfl (b := 60) (by decide) c4227
          refine lv_bipush (v := 9) hx hb dX3_readComparison_50 (by decide) ?_
          refine lv_goto (tgt := 68) hx hb dX3_readComparison_52 (by decide) ?_
          refine lv_iconst (v := 0) hx hb dX3_readComparison_68 (by decide) ?_
          refine va_calli (va_runV (As := [.int 9, .int 0]) (rest := []) ⟨hx, hb, hml, hown, hwd⟩ (c_X3_put l dC dI g c adK adV v4224 F4225 nr H.size 9 0 hg hnr hI (by have : (9 : Int32).toInt = 9 := (by decide); omega) (by have : (0 : Int32).toInt = 0 := (by decide); omega)) (cwV 2 hwd (gV wk_882 wk_879 wk_880 wk_881 wk_38) rfl rfl rfl (by decide +kernel) ⟨Nat.le_of_ble_eq_true rfl, Nat.le_of_ble_eq_true rfl⟩) ⟨PX.blind, va_recv hK hP (ci := 3) (q0 := 7) rfl rfl, fun U hU hW => ⟨rfl, PX.at hK hE hP hS hU hW⟩⟩ rfl rfl hl.1 rfl (lv_room (Nat.le_of_ble_eq_true rfl)) dX3_readComparison_69 ⟨Nat.le_of_ble_eq_true rfl, Nat.le_of_ble_eq_true rfl⟩) hS (fun q _ h => (freeX hS) q h) (freeX hS) (fun r4245 u t H1 locs ht hvm hw hB hz1 hk1 hS => ?_)
          unfold BX at hB
          rw [ht] at hB
          obtain ⟨v4246, F4247, rc9⟩ := u
          obtain ⟨hI, hal9, hrc, hf4248, hw⟩ := hw
          dsimp only at hI hal9 hrc hB hf4248 hw
          rw [hrc] at hB
          have hal := hal9.trans hal
          have hP : va_P (dC, dI) classes (wX g c v4246 F4247 (g (44 + nr))) H1 := hB
          have hw : -1 ≤ r4245.toInt ∧ r4245.toInt ≤ 119 := hw
          have k4249 : (9 : Int32).toInt = 9 := by decide
          have k4250 : (0 : Int32).toInt = 0 := by decide
          generalize H1 = H at hP hS ⊢
          have hw_r4245 := hw
          refine lv_pop hx hb dX3_readComparison_72 rfl ?_
          have hP9 : va_P (dC, dI) classes (wX g c v4246 F4247 (g (44 + nr))) H := hP
          exact W.vret hx hb hr (fun t ht hW => ⟨⟨(v4246, F4247, (g (44 + nr))), rfl, ⟨hI, hal, rfl, (frC (by decide) hf4248 (frC (by decide) hf4226 (frU (by decide) (frC (by decide) hf4147 (fun _ _ => rfl))))), trivial⟩, (by show va_P _ _ _ t.heap; rw [ht]; exact hP9)⟩, hS.F ht⟩) hS.2.2 dX3_readComparison_73
set_option maxHeartbeats 8000000 in
set_option maxRecDepth 100000 in
theorem c_X3_readChoice_7 (l : Launch) (dC : Nat → ClassId) (dI : Nat → Nat → Nat) (g : Nat → Nat) (c : Nat → ClassId) (adK adV : Nat → Nat) (v : Nat → Int32) (F : Nat → Nat → Int32) (nr sz : Nat) (hg : injX g) (hnr : nr < 10) (hI : IX v F) : Met l yX3_readChoice (Cond.code yX3_readChoice cX3_readChoice 4 none :: wA) ({ frames := 15, cells := 0, slots := 0, locals := 600 }) (va_Pc [.ref (g 7), .int 7] (PX dC dI g c adK adV v F (g (44 + nr)) sz)) (va_Qv (fun (u : StX) => IX u.1 u.2.1 ∧ alX u.1 u.2.1 = alX v F ∧ u.2.2 = (g (44 + nr)) ∧ (∀ k, k ∉ ([142, 143, 144] : List Nat) → u.1 k = v k) ∧ True) (BX dC dI g c) (AX g sz)) 0 0 (AX g sz) := by
  refine Met.ofW (cc := cX3_readChoice) (maxL := 4) (ret := none) (by decide) rfl ?_
  intro p e s m args below meth c0 s₁ B hml hv
  obtain ⟨rfl, hsz, hP, hK, hE⟩ := hv
  have hx := B.exec
  have hb := B.bytes
  have hr := B.returns
  have hts := atoms_spec (ws := Cond.code yX3_readChoice cX3_readChoice 4 none :: wA) B.pre
  have hwd : ∀ w ∈ wA, w.before _ s = true := fun w h => hts w (List.mem_cons_of_mem _ h)
  have hown : s.vm.findClass RX3 = some m.cls := findClass_of_methodNamed B.named
  have hlocks := B.notSynchronized
  subst hsz
  have hl := lv_entry ([.ref (g 7), .int 7]) (n := 4) (Nat.le_of_ble_eq_true rfl)
  rw [lg_entry_eq]
  generalize (lg_sl ([.ref (g 7), .int 7]) ++ List.replicate (4 - (lg_sl ([.ref (g 7), .int 7])).length) Slot.unset).toArray = ls at hl ⊢
  have hl : lv_has ls 4 [(0, .ref (g 7)), (1, .int 7)] := hl
  obtain ⟨H, eH⟩ : ∃ z, z = s.heap := ⟨_, rfl⟩
  have hP : va_P (dC, dI) classes (wX g c v F (g (44 + nr))) H := by rw [eH]; exact hP
  have hS : va_S (AX g s.heap.size) s.heap H [] := by rw [eH]; exact va_S.rf
  refine my_heap eH ?_
  have hal : alX v F = alX v F := rfl
  refine lv_aload_n hx hb dX3_readChoice_0 rfl (lv_at hl 0 rfl) ?_
  refine lv_iload_n hx hb dX3_readChoice_1 rfl (lv_at hl 1 rfl) ?_
  refine va_callv (va_runV (As := [.int 7]) (rest := []) ⟨hx, hb, hml, hown, hwd⟩ (c_X3_readComparison_7 l dC dI g c adK adV v F nr H.size  hg hnr hI ) (cwV 1 hwd (gV wk_891 wk_860 wk_861 wk_862 wk_38) rfl rfl rfl (by decide +kernel) ⟨Nat.le_of_ble_eq_true rfl, Nat.le_of_ble_eq_true rfl⟩) ⟨PX.blind, va_recv hK hP (ci := 3) (q0 := 7) rfl rfl, fun U hU hW => ⟨rfl, PX.at hK hE hP hS hU hW⟩⟩ rfl rfl hl.1 rfl (lv_room (Nat.le_of_ble_eq_true rfl)) dX3_readChoice_2 ⟨Nat.le_of_ble_eq_true rfl, Nat.le_of_ble_eq_true rfl⟩) hS (fun q _ h => (freeX hS) q h) (freeX hS) (fun u t H1 locs ht hvm hw hB hz1 hk1 hS => ?_)
  unfold BX at hB
  rw [ht] at hB
  obtain ⟨v4252, F4253, rc9⟩ := u
  obtain ⟨hI, hal9, hrc, hf4254, hw⟩ := hw
  dsimp only at hI hal9 hrc hB hf4254 hw
  rw [hrc] at hB
  have hal := hal9.trans hal
  have hP : va_P (dC, dI) classes (wX g c v4252 F4253 (g (44 + nr))) H1 := hB
  generalize H1 = H at hP hS ⊢
  refine lv_aload_n hx hb dX3_readChoice_5 rfl (lv_at hl 0 rfl) ?_
  refine va_calli (va_runV (As := []) (rest := []) ⟨hx, hb, hml, hown, hwd⟩ (c_X3_next l dC dI g c adK adV v4252 F4253 nr H.size  hg hnr hI ) (cwV 0 hwd (gV wk_866 wk_863 wk_864 wk_865 wk_38) rfl rfl rfl (by decide +kernel) ⟨Nat.le_of_ble_eq_true rfl, Nat.le_of_ble_eq_true rfl⟩) ⟨PX.blind, va_recv hK hP (ci := 3) (q0 := 7) rfl rfl, fun U hU hW => ⟨rfl, PX.at hK hE hP hS hU hW⟩⟩ rfl rfl hl.1 rfl (lv_room (Nat.le_of_ble_eq_true rfl)) dX3_readChoice_6 ⟨Nat.le_of_ble_eq_true rfl, Nat.le_of_ble_eq_true rfl⟩) hS (fun q _ h => (freeX hS) q h) (freeX hS) (fun r4255 u t H1 locs ht hvm hw hB hz1 hk1 hS => ?_)
  unfold BX at hB
  rw [ht] at hB
  have hP : va_P (dC, dI) classes (wX g c v4252 F4253 (g (44 + nr))) H1 := hB
  generalize H1 = H at hP hS ⊢
  have rr_r4255 := i32_rng r4255
  refine lv_bipush (v := 63) hx hb dX3_readChoice_9 (by decide) ?_
  refine lv_icmp_ne (tgt := 66) hx hb dX3_readChoice_11 (by decide) (fun c4256 => ?_) (fun c4256 => ?_)
  · skip
    have t4257 := cv_ne (a := r4255.toInt) rfl (b := 63) (by decide) c4256
    have hP9 : va_P (dC, dI) classes (wX g c v4252 F4253 (g (44 + nr))) H := hP
    exact W.vret hx hb hr (fun t ht hW => ⟨⟨(v4252, F4253, (g (44 + nr))), rfl, ⟨hI, hal, rfl, (frC (by decide) hf4254 (fun _ _ => rfl)), trivial⟩, (by show va_P _ _ _ t.heap; rw [ht]; exact hP9)⟩, hS.F ht⟩) hS.2.2 dX3_readChoice_66
  · skip
    have t4258 := cv_eq (a := r4255.toInt) rfl (b := 63) (by decide) c4256
    refine lv_aload_n hx hb dX3_readChoice_14 rfl (lv_at hl 0 rfl) ?_
    refine lv_iload_n hx hb dX3_readChoice_15 rfl (lv_at hl 1 rfl) ?_
    refine va_calli (va_runV (As := [.int 7]) (rest := []) ⟨hx, hb, hml, hown, hwd⟩ (c_X3_opens l dC dI g c adK adV v4252 F4253 nr H.size 7 hg hnr hI ) (cwV 1 hwd (gV wk_874 wk_871 wk_872 wk_873 wk_38) rfl rfl rfl (by decide +kernel) ⟨Nat.le_of_ble_eq_true rfl, Nat.le_of_ble_eq_true rfl⟩) ⟨PX.blind, va_recv hK hP (ci := 3) (q0 := 7) rfl rfl, fun U hU hW => ⟨rfl, PX.at hK hE hP hS hU hW⟩⟩ rfl rfl hl.1 rfl (lv_room (Nat.le_of_ble_eq_true rfl)) dX3_readChoice_16 ⟨Nat.le_of_ble_eq_true rfl, Nat.le_of_ble_eq_true rfl⟩) hS (fun q _ h => (freeX hS) q h) (freeX hS) (fun r4259 u t H1 locs ht hvm hw hB hz1 hk1 hS => ?_)
    unfold BX at hB
    rw [ht] at hB
    obtain ⟨v4260, F4261, rc9⟩ := u
    obtain ⟨hI, hal9, hrc, hf4262, hw⟩ := hw
    dsimp only at hI hal9 hrc hB hf4262 hw
    rw [hrc] at hB
    have hal := hal9.trans hal
    have hP : va_P (dC, dI) classes (wX g c v4260 F4261 (g (44 + nr))) H1 := hB
    have hw : (r4259.toInt = 1 ∧ (7 : Int32).toInt < 8) ∨ (r4259.toInt = 0 ∧ 8 ≤ (7 : Int32).toInt) := hw
    have k4263 : (7 : Int32).toInt = 7 := by decide
    generalize H1 = H at hP hS ⊢
    have hw_r4259 := hw
    refine lv_if_eq (tgt := 66) hx hb dX3_readChoice_19 (by decide) (fun c4264 => ?_) (fun c4264 => ?_)
    · skip
      have t4265 := cv_eq (a := r4259.toInt) rfl (b := 0) (by decide) c4264
      have hP9 : va_P (dC, dI) classes (wX g c v4260 F4261 (g (44 + nr))) H := hP
      exact W.vret hx hb hr (fun t ht hW => ⟨⟨(v4260, F4261, (g (44 + nr))), rfl, ⟨hI, hal, rfl, (frC (by decide) hf4262 (frC (by decide) hf4254 (fun _ _ => rfl))), trivial⟩, (by show va_P _ _ _ t.heap; rw [ht]; exact hP9)⟩, hS.F ht⟩) hS.2.2 dX3_readChoice_66
    · skip
      have t4266 := cv_ne (a := r4259.toInt) rfl (b := 0) (by decide) c4264
      refine lv_aload_n hx hb dX3_readChoice_22 rfl (lv_at hl 0 rfl) ?_
      refine lv_iconst (v := 4) hx hb dX3_readChoice_23 (by decide) ?_
      refine lv_iconst (v := 0) hx hb dX3_readChoice_24 (by decide) ?_
      refine va_calli (va_runV (As := [.int 4, .int 0]) (rest := []) ⟨hx, hb, hml, hown, hwd⟩ (c_X3_put l dC dI g c adK adV v4260 F4261 nr H.size 4 0 hg hnr hI (by have : (4 : Int32).toInt = 4 := (by decide); omega) (by have : (0 : Int32).toInt = 0 := (by decide); omega)) (cwV 2 hwd (gV wk_882 wk_879 wk_880 wk_881 wk_38) rfl rfl rfl (by decide +kernel) ⟨Nat.le_of_ble_eq_true rfl, Nat.le_of_ble_eq_true rfl⟩) ⟨PX.blind, va_recv hK hP (ci := 3) (q0 := 7) rfl rfl, fun U hU hW => ⟨rfl, PX.at hK hE hP hS hU hW⟩⟩ rfl rfl hl.1 rfl (lv_room (Nat.le_of_ble_eq_true rfl)) dX3_readChoice_25 ⟨Nat.le_of_ble_eq_true rfl, Nat.le_of_ble_eq_true rfl⟩) hS (fun q _ h => (freeX hS) q h) (freeX hS) (fun r4267 u t H1 locs ht hvm hw hB hz1 hk1 hS => ?_)
      unfold BX at hB
      rw [ht] at hB
      obtain ⟨v4268, F4269, rc9⟩ := u
      obtain ⟨hI, hal9, hrc, hf4270, hw⟩ := hw
      dsimp only at hI hal9 hrc hB hf4270 hw
      rw [hrc] at hB
      have hal := hal9.trans hal
      have hP : va_P (dC, dI) classes (wX g c v4268 F4269 (g (44 + nr))) H1 := hB
      have hw : -1 ≤ r4267.toInt ∧ r4267.toInt ≤ 119 := hw
      have k4271 : (4 : Int32).toInt = 4 := by decide
      have k4272 : (0 : Int32).toInt = 0 := by decide
      generalize H1 = H at hP hS ⊢
      have hw_r4267 := hw
      refine lv_istore_n (lv' := [(2, .int r4267), (0, .ref (g 7)), (1, .int 7)]) hx hb dX3_readChoice_28 rfl hl (by decide) rfl (fun ls hl => ?_)
      refine lv_aload_n hx hb dX3_readChoice_29 rfl (lv_at hl 1 rfl) ?_
      refine lv_iload_n hx hb dX3_readChoice_30 rfl (lv_at hl 2 rfl) ?_
      refine lv_iconst (v := 1) hx hb dX3_readChoice_31 (by decide) ?_
      refine lv_iadd hx hb dX3_readChoice_32 ?_
      refine my_top (v := 8) (by decide) ?_
      refine va_callv (va_runV (As := [.int 8]) (rest := []) ⟨hx, hb, hml, hown, hwd⟩ (c_X3_readChoice_8 l dC dI g c adK adV v4268 F4269 nr H.size  hg hnr hI ) (cwV 1 hwd (gV wk_859 wk_856 wk_857 wk_858 wk_38) rfl rfl rfl (by decide +kernel) ⟨Nat.le_of_ble_eq_true rfl, Nat.le_of_ble_eq_true rfl⟩) ⟨PX.blind, va_recv hK hP (ci := 3) (q0 := 7) rfl rfl, fun U hU hW => ⟨rfl, PX.at hK hE hP hS hU hW⟩⟩ rfl rfl hl.1 rfl (lv_room (Nat.le_of_ble_eq_true rfl)) dX3_readChoice_33 ⟨Nat.le_of_ble_eq_true rfl, Nat.le_of_ble_eq_true rfl⟩) hS (fun q _ h => (freeX hS) q h) (freeX hS) (fun u t H1 locs ht hvm hw hB hz1 hk1 hS => ?_)
      unfold BX at hB
      rw [ht] at hB
      obtain ⟨v4274, F4275, rc9⟩ := u
      obtain ⟨hI, hal9, hrc, hf4276, hw⟩ := hw
      dsimp only at hI hal9 hrc hB hf4276 hw
      rw [hrc] at hB
      have hal := hal9.trans hal
      have hP : va_P (dC, dI) classes (wX g c v4274 F4275 (g (44 + nr))) H1 := hB
      generalize H1 = H at hP hS ⊢
      refine lv_aload_n hx hb dX3_readChoice_36 rfl (lv_at hl 1 rfl) ?_
      refine lv_bipush (v := 58) hx hb dX3_readChoice_37 (by decide) ?_
      refine va_callv (va_runV (As := [.int 58]) (rest := []) ⟨hx, hb, hml, hown, hwd⟩ (c_X3_take l dC dI g c adK adV v4274 F4275 nr H.size 58 hg hnr hI ) (cwV 1 hwd (gV wk_886 wk_883 wk_884 wk_885 wk_38) rfl rfl rfl (by decide +kernel) ⟨Nat.le_of_ble_eq_true rfl, Nat.le_of_ble_eq_true rfl⟩) ⟨PX.blind, va_recv hK hP (ci := 3) (q0 := 7) rfl rfl, fun U hU hW => ⟨rfl, PX.at hK hE hP hS hU hW⟩⟩ rfl rfl hl.1 rfl (lv_room (Nat.le_of_ble_eq_true rfl)) dX3_readChoice_39 ⟨Nat.le_of_ble_eq_true rfl, Nat.le_of_ble_eq_true rfl⟩) hS (fun q _ h => (freeX hS) q h) (freeX hS) (fun u t H1 locs ht hvm hw hB hz1 hk1 hS => ?_)
      unfold BX at hB
      rw [ht] at hB
      obtain ⟨v4278, F4279, rc9⟩ := u
      obtain ⟨hI, hal9, hrc, hf4280, hw⟩ := hw
      dsimp only at hI hal9 hrc hB hf4280 hw
      rw [hrc] at hB
      have hal := hal9.trans hal
      have hP : va_P (dC, dI) classes (wX g c v4278 F4279 (g (44 + nr))) H1 := hB
      generalize H1 = H at hP hS ⊢
      refine lv_aload_n hx hb dX3_readChoice_42 rfl (lv_at hl 1 rfl) ?_
      refine lv_iconst (v := 3) hx hb dX3_readChoice_43 (by decide) ?_
      refine lv_iconst (v := 0) hx hb dX3_readChoice_44 (by decide) ?_
      refine va_calli (va_runV (As := [.int 3, .int 0]) (rest := []) ⟨hx, hb, hml, hown, hwd⟩ (c_X3_put l dC dI g c adK adV v4278 F4279 nr H.size 3 0 hg hnr hI (by have : (3 : Int32).toInt = 3 := (by decide); omega) (by have : (0 : Int32).toInt = 0 := (by decide); omega)) (cwV 2 hwd (gV wk_882 wk_879 wk_880 wk_881 wk_38) rfl rfl rfl (by decide +kernel) ⟨Nat.le_of_ble_eq_true rfl, Nat.le_of_ble_eq_true rfl⟩) ⟨PX.blind, va_recv hK hP (ci := 3) (q0 := 7) rfl rfl, fun U hU hW => ⟨rfl, PX.at hK hE hP hS hU hW⟩⟩ rfl rfl hl.1 rfl (lv_room (Nat.le_of_ble_eq_true rfl)) dX3_readChoice_45 ⟨Nat.le_of_ble_eq_true rfl, Nat.le_of_ble_eq_true rfl⟩) hS (fun q _ h => (freeX hS) q h) (freeX hS) (fun r4281 u t H1 locs ht hvm hw hB hz1 hk1 hS => ?_)
      unfold BX at hB
      rw [ht] at hB
      obtain ⟨v4282, F4283, rc9⟩ := u
      obtain ⟨hI, hal9, hrc, hf4284, hw⟩ := hw
      dsimp only at hI hal9 hrc hB hf4284 hw
      rw [hrc] at hB
      have hal := hal9.trans hal
      have hP : va_P (dC, dI) classes (wX g c v4282 F4283 (g (44 + nr))) H1 := hB
      have hw : -1 ≤ r4281.toInt ∧ r4281.toInt ≤ 119 := hw
      have k4285 : (3 : Int32).toInt = 3 := by decide
      have k4286 : (0 : Int32).toInt = 0 := by decide
      generalize H1 = H at hP hS ⊢
      have hw_r4281 := hw
      refine lv_istore_n (lv' := [(3, .int r4281), (2, .int r4267), (0, .ref (g 7)), (1, .int 7)]) hx hb dX3_readChoice_48 rfl hl (by decide) rfl (fun ls hl => ?_)
      refine lv_aload_n hx hb dX3_readChoice_49 rfl (lv_at hl 2 rfl) ?_
      refine lv_iload_n hx hb dX3_readChoice_50 rfl (lv_at hl 1 rfl) ?_
      refine va_callv (va_runV (As := [.int r4267]) (rest := []) ⟨hx, hb, hml, hown, hwd⟩ (c_X3_leadHere l dC dI g c adK adV v4282 F4283 nr H.size r4267 hg hnr hI ) (cwV 1 hwd (gV wk_890 wk_887 wk_888 wk_889 wk_38) rfl rfl rfl (by decide +kernel) ⟨Nat.le_of_ble_eq_true rfl, Nat.le_of_ble_eq_true rfl⟩) ⟨PX.blind, va_recv hK hP (ci := 3) (q0 := 7) rfl rfl, fun U hU hW => ⟨rfl, PX.at hK hE hP hS hU hW⟩⟩ rfl rfl hl.1 rfl (lv_room (Nat.le_of_ble_eq_true rfl)) dX3_readChoice_51 ⟨Nat.le_of_ble_eq_true rfl, Nat.le_of_ble_eq_true rfl⟩) hS (fun q _ h => (freeX hS) q h) (freeX hS) (fun u t H1 locs ht hvm hw hB hz1 hk1 hS => ?_)
      unfold BX at hB
      rw [ht] at hB
      obtain ⟨v4288, F4289, rc9⟩ := u
      obtain ⟨hI, hal9, hrc, hf4290, hw⟩ := hw
      dsimp only at hI hal9 hrc hB hf4290 hw
      rw [hrc] at hB
      have hal := hal9.trans hal
      have hP : va_P (dC, dI) classes (wX g c v4288 F4289 (g (44 + nr))) H1 := hB
      generalize H1 = H at hP hS ⊢
      refine lv_aload_n hx hb dX3_readChoice_54 rfl (lv_at hl 2 rfl) ?_
      refine lv_iload_n hx hb dX3_readChoice_55 rfl (lv_at hl 3 rfl) ?_
      refine lv_iconst (v := 1) hx hb dX3_readChoice_56 (by decide) ?_
      refine lv_iadd hx hb dX3_readChoice_57 ?_
      refine my_top (v := 8) (by decide) ?_
      refine va_callv (va_runV (As := [.int 8]) (rest := []) ⟨hx, hb, hml, hown, hwd⟩ (c_X3_readChoice_8 l dC dI g c adK adV v4288 F4289 nr H.size  hg hnr hI ) (cwV 1 hwd (gV wk_859 wk_856 wk_857 wk_858 wk_38) rfl rfl rfl (by decide +kernel) ⟨Nat.le_of_ble_eq_true rfl, Nat.le_of_ble_eq_true rfl⟩) ⟨PX.blind, va_recv hK hP (ci := 3) (q0 := 7) rfl rfl, fun U hU hW => ⟨rfl, PX.at hK hE hP hS hU hW⟩⟩ rfl rfl hl.1 rfl (lv_room (Nat.le_of_ble_eq_true rfl)) dX3_readChoice_58 ⟨Nat.le_of_ble_eq_true rfl, Nat.le_of_ble_eq_true rfl⟩) hS (fun q _ h => (freeX hS) q h) (freeX hS) (fun u t H1 locs ht hvm hw hB hz1 hk1 hS => ?_)
      unfold BX at hB
      rw [ht] at hB
      obtain ⟨v4292, F4293, rc9⟩ := u
      obtain ⟨hI, hal9, hrc, hf4294, hw⟩ := hw
      dsimp only at hI hal9 hrc hB hf4294 hw
      rw [hrc] at hB
      have hal := hal9.trans hal
      have hP : va_P (dC, dI) classes (wX g c v4292 F4293 (g (44 + nr))) H1 := hB
      generalize H1 = H at hP hS ⊢
      refine lv_aload_n hx hb dX3_readChoice_61 rfl (lv_at hl 2 rfl) ?_
      refine lv_iload_n hx hb dX3_readChoice_62 rfl (lv_at hl 0 rfl) ?_
      refine va_callv (va_runV (As := [.int r4281]) (rest := []) ⟨hx, hb, hml, hown, hwd⟩ (c_X3_leadHere l dC dI g c adK adV v4292 F4293 nr H.size r4281 hg hnr hI ) (cwV 1 hwd (gV wk_890 wk_887 wk_888 wk_889 wk_38) rfl rfl rfl (by decide +kernel) ⟨Nat.le_of_ble_eq_true rfl, Nat.le_of_ble_eq_true rfl⟩) ⟨PX.blind, va_recv hK hP (ci := 3) (q0 := 7) rfl rfl, fun U hU hW => ⟨rfl, PX.at hK hE hP hS hU hW⟩⟩ rfl rfl hl.1 rfl (lv_room (Nat.le_of_ble_eq_true rfl)) dX3_readChoice_63 ⟨Nat.le_of_ble_eq_true rfl, Nat.le_of_ble_eq_true rfl⟩) hS (fun q _ h => (freeX hS) q h) (freeX hS) (fun u t H1 locs ht hvm hw hB hz1 hk1 hS => ?_)
      unfold BX at hB
      rw [ht] at hB
      obtain ⟨v4296, F4297, rc9⟩ := u
      obtain ⟨hI, hal9, hrc, hf4298, hw⟩ := hw
      dsimp only at hI hal9 hrc hB hf4298 hw
      rw [hrc] at hB
      have hal := hal9.trans hal
      have hP : va_P (dC, dI) classes (wX g c v4296 F4297 (g (44 + nr))) H1 := hB
      generalize H1 = H at hP hS ⊢
      have hP9 : va_P (dC, dI) classes (wX g c v4296 F4297 (g (44 + nr))) H := hP
      exact W.vret hx hb hr (fun t ht hW => ⟨⟨(v4296, F4297, (g (44 + nr))), rfl, ⟨hI, hal, rfl, (frC (by decide) hf4298 (frC (by decide) hf4294 (frC (by decide) hf4290 (frC (by decide) hf4284 (frC (by decide) hf4280 (frC (by decide) hf4276 (frC (by decide) hf4270 (frC (by decide) hf4262 (frC (by decide) hf4254 (fun _ _ => rfl)))))))))), trivial⟩, (by show va_P _ _ _ t.heap; rw [ht]; exact hP9)⟩, hS.F ht⟩) hS.2.2 dX3_readChoice_66
