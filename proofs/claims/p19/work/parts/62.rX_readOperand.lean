set_option maxHeartbeats 8000000 in
set_option maxRecDepth 100000 in
theorem c_X3_readOperand (D : Int) (fr lc : Nat) (rO : RPX 0 yX3_readOperand (Cond.code yX3_readOperand cX3_readOperand 3 none) (D + 1) fr lc) (rC : RPX 6 yX3_readChoice (Cond.code yX3_readChoice cX3_readChoice 4 none) (D + 1) (fr + 4) (lc + 160)) (l : Launch) (dC : Nat → ClassId) (dI : Nat → Nat → Nat) (g : Nat → Nat) (c : Nat → ClassId) (adK adV : Nat → Nat) (v : Nat → Int32) (F : Nat → Nat → Int32) (nr sz : Nat) (p0 : Int32) (hg : injX g) (hnr : nr < 10) (hI : IX v F) (hs : (0 ≤ (v 143).toInt ∧ (v 143).toInt ≤ (v 100).toInt) ∧ ((v 144).toInt = -1 ∨ 0 ≤ (v 144).toInt)) (hq : p0.toInt = D ∧ D ≤ 8 ∧ 0 ≤ p0.toInt) : Met l yX3_readOperand (Cond.code yX3_readOperand cX3_readOperand 3 none :: wA) ({ frames := fr + 6, cells := 0, slots := 0, locals := lc + 240 }) (va_Pc [.ref (g 7), .int p0] (PX dC dI g c adK adV v F (g (44 + nr)) sz)) (va_Qv (fun (u : StX) => IX u.1 u.2.1 ∧ alX u.1 u.2.1 = alX v F ∧ u.2.2 = (g (44 + nr)) ∧ (∀ k, k ∉ ([142, 143, 144] : List Nat) → u.1 k = v k) ∧ (((0 ≤ (v 144).toInt ∧ (u.1 144).toInt = (v 144).toInt ∧ (u.1 143).toInt = (v 143).toInt) ∨ ((v 144).toInt = -1 ∧ (v 143).toInt ≤ (u.1 143).toInt ∧ (u.1 143).toInt ≤ (v 100).toInt ∧ ((u.1 144).toInt = -1 ∨ (u.1 144).toInt = (u.1 143).toInt))) ∧ rdX (v 100) (F 39) 0 p0.toInt (v 144).toInt (v 143).toInt (u.1 144).toInt (u.1 143).toInt)) (BX dC dI g c) (AX g sz)) 0 0 (AX g sz) := by
  refine Met.ofW (cc := cX3_readOperand) (maxL := 3) (ret := none) (by decide) rfl ?_
  intro p e s m args below meth c0 s₁ B hml hv
  obtain ⟨rfl, hsz, hP, hK, hE⟩ := hv
  have hx := B.exec
  have hb := B.bytes
  have hr := B.returns
  have hts := atoms_spec (ws := Cond.code yX3_readOperand cX3_readOperand 3 none :: wA) B.pre
  have hwd : ∀ w ∈ wA, w.before _ s = true := fun w h => hts w (List.mem_cons_of_mem _ h)
  have hown : s.vm.findClass RX3 = some m.cls := findClass_of_methodNamed B.named
  have hlocks := B.notSynchronized
  subst hsz
  have hl := lv_entry ([.ref (g 7), .int p0]) (n := 3) (Nat.le_of_ble_eq_true rfl)
  rw [lg_entry_eq]
  generalize (lg_sl ([.ref (g 7), .int p0]) ++ List.replicate (3 - (lg_sl ([.ref (g 7), .int p0])).length) Slot.unset).toArray = ls at hl ⊢
  have hl : lv_has ls 3 [(0, .ref (g 7)), (1, .int p0)] := hl
  obtain ⟨H, eH⟩ : ∃ z, z = s.heap := ⟨_, rfl⟩
  have hP : va_P (dC, dI) classes (wX g c v F (g (44 + nr))) H := by rw [eH]; exact hP
  have hS : va_S (AX g s.heap.size) s.heap H [] := by rw [eH]; exact va_S.rf
  refine my_heap eH ?_
  have hal : alX v F = alX v F := rfl
  have rp0 := i32_rng p0
  have hb100 : 0 ≤ (v 100).toInt ∧ (v 100).toInt ≤ 120 := hI.1 100 _ _ rfl
  refine lv_aload_n hx hb dX3_readOperand_0 rfl (lv_at hl 0 rfl) ?_
  have t3411 : 0 ≤ (v 100).toInt ∧ (v 100).toInt ≤ 120 := hI.1 100 _ _ rfl
  refine va_calli (va_runV (As := []) (rest := []) ⟨hx, hb, hml, hown, hwd⟩ (c_X3_next l dC dI g c adK adV v F nr H.size  hg hnr hI (by have h9 : v 143 = v 143 := rfl; (try rw [h9]); clear h9; have h9 : v 100 = v 100 := rfl; (try rw [h9]); clear h9; have h9 : v 144 = v 144 := rfl; (try rw [h9]); clear h9; omega)) (cwV 0 hwd (gV wk_866 wk_863 wk_864 wk_865 wk_38) rfl rfl rfl (by decide +kernel) ⟨(by show 2 + 1 ≤ fr + 6; omega), (by show 8 + (1 + 11) + (80) ≤ lc + 240; omega)⟩) ⟨PX.blind, va_recv hK hP (ci := 3) (q0 := 7) rfl rfl, fun U hU hW => ⟨rfl, PX.at hK hE hP hS hU hW⟩⟩ rfl rfl hl.1 rfl (lv_room (Nat.le_of_ble_eq_true rfl)) dX3_readOperand_1 ⟨Nat.le_of_ble_eq_true rfl, Nat.le_of_ble_eq_true rfl⟩) hS (fun q _ h => (freeX hS) q h) (freeX hS) (fun r3412 u t H1 locs ht hvm hw hB hz1 hk1 hS => ?_)
  unfold BX at hB
  rw [ht] at hB
  have hP : va_P (dC, dI) classes (wX g c v F (g (44 + nr))) H1 := hB
  replace hw : (0 ≤ (v 144).toInt ∧ r3412.toInt = -1) ∨ ((v 144).toInt = -1 ∧ r3412.toInt = sg (v 100) (F 39) (v 143).toInt ∧ (-1 ≤ r3412.toInt ∧ r3412.toInt ≤ 255) ∧ (r3412.toInt = -1 ∨ (v 143).toInt < (v 100).toInt)) := hw
  have hw_r3412 := hw
  clear hw
  generalize H1 = H at hP hS ⊢
  have rr_r3412 := i32_rng r3412
  refine lv_istore_n (lv' := [(2, .int r3412), (0, .ref (g 7)), (1, .int p0)]) hx hb dX3_readOperand_4 rfl hl (by decide) rfl (fun ls hl => ?_)
  refine lv_iload_n hx hb dX3_readOperand_5 rfl (lv_at hl 0 rfl) ?_
  refine lv_bipush (v := 45) hx hb dX3_readOperand_6 (by decide) ?_
  refine lv_icmp_ne (tgt := 36) hx hb dX3_readOperand_8 (by decide) (fun c3413 => ?_) (fun c3413 => ?_)
  · skip
    have t3414 := cv_ne (a := r3412.toInt) rfl (b := 45) (by decide) c3413
    refine lv_iload_n hx hb dX3_readOperand_36 rfl (lv_at hl 0 rfl) ?_
    refine lv_bipush (v := 40) hx hb dX3_readOperand_37 (by decide) ?_
    refine lv_icmp_ne (tgt := 66) hx hb dX3_readOperand_39 (by decide) (fun c3415 => ?_) (fun c3415 => ?_)
    · skip
      have t3416 := cv_ne (a := r3412.toInt) rfl (b := 40) (by decide) c3415
      refine lv_aload_n hx hb dX3_readOperand_66 rfl (lv_at hl 1 rfl) ?_
      refine lv_iload_n hx hb dX3_readOperand_67 rfl (lv_at hl 0 rfl) ?_
      have t3417 : 0 ≤ (v 100).toInt ∧ (v 100).toInt ≤ 120 := hI.1 100 _ _ rfl
      refine va_callv (va_runV (As := [.int r3412]) (rest := []) ⟨hx, hb, hml, hown, hwd⟩ (c_X3_readNumberOrName l dC dI g c adK adV v F nr H.size r3412 hg hnr hI (by have h9 : v 143 = v 143 := rfl; (try rw [h9]); clear h9; have h9 : v 100 = v 100 := rfl; (try rw [h9]); clear h9; have h9 : v 144 = v 144 := rfl; (try rw [h9]); clear h9; omega) hw_r3412) (cwV 1 hwd (gV wk_902 wk_899 wk_900 wk_901 wk_38) rfl rfl rfl (by decide +kernel) ⟨(by show 5 + 1 ≤ fr + 6; omega), (by show 8 + (4 + 11) + (200) ≤ lc + 240; omega)⟩) ⟨PX.blind, va_recv hK hP (ci := 3) (q0 := 7) rfl rfl, fun U hU hW => ⟨rfl, PX.at hK hE hP hS hU hW⟩⟩ rfl rfl hl.1 rfl (lv_room (Nat.le_of_ble_eq_true rfl)) dX3_readOperand_68 ⟨Nat.le_of_ble_eq_true rfl, Nat.le_of_ble_eq_true rfl⟩) hS (fun q _ h => (freeX hS) q h) (freeX hS) (fun u t H1 locs ht hvm hw hB hz1 hk1 hS => ?_)
      unfold BX at hB
      rw [ht] at hB
      obtain ⟨v3419, F3420, rc9⟩ := u
      obtain ⟨hI, hal9, hrc, hf3421, hw⟩ := hw
      dsimp only at hI hal9 hrc hB hf3421 hw
      rw [hrc] at hB
      have hal := hal9.trans hal
      have hP : va_P (dC, dI) classes (wX g c v3419 F3420 (g (44 + nr))) H1 := hB
      replace hw : ((0 ≤ (v 144).toInt ∧ (v3419 144).toInt = (v 144).toInt ∧ (v3419 143).toInt = (v 143).toInt) ∨ ((v 144).toInt = -1 ∧ (v 143).toInt ≤ (v3419 143).toInt ∧ (v3419 143).toInt ≤ (v 100).toInt ∧ ((v3419 144).toInt = -1 ∨ (v3419 144).toInt = (v3419 143).toInt))) ∧ nmx (v 100) (F 39) r3412.toInt (v 144).toInt (v 143).toInt (v3419 144).toInt (v3419 143).toInt := hw
      have hw_r3418 := hw
      clear hw
      generalize H1 = H at hP hS ⊢
      have hP9 : va_P (dC, dI) classes (wX g c v3419 F3420 (g (44 + nr))) H := hP
      exact W.vret hx hb hr (fun t ht hW => ⟨⟨(v3419, F3420, (g (44 + nr))), rfl, ⟨hI, hal, rfl, (frC (by decide) hf3421 (fun _ _ => rfl)), (by show ((0 ≤ (v 144).toInt ∧ (v3419 144).toInt = (v 144).toInt ∧ (v3419 143).toInt = (v 143).toInt) ∨ ((v 144).toInt = -1 ∧ (v 143).toInt ≤ (v3419 143).toInt ∧ (v3419 143).toInt ≤ (v 100).toInt ∧ ((v3419 144).toInt = -1 ∨ (v3419 144).toInt = (v3419 143).toInt))) ∧ rdX (v 100) (F 39) 0 p0.toInt (v 144).toInt (v 143).toInt (v3419 144).toInt (v3419 143).toInt; refine ⟨by omega, fun hf => ?_⟩; exact hw_r3418.2 (by omega) (by omega) (by omega) _)⟩, (by show va_P _ _ _ t.heap; rw [ht]; exact hP9)⟩, hS.F ht⟩) hS.2.2 dX3_readOperand_71
    · skip
      have t3422 := cv_eq (a := r3412.toInt) rfl (b := 40) (by decide) c3415
      refine lv_aload_n hx hb dX3_readOperand_42 rfl (lv_at hl 1 rfl) ?_
      refine lv_iload_n hx hb dX3_readOperand_43 rfl (lv_at hl 2 rfl) ?_
      refine va_calli (va_runV (As := [.int p0]) (rest := []) ⟨hx, hb, hml, hown, hwd⟩ (c_X3_opens l dC dI g c adK adV v F nr H.size p0 hg hnr hI (by have h9 : v 143 = v 143 := rfl; (try rw [h9]); clear h9; have h9 : v 100 = v 100 := rfl; (try rw [h9]); clear h9; have h9 : v 144 = v 144 := rfl; (try rw [h9]); clear h9; omega)) (cwV 1 hwd (gV wk_874 wk_871 wk_872 wk_873 wk_38) rfl rfl rfl (by decide +kernel) ⟨(by show 2 + 1 ≤ fr + 6; omega), (by show 8 + (2 + 11) + (80) ≤ lc + 240; omega)⟩) ⟨PX.blind, va_recv hK hP (ci := 3) (q0 := 7) rfl rfl, fun U hU hW => ⟨rfl, PX.at hK hE hP hS hU hW⟩⟩ rfl rfl hl.1 rfl (lv_room (Nat.le_of_ble_eq_true rfl)) dX3_readOperand_44 ⟨Nat.le_of_ble_eq_true rfl, Nat.le_of_ble_eq_true rfl⟩) hS (fun q _ h => (freeX hS) q h) (freeX hS) (fun r3423 u t H1 locs ht hvm hw hB hz1 hk1 hS => ?_)
      unfold BX at hB
      rw [ht] at hB
      obtain ⟨v3424, F3425, rc9⟩ := u
      obtain ⟨hI, hal9, hrc, hf3426, hw⟩ := hw
      dsimp only at hI hal9 hrc hB hf3426 hw
      rw [hrc] at hB
      have hal := hal9.trans hal
      have hP : va_P (dC, dI) classes (wX g c v3424 F3425 (g (44 + nr))) H1 := hB
      replace hw : (r3423.toInt = 1 ∧ p0.toInt < 8 ∧ (v3424 143).toInt = (v 143).toInt + 1 ∧ (v3424 144).toInt = (v 144).toInt) ∨ (r3423.toInt = 0 ∧ 8 ≤ p0.toInt ∧ (v3424 143).toInt = (v 143).toInt ∧ ((0 ≤ (v 144).toInt ∧ (v3424 144).toInt = (v 144).toInt) ∨ ((v 144).toInt = -1 ∧ (v3424 144).toInt = (v 143).toInt))) := hw
      have hw_r3423 := hw
      clear hw
      generalize H1 = H at hP hS ⊢
      have rr_r3423 := i32_rng r3423
      refine lv_if_eq (tgt := 71) hx hb dX3_readOperand_47 (by decide) (fun c3427 => ?_) (fun c3427 => ?_)
      · skip
        have t3428 := cv_eq (a := r3423.toInt) rfl (b := 0) (by decide) c3427
        have hP9 : va_P (dC, dI) classes (wX g c v3424 F3425 (g (44 + nr))) H := hP
        exact W.vret hx hb hr (fun t ht hW => ⟨⟨(v3424, F3425, (g (44 + nr))), rfl, ⟨hI, hal, rfl, (frC (by decide) hf3426 (fun _ _ => rfl)), (by show ((0 ≤ (v 144).toInt ∧ (v3424 144).toInt = (v 144).toInt ∧ (v3424 143).toInt = (v 143).toInt) ∨ ((v 144).toInt = -1 ∧ (v 143).toInt ≤ (v3424 143).toInt ∧ (v3424 143).toInt ≤ (v 100).toInt ∧ ((v3424 144).toInt = -1 ∨ (v3424 144).toInt = (v3424 143).toInt))) ∧ rdX (v 100) (F 39) 0 p0.toInt (v 144).toInt (v 143).toInt (v3424 144).toInt (v3424 143).toInt; refine ⟨by omega, fun hf => ?_⟩; exact rd.deep (by omega) (by omega) (by omega) (by omega) (by omega))⟩, (by show va_P _ _ _ t.heap; rw [ht]; exact hP9)⟩, hS.F ht⟩) hS.2.2 dX3_readOperand_71
      · skip
        have t3429 := cv_ne (a := r3423.toInt) rfl (b := 0) (by decide) c3427
        refine lv_aload_n hx hb dX3_readOperand_50 rfl (lv_at hl 1 rfl) ?_
        refine lv_iload_n hx hb dX3_readOperand_51 rfl (lv_at hl 2 rfl) ?_
        refine lv_iconst (v := 1) hx hb dX3_readOperand_52 (by decide) ?_
        refine lv_iadd hx hb dX3_readOperand_53 ?_
        refine lv_topi (fun z3430 e3431 => ?_)
        try (have t3432 := tadd e3431 (a := p0.toInt) rfl (b := 1) (by decide) (by omega))
        have t3433 : 0 ≤ (v 100).toInt ∧ (v 100).toInt ≤ 120 := by have h9 := hI.1 100 _ _ rfl; rw [show v3424 100 = v 100 from hf3426 100 (by decide)] at h9; exact h9
        have hby39 : F3425 39 = F 39 := congrArg (fun t : ALX => t.2.2.2.2.2.2.1) hal
        refine va_callv (va_runV (As := [.int z3430]) (rest := []) ⟨hx, hb, hml, hown, hwd⟩ (rC l dC dI g c adK adV v3424 F3425 nr H.size z3430 hg hnr hI (by have h9 : v3424 143 = v3424 143 := rfl; (try rw [h9]); clear h9; have h9 : v3424 100 = v 100 := hf3426 100 (by decide); (try rw [h9]); clear h9; have h9 : v3424 144 = v3424 144 := rfl; (try rw [h9]); clear h9; omega) (by omega)) (cwV 1 hwd (gV wk_859 wk_856 wk_857 wk_858 wk_38) rfl rfl rfl (by decide +kernel) ⟨(by show fr + 4 + 1 ≤ fr + 6; omega), (by show 8 + (4 + 11) + (lc + 160) ≤ lc + 240; omega)⟩) ⟨PX.blind, va_recv hK hP (ci := 3) (q0 := 7) rfl rfl, fun U hU hW => ⟨rfl, PX.at hK hE hP hS hU hW⟩⟩ rfl rfl hl.1 rfl (lv_room (Nat.le_of_ble_eq_true rfl)) dX3_readOperand_54 ⟨Nat.le_of_ble_eq_true rfl, Nat.le_of_ble_eq_true rfl⟩) hS (fun q _ h => (freeX hS) q h) (freeX hS) (fun u t H1 locs ht hvm hw hB hz1 hk1 hS => ?_)
        unfold BX at hB
        rw [ht] at hB
        obtain ⟨v3435, F3436, rc9⟩ := u
        obtain ⟨hI, hal9, hrc, hf3437, hw⟩ := hw
        dsimp only at hI hal9 hrc hB hf3437 hw
        rw [hrc] at hB
        have hal := hal9.trans hal
        have hP : va_P (dC, dI) classes (wX g c v3435 F3436 (g (44 + nr))) H1 := hB
        replace hw : ((0 ≤ (v3424 144).toInt ∧ (v3435 144).toInt = (v3424 144).toInt ∧ (v3435 143).toInt = (v3424 143).toInt) ∨ ((v3424 144).toInt = -1 ∧ (v3424 143).toInt ≤ (v3435 143).toInt ∧ (v3435 143).toInt ≤ (v3424 100).toInt ∧ ((v3435 144).toInt = -1 ∨ (v3435 144).toInt = (v3435 143).toInt))) ∧ rdX (v3424 100) (F3425 39) 6 z3430.toInt (v3424 144).toInt (v3424 143).toInt (v3435 144).toInt (v3435 143).toInt := hw
        rw [show v3424 100 = v 100 from hf3426 100 (by decide)] at hw
        rw [hby39] at hw
        have hw_r3434 := hw
        clear hw
        generalize H1 = H at hP hS ⊢
        refine lv_aload_n hx hb dX3_readOperand_57 rfl (lv_at hl 1 rfl) ?_
        refine lv_bipush (v := 41) hx hb dX3_readOperand_58 (by decide) ?_
        have t3438 : 0 ≤ (v 100).toInt ∧ (v 100).toInt ≤ 120 := by have h9 := hI.1 100 _ _ rfl; rw [show v3435 100 = v 100 from (hf3437 100 (by decide)).trans (hf3426 100 (by decide))] at h9; exact h9
        have hby39 : F3436 39 = F 39 := congrArg (fun t : ALX => t.2.2.2.2.2.2.1) hal
        refine va_callv (va_runV (As := [.int 41]) (rest := []) ⟨hx, hb, hml, hown, hwd⟩ (c_X3_take l dC dI g c adK adV v3435 F3436 nr H.size 41 hg hnr hI (by have : (41 : Int32).toInt = 41 := (by decide); omega) (by have h9 : v3435 143 = v3435 143 := rfl; (try rw [h9]); clear h9; have h9 : v3435 100 = v 100 := (hf3437 100 (by decide)).trans (hf3426 100 (by decide)); (try rw [h9]); clear h9; have h9 : v3435 144 = v3435 144 := rfl; (try rw [h9]); clear h9; omega)) (cwV 1 hwd (gV wk_886 wk_883 wk_884 wk_885 wk_38) rfl rfl rfl (by decide +kernel) ⟨(by show 3 + 1 ≤ fr + 6; omega), (by show 8 + (2 + 11) + (120) ≤ lc + 240; omega)⟩) ⟨PX.blind, va_recv hK hP (ci := 3) (q0 := 7) rfl rfl, fun U hU hW => ⟨rfl, PX.at hK hE hP hS hU hW⟩⟩ rfl rfl hl.1 rfl (lv_room (Nat.le_of_ble_eq_true rfl)) dX3_readOperand_60 ⟨Nat.le_of_ble_eq_true rfl, Nat.le_of_ble_eq_true rfl⟩) hS (fun q _ h => (freeX hS) q h) (freeX hS) (fun u t H1 locs ht hvm hw hB hz1 hk1 hS => ?_)
        unfold BX at hB
        rw [ht] at hB
        obtain ⟨v3440, F3441, rc9⟩ := u
        obtain ⟨hI, hal9, hrc, hf3442, hw⟩ := hw
        dsimp only at hI hal9 hrc hB hf3442 hw
        rw [hrc] at hB
        have hal := hal9.trans hal
        have hP : va_P (dC, dI) classes (wX g c v3440 F3441 (g (44 + nr))) H1 := hB
        replace hw : (0 ≤ (v3435 144).toInt ∧ (v3440 144).toInt = (v3435 144).toInt ∧ (v3440 143).toInt = (v3435 143).toInt) ∨ ((v3435 144).toInt = -1 ∧ sg (v3435 100) (F3436 39) (v3435 143).toInt = (41 : Int32).toInt ∧ (v3440 144).toInt = -1 ∧ (v3440 143).toInt = (v3435 143).toInt + 1 ∧ (v3435 143).toInt < (v3435 100).toInt) ∨ ((v3435 144).toInt = -1 ∧ ¬ sg (v3435 100) (F3436 39) (v3435 143).toInt = (41 : Int32).toInt ∧ (v3440 144).toInt = (v3435 143).toInt ∧ (v3440 143).toInt = (v3435 143).toInt) := hw
        rw [show v3435 100 = v 100 from (hf3437 100 (by decide)).trans (hf3426 100 (by decide))] at hw
        rw [hby39] at hw
        have hw_r3439 := hw
        clear hw
        have k3443 : (41 : Int32).toInt = 41 := by decide
        generalize H1 = H at hP hS ⊢
        refine lv_goto (tgt := 71) hx hb dX3_readOperand_63 (by decide) ?_
        have hP9 : va_P (dC, dI) classes (wX g c v3440 F3441 (g (44 + nr))) H := hP
        exact W.vret hx hb hr (fun t ht hW => ⟨⟨(v3440, F3441, (g (44 + nr))), rfl, ⟨hI, hal, rfl, (frC (by decide) hf3442 (frC (by decide) hf3437 (frC (by decide) hf3426 (fun _ _ => rfl)))), (by show ((0 ≤ (v 144).toInt ∧ (v3440 144).toInt = (v 144).toInt ∧ (v3440 143).toInt = (v 143).toInt) ∨ ((v 144).toInt = -1 ∧ (v 143).toInt ≤ (v3440 143).toInt ∧ (v3440 143).toInt ≤ (v 100).toInt ∧ ((v3440 144).toInt = -1 ∨ (v3440 144).toInt = (v3440 143).toInt))) ∧ rdX (v 100) (F 39) 0 p0.toInt (v 144).toInt (v 143).toInt (v3440 144).toInt (v3440 143).toInt; refine ⟨by omega, fun hf => ?_⟩; exact rd.par (by omega) (by omega) (by omega) (by omega) (by omega) (hw_r3434.2 (by omega)) (by omega))⟩, (by show va_P _ _ _ t.heap; rw [ht]; exact hP9)⟩, hS.F ht⟩) hS.2.2 dX3_readOperand_71
  · skip
    have t3444 := cv_eq (a := r3412.toInt) rfl (b := 45) (by decide) c3413
    refine lv_aload_n hx hb dX3_readOperand_11 rfl (lv_at hl 1 rfl) ?_
    refine lv_iload_n hx hb dX3_readOperand_12 rfl (lv_at hl 2 rfl) ?_
    refine va_calli (va_runV (As := [.int p0]) (rest := []) ⟨hx, hb, hml, hown, hwd⟩ (c_X3_opens l dC dI g c adK adV v F nr H.size p0 hg hnr hI (by have h9 : v 143 = v 143 := rfl; (try rw [h9]); clear h9; have h9 : v 100 = v 100 := rfl; (try rw [h9]); clear h9; have h9 : v 144 = v 144 := rfl; (try rw [h9]); clear h9; omega)) (cwV 1 hwd (gV wk_874 wk_871 wk_872 wk_873 wk_38) rfl rfl rfl (by decide +kernel) ⟨(by show 2 + 1 ≤ fr + 6; omega), (by show 8 + (2 + 11) + (80) ≤ lc + 240; omega)⟩) ⟨PX.blind, va_recv hK hP (ci := 3) (q0 := 7) rfl rfl, fun U hU hW => ⟨rfl, PX.at hK hE hP hS hU hW⟩⟩ rfl rfl hl.1 rfl (lv_room (Nat.le_of_ble_eq_true rfl)) dX3_readOperand_13 ⟨Nat.le_of_ble_eq_true rfl, Nat.le_of_ble_eq_true rfl⟩) hS (fun q _ h => (freeX hS) q h) (freeX hS) (fun r3445 u t H1 locs ht hvm hw hB hz1 hk1 hS => ?_)
    unfold BX at hB
    rw [ht] at hB
    obtain ⟨v3446, F3447, rc9⟩ := u
    obtain ⟨hI, hal9, hrc, hf3448, hw⟩ := hw
    dsimp only at hI hal9 hrc hB hf3448 hw
    rw [hrc] at hB
    have hal := hal9.trans hal
    have hP : va_P (dC, dI) classes (wX g c v3446 F3447 (g (44 + nr))) H1 := hB
    replace hw : (r3445.toInt = 1 ∧ p0.toInt < 8 ∧ (v3446 143).toInt = (v 143).toInt + 1 ∧ (v3446 144).toInt = (v 144).toInt) ∨ (r3445.toInt = 0 ∧ 8 ≤ p0.toInt ∧ (v3446 143).toInt = (v 143).toInt ∧ ((0 ≤ (v 144).toInt ∧ (v3446 144).toInt = (v 144).toInt) ∨ ((v 144).toInt = -1 ∧ (v3446 144).toInt = (v 143).toInt))) := hw
    have hw_r3445 := hw
    clear hw
    generalize H1 = H at hP hS ⊢
    have rr_r3445 := i32_rng r3445
    refine lv_if_eq (tgt := 71) hx hb dX3_readOperand_16 (by decide) (fun c3449 => ?_) (fun c3449 => ?_)
    · skip
      have t3450 := cv_eq (a := r3445.toInt) rfl (b := 0) (by decide) c3449
      have hP9 : va_P (dC, dI) classes (wX g c v3446 F3447 (g (44 + nr))) H := hP
      exact W.vret hx hb hr (fun t ht hW => ⟨⟨(v3446, F3447, (g (44 + nr))), rfl, ⟨hI, hal, rfl, (frC (by decide) hf3448 (fun _ _ => rfl)), (by show ((0 ≤ (v 144).toInt ∧ (v3446 144).toInt = (v 144).toInt ∧ (v3446 143).toInt = (v 143).toInt) ∨ ((v 144).toInt = -1 ∧ (v 143).toInt ≤ (v3446 143).toInt ∧ (v3446 143).toInt ≤ (v 100).toInt ∧ ((v3446 144).toInt = -1 ∨ (v3446 144).toInt = (v3446 143).toInt))) ∧ rdX (v 100) (F 39) 0 p0.toInt (v 144).toInt (v 143).toInt (v3446 144).toInt (v3446 143).toInt; refine ⟨by omega, fun hf => ?_⟩; exact rd.deep (by omega) (by omega) (by omega) (by omega) (by omega))⟩, (by show va_P _ _ _ t.heap; rw [ht]; exact hP9)⟩, hS.F ht⟩) hS.2.2 dX3_readOperand_71
    · skip
      have t3451 := cv_ne (a := r3445.toInt) rfl (b := 0) (by decide) c3449
      refine lv_aload_n hx hb dX3_readOperand_19 rfl (lv_at hl 1 rfl) ?_
      refine lv_iload_n hx hb dX3_readOperand_20 rfl (lv_at hl 2 rfl) ?_
      refine lv_iconst (v := 1) hx hb dX3_readOperand_21 (by decide) ?_
      refine lv_iadd hx hb dX3_readOperand_22 ?_
      refine lv_topi (fun z3452 e3453 => ?_)
      try (have t3454 := tadd e3453 (a := p0.toInt) rfl (b := 1) (by decide) (by omega))
      have t3455 : 0 ≤ (v 100).toInt ∧ (v 100).toInt ≤ 120 := by have h9 := hI.1 100 _ _ rfl; rw [show v3446 100 = v 100 from hf3448 100 (by decide)] at h9; exact h9
      have hby39 : F3447 39 = F 39 := congrArg (fun t : ALX => t.2.2.2.2.2.2.1) hal
      refine va_callv (va_runV (As := [.int z3452]) (rest := []) ⟨hx, hb, hml, hown, hwd⟩ (rO l dC dI g c adK adV v3446 F3447 nr H.size z3452 hg hnr hI (by have h9 : v3446 143 = v3446 143 := rfl; (try rw [h9]); clear h9; have h9 : v3446 100 = v 100 := hf3448 100 (by decide); (try rw [h9]); clear h9; have h9 : v3446 144 = v3446 144 := rfl; (try rw [h9]); clear h9; omega) (by omega)) (cwV 1 hwd (gV wk_895 wk_896 wk_897 wk_898 wk_38) rfl rfl rfl (by decide +kernel) ⟨(by show fr + 0 + 1 ≤ fr + 6; omega), (by show 8 + (3 + 11) + (lc + 0) ≤ lc + 240; omega)⟩) ⟨PX.blind, va_recv hK hP (ci := 3) (q0 := 7) rfl rfl, fun U hU hW => ⟨rfl, PX.at hK hE hP hS hU hW⟩⟩ rfl rfl hl.1 rfl (lv_room (Nat.le_of_ble_eq_true rfl)) dX3_readOperand_23 ⟨Nat.le_of_ble_eq_true rfl, Nat.le_of_ble_eq_true rfl⟩) hS (fun q _ h => (freeX hS) q h) (freeX hS) (fun u t H1 locs ht hvm hw hB hz1 hk1 hS => ?_)
      unfold BX at hB
      rw [ht] at hB
      obtain ⟨v3457, F3458, rc9⟩ := u
      obtain ⟨hI, hal9, hrc, hf3459, hw⟩ := hw
      dsimp only at hI hal9 hrc hB hf3459 hw
      rw [hrc] at hB
      have hal := hal9.trans hal
      have hP : va_P (dC, dI) classes (wX g c v3457 F3458 (g (44 + nr))) H1 := hB
      replace hw : ((0 ≤ (v3446 144).toInt ∧ (v3457 144).toInt = (v3446 144).toInt ∧ (v3457 143).toInt = (v3446 143).toInt) ∨ ((v3446 144).toInt = -1 ∧ (v3446 143).toInt ≤ (v3457 143).toInt ∧ (v3457 143).toInt ≤ (v3446 100).toInt ∧ ((v3457 144).toInt = -1 ∨ (v3457 144).toInt = (v3457 143).toInt))) ∧ rdX (v3446 100) (F3447 39) 0 z3452.toInt (v3446 144).toInt (v3446 143).toInt (v3457 144).toInt (v3457 143).toInt := hw
      rw [show v3446 100 = v 100 from hf3448 100 (by decide)] at hw
      rw [hby39] at hw
      have hw_r3456 := hw
      clear hw
      generalize H1 = H at hP hS ⊢
      refine lv_aload_n hx hb dX3_readOperand_26 rfl (lv_at hl 1 rfl) ?_
      refine lv_iconst (v := 2) hx hb dX3_readOperand_27 (by decide) ?_
      refine lv_iconst (v := 0) hx hb dX3_readOperand_28 (by decide) ?_
      refine va_calli (va_runV (As := [.int 2, .int 0]) (rest := []) ⟨hx, hb, hml, hown, hwd⟩ (c_X3_put l dC dI g c adK adV v3457 F3458 nr H.size 2 0 hg hnr hI (by have : (2 : Int32).toInt = 2 := (by decide); omega) (by have : (0 : Int32).toInt = 0 := (by decide); omega)) (cwV 2 hwd (gV wk_882 wk_879 wk_880 wk_881 wk_38) rfl rfl rfl (by decide +kernel) ⟨(by show 1 + 1 ≤ fr + 6; omega), (by show 8 + (3 + 11) + (40) ≤ lc + 240; omega)⟩) ⟨PX.blind, va_recv hK hP (ci := 3) (q0 := 7) rfl rfl, fun U hU hW => ⟨rfl, PX.at hK hE hP hS hU hW⟩⟩ rfl rfl hl.1 rfl (lv_room (Nat.le_of_ble_eq_true rfl)) dX3_readOperand_29 ⟨Nat.le_of_ble_eq_true rfl, Nat.le_of_ble_eq_true rfl⟩) hS (fun q _ h => (freeX hS) q h) (freeX hS) (fun r3460 u t H1 locs ht hvm hw hB hz1 hk1 hS => ?_)
      unfold BX at hB
      rw [ht] at hB
      obtain ⟨v3461, F3462, rc9⟩ := u
      obtain ⟨hI, hal9, hrc, hf3463, hw⟩ := hw
      dsimp only at hI hal9 hrc hB hf3463 hw
      rw [hrc] at hB
      have hal := hal9.trans hal
      have hP : va_P (dC, dI) classes (wX g c v3461 F3462 (g (44 + nr))) H1 := hB
      have hw : -1 ≤ r3460.toInt ∧ r3460.toInt ≤ 119 := hw
      have k3464 : (2 : Int32).toInt = 2 := by decide
      have k3465 : (0 : Int32).toInt = 0 := by decide
      generalize H1 = H at hP hS ⊢
      have hw_r3460 := hw
      refine lv_pop hx hb dX3_readOperand_32 rfl ?_
      refine lv_goto (tgt := 71) hx hb dX3_readOperand_33 (by decide) ?_
      have hP9 : va_P (dC, dI) classes (wX g c v3461 F3462 (g (44 + nr))) H := hP
      exact W.vret hx hb hr (fun t ht hW => ⟨⟨(v3461, F3462, (g (44 + nr))), rfl, ⟨hI, hal, rfl, (frC (by decide) hf3463 (frC (by decide) hf3459 (frC (by decide) hf3448 (fun _ _ => rfl)))), (by show ((0 ≤ (v 144).toInt ∧ (v3461 144).toInt = (v 144).toInt ∧ (v3461 143).toInt = (v 143).toInt) ∨ ((v 144).toInt = -1 ∧ (v 143).toInt ≤ (v3461 143).toInt ∧ (v3461 143).toInt ≤ (v 100).toInt ∧ ((v3461 144).toInt = -1 ∨ (v3461 144).toInt = (v3461 143).toInt))) ∧ rdX (v 100) (F 39) 0 p0.toInt (v 144).toInt (v 143).toInt (v3461 144).toInt (v3461 143).toInt; rw [show v3461 144 = v3457 144 from hf3463 144 (by decide)]; rw [show v3461 143 = v3457 143 from hf3463 143 (by decide)]; refine ⟨by omega, fun hf => ?_⟩; exact rd.neg (by omega) (by omega) (by omega) (by omega) (by omega) (hw_r3456.2 (by omega)))⟩, (by show va_P _ _ _ t.heap; rw [ht]; exact hP9)⟩, hS.F ht⟩) hS.2.2 dX3_readOperand_71
