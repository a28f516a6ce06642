set_option maxHeartbeats 8000000 in
set_option maxRecDepth 100000 in
theorem c_X3_readProduct (D : Int) (fr lc : Nat) (rO : RPX 0 yX3_readOperand (Cond.code yX3_readOperand cX3_readOperand 3 none) (D + 1) fr lc) (rC : RPX 6 yX3_readChoice (Cond.code yX3_readChoice cX3_readChoice 4 none) (D + 1) (fr + 4) (lc + 160)) (l : Launch) (dC : Nat → ClassId) (dI : Nat → Nat → Nat) (g : Nat → Nat) (c : Nat → ClassId) (adK adV : Nat → Nat) (v : Nat → Int32) (F : Nat → Nat → Int32) (nr sz : Nat) (p0 : Int32) (hg : injX g) (hnr : nr < 10) (hI : IX v F) (hs : (0 ≤ (v 143).toInt ∧ (v 143).toInt ≤ (v 100).toInt) ∧ ((v 144).toInt = -1 ∨ 0 ≤ (v 144).toInt)) (hq : p0.toInt = D ∧ D ≤ 8 ∧ 0 ≤ p0.toInt) : Met l yX3_readProduct (Cond.code yX3_readProduct cX3_readProduct 4 none :: wA) ({ frames := fr + 7, cells := 0, slots := 0, locals := lc + 280 }) (va_Pc [.ref (g 7), .int p0] (PX dC dI g c adK adV v F (g (44 + nr)) sz)) (va_Qv (fun (u : StX) => IX u.1 u.2.1 ∧ alX u.1 u.2.1 = alX v F ∧ u.2.2 = (g (44 + nr)) ∧ (∀ k, k ∉ ([142, 143, 144] : List Nat) → u.1 k = v k) ∧ (((0 ≤ (v 144).toInt ∧ (u.1 144).toInt = (v 144).toInt ∧ (u.1 143).toInt = (v 143).toInt) ∨ ((v 144).toInt = -1 ∧ (v 143).toInt ≤ (u.1 143).toInt ∧ (u.1 143).toInt ≤ (v 100).toInt ∧ ((u.1 144).toInt = -1 ∨ (u.1 144).toInt = (u.1 143).toInt))) ∧ rdX (v 100) (F 39) 1 p0.toInt (v 144).toInt (v 143).toInt (u.1 144).toInt (u.1 143).toInt)) (BX dC dI g c) (AX g sz)) 0 0 (AX g sz) := by
  refine Met.ofW (cc := cX3_readProduct) (maxL := 4) (ret := none) (by decide) rfl ?_
  intro p e s m args below meth c0 s₁ B hml hv
  obtain ⟨rfl, hsz, hP, hK, hE⟩ := hv
  have hx := B.exec
  have hb := B.bytes
  have hr := B.returns
  have hts := atoms_spec (ws := Cond.code yX3_readProduct cX3_readProduct 4 none :: wA) B.pre
  have hwd : ∀ w ∈ wA, w.before _ s = true := fun w h => hts w (List.mem_cons_of_mem _ h)
  have hown : s.vm.findClass RX3 = some m.cls := findClass_of_methodNamed B.named
  have hlocks := B.notSynchronized
  subst hsz
  have hl := lv_entry ([.ref (g 7), .int p0]) (n := 4) (Nat.le_of_ble_eq_true rfl)
  rw [lg_entry_eq]
  generalize (lg_sl ([.ref (g 7), .int p0]) ++ List.replicate (4 - (lg_sl ([.ref (g 7), .int p0])).length) Slot.unset).toArray = ls at hl ⊢
  have hl : lv_has ls 4 [(0, .ref (g 7)), (1, .int p0)] := hl
  obtain ⟨H, eH⟩ : ∃ z, z = s.heap := ⟨_, rfl⟩
  have hP : va_P (dC, dI) classes (wX g c v F (g (44 + nr))) H := by rw [eH]; exact hP
  have hS : va_S (AX g s.heap.size) s.heap H [] := by rw [eH]; exact va_S.rf
  refine my_heap eH ?_
  have hal : alX v F = alX v F := rfl
  have rp0 := i32_rng p0
  have hb100 : 0 ≤ (v 100).toInt ∧ (v 100).toInt ≤ 120 := hI.1 100 _ _ rfl
  refine lv_aload_n hx hb dX3_readProduct_0 rfl (lv_at hl 0 rfl) ?_
  refine lv_iload_n hx hb dX3_readProduct_1 rfl (lv_at hl 1 rfl) ?_
  have t3566 : 0 ≤ (v 100).toInt ∧ (v 100).toInt ≤ 120 := hI.1 100 _ _ rfl
  refine va_callv (va_runV (As := [.int p0]) (rest := []) ⟨hx, hb, hml, hown, hwd⟩ (c_X3_readOperand D fr lc rO rC l dC dI g c adK adV v F nr H.size p0 hg hnr hI (by have h9 : v 143 = v 143 := rfl; (try rw [h9]); clear h9; have h9 : v 100 = v 100 := rfl; (try rw [h9]); clear h9; have h9 : v 144 = v 144 := rfl; (try rw [h9]); clear h9; omega) (by omega)) (cwV 1 hwd (gV wk_895 wk_896 wk_897 wk_898 wk_38) rfl rfl rfl (by decide +kernel) ⟨(by show fr + 6 + 1 ≤ fr + 7; omega), (by show 8 + (3 + 11) + (lc + 240) ≤ lc + 280; omega)⟩) ⟨PX.blind, va_recv hK hP (ci := 3) (q0 := 7) rfl rfl, fun U hU hW => ⟨rfl, PX.at hK hE hP hS hU hW⟩⟩ rfl rfl hl.1 rfl (lv_room (Nat.le_of_ble_eq_true rfl)) dX3_readProduct_2 ⟨Nat.le_of_ble_eq_true rfl, Nat.le_of_ble_eq_true rfl⟩) hS (fun q _ h => (freeX hS) q h) (freeX hS) (fun u t H1 locs ht hvm hw hB hz1 hk1 hS => ?_)
  unfold BX at hB
  rw [ht] at hB
  obtain ⟨v3568, F3569, rc9⟩ := u
  obtain ⟨hI, hal9, hrc, hf3570, hw⟩ := hw
  dsimp only at hI hal9 hrc hB hf3570 hw
  rw [hrc] at hB
  have hal := hal9.trans hal
  have hP : va_P (dC, dI) classes (wX g c v3568 F3569 (g (44 + nr))) H1 := hB
  replace hw : ((0 ≤ (v 144).toInt ∧ (v3568 144).toInt = (v 144).toInt ∧ (v3568 143).toInt = (v 143).toInt) ∨ ((v 144).toInt = -1 ∧ (v 143).toInt ≤ (v3568 143).toInt ∧ (v3568 143).toInt ≤ (v 100).toInt ∧ ((v3568 144).toInt = -1 ∨ (v3568 144).toInt = (v3568 143).toInt))) ∧ rdX (v 100) (F 39) 0 p0.toInt (v 144).toInt (v 143).toInt (v3568 144).toInt (v3568 143).toInt := hw
  have hw_r3567 := hw
  clear hw
  generalize H1 = H at hP hS ⊢
  refine lv_iconst (v := 0) hx hb dX3_readProduct_5 (by decide) ?_
  refine lv_istore_n (lv' := [(2, .int 0), (0, .ref (g 7)), (1, .int p0)]) hx hb dX3_readProduct_6 rfl hl (by decide) rfl (fun ls hl => ?_)
  have lp3571 : ∀ (n : Nat) (x2_lp3571 : Int32) (v_lp3571 : Nat → Int32) (F_lp3571 : Nat → Nat → Int32) (H : Heap) (locs : List Loc) (ls : Array Slot), (0 ≤ x2_lp3571.toInt) → (((0 ≤ (v 144).toInt ∧ (v_lp3571 144).toInt = (v 144).toInt ∧ (v_lp3571 143).toInt = (v 143).toInt) ∨ ((v 144).toInt = -1 ∧ (v 143).toInt ≤ (v_lp3571 143).toInt ∧ (v_lp3571 143).toInt ≤ (v 100).toInt ∧ ((v_lp3571 144).toInt = -1 ∨ (v_lp3571 144).toInt = (v_lp3571 143).toInt))) ∧ ((v_lp3571 144).toInt < 0 → (v 143).toInt + x2_lp3571.toInt ≤ (v_lp3571 143).toInt)) → (goX (v 100) (F 39) 1 2 p0.toInt (v 144).toInt (v 143).toInt (v_lp3571 144).toInt (v_lp3571 143).toInt) → (2147483648 - x2_lp3571.toInt ≤ (n : Int)) → (∀ k, k ∉ ([142, 143, 144] : List Nat) → v_lp3571 k = v3568 k) → IX v_lp3571 F_lp3571 → alX v_lp3571 F_lp3571 = alX v F → va_P (dC, dI) classes (wX g c v_lp3571 F_lp3571 (g (44 + nr))) H → va_S (AX g s.heap.size) s.heap H locs → lv_has ls 4 [(2, .int x2_lp3571), (0, .ref (g 7)), (1, .int p0)] → W p l e (headSpec (Cond.code yX3_readProduct cX3_readProduct 4 none :: wA) ({ frames := fr + 7, cells := 0, slots := 0, locals := lc + 280 })).room s m ([.ref (g 7), .int p0] : List Value).toArray below meth c0 H locs 0 0 (MQ below (va_Qv (fun (u : StX) => IX u.1 u.2.1 ∧ alX u.1 u.2.1 = alX v F ∧ u.2.2 = (g (44 + nr)) ∧ (∀ k, k ∉ ([142, 143, 144] : List Nat) → u.1 k = v k) ∧ (((0 ≤ (v 144).toInt ∧ (u.1 144).toInt = (v 144).toInt ∧ (u.1 143).toInt = (v 143).toInt) ∨ ((v 144).toInt = -1 ∧ (v 143).toInt ≤ (u.1 143).toInt ∧ (u.1 143).toInt ≤ (v 100).toInt ∧ ((u.1 144).toInt = -1 ∨ (u.1 144).toInt = (u.1 143).toInt))) ∧ rdX (v 100) (F 39) 1 p0.toInt (v 144).toInt (v 143).toInt (u.1 144).toInt (u.1 143).toInt)) (BX dC dI g c) (AX g s.heap.size)) ([.ref (g 7), .int p0] : List Value).toArray s 0 0 (AX g s.heap.size)) (F0 m 7 ls []) := by
    intro n
    induction n with
    | zero =>
      intro x2_lp3571 v_lp3571 F_lp3571 H locs ls t3572 t3573 t3574 hm hf_lp3571 hI hal hP hS hl
      exfalso
      have := i32_rng x2_lp3571
      have hI1 := hI.1
      omega
    | succ n ih_lp3571 =>
      intro x2_lp3571 v_lp3571 F_lp3571 H locs ls t3572 t3573 t3574 hm hf_lp3571 hI hal hP hS hl
      have rx2_lp3571 := i32_rng x2_lp3571
      refine lv_iload_n hx hb dX3_readProduct_7 rfl (lv_at hl 0 rfl) ?_
      refine lv_bipush (v := 120) hx hb dX3_readProduct_8 (by decide) ?_
      refine lv_icmp_ge (tgt := 76) hx hb dX3_readProduct_10 (by decide) (fun c3575 => ?_) (fun c3575 => ?_)
      · skip
        have t3576 := cv_le (a := 120) (by decide) (b := x2_lp3571.toInt) rfl c3575
        have hP9 : va_P (dC, dI) classes (wX g c v_lp3571 F_lp3571 (g (44 + nr))) H := hP
        exact W.vret hx hb hr (fun t ht hW => ⟨⟨(v_lp3571, F_lp3571, (g (44 + nr))), rfl, ⟨hI, hal, rfl, (frC (by decide) hf_lp3571 (frC (by decide) hf3570 (fun _ _ => rfl))), (by show ((0 ≤ (v 144).toInt ∧ (v_lp3571 144).toInt = (v 144).toInt ∧ (v_lp3571 143).toInt = (v 143).toInt) ∨ ((v 144).toInt = -1 ∧ (v 143).toInt ≤ (v_lp3571 143).toInt ∧ (v_lp3571 143).toInt ≤ (v 100).toInt ∧ ((v_lp3571 144).toInt = -1 ∨ (v_lp3571 144).toInt = (v_lp3571 143).toInt))) ∧ rdX (v 100) (F 39) 1 p0.toInt (v 144).toInt (v 143).toInt (v_lp3571 144).toInt (v_lp3571 143).toInt; refine ⟨by omega, fun hf => ?_⟩; exact go.pE (t3574 hf) (fun q9 => by first | omega | (have s9 := sg_end (n := (v 100)) (B := F 39) (h := (v_lp3571 143).toInt) (by omega); omega)))⟩, (by show va_P _ _ _ t.heap; rw [ht]; exact hP9)⟩, hS.F ht⟩) hS.2.2 dX3_readProduct_76
      · skip
        have t3577 := cv_nle (a := 120) (by decide) (b := x2_lp3571.toInt) rfl c3575
        refine lv_aload_n hx hb dX3_readProduct_13 rfl (lv_at hl 1 rfl) ?_
        have t3578 : 0 ≤ (v 100).toInt ∧ (v 100).toInt ≤ 120 := by have h9 := hI.1 100 _ _ rfl; rw [show v_lp3571 100 = v 100 from (hf_lp3571 100 (by decide)).trans (hf3570 100 (by decide))] at h9; exact h9
        have hby39 : F_lp3571 39 = F 39 := congrArg (fun t : ALX => t.2.2.2.2.2.2.1) hal
        refine va_calli (va_runV (As := []) (rest := []) ⟨hx, hb, hml, hown, hwd⟩ (c_X3_next l dC dI g c adK adV v_lp3571 F_lp3571 nr H.size  hg hnr hI (by have h9 : v_lp3571 143 = v_lp3571 143 := rfl; (try rw [h9]); clear h9; have h9 : v_lp3571 100 = v 100 := (hf_lp3571 100 (by decide)).trans (hf3570 100 (by decide)); (try rw [h9]); clear h9; have h9 : v_lp3571 144 = v_lp3571 144 := rfl; (try rw [h9]); clear h9; omega)) (cwV 0 hwd (gV wk_866 wk_863 wk_864 wk_865 wk_38) rfl rfl rfl (by decide +kernel) ⟨(by show 2 + 1 ≤ fr + 7; omega), (by show 8 + (1 + 11) + (80) ≤ lc + 280; omega)⟩) ⟨PX.blind, va_recv hK hP (ci := 3) (q0 := 7) rfl rfl, fun U hU hW => ⟨rfl, PX.at hK hE hP hS hU hW⟩⟩ rfl rfl hl.1 rfl (lv_room (Nat.le_of_ble_eq_true rfl)) dX3_readProduct_14 ⟨Nat.le_of_ble_eq_true rfl, Nat.le_of_ble_eq_true rfl⟩) hS (fun q _ h => (freeX hS) q h) (freeX hS) (fun r3579 u t H1 locs ht hvm hw hB hz1 hk1 hS => ?_)
        unfold BX at hB
        rw [ht] at hB
        have hP : va_P (dC, dI) classes (wX g c v_lp3571 F_lp3571 (g (44 + nr))) H1 := hB
        replace hw : (0 ≤ (v_lp3571 144).toInt ∧ r3579.toInt = -1) ∨ ((v_lp3571 144).toInt = -1 ∧ r3579.toInt = sg (v_lp3571 100) (F_lp3571 39) (v_lp3571 143).toInt ∧ (-1 ≤ r3579.toInt ∧ r3579.toInt ≤ 255) ∧ (r3579.toInt = -1 ∨ (v_lp3571 143).toInt < (v_lp3571 100).toInt)) := hw
        rw [show v_lp3571 100 = v 100 from (hf_lp3571 100 (by decide)).trans (hf3570 100 (by decide))] at hw
        rw [hby39] at hw
        have hw_r3579 := hw
        clear hw
        generalize H1 = H at hP hS ⊢
        have rr_r3579 := i32_rng r3579
        refine lv_bipush (v := 42) hx hb dX3_readProduct_17 (by decide) ?_
        refine lv_icmp_eq (tgt := 31) hx hb dX3_readProduct_19 (by decide) (fun c3580 => ?_) (fun c3580 => ?_)
        · skip
          have t3581 := cv_eq (a := r3579.toInt) rfl (b := 42) (by decide) c3580
          refine lv_aload_n hx hb dX3_readProduct_31 rfl (lv_at hl 1 rfl) ?_
          have t3582 : 0 ≤ (v 100).toInt ∧ (v 100).toInt ≤ 120 := by have h9 := hI.1 100 _ _ rfl; rw [show v_lp3571 100 = v 100 from (hf_lp3571 100 (by decide)).trans (hf3570 100 (by decide))] at h9; exact h9
          have hby39 : F_lp3571 39 = F 39 := congrArg (fun t : ALX => t.2.2.2.2.2.2.1) hal
          refine va_calli (va_runV (As := []) (rest := []) ⟨hx, hb, hml, hown, hwd⟩ (c_X3_next l dC dI g c adK adV v_lp3571 F_lp3571 nr H.size  hg hnr hI (by have h9 : v_lp3571 143 = v_lp3571 143 := rfl; (try rw [h9]); clear h9; have h9 : v_lp3571 100 = v 100 := (hf_lp3571 100 (by decide)).trans (hf3570 100 (by decide)); (try rw [h9]); clear h9; have h9 : v_lp3571 144 = v_lp3571 144 := rfl; (try rw [h9]); clear h9; omega)) (cwV 0 hwd (gV wk_866 wk_863 wk_864 wk_865 wk_38) rfl rfl rfl (by decide +kernel) ⟨(by show 2 + 1 ≤ fr + 7; omega), (by show 8 + (1 + 11) + (80) ≤ lc + 280; omega)⟩) ⟨PX.blind, va_recv hK hP (ci := 3) (q0 := 7) rfl rfl, fun U hU hW => ⟨rfl, PX.at hK hE hP hS hU hW⟩⟩ rfl rfl hl.1 rfl (lv_room (Nat.le_of_ble_eq_true rfl)) dX3_readProduct_32 ⟨Nat.le_of_ble_eq_true rfl, Nat.le_of_ble_eq_true rfl⟩) hS (fun q _ h => (freeX hS) q h) (freeX hS) (fun r3583 u t H1 locs ht hvm hw hB hz1 hk1 hS => ?_)
          unfold BX at hB
          rw [ht] at hB
          have hP : va_P (dC, dI) classes (wX g c v_lp3571 F_lp3571 (g (44 + nr))) H1 := hB
          replace hw : (0 ≤ (v_lp3571 144).toInt ∧ r3583.toInt = -1) ∨ ((v_lp3571 144).toInt = -1 ∧ r3583.toInt = sg (v_lp3571 100) (F_lp3571 39) (v_lp3571 143).toInt ∧ (-1 ≤ r3583.toInt ∧ r3583.toInt ≤ 255) ∧ (r3583.toInt = -1 ∨ (v_lp3571 143).toInt < (v_lp3571 100).toInt)) := hw
          rw [show v_lp3571 100 = v 100 from (hf_lp3571 100 (by decide)).trans (hf3570 100 (by decide))] at hw
          rw [hby39] at hw
          have hw_r3583 := hw
          clear hw
          generalize H1 = H at hP hS ⊢
          have rr_r3583 := i32_rng r3583
          refine lv_bipush (v := 42) hx hb dX3_readProduct_35 (by decide) ?_
          refine lv_icmp_ne (tgt := 45) hx hb dX3_readProduct_37 (by decide) (fun c3584 => ?_) (fun c3584 => ?_)
          · skip
            have t3585 := cv_ne (a := r3583.toInt) rfl (b := 42) (by decide) c3584
            refine lv_bipush (v := 8) hx hb dX3_readProduct_45 (by decide) ?_
            refine lv_istore_n (lv' := [(3, .int 8), (2, .int x2_lp3571), (0, .ref (g 7)), (1, .int p0)]) hx hb dX3_readProduct_47 rfl hl (by decide) rfl (fun ls hl => ?_)
            refine lv_aload_n hx hb dX3_readProduct_48 rfl (lv_at hl 2 rfl) ?_
            refine lv_dup hx hb dX3_readProduct_49 rfl ?_
            refine va_get (D := (dC, dI)) (ci := 3) (v := .int (v_lp3571 143)) (C := RX3) (T := TX3) (N := 5) hx hb hwd inA_X3 hown hK hP 7 rfl rfl 3 (by decide) (hwd _ wk_853) (fun _ h9 => h9) rfl dX3_readProduct_50 ?_
            refine lv_iconst (v := 1) hx hb dX3_readProduct_53 (by decide) ?_
            refine lv_iadd hx hb dX3_readProduct_54 ?_
            refine lv_topi (fun z3586 e3587 => ?_)
            try (have t3588 := tadd e3587 (a := (v_lp3571 143).toInt) rfl (b := 1) (by decide) (by omega))
            refine va_put (D := (dC, dI)) (ci := 3) (v := .int z3586) (ty := .int) (C := RX3) (T := TX3) (N := 5) (fs := fsX_7 g v_lp3571 (g (44 + nr))) hx hb hwd inA_X3 tyX3 tyX3_ok nmX3 hown hK hP (DX hg) hS 7 rfl rfl 3 (by decide) (hwd _ wk_853) (fun _ h9 => h9) rfl (by decide +kernel) rfl rfl (Nat.le_of_ble_eq_true rfl) dX3_readProduct_55 (fun H locs hP _ hS => ?_)
            have hP := va_P_eq (pX_143 g c _ _ _ _) hP
            have hI := IX.put0 hI 143 z3586 rfl
            have hal := (alX_v _ _ 143 z3586 (by decide) (by decide) (by decide) (by decide)).trans hal
            refine lv_aload_n hx hb dX3_readProduct_58 rfl (lv_at hl 2 rfl) ?_
            refine lv_iload_n hx hb dX3_readProduct_59 rfl (lv_at hl 3 rfl) ?_
            have t3589 : 0 ≤ (v 100).toInt ∧ (v 100).toInt ≤ 120 := by have h9 := hI.1 100 _ _ rfl; rw [show (va_up v_lp3571 143 z3586) 100 = v 100 from (hf_lp3571 100 (by decide)).trans (hf3570 100 (by decide))] at h9; exact h9
            have hby39 : F_lp3571 39 = F 39 := congrArg (fun t : ALX => t.2.2.2.2.2.2.1) hal
            refine va_callv (va_runV (As := [.int p0]) (rest := []) ⟨hx, hb, hml, hown, hwd⟩ (c_X3_readOperand D fr lc rO rC l dC dI g c adK adV (va_up v_lp3571 143 z3586) F_lp3571 nr H.size p0 hg hnr hI (by have h9 : (va_up v_lp3571 143 z3586) 143 = z3586 := rfl; (try rw [h9]); clear h9; have h9 : (va_up v_lp3571 143 z3586) 100 = v 100 := (hf_lp3571 100 (by decide)).trans (hf3570 100 (by decide)); (try rw [h9]); clear h9; have h9 : (va_up v_lp3571 143 z3586) 144 = v_lp3571 144 := rfl; (try rw [h9]); clear h9; omega) (by omega)) (cwV 1 hwd (gV wk_895 wk_896 wk_897 wk_898 wk_38) rfl rfl rfl (by decide +kernel) ⟨(by show fr + 6 + 1 ≤ fr + 7; omega), (by show 8 + (3 + 11) + (lc + 240) ≤ lc + 280; omega)⟩) ⟨PX.blind, va_recv hK hP (ci := 3) (q0 := 7) rfl rfl, fun U hU hW => ⟨rfl, PX.at hK hE hP hS hU hW⟩⟩ rfl rfl hl.1 rfl (lv_room (Nat.le_of_ble_eq_true rfl)) dX3_readProduct_60 ⟨Nat.le_of_ble_eq_true rfl, Nat.le_of_ble_eq_true rfl⟩) hS (fun q _ h => (freeX hS) q h) (freeX hS) (fun u t H1 locs ht hvm hw hB hz1 hk1 hS => ?_)
            unfold BX at hB
            rw [ht] at hB
            obtain ⟨v3591, F3592, rc9⟩ := u
            obtain ⟨hI, hal9, hrc, hf3593, hw⟩ := hw
            dsimp only at hI hal9 hrc hB hf3593 hw
            rw [hrc] at hB
            have hal := hal9.trans hal
            have hP : va_P (dC, dI) classes (wX g c v3591 F3592 (g (44 + nr))) H1 := hB
            replace hw : ((0 ≤ (v_lp3571 144).toInt ∧ (v3591 144).toInt = (v_lp3571 144).toInt ∧ (v3591 143).toInt = z3586.toInt) ∨ ((v_lp3571 144).toInt = -1 ∧ z3586.toInt ≤ (v3591 143).toInt ∧ (v3591 143).toInt ≤ ((va_up v_lp3571 143 z3586) 100).toInt ∧ ((v3591 144).toInt = -1 ∨ (v3591 144).toInt = (v3591 143).toInt))) ∧ rdX ((va_up v_lp3571 143 z3586) 100) (F_lp3571 39) 0 p0.toInt (v_lp3571 144).toInt z3586.toInt (v3591 144).toInt (v3591 143).toInt := hw
            rw [show (va_up v_lp3571 143 z3586) 100 = v 100 from (hf_lp3571 100 (by decide)).trans (hf3570 100 (by decide))] at hw
            rw [hby39] at hw
            have hw_r3590 := hw
            clear hw
            generalize H1 = H at hP hS ⊢
            refine lv_aload_n hx hb dX3_readProduct_63 rfl (lv_at hl 2 rfl) ?_
            refine lv_iload_n hx hb dX3_readProduct_64 rfl (lv_at hl 0 rfl) ?_
            refine lv_iconst (v := 0) hx hb dX3_readProduct_65 (by decide) ?_
            refine va_calli (va_runV (As := [.int 8, .int 0]) (rest := []) ⟨hx, hb, hml, hown, hwd⟩ (c_X3_put l dC dI g c adK adV v3591 F3592 nr H.size 8 0 hg hnr hI (by have : (8 : Int32).toInt = 8 := (by decide); omega) (by have : (0 : Int32).toInt = 0 := (by decide); omega)) (cwV 2 hwd (gV wk_882 wk_879 wk_880 wk_881 wk_38) rfl rfl rfl (by decide +kernel) ⟨(by show 1 + 1 ≤ fr + 7; omega), (by show 8 + (3 + 11) + (40) ≤ lc + 280; omega)⟩) ⟨PX.blind, va_recv hK hP (ci := 3) (q0 := 7) rfl rfl, fun U hU hW => ⟨rfl, PX.at hK hE hP hS hU hW⟩⟩ rfl rfl hl.1 rfl (lv_room (Nat.le_of_ble_eq_true rfl)) dX3_readProduct_66 ⟨Nat.le_of_ble_eq_true rfl, Nat.le_of_ble_eq_true rfl⟩) hS (fun q _ h => (freeX hS) q h) (freeX hS) (fun r3594 u t H1 locs ht hvm hw hB hz1 hk1 hS => ?_)
            unfold BX at hB
            rw [ht] at hB
            obtain ⟨v3595, F3596, rc9⟩ := u
            obtain ⟨hI, hal9, hrc, hf3597, hw⟩ := hw
            dsimp only at hI hal9 hrc hB hf3597 hw
            rw [hrc] at hB
            have hal := hal9.trans hal
            have hP : va_P (dC, dI) classes (wX g c v3595 F3596 (g (44 + nr))) H1 := hB
            have hw : -1 ≤ r3594.toInt ∧ r3594.toInt ≤ 119 := hw
            have k3598 : (8 : Int32).toInt = 8 := by decide
            have k3599 : (0 : Int32).toInt = 0 := by decide
            generalize H1 = H at hP hS ⊢
            have hw_r3594 := hw
            refine lv_pop hx hb dX3_readProduct_69 rfl ?_
            obtain ⟨z3600, e3601⟩ : ∃ y : Int32, y = x2_lp3571 + 1 := ⟨_, rfl⟩
            try (have t3602 := tadd e3601 rfl (b := 1) (by decide) (by omega))
            refine lv_iinc (v := z3600) (lv' := [(2, .int z3600), (3, .int 8), (0, .ref (g 7)), (1, .int p0)]) hx hb dX3_readProduct_70 hl (k := 1) rfl (by rw [e3601]; rfl) (by decide) rfl (fun ls hl => ?_)
            refine lv_goto (tgt := 7) hx hb dX3_readProduct_73 (by decide) ?_
            exact ih_lp3571 z3600 v3595 F3596 _ _ _ (by omega) (by have h9 : v3595 144 = v3591 144 := hf3597 144 (by decide); (try rw [h9]); clear h9; have h9 : v3595 143 = v3591 143 := hf3597 143 (by decide); (try rw [h9]); clear h9; omega) (by have h9 : v3595 144 = v3591 144 := hf3597 144 (by decide); (try rw [h9]); clear h9; have h9 : v3595 143 = v3591 143 := hf3597 143 (by decide); (try rw [h9]); clear h9; exact fun hf => go.pl (t3574 hf) (by omega) (by omega) (by omega) (hw_r3590.2 (by omega))) (by omega) (frC (by decide) hf3597 (frC (by decide) hf3593 (frU (by decide) hf_lp3571))) hI hal hP hS (lv_sub hl [0, 2, 3] rfl)
          · skip
            have t3603 := cv_eq (a := r3583.toInt) rfl (b := 42) (by decide) c3584
            refine lv_bipush (v := 7) hx hb dX3_readProduct_40 (by decide) ?_
            refine lv_goto (tgt := 47) hx hb dX3_readProduct_42 (by decide) ?_
            refine lv_istore_n (lv' := [(3, .int 7), (2, .int x2_lp3571), (0, .ref (g 7)), (1, .int p0)]) hx hb dX3_readProduct_47 rfl hl (by decide) rfl (fun ls hl => ?_)
            refine lv_aload_n hx hb dX3_readProduct_48 rfl (lv_at hl 2 rfl) ?_
            refine lv_dup hx hb dX3_readProduct_49 rfl ?_
            refine va_get (D := (dC, dI)) (ci := 3) (v := .int (v_lp3571 143)) (C := RX3) (T := TX3) (N := 5) hx hb hwd inA_X3 hown hK hP 7 rfl rfl 3 (by decide) (hwd _ wk_853) (fun _ h9 => h9) rfl dX3_readProduct_50 ?_
            refine lv_iconst (v := 1) hx hb dX3_readProduct_53 (by decide) ?_
            refine lv_iadd hx hb dX3_readProduct_54 ?_
            refine lv_topi (fun z3604 e3605 => ?_)
            try (have t3606 := tadd e3605 (a := (v_lp3571 143).toInt) rfl (b := 1) (by decide) (by omega))
            refine va_put (D := (dC, dI)) (ci := 3) (v := .int z3604) (ty := .int) (C := RX3) (T := TX3) (N := 5) (fs := fsX_7 g v_lp3571 (g (44 + nr))) hx hb hwd inA_X3 tyX3 tyX3_ok nmX3 hown hK hP (DX hg) hS 7 rfl rfl 3 (by decide) (hwd _ wk_853) (fun _ h9 => h9) rfl (by decide +kernel) rfl rfl (Nat.le_of_ble_eq_true rfl) dX3_readProduct_55 (fun H locs hP _ hS => ?_)
            have hP := va_P_eq (pX_143 g c _ _ _ _) hP
            have hI := IX.put0 hI 143 z3604 rfl
            have hal := (alX_v _ _ 143 z3604 (by decide) (by decide) (by decide) (by decide)).trans hal
            refine lv_aload_n hx hb dX3_readProduct_58 rfl (lv_at hl 2 rfl) ?_
            refine lv_iload_n hx hb dX3_readProduct_59 rfl (lv_at hl 3 rfl) ?_
            have t3607 : 0 ≤ (v 100).toInt ∧ (v 100).toInt ≤ 120 := by have h9 := hI.1 100 _ _ rfl; rw [show (va_up v_lp3571 143 z3604) 100 = v 100 from (hf_lp3571 100 (by decide)).trans (hf3570 100 (by decide))] at h9; exact h9
            have hby39 : F_lp3571 39 = F 39 := congrArg (fun t : ALX => t.2.2.2.2.2.2.1) hal
            refine va_callv (va_runV (As := [.int p0]) (rest := []) ⟨hx, hb, hml, hown, hwd⟩ (c_X3_readOperand D fr lc rO rC l dC dI g c adK adV (va_up v_lp3571 143 z3604) F_lp3571 nr H.size p0 hg hnr hI (by have h9 : (va_up v_lp3571 143 z3604) 143 = z3604 := rfl; (try rw [h9]); clear h9; have h9 : (va_up v_lp3571 143 z3604) 100 = v 100 := (hf_lp3571 100 (by decide)).trans (hf3570 100 (by decide)); (try rw [h9]); clear h9; have h9 : (va_up v_lp3571 143 z3604) 144 = v_lp3571 144 := rfl; (try rw [h9]); clear h9; omega) (by omega)) (cwV 1 hwd (gV wk_895 wk_896 wk_897 wk_898 wk_38) rfl rfl rfl (by decide +kernel) ⟨(by show fr + 6 + 1 ≤ fr + 7; omega), (by show 8 + (3 + 11) + (lc + 240) ≤ lc + 280; omega)⟩) ⟨PX.blind, va_recv hK hP (ci := 3) (q0 := 7) rfl rfl, fun U hU hW => ⟨rfl, PX.at hK hE hP hS hU hW⟩⟩ rfl rfl hl.1 rfl (lv_room (Nat.le_of_ble_eq_true rfl)) dX3_readProduct_60 ⟨Nat.le_of_ble_eq_true rfl, Nat.le_of_ble_eq_true rfl⟩) hS (fun q _ h => (freeX hS) q h) (freeX hS) (fun u t H1 locs ht hvm hw hB hz1 hk1 hS => ?_)
            unfold BX at hB
            rw [ht] at hB
            obtain ⟨v3609, F3610, rc9⟩ := u
            obtain ⟨hI, hal9, hrc, hf3611, hw⟩ := hw
            dsimp only at hI hal9 hrc hB hf3611 hw
            rw [hrc] at hB
            have hal := hal9.trans hal
            have hP : va_P (dC, dI) classes (wX g c v3609 F3610 (g (44 + nr))) H1 := hB
            replace hw : ((0 ≤ (v_lp3571 144).toInt ∧ (v3609 144).toInt = (v_lp3571 144).toInt ∧ (v3609 143).toInt = z3604.toInt) ∨ ((v_lp3571 144).toInt = -1 ∧ z3604.toInt ≤ (v3609 143).toInt ∧ (v3609 143).toInt ≤ ((va_up v_lp3571 143 z3604) 100).toInt ∧ ((v3609 144).toInt = -1 ∨ (v3609 144).toInt = (v3609 143).toInt))) ∧ rdX ((va_up v_lp3571 143 z3604) 100) (F_lp3571 39) 0 p0.toInt (v_lp3571 144).toInt z3604.toInt (v3609 144).toInt (v3609 143).toInt := hw
            rw [show (va_up v_lp3571 143 z3604) 100 = v 100 from (hf_lp3571 100 (by decide)).trans (hf3570 100 (by decide))] at hw
            rw [hby39] at hw
            have hw_r3608 := hw
            clear hw
            generalize H1 = H at hP hS ⊢
            refine lv_aload_n hx hb dX3_readProduct_63 rfl (lv_at hl 2 rfl) ?_
            refine lv_iload_n hx hb dX3_readProduct_64 rfl (lv_at hl 0 rfl) ?_
            refine lv_iconst (v := 0) hx hb dX3_readProduct_65 (by decide) ?_
            refine va_calli (va_runV (As := [.int 7, .int 0]) (rest := []) ⟨hx, hb, hml, hown, hwd⟩ (c_X3_put l dC dI g c adK adV v3609 F3610 nr H.size 7 0 hg hnr hI (by have : (7 : Int32).toInt = 7 := (by decide); omega) (by have : (0 : Int32).toInt = 0 := (by decide); omega)) (cwV 2 hwd (gV wk_882 wk_879 wk_880 wk_881 wk_38) rfl rfl rfl (by decide +kernel) ⟨(by show 1 + 1 ≤ fr + 7; omega), (by show 8 + (3 + 11) + (40) ≤ lc + 280; omega)⟩) ⟨PX.blind, va_recv hK hP (ci := 3) (q0 := 7) rfl rfl, fun U hU hW => ⟨rfl, PX.at hK hE hP hS hU hW⟩⟩ rfl rfl hl.1 rfl (lv_room (Nat.le_of_ble_eq_true rfl)) dX3_readProduct_66 ⟨Nat.le_of_ble_eq_true rfl, Nat.le_of_ble_eq_true rfl⟩) hS (fun q _ h => (freeX hS) q h) (freeX hS) (fun r3612 u t H1 locs ht hvm hw hB hz1 hk1 hS => ?_)
            unfold BX at hB
            rw [ht] at hB
            obtain ⟨v3613, F3614, rc9⟩ := u
            obtain ⟨hI, hal9, hrc, hf3615, hw⟩ := hw
            dsimp only at hI hal9 hrc hB hf3615 hw
            rw [hrc] at hB
            have hal := hal9.trans hal
            have hP : va_P (dC, dI) classes (wX g c v3613 F3614 (g (44 + nr))) H1 := hB
            have hw : -1 ≤ r3612.toInt ∧ r3612.toInt ≤ 119 := hw
            have k3616 : (7 : Int32).toInt = 7 := by decide
            have k3617 : (0 : Int32).toInt = 0 := by decide
            generalize H1 = H at hP hS ⊢
            have hw_r3612 := hw
            refine lv_pop hx hb dX3_readProduct_69 rfl ?_
            obtain ⟨z3618, e3619⟩ : ∃ y : Int32, y = x2_lp3571 + 1 := ⟨_, rfl⟩
            try (have t3620 := tadd e3619 rfl (b := 1) (by decide) (by omega))
            refine lv_iinc (v := z3618) (lv' := [(2, .int z3618), (3, .int 7), (0, .ref (g 7)), (1, .int p0)]) hx hb dX3_readProduct_70 hl (k := 1) rfl (by rw [e3619]; rfl) (by decide) rfl (fun ls hl => ?_)
            refine lv_goto (tgt := 7) hx hb dX3_readProduct_73 (by decide) ?_
            exact ih_lp3571 z3618 v3613 F3614 _ _ _ (by omega) (by have h9 : v3613 144 = v3609 144 := hf3615 144 (by decide); (try rw [h9]); clear h9; have h9 : v3613 143 = v3609 143 := hf3615 143 (by decide); (try rw [h9]); clear h9; omega) (by have h9 : v3613 144 = v3609 144 := hf3615 144 (by decide); (try rw [h9]); clear h9; have h9 : v3613 143 = v3609 143 := hf3615 143 (by decide); (try rw [h9]); clear h9; exact fun hf => go.pl (t3574 hf) (by omega) (by omega) (by omega) (hw_r3608.2 (by omega))) (by omega) (frC (by decide) hf3615 (frC (by decide) hf3611 (frU (by decide) hf_lp3571))) hI hal hP hS (lv_sub hl [0, 2, 3] rfl)
        · skip
          have t3621 := cv_ne (a := r3579.toInt) rfl (b := 42) (by decide) c3580
          refine lv_aload_n hx hb dX3_readProduct_22 rfl (lv_at hl 1 rfl) ?_
          have t3622 : 0 ≤ (v 100).toInt ∧ (v 100).toInt ≤ 120 := by have h9 := hI.1 100 _ _ rfl; rw [show v_lp3571 100 = v 100 from (hf_lp3571 100 (by decide)).trans (hf3570 100 (by decide))] at h9; exact h9
          have hby39 : F_lp3571 39 = F 39 := congrArg (fun t : ALX => t.2.2.2.2.2.2.1) hal
          refine va_calli (va_runV (As := []) (rest := []) ⟨hx, hb, hml, hown, hwd⟩ (c_X3_next l dC dI g c adK adV v_lp3571 F_lp3571 nr H.size  hg hnr hI (by have h9 : v_lp3571 143 = v_lp3571 143 := rfl; (try rw [h9]); clear h9; have h9 : v_lp3571 100 = v 100 := (hf_lp3571 100 (by decide)).trans (hf3570 100 (by decide)); (try rw [h9]); clear h9; have h9 : v_lp3571 144 = v_lp3571 144 := rfl; (try rw [h9]); clear h9; omega)) (cwV 0 hwd (gV wk_866 wk_863 wk_864 wk_865 wk_38) rfl rfl rfl (by decide +kernel) ⟨(by show 2 + 1 ≤ fr + 7; omega), (by show 8 + (1 + 11) + (80) ≤ lc + 280; omega)⟩) ⟨PX.blind, va_recv hK hP (ci := 3) (q0 := 7) rfl rfl, fun U hU hW => ⟨rfl, PX.at hK hE hP hS hU hW⟩⟩ rfl rfl hl.1 rfl (lv_room (Nat.le_of_ble_eq_true rfl)) dX3_readProduct_23 ⟨Nat.le_of_ble_eq_true rfl, Nat.le_of_ble_eq_true rfl⟩) hS (fun q _ h => (freeX hS) q h) (freeX hS) (fun r3623 u t H1 locs ht hvm hw hB hz1 hk1 hS => ?_)
          unfold BX at hB
          rw [ht] at hB
          have hP : va_P (dC, dI) classes (wX g c v_lp3571 F_lp3571 (g (44 + nr))) H1 := hB
          replace hw : (0 ≤ (v_lp3571 144).toInt ∧ r3623.toInt = -1) ∨ ((v_lp3571 144).toInt = -1 ∧ r3623.toInt = sg (v_lp3571 100) (F_lp3571 39) (v_lp3571 143).toInt ∧ (-1 ≤ r3623.toInt ∧ r3623.toInt ≤ 255) ∧ (r3623.toInt = -1 ∨ (v_lp3571 143).toInt < (v_lp3571 100).toInt)) := hw
          rw [show v_lp3571 100 = v 100 from (hf_lp3571 100 (by decide)).trans (hf3570 100 (by decide))] at hw
          rw [hby39] at hw
          have hw_r3623 := hw
          clear hw
          generalize H1 = H at hP hS ⊢
          have rr_r3623 := i32_rng r3623
          refine lv_bipush (v := 47) hx hb dX3_readProduct_26 (by decide) ?_
          refine lv_icmp_ne (tgt := 76) hx hb dX3_readProduct_28 (by decide) (fun c3624 => ?_) (fun c3624 => ?_)
          · skip
            have t3625 := cv_ne (a := r3623.toInt) rfl (b := 47) (by decide) c3624
            have hP9 : va_P (dC, dI) classes (wX g c v_lp3571 F_lp3571 (g (44 + nr))) H := hP
            exact W.vret hx hb hr (fun t ht hW => ⟨⟨(v_lp3571, F_lp3571, (g (44 + nr))), rfl, ⟨hI, hal, rfl, (frC (by decide) hf_lp3571 (frC (by decide) hf3570 (fun _ _ => rfl))), (by show ((0 ≤ (v 144).toInt ∧ (v_lp3571 144).toInt = (v 144).toInt ∧ (v_lp3571 143).toInt = (v 143).toInt) ∨ ((v 144).toInt = -1 ∧ (v 143).toInt ≤ (v_lp3571 143).toInt ∧ (v_lp3571 143).toInt ≤ (v 100).toInt ∧ ((v_lp3571 144).toInt = -1 ∨ (v_lp3571 144).toInt = (v_lp3571 143).toInt))) ∧ rdX (v 100) (F 39) 1 p0.toInt (v 144).toInt (v 143).toInt (v_lp3571 144).toInt (v_lp3571 143).toInt; refine ⟨by omega, fun hf => ?_⟩; exact go.pE (t3574 hf) (fun q9 => by first | omega | (have s9 := sg_end (n := (v 100)) (B := F 39) (h := (v_lp3571 143).toInt) (by omega); omega)))⟩, (by show va_P _ _ _ t.heap; rw [ht]; exact hP9)⟩, hS.F ht⟩) hS.2.2 dX3_readProduct_76
          · skip
            have t3626 := cv_eq (a := r3623.toInt) rfl (b := 47) (by decide) c3624
            refine lv_aload_n hx hb dX3_readProduct_31 rfl (lv_at hl 1 rfl) ?_
            have t3627 : 0 ≤ (v 100).toInt ∧ (v 100).toInt ≤ 120 := by have h9 := hI.1 100 _ _ rfl; rw [show v_lp3571 100 = v 100 from (hf_lp3571 100 (by decide)).trans (hf3570 100 (by decide))] at h9; exact h9
            have hby39 : F_lp3571 39 = F 39 := congrArg (fun t : ALX => t.2.2.2.2.2.2.1) hal
            refine va_calli (va_runV (As := []) (rest := []) ⟨hx, hb, hml, hown, hwd⟩ (c_X3_next l dC dI g c adK adV v_lp3571 F_lp3571 nr H.size  hg hnr hI (by have h9 : v_lp3571 143 = v_lp3571 143 := rfl; (try rw [h9]); clear h9; have h9 : v_lp3571 100 = v 100 := (hf_lp3571 100 (by decide)).trans (hf3570 100 (by decide)); (try rw [h9]); clear h9; have h9 : v_lp3571 144 = v_lp3571 144 := rfl; (try rw [h9]); clear h9; omega)) (cwV 0 hwd (gV wk_866 wk_863 wk_864 wk_865 wk_38) rfl rfl rfl (by decide +kernel) ⟨(by show 2 + 1 ≤ fr + 7; omega), (by show 8 + (1 + 11) + (80) ≤ lc + 280; omega)⟩) ⟨PX.blind, va_recv hK hP (ci := 3) (q0 := 7) rfl rfl, fun U hU hW => ⟨rfl, PX.at hK hE hP hS hU hW⟩⟩ rfl rfl hl.1 rfl (lv_room (Nat.le_of_ble_eq_true rfl)) dX3_readProduct_32 ⟨Nat.le_of_ble_eq_true rfl, Nat.le_of_ble_eq_true rfl⟩) hS (fun q _ h => (freeX hS) q h) (freeX hS) (fun r3628 u t H1 locs ht hvm hw hB hz1 hk1 hS => ?_)
            unfold BX at hB
            rw [ht] at hB
            have hP : va_P (dC, dI) classes (wX g c v_lp3571 F_lp3571 (g (44 + nr))) H1 := hB
            replace hw : (0 ≤ (v_lp3571 144).toInt ∧ r3628.toInt = -1) ∨ ((v_lp3571 144).toInt = -1 ∧ r3628.toInt = sg (v_lp3571 100) (F_lp3571 39) (v_lp3571 143).toInt ∧ (-1 ≤ r3628.toInt ∧ r3628.toInt ≤ 255) ∧ (r3628.toInt = -1 ∨ (v_lp3571 143).toInt < (v_lp3571 100).toInt)) := hw
            rw [show v_lp3571 100 = v 100 from (hf_lp3571 100 (by decide)).trans (hf3570 100 (by decide))] at hw
            rw [hby39] at hw
            have hw_r3628 := hw
            clear hw
            generalize H1 = H at hP hS ⊢
            have rr_r3628 := i32_rng r3628
            refine lv_bipush (v := 42) hx hb dX3_readProduct_35 (by decide) ?_
            refine lv_icmp_ne (tgt := 45) hx hb dX3_readProduct_37 (by decide) (fun c3629 => ?_) (fun c3629 => ?_)
            · skip
              have t3630 := cv_ne (a := r3628.toInt) rfl (b := 42) (by decide) c3629
              refine lv_bipush (v := 8) hx hb dX3_readProduct_45 (by decide) ?_
              refine lv_istore_n (lv' := [(3, .int 8), (2, .int x2_lp3571), (0, .ref (g 7)), (1, .int p0)]) hx hb dX3_readProduct_47 rfl hl (by decide) rfl (fun ls hl => ?_)
              refine lv_aload_n hx hb dX3_readProduct_48 rfl (lv_at hl 2 rfl) ?_
              refine lv_dup hx hb dX3_readProduct_49 rfl ?_
              refine va_get (D := (dC, dI)) (ci := 3) (v := .int (v_lp3571 143)) (C := RX3) (T := TX3) (N := 5) hx hb hwd inA_X3 hown hK hP 7 rfl rfl 3 (by decide) (hwd _ wk_853) (fun _ h9 => h9) rfl dX3_readProduct_50 ?_
              refine lv_iconst (v := 1) hx hb dX3_readProduct_53 (by decide) ?_
              refine lv_iadd hx hb dX3_readProduct_54 ?_
              refine lv_topi (fun z3631 e3632 => ?_)
              try (have t3633 := tadd e3632 (a := (v_lp3571 143).toInt) rfl (b := 1) (by decide) (by omega))
              refine va_put (D := (dC, dI)) (ci := 3) (v := .int z3631) (ty := .int) (C := RX3) (T := TX3) (N := 5) (fs := fsX_7 g v_lp3571 (g (44 + nr))) hx hb hwd inA_X3 tyX3 tyX3_ok nmX3 hown hK hP (DX hg) hS 7 rfl rfl 3 (by decide) (hwd _ wk_853) (fun _ h9 => h9) rfl (by decide +kernel) rfl rfl (Nat.le_of_ble_eq_true rfl) dX3_readProduct_55 (fun H locs hP _ hS => ?_)
              have hP := va_P_eq (pX_143 g c _ _ _ _) hP
              have hI := IX.put0 hI 143 z3631 rfl
              have hal := (alX_v _ _ 143 z3631 (by decide) (by decide) (by decide) (by decide)).trans hal
              refine lv_aload_n hx hb dX3_readProduct_58 rfl (lv_at hl 2 rfl) ?_
              refine lv_iload_n hx hb dX3_readProduct_59 rfl (lv_at hl 3 rfl) ?_
              have t3634 : 0 ≤ (v 100).toInt ∧ (v 100).toInt ≤ 120 := by have h9 := hI.1 100 _ _ rfl; rw [show (va_up v_lp3571 143 z3631) 100 = v 100 from (hf_lp3571 100 (by decide)).trans (hf3570 100 (by decide))] at h9; exact h9
              have hby39 : F_lp3571 39 = F 39 := congrArg (fun t : ALX => t.2.2.2.2.2.2.1) hal
              refine va_callv (va_runV (As := [.int p0]) (rest := []) ⟨hx, hb, hml, hown, hwd⟩ (c_X3_readOperand D fr lc rO rC l dC dI g c adK adV (va_up v_lp3571 143 z3631) F_lp3571 nr H.size p0 hg hnr hI (by have h9 : (va_up v_lp3571 143 z3631) 143 = z3631 := rfl; (try rw [h9]); clear h9; have h9 : (va_up v_lp3571 143 z3631) 100 = v 100 := (hf_lp3571 100 (by decide)).trans (hf3570 100 (by decide)); (try rw [h9]); clear h9; have h9 : (va_up v_lp3571 143 z3631) 144 = v_lp3571 144 := rfl; (try rw [h9]); clear h9; omega) (by omega)) (cwV 1 hwd (gV wk_895 wk_896 wk_897 wk_898 wk_38) rfl rfl rfl (by decide +kernel) ⟨(by show fr + 6 + 1 ≤ fr + 7; omega), (by show 8 + (3 + 11) + (lc + 240) ≤ lc + 280; omega)⟩) ⟨PX.blind, va_recv hK hP (ci := 3) (q0 := 7) rfl rfl, fun U hU hW => ⟨rfl, PX.at hK hE hP hS hU hW⟩⟩ rfl rfl hl.1 rfl (lv_room (Nat.le_of_ble_eq_true rfl)) dX3_readProduct_60 ⟨Nat.le_of_ble_eq_true rfl, Nat.le_of_ble_eq_true rfl⟩) hS (fun q _ h => (freeX hS) q h) (freeX hS) (fun u t H1 locs ht hvm hw hB hz1 hk1 hS => ?_)
              unfold BX at hB
              rw [ht] at hB
              obtain ⟨v3636, F3637, rc9⟩ := u
              obtain ⟨hI, hal9, hrc, hf3638, hw⟩ := hw
              dsimp only at hI hal9 hrc hB hf3638 hw
              rw [hrc] at hB
              have hal := hal9.trans hal
              have hP : va_P (dC, dI) classes (wX g c v3636 F3637 (g (44 + nr))) H1 := hB
              replace hw : ((0 ≤ (v_lp3571 144).toInt ∧ (v3636 144).toInt = (v_lp3571 144).toInt ∧ (v3636 143).toInt = z3631.toInt) ∨ ((v_lp3571 144).toInt = -1 ∧ z3631.toInt ≤ (v3636 143).toInt ∧ (v3636 143).toInt ≤ ((va_up v_lp3571 143 z3631) 100).toInt ∧ ((v3636 144).toInt = -1 ∨ (v3636 144).toInt = (v3636 143).toInt))) ∧ rdX ((va_up v_lp3571 143 z3631) 100) (F_lp3571 39) 0 p0.toInt (v_lp3571 144).toInt z3631.toInt (v3636 144).toInt (v3636 143).toInt := hw
              rw [show (va_up v_lp3571 143 z3631) 100 = v 100 from (hf_lp3571 100 (by decide)).trans (hf3570 100 (by decide))] at hw
              rw [hby39] at hw
              have hw_r3635 := hw
              clear hw
              generalize H1 = H at hP hS ⊢
              refine lv_aload_n hx hb dX3_readProduct_63 rfl (lv_at hl 2 rfl) ?_
              refine lv_iload_n hx hb dX3_readProduct_64 rfl (lv_at hl 0 rfl) ?_
              refine lv_iconst (v := 0) hx hb dX3_readProduct_65 (by decide) ?_
              refine va_calli (va_runV (As := [.int 8, .int 0]) (rest := []) ⟨hx, hb, hml, hown, hwd⟩ (c_X3_put l dC dI g c adK adV v3636 F3637 nr H.size 8 0 hg hnr hI (by have : (8 : Int32).toInt = 8 := (by decide); omega) (by have : (0 : Int32).toInt = 0 := (by decide); omega)) (cwV 2 hwd (gV wk_882 wk_879 wk_880 wk_881 wk_38) rfl rfl rfl (by decide +kernel) ⟨(by show 1 + 1 ≤ fr + 7; omega), (by show 8 + (3 + 11) + (40) ≤ lc + 280; omega)⟩) ⟨PX.blind, va_recv hK hP (ci := 3) (q0 := 7) rfl rfl, fun U hU hW => ⟨rfl, PX.at hK hE hP hS hU hW⟩⟩ rfl rfl hl.1 rfl (lv_room (Nat.le_of_ble_eq_true rfl)) dX3_readProduct_66 ⟨Nat.le_of_ble_eq_true rfl, Nat.le_of_ble_eq_true rfl⟩) hS (fun q _ h => (freeX hS) q h) (freeX hS) (fun r3639 u t H1 locs ht hvm hw hB hz1 hk1 hS => ?_)
              unfold BX at hB
              rw [ht] at hB
              obtain ⟨v3640, F3641, rc9⟩ := u
              obtain ⟨hI, hal9, hrc, hf3642, hw⟩ := hw
              dsimp only at hI hal9 hrc hB hf3642 hw
              rw [hrc] at hB
              have hal := hal9.trans hal
              have hP : va_P (dC, dI) classes (wX g c v3640 F3641 (g (44 + nr))) H1 := hB
              have hw : -1 ≤ r3639.toInt ∧ r3639.toInt ≤ 119 := hw
              have k3643 : (8 : Int32).toInt = 8 := by decide
              have k3644 : (0 : Int32).toInt = 0 := by decide
              generalize H1 = H at hP hS ⊢
              have hw_r3639 := hw
              refine lv_pop hx hb dX3_readProduct_69 rfl ?_
              obtain ⟨z3645, e3646⟩ : ∃ y : Int32, y = x2_lp3571 + 1 := ⟨_, rfl⟩
              try (have t3647 := tadd e3646 rfl (b := 1) (by decide) (by omega))
              refine lv_iinc (v := z3645) (lv' := [(2, .int z3645), (3, .int 8), (0, .ref (g 7)), (1, .int p0)]) hx hb dX3_readProduct_70 hl (k := 1) rfl (by rw [e3646]; rfl) (by decide) rfl (fun ls hl => ?_)
              refine lv_goto (tgt := 7) hx hb dX3_readProduct_73 (by decide) ?_
              exact ih_lp3571 z3645 v3640 F3641 _ _ _ (by omega) (by have h9 : v3640 144 = v3636 144 := hf3642 144 (by decide); (try rw [h9]); clear h9; have h9 : v3640 143 = v3636 143 := hf3642 143 (by decide); (try rw [h9]); clear h9; omega) (by have h9 : v3640 144 = v3636 144 := hf3642 144 (by decide); (try rw [h9]); clear h9; have h9 : v3640 143 = v3636 143 := hf3642 143 (by decide); (try rw [h9]); clear h9; exact fun hf => go.pl (t3574 hf) (by omega) (by omega) (by omega) (hw_r3635.2 (by omega))) (by omega) (frC (by decide) hf3642 (frC (by decide) hf3638 (frU (by decide) hf_lp3571))) hI hal hP hS (lv_sub hl [0, 2, 3] rfl)
            · skip
              have t3648 := cv_eq (a := r3628.toInt) rfl (b := 42) (by decide) c3629
              refine lv_bipush (v := 7) hx hb dX3_readProduct_40 (by decide) ?_
              refine lv_goto (tgt := 47) hx hb dX3_readProduct_42 (by decide) ?_
              refine lv_istore_n (lv' := [(3, .int 7), (2, .int x2_lp3571), (0, .ref (g 7)), (1, .int p0)]) hx hb dX3_readProduct_47 rfl hl (by decide) rfl (fun ls hl => ?_)
              refine lv_aload_n hx hb dX3_readProduct_48 rfl (lv_at hl 2 rfl) ?_
              refine lv_dup hx hb dX3_readProduct_49 rfl ?_
              refine va_get (D := (dC, dI)) (ci := 3) (v := .int (v_lp3571 143)) (C := RX3) (T := TX3) (N := 5) hx hb hwd inA_X3 hown hK hP 7 rfl rfl 3 (by decide) (hwd _ wk_853) (fun _ h9 => h9) rfl dX3_readProduct_50 ?_
              refine lv_iconst (v := 1) hx hb dX3_readProduct_53 (by decide) ?_
              refine lv_iadd hx hb dX3_readProduct_54 ?_
              refine lv_topi (fun z3649 e3650 => ?_)
              try (have t3651 := tadd e3650 (a := (v_lp3571 143).toInt) rfl (b := 1) (by decide) (by omega))
              refine va_put (D := (dC, dI)) (ci := 3) (v := .int z3649) (ty := .int) (C := RX3) (T := TX3) (N := 5) (fs := fsX_7 g v_lp3571 (g (44 + nr))) hx hb hwd inA_X3 tyX3 tyX3_ok nmX3 hown hK hP (DX hg) hS 7 rfl rfl 3 (by decide) (hwd _ wk_853) (fun _ h9 => h9) rfl (by decide +kernel) rfl rfl (Nat.le_of_ble_eq_true rfl) dX3_readProduct_55 (fun H locs hP _ hS => ?_)
              have hP := va_P_eq (pX_143 g c _ _ _ _) hP
              have hI := IX.put0 hI 143 z3649 rfl
              have hal := (alX_v _ _ 143 z3649 (by decide) (by decide) (by decide) (by decide)).trans hal
              refine lv_aload_n hx hb dX3_readProduct_58 rfl (lv_at hl 2 rfl) ?_
              refine lv_iload_n hx hb dX3_readProduct_59 rfl (lv_at hl 3 rfl) ?_
              have t3652 : 0 ≤ (v 100).toInt ∧ (v 100).toInt ≤ 120 := by have h9 := hI.1 100 _ _ rfl; rw [show (va_up v_lp3571 143 z3649) 100 = v 100 from (hf_lp3571 100 (by decide)).trans (hf3570 100 (by decide))] at h9; exact h9
              have hby39 : F_lp3571 39 = F 39 := congrArg (fun t : ALX => t.2.2.2.2.2.2.1) hal
              refine va_callv (va_runV (As := [.int p0]) (rest := []) ⟨hx, hb, hml, hown, hwd⟩ (c_X3_readOperand D fr lc rO rC l dC dI g c adK adV (va_up v_lp3571 143 z3649) F_lp3571 nr H.size p0 hg hnr hI (by have h9 : (va_up v_lp3571 143 z3649) 143 = z3649 := rfl; (try rw [h9]); clear h9; have h9 : (va_up v_lp3571 143 z3649) 100 = v 100 := (hf_lp3571 100 (by decide)).trans (hf3570 100 (by decide)); (try rw [h9]); clear h9; have h9 : (va_up v_lp3571 143 z3649) 144 = v_lp3571 144 := rfl; (try rw [h9]); clear h9; omega) (by omega)) (cwV 1 hwd (gV wk_895 wk_896 wk_897 wk_898 wk_38) rfl rfl rfl (by decide +kernel) ⟨(by show fr + 6 + 1 ≤ fr + 7; omega), (by show 8 + (3 + 11) + (lc + 240) ≤ lc + 280; omega)⟩) ⟨PX.blind, va_recv hK hP (ci := 3) (q0 := 7) rfl rfl, fun U hU hW => ⟨rfl, PX.at hK hE hP hS hU hW⟩⟩ rfl rfl hl.1 rfl (lv_room (Nat.le_of_ble_eq_true rfl)) dX3_readProduct_60 ⟨Nat.le_of_ble_eq_true rfl, Nat.le_of_ble_eq_true rfl⟩) hS (fun q _ h => (freeX hS) q h) (freeX hS) (fun u t H1 locs ht hvm hw hB hz1 hk1 hS => ?_)
              unfold BX at hB
              rw [ht] at hB
              obtain ⟨v3654, F3655, rc9⟩ := u
              obtain ⟨hI, hal9, hrc, hf3656, hw⟩ := hw
              dsimp only at hI hal9 hrc hB hf3656 hw
              rw [hrc] at hB
              have hal := hal9.trans hal
              have hP : va_P (dC, dI) classes (wX g c v3654 F3655 (g (44 + nr))) H1 := hB
              replace hw : ((0 ≤ (v_lp3571 144).toInt ∧ (v3654 144).toInt = (v_lp3571 144).toInt ∧ (v3654 143).toInt = z3649.toInt) ∨ ((v_lp3571 144).toInt = -1 ∧ z3649.toInt ≤ (v3654 143).toInt ∧ (v3654 143).toInt ≤ ((va_up v_lp3571 143 z3649) 100).toInt ∧ ((v3654 144).toInt = -1 ∨ (v3654 144).toInt = (v3654 143).toInt))) ∧ rdX ((va_up v_lp3571 143 z3649) 100) (F_lp3571 39) 0 p0.toInt (v_lp3571 144).toInt z3649.toInt (v3654 144).toInt (v3654 143).toInt := hw
              rw [show (va_up v_lp3571 143 z3649) 100 = v 100 from (hf_lp3571 100 (by decide)).trans (hf3570 100 (by decide))] at hw
              rw [hby39] at hw
              have hw_r3653 := hw
              clear hw
              generalize H1 = H at hP hS ⊢
              refine lv_aload_n hx hb dX3_readProduct_63 rfl (lv_at hl 2 rfl) ?_
              refine lv_iload_n hx hb dX3_readProduct_64 rfl (lv_at hl 0 rfl) ?_
              refine lv_iconst (v := 0) hx hb dX3_readProduct_65 (by decide) ?_
              refine va_calli (va_runV (As := [.int 7, .int 0]) (rest := []) ⟨hx, hb, hml, hown, hwd⟩ (c_X3_put l dC dI g c adK adV v3654 F3655 nr H.size 7 0 hg hnr hI (by have : (7 : Int32).toInt = 7 := (by decide); omega) (by have : (0 : Int32).toInt = 0 := (by decide); omega)) (cwV 2 hwd (gV wk_882 wk_879 wk_880 wk_881 wk_38) rfl rfl rfl (by decide +kernel) ⟨(by show 1 + 1 ≤ fr + 7; omega), (by show 8 + (3 + 11) + (40) ≤ lc + 280; omega)⟩) ⟨PX.blind, va_recv hK hP (ci := 3) (q0 := 7) rfl rfl, fun U hU hW => ⟨rfl, PX.at hK hE hP hS hU hW⟩⟩ rfl rfl hl.1 rfl (lv_room (Nat.le_of_ble_eq_true rfl)) dX3_readProduct_66 ⟨Nat.le_of_ble_eq_true rfl, Nat.le_of_ble_eq_true rfl⟩) hS (fun q _ h => (freeX hS) q h) (freeX hS) (fun r3657 u t H1 locs ht hvm hw hB hz1 hk1 hS => ?_)
              unfold BX at hB
              rw [ht] at hB
              obtain ⟨v3658, F3659, rc9⟩ := u
              obtain ⟨hI, hal9, hrc, hf3660, hw⟩ := hw
              dsimp only at hI hal9 hrc hB hf3660 hw
              rw [hrc] at hB
              have hal := hal9.trans hal
              have hP : va_P (dC, dI) classes (wX g c v3658 F3659 (g (44 + nr))) H1 := hB
              have hw : -1 ≤ r3657.toInt ∧ r3657.toInt ≤ 119 := hw
              have k3661 : (7 : Int32).toInt = 7 := by decide
              have k3662 : (0 : Int32).toInt = 0 := by decide
              generalize H1 = H at hP hS ⊢
              have hw_r3657 := hw
              refine lv_pop hx hb dX3_readProduct_69 rfl ?_
              obtain ⟨z3663, e3664⟩ : ∃ y : Int32, y = x2_lp3571 + 1 := ⟨_, rfl⟩
              try (have t3665 := tadd e3664 rfl (b := 1) (by decide) (by omega))
              refine lv_iinc (v := z3663) (lv' := [(2, .int z3663), (3, .int 7), (0, .ref (g 7)), (1, .int p0)]) hx hb dX3_readProduct_70 hl (k := 1) rfl (by rw [e3664]; rfl) (by decide) rfl (fun ls hl => ?_)
              refine lv_goto (tgt := 7) hx hb dX3_readProduct_73 (by decide) ?_
              exact ih_lp3571 z3663 v3658 F3659 _ _ _ (by omega) (by have h9 : v3658 144 = v3654 144 := hf3660 144 (by decide); (try rw [h9]); clear h9; have h9 : v3658 143 = v3654 143 := hf3660 143 (by decide); (try rw [h9]); clear h9; omega) (by have h9 : v3658 144 = v3654 144 := hf3660 144 (by decide); (try rw [h9]); clear h9; have h9 : v3658 143 = v3654 143 := hf3660 143 (by decide); (try rw [h9]); clear h9; exact fun hf => go.pl (t3574 hf) (by omega) (by omega) (by omega) (hw_r3653.2 (by omega))) (by omega) (frC (by decide) hf3660 (frC (by decide) hf3656 (frU (by decide) hf_lp3571))) hI hal hP hS (lv_sub hl [0, 2, 3] rfl)
  obtain ⟨n9, hn9⟩ : ∃ n : Nat, 2147483648 - 0 ≤ (n : Int) := ⟨((2147483648 - 0 : Int)).toNat, by omega⟩
  exact lp3571 n9 0 v3568 F3569 H _ ls (by have : (0 : Int32).toInt = 0 := (by decide); omega) (by have h9 : v3568 144 = v3568 144 := rfl; (try rw [h9]); clear h9; have h9 : v3568 143 = v3568 143 := rfl; (try rw [h9]); clear h9; have z9 : (0 : Int32).toInt = 0 := (by decide); omega) (by have h9 : v3568 144 = v3568 144 := rfl; (try rw [h9]); clear h9; have h9 : v3568 143 = v3568 143 := rfl; (try rw [h9]); clear h9; exact fun hf => go.p (hw_r3567.2 hf)) (by have : (0 : Int32).toInt = 0 := (by decide); omega) (fun _ _ => rfl) hI hal hP hS hl
