set_option maxHeartbeats 8000000 in
set_option maxRecDepth 100000 in
theorem c_X3_readSum (D : Int) (fr lc : Nat) (rO : RPX 0 yX3_readOperand (Cond.code yX3_readOperand cX3_readOperand 3 none) (D + 1) fr lc) (rC : RPX 6 yX3_readChoice (Cond.code yX3_readChoice cX3_readChoice 4 none) (D + 1) (fr + 4) (lc + 160)) (l : Launch) (dC : Nat → ClassId) (dI : Nat → Nat → Nat) (g : Nat → Nat) (c : Nat → ClassId) (adK adV : Nat → Nat) (v : Nat → Int32) (F : Nat → Nat → Int32) (nr sz : Nat) (p0 : Int32) (hg : injX g) (hnr : nr < 10) (hI : IX v F) (hs : (0 ≤ (v 143).toInt ∧ (v 143).toInt ≤ (v 100).toInt) ∧ ((v 144).toInt = -1 ∨ 0 ≤ (v 144).toInt)) (hq : p0.toInt = D ∧ D ≤ 8 ∧ 0 ≤ p0.toInt) : Met l yX3_readSum (Cond.code yX3_readSum cX3_readSum 4 none :: wA) ({ frames := fr + 8, cells := 0, slots := 0, locals := lc + 320 }) (va_Pc [.ref (g 7), .int p0] (PX dC dI g c adK adV v F (g (44 + nr)) sz)) (va_Qv (fun (u : StX) => IX u.1 u.2.1 ∧ alX u.1 u.2.1 = alX v F ∧ u.2.2 = (g (44 + nr)) ∧ (∀ k, k ∉ ([142, 143, 144] : List Nat) → u.1 k = v k) ∧ (((0 ≤ (v 144).toInt ∧ (u.1 144).toInt = (v 144).toInt ∧ (u.1 143).toInt = (v 143).toInt) ∨ ((v 144).toInt = -1 ∧ (v 143).toInt ≤ (u.1 143).toInt ∧ (u.1 143).toInt ≤ (v 100).toInt ∧ ((u.1 144).toInt = -1 ∨ (u.1 144).toInt = (u.1 143).toInt))) ∧ rdX (v 100) (F 39) 3 p0.toInt (v 144).toInt (v 143).toInt (u.1 144).toInt (u.1 143).toInt)) (BX dC dI g c) (AX g sz)) 0 0 (AX g sz) := by
  refine Met.ofW (cc := cX3_readSum) (maxL := 4) (ret := none) (by decide) rfl ?_
  intro p e s m args below meth c0 s₁ B hml hv
  obtain ⟨rfl, hsz, hP, hK, hE⟩ := hv
  have hx := B.exec
  have hb := B.bytes
  have hr := B.returns
  have hts := atoms_spec (ws := Cond.code yX3_readSum cX3_readSum 4 none :: wA) B.pre
  have hwd : ∀ w ∈ wA, w.before _ s = true := fun w h => hts w (List.mem_cons_of_mem _ h)
  have hown : s.vm.findClass RX3 = some m.cls := findClass_of_methodNamed B.named
  have hlocks := B.notSynchronized
  subst hsz
  have hl := lv_entry ([.ref (g 7), .int p0]) (n := 4) (Nat.le_of_ble_eq_true rfl)
  rw [lg_entry_eq]
  generalize (lg_sl ([.ref (g 7), .int p0]) ++ List.replicate (4 - (lg_sl ([.ref (g 7), .int p0])).length) Slot.unset).toArray = ls at hl ⊢
  have hl : lv_has ls 4 [(0, .ref (g 7)), (1, .int p0)] := hl
  obtain ⟨H, eH⟩ : ∃ z, z = s.heap := ⟨_, rfl⟩
  have hP : va_P (dC, dI) classes (wX g c v F (g (44 + nr))) H := by rw [eH]; exact hP
  have hS : va_S (AX g s.heap.size) s.heap H [] := by rw [eH]; exact va_S.rf
  refine my_heap eH ?_
  have hal : alX v F = alX v F := rfl
  have rp0 := i32_rng p0
  have hb100 : 0 ≤ (v 100).toInt ∧ (v 100).toInt ≤ 120 := hI.1 100 _ _ rfl
  refine lv_aload_n hx hb dX3_readSum_0 rfl (lv_at hl 0 rfl) ?_
  refine lv_iload_n hx hb dX3_readSum_1 rfl (lv_at hl 1 rfl) ?_
  have t3766 : 0 ≤ (v 100).toInt ∧ (v 100).toInt ≤ 120 := hI.1 100 _ _ rfl
  refine va_callv (va_runV (As := [.int p0]) (rest := []) ⟨hx, hb, hml, hown, hwd⟩ (c_X3_readProduct D fr lc rO rC l dC dI g c adK adV v F nr H.size p0 hg hnr hI (by have h9 : v 143 = v 143 := rfl; (try rw [h9]); clear h9; have h9 : v 100 = v 100 := rfl; (try rw [h9]); clear h9; have h9 : v 144 = v 144 := rfl; (try rw [h9]); clear h9; omega) (by omega)) (cwV 1 hwd (gV wk_989 wk_991 wk_992 wk_993 wk_38) rfl rfl rfl (by decide +kernel) ⟨(by show fr + 7 + 1 ≤ fr + 8; omega), (by show 8 + (4 + 11) + (lc + 280) ≤ lc + 320; omega)⟩) ⟨PX.blind, va_recv hK hP (ci := 3) (q0 := 7) rfl rfl, fun U hU hW => ⟨rfl, PX.at hK hE hP hS hU hW⟩⟩ rfl rfl hl.1 rfl (lv_room (Nat.le_of_ble_eq_true rfl)) dX3_readSum_2 ⟨Nat.le_of_ble_eq_true rfl, Nat.le_of_ble_eq_true rfl⟩) hS (fun q _ h => (freeX hS) q h) (freeX hS) (fun u t H1 locs ht hvm hw hB hz1 hk1 hS => ?_)
  unfold BX at hB
  rw [ht] at hB
  obtain ⟨v3768, F3769, rc9⟩ := u
  obtain ⟨hI, hal9, hrc, hf3770, hw⟩ := hw
  dsimp only at hI hal9 hrc hB hf3770 hw
  rw [hrc] at hB
  have hal := hal9.trans hal
  have hP : va_P (dC, dI) classes (wX g c v3768 F3769 (g (44 + nr))) H1 := hB
  replace hw : ((0 ≤ (v 144).toInt ∧ (v3768 144).toInt = (v 144).toInt ∧ (v3768 143).toInt = (v 143).toInt) ∨ ((v 144).toInt = -1 ∧ (v 143).toInt ≤ (v3768 143).toInt ∧ (v3768 143).toInt ≤ (v 100).toInt ∧ ((v3768 144).toInt = -1 ∨ (v3768 144).toInt = (v3768 143).toInt))) ∧ rdX (v 100) (F 39) 1 p0.toInt (v 144).toInt (v 143).toInt (v3768 144).toInt (v3768 143).toInt := hw
  have hw_r3767 := hw
  clear hw
  generalize H1 = H at hP hS ⊢
  refine lv_iconst (v := 0) hx hb dX3_readSum_5 (by decide) ?_
  refine lv_istore_n (lv' := [(2, .int 0), (0, .ref (g 7)), (1, .int p0)]) hx hb dX3_readSum_6 rfl hl (by decide) rfl (fun ls hl => ?_)
  have lp3771 : ∀ (n : Nat) (x2_lp3771 : Int32) (v_lp3771 : Nat → Int32) (F_lp3771 : Nat → Nat → Int32) (H : Heap) (locs : List Loc) (ls : Array Slot), (0 ≤ x2_lp3771.toInt) → (((0 ≤ (v 144).toInt ∧ (v_lp3771 144).toInt = (v 144).toInt ∧ (v_lp3771 143).toInt = (v 143).toInt) ∨ ((v 144).toInt = -1 ∧ (v 143).toInt ≤ (v_lp3771 143).toInt ∧ (v_lp3771 143).toInt ≤ (v 100).toInt ∧ ((v_lp3771 144).toInt = -1 ∨ (v_lp3771 144).toInt = (v_lp3771 143).toInt))) ∧ ((v_lp3771 144).toInt < 0 → (v 143).toInt + x2_lp3771.toInt ≤ (v_lp3771 143).toInt)) → (goX (v 100) (F 39) 3 4 p0.toInt (v 144).toInt (v 143).toInt (v_lp3771 144).toInt (v_lp3771 143).toInt) → (2147483648 - x2_lp3771.toInt ≤ (n : Int)) → (∀ k, k ∉ ([142, 143, 144] : List Nat) → v_lp3771 k = v3768 k) → IX v_lp3771 F_lp3771 → alX v_lp3771 F_lp3771 = alX v F → va_P (dC, dI) classes (wX g c v_lp3771 F_lp3771 (g (44 + nr))) H → va_S (AX g s.heap.size) s.heap H locs → lv_has ls 4 [(2, .int x2_lp3771), (0, .ref (g 7)), (1, .int p0)] → W p l e (headSpec (Cond.code yX3_readSum cX3_readSum 4 none :: wA) ({ frames := fr + 8, cells := 0, slots := 0, locals := lc + 320 })).room s m ([.ref (g 7), .int p0] : List Value).toArray below meth c0 H locs 0 0 (MQ below (va_Qv (fun (u : StX) => IX u.1 u.2.1 ∧ alX u.1 u.2.1 = alX v F ∧ u.2.2 = (g (44 + nr)) ∧ (∀ k, k ∉ ([142, 143, 144] : List Nat) → u.1 k = v k) ∧ (((0 ≤ (v 144).toInt ∧ (u.1 144).toInt = (v 144).toInt ∧ (u.1 143).toInt = (v 143).toInt) ∨ ((v 144).toInt = -1 ∧ (v 143).toInt ≤ (u.1 143).toInt ∧ (u.1 143).toInt ≤ (v 100).toInt ∧ ((u.1 144).toInt = -1 ∨ (u.1 144).toInt = (u.1 143).toInt))) ∧ rdX (v 100) (F 39) 3 p0.toInt (v 144).toInt (v 143).toInt (u.1 144).toInt (u.1 143).toInt)) (BX dC dI g c) (AX g s.heap.size)) ([.ref (g 7), .int p0] : List Value).toArray s 0 0 (AX g s.heap.size)) (F0 m 7 ls []) := by
    intro n
    induction n with
    | zero =>
      intro x2_lp3771 v_lp3771 F_lp3771 H locs ls t3772 t3773 t3774 hm hf_lp3771 hI hal hP hS hl
      exfalso
      have := i32_rng x2_lp3771
      have hI1 := hI.1
      omega
    | succ n ih_lp3771 =>
      intro x2_lp3771 v_lp3771 F_lp3771 H locs ls t3772 t3773 t3774 hm hf_lp3771 hI hal hP hS hl
      have rx2_lp3771 := i32_rng x2_lp3771
      refine lv_iload_n hx hb dX3_readSum_7 rfl (lv_at hl 0 rfl) ?_
      refine lv_bipush (v := 120) hx hb dX3_readSum_8 (by decide) ?_
      refine lv_icmp_ge (tgt := 75) hx hb dX3_readSum_10 (by decide) (fun c3775 => ?_) (fun c3775 => ?_)
      · skip
        have t3776 := cv_le (a := 120) (by decide) (b := x2_lp3771.toInt) rfl c3775
        have hP9 : va_P (dC, dI) classes (wX g c v_lp3771 F_lp3771 (g (44 + nr))) H := hP
        exact W.vret hx hb hr (fun t ht hW => ⟨⟨(v_lp3771, F_lp3771, (g (44 + nr))), rfl, ⟨hI, hal, rfl, (frC (by decide) hf_lp3771 (frC (by decide) hf3770 (fun _ _ => rfl))), (by show ((0 ≤ (v 144).toInt ∧ (v_lp3771 144).toInt = (v 144).toInt ∧ (v_lp3771 143).toInt = (v 143).toInt) ∨ ((v 144).toInt = -1 ∧ (v 143).toInt ≤ (v_lp3771 143).toInt ∧ (v_lp3771 143).toInt ≤ (v 100).toInt ∧ ((v_lp3771 144).toInt = -1 ∨ (v_lp3771 144).toInt = (v_lp3771 143).toInt))) ∧ rdX (v 100) (F 39) 3 p0.toInt (v 144).toInt (v 143).toInt (v_lp3771 144).toInt (v_lp3771 143).toInt; refine ⟨by omega, fun hf => ?_⟩; exact go.sE (t3774 hf) (fun q9 => by first | omega | (have s9 := sg_end (n := (v 100)) (B := F 39) (h := (v_lp3771 143).toInt) (by omega); omega)))⟩, (by show va_P _ _ _ t.heap; rw [ht]; exact hP9)⟩, hS.F ht⟩) hS.2.2 dX3_readSum_75
      · skip
        have t3777 := cv_nle (a := 120) (by decide) (b := x2_lp3771.toInt) rfl c3775
        refine lv_aload_n hx hb dX3_readSum_13 rfl (lv_at hl 1 rfl) ?_
        have t3778 : 0 ≤ (v 100).toInt ∧ (v 100).toInt ≤ 120 := by have h9 := hI.1 100 _ _ rfl; rw [show v_lp3771 100 = v 100 from (hf_lp3771 100 (by decide)).trans (hf3770 100 (by decide))] at h9; exact h9
        have hby39 : F_lp3771 39 = F 39 := congrArg (fun t : ALX => t.2.2.2.2.2.2.1) hal
        refine va_calli (va_runV (As := []) (rest := []) ⟨hx, hb, hml, hown, hwd⟩ (c_X3_next l dC dI g c adK adV v_lp3771 F_lp3771 nr H.size  hg hnr hI (by have h9 : v_lp3771 143 = v_lp3771 143 := rfl; (try rw [h9]); clear h9; have h9 : v_lp3771 100 = v 100 := (hf_lp3771 100 (by decide)).trans (hf3770 100 (by decide)); (try rw [h9]); clear h9; have h9 : v_lp3771 144 = v_lp3771 144 := rfl; (try rw [h9]); clear h9; omega)) (cwV 0 hwd (gV wk_866 wk_863 wk_864 wk_865 wk_38) rfl rfl rfl (by decide +kernel) ⟨(by show 2 + 1 ≤ fr + 8; omega), (by show 8 + (1 + 11) + (80) ≤ lc + 320; omega)⟩) ⟨PX.blind, va_recv hK hP (ci := 3) (q0 := 7) rfl rfl, fun U hU hW => ⟨rfl, PX.at hK hE hP hS hU hW⟩⟩ rfl rfl hl.1 rfl (lv_room (Nat.le_of_ble_eq_true rfl)) dX3_readSum_14 ⟨Nat.le_of_ble_eq_true rfl, Nat.le_of_ble_eq_true rfl⟩) hS (fun q _ h => (freeX hS) q h) (freeX hS) (fun r3779 u t H1 locs ht hvm hw hB hz1 hk1 hS => ?_)
        unfold BX at hB
        rw [ht] at hB
        have hP : va_P (dC, dI) classes (wX g c v_lp3771 F_lp3771 (g (44 + nr))) H1 := hB
        replace hw : (0 ≤ (v_lp3771 144).toInt ∧ r3779.toInt = -1) ∨ ((v_lp3771 144).toInt = -1 ∧ r3779.toInt = sg (v_lp3771 100) (F_lp3771 39) (v_lp3771 143).toInt ∧ (-1 ≤ r3779.toInt ∧ r3779.toInt ≤ 255) ∧ (r3779.toInt = -1 ∨ (v_lp3771 143).toInt < (v_lp3771 100).toInt)) := hw
        rw [show v_lp3771 100 = v 100 from (hf_lp3771 100 (by decide)).trans (hf3770 100 (by decide))] at hw
        rw [hby39] at hw
        have hw_r3779 := hw
        clear hw
        generalize H1 = H at hP hS ⊢
        have rr_r3779 := i32_rng r3779
        refine lv_bipush (v := 43) hx hb dX3_readSum_17 (by decide) ?_
        refine lv_icmp_eq (tgt := 31) hx hb dX3_readSum_19 (by decide) (fun c3780 => ?_) (fun c3780 => ?_)
        · skip
          have t3781 := cv_eq (a := r3779.toInt) rfl (b := 43) (by decide) c3780
          refine lv_aload_n hx hb dX3_readSum_31 rfl (lv_at hl 1 rfl) ?_
          have t3782 : 0 ≤ (v 100).toInt ∧ (v 100).toInt ≤ 120 := by have h9 := hI.1 100 _ _ rfl; rw [show v_lp3771 100 = v 100 from (hf_lp3771 100 (by decide)).trans (hf3770 100 (by decide))] at h9; exact h9
          have hby39 : F_lp3771 39 = F 39 := congrArg (fun t : ALX => t.2.2.2.2.2.2.1) hal
          refine va_calli (va_runV (As := []) (rest := []) ⟨hx, hb, hml, hown, hwd⟩ (c_X3_next l dC dI g c adK adV v_lp3771 F_lp3771 nr H.size  hg hnr hI (by have h9 : v_lp3771 143 = v_lp3771 143 := rfl; (try rw [h9]); clear h9; have h9 : v_lp3771 100 = v 100 := (hf_lp3771 100 (by decide)).trans (hf3770 100 (by decide)); (try rw [h9]); clear h9; have h9 : v_lp3771 144 = v_lp3771 144 := rfl; (try rw [h9]); clear h9; omega)) (cwV 0 hwd (gV wk_866 wk_863 wk_864 wk_865 wk_38) rfl rfl rfl (by decide +kernel) ⟨(by show 2 + 1 ≤ fr + 8; omega), (by show 8 + (1 + 11) + (80) ≤ lc + 320; omega)⟩) ⟨PX.blind, va_recv hK hP (ci := 3) (q0 := 7) rfl rfl, fun U hU hW => ⟨rfl, PX.at hK hE hP hS hU hW⟩⟩ rfl rfl hl.1 rfl (lv_room (Nat.le_of_ble_eq_true rfl)) dX3_readSum_32 ⟨Nat.le_of_ble_eq_true rfl, Nat.le_of_ble_eq_true rfl⟩) hS (fun q _ h => (freeX hS) q h) (freeX hS) (fun r3783 u t H1 locs ht hvm hw hB hz1 hk1 hS => ?_)
          unfold BX at hB
          rw [ht] at hB
          have hP : va_P (dC, dI) classes (wX g c v_lp3771 F_lp3771 (g (44 + nr))) H1 := hB
          replace hw : (0 ≤ (v_lp3771 144).toInt ∧ r3783.toInt = -1) ∨ ((v_lp3771 144).toInt = -1 ∧ r3783.toInt = sg (v_lp3771 100) (F_lp3771 39) (v_lp3771 143).toInt ∧ (-1 ≤ r3783.toInt ∧ r3783.toInt ≤ 255) ∧ (r3783.toInt = -1 ∨ (v_lp3771 143).toInt < (v_lp3771 100).toInt)) := hw
          rw [show v_lp3771 100 = v 100 from (hf_lp3771 100 (by decide)).trans (hf3770 100 (by decide))] at hw
          rw [hby39] at hw
          have hw_r3783 := hw
          clear hw
          generalize H1 = H at hP hS ⊢
          have rr_r3783 := i32_rng r3783
          refine lv_bipush (v := 43) hx hb dX3_readSum_35 (by decide) ?_
          refine lv_icmp_ne (tgt := 44) hx hb dX3_readSum_37 (by decide) (fun c3784 => ?_) (fun c3784 => ?_)
          · skip
            have t3785 := cv_ne (a := r3783.toInt) rfl (b := 43) (by decide) c3784
            refine lv_bipush (v := 6) hx hb dX3_readSum_44 (by decide) ?_
            refine lv_istore_n (lv' := [(3, .int 6), (2, .int x2_lp3771), (0, .ref (g 7)), (1, .int p0)]) hx hb dX3_readSum_46 rfl hl (by decide) rfl (fun ls hl => ?_)
            refine lv_aload_n hx hb dX3_readSum_47 rfl (lv_at hl 2 rfl) ?_
            refine lv_dup hx hb dX3_readSum_48 rfl ?_
            refine va_get (D := (dC, dI)) (ci := 3) (v := .int (v_lp3771 143)) (C := RX3) (T := TX3) (N := 5) hx hb hwd inA_X3 hown hK hP 7 rfl rfl 3 (by decide) (hwd _ wk_853) (fun _ h9 => h9) rfl dX3_readSum_49 ?_
            refine lv_iconst (v := 1) hx hb dX3_readSum_52 (by decide) ?_
            refine lv_iadd hx hb dX3_readSum_53 ?_
            refine lv_topi (fun z3786 e3787 => ?_)
            try (have t3788 := tadd e3787 (a := (v_lp3771 143).toInt) rfl (b := 1) (by decide) (by omega))
            refine va_put (D := (dC, dI)) (ci := 3) (v := .int z3786) (ty := .int) (C := RX3) (T := TX3) (N := 5) (fs := fsX_7 g v_lp3771 (g (44 + nr))) hx hb hwd inA_X3 tyX3 tyX3_ok nmX3 hown hK hP (DX hg) hS 7 rfl rfl 3 (by decide) (hwd _ wk_853) (fun _ h9 => h9) rfl (by decide +kernel) rfl rfl (Nat.le_of_ble_eq_true rfl) dX3_readSum_54 (fun H locs hP _ hS => ?_)
            have hP := va_P_eq (pX_143 g c _ _ _ _) hP
            have hI := IX.put0 hI 143 z3786 rfl
            have hal := (alX_v _ _ 143 z3786 (by decide) (by decide) (by decide) (by decide)).trans hal
            refine lv_aload_n hx hb dX3_readSum_57 rfl (lv_at hl 2 rfl) ?_
            refine lv_iload_n hx hb dX3_readSum_58 rfl (lv_at hl 3 rfl) ?_
            have t3789 : 0 ≤ (v 100).toInt ∧ (v 100).toInt ≤ 120 := by have h9 := hI.1 100 _ _ rfl; rw [show (va_up v_lp3771 143 z3786) 100 = v 100 from (hf_lp3771 100 (by decide)).trans (hf3770 100 (by decide))] at h9; exact h9
            have hby39 : F_lp3771 39 = F 39 := congrArg (fun t : ALX => t.2.2.2.2.2.2.1) hal
            refine va_callv (va_runV (As := [.int p0]) (rest := []) ⟨hx, hb, hml, hown, hwd⟩ (c_X3_readProduct D fr lc rO rC l dC dI g c adK adV (va_up v_lp3771 143 z3786) F_lp3771 nr H.size p0 hg hnr hI (by have h9 : (va_up v_lp3771 143 z3786) 143 = z3786 := rfl; (try rw [h9]); clear h9; have h9 : (va_up v_lp3771 143 z3786) 100 = v 100 := (hf_lp3771 100 (by decide)).trans (hf3770 100 (by decide)); (try rw [h9]); clear h9; have h9 : (va_up v_lp3771 143 z3786) 144 = v_lp3771 144 := rfl; (try rw [h9]); clear h9; omega) (by omega)) (cwV 1 hwd (gV wk_989 wk_991 wk_992 wk_993 wk_38) rfl rfl rfl (by decide +kernel) ⟨(by show fr + 7 + 1 ≤ fr + 8; omega), (by show 8 + (4 + 11) + (lc + 280) ≤ lc + 320; omega)⟩) ⟨PX.blind, va_recv hK hP (ci := 3) (q0 := 7) rfl rfl, fun U hU hW => ⟨rfl, PX.at hK hE hP hS hU hW⟩⟩ rfl rfl hl.1 rfl (lv_room (Nat.le_of_ble_eq_true rfl)) dX3_readSum_59 ⟨Nat.le_of_ble_eq_true rfl, Nat.le_of_ble_eq_true rfl⟩) hS (fun q _ h => (freeX hS) q h) (freeX hS) (fun u t H1 locs ht hvm hw hB hz1 hk1 hS => ?_)
            unfold BX at hB
            rw [ht] at hB
            obtain ⟨v3791, F3792, rc9⟩ := u
            obtain ⟨hI, hal9, hrc, hf3793, hw⟩ := hw
            dsimp only at hI hal9 hrc hB hf3793 hw
            rw [hrc] at hB
            have hal := hal9.trans hal
            have hP : va_P (dC, dI) classes (wX g c v3791 F3792 (g (44 + nr))) H1 := hB
            replace hw : ((0 ≤ (v_lp3771 144).toInt ∧ (v3791 144).toInt = (v_lp3771 144).toInt ∧ (v3791 143).toInt = z3786.toInt) ∨ ((v_lp3771 144).toInt = -1 ∧ z3786.toInt ≤ (v3791 143).toInt ∧ (v3791 143).toInt ≤ ((va_up v_lp3771 143 z3786) 100).toInt ∧ ((v3791 144).toInt = -1 ∨ (v3791 144).toInt = (v3791 143).toInt))) ∧ rdX ((va_up v_lp3771 143 z3786) 100) (F_lp3771 39) 1 p0.toInt (v_lp3771 144).toInt z3786.toInt (v3791 144).toInt (v3791 143).toInt := hw
            rw [show (va_up v_lp3771 143 z3786) 100 = v 100 from (hf_lp3771 100 (by decide)).trans (hf3770 100 (by decide))] at hw
            rw [hby39] at hw
            have hw_r3790 := hw
            clear hw
            generalize H1 = H at hP hS ⊢
            refine lv_aload_n hx hb dX3_readSum_62 rfl (lv_at hl 2 rfl) ?_
            refine lv_iload_n hx hb dX3_readSum_63 rfl (lv_at hl 0 rfl) ?_
            refine lv_iconst (v := 0) hx hb dX3_readSum_64 (by decide) ?_
            refine va_calli (va_runV (As := [.int 6, .int 0]) (rest := []) ⟨hx, hb, hml, hown, hwd⟩ (c_X3_put l dC dI g c adK adV v3791 F3792 nr H.size 6 0 hg hnr hI (by have : (6 : Int32).toInt = 6 := (by decide); omega) (by have : (0 : Int32).toInt = 0 := (by decide); omega)) (cwV 2 hwd (gV wk_882 wk_879 wk_880 wk_881 wk_38) rfl rfl rfl (by decide +kernel) ⟨(by show 1 + 1 ≤ fr + 8; omega), (by show 8 + (3 + 11) + (40) ≤ lc + 320; omega)⟩) ⟨PX.blind, va_recv hK hP (ci := 3) (q0 := 7) rfl rfl, fun U hU hW => ⟨rfl, PX.at hK hE hP hS hU hW⟩⟩ rfl rfl hl.1 rfl (lv_room (Nat.le_of_ble_eq_true rfl)) dX3_readSum_65 ⟨Nat.le_of_ble_eq_true rfl, Nat.le_of_ble_eq_true rfl⟩) hS (fun q _ h => (freeX hS) q h) (freeX hS) (fun r3794 u t H1 locs ht hvm hw hB hz1 hk1 hS => ?_)
            unfold BX at hB
            rw [ht] at hB
            obtain ⟨v3795, F3796, rc9⟩ := u
            obtain ⟨hI, hal9, hrc, hf3797, hw⟩ := hw
            dsimp only at hI hal9 hrc hB hf3797 hw
            rw [hrc] at hB
            have hal := hal9.trans hal
            have hP : va_P (dC, dI) classes (wX g c v3795 F3796 (g (44 + nr))) H1 := hB
            have hw : -1 ≤ r3794.toInt ∧ r3794.toInt ≤ 119 := hw
            have k3798 : (6 : Int32).toInt = 6 := by decide
            have k3799 : (0 : Int32).toInt = 0 := by decide
            generalize H1 = H at hP hS ⊢
            have hw_r3794 := hw
            refine lv_pop hx hb dX3_readSum_68 rfl ?_
            obtain ⟨z3800, e3801⟩ : ∃ y : Int32, y = x2_lp3771 + 1 := ⟨_, rfl⟩
            try (have t3802 := tadd e3801 rfl (b := 1) (by decide) (by omega))
            refine lv_iinc (v := z3800) (lv' := [(2, .int z3800), (3, .int 6), (0, .ref (g 7)), (1, .int p0)]) hx hb dX3_readSum_69 hl (k := 1) rfl (by rw [e3801]; rfl) (by decide) rfl (fun ls hl => ?_)
            refine lv_goto (tgt := 7) hx hb dX3_readSum_72 (by decide) ?_
            exact ih_lp3771 z3800 v3795 F3796 _ _ _ (by omega) (by have h9 : v3795 144 = v3791 144 := hf3797 144 (by decide); (try rw [h9]); clear h9; have h9 : v3795 143 = v3791 143 := hf3797 143 (by decide); (try rw [h9]); clear h9; omega) (by have h9 : v3795 144 = v3791 144 := hf3797 144 (by decide); (try rw [h9]); clear h9; have h9 : v3795 143 = v3791 143 := hf3797 143 (by decide); (try rw [h9]); clear h9; exact fun hf => go.sl (t3774 hf) (by omega) (by omega) (by omega) (hw_r3790.2 (by omega))) (by omega) (frC (by decide) hf3797 (frC (by decide) hf3793 (frU (by decide) hf_lp3771))) hI hal hP hS (lv_sub hl [0, 2, 3] rfl)
          · skip
            have t3803 := cv_eq (a := r3783.toInt) rfl (b := 43) (by decide) c3784
            refine lv_iconst (v := 5) hx hb dX3_readSum_40 (by decide) ?_
            refine lv_goto (tgt := 46) hx hb dX3_readSum_41 (by decide) ?_
            refine lv_istore_n (lv' := [(3, .int 5), (2, .int x2_lp3771), (0, .ref (g 7)), (1, .int p0)]) hx hb dX3_readSum_46 rfl hl (by decide) rfl (fun ls hl => ?_)
            refine lv_aload_n hx hb dX3_readSum_47 rfl (lv_at hl 2 rfl) ?_
            refine lv_dup hx hb dX3_readSum_48 rfl ?_
            refine va_get (D := (dC, dI)) (ci := 3) (v := .int (v_lp3771 143)) (C := RX3) (T := TX3) (N := 5) hx hb hwd inA_X3 hown hK hP 7 rfl rfl 3 (by decide) (hwd _ wk_853) (fun _ h9 => h9) rfl dX3_readSum_49 ?_
            refine lv_iconst (v := 1) hx hb dX3_readSum_52 (by decide) ?_
            refine lv_iadd hx hb dX3_readSum_53 ?_
            refine lv_topi (fun z3804 e3805 => ?_)
            try (have t3806 := tadd e3805 (a := (v_lp3771 143).toInt) rfl (b := 1) (by decide) (by omega))
            refine va_put (D := (dC, dI)) (ci := 3) (v := .int z3804) (ty := .int) (C := RX3) (T := TX3) (N := 5) (fs := fsX_7 g v_lp3771 (g (44 + nr))) hx hb hwd inA_X3 tyX3 tyX3_ok nmX3 hown hK hP (DX hg) hS 7 rfl rfl 3 (by decide) (hwd _ wk_853) (fun _ h9 => h9) rfl (by decide +kernel) rfl rfl (Nat.le_of_ble_eq_true rfl) dX3_readSum_54 (fun H locs hP _ hS => ?_)
            have hP := va_P_eq (pX_143 g c _ _ _ _) hP
            have hI := IX.put0 hI 143 z3804 rfl
            have hal := (alX_v _ _ 143 z3804 (by decide) (by decide) (by decide) (by decide)).trans hal
            refine lv_aload_n hx hb dX3_readSum_57 rfl (lv_at hl 2 rfl) ?_
            refine lv_iload_n hx hb dX3_readSum_58 rfl (lv_at hl 3 rfl) ?_
            have t3807 : 0 ≤ (v 100).toInt ∧ (v 100).toInt ≤ 120 := by have h9 := hI.1 100 _ _ rfl; rw [show (va_up v_lp3771 143 z3804) 100 = v 100 from (hf_lp3771 100 (by decide)).trans (hf3770 100 (by decide))] at h9; exact h9
            have hby39 : F_lp3771 39 = F 39 := congrArg (fun t : ALX => t.2.2.2.2.2.2.1) hal
            refine va_callv (va_runV (As := [.int p0]) (rest := []) ⟨hx, hb, hml, hown, hwd⟩ (c_X3_readProduct D fr lc rO rC l dC dI g c adK adV (va_up v_lp3771 143 z3804) F_lp3771 nr H.size p0 hg hnr hI (by have h9 : (va_up v_lp3771 143 z3804) 143 = z3804 := rfl; (try rw [h9]); clear h9; have h9 : (va_up v_lp3771 143 z3804) 100 = v 100 := (hf_lp3771 100 (by decide)).trans (hf3770 100 (by decide)); (try rw [h9]); clear h9; have h9 : (va_up v_lp3771 143 z3804) 144 = v_lp3771 144 := rfl; (try rw [h9]); clear h9; omega) (by omega)) (cwV 1 hwd (gV wk_989 wk_991 wk_992 wk_993 wk_38) rfl rfl rfl (by decide +kernel) ⟨(by show fr + 7 + 1 ≤ fr + 8; omega), (by show 8 + (4 + 11) + (lc + 280) ≤ lc + 320; omega)⟩) ⟨PX.blind, va_recv hK hP (ci := 3) (q0 := 7) rfl rfl, fun U hU hW => ⟨rfl, PX.at hK hE hP hS hU hW⟩⟩ rfl rfl hl.1 rfl (lv_room (Nat.le_of_ble_eq_true rfl)) dX3_readSum_59 ⟨Nat.le_of_ble_eq_true rfl, Nat.le_of_ble_eq_true rfl⟩) hS (fun q _ h => (freeX hS) q h) (freeX hS) (fun u t H1 locs ht hvm hw hB hz1 hk1 hS => ?_)
            unfold BX at hB
            rw [ht] at hB
            obtain ⟨v3809, F3810, rc9⟩ := u
            obtain ⟨hI, hal9, hrc, hf3811, hw⟩ := hw
            dsimp only at hI hal9 hrc hB hf3811 hw
            rw [hrc] at hB
            have hal := hal9.trans hal
            have hP : va_P (dC, dI) classes (wX g c v3809 F3810 (g (44 + nr))) H1 := hB
            replace hw : ((0 ≤ (v_lp3771 144).toInt ∧ (v3809 144).toInt = (v_lp3771 144).toInt ∧ (v3809 143).toInt = z3804.toInt) ∨ ((v_lp3771 144).toInt = -1 ∧ z3804.toInt ≤ (v3809 143).toInt ∧ (v3809 143).toInt ≤ ((va_up v_lp3771 143 z3804) 100).toInt ∧ ((v3809 144).toInt = -1 ∨ (v3809 144).toInt = (v3809 143).toInt))) ∧ rdX ((va_up v_lp3771 143 z3804) 100) (F_lp3771 39) 1 p0.toInt (v_lp3771 144).toInt z3804.toInt (v3809 144).toInt (v3809 143).toInt := hw
            rw [show (va_up v_lp3771 143 z3804) 100 = v 100 from (hf_lp3771 100 (by decide)).trans (hf3770 100 (by decide))] at hw
            rw [hby39] at hw
            have hw_r3808 := hw
            clear hw
            generalize H1 = H at hP hS ⊢
            refine lv_aload_n hx hb dX3_readSum_62 rfl (lv_at hl 2 rfl) ?_
            refine lv_iload_n hx hb dX3_readSum_63 rfl (lv_at hl 0 rfl) ?_
            refine lv_iconst (v := 0) hx hb dX3_readSum_64 (by decide) ?_
            refine va_calli (va_runV (As := [.int 5, .int 0]) (rest := []) ⟨hx, hb, hml, hown, hwd⟩ (c_X3_put l dC dI g c adK adV v3809 F3810 nr H.size 5 0 hg hnr hI (by have : (5 : Int32).toInt = 5 := (by decide); omega) (by have : (0 : Int32).toInt = 0 := (by decide); omega)) (cwV 2 hwd (gV wk_882 wk_879 wk_880 wk_881 wk_38) rfl rfl rfl (by decide +kernel) ⟨(by show 1 + 1 ≤ fr + 8; omega), (by show 8 + (3 + 11) + (40) ≤ lc + 320; omega)⟩) ⟨PX.blind, va_recv hK hP (ci := 3) (q0 := 7) rfl rfl, fun U hU hW => ⟨rfl, PX.at hK hE hP hS hU hW⟩⟩ rfl rfl hl.1 rfl (lv_room (Nat.le_of_ble_eq_true rfl)) dX3_readSum_65 ⟨Nat.le_of_ble_eq_true rfl, Nat.le_of_ble_eq_true rfl⟩) hS (fun q _ h => (freeX hS) q h) (freeX hS) (fun r3812 u t H1 locs ht hvm hw hB hz1 hk1 hS => ?_)
            unfold BX at hB
            rw [ht] at hB
            obtain ⟨v3813, F3814, rc9⟩ := u
            obtain ⟨hI, hal9, hrc, hf3815, hw⟩ := hw
            dsimp only at hI hal9 hrc hB hf3815 hw
            rw [hrc] at hB
            have hal := hal9.trans hal
            have hP : va_P (dC, dI) classes (wX g c v3813 F3814 (g (44 + nr))) H1 := hB
            have hw : -1 ≤ r3812.toInt ∧ r3812.toInt ≤ 119 := hw
            have k3816 : (5 : Int32).toInt = 5 := by decide
            have k3817 : (0 : Int32).toInt = 0 := by decide
            generalize H1 = H at hP hS ⊢
            have hw_r3812 := hw
            refine lv_pop hx hb dX3_readSum_68 rfl ?_
            obtain ⟨z3818, e3819⟩ : ∃ y : Int32, y = x2_lp3771 + 1 := ⟨_, rfl⟩
            try (have t3820 := tadd e3819 rfl (b := 1) (by decide) (by omega))
            refine lv_iinc (v := z3818) (lv' := [(2, .int z3818), (3, .int 5), (0, .ref (g 7)), (1, .int p0)]) hx hb dX3_readSum_69 hl (k := 1) rfl (by rw [e3819]; rfl) (by decide) rfl (fun ls hl => ?_)
            refine lv_goto (tgt := 7) hx hb dX3_readSum_72 (by decide) ?_
            exact ih_lp3771 z3818 v3813 F3814 _ _ _ (by omega) (by have h9 : v3813 144 = v3809 144 := hf3815 144 (by decide); (try rw [h9]); clear h9; have h9 : v3813 143 = v3809 143 := hf3815 143 (by decide); (try rw [h9]); clear h9; omega) (by have h9 : v3813 144 = v3809 144 := hf3815 144 (by decide); (try rw [h9]); clear h9; have h9 : v3813 143 = v3809 143 := hf3815 143 (by decide); (try rw [h9]); clear h9; exact fun hf => go.sl (t3774 hf) (by omega) (by omega) (by omega) (hw_r3808.2 (by omega))) (by omega) (frC (by decide) hf3815 (frC (by decide) hf3811 (frU (by decide) hf_lp3771))) hI hal hP hS (lv_sub hl [0, 2, 3] rfl)
        · skip
          have t3821 := cv_ne (a := r3779.toInt) rfl (b := 43) (by decide) c3780
          refine lv_aload_n hx hb dX3_readSum_22 rfl (lv_at hl 1 rfl) ?_
          have t3822 : 0 ≤ (v 100).toInt ∧ (v 100).toInt ≤ 120 := by have h9 := hI.1 100 _ _ rfl; rw [show v_lp3771 100 = v 100 from (hf_lp3771 100 (by decide)).trans (hf3770 100 (by decide))] at h9; exact h9
          have hby39 : F_lp3771 39 = F 39 := congrArg (fun t : ALX => t.2.2.2.2.2.2.1) hal
          refine va_calli (va_runV (As := []) (rest := []) ⟨hx, hb, hml, hown, hwd⟩ (c_X3_next l dC dI g c adK adV v_lp3771 F_lp3771 nr H.size  hg hnr hI (by have h9 : v_lp3771 143 = v_lp3771 143 := rfl; (try rw [h9]); clear h9; have h9 : v_lp3771 100 = v 100 := (hf_lp3771 100 (by decide)).trans (hf3770 100 (by decide)); (try rw [h9]); clear h9; have h9 : v_lp3771 144 = v_lp3771 144 := rfl; (try rw [h9]); clear h9; omega)) (cwV 0 hwd (gV wk_866 wk_863 wk_864 wk_865 wk_38) rfl rfl rfl (by decide +kernel) ⟨(by show 2 + 1 ≤ fr + 8; omega), (by show 8 + (1 + 11) + (80) ≤ lc + 320; omega)⟩) ⟨PX.blind, va_recv hK hP (ci := 3) (q0 := 7) rfl rfl, fun U hU hW => ⟨rfl, PX.at hK hE hP hS hU hW⟩⟩ rfl rfl hl.1 rfl (lv_room (Nat.le_of_ble_eq_true rfl)) dX3_readSum_23 ⟨Nat.le_of_ble_eq_true rfl, Nat.le_of_ble_eq_true rfl⟩) hS (fun q _ h => (freeX hS) q h) (freeX hS) (fun r3823 u t H1 locs ht hvm hw hB hz1 hk1 hS => ?_)
          unfold BX at hB
          rw [ht] at hB
          have hP : va_P (dC, dI) classes (wX g c v_lp3771 F_lp3771 (g (44 + nr))) H1 := hB
          replace hw : (0 ≤ (v_lp3771 144).toInt ∧ r3823.toInt = -1) ∨ ((v_lp3771 144).toInt = -1 ∧ r3823.toInt = sg (v_lp3771 100) (F_lp3771 39) (v_lp3771 143).toInt ∧ (-1 ≤ r3823.toInt ∧ r3823.toInt ≤ 255) ∧ (r3823.toInt = -1 ∨ (v_lp3771 143).toInt < (v_lp3771 100).toInt)) := hw
          rw [show v_lp3771 100 = v 100 from (hf_lp3771 100 (by decide)).trans (hf3770 100 (by decide))] at hw
          rw [hby39] at hw
          have hw_r3823 := hw
          clear hw
          generalize H1 = H at hP hS ⊢
          have rr_r3823 := i32_rng r3823
          refine lv_bipush (v := 45) hx hb dX3_readSum_26 (by decide) ?_
          refine lv_icmp_ne (tgt := 75) hx hb dX3_readSum_28 (by decide) (fun c3824 => ?_) (fun c3824 => ?_)
          · skip
            have t3825 := cv_ne (a := r3823.toInt) rfl (b := 45) (by decide) c3824
            have hP9 : va_P (dC, dI) classes (wX g c v_lp3771 F_lp3771 (g (44 + nr))) H := hP
            exact W.vret hx hb hr (fun t ht hW => ⟨⟨(v_lp3771, F_lp3771, (g (44 + nr))), rfl, ⟨hI, hal, rfl, (frC (by decide) hf_lp3771 (frC (by decide) hf3770 (fun _ _ => rfl))), (by show ((0 ≤ (v 144).toInt ∧ (v_lp3771 144).toInt = (v 144).toInt ∧ (v_lp3771 143).toInt = (v 143).toInt) ∨ ((v 144).toInt = -1 ∧ (v 143).toInt ≤ (v_lp3771 143).toInt ∧ (v_lp3771 143).toInt ≤ (v 100).toInt ∧ ((v_lp3771 144).toInt = -1 ∨ (v_lp3771 144).toInt = (v_lp3771 143).toInt))) ∧ rdX (v 100) (F 39) 3 p0.toInt (v 144).toInt (v 143).toInt (v_lp3771 144).toInt (v_lp3771 143).toInt; refine ⟨by omega, fun hf => ?_⟩; exact go.sE (t3774 hf) (fun q9 => by first | omega | (have s9 := sg_end (n := (v 100)) (B := F 39) (h := (v_lp3771 143).toInt) (by omega); omega)))⟩, (by show va_P _ _ _ t.heap; rw [ht]; exact hP9)⟩, hS.F ht⟩) hS.2.2 dX3_readSum_75
          · skip
            have t3826 := cv_eq (a := r3823.toInt) rfl (b := 45) (by decide) c3824
            refine lv_aload_n hx hb dX3_readSum_31 rfl (lv_at hl 1 rfl) ?_
            have t3827 : 0 ≤ (v 100).toInt ∧ (v 100).toInt ≤ 120 := by have h9 := hI.1 100 _ _ rfl; rw [show v_lp3771 100 = v 100 from (hf_lp3771 100 (by decide)).trans (hf3770 100 (by decide))] at h9; exact h9
            have hby39 : F_lp3771 39 = F 39 := congrArg (fun t : ALX => t.2.2.2.2.2.2.1) hal
            refine va_calli (va_runV (As := []) (rest := []) ⟨hx, hb, hml, hown, hwd⟩ (c_X3_next l dC dI g c adK adV v_lp3771 F_lp3771 nr H.size  hg hnr hI (by have h9 : v_lp3771 143 = v_lp3771 143 := rfl; (try rw [h9]); clear h9; have h9 : v_lp3771 100 = v 100 := (hf_lp3771 100 (by decide)).trans (hf3770 100 (by decide)); (try rw [h9]); clear h9; have h9 : v_lp3771 144 = v_lp3771 144 := rfl; (try rw [h9]); clear h9; omega)) (cwV 0 hwd (gV wk_866 wk_863 wk_864 wk_865 wk_38) rfl rfl rfl (by decide +kernel) ⟨(by show 2 + 1 ≤ fr + 8; omega), (by show 8 + (1 + 11) + (80) ≤ lc + 320; omega)⟩) ⟨PX.blind, va_recv hK hP (ci := 3) (q0 := 7) rfl rfl, fun U hU hW => ⟨rfl, PX.at hK hE hP hS hU hW⟩⟩ rfl rfl hl.1 rfl (lv_room (Nat.le_of_ble_eq_true rfl)) dX3_readSum_32 ⟨Nat.le_of_ble_eq_true rfl, Nat.le_of_ble_eq_true rfl⟩) hS (fun q _ h => (freeX hS) q h) (freeX hS) (fun r3828 u t H1 locs ht hvm hw hB hz1 hk1 hS => ?_)
            unfold BX at hB
            rw [ht] at hB
            have hP : va_P (dC, dI) classes (wX g c v_lp3771 F_lp3771 (g (44 + nr))) H1 := hB
            replace hw : (0 ≤ (v_lp3771 144).toInt ∧ r3828.toInt = -1) ∨ ((v_lp3771 144).toInt = -1 ∧ r3828.toInt = sg (v_lp3771 100) (F_lp3771 39) (v_lp3771 143).toInt ∧ (-1 ≤ r3828.toInt ∧ r3828.toInt ≤ 255) ∧ (r3828.toInt = -1 ∨ (v_lp3771 143).toInt < (v_lp3771 100).toInt)) := hw
            rw [show v_lp3771 100 = v 100 from (hf_lp3771 100 (by decide)).trans (hf3770 100 (by decide))] at hw
            rw [hby39] at hw
            have hw_r3828 := hw
            clear hw
            generalize H1 = H at hP hS ⊢
            have rr_r3828 := i32_rng r3828
            refine lv_bipush (v := 43) hx hb dX3_readSum_35 (by decide) ?_
            refine lv_icmp_ne (tgt := 44) hx hb dX3_readSum_37 (by decide) (fun c3829 => ?_) (fun c3829 => ?_)
            · skip
              have t3830 := cv_ne (a := r3828.toInt) rfl (b := 43) (by decide) c3829
              refine lv_bipush (v := 6) hx hb dX3_readSum_44 (by decide) ?_
              refine lv_istore_n (lv' := [(3, .int 6), (2, .int x2_lp3771), (0, .ref (g 7)), (1, .int p0)]) hx hb dX3_readSum_46 rfl hl (by decide) rfl (fun ls hl => ?_)
              refine lv_aload_n hx hb dX3_readSum_47 rfl (lv_at hl 2 rfl) ?_
              refine lv_dup hx hb dX3_readSum_48 rfl ?_
              refine va_get (D := (dC, dI)) (ci := 3) (v := .int (v_lp3771 143)) (C := RX3) (T := TX3) (N := 5) hx hb hwd inA_X3 hown hK hP 7 rfl rfl 3 (by decide) (hwd _ wk_853) (fun _ h9 => h9) rfl dX3_readSum_49 ?_
              refine lv_iconst (v := 1) hx hb dX3_readSum_52 (by decide) ?_
              refine lv_iadd hx hb dX3_readSum_53 ?_
              refine lv_topi (fun z3831 e3832 => ?_)
              try (have t3833 := tadd e3832 (a := (v_lp3771 143).toInt) rfl (b := 1) (by decide) (by omega))
              refine va_put (D := (dC, dI)) (ci := 3) (v := .int z3831) (ty := .int) (C := RX3) (T := TX3) (N := 5) (fs := fsX_7 g v_lp3771 (g (44 + nr))) hx hb hwd inA_X3 tyX3 tyX3_ok nmX3 hown hK hP (DX hg) hS 7 rfl rfl 3 (by decide) (hwd _ wk_853) (fun _ h9 => h9) rfl (by decide +kernel) rfl rfl (Nat.le_of_ble_eq_true rfl) dX3_readSum_54 (fun H locs hP _ hS => ?_)
              have hP := va_P_eq (pX_143 g c _ _ _ _) hP
              have hI := IX.put0 hI 143 z3831 rfl
              have hal := (alX_v _ _ 143 z3831 (by decide) (by decide) (by decide) (by decide)).trans hal
              refine lv_aload_n hx hb dX3_readSum_57 rfl (lv_at hl 2 rfl) ?_
              refine lv_iload_n hx hb dX3_readSum_58 rfl (lv_at hl 3 rfl) ?_
              have t3834 : 0 ≤ (v 100).toInt ∧ (v 100).toInt ≤ 120 := by have h9 := hI.1 100 _ _ rfl; rw [show (va_up v_lp3771 143 z3831) 100 = v 100 from (hf_lp3771 100 (by decide)).trans (hf3770 100 (by decide))] at h9; exact h9
              have hby39 : F_lp3771 39 = F 39 := congrArg (fun t : ALX => t.2.2.2.2.2.2.1) hal
              refine va_callv (va_runV (As := [.int p0]) (rest := []) ⟨hx, hb, hml, hown, hwd⟩ (c_X3_readProduct D fr lc rO rC l dC dI g c adK adV (va_up v_lp3771 143 z3831) F_lp3771 nr H.size p0 hg hnr hI (by have h9 : (va_up v_lp3771 143 z3831) 143 = z3831 := rfl; (try rw [h9]); clear h9; have h9 : (va_up v_lp3771 143 z3831) 100 = v 100 := (hf_lp3771 100 (by decide)).trans (hf3770 100 (by decide)); (try rw [h9]); clear h9; have h9 : (va_up v_lp3771 143 z3831) 144 = v_lp3771 144 := rfl; (try rw [h9]); clear h9; omega) (by omega)) (cwV 1 hwd (gV wk_989 wk_991 wk_992 wk_993 wk_38) rfl rfl rfl (by decide +kernel) ⟨(by show fr + 7 + 1 ≤ fr + 8; omega), (by show 8 + (4 + 11) + (lc + 280) ≤ lc + 320; omega)⟩) ⟨PX.blind, va_recv hK hP (ci := 3) (q0 := 7) rfl rfl, fun U hU hW => ⟨rfl, PX.at hK hE hP hS hU hW⟩⟩ rfl rfl hl.1 rfl (lv_room (Nat.le_of_ble_eq_true rfl)) dX3_readSum_59 ⟨Nat.le_of_ble_eq_true rfl, Nat.le_of_ble_eq_true rfl⟩) hS (fun q _ h => (freeX hS) q h) (freeX hS) (fun u t H1 locs ht hvm hw hB hz1 hk1 hS => ?_)
              unfold BX at hB
              rw [ht] at hB
              obtain ⟨v3836, F3837, rc9⟩ := u
              obtain ⟨hI, hal9, hrc, hf3838, hw⟩ := hw
              dsimp only at hI hal9 hrc hB hf3838 hw
              rw [hrc] at hB
              have hal := hal9.trans hal
              have hP : va_P (dC, dI) classes (wX g c v3836 F3837 (g (44 + nr))) H1 := hB
              replace hw : ((0 ≤ (v_lp3771 144).toInt ∧ (v3836 144).toInt = (v_lp3771 144).toInt ∧ (v3836 143).toInt = z3831.toInt) ∨ ((v_lp3771 144).toInt = -1 ∧ z3831.toInt ≤ (v3836 143).toInt ∧ (v3836 143).toInt ≤ ((va_up v_lp3771 143 z3831) 100).toInt ∧ ((v3836 144).toInt = -1 ∨ (v3836 144).toInt = (v3836 143).toInt))) ∧ rdX ((va_up v_lp3771 143 z3831) 100) (F_lp3771 39) 1 p0.toInt (v_lp3771 144).toInt z3831.toInt (v3836 144).toInt (v3836 143).toInt := hw
              rw [show (va_up v_lp3771 143 z3831) 100 = v 100 from (hf_lp3771 100 (by decide)).trans (hf3770 100 (by decide))] at hw
              rw [hby39] at hw
              have hw_r3835 := hw
              clear hw
              generalize H1 = H at hP hS ⊢
              refine lv_aload_n hx hb dX3_readSum_62 rfl (lv_at hl 2 rfl) ?_
              refine lv_iload_n hx hb dX3_readSum_63 rfl (lv_at hl 0 rfl) ?_
              refine lv_iconst (v := 0) hx hb dX3_readSum_64 (by decide) ?_
              refine va_calli (va_runV (As := [.int 6, .int 0]) (rest := []) ⟨hx, hb, hml, hown, hwd⟩ (c_X3_put l dC dI g c adK adV v3836 F3837 nr H.size 6 0 hg hnr hI (by have : (6 : Int32).toInt = 6 := (by decide); omega) (by have : (0 : Int32).toInt = 0 := (by decide); omega)) (cwV 2 hwd (gV wk_882 wk_879 wk_880 wk_881 wk_38) rfl rfl rfl (by decide +kernel) ⟨(by show 1 + 1 ≤ fr + 8; omega), (by show 8 + (3 + 11) + (40) ≤ lc + 320; omega)⟩) ⟨PX.blind, va_recv hK hP (ci := 3) (q0 := 7) rfl rfl, fun U hU hW => ⟨rfl, PX.at hK hE hP hS hU hW⟩⟩ rfl rfl hl.1 rfl (lv_room (Nat.le_of_ble_eq_true rfl)) dX3_readSum_65 ⟨Nat.le_of_ble_eq_true rfl, Nat.le_of_ble_eq_true rfl⟩) hS (fun q _ h => (freeX hS) q h) (freeX hS) (fun r3839 u t H1 locs ht hvm hw hB hz1 hk1 hS => ?_)
              unfold BX at hB
              rw [ht] at hB
              obtain ⟨v3840, F3841, rc9⟩ := u
              obtain ⟨hI, hal9, hrc, hf3842, hw⟩ := hw
              dsimp only at hI hal9 hrc hB hf3842 hw
              rw [hrc] at hB
              have hal := hal9.trans hal
              have hP : va_P (dC, dI) classes (wX g c v3840 F3841 (g (44 + nr))) H1 := hB
              have hw : -1 ≤ r3839.toInt ∧ r3839.toInt ≤ 119 := hw
              have k3843 : (6 : Int32).toInt = 6 := by decide
              have k3844 : (0 : Int32).toInt = 0 := by decide
              generalize H1 = H at hP hS ⊢
              have hw_r3839 := hw
              refine lv_pop hx hb dX3_readSum_68 rfl ?_
              obtain ⟨z3845, e3846⟩ : ∃ y : Int32, y = x2_lp3771 + 1 := ⟨_, rfl⟩
              try (have t3847 := tadd e3846 rfl (b := 1) (by decide) (by omega))
              refine lv_iinc (v := z3845) (lv' := [(2, .int z3845), (3, .int 6), (0, .ref (g 7)), (1, .int p0)]) hx hb dX3_readSum_69 hl (k := 1) rfl (by rw [e3846]; rfl) (by decide) rfl (fun ls hl => ?_)
              refine lv_goto (tgt := 7) hx hb dX3_readSum_72 (by decide) ?_
              exact ih_lp3771 z3845 v3840 F3841 _ _ _ (by omega) (by have h9 : v3840 144 = v3836 144 := hf3842 144 (by decide); (try rw [h9]); clear h9; have h9 : v3840 143 = v3836 143 := hf3842 143 (by decide); (try rw [h9]); clear h9; omega) (by have h9 : v3840 144 = v3836 144 := hf3842 144 (by decide); (try rw [h9]); clear h9; have h9 : v3840 143 = v3836 143 := hf3842 143 (by decide); (try rw [h9]); clear h9; exact fun hf => go.sl (t3774 hf) (by omega) (by omega) (by omega) (hw_r3835.2 (by omega))) (by omega) (frC (by decide) hf3842 (frC (by decide) hf3838 (frU (by decide) hf_lp3771))) hI hal hP hS (lv_sub hl [0, 2, 3] rfl)
            · skip
              have t3848 := cv_eq (a := r3828.toInt) rfl (b := 43) (by decide) c3829
              refine lv_iconst (v := 5) hx hb dX3_readSum_40 (by decide) ?_
              refine lv_goto (tgt := 46) hx hb dX3_readSum_41 (by decide) ?_
              refine lv_istore_n (lv' := [(3, .int 5), (2, .int x2_lp3771), (0, .ref (g 7)), (1, .int p0)]) hx hb dX3_readSum_46 rfl hl (by decide) rfl (fun ls hl => ?_)
              refine lv_aload_n hx hb dX3_readSum_47 rfl (lv_at hl 2 rfl) ?_
              refine lv_dup hx hb dX3_readSum_48 rfl ?_
              refine va_get (D := (dC, dI)) (ci := 3) (v := .int (v_lp3771 143)) (C := RX3) (T := TX3) (N := 5) hx hb hwd inA_X3 hown hK hP 7 rfl rfl 3 (by decide) (hwd _ wk_853) (fun _ h9 => h9) rfl dX3_readSum_49 ?_
              refine lv_iconst (v := 1) hx hb dX3_readSum_52 (by decide) ?_
              refine lv_iadd hx hb dX3_readSum_53 ?_
              refine lv_topi (fun z3849 e3850 => ?_)
              try (have t3851 := tadd e3850 (a := (v_lp3771 143).toInt) rfl (b := 1) (by decide) (by omega))
              refine va_put (D := (dC, dI)) (ci := 3) (v := .int z3849) (ty := .int) (C := RX3) (T := TX3) (N := 5) (fs := fsX_7 g v_lp3771 (g (44 + nr))) hx hb hwd inA_X3 tyX3 tyX3_ok nmX3 hown hK hP (DX hg) hS 7 rfl rfl 3 (by decide) (hwd _ wk_853) (fun _ h9 => h9) rfl (by decide +kernel) rfl rfl (Nat.le_of_ble_eq_true rfl) dX3_readSum_54 (fun H locs hP _ hS => ?_)
              have hP := va_P_eq (pX_143 g c _ _ _ _) hP
              have hI := IX.put0 hI 143 z3849 rfl
              have hal := (alX_v _ _ 143 z3849 (by decide) (by decide) (by decide) (by decide)).trans hal
              refine lv_aload_n hx hb dX3_readSum_57 rfl (lv_at hl 2 rfl) ?_
              refine lv_iload_n hx hb dX3_readSum_58 rfl (lv_at hl 3 rfl) ?_
              have t3852 : 0 ≤ (v 100).toInt ∧ (v 100).toInt ≤ 120 := by have h9 := hI.1 100 _ _ rfl; rw [show (va_up v_lp3771 143 z3849) 100 = v 100 from (hf_lp3771 100 (by decide)).trans (hf3770 100 (by decide))] at h9; exact h9
              have hby39 : F_lp3771 39 = F 39 := congrArg (fun t : ALX => t.2.2.2.2.2.2.1) hal
              refine va_callv (va_runV (As := [.int p0]) (rest := []) ⟨hx, hb, hml, hown, hwd⟩ (c_X3_readProduct D fr lc rO rC l dC dI g c adK adV (va_up v_lp3771 143 z3849) F_lp3771 nr H.size p0 hg hnr hI (by have h9 : (va_up v_lp3771 143 z3849) 143 = z3849 := rfl; (try rw [h9]); clear h9; have h9 : (va_up v_lp3771 143 z3849) 100 = v 100 := (hf_lp3771 100 (by decide)).trans (hf3770 100 (by decide)); (try rw [h9]); clear h9; have h9 : (va_up v_lp3771 143 z3849) 144 = v_lp3771 144 := rfl; (try rw [h9]); clear h9; omega) (by omega)) (cwV 1 hwd (gV wk_989 wk_991 wk_992 wk_993 wk_38) rfl rfl rfl (by decide +kernel) ⟨(by show fr + 7 + 1 ≤ fr + 8; omega), (by show 8 + (4 + 11) + (lc + 280) ≤ lc + 320; omega)⟩) ⟨PX.blind, va_recv hK hP (ci := 3) (q0 := 7) rfl rfl, fun U hU hW => ⟨rfl, PX.at hK hE hP hS hU hW⟩⟩ rfl rfl hl.1 rfl (lv_room (Nat.le_of_ble_eq_true rfl)) dX3_readSum_59 ⟨Nat.le_of_ble_eq_true rfl, Nat.le_of_ble_eq_true rfl⟩) hS (fun q _ h => (freeX hS) q h) (freeX hS) (fun u t H1 locs ht hvm hw hB hz1 hk1 hS => ?_)
              unfold BX at hB
              rw [ht] at hB
              obtain ⟨v3854, F3855, rc9⟩ := u
              obtain ⟨hI, hal9, hrc, hf3856, hw⟩ := hw
              dsimp only at hI hal9 hrc hB hf3856 hw
              rw [hrc] at hB
              have hal := hal9.trans hal
              have hP : va_P (dC, dI) classes (wX g c v3854 F3855 (g (44 + nr))) H1 := hB
              replace hw : ((0 ≤ (v_lp3771 144).toInt ∧ (v3854 144).toInt = (v_lp3771 144).toInt ∧ (v3854 143).toInt = z3849.toInt) ∨ ((v_lp3771 144).toInt = -1 ∧ z3849.toInt ≤ (v3854 143).toInt ∧ (v3854 143).toInt ≤ ((va_up v_lp3771 143 z3849) 100).toInt ∧ ((v3854 144).toInt = -1 ∨ (v3854 144).toInt = (v3854 143).toInt))) ∧ rdX ((va_up v_lp3771 143 z3849) 100) (F_lp3771 39) 1 p0.toInt (v_lp3771 144).toInt z3849.toInt (v3854 144).toInt (v3854 143).toInt := hw
              rw [show (va_up v_lp3771 143 z3849) 100 = v 100 from (hf_lp3771 100 (by decide)).trans (hf3770 100 (by decide))] at hw
              rw [hby39] at hw
              have hw_r3853 := hw
              clear hw
              generalize H1 = H at hP hS ⊢
              refine lv_aload_n hx hb dX3_readSum_62 rfl (lv_at hl 2 rfl) ?_
              refine lv_iload_n hx hb dX3_readSum_63 rfl (lv_at hl 0 rfl) ?_
              refine lv_iconst (v := 0) hx hb dX3_readSum_64 (by decide) ?_
              refine va_calli (va_runV (As := [.int 5, .int 0]) (rest := []) ⟨hx, hb, hml, hown, hwd⟩ (c_X3_put l dC dI g c adK adV v3854 F3855 nr H.size 5 0 hg hnr hI (by have : (5 : Int32).toInt = 5 := (by decide); omega) (by have : (0 : Int32).toInt = 0 := (by decide); omega)) (cwV 2 hwd (gV wk_882 wk_879 wk_880 wk_881 wk_38) rfl rfl rfl (by decide +kernel) ⟨(by show 1 + 1 ≤ fr + 8; omega), (by show 8 + (3 + 11) + (40) ≤ lc + 320; omega)⟩) ⟨PX.blind, va_recv hK hP (ci := 3) (q0 := 7) rfl rfl, fun U hU hW => ⟨rfl, PX.at hK hE hP hS hU hW⟩⟩ rfl rfl hl.1 rfl (lv_room (Nat.le_of_ble_eq_true rfl)) dX3_readSum_65 ⟨Nat.le_of_ble_eq_true rfl, Nat.le_of_ble_eq_true rfl⟩) hS (fun q _ h => (freeX hS) q h) (freeX hS) (fun r3857 u t H1 locs ht hvm hw hB hz1 hk1 hS => ?_)
              unfold BX at hB
              rw [ht] at hB
              obtain ⟨v3858, F3859, rc9⟩ := u
              obtain ⟨hI, hal9, hrc, hf3860, hw⟩ := hw
              dsimp only at hI hal9 hrc hB hf3860 hw
              rw [hrc] at hB
              have hal := hal9.trans hal
              have hP : va_P (dC, dI) classes (wX g c v3858 F3859 (g (44 + nr))) H1 := hB
              have hw : -1 ≤ r3857.toInt ∧ r3857.toInt ≤ 119 := hw
              have k3861 : (5 : Int32).toInt = 5 := by decide
              have k3862 : (0 : Int32).toInt = 0 := by decide
              generalize H1 = H at hP hS ⊢
              have hw_r3857 := hw
              refine lv_pop hx hb dX3_readSum_68 rfl ?_
              obtain ⟨z3863, e3864⟩ : ∃ y : Int32, y = x2_lp3771 + 1 := ⟨_, rfl⟩
              try (have t3865 := tadd e3864 rfl (b := 1) (by decide) (by omega))
              refine lv_iinc (v := z3863) (lv' := [(2, .int z3863), (3, .int 5), (0, .ref (g 7)), (1, .int p0)]) hx hb dX3_readSum_69 hl (k := 1) rfl (by rw [e3864]; rfl) (by decide) rfl (fun ls hl => ?_)
              refine lv_goto (tgt := 7) hx hb dX3_readSum_72 (by decide) ?_
              exact ih_lp3771 z3863 v3858 F3859 _ _ _ (by omega) (by have h9 : v3858 144 = v3854 144 := hf3860 144 (by decide); (try rw [h9]); clear h9; have h9 : v3858 143 = v3854 143 := hf3860 143 (by decide); (try rw [h9]); clear h9; omega) (by have h9 : v3858 144 = v3854 144 := hf3860 144 (by decide); (try rw [h9]); clear h9; have h9 : v3858 143 = v3854 143 := hf3860 143 (by decide); (try rw [h9]); clear h9; exact fun hf => go.sl (t3774 hf) (by omega) (by omega) (by omega) (hw_r3853.2 (by omega))) (by omega) (frC (by decide) hf3860 (frC (by decide) hf3856 (frU (by decide) hf_lp3771))) hI hal hP hS (lv_sub hl [0, 2, 3] rfl)
  obtain ⟨n9, hn9⟩ : ∃ n : Nat, 2147483648 - 0 ≤ (n : Int) := ⟨((2147483648 - 0 : Int)).toNat, by omega⟩
  exact lp3771 n9 0 v3768 F3769 H _ ls (by have : (0 : Int32).toInt = 0 := (by decide); omega) (by have h9 : v3768 144 = v3768 144 := rfl; (try rw [h9]); clear h9; have h9 : v3768 143 = v3768 143 := rfl; (try rw [h9]); clear h9; have z9 : (0 : Int32).toInt = 0 := (by decide); omega) (by have h9 : v3768 144 = v3768 144 := rfl; (try rw [h9]); clear h9; have h9 : v3768 143 = v3768 143 := rfl; (try rw [h9]); clear h9; exact fun hf => go.s (hw_r3767.2 hf)) (by have : (0 : Int32).toInt = 0 := (by decide); omega) (fun _ _ => rfl) hI hal hP hS hl
