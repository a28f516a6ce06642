set_option maxHeartbeats 8000000 in
set_option maxRecDepth 100000 in
theorem c_X9_chain (l : Launch) (dC : Nat → ClassId) (dI : Nat → Nat → Nat) (g : Nat → Nat) (c : Nat → ClassId) (adK adV : Nat → Nat) (v : Nat → Int32) (F : Nat → Nat → Int32) (rc sz : Nat) (p0 : Int32) (p1 : Int32) (hg : injX g) (hI : IX v F) (h0 : 0 ≤ p0.toInt ∧ p0.toInt ≤ 99) (h1 : 0 ≤ p1.toInt ∧ p1.toInt ≤ 499) : Met l yX9_chain (Cond.code yX9_chain cX9_chain 6 none :: wA) ({ frames := 1, cells := 0, slots := 0, locals := 40 }) (va_Pc [.ref (g 4), .int p0, .int p1] (PX dC dI g c adK adV v F rc sz)) (va_Qv (fun (u : StX) => IX u.1 u.2.1 ∧ alX u.1 u.2.1 = alX v F ∧ u.2.2 = rc ∧ (∀ k, k ∉ ([] : List Nat) → u.1 k = v k) ∧ True) (BX dC dI g c) (AX g sz)) 0 0 (AX g sz) := by
  refine Met.ofW (cc := cX9_chain) (maxL := 6) (ret := none) (by decide) rfl ?_
  intro p e s m args below meth c0 s₁ B hml hv
  obtain ⟨rfl, hsz, hP, hK, hE⟩ := hv
  have hx := B.exec
  have hb := B.bytes
  have hr := B.returns
  have hts := atoms_spec (ws := Cond.code yX9_chain cX9_chain 6 none :: wA) B.pre
  have hwd : ∀ w ∈ wA, w.before _ s = true := fun w h => hts w (List.mem_cons_of_mem _ h)
  have hown : s.vm.findClass RX9 = some m.cls := findClass_of_methodNamed B.named
  have hlocks := B.notSynchronized
  subst hsz
  have hl := lv_entry ([.ref (g 4), .int p0, .int p1]) (n := 6) (Nat.le_of_ble_eq_true rfl)
  rw [lg_entry_eq]
  generalize (lg_sl ([.ref (g 4), .int p0, .int p1]) ++ List.replicate (6 - (lg_sl ([.ref (g 4), .int p0, .int p1])).length) Slot.unset).toArray = ls at hl ⊢
  have hl : lv_has ls 6 [(0, .ref (g 4)), (1, .int p0), (2, .int p1)] := hl
  obtain ⟨H, eH⟩ : ∃ z, z = s.heap := ⟨_, rfl⟩
  have hP : va_P (dC, dI) classes (wX g c v F rc) H := by rw [eH]; exact hP
  have hS : va_S (AX g s.heap.size) s.heap H [] := by rw [eH]; exact va_S.rf
  refine my_heap eH ?_
  have hal : alX v F = alX v F := rfl
  have rp0 := i32_rng p0
  have rp1 := i32_rng p1
  refine lv_iconst (v := (-1)) hx hb dX9_chain_0 (by decide) ?_
  refine lv_istore_n (lv' := [(3, .int (-1)), (0, .ref (g 4)), (1, .int p0), (2, .int p1)]) hx hb dX9_chain_1 rfl hl (by decide) rfl (fun ls hl => ?_)
  refine lv_aload_n hx hb dX9_chain_2 rfl (lv_at hl 1 rfl) ?_
  refine va_get (D := (dC, dI)) (ci := 9) (v := .ref (g 38)) (C := RX9) (T := TX9) (N := 11) hx hb hwd inA_X9 hown hK hP 4 rfl rfl 10 (by decide) (hwd _ wk_90) (fun _ h9 => h9) rfl dX9_chain_3 ?_
  refine lv_iload_n hx hb dX9_chain_6 rfl (lv_at hl 2 rfl) ?_
  refine va_iald hx hb hK hP 38 26 rfl rfl (i := p0) (vin (a := p0.toInt) rfl (by omega)) dX9_chain_7 ?_
  refine lv_topi (fun z503 e504 => ?_)
  have t505 : -1 ≤ z503.toInt ∧ z503.toInt ≤ 499 := by rw [e504]; exact hI.2 38 _ _ rfl _
  refine lv_istore (lv' := [(4, .int z503), (3, .int (-1)), (0, .ref (g 4)), (1, .int p0), (2, .int p1)]) hx hb dX9_chain_8 hl (by decide) rfl (fun ls hl => ?_)
  refine lv_iconst (v := 0) hx hb dX9_chain_10 (by decide) ?_
  refine lv_istore (lv' := [(5, .int 0), (4, .int z503), (3, .int (-1)), (0, .ref (g 4)), (1, .int p0), (2, .int p1)]) hx hb dX9_chain_11 hl (by decide) rfl (fun ls hl => ?_)
  have lp506 : ∀ (n : Nat) (x5_lp506 : Int32) (x4_lp506 : Int32) (x3_lp506 : Int32) (v_lp506 : Nat → Int32) (F_lp506 : Nat → Nat → Int32) (H : Heap) (locs : List Loc) (ls : Array Slot), (0 ≤ x5_lp506.toInt) → (-1 ≤ x4_lp506.toInt) → (x4_lp506.toInt ≤ 499) → (-1 ≤ x3_lp506.toInt) → (x3_lp506.toInt ≤ 499) → (2147483648 - x5_lp506.toInt ≤ (n : Int)) → (∀ k, k ∉ ([] : List Nat) → v_lp506 k = v k) → IX v_lp506 F_lp506 → alX v_lp506 F_lp506 = alX v F → va_P (dC, dI) classes (wX g c v_lp506 F_lp506 rc) H → va_S (AX g s.heap.size) s.heap H locs → lv_has ls 6 [(5, .int x5_lp506), (4, .int x4_lp506), (3, .int x3_lp506), (0, .ref (g 4)), (1, .int p0), (2, .int p1)] → W p l e (headSpec (Cond.code yX9_chain cX9_chain 6 none :: wA) ({ frames := 1, cells := 0, slots := 0, locals := 40 })).room s m ([.ref (g 4), .int p0, .int p1] : List Value).toArray below meth c0 H locs 0 0 (MQ below (va_Qv (fun (u : StX) => IX u.1 u.2.1 ∧ alX u.1 u.2.1 = alX v F ∧ u.2.2 = rc ∧ (∀ k, k ∉ ([] : List Nat) → u.1 k = v k) ∧ True) (BX dC dI g c) (AX g s.heap.size)) ([.ref (g 4), .int p0, .int p1] : List Value).toArray s 0 0 (AX g s.heap.size)) (F0 m 13 ls []) := by
    intro n
    induction n with
    | zero =>
      intro x5_lp506 x4_lp506 x3_lp506 v_lp506 F_lp506 H locs ls t507 t508 t509 t510 t511 hm hf_lp506 hI hal hP hS hl
      exfalso
      have := i32_rng x5_lp506
      have := i32_rng x4_lp506
      have := i32_rng x3_lp506
      have hI1 := hI.1
      omega
    | succ n ih_lp506 =>
      intro x5_lp506 x4_lp506 x3_lp506 v_lp506 F_lp506 H locs ls t507 t508 t509 t510 t511 hm hf_lp506 hI hal hP hS hl
      have rx5_lp506 := i32_rng x5_lp506
      have rx4_lp506 := i32_rng x4_lp506
      have rx3_lp506 := i32_rng x3_lp506
      refine lv_iload hx hb dX9_chain_13 (lv_at hl 0 rfl) ?_
      refine lv_sipush (v := 500) hx hb dX9_chain_15 (by decide) ?_
      refine lv_icmp_ge (tgt := 61) hx hb dX9_chain_18 (by decide) (fun c512 => ?_) (fun c512 => ?_)
      · skip
        have t513 := cv_le (a := 500) (by decide) (b := x5_lp506.toInt) rfl c512
        refine lv_aload_n hx hb dX9_chain_61 rfl (lv_at hl 3 rfl) ?_
        refine va_get (D := (dC, dI)) (ci := 9) (v := .ref (g 37)) (C := RX9) (T := TX9) (N := 11) hx hb hwd inA_X9 hown hK hP 4 rfl rfl 9 (by decide) (hwd _ wk_89) (fun _ h9 => h9) rfl dX9_chain_62 ?_
        refine lv_iload_n hx hb dX9_chain_65 rfl (lv_at hl 5 rfl) ?_
        refine lv_iload hx hb dX9_chain_66 (lv_at hl 1 rfl) ?_
        refine va_iast hx hb hK hP (DX hg) hS 37 25 rfl rfl (i := p1) (x := x4_lp506) (vin (a := p1.toInt) rfl (by omega)) dX9_chain_68 (fun H locs hP _ hS => ?_)
        have hP := va_P_eq (sX_37 g c _ _ _ _) hP
        have hI := IX.store hI 37 (p1 : Int32).toNatClampNeg x4_lp506 rfl (by omega)
        have hal := (alX_F _ _ 37 (upd (F_lp506 37) (p1 : Int32).toNatClampNeg x4_lp506) (by decide) (by decide)).trans hal
        have hP : va_P (dC, dI) classes (wX g c v_lp506 (va_up F_lp506 37 (upd (F_lp506 37) (p1 : Int32).toNatClampNeg x4_lp506)) rc) H := hP
        generalize (va_up F_lp506 37 (upd (F_lp506 37) (p1 : Int32).toNatClampNeg x4_lp506)) = F514 at hP hI hal
        refine lv_iload_n hx hb dX9_chain_69 rfl (lv_at hl 2 rfl) ?_
        refine lv_iconst (v := (-1)) hx hb dX9_chain_70 (by decide) ?_
        refine lv_icmp_ne (tgt := 84) hx hb dX9_chain_71 (by decide) (fun c515 => ?_) (fun c515 => ?_)
        · skip
          have t516 := cv_ne (a := x3_lp506.toInt) rfl (b := (-1)) (by decide) c515
          refine lv_aload_n hx hb dX9_chain_84 rfl (lv_at hl 3 rfl) ?_
          refine va_get (D := (dC, dI)) (ci := 9) (v := .ref (g 37)) (C := RX9) (T := TX9) (N := 11) hx hb hwd inA_X9 hown hK hP 4 rfl rfl 9 (by decide) (hwd _ wk_89) (fun _ h9 => h9) rfl dX9_chain_85 ?_
          refine lv_iload_n hx hb dX9_chain_88 rfl (lv_at hl 2 rfl) ?_
          refine lv_iload_n hx hb dX9_chain_89 rfl (lv_at hl 5 rfl) ?_
          refine va_iast hx hb hK hP (DX hg) hS 37 25 rfl rfl (i := x3_lp506) (x := p1) (vin (a := x3_lp506.toInt) rfl (by omega)) dX9_chain_90 (fun H locs hP _ hS => ?_)
          have hP := va_P_eq (sX_37 g c _ _ _ _) hP
          have hI := IX.store hI 37 (x3_lp506 : Int32).toNatClampNeg p1 rfl (by omega)
          have hal := (alX_F _ _ 37 (upd (F514 37) (x3_lp506 : Int32).toNatClampNeg p1) (by decide) (by decide)).trans hal
          have hP : va_P (dC, dI) classes (wX g c v_lp506 (va_up F514 37 (upd (F514 37) (x3_lp506 : Int32).toNatClampNeg p1)) rc) H := hP
          generalize (va_up F514 37 (upd (F514 37) (x3_lp506 : Int32).toNatClampNeg p1)) = F517 at hP hI hal
          have hP9 : va_P (dC, dI) classes (wX g c v_lp506 F517 rc) H := hP
          exact W.vret hx hb hr (fun t ht hW => ⟨⟨(v_lp506, F517, rc), rfl, ⟨hI, hal, rfl, (frC (by decide) hf_lp506 (fun _ _ => rfl)), trivial⟩, (by show va_P _ _ _ t.heap; rw [ht]; exact hP9)⟩, hS.F ht⟩) hS.2.2 dX9_chain_91
        · skip
          have t518 := cv_eq (a := x3_lp506.toInt) rfl (b := (-1)) (by decide) c515
          refine lv_aload_n hx hb dX9_chain_74 rfl (lv_at hl 3 rfl) ?_
          refine va_get (D := (dC, dI)) (ci := 9) (v := .ref (g 38)) (C := RX9) (T := TX9) (N := 11) hx hb hwd inA_X9 hown hK hP 4 rfl rfl 10 (by decide) (hwd _ wk_90) (fun _ h9 => h9) rfl dX9_chain_75 ?_
          refine lv_iload_n hx hb dX9_chain_78 rfl (lv_at hl 4 rfl) ?_
          refine lv_iload_n hx hb dX9_chain_79 rfl (lv_at hl 5 rfl) ?_
          refine va_iast hx hb hK hP (DX hg) hS 38 26 rfl rfl (i := p0) (x := p1) (vin (a := p0.toInt) rfl (by omega)) dX9_chain_80 (fun H locs hP _ hS => ?_)
          have hP := va_P_eq (sX_38 g c _ _ _ _) hP
          have hI := IX.store hI 38 (p0 : Int32).toNatClampNeg p1 rfl (by omega)
          have hal := (alX_F _ _ 38 (upd (F514 38) (p0 : Int32).toNatClampNeg p1) (by decide) (by decide)).trans hal
          have hP : va_P (dC, dI) classes (wX g c v_lp506 (va_up F514 38 (upd (F514 38) (p0 : Int32).toNatClampNeg p1)) rc) H := hP
          generalize (va_up F514 38 (upd (F514 38) (p0 : Int32).toNatClampNeg p1)) = F519 at hP hI hal
          refine lv_goto (tgt := 91) hx hb dX9_chain_81 (by decide) ?_
          have hP9 : va_P (dC, dI) classes (wX g c v_lp506 F519 rc) H := hP
          exact W.vret hx hb hr (fun t ht hW => ⟨⟨(v_lp506, F519, rc), rfl, ⟨hI, hal, rfl, (frC (by decide) hf_lp506 (fun _ _ => rfl)), trivial⟩, (by show va_P _ _ _ t.heap; rw [ht]; exact hP9)⟩, hS.F ht⟩) hS.2.2 dX9_chain_91
      · skip
        have t520 := cv_nle (a := 500) (by decide) (b := x5_lp506.toInt) rfl c512
        refine lv_iload hx hb dX9_chain_21 (lv_at hl 1 rfl) ?_
        refine lv_iconst (v := (-1)) hx hb dX9_chain_23 (by decide) ?_
        refine lv_icmp_eq (tgt := 61) hx hb dX9_chain_24 (by decide) (fun c521 => ?_) (fun c521 => ?_)
        · skip
          have t522 := cv_eq (a := x4_lp506.toInt) rfl (b := (-1)) (by decide) c521
          refine lv_aload_n hx hb dX9_chain_61 rfl (lv_at hl 3 rfl) ?_
          refine va_get (D := (dC, dI)) (ci := 9) (v := .ref (g 37)) (C := RX9) (T := TX9) (N := 11) hx hb hwd inA_X9 hown hK hP 4 rfl rfl 9 (by decide) (hwd _ wk_89) (fun _ h9 => h9) rfl dX9_chain_62 ?_
          refine lv_iload_n hx hb dX9_chain_65 rfl (lv_at hl 5 rfl) ?_
          refine lv_iload hx hb dX9_chain_66 (lv_at hl 1 rfl) ?_
          refine va_iast hx hb hK hP (DX hg) hS 37 25 rfl rfl (i := p1) (x := x4_lp506) (vin (a := p1.toInt) rfl (by omega)) dX9_chain_68 (fun H locs hP _ hS => ?_)
          have hP := va_P_eq (sX_37 g c _ _ _ _) hP
          have hI := IX.store hI 37 (p1 : Int32).toNatClampNeg x4_lp506 rfl (by omega)
          have hal := (alX_F _ _ 37 (upd (F_lp506 37) (p1 : Int32).toNatClampNeg x4_lp506) (by decide) (by decide)).trans hal
          have hP : va_P (dC, dI) classes (wX g c v_lp506 (va_up F_lp506 37 (upd (F_lp506 37) (p1 : Int32).toNatClampNeg x4_lp506)) rc) H := hP
          generalize (va_up F_lp506 37 (upd (F_lp506 37) (p1 : Int32).toNatClampNeg x4_lp506)) = F523 at hP hI hal
          refine lv_iload_n hx hb dX9_chain_69 rfl (lv_at hl 2 rfl) ?_
          refine lv_iconst (v := (-1)) hx hb dX9_chain_70 (by decide) ?_
          refine lv_icmp_ne (tgt := 84) hx hb dX9_chain_71 (by decide) (fun c524 => ?_) (fun c524 => ?_)
          · skip
            have t525 := cv_ne (a := x3_lp506.toInt) rfl (b := (-1)) (by decide) c524
            refine lv_aload_n hx hb dX9_chain_84 rfl (lv_at hl 3 rfl) ?_
            refine va_get (D := (dC, dI)) (ci := 9) (v := .ref (g 37)) (C := RX9) (T := TX9) (N := 11) hx hb hwd inA_X9 hown hK hP 4 rfl rfl 9 (by decide) (hwd _ wk_89) (fun _ h9 => h9) rfl dX9_chain_85 ?_
            refine lv_iload_n hx hb dX9_chain_88 rfl (lv_at hl 2 rfl) ?_
            refine lv_iload_n hx hb dX9_chain_89 rfl (lv_at hl 5 rfl) ?_
            refine va_iast hx hb hK hP (DX hg) hS 37 25 rfl rfl (i := x3_lp506) (x := p1) (vin (a := x3_lp506.toInt) rfl (by omega)) dX9_chain_90 (fun H locs hP _ hS => ?_)
            have hP := va_P_eq (sX_37 g c _ _ _ _) hP
            have hI := IX.store hI 37 (x3_lp506 : Int32).toNatClampNeg p1 rfl (by omega)
            have hal := (alX_F _ _ 37 (upd (F523 37) (x3_lp506 : Int32).toNatClampNeg p1) (by decide) (by decide)).trans hal
            have hP : va_P (dC, dI) classes (wX g c v_lp506 (va_up F523 37 (upd (F523 37) (x3_lp506 : Int32).toNatClampNeg p1)) rc) H := hP
            generalize (va_up F523 37 (upd (F523 37) (x3_lp506 : Int32).toNatClampNeg p1)) = F526 at hP hI hal
            have hP9 : va_P (dC, dI) classes (wX g c v_lp506 F526 rc) H := hP
            exact W.vret hx hb hr (fun t ht hW => ⟨⟨(v_lp506, F526, rc), rfl, ⟨hI, hal, rfl, (frC (by decide) hf_lp506 (fun _ _ => rfl)), trivial⟩, (by show va_P _ _ _ t.heap; rw [ht]; exact hP9)⟩, hS.F ht⟩) hS.2.2 dX9_chain_91
          · skip
            have t527 := cv_eq (a := x3_lp506.toInt) rfl (b := (-1)) (by decide) c524
            refine lv_aload_n hx hb dX9_chain_74 rfl (lv_at hl 3 rfl) ?_
            refine va_get (D := (dC, dI)) (ci := 9) (v := .ref (g 38)) (C := RX9) (T := TX9) (N := 11) hx hb hwd inA_X9 hown hK hP 4 rfl rfl 10 (by decide) (hwd _ wk_90) (fun _ h9 => h9) rfl dX9_chain_75 ?_
            refine lv_iload_n hx hb dX9_chain_78 rfl (lv_at hl 4 rfl) ?_
            refine lv_iload_n hx hb dX9_chain_79 rfl (lv_at hl 5 rfl) ?_
            refine va_iast hx hb hK hP (DX hg) hS 38 26 rfl rfl (i := p0) (x := p1) (vin (a := p0.toInt) rfl (by omega)) dX9_chain_80 (fun H locs hP _ hS => ?_)
            have hP := va_P_eq (sX_38 g c _ _ _ _) hP
            have hI := IX.store hI 38 (p0 : Int32).toNatClampNeg p1 rfl (by omega)
            have hal := (alX_F _ _ 38 (upd (F523 38) (p0 : Int32).toNatClampNeg p1) (by decide) (by decide)).trans hal
            have hP : va_P (dC, dI) classes (wX g c v_lp506 (va_up F523 38 (upd (F523 38) (p0 : Int32).toNatClampNeg p1)) rc) H := hP
            generalize (va_up F523 38 (upd (F523 38) (p0 : Int32).toNatClampNeg p1)) = F528 at hP hI hal
            refine lv_goto (tgt := 91) hx hb dX9_chain_81 (by decide) ?_
            have hP9 : va_P (dC, dI) classes (wX g c v_lp506 F528 rc) H := hP
            exact W.vret hx hb hr (fun t ht hW => ⟨⟨(v_lp506, F528, rc), rfl, ⟨hI, hal, rfl, (frC (by decide) hf_lp506 (fun _ _ => rfl)), trivial⟩, (by show va_P _ _ _ t.heap; rw [ht]; exact hP9)⟩, hS.F ht⟩) hS.2.2 dX9_chain_91
        · skip
          have t529 := cv_ne (a := x4_lp506.toInt) rfl (b := (-1)) (by decide) c521
          refine lv_aload_n hx hb dX9_chain_27 rfl (lv_at hl 3 rfl) ?_
          refine va_get (D := (dC, dI)) (ci := 9) (v := .ref (g 30)) (C := RX9) (T := TX9) (N := 11) hx hb hwd inA_X9 hown hK hP 4 rfl rfl 2 (by decide) (hwd _ wk_81) (fun _ h9 => h9) rfl dX9_chain_28 ?_
          refine lv_iload hx hb dX9_chain_31 (lv_at hl 1 rfl) ?_
          refine va_iald hx hb hK hP 30 18 rfl rfl (i := x4_lp506) (vin (a := x4_lp506.toInt) rfl (by omega)) dX9_chain_33 ?_
          refine lv_topi (fun z530 e531 => ?_)
          refine lv_aload_n hx hb dX9_chain_34 rfl (lv_at hl 3 rfl) ?_
          refine va_get (D := (dC, dI)) (ci := 9) (v := .ref (g 30)) (C := RX9) (T := TX9) (N := 11) hx hb hwd inA_X9 hown hK hP 4 rfl rfl 2 (by decide) (hwd _ wk_81) (fun _ h9 => h9) rfl dX9_chain_35 ?_
          refine lv_iload_n hx hb dX9_chain_38 rfl (lv_at hl 5 rfl) ?_
          refine va_iald hx hb hK hP 30 18 rfl rfl (i := p1) (vin (a := p1.toInt) rfl (by omega)) dX9_chain_39 ?_
          refine lv_topi (fun z532 e533 => ?_)
          refine lv_icmp_gt (tgt := 61) hx hb dX9_chain_40 (by decide) (fun c534 => ?_) (fun c534 => ?_)
          · skip
            have t535 := cv_lt (a := z532.toInt) rfl (b := z530.toInt) rfl c534
            refine lv_aload_n hx hb dX9_chain_61 rfl (lv_at hl 3 rfl) ?_
            refine va_get (D := (dC, dI)) (ci := 9) (v := .ref (g 37)) (C := RX9) (T := TX9) (N := 11) hx hb hwd inA_X9 hown hK hP 4 rfl rfl 9 (by decide) (hwd _ wk_89) (fun _ h9 => h9) rfl dX9_chain_62 ?_
            refine lv_iload_n hx hb dX9_chain_65 rfl (lv_at hl 5 rfl) ?_
            refine lv_iload hx hb dX9_chain_66 (lv_at hl 1 rfl) ?_
            refine va_iast hx hb hK hP (DX hg) hS 37 25 rfl rfl (i := p1) (x := x4_lp506) (vin (a := p1.toInt) rfl (by omega)) dX9_chain_68 (fun H locs hP _ hS => ?_)
            have hP := va_P_eq (sX_37 g c _ _ _ _) hP
            have hI := IX.store hI 37 (p1 : Int32).toNatClampNeg x4_lp506 rfl (by omega)
            have hal := (alX_F _ _ 37 (upd (F_lp506 37) (p1 : Int32).toNatClampNeg x4_lp506) (by decide) (by decide)).trans hal
            have hP : va_P (dC, dI) classes (wX g c v_lp506 (va_up F_lp506 37 (upd (F_lp506 37) (p1 : Int32).toNatClampNeg x4_lp506)) rc) H := hP
            generalize (va_up F_lp506 37 (upd (F_lp506 37) (p1 : Int32).toNatClampNeg x4_lp506)) = F536 at hP hI hal
            refine lv_iload_n hx hb dX9_chain_69 rfl (lv_at hl 2 rfl) ?_
            refine lv_iconst (v := (-1)) hx hb dX9_chain_70 (by decide) ?_
            refine lv_icmp_ne (tgt := 84) hx hb dX9_chain_71 (by decide) (fun c537 => ?_) (fun c537 => ?_)
            · skip
              have t538 := cv_ne (a := x3_lp506.toInt) rfl (b := (-1)) (by decide) c537
              refine lv_aload_n hx hb dX9_chain_84 rfl (lv_at hl 3 rfl) ?_
              refine va_get (D := (dC, dI)) (ci := 9) (v := .ref (g 37)) (C := RX9) (T := TX9) (N := 11) hx hb hwd inA_X9 hown hK hP 4 rfl rfl 9 (by decide) (hwd _ wk_89) (fun _ h9 => h9) rfl dX9_chain_85 ?_
              refine lv_iload_n hx hb dX9_chain_88 rfl (lv_at hl 2 rfl) ?_
              refine lv_iload_n hx hb dX9_chain_89 rfl (lv_at hl 5 rfl) ?_
              refine va_iast hx hb hK hP (DX hg) hS 37 25 rfl rfl (i := x3_lp506) (x := p1) (vin (a := x3_lp506.toInt) rfl (by omega)) dX9_chain_90 (fun H locs hP _ hS => ?_)
              have hP := va_P_eq (sX_37 g c _ _ _ _) hP
              have hI := IX.store hI 37 (x3_lp506 : Int32).toNatClampNeg p1 rfl (by omega)
              have hal := (alX_F _ _ 37 (upd (F536 37) (x3_lp506 : Int32).toNatClampNeg p1) (by decide) (by decide)).trans hal
              have hP : va_P (dC, dI) classes (wX g c v_lp506 (va_up F536 37 (upd (F536 37) (x3_lp506 : Int32).toNatClampNeg p1)) rc) H := hP
              generalize (va_up F536 37 (upd (F536 37) (x3_lp506 : Int32).toNatClampNeg p1)) = F539 at hP hI hal
              have hP9 : va_P (dC, dI) classes (wX g c v_lp506 F539 rc) H := hP
              exact W.vret hx hb hr (fun t ht hW => ⟨⟨(v_lp506, F539, rc), rfl, ⟨hI, hal, rfl, (frC (by decide) hf_lp506 (fun _ _ => rfl)), trivial⟩, (by show va_P _ _ _ t.heap; rw [ht]; exact hP9)⟩, hS.F ht⟩) hS.2.2 dX9_chain_91
            · skip
              have t540 := cv_eq (a := x3_lp506.toInt) rfl (b := (-1)) (by decide) c537
              refine lv_aload_n hx hb dX9_chain_74 rfl (lv_at hl 3 rfl) ?_
              refine va_get (D := (dC, dI)) (ci := 9) (v := .ref (g 38)) (C := RX9) (T := TX9) (N := 11) hx hb hwd inA_X9 hown hK hP 4 rfl rfl 10 (by decide) (hwd _ wk_90) (fun _ h9 => h9) rfl dX9_chain_75 ?_
              refine lv_iload_n hx hb dX9_chain_78 rfl (lv_at hl 4 rfl) ?_
              refine lv_iload_n hx hb dX9_chain_79 rfl (lv_at hl 5 rfl) ?_
              refine va_iast hx hb hK hP (DX hg) hS 38 26 rfl rfl (i := p0) (x := p1) (vin (a := p0.toInt) rfl (by omega)) dX9_chain_80 (fun H locs hP _ hS => ?_)
              have hP := va_P_eq (sX_38 g c _ _ _ _) hP
              have hI := IX.store hI 38 (p0 : Int32).toNatClampNeg p1 rfl (by omega)
              have hal := (alX_F _ _ 38 (upd (F536 38) (p0 : Int32).toNatClampNeg p1) (by decide) (by decide)).trans hal
              have hP : va_P (dC, dI) classes (wX g c v_lp506 (va_up F536 38 (upd (F536 38) (p0 : Int32).toNatClampNeg p1)) rc) H := hP
              generalize (va_up F536 38 (upd (F536 38) (p0 : Int32).toNatClampNeg p1)) = F541 at hP hI hal
              refine lv_goto (tgt := 91) hx hb dX9_chain_81 (by decide) ?_
              have hP9 : va_P (dC, dI) classes (wX g c v_lp506 F541 rc) H := hP
              exact W.vret hx hb hr (fun t ht hW => ⟨⟨(v_lp506, F541, rc), rfl, ⟨hI, hal, rfl, (frC (by decide) hf_lp506 (fun _ _ => rfl)), trivial⟩, (by show va_P _ _ _ t.heap; rw [ht]; exact hP9)⟩, hS.F ht⟩) hS.2.2 dX9_chain_91
          · skip
            have t542 := cv_nlt (a := z532.toInt) rfl (b := z530.toInt) rfl c534
            refine lv_iload hx hb dX9_chain_43 (lv_at hl 1 rfl) ?_
            refine lv_istore_n (lv' := [(3, .int x4_lp506), (5, .int x5_lp506), (4, .int x4_lp506), (0, .ref (g 4)), (1, .int p0), (2, .int p1)]) hx hb dX9_chain_45 rfl hl (by decide) rfl (fun ls hl => ?_)
            refine lv_aload_n hx hb dX9_chain_46 rfl (lv_at hl 3 rfl) ?_
            refine va_get (D := (dC, dI)) (ci := 9) (v := .ref (g 37)) (C := RX9) (T := TX9) (N := 11) hx hb hwd inA_X9 hown hK hP 4 rfl rfl 9 (by decide) (hwd _ wk_89) (fun _ h9 => h9) rfl dX9_chain_47 ?_
            refine lv_iload hx hb dX9_chain_50 (lv_at hl 2 rfl) ?_
            refine va_iald hx hb hK hP 37 25 rfl rfl (i := x4_lp506) (vin (a := x4_lp506.toInt) rfl (by omega)) dX9_chain_52 ?_
            refine lv_topi (fun z543 e544 => ?_)
            have t545 : -1 ≤ z543.toInt ∧ z543.toInt ≤ 499 := by rw [e544]; exact hI.2 37 _ _ rfl _
            refine lv_istore (lv' := [(4, .int z543), (3, .int x4_lp506), (5, .int x5_lp506), (0, .ref (g 4)), (1, .int p0), (2, .int p1)]) hx hb dX9_chain_53 hl (by decide) rfl (fun ls hl => ?_)
            obtain ⟨z546, e547⟩ : ∃ y : Int32, y = x5_lp506 + 1 := ⟨_, rfl⟩
            try (have t548 := tadd e547 rfl (b := 1) (by decide) (by omega))
            refine lv_iinc (v := z546) (lv' := [(5, .int z546), (4, .int z543), (3, .int x4_lp506), (0, .ref (g 4)), (1, .int p0), (2, .int p1)]) hx hb dX9_chain_55 hl (k := 2) rfl (by rw [e547]; rfl) (by decide) rfl (fun ls hl => ?_)
            refine lv_goto (tgt := 13) hx hb dX9_chain_58 (by decide) ?_
            exact ih_lp506 z546 z543 x4_lp506 v_lp506 F_lp506 _ _ _ (by omega) (by omega) (by omega) (by omega) (by omega) (by omega) hf_lp506 hI hal hP hS (lv_sub hl [0, 1, 2, 3, 4, 5] rfl)
  obtain ⟨n9, hn9⟩ : ∃ n : Nat, 2147483648 - 0 ≤ (n : Int) := ⟨((2147483648 - 0 : Int)).toNat, by omega⟩
  exact lp506 n9 0 z503 (-1) v F H _ ls (by have : (0 : Int32).toInt = 0 := (by decide); have : ((-1) : Int32).toInt = (-1) := (by decide); omega) (by have : (0 : Int32).toInt = 0 := (by decide); have : ((-1) : Int32).toInt = (-1) := (by decide); omega) (by have : (0 : Int32).toInt = 0 := (by decide); have : ((-1) : Int32).toInt = (-1) := (by decide); omega) (by have : (0 : Int32).toInt = 0 := (by decide); have : ((-1) : Int32).toInt = (-1) := (by decide); omega) (by have : (0 : Int32).toInt = 0 := (by decide); have : ((-1) : Int32).toInt = (-1) := (by decide); omega) (by have : (0 : Int32).toInt = 0 := (by decide); have : ((-1) : Int32).toInt = (-1) := (by decide); omega) (fun _ _ => rfl) hI hal hP hS hl
set_option maxHeartbeats 8000000 in
set_option maxRecDepth 100000 in
theorem c_X9_add (l : Launch) (dC : Nat → ClassId) (dI : Nat → Nat → Nat) (g : Nat → Nat) (c : Nat → ClassId) (adK adV : Nat → Nat) (v : Nat → Int32) (F : Nat → Nat → Int32) (rc sz : Nat) (p0 : Int32) (p1 : Int32) (p2 : Int32) (p3 : Int32) (p4 : Int32) (hg : injX g) (hI : IX v F) (h0 : 0 ≤ p0.toInt ∧ p0.toInt ≤ 99) : Met l yX9_add (Cond.code yX9_add cX9_add 6 (some .int) :: wA) ({ frames := 2, cells := 0, slots := 0, locals := 80 }) (va_Pc [.ref (g 4), .int p0, .int p1, .int p2, .int p3, .int p4] (PX dC dI g c adK adV v F rc sz)) (va_Qi (fun (r : Int32) (u : StX) => IX u.1 u.2.1 ∧ alX u.1 u.2.1 = alX v F ∧ u.2.2 = rc ∧ (∀ k, k ∉ ([80] : List Nat) → u.1 k = v k) ∧ -1 ≤ r.toInt ∧ r.toInt ≤ 499) (BX dC dI g c) (AX g sz)) 0 0 (AX g sz) := by
  refine Met.ofW (cc := cX9_add) (maxL := 6) (ret := (some .int)) (by decide) rfl ?_
  intro p e s m args below meth c0 s₁ B hml hv
  obtain ⟨rfl, hsz, hP, hK, hE⟩ := hv
  have hx := B.exec
  have hb := B.bytes
  have hr := B.returns
  have hts := atoms_spec (ws := Cond.code yX9_add cX9_add 6 (some .int) :: wA) B.pre
  have hwd : ∀ w ∈ wA, w.before _ s = true := fun w h => hts w (List.mem_cons_of_mem _ h)
  have hown : s.vm.findClass RX9 = some m.cls := findClass_of_methodNamed B.named
  have hlocks := B.notSynchronized
  subst hsz
  have hl := lv_entry ([.ref (g 4), .int p0, .int p1, .int p2, .int p3, .int p4]) (n := 6) (Nat.le_of_ble_eq_true rfl)
  rw [lg_entry_eq]
  generalize (lg_sl ([.ref (g 4), .int p0, .int p1, .int p2, .int p3, .int p4]) ++ List.replicate (6 - (lg_sl ([.ref (g 4), .int p0, .int p1, .int p2, .int p3, .int p4])).length) Slot.unset).toArray = ls at hl ⊢
  have hl : lv_has ls 6 [(0, .ref (g 4)), (1, .int p0), (2, .int p1), (3, .int p2), (4, .int p3), (5, .int p4)] := hl
  obtain ⟨H, eH⟩ : ∃ z, z = s.heap := ⟨_, rfl⟩
  have hP : va_P (dC, dI) classes (wX g c v F rc) H := by rw [eH]; exact hP
  have hS : va_S (AX g s.heap.size) s.heap H [] := by rw [eH]; exact va_S.rf
  refine my_heap eH ?_
  have hal : alX v F = alX v F := rfl
  have rp0 := i32_rng p0
  have rp1 := i32_rng p1
  have rp2 := i32_rng p2
  have rp3 := i32_rng p3
  have rp4 := i32_rng p4
  refine lv_aload_n hx hb dX9_add_0 rfl (lv_at hl 0 rfl) ?_
  refine va_get (D := (dC, dI)) (ci := 9) (v := .int (v 80)) (C := RX9) (T := TX9) (N := 11) hx hb hwd inA_X9 hown hK hP 4 rfl rfl 0 (by decide) (hwd _ wk_566) (fun _ h9 => h9) rfl dX9_add_1 ?_
  have t549 : 0 ≤ (v 80).toInt ∧ (v 80).toInt ≤ 500 := hI.1 80 _ _ rfl
  refine lv_sipush (v := 500) hx hb dX9_add_4 (by decide) ?_
  refine lv_icmp_lt (tgt := 12) hx hb dX9_add_7 (by decide) (fun c550 => ?_) (fun c550 => ?_)
  · skip
    have t551 := cv_lt (a := (v 80).toInt) rfl (b := 500) (by decide) c550
    refine lv_aload_n hx hb dX9_add_12 rfl (lv_at hl 0 rfl) ?_
    refine va_get (D := (dC, dI)) (ci := 9) (v := .ref (g 29)) (C := RX9) (T := TX9) (N := 11) hx hb hwd inA_X9 hown hK hP 4 rfl rfl 1 (by decide) (hwd _ wk_80) (fun _ h9 => h9) rfl dX9_add_13 ?_
    refine lv_aload_n hx hb dX9_add_16 rfl (lv_at hl 0 rfl) ?_
    refine va_get (D := (dC, dI)) (ci := 9) (v := .int (v 80)) (C := RX9) (T := TX9) (N := 11) hx hb hwd inA_X9 hown hK hP 4 rfl rfl 0 (by decide) (hwd _ wk_566) (fun _ h9 => h9) rfl dX9_add_17 ?_
    have t552 : 0 ≤ (v 80).toInt ∧ (v 80).toInt ≤ 500 := hI.1 80 _ _ rfl
    refine lv_iload_n hx hb dX9_add_20 rfl (lv_at hl 2 rfl) ?_
    refine va_iast hx hb hK hP (DX hg) hS 29 17 rfl rfl (i := (v 80)) (x := p1) (vin (a := (v 80).toInt) rfl (by omega)) dX9_add_21 (fun H locs hP _ hS => ?_)
    have hP := va_P_eq (sX_29 g c _ _ _ _) hP
    have hI := IX.store0 hI 29 (v 80 : Int32).toNatClampNeg p1 rfl
    have hal := (alX_F _ _ 29 (upd (F 29) (v 80 : Int32).toNatClampNeg p1) (by decide) (by decide)).trans hal
    have hP : va_P (dC, dI) classes (wX g c v (va_up F 29 (upd (F 29) (v 80 : Int32).toNatClampNeg p1)) rc) H := hP
    generalize (va_up F 29 (upd (F 29) (v 80 : Int32).toNatClampNeg p1)) = F553 at hP hI hal
    refine lv_aload_n hx hb dX9_add_22 rfl (lv_at hl 0 rfl) ?_
    refine va_get (D := (dC, dI)) (ci := 9) (v := .ref (g 30)) (C := RX9) (T := TX9) (N := 11) hx hb hwd inA_X9 hown hK hP 4 rfl rfl 2 (by decide) (hwd _ wk_81) (fun _ h9 => h9) rfl dX9_add_23 ?_
    refine lv_aload_n hx hb dX9_add_26 rfl (lv_at hl 0 rfl) ?_
    refine va_get (D := (dC, dI)) (ci := 9) (v := .int (v 80)) (C := RX9) (T := TX9) (N := 11) hx hb hwd inA_X9 hown hK hP 4 rfl rfl 0 (by decide) (hwd _ wk_566) (fun _ h9 => h9) rfl dX9_add_27 ?_
    have t554 : 0 ≤ (v 80).toInt ∧ (v 80).toInt ≤ 500 := hI.1 80 _ _ rfl
    refine lv_iload_n hx hb dX9_add_30 rfl (lv_at hl 3 rfl) ?_
    refine va_iast hx hb hK hP (DX hg) hS 30 18 rfl rfl (i := (v 80)) (x := p2) (vin (a := (v 80).toInt) rfl (by omega)) dX9_add_31 (fun H locs hP _ hS => ?_)
    have hP := va_P_eq (sX_30 g c _ _ _ _) hP
    have hI := IX.store0 hI 30 (v 80 : Int32).toNatClampNeg p2 rfl
    have hal := (alX_F _ _ 30 (upd (F553 30) (v 80 : Int32).toNatClampNeg p2) (by decide) (by decide)).trans hal
    have hP : va_P (dC, dI) classes (wX g c v (va_up F553 30 (upd (F553 30) (v 80 : Int32).toNatClampNeg p2)) rc) H := hP
    generalize (va_up F553 30 (upd (F553 30) (v 80 : Int32).toNatClampNeg p2)) = F555 at hP hI hal
    refine lv_aload_n hx hb dX9_add_32 rfl (lv_at hl 0 rfl) ?_
    refine va_get (D := (dC, dI)) (ci := 9) (v := .ref (g 31)) (C := RX9) (T := TX9) (N := 11) hx hb hwd inA_X9 hown hK hP 4 rfl rfl 3 (by decide) (hwd _ wk_82) (fun _ h9 => h9) rfl dX9_add_33 ?_
    refine lv_aload_n hx hb dX9_add_36 rfl (lv_at hl 0 rfl) ?_
    refine va_get (D := (dC, dI)) (ci := 9) (v := .int (v 80)) (C := RX9) (T := TX9) (N := 11) hx hb hwd inA_X9 hown hK hP 4 rfl rfl 0 (by decide) (hwd _ wk_566) (fun _ h9 => h9) rfl dX9_add_37 ?_
    have t556 : 0 ≤ (v 80).toInt ∧ (v 80).toInt ≤ 500 := hI.1 80 _ _ rfl
    refine lv_ldc (v := (-2000000000)) hx hb hown (hwd _ wk_378) dX9_add_40 ?_
    refine va_iast hx hb hK hP (DX hg) hS 31 19 rfl rfl (i := (v 80)) (x := (-2000000000)) (vin (a := (v 80).toInt) rfl (by omega)) dX9_add_42 (fun H locs hP _ hS => ?_)
    have hP := va_P_eq (sX_31 g c _ _ _ _) hP
    have hI := IX.store0 hI 31 (v 80 : Int32).toNatClampNeg (-2000000000) rfl
    have hal := (alX_F _ _ 31 (upd (F555 31) (v 80 : Int32).toNatClampNeg (-2000000000)) (by decide) (by decide)).trans hal
    have hP : va_P (dC, dI) classes (wX g c v (va_up F555 31 (upd (F555 31) (v 80 : Int32).toNatClampNeg (-2000000000))) rc) H := hP
    generalize (va_up F555 31 (upd (F555 31) (v 80 : Int32).toNatClampNeg (-2000000000))) = F557 at hP hI hal
    refine lv_aload_n hx hb dX9_add_43 rfl (lv_at hl 0 rfl) ?_
    refine va_get (D := (dC, dI)) (ci := 9) (v := .ref (g 32)) (C := RX9) (T := TX9) (N := 11) hx hb hwd inA_X9 hown hK hP 4 rfl rfl 4 (by decide) (hwd _ wk_83) (fun _ h9 => h9) rfl dX9_add_44 ?_
    refine lv_aload_n hx hb dX9_add_47 rfl (lv_at hl 0 rfl) ?_
    refine va_get (D := (dC, dI)) (ci := 9) (v := .int (v 80)) (C := RX9) (T := TX9) (N := 11) hx hb hwd inA_X9 hown hK hP 4 rfl rfl 0 (by decide) (hwd _ wk_566) (fun _ h9 => h9) rfl dX9_add_48 ?_
    have t558 : 0 ≤ (v 80).toInt ∧ (v 80).toInt ≤ 500 := hI.1 80 _ _ rfl
    refine lv_iload hx hb dX9_add_51 (lv_at hl 4 rfl) ?_
    refine va_iast hx hb hK hP (DX hg) hS 32 20 rfl rfl (i := (v 80)) (x := p3) (vin (a := (v 80).toInt) rfl (by omega)) dX9_add_53 (fun H locs hP _ hS => ?_)
    have hP := va_P_eq (sX_32 g c _ _ _ _) hP
    have hI := IX.store0 hI 32 (v 80 : Int32).toNatClampNeg p3 rfl
    have hal := (alX_F _ _ 32 (upd (F557 32) (v 80 : Int32).toNatClampNeg p3) (by decide) (by decide)).trans hal
    have hP : va_P (dC, dI) classes (wX g c v (va_up F557 32 (upd (F557 32) (v 80 : Int32).toNatClampNeg p3)) rc) H := hP
    generalize (va_up F557 32 (upd (F557 32) (v 80 : Int32).toNatClampNeg p3)) = F559 at hP hI hal
    refine lv_aload_n hx hb dX9_add_54 rfl (lv_at hl 0 rfl) ?_
    refine va_get (D := (dC, dI)) (ci := 9) (v := .ref (g 34)) (C := RX9) (T := TX9) (N := 11) hx hb hwd inA_X9 hown hK hP 4 rfl rfl 6 (by decide) (hwd _ wk_85) (fun _ h9 => h9) rfl dX9_add_55 ?_
    refine lv_aload_n hx hb dX9_add_58 rfl (lv_at hl 0 rfl) ?_
    refine va_get (D := (dC, dI)) (ci := 9) (v := .int (v 80)) (C := RX9) (T := TX9) (N := 11) hx hb hwd inA_X9 hown hK hP 4 rfl rfl 0 (by decide) (hwd _ wk_566) (fun _ h9 => h9) rfl dX9_add_59 ?_
    have t560 : 0 ≤ (v 80).toInt ∧ (v 80).toInt ≤ 500 := hI.1 80 _ _ rfl
    refine lv_iload hx hb dX9_add_62 (lv_at hl 5 rfl) ?_
    refine va_iast hx hb hK hP (DX hg) hS 34 22 rfl rfl (i := (v 80)) (x := p4) (vin (a := (v 80).toInt) rfl (by omega)) dX9_add_64 (fun H locs hP _ hS => ?_)
    have hP := va_P_eq (sX_34 g c _ _ _ _) hP
    have hI := IX.store0 hI 34 (v 80 : Int32).toNatClampNeg p4 rfl
    have hal := (alX_F _ _ 34 (upd (F559 34) (v 80 : Int32).toNatClampNeg p4) (by decide) (by decide)).trans hal
    have hP : va_P (dC, dI) classes (wX g c v (va_up F559 34 (upd (F559 34) (v 80 : Int32).toNatClampNeg p4)) rc) H := hP
    generalize (va_up F559 34 (upd (F559 34) (v 80 : Int32).toNatClampNeg p4)) = F561 at hP hI hal
    refine lv_aload_n hx hb dX9_add_65 rfl (lv_at hl 0 rfl) ?_
    refine lv_iload_n hx hb dX9_add_66 rfl (lv_at hl 1 rfl) ?_
    refine lv_aload_n hx hb dX9_add_67 rfl (lv_at hl 0 rfl) ?_
    refine va_get (D := (dC, dI)) (ci := 9) (v := .int (v 80)) (C := RX9) (T := TX9) (N := 11) hx hb hwd inA_X9 hown hK hP 4 rfl rfl 0 (by decide) (hwd _ wk_566) (fun _ h9 => h9) rfl dX9_add_68 ?_
    have t562 : 0 ≤ (v 80).toInt ∧ (v 80).toInt ≤ 500 := hI.1 80 _ _ rfl
    refine va_callv (va_runV (As := [.int p0, .int (v 80)]) (rest := []) ⟨hx, hb, hml, hown, hwd⟩ (c_X9_chain l dC dI g c adK adV v F561 rc H.size p0 (v 80) hg hI (by omega) (by omega)) (cwV 2 hwd (gV wk_587 wk_584 wk_585 wk_586 wk_22) rfl rfl rfl (by decide +kernel) ⟨Nat.le_of_ble_eq_true rfl, Nat.le_of_ble_eq_true rfl⟩) ⟨PX.blind, va_recv hK hP (ci := 9) (q0 := 4) rfl rfl, fun U hU hW => ⟨rfl, PX.at hK hE hP hS hU hW⟩⟩ rfl rfl hl.1 rfl (lv_room (Nat.le_of_ble_eq_true rfl)) dX9_add_71 ⟨Nat.le_of_ble_eq_true rfl, Nat.le_of_ble_eq_true rfl⟩) hS (fun q _ h => (freeX hS) q h) (freeX hS) (fun u t H1 locs ht hvm hw hB hz1 hk1 hS => ?_)
    unfold BX at hB
    rw [ht] at hB
    obtain ⟨v564, F565, rc9⟩ := u
    obtain ⟨hI, hal9, hrc, hf566, hw⟩ := hw
    dsimp only at hI hal9 hrc hB hf566 hw
    rw [hrc] at hB
    have hal := hal9.trans hal
    have hP : va_P (dC, dI) classes (wX g c v564 F565 rc) H1 := hB
    generalize H1 = H at hP hS ⊢
    refine lv_aload_n hx hb dX9_add_74 rfl (lv_at hl 0 rfl) ?_
    refine lv_dup hx hb dX9_add_75 rfl ?_
    refine va_get (D := (dC, dI)) (ci := 9) (v := .int (v564 80)) (C := RX9) (T := TX9) (N := 11) hx hb hwd inA_X9 hown hK hP 4 rfl rfl 0 (by decide) (hwd _ wk_566) (fun _ h9 => h9) rfl dX9_add_76 ?_
    refine my_top (v := v 80) (hf566 80 (by decide)) ?_
    have t567 : 0 ≤ (v 80).toInt ∧ (v 80).toInt ≤ 500 := by have h9 := hI.1 80 _ _ rfl; rw [show v564 80 = v 80 from hf566 80 (by decide)] at h9; exact h9
    refine lv_dup_x1 hx hb dX9_add_79 rfl rfl ?_
    refine lv_iconst (v := 1) hx hb dX9_add_80 (by decide) ?_
    refine lv_iadd hx hb dX9_add_81 ?_
    refine lv_topi (fun z568 e569 => ?_)
    try (have t570 := tadd e569 (a := (v 80).toInt) rfl (b := 1) (by decide) (by omega))
    refine va_put (D := (dC, dI)) (ci := 9) (v := .int z568) (ty := .int) (C := RX9) (T := TX9) (N := 11) (fs := fsX_4 g v564 rc) hx hb hwd inA_X9 tyX9 tyX9_ok nmX9 hown hK hP (DX hg) hS 4 rfl rfl 0 (by decide) (hwd _ wk_566) (fun _ h9 => h9) rfl (by decide +kernel) rfl rfl (Nat.le_of_ble_eq_true rfl) dX9_add_82 (fun H locs hP _ hS => ?_)
    have hP := va_P_eq (pX_80 g c _ _ _ _) hP
    have hI := IX.put hI 80 z568 rfl (by omega)
    have hal := (alX_v _ _ 80 z568 (by decide) (by decide) (by decide) (by decide)).trans hal
    have hP9 : va_P (dC, dI) classes (wX g c (va_up v564 80 z568) F565 rc) H := hP
    exact W.iret (v := v 80) hx hb hr (fun t ht hW => ⟨⟨(v 80), ((va_up v564 80 z568), F565, rc), rfl, ⟨hI, hal, rfl, (frU (by decide) (frC (by decide) hf566 (fun _ _ => rfl))), by omega⟩, (by show va_P _ _ _ t.heap; rw [ht]; exact hP9)⟩, hS.F ht⟩) hS.2.2 dX9_add_85
  · skip
    have t571 := cv_nlt (a := (v 80).toInt) rfl (b := 500) (by decide) c550
    refine lv_iconst (v := (-1)) hx hb dX9_add_10 (by decide) ?_
    have hP9 : va_P (dC, dI) classes (wX g c v F rc) H := hP
    exact W.iret (v := (-1)) hx hb hr (fun t ht hW => ⟨⟨(-1), (v, F, rc), rfl, ⟨hI, hal, rfl, (fun _ _ => rfl), by have : ((-1) : Int32).toInt = (-1) := (by decide); omega⟩, (by show va_P _ _ _ t.heap; rw [ht]; exact hP9)⟩, hS.F ht⟩) hS.2.2 dX9_add_11
