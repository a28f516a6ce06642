set_option maxHeartbeats 8000000 in
set_option maxRecDepth 100000 in
theorem c_X3_readComparison (D : Int) (fr lc : Nat) (rO : RPX 0 yX3_readOperand (Cond.code yX3_readOperand cX3_readOperand 3 none) (D + 1) fr lc) (rC : RPX 6 yX3_readChoice (Cond.code yX3_readChoice cX3_readChoice 4 none) (D + 1) (fr + 4) (lc + 160)) (l : Launch) (dC : Nat → ClassId) (dI : Nat → Nat → Nat) (g : Nat → Nat) (c : Nat → ClassId) (adK adV : Nat → Nat) (v : Nat → Int32) (F : Nat → Nat → Int32) (nr sz : Nat) (p0 : Int32) (hg : injX g) (hnr : nr < 10) (hI : IX v F) (hs : (0 ≤ (v 143).toInt ∧ (v 143).toInt ≤ (v 100).toInt) ∧ ((v 144).toInt = -1 ∨ 0 ≤ (v 144).toInt)) (hq : p0.toInt = D ∧ D ≤ 8 ∧ 0 ≤ p0.toInt) : Met l yX3_readComparison (Cond.code yX3_readComparison cX3_readComparison 3 none :: wA) ({ frames := fr + 9, cells := 0, slots := 0, locals := lc + 360 }) (va_Pc [.ref (g 7), .int p0] (PX dC dI g c adK adV v F (g (44 + nr)) sz)) (va_Qv (fun (u : StX) => IX u.1 u.2.1 ∧ alX u.1 u.2.1 = alX v F ∧ u.2.2 = (g (44 + nr)) ∧ (∀ k, k ∉ ([142, 143, 144] : List Nat) → u.1 k = v k) ∧ (((0 ≤ (v 144).toInt ∧ (u.1 144).toInt = (v 144).toInt ∧ (u.1 143).toInt = (v 143).toInt) ∨ ((v 144).toInt = -1 ∧ (v 143).toInt ≤ (u.1 143).toInt ∧ (u.1 143).toInt ≤ (v 100).toInt ∧ ((u.1 144).toInt = -1 ∨ (u.1 144).toInt = (u.1 143).toInt))) ∧ rdX (v 100) (F 39) 5 p0.toInt (v 144).toInt (v 143).toInt (u.1 144).toInt (u.1 143).toInt)) (BX dC dI g c) (AX g sz)) 0 0 (AX g sz) := by
  refine Met.ofW (cc := cX3_readComparison) (maxL := 3) (ret := none) (by decide) rfl ?_
  intro p e s m args below meth c0 s₁ B hml hv
  obtain ⟨rfl, hsz, hP, hK, hE⟩ := hv
  have hx := B.exec
  have hb := B.bytes
  have hr := B.returns
  have hts := atoms_spec (ws := Cond.code yX3_readComparison cX3_readComparison 3 none :: wA) B.pre
  have hwd : ∀ w ∈ wA, w.before _ s = true := fun w h => hts w (List.mem_cons_of_mem _ h)
  have hown : s.vm.findClass RX3 = some m.cls := findClass_of_methodNamed B.named
  have hlocks := B.notSynchronized
  subst hsz
  have hl := lv_entry ([.ref (g 7), .int p0]) (n := 3) (Nat.le_of_ble_eq_true rfl)
  rw [lg_entry_eq]
  generalize (lg_sl ([.ref (g 7), .int p0]) ++ List.replicate (3 - (lg_sl ([.ref (g 7), .int p0])).length) Slot.unset).toArray = ls at hl ⊢
  have hl : lv_has ls 3 [(0, .ref (g 7)), (1, .int p0)] := hl
  obtain ⟨H, eH⟩ : ∃ z, z = s.heap := ⟨_, rfl⟩
  have hP : va_P (dC, dI) classes (wX g c v F (g (44 + nr))) H := by rw [eH]; exact hP
  have hS : va_S (AX g s.heap.size) s.heap H [] := by rw [eH]; exact va_S.rf
  refine my_heap eH ?_
  have hal : alX v F = alX v F := rfl
  have rp0 := i32_rng p0
  have hb100 : 0 ≤ (v 100).toInt ∧ (v 100).toInt ≤ 120 := hI.1 100 _ _ rfl
  refine lv_aload_n hx hb dX3_readComparison_0 rfl (lv_at hl 0 rfl) ?_
  refine lv_iload_n hx hb dX3_readComparison_1 rfl (lv_at hl 1 rfl) ?_
  have t3978 : 0 ≤ (v 100).toInt ∧ (v 100).toInt ≤ 120 := hI.1 100 _ _ rfl
  refine va_callv (va_runV (As := [.int p0]) (rest := []) ⟨hx, hb, hml, hown, hwd⟩ (c_X3_readSum D fr lc rO rC l dC dI g c adK adV v F nr H.size p0 hg hnr hI (by have h9 : v 143 = v 143 := rfl; (try rw [h9]); clear h9; have h9 : v 100 = v 100 := rfl; (try rw [h9]); clear h9; have h9 : v 144 = v 144 := rfl; (try rw [h9]); clear h9; omega) (by omega)) (cwV 1 hwd (gV wk_990 wk_892 wk_893 wk_894 wk_38) rfl rfl rfl (by decide +kernel) ⟨(by show fr + 8 + 1 ≤ fr + 9; omega), (by show 8 + (4 + 11) + (lc + 320) ≤ lc + 360; omega)⟩) ⟨PX.blind, va_recv hK hP (ci := 3) (q0 := 7) rfl rfl, fun U hU hW => ⟨rfl, PX.at hK hE hP hS hU hW⟩⟩ rfl rfl hl.1 rfl (lv_room (Nat.le_of_ble_eq_true rfl)) dX3_readComparison_2 ⟨Nat.le_of_ble_eq_true rfl, Nat.le_of_ble_eq_true rfl⟩) hS (fun q _ h => (freeX hS) q h) (freeX hS) (fun u t H1 locs ht hvm hw hB hz1 hk1 hS => ?_)
  unfold BX at hB
  rw [ht] at hB
  obtain ⟨v3980, F3981, rc9⟩ := u
  obtain ⟨hI, hal9, hrc, hf3982, hw⟩ := hw
  dsimp only at hI hal9 hrc hB hf3982 hw
  rw [hrc] at hB
  have hal := hal9.trans hal
  have hP : va_P (dC, dI) classes (wX g c v3980 F3981 (g (44 + nr))) H1 := hB
  replace hw : ((0 ≤ (v 144).toInt ∧ (v3980 144).toInt = (v 144).toInt ∧ (v3980 143).toInt = (v 143).toInt) ∨ ((v 144).toInt = -1 ∧ (v 143).toInt ≤ (v3980 143).toInt ∧ (v3980 143).toInt ≤ (v 100).toInt ∧ ((v3980 144).toInt = -1 ∨ (v3980 144).toInt = (v3980 143).toInt))) ∧ rdX (v 100) (F 39) 3 p0.toInt (v 144).toInt (v 143).toInt (v3980 144).toInt (v3980 143).toInt := hw
  have hw_r3979 := hw
  clear hw
  generalize H1 = H at hP hS ⊢
  refine lv_aload_n hx hb dX3_readComparison_5 rfl (lv_at hl 0 rfl) ?_
  have t3983 : 0 ≤ (v 100).toInt ∧ (v 100).toInt ≤ 120 := by have h9 := hI.1 100 _ _ rfl; rw [show v3980 100 = v 100 from hf3982 100 (by decide)] at h9; exact h9
  have hby39 : F3981 39 = F 39 := congrArg (fun t : ALX => t.2.2.2.2.2.2.1) hal
  refine va_calli (va_runV (As := []) (rest := []) ⟨hx, hb, hml, hown, hwd⟩ (c_X3_next l dC dI g c adK adV v3980 F3981 nr H.size  hg hnr hI (by have h9 : v3980 143 = v3980 143 := rfl; (try rw [h9]); clear h9; have h9 : v3980 100 = v 100 := hf3982 100 (by decide); (try rw [h9]); clear h9; have h9 : v3980 144 = v3980 144 := rfl; (try rw [h9]); clear h9; omega)) (cwV 0 hwd (gV wk_866 wk_863 wk_864 wk_865 wk_38) rfl rfl rfl (by decide +kernel) ⟨(by show 2 + 1 ≤ fr + 9; omega), (by show 8 + (1 + 11) + (80) ≤ lc + 360; omega)⟩) ⟨PX.blind, va_recv hK hP (ci := 3) (q0 := 7) rfl rfl, fun U hU hW => ⟨rfl, PX.at hK hE hP hS hU hW⟩⟩ rfl rfl hl.1 rfl (lv_room (Nat.le_of_ble_eq_true rfl)) dX3_readComparison_6 ⟨Nat.le_of_ble_eq_true rfl, Nat.le_of_ble_eq_true rfl⟩) hS (fun q _ h => (freeX hS) q h) (freeX hS) (fun r3984 u t H1 locs ht hvm hw hB hz1 hk1 hS => ?_)
  unfold BX at hB
  rw [ht] at hB
  have hP : va_P (dC, dI) classes (wX g c v3980 F3981 (g (44 + nr))) H1 := hB
  replace hw : (0 ≤ (v3980 144).toInt ∧ r3984.toInt = -1) ∨ ((v3980 144).toInt = -1 ∧ r3984.toInt = sg (v3980 100) (F3981 39) (v3980 143).toInt ∧ (-1 ≤ r3984.toInt ∧ r3984.toInt ≤ 255) ∧ (r3984.toInt = -1 ∨ (v3980 143).toInt < (v3980 100).toInt)) := hw
  rw [show v3980 100 = v 100 from hf3982 100 (by decide)] at hw
  rw [hby39] at hw
  have hw_r3984 := hw
  clear hw
  generalize H1 = H at hP hS ⊢
  have rr_r3984 := i32_rng r3984
  refine lv_istore_n (lv' := [(2, .int r3984), (0, .ref (g 7)), (1, .int p0)]) hx hb dX3_readComparison_9 rfl hl (by decide) rfl (fun ls hl => ?_)
  refine lv_iload_n hx hb dX3_readComparison_10 rfl (lv_at hl 0 rfl) ?_
  refine lv_bipush (v := 60) hx hb dX3_readComparison_11 (by decide) ?_
  refine lv_icmp_eq (tgt := 28) hx hb dX3_readComparison_13 (by decide) (fun c3985 => ?_) (fun c3985 => ?_)
  · skip
    have t3986 := cv_eq (a := r3984.toInt) rfl (b := 60) (by decide) c3985
    refine lv_aload_n hx hb dX3_readComparison_28 rfl (lv_at hl 1 rfl) ?_
    refine lv_dup hx hb dX3_readComparison_29 rfl ?_
    refine va_get (D := (dC, dI)) (ci := 3) (v := .int (v3980 143)) (C := RX3) (T := TX3) (N := 5) hx hb hwd inA_X3 hown hK hP 7 rfl rfl 3 (by decide) (hwd _ wk_853) (fun _ h9 => h9) rfl dX3_readComparison_30 ?_
    refine lv_iconst (v := 1) hx hb dX3_readComparison_33 (by decide) ?_
    refine lv_iadd hx hb dX3_readComparison_34 ?_
    refine lv_topi (fun z3987 e3988 => ?_)
    try (have t3989 := tadd e3988 (a := (v3980 143).toInt) rfl (b := 1) (by decide) (by omega))
    refine va_put (D := (dC, dI)) (ci := 3) (v := .int z3987) (ty := .int) (C := RX3) (T := TX3) (N := 5) (fs := fsX_7 g v3980 (g (44 + nr))) hx hb hwd inA_X3 tyX3 tyX3_ok nmX3 hown hK hP (DX hg) hS 7 rfl rfl 3 (by decide) (hwd _ wk_853) (fun _ h9 => h9) rfl (by decide +kernel) rfl rfl (Nat.le_of_ble_eq_true rfl) dX3_readComparison_35 (fun H locs hP _ hS => ?_)
    have hP := va_P_eq (pX_143 g c _ _ _ _) hP
    have hI := IX.put0 hI 143 z3987 rfl
    have hal := (alX_v _ _ 143 z3987 (by decide) (by decide) (by decide) (by decide)).trans hal
    refine lv_aload_n hx hb dX3_readComparison_38 rfl (lv_at hl 1 rfl) ?_
    refine lv_iload_n hx hb dX3_readComparison_39 rfl (lv_at hl 2 rfl) ?_
    have t3990 : 0 ≤ (v 100).toInt ∧ (v 100).toInt ≤ 120 := by have h9 := hI.1 100 _ _ rfl; rw [show (va_up v3980 143 z3987) 100 = v 100 from hf3982 100 (by decide)] at h9; exact h9
    have hby39 : F3981 39 = F 39 := congrArg (fun t : ALX => t.2.2.2.2.2.2.1) hal
    refine va_callv (va_runV (As := [.int p0]) (rest := []) ⟨hx, hb, hml, hown, hwd⟩ (c_X3_readSum D fr lc rO rC l dC dI g c adK adV (va_up v3980 143 z3987) F3981 nr H.size p0 hg hnr hI (by have h9 : (va_up v3980 143 z3987) 143 = z3987 := rfl; (try rw [h9]); clear h9; have h9 : (va_up v3980 143 z3987) 100 = v 100 := hf3982 100 (by decide); (try rw [h9]); clear h9; have h9 : (va_up v3980 143 z3987) 144 = v3980 144 := rfl; (try rw [h9]); clear h9; omega) (by omega)) (cwV 1 hwd (gV wk_990 wk_892 wk_893 wk_894 wk_38) rfl rfl rfl (by decide +kernel) ⟨(by show fr + 8 + 1 ≤ fr + 9; omega), (by show 8 + (4 + 11) + (lc + 320) ≤ lc + 360; omega)⟩) ⟨PX.blind, va_recv hK hP (ci := 3) (q0 := 7) rfl rfl, fun U hU hW => ⟨rfl, PX.at hK hE hP hS hU hW⟩⟩ rfl rfl hl.1 rfl (lv_room (Nat.le_of_ble_eq_true rfl)) dX3_readComparison_40 ⟨Nat.le_of_ble_eq_true rfl, Nat.le_of_ble_eq_true rfl⟩) hS (fun q _ h => (freeX hS) q h) (freeX hS) (fun u t H1 locs ht hvm hw hB hz1 hk1 hS => ?_)
    unfold BX at hB
    rw [ht] at hB
    obtain ⟨v3992, F3993, rc9⟩ := u
    obtain ⟨hI, hal9, hrc, hf3994, hw⟩ := hw
    dsimp only at hI hal9 hrc hB hf3994 hw
    rw [hrc] at hB
    have hal := hal9.trans hal
    have hP : va_P (dC, dI) classes (wX g c v3992 F3993 (g (44 + nr))) H1 := hB
    replace hw : ((0 ≤ (v3980 144).toInt ∧ (v3992 144).toInt = (v3980 144).toInt ∧ (v3992 143).toInt = z3987.toInt) ∨ ((v3980 144).toInt = -1 ∧ z3987.toInt ≤ (v3992 143).toInt ∧ (v3992 143).toInt ≤ ((va_up v3980 143 z3987) 100).toInt ∧ ((v3992 144).toInt = -1 ∨ (v3992 144).toInt = (v3992 143).toInt))) ∧ rdX ((va_up v3980 143 z3987) 100) (F3981 39) 3 p0.toInt (v3980 144).toInt z3987.toInt (v3992 144).toInt (v3992 143).toInt := hw
    rw [show (va_up v3980 143 z3987) 100 = v 100 from hf3982 100 (by decide)] at hw
    rw [hby39] at hw
    have hw_r3991 := hw
    clear hw
    generalize H1 = H at hP hS ⊢
    refine lv_aload_n hx hb dX3_readComparison_43 rfl (lv_at hl 1 rfl) ?_
    refine lv_iload_n hx hb dX3_readComparison_44 rfl (lv_at hl 0 rfl) ?_
    refine lv_bipush (v := 60) hx hb dX3_readComparison_45 (by decide) ?_
    refine lv_icmp_ne (tgt := 55) hx hb dX3_readComparison_47 (by decide) (fun c3995 => ?_) (fun c3995 => ?_)
    · skip
      have t3996 := cv_ne (a := r3984.toInt) rfl (b := 60) (by decide) c3995
      refine lv_iload_n hx hb dX3_readComparison_55 rfl (lv_at hl 0 rfl) ?_
      refine lv_bipush (v := 61) hx hb dX3_readComparison_56 (by decide) ?_
      refine lv_icmp_ne (tgt := 66) hx hb dX3_readComparison_58 (by decide) (fun c3997 => ?_) (fun c3997 => ?_)
      · skip
        have t3998 := cv_ne (a := r3984.toInt) rfl (b := 61) (by decide) c3997
        refine lv_bipush (v := 11) hx hb dX3_readComparison_66 (by decide) ?_
        refine lv_iconst (v := 0) hx hb dX3_readComparison_68 (by decide) ?_
        refine va_calli (va_runV (As := [.int 11, .int 0]) (rest := []) ⟨hx, hb, hml, hown, hwd⟩ (c_X3_put l dC dI g c adK adV v3992 F3993 nr H.size 11 0 hg hnr hI (by have : (11 : Int32).toInt = 11 := (by decide); omega) (by have : (0 : Int32).toInt = 0 := (by decide); omega)) (cwV 2 hwd (gV wk_882 wk_879 wk_880 wk_881 wk_38) rfl rfl rfl (by decide +kernel) ⟨(by show 1 + 1 ≤ fr + 9; omega), (by show 8 + (3 + 11) + (40) ≤ lc + 360; omega)⟩) ⟨PX.blind, va_recv hK hP (ci := 3) (q0 := 7) rfl rfl, fun U hU hW => ⟨rfl, PX.at hK hE hP hS hU hW⟩⟩ rfl rfl hl.1 rfl (lv_room (Nat.le_of_ble_eq_true rfl)) dX3_readComparison_69 ⟨Nat.le_of_ble_eq_true rfl, Nat.le_of_ble_eq_true rfl⟩) hS (fun q _ h => (freeX hS) q h) (freeX hS) (fun r3999 u t H1 locs ht hvm hw hB hz1 hk1 hS => ?_)
        unfold BX at hB
        rw [ht] at hB
        obtain ⟨v4000, F4001, rc9⟩ := u
        obtain ⟨hI, hal9, hrc, hf4002, hw⟩ := hw
        dsimp only at hI hal9 hrc hB hf4002 hw
        rw [hrc] at hB
        have hal := hal9.trans hal
        have hP : va_P (dC, dI) classes (wX g c v4000 F4001 (g (44 + nr))) H1 := hB
        have hw : -1 ≤ r3999.toInt ∧ r3999.toInt ≤ 119 := hw
        have k4003 : (11 : Int32).toInt = 11 := by decide
        have k4004 : (0 : Int32).toInt = 0 := by decide
        generalize H1 = H at hP hS ⊢
        have hw_r3999 := hw
        refine lv_pop hx hb dX3_readComparison_72 rfl ?_
        have hP9 : va_P (dC, dI) classes (wX g c v4000 F4001 (g (44 + nr))) H := hP
        exact W.vret hx hb hr (fun t ht hW => ⟨⟨(v4000, F4001, (g (44 + nr))), rfl, ⟨hI, hal, rfl, (frC (by decide) hf4002 (frC (by decide) hf3994 (frU (by decide) (frC (by decide) hf3982 (fun _ _ => rfl))))), (by show ((0 ≤ (v 144).toInt ∧ (v4000 144).toInt = (v 144).toInt ∧ (v4000 143).toInt = (v 143).toInt) ∨ ((v 144).toInt = -1 ∧ (v 143).toInt ≤ (v4000 143).toInt ∧ (v4000 143).toInt ≤ (v 100).toInt ∧ ((v4000 144).toInt = -1 ∨ (v4000 144).toInt = (v4000 143).toInt))) ∧ rdX (v 100) (F 39) 5 p0.toInt (v 144).toInt (v 143).toInt (v4000 144).toInt (v4000 143).toInt; rw [show v4000 144 = v3992 144 from hf4002 144 (by decide)]; rw [show v4000 143 = v3992 143 from hf4002 143 (by decide)]; refine ⟨by omega, fun hf => ?_⟩; exact rd.c1 (hw_r3979.2 hf) (by omega) (by omega) (by omega) (hw_r3991.2 (by omega)))⟩, (by show va_P _ _ _ t.heap; rw [ht]; exact hP9)⟩, hS.F ht⟩) hS.2.2 dX3_readComparison_73
      · skip
        have t4005 := cv_eq (a := r3984.toInt) rfl (b := 61) (by decide) c3997
        refine lv_bipush (v := 10) hx hb dX3_readComparison_61 (by decide) ?_
        refine lv_goto (tgt := 68) hx hb dX3_readComparison_63 (by decide) ?_
        refine lv_iconst (v := 0) hx hb dX3_readComparison_68 (by decide) ?_
        refine va_calli (va_runV (As := [.int 10, .int 0]) (rest := []) ⟨hx, hb, hml, hown, hwd⟩ (c_X3_put l dC dI g c adK adV v3992 F3993 nr H.size 10 0 hg hnr hI (by have : (10 : Int32).toInt = 10 := (by decide); omega) (by have : (0 : Int32).toInt = 0 := (by decide); omega)) (cwV 2 hwd (gV wk_882 wk_879 wk_880 wk_881 wk_38) rfl rfl rfl (by decide +kernel) ⟨(by show 1 + 1 ≤ fr + 9; omega), (by show 8 + (3 + 11) + (40) ≤ lc + 360; omega)⟩) ⟨PX.blind, va_recv hK hP (ci := 3) (q0 := 7) rfl rfl, fun U hU hW => ⟨rfl, PX.at hK hE hP hS hU hW⟩⟩ rfl rfl hl.1 rfl (lv_room (Nat.le_of_ble_eq_true rfl)) dX3_readComparison_69 ⟨Nat.le_of_ble_eq_true rfl, Nat.le_of_ble_eq_true rfl⟩) hS (fun q _ h => (freeX hS) q h) (freeX hS) (fun r4006 u t H1 locs ht hvm hw hB hz1 hk1 hS => ?_)
        unfold BX at hB
        rw [ht] at hB
        obtain ⟨v4007, F4008, rc9⟩ := u
        obtain ⟨hI, hal9, hrc, hf4009, hw⟩ := hw
        dsimp only at hI hal9 hrc hB hf4009 hw
        rw [hrc] at hB
        have hal := hal9.trans hal
        have hP : va_P (dC, dI) classes (wX g c v4007 F4008 (g (44 + nr))) H1 := hB
        have hw : -1 ≤ r4006.toInt ∧ r4006.toInt ≤ 119 := hw
        have k4010 : (10 : Int32).toInt = 10 := by decide
        have k4011 : (0 : Int32).toInt = 0 := by decide
        generalize H1 = H at hP hS ⊢
        have hw_r4006 := hw
        refine lv_pop hx hb dX3_readComparison_72 rfl ?_
        have hP9 : va_P (dC, dI) classes (wX g c v4007 F4008 (g (44 + nr))) H := hP
        exact W.vret hx hb hr (fun t ht hW => ⟨⟨(v4007, F4008, (g (44 + nr))), rfl, ⟨hI, hal, rfl, (frC (by decide) hf4009 (frC (by decide) hf3994 (frU (by decide) (frC (by decide) hf3982 (fun _ _ => rfl))))), (by show ((0 ≤ (v 144).toInt ∧ (v4007 144).toInt = (v 144).toInt ∧ (v4007 143).toInt = (v 143).toInt) ∨ ((v 144).toInt = -1 ∧ (v 143).toInt ≤ (v4007 143).toInt ∧ (v4007 143).toInt ≤ (v 100).toInt ∧ ((v4007 144).toInt = -1 ∨ (v4007 144).toInt = (v4007 143).toInt))) ∧ rdX (v 100) (F 39) 5 p0.toInt (v 144).toInt (v 143).toInt (v4007 144).toInt (v4007 143).toInt; rw [show v4007 144 = v3992 144 from hf4009 144 (by decide)]; rw [show v4007 143 = v3992 143 from hf4009 143 (by decide)]; refine ⟨by omega, fun hf => ?_⟩; exact rd.c1 (hw_r3979.2 hf) (by omega) (by omega) (by omega) (hw_r3991.2 (by omega)))⟩, (by show va_P _ _ _ t.heap; rw [ht]; exact hP9)⟩, hS.F ht⟩) hS.2.2 dX3_readComparison_73
    · skip
      have t4012 := cv_eq (a := r3984.toInt) rfl (b := 60) (by decide) c3995
      refine lv_bipush (v := 9) hx hb dX3_readComparison_50 (by decide) ?_
      refine lv_goto (tgt := 68) hx hb dX3_readComparison_52 (by decide) ?_
      refine lv_iconst (v := 0) hx hb dX3_readComparison_68 (by decide) ?_
      refine va_calli (va_runV (As := [.int 9, .int 0]) (rest := []) ⟨hx, hb, hml, hown, hwd⟩ (c_X3_put l dC dI g c adK adV v3992 F3993 nr H.size 9 0 hg hnr hI (by have : (9 : Int32).toInt = 9 := (by decide); omega) (by have : (0 : Int32).toInt = 0 := (by decide); omega)) (cwV 2 hwd (gV wk_882 wk_879 wk_880 wk_881 wk_38) rfl rfl rfl (by decide +kernel) ⟨(by show 1 + 1 ≤ fr + 9; omega), (by show 8 + (3 + 11) + (40) ≤ lc + 360; omega)⟩) ⟨PX.blind, va_recv hK hP (ci := 3) (q0 := 7) rfl rfl, fun U hU hW => ⟨rfl, PX.at hK hE hP hS hU hW⟩⟩ rfl rfl hl.1 rfl (lv_room (Nat.le_of_ble_eq_true rfl)) dX3_readComparison_69 ⟨Nat.le_of_ble_eq_true rfl, Nat.le_of_ble_eq_true rfl⟩) hS (fun q _ h => (freeX hS) q h) (freeX hS) (fun r4013 u t H1 locs ht hvm hw hB hz1 hk1 hS => ?_)
      unfold BX at hB
      rw [ht] at hB
      obtain ⟨v4014, F4015, rc9⟩ := u
      obtain ⟨hI, hal9, hrc, hf4016, hw⟩ := hw
      dsimp only at hI hal9 hrc hB hf4016 hw
      rw [hrc] at hB
      have hal := hal9.trans hal
      have hP : va_P (dC, dI) classes (wX g c v4014 F4015 (g (44 + nr))) H1 := hB
      have hw : -1 ≤ r4013.toInt ∧ r4013.toInt ≤ 119 := hw
      have k4017 : (9 : Int32).toInt = 9 := by decide
      have k4018 : (0 : Int32).toInt = 0 := by decide
      generalize H1 = H at hP hS ⊢
      have hw_r4013 := hw
      refine lv_pop hx hb dX3_readComparison_72 rfl ?_
      have hP9 : va_P (dC, dI) classes (wX g c v4014 F4015 (g (44 + nr))) H := hP
      exact W.vret hx hb hr (fun t ht hW => ⟨⟨(v4014, F4015, (g (44 + nr))), rfl, ⟨hI, hal, rfl, (frC (by decide) hf4016 (frC (by decide) hf3994 (frU (by decide) (frC (by decide) hf3982 (fun _ _ => rfl))))), (by show ((0 ≤ (v 144).toInt ∧ (v4014 144).toInt = (v 144).toInt ∧ (v4014 143).toInt = (v 143).toInt) ∨ ((v 144).toInt = -1 ∧ (v 143).toInt ≤ (v4014 143).toInt ∧ (v4014 143).toInt ≤ (v 100).toInt ∧ ((v4014 144).toInt = -1 ∨ (v4014 144).toInt = (v4014 143).toInt))) ∧ rdX (v 100) (F 39) 5 p0.toInt (v 144).toInt (v 143).toInt (v4014 144).toInt (v4014 143).toInt; rw [show v4014 144 = v3992 144 from hf4016 144 (by decide)]; rw [show v4014 143 = v3992 143 from hf4016 143 (by decide)]; refine ⟨by omega, fun hf => ?_⟩; exact rd.c1 (hw_r3979.2 hf) (by omega) (by omega) (by omega) (hw_r3991.2 (by omega)))⟩, (by show va_P _ _ _ t.heap; rw [ht]; exact hP9)⟩, hS.F ht⟩) hS.2.2 dX3_readComparison_73
  · skip
    have t4019 := cv_ne (a := r3984.toInt) rfl (b := 60) (by decide) c3985
    refine lv_iload_n hx hb dX3_readComparison_16 rfl (lv_at hl 0 rfl) ?_
    refine lv_bipush (v := 61) hx hb dX3_readComparison_17 (by decide) ?_
    refine lv_icmp_eq (tgt := 28) hx hb dX3_readComparison_19 (by decide) (fun c4020 => ?_) (fun c4020 => ?_)
    · skip
      have t4021 := cv_eq (a := r3984.toInt) rfl (b := 61) (by decide) c4020
      refine lv_aload_n hx hb dX3_readComparison_28 rfl (lv_at hl 1 rfl) ?_
      refine lv_dup hx hb dX3_readComparison_29 rfl ?_
      refine va_get (D := (dC, dI)) (ci := 3) (v := .int (v3980 143)) (C := RX3) (T := TX3) (N := 5) hx hb hwd inA_X3 hown hK hP 7 rfl rfl 3 (by decide) (hwd _ wk_853) (fun _ h9 => h9) rfl dX3_readComparison_30 ?_
      refine lv_iconst (v := 1) hx hb dX3_readComparison_33 (by decide) ?_
      refine lv_iadd hx hb dX3_readComparison_34 ?_
      refine lv_topi (fun z4022 e4023 => ?_)
      try (have t4024 := tadd e4023 (a := (v3980 143).toInt) rfl (b := 1) (by decide) (by omega))
      refine va_put (D := (dC, dI)) (ci := 3) (v := .int z4022) (ty := .int) (C := RX3) (T := TX3) (N := 5) (fs := fsX_7 g v3980 (g (44 + nr))) hx hb hwd inA_X3 tyX3 tyX3_ok nmX3 hown hK hP (DX hg) hS 7 rfl rfl 3 (by decide) (hwd _ wk_853) (fun _ h9 => h9) rfl (by decide +kernel) rfl rfl (Nat.le_of_ble_eq_true rfl) dX3_readComparison_35 (fun H locs hP _ hS => ?_)
      have hP := va_P_eq (pX_143 g c _ _ _ _) hP
      have hI := IX.put0 hI 143 z4022 rfl
      have hal := (alX_v _ _ 143 z4022 (by decide) (by decide) (by decide) (by decide)).trans hal
      refine lv_aload_n hx hb dX3_readComparison_38 rfl (lv_at hl 1 rfl) ?_
      refine lv_iload_n hx hb dX3_readComparison_39 rfl (lv_at hl 2 rfl) ?_
      have t4025 : 0 ≤ (v 100).toInt ∧ (v 100).toInt ≤ 120 := by have h9 := hI.1 100 _ _ rfl; rw [show (va_up v3980 143 z4022) 100 = v 100 from hf3982 100 (by decide)] at h9; exact h9
      have hby39 : F3981 39 = F 39 := congrArg (fun t : ALX => t.2.2.2.2.2.2.1) hal
      refine va_callv (va_runV (As := [.int p0]) (rest := []) ⟨hx, hb, hml, hown, hwd⟩ (c_X3_readSum D fr lc rO rC l dC dI g c adK adV (va_up v3980 143 z4022) F3981 nr H.size p0 hg hnr hI (by have h9 : (va_up v3980 143 z4022) 143 = z4022 := rfl; (try rw [h9]); clear h9; have h9 : (va_up v3980 143 z4022) 100 = v 100 := hf3982 100 (by decide); (try rw [h9]); clear h9; have h9 : (va_up v3980 143 z4022) 144 = v3980 144 := rfl; (try rw [h9]); clear h9; omega) (by omega)) (cwV 1 hwd (gV wk_990 wk_892 wk_893 wk_894 wk_38) rfl rfl rfl (by decide +kernel) ⟨(by show fr + 8 + 1 ≤ fr + 9; omega), (by show 8 + (4 + 11) + (lc + 320) ≤ lc + 360; omega)⟩) ⟨PX.blind, va_recv hK hP (ci := 3) (q0 := 7) rfl rfl, fun U hU hW => ⟨rfl, PX.at hK hE hP hS hU hW⟩⟩ rfl rfl hl.1 rfl (lv_room (Nat.le_of_ble_eq_true rfl)) dX3_readComparison_40 ⟨Nat.le_of_ble_eq_true rfl, Nat.le_of_ble_eq_true rfl⟩) hS (fun q _ h => (freeX hS) q h) (freeX hS) (fun u t H1 locs ht hvm hw hB hz1 hk1 hS => ?_)
      unfold BX at hB
      rw [ht] at hB
      obtain ⟨v4027, F4028, rc9⟩ := u
      obtain ⟨hI, hal9, hrc, hf4029, hw⟩ := hw
      dsimp only at hI hal9 hrc hB hf4029 hw
      rw [hrc] at hB
      have hal := hal9.trans hal
      have hP : va_P (dC, dI) classes (wX g c v4027 F4028 (g (44 + nr))) H1 := hB
      replace hw : ((0 ≤ (v3980 144).toInt ∧ (v4027 144).toInt = (v3980 144).toInt ∧ (v4027 143).toInt = z4022.toInt) ∨ ((v3980 144).toInt = -1 ∧ z4022.toInt ≤ (v4027 143).toInt ∧ (v4027 143).toInt ≤ ((va_up v3980 143 z4022) 100).toInt ∧ ((v4027 144).toInt = -1 ∨ (v4027 144).toInt = (v4027 143).toInt))) ∧ rdX ((va_up v3980 143 z4022) 100) (F3981 39) 3 p0.toInt (v3980 144).toInt z4022.toInt (v4027 144).toInt (v4027 143).toInt := hw
      rw [show (va_up v3980 143 z4022) 100 = v 100 from hf3982 100 (by decide)] at hw
      rw [hby39] at hw
      have hw_r4026 := hw
      clear hw
      generalize H1 = H at hP hS ⊢
      refine lv_aload_n hx hb dX3_readComparison_43 rfl (lv_at hl 1 rfl) ?_
      refine lv_iload_n hx hb dX3_readComparison_44 rfl (lv_at hl 0 rfl) ?_
      refine lv_bipush (v := 60) hx hb dX3_readComparison_45 (by decide) ?_
      refine lv_icmp_ne (tgt := 55) hx hb dX3_readComparison_47 (by decide) (fun c4030 => ?_) (fun c4030 => ?_)
      · skip
        have t4031 := cv_ne (a := r3984.toInt) rfl (b := 60) (by decide) c4030
        refine lv_iload_n hx hb dX3_readComparison_55 rfl (lv_at hl 0 rfl) ?_
        refine lv_bipush (v := 61) hx hb dX3_readComparison_56 (by decide) ?_
        refine lv_icmp_ne (tgt := 66) hx hb dX3_readComparison_58 (by decide) (fun c4032 => ?_) (fun c4032 => ?_)
        · skip
          have t4033 := cv_ne (a := r3984.toInt) rfl (b := 61) (by decide) c4032
          refine lv_bipush (v := 11) hx hb dX3_readComparison_66 (by decide) ?_
          refine lv_iconst (v := 0) hx hb dX3_readComparison_68 (by decide) ?_
          refine va_calli (va_runV (As := [.int 11, .int 0]) (rest := []) ⟨hx, hb, hml, hown, hwd⟩ (c_X3_put l dC dI g c adK adV v4027 F4028 nr H.size 11 0 hg hnr hI (by have : (11 : Int32).toInt = 11 := (by decide); omega) (by have : (0 : Int32).toInt = 0 := (by decide); omega)) (cwV 2 hwd (gV wk_882 wk_879 wk_880 wk_881 wk_38) rfl rfl rfl (by decide +kernel) ⟨(by show 1 + 1 ≤ fr + 9; omega), (by show 8 + (3 + 11) + (40) ≤ lc + 360; omega)⟩) ⟨PX.blind, va_recv hK hP (ci := 3) (q0 := 7) rfl rfl, fun U hU hW => ⟨rfl, PX.at hK hE hP hS hU hW⟩⟩ rfl rfl hl.1 rfl (lv_room (Nat.le_of_ble_eq_true rfl)) dX3_readComparison_69 ⟨Nat.le_of_ble_eq_true rfl, Nat.le_of_ble_eq_true rfl⟩) hS (fun q _ h => (freeX hS) q h) (freeX hS) (fun r4034 u t H1 locs ht hvm hw hB hz1 hk1 hS => ?_)
          unfold BX at hB
          rw [ht] at hB
          obtain ⟨v4035, F4036, rc9⟩ := u
          obtain ⟨hI, hal9, hrc, hf4037, hw⟩ := hw
          dsimp only at hI hal9 hrc hB hf4037 hw
          rw [hrc] at hB
          have hal := hal9.trans hal
          have hP : va_P (dC, dI) classes (wX g c v4035 F4036 (g (44 + nr))) H1 := hB
          have hw : -1 ≤ r4034.toInt ∧ r4034.toInt ≤ 119 := hw
          have k4038 : (11 : Int32).toInt = 11 := by decide
          have k4039 : (0 : Int32).toInt = 0 := by decide
          generalize H1 = H at hP hS ⊢
          have hw_r4034 := hw
          refine lv_pop hx hb dX3_readComparison_72 rfl ?_
          have hP9 : va_P (dC, dI) classes (wX g c v4035 F4036 (g (44 + nr))) H := hP
          exact W.vret hx hb hr (fun t ht hW => ⟨⟨(v4035, F4036, (g (44 + nr))), rfl, ⟨hI, hal, rfl, (frC (by decide) hf4037 (frC (by decide) hf4029 (frU (by decide) (frC (by decide) hf3982 (fun _ _ => rfl))))), (by show ((0 ≤ (v 144).toInt ∧ (v4035 144).toInt = (v 144).toInt ∧ (v4035 143).toInt = (v 143).toInt) ∨ ((v 144).toInt = -1 ∧ (v 143).toInt ≤ (v4035 143).toInt ∧ (v4035 143).toInt ≤ (v 100).toInt ∧ ((v4035 144).toInt = -1 ∨ (v4035 144).toInt = (v4035 143).toInt))) ∧ rdX (v 100) (F 39) 5 p0.toInt (v 144).toInt (v 143).toInt (v4035 144).toInt (v4035 143).toInt; rw [show v4035 144 = v4027 144 from hf4037 144 (by decide)]; rw [show v4035 143 = v4027 143 from hf4037 143 (by decide)]; refine ⟨by omega, fun hf => ?_⟩; exact rd.c1 (hw_r3979.2 hf) (by omega) (by omega) (by omega) (hw_r4026.2 (by omega)))⟩, (by show va_P _ _ _ t.heap; rw [ht]; exact hP9)⟩, hS.F ht⟩) hS.2.2 dX3_readComparison_73
        · skip
          have t4040 := cv_eq (a := r3984.toInt) rfl (b := 61) (by decide) c4032
          refine lv_bipush (v := 10) hx hb dX3_readComparison_61 (by decide) ?_
          refine lv_goto (tgt := 68) hx hb dX3_readComparison_63 (by decide) ?_
          refine lv_iconst (v := 0) hx hb dX3_readComparison_68 (by decide) ?_
          refine va_calli (va_runV (As := [.int 10, .int 0]) (rest := []) ⟨hx, hb, hml, hown, hwd⟩ (c_X3_put l dC dI g c adK adV v4027 F4028 nr H.size 10 0 hg hnr hI (by have : (10 : Int32).toInt = 10 := (by decide); omega) (by have : (0 : Int32).toInt = 0 := (by decide); omega)) (cwV 2 hwd (gV wk_882 wk_879 wk_880 wk_881 wk_38) rfl rfl rfl (by decide +kernel) ⟨(by show 1 + 1 ≤ fr + 9; omega), (by show 8 + (3 + 11) + (40) ≤ lc + 360; omega)⟩) ⟨PX.blind, va_recv hK hP (ci := 3) (q0 := 7) rfl rfl, fun U hU hW => ⟨rfl, PX.at hK hE hP hS hU hW⟩⟩ rfl rfl hl.1 rfl (lv_room (Nat.le_of_ble_eq_true rfl)) dX3_readComparison_69 ⟨Nat.le_of_ble_eq_true rfl, Nat.le_of_ble_eq_true rfl⟩) hS (fun q _ h => (freeX hS) q h) (freeX hS) (fun r4041 u t H1 locs ht hvm hw hB hz1 hk1 hS => ?_)
          unfold BX at hB
          rw [ht] at hB
          obtain ⟨v4042, F4043, rc9⟩ := u
          obtain ⟨hI, hal9, hrc, hf4044, hw⟩ := hw
          dsimp only at hI hal9 hrc hB hf4044 hw
          rw [hrc] at hB
          have hal := hal9.trans hal
          have hP : va_P (dC, dI) classes (wX g c v4042 F4043 (g (44 + nr))) H1 := hB
          have hw : -1 ≤ r4041.toInt ∧ r4041.toInt ≤ 119 := hw
          have k4045 : (10 : Int32).toInt = 10 := by decide
          have k4046 : (0 : Int32).toInt = 0 := by decide
          generalize H1 = H at hP hS ⊢
          have hw_r4041 := hw
          refine lv_pop hx hb dX3_readComparison_72 rfl ?_
          have hP9 : va_P (dC, dI) classes (wX g c v4042 F4043 (g (44 + nr))) H := hP
          exact W.vret hx hb hr (fun t ht hW => ⟨⟨(v4042, F4043, (g (44 + nr))), rfl, ⟨hI, hal, rfl, (frC (by decide) hf4044 (frC (by decide) hf4029 (frU (by decide) (frC (by decide) hf3982 (fun _ _ => rfl))))), (by show ((0 ≤ (v 144).toInt ∧ (v4042 144).toInt = (v 144).toInt ∧ (v4042 143).toInt = (v 143).toInt) ∨ ((v 144).toInt = -1 ∧ (v 143).toInt ≤ (v4042 143).toInt ∧ (v4042 143).toInt ≤ (v 100).toInt ∧ ((v4042 144).toInt = -1 ∨ (v4042 144).toInt = (v4042 143).toInt))) ∧ rdX (v 100) (F 39) 5 p0.toInt (v 144).toInt (v 143).toInt (v4042 144).toInt (v4042 143).toInt; rw [show v4042 144 = v4027 144 from hf4044 144 (by decide)]; rw [show v4042 143 = v4027 143 from hf4044 143 (by decide)]; refine ⟨by omega, fun hf => ?_⟩; exact rd.c1 (hw_r3979.2 hf) (by omega) (by omega) (by omega) (hw_r4026.2 (by omega)))⟩, (by show va_P _ _ _ t.heap; rw [ht]; exact hP9)⟩, hS.F ht⟩) hS.2.2 dX3_readComparison_73
      · skip
        have t4047 := cv_eq (a := r3984.toInt) rfl (b := 60) (by decide) c4030
        refine lv_bipush (v := 9) hx hb dX3_readComparison_50 (by decide) ?_
        refine lv_goto (tgt := 68) hx hb dX3_readComparison_52 (by decide) ?_
        refine lv_iconst (v := 0) hx hb dX3_readComparison_68 (by decide) ?_
        refine va_calli (va_runV (As := [.int 9, .int 0]) (rest := []) ⟨hx, hb, hml, hown, hwd⟩ (c_X3_put l dC dI g c adK adV v4027 F4028 nr H.size 9 0 hg hnr hI (by have : (9 : Int32).toInt = 9 := (by decide); omega) (by have : (0 : Int32).toInt = 0 := (by decide); omega)) (cwV 2 hwd (gV wk_882 wk_879 wk_880 wk_881 wk_38) rfl rfl rfl (by decide +kernel) ⟨(by show 1 + 1 ≤ fr + 9; omega), (by show 8 + (3 + 11) + (40) ≤ lc + 360; omega)⟩) ⟨PX.blind, va_recv hK hP (ci := 3) (q0 := 7) rfl rfl, fun U hU hW => ⟨rfl, PX.at hK hE hP hS hU hW⟩⟩ rfl rfl hl.1 rfl (lv_room (Nat.le_of_ble_eq_true rfl)) dX3_readComparison_69 ⟨Nat.le_of_ble_eq_true rfl, Nat.le_of_ble_eq_true rfl⟩) hS (fun q _ h => (freeX hS) q h) (freeX hS) (fun r4048 u t H1 locs ht hvm hw hB hz1 hk1 hS => ?_)
        unfold BX at hB
        rw [ht] at hB
        obtain ⟨v4049, F4050, rc9⟩ := u
        obtain ⟨hI, hal9, hrc, hf4051, hw⟩ := hw
        dsimp only at hI hal9 hrc hB hf4051 hw
        rw [hrc] at hB
        have hal := hal9.trans hal
        have hP : va_P (dC, dI) classes (wX g c v4049 F4050 (g (44 + nr))) H1 := hB
        have hw : -1 ≤ r4048.toInt ∧ r4048.toInt ≤ 119 := hw
        have k4052 : (9 : Int32).toInt = 9 := by decide
        have k4053 : (0 : Int32).toInt = 0 := by decide
        generalize H1 = H at hP hS ⊢
        have hw_r4048 := hw
        refine lv_pop hx hb dX3_readComparison_72 rfl ?_
        have hP9 : va_P (dC, dI) classes (wX g c v4049 F4050 (g (44 + nr))) H := hP
        exact W.vret hx hb hr (fun t ht hW => ⟨⟨(v4049, F4050, (g (44 + nr))), rfl, ⟨hI, hal, rfl, (frC (by decide) hf4051 (frC (by decide) hf4029 (frU (by decide) (frC (by decide) hf3982 (fun _ _ => rfl))))), (by show ((0 ≤ (v 144).toInt ∧ (v4049 144).toInt = (v 144).toInt ∧ (v4049 143).toInt = (v 143).toInt) ∨ ((v 144).toInt = -1 ∧ (v 143).toInt ≤ (v4049 143).toInt ∧ (v4049 143).toInt ≤ (v 100).toInt ∧ ((v4049 144).toInt = -1 ∨ (v4049 144).toInt = (v4049 143).toInt))) ∧ rdX (v 100) (F 39) 5 p0.toInt (v 144).toInt (v 143).toInt (v4049 144).toInt (v4049 143).toInt; rw [show v4049 144 = v4027 144 from hf4051 144 (by decide)]; rw [show v4049 143 = v4027 143 from hf4051 143 (by decide)]; refine ⟨by omega, fun hf => ?_⟩; exact rd.c1 (hw_r3979.2 hf) (by omega) (by omega) (by omega) (hw_r4026.2 (by omega)))⟩, (by show va_P _ _ _ t.heap; rw [ht]; exact hP9)⟩, hS.F ht⟩) hS.2.2 dX3_readComparison_73
    · skip
      have t4054 := cv_ne (a := r3984.toInt) rfl (b := 61) (by decide) c4020
      refine lv_iload_n hx hb dX3_readComparison_22 rfl (lv_at hl 0 rfl) ?_
      refine lv_bipush (v := 62) hx hb dX3_readComparison_23 (by decide) ?_
      refine lv_icmp_ne (tgt := 73) hx hb dX3_readComparison_25 (by decide) (fun c4055 => ?_) (fun c4055 => ?_)
      · skip
        have t4056 := cv_ne (a := r3984.toInt) rfl (b := 62) (by decide) c4055
        have hP9 : va_P (dC, dI) classes (wX g c v3980 F3981 (g (44 + nr))) H := hP
        exact W.vret hx hb hr (fun t ht hW => ⟨⟨(v3980, F3981, (g (44 + nr))), rfl, ⟨hI, hal, rfl, (frC (by decide) hf3982 (fun _ _ => rfl)), (by show ((0 ≤ (v 144).toInt ∧ (v3980 144).toInt = (v 144).toInt ∧ (v3980 143).toInt = (v 143).toInt) ∨ ((v 144).toInt = -1 ∧ (v 143).toInt ≤ (v3980 143).toInt ∧ (v3980 143).toInt ≤ (v 100).toInt ∧ ((v3980 144).toInt = -1 ∨ (v3980 144).toInt = (v3980 143).toInt))) ∧ rdX (v 100) (F 39) 5 p0.toInt (v 144).toInt (v 143).toInt (v3980 144).toInt (v3980 143).toInt; refine ⟨by omega, fun hf => ?_⟩; exact rd.c0 (hw_r3979.2 hf) (fun q9 => by omega))⟩, (by show va_P _ _ _ t.heap; rw [ht]; exact hP9)⟩, hS.F ht⟩) hS.2.2 dX3_readComparison_73
      · skip
        have t4057 := cv_eq (a := r3984.toInt) rfl (b := 62) (by decide) c4055
        refine lv_aload_n hx hb dX3_readComparison_28 rfl (lv_at hl 1 rfl) ?_
        refine lv_dup hx hb dX3_readComparison_29 rfl ?_
        refine va_get (D := (dC, dI)) (ci := 3) (v := .int (v3980 143)) (C := RX3) (T := TX3) (N := 5) hx hb hwd inA_X3 hown hK hP 7 rfl rfl 3 (by decide) (hwd _ wk_853) (fun _ h9 => h9) rfl dX3_readComparison_30 ?_
        refine lv_iconst (v := 1) hx hb dX3_readComparison_33 (by decide) ?_
        refine lv_iadd hx hb dX3_readComparison_34 ?_
        refine lv_topi (fun z4058 e4059 => ?_)
        try (have t4060 := tadd e4059 (a := (v3980 143).toInt) rfl (b := 1) (by decide) (by omega))
        refine va_put (D := (dC, dI)) (ci := 3) (v := .int z4058) (ty := .int) (C := RX3) (T := TX3) (N := 5) (fs := fsX_7 g v3980 (g (44 + nr))) hx hb hwd inA_X3 tyX3 tyX3_ok nmX3 hown hK hP (DX hg) hS 7 rfl rfl 3 (by decide) (hwd _ wk_853) (fun _ h9 => h9) rfl (by decide +kernel) rfl rfl (Nat.le_of_ble_eq_true rfl) dX3_readComparison_35 (fun H locs hP _ hS => ?_)
        have hP := va_P_eq (pX_143 g c _ _ _ _) hP
        have hI := IX.put0 hI 143 z4058 rfl
        have hal := (alX_v _ _ 143 z4058 (by decide) (by decide) (by decide) (by decide)).trans hal
        refine lv_aload_n hx hb dX3_readComparison_38 rfl (lv_at hl 1 rfl) ?_
        refine lv_iload_n hx hb dX3_readComparison_39 rfl (lv_at hl 2 rfl) ?_
        have t4061 : 0 ≤ (v 100).toInt ∧ (v 100).toInt ≤ 120 := by have h9 := hI.1 100 _ _ rfl; rw [show (va_up v3980 143 z4058) 100 = v 100 from hf3982 100 (by decide)] at h9; exact h9
        have hby39 : F3981 39 = F 39 := congrArg (fun t : ALX => t.2.2.2.2.2.2.1) hal
        refine va_callv (va_runV (As := [.int p0]) (rest := []) ⟨hx, hb, hml, hown, hwd⟩ (c_X3_readSum D fr lc rO rC l dC dI g c adK adV (va_up v3980 143 z4058) F3981 nr H.size p0 hg hnr hI (by have h9 : (va_up v3980 143 z4058) 143 = z4058 := rfl; (try rw [h9]); clear h9; have h9 : (va_up v3980 143 z4058) 100 = v 100 := hf3982 100 (by decide); (try rw [h9]); clear h9; have h9 : (va_up v3980 143 z4058) 144 = v3980 144 := rfl; (try rw [h9]); clear h9; omega) (by omega)) (cwV 1 hwd (gV wk_990 wk_892 wk_893 wk_894 wk_38) rfl rfl rfl (by decide +kernel) ⟨(by show fr + 8 + 1 ≤ fr + 9; omega), (by show 8 + (4 + 11) + (lc + 320) ≤ lc + 360; omega)⟩) ⟨PX.blind, va_recv hK hP (ci := 3) (q0 := 7) rfl rfl, fun U hU hW => ⟨rfl, PX.at hK hE hP hS hU hW⟩⟩ rfl rfl hl.1 rfl (lv_room (Nat.le_of_ble_eq_true rfl)) dX3_readComparison_40 ⟨Nat.le_of_ble_eq_true rfl, Nat.le_of_ble_eq_true rfl⟩) hS (fun q _ h => (freeX hS) q h) (freeX hS) (fun u t H1 locs ht hvm hw hB hz1 hk1 hS => ?_)
        unfold BX at hB
        rw [ht] at hB
        obtain ⟨v4063, F4064, rc9⟩ := u
        obtain ⟨hI, hal9, hrc, hf4065, hw⟩ := hw
        dsimp only at hI hal9 hrc hB hf4065 hw
        rw [hrc] at hB
        have hal := hal9.trans hal
        have hP : va_P (dC, dI) classes (wX g c v4063 F4064 (g (44 + nr))) H1 := hB
        replace hw : ((0 ≤ (v3980 144).toInt ∧ (v4063 144).toInt = (v3980 144).toInt ∧ (v4063 143).toInt = z4058.toInt) ∨ ((v3980 144).toInt = -1 ∧ z4058.toInt ≤ (v4063 143).toInt ∧ (v4063 143).toInt ≤ ((va_up v3980 143 z4058) 100).toInt ∧ ((v4063 144).toInt = -1 ∨ (v4063 144).toInt = (v4063 143).toInt))) ∧ rdX ((va_up v3980 143 z4058) 100) (F3981 39) 3 p0.toInt (v3980 144).toInt z4058.toInt (v4063 144).toInt (v4063 143).toInt := hw
        rw [show (va_up v3980 143 z4058) 100 = v 100 from hf3982 100 (by decide)] at hw
        rw [hby39] at hw
        have hw_r4062 := hw
        clear hw
        generalize H1 = H at hP hS ⊢
        refine lv_aload_n hx hb dX3_readComparison_43 rfl (lv_at hl 1 rfl) ?_
        refine lv_iload_n hx hb dX3_readComparison_44 rfl (lv_at hl 0 rfl) ?_
        refine lv_bipush (v := 60) hx hb dX3_readComparison_45 (by decide) ?_
        refine lv_icmp_ne (tgt := 55) hx hb dX3_readComparison_47 (by decide) (fun c4066 => ?_) (fun c4066 => ?_)
        · skip
          have t4067 := cv_ne (a := r3984.toInt) rfl (b := 60) (by decide) c4066
          refine lv_iload_n hx hb dX3_readComparison_55 rfl (lv_at hl 0 rfl) ?_
          refine lv_bipush (v := 61) hx hb dX3_readComparison_56 (by decide) ?_
          refine lv_icmp_ne (tgt := 66) hx hb dX3_readComparison_58 (by decide) (fun c4068 => ?_) (fun c4068 => ?_)
          · skip
            have t4069 := cv_ne (a := r3984.toInt) rfl (b := 61) (by decide) c4068
            refine lv_bipush (v := 11) hx hb dX3_readComparison_66 (by decide) ?_
            refine lv_iconst (v := 0) hx hb dX3_readComparison_68 (by decide) ?_
            refine va_calli (va_runV (As := [.int 11, .int 0]) (rest := []) ⟨hx, hb, hml, hown, hwd⟩ (c_X3_put l dC dI g c adK adV v4063 F4064 nr H.size 11 0 hg hnr hI (by have : (11 : Int32).toInt = 11 := (by decide); omega) (by have : (0 : Int32).toInt = 0 := (by decide); omega)) (cwV 2 hwd (gV wk_882 wk_879 wk_880 wk_881 wk_38) rfl rfl rfl (by decide +kernel) ⟨(by show 1 + 1 ≤ fr + 9; omega), (by show 8 + (3 + 11) + (40) ≤ lc + 360; omega)⟩) ⟨PX.blind, va_recv hK hP (ci := 3) (q0 := 7) rfl rfl, fun U hU hW => ⟨rfl, PX.at hK hE hP hS hU hW⟩⟩ rfl rfl hl.1 rfl (lv_room (Nat.le_of_ble_eq_true rfl)) dX3_readComparison_69 ⟨Nat.le_of_ble_eq_true rfl, Nat.le_of_ble_eq_true rfl⟩) hS (fun q _ h => (freeX hS) q h) (freeX hS) (fun r4070 u t H1 locs ht hvm hw hB hz1 hk1 hS => ?_)
            unfold BX at hB
            rw [ht] at hB
            obtain ⟨v4071, F4072, rc9⟩ := u
            obtain ⟨hI, hal9, hrc, hf4073, hw⟩ := hw
            dsimp only at hI hal9 hrc hB hf4073 hw
            rw [hrc] at hB
            have hal := hal9.trans hal
            have hP : va_P (dC, dI) classes (wX g c v4071 F4072 (g (44 + nr))) H1 := hB
            have hw : -1 ≤ r4070.toInt ∧ r4070.toInt ≤ 119 := hw
            have k4074 : (11 : Int32).toInt = 11 := by decide
            have k4075 : (0 : Int32).toInt = 0 := by decide
            generalize H1 = H at hP hS ⊢
            have hw_r4070 := hw
            refine lv_pop hx hb dX3_readComparison_72 rfl ?_
            have hP9 : va_P (dC, dI) classes (wX g c v4071 F4072 (g (44 + nr))) H := hP
            exact W.vret hx hb hr (fun t ht hW => ⟨⟨(v4071, F4072, (g (44 + nr))), rfl, ⟨hI, hal, rfl, (frC (by decide) hf4073 (frC (by decide) hf4065 (frU (by decide) (frC (by decide) hf3982 (fun _ _ => rfl))))), (by show ((0 ≤ (v 144).toInt ∧ (v4071 144).toInt = (v 144).toInt ∧ (v4071 143).toInt = (v 143).toInt) ∨ ((v 144).toInt = -1 ∧ (v 143).toInt ≤ (v4071 143).toInt ∧ (v4071 143).toInt ≤ (v 100).toInt ∧ ((v4071 144).toInt = -1 ∨ (v4071 144).toInt = (v4071 143).toInt))) ∧ rdX (v 100) (F 39) 5 p0.toInt (v 144).toInt (v 143).toInt (v4071 144).toInt (v4071 143).toInt; rw [show v4071 144 = v4063 144 from hf4073 144 (by decide)]; rw [show v4071 143 = v4063 143 from hf4073 143 (by decide)]; refine ⟨by omega, fun hf => ?_⟩; exact rd.c1 (hw_r3979.2 hf) (by omega) (by omega) (by omega) (hw_r4062.2 (by omega)))⟩, (by show va_P _ _ _ t.heap; rw [ht]; exact hP9)⟩, hS.F ht⟩) hS.2.2 dX3_readComparison_73
          · skip
            have t4076 := cv_eq (a := r3984.toInt) rfl (b := 61) (by decide) c4068
            refine lv_bipush (v := 10) hx hb dX3_readComparison_61 (by decide) ?_
            refine lv_goto (tgt := 68) hx hb dX3_readComparison_63 (by decide) ?_
            refine lv_iconst (v := 0) hx hb dX3_readComparison_68 (by decide) ?_
            refine va_calli (va_runV (As := [.int 10, .int 0]) (rest := []) ⟨hx, hb, hml, hown, hwd⟩ (c_X3_put l dC dI g c adK adV v4063 F4064 nr H.size 10 0 hg hnr hI (by have : (10 : Int32).toInt = 10 := (by decide); omega) (by have : (0 : Int32).toInt = 0 := (by decide); omega)) (cwV 2 hwd (gV wk_882 wk_879 wk_880 wk_881 wk_38) rfl rfl rfl (by decide +kernel) ⟨(by show 1 + 1 ≤ fr + 9; omega), (by show 8 + (3 + 11) + (40) ≤ lc + 360; omega)⟩) ⟨PX.blind, va_recv hK hP (ci := 3) (q0 := 7) rfl rfl, fun U hU hW => ⟨rfl, PX.at hK hE hP hS hU hW⟩⟩ rfl rfl hl.1 rfl (lv_room (Nat.le_of_ble_eq_true rfl)) dX3_readComparison_69 ⟨Nat.le_of_ble_eq_true rfl, Nat.le_of_ble_eq_true rfl⟩) hS (fun q _ h => (freeX hS) q h) (freeX hS) (fun r4077 u t H1 locs ht hvm hw hB hz1 hk1 hS => ?_)
            unfold BX at hB
            rw [ht] at hB
            obtain ⟨v4078, F4079, rc9⟩ := u
            obtain ⟨hI, hal9, hrc, hf4080, hw⟩ := hw
            dsimp only at hI hal9 hrc hB hf4080 hw
            rw [hrc] at hB
            have hal := hal9.trans hal
            have hP : va_P (dC, dI) classes (wX g c v4078 F4079 (g (44 + nr))) H1 := hB
            have hw : -1 ≤ r4077.toInt ∧ r4077.toInt ≤ 119 := hw
            have k4081 : (10 : Int32).toInt = 10 := by decide
            have k4082 : (0 : Int32).toInt = 0 := by decide
            generalize H1 = H at hP hS ⊢
            have hw_r4077 := hw
            refine lv_pop hx hb dX3_readComparison_72 rfl ?_
            have hP9 : va_P (dC, dI) classes (wX g c v4078 F4079 (g (44 + nr))) H := hP
            exact W.vret hx hb hr (fun t ht hW => ⟨⟨(v4078, F4079, (g (44 + nr))), rfl, ⟨hI, hal, rfl, (frC (by decide) hf4080 (frC (by decide) hf4065 (frU (by decide) (frC (by decide) hf3982 (fun _ _ => rfl))))), (by show ((0 ≤ (v 144).toInt ∧ (v4078 144).toInt = (v 144).toInt ∧ (v4078 143).toInt = (v 143).toInt) ∨ ((v 144).toInt = -1 ∧ (v 143).toInt ≤ (v4078 143).toInt ∧ (v4078 143).toInt ≤ (v 100).toInt ∧ ((v4078 144).toInt = -1 ∨ (v4078 144).toInt = (v4078 143).toInt))) ∧ rdX (v 100) (F 39) 5 p0.toInt (v 144).toInt (v 143).toInt (v4078 144).toInt (v4078 143).toInt; rw [show v4078 144 = v4063 144 from hf4080 144 (by decide)]; rw [show v4078 143 = v4063 143 from hf4080 143 (by decide)]; refine ⟨by omega, fun hf => ?_⟩; exact rd.c1 (hw_r3979.2 hf) (by omega) (by omega) (by omega) (hw_r4062.2 (by omega)))⟩, (by show va_P _ _ _ t.heap; rw [ht]; exact hP9)⟩, hS.F ht⟩) hS.2.2 dX3_readComparison_73
        · skip
          have t4083 := cv_eq (a := r3984.toInt) rfl (b := 60) (by decide) c4066
          refine lv_bipush (v := 9) hx hb dX3_readComparison_50 (by decide) ?_
          refine lv_goto (tgt := 68) hx hb dX3_readComparison_52 (by decide) ?_
          refine lv_iconst (v := 0) hx hb dX3_readComparison_68 (by decide) ?_
          refine va_calli (va_runV (As := [.int 9, .int 0]) (rest := []) ⟨hx, hb, hml, hown, hwd⟩ (c_X3_put l dC dI g c adK adV v4063 F4064 nr H.size 9 0 hg hnr hI (by have : (9 : Int32).toInt = 9 := (by decide); omega) (by have : (0 : Int32).toInt = 0 := (by decide); omega)) (cwV 2 hwd (gV wk_882 wk_879 wk_880 wk_881 wk_38) rfl rfl rfl (by decide +kernel) ⟨(by show 1 + 1 ≤ fr + 9; omega), (by show 8 + (3 + 11) + (40) ≤ lc + 360; omega)⟩) ⟨PX.blind, va_recv hK hP (ci := 3) (q0 := 7) rfl rfl, fun U hU hW => ⟨rfl, PX.at hK hE hP hS hU hW⟩⟩ rfl rfl hl.1 rfl (lv_room (Nat.le_of_ble_eq_true rfl)) dX3_readComparison_69 ⟨Nat.le_of_ble_eq_true rfl, Nat.le_of_ble_eq_true rfl⟩) hS (fun q _ h => (freeX hS) q h) (freeX hS) (fun r4084 u t H1 locs ht hvm hw hB hz1 hk1 hS => ?_)
          unfold BX at hB
          rw [ht] at hB
          obtain ⟨v4085, F4086, rc9⟩ := u
          obtain ⟨hI, hal9, hrc, hf4087, hw⟩ := hw
          dsimp only at hI hal9 hrc hB hf4087 hw
          rw [hrc] at hB
          have hal := hal9.trans hal
          have hP : va_P (dC, dI) classes (wX g c v4085 F4086 (g (44 + nr))) H1 := hB
          have hw : -1 ≤ r4084.toInt ∧ r4084.toInt ≤ 119 := hw
          have k4088 : (9 : Int32).toInt = 9 := by decide
          have k4089 : (0 : Int32).toInt = 0 := by decide
          generalize H1 = H at hP hS ⊢
          have hw_r4084 := hw
          refine lv_pop hx hb dX3_readComparison_72 rfl ?_
          have hP9 : va_P (dC, dI) classes (wX g c v4085 F4086 (g (44 + nr))) H := hP
          exact W.vret hx hb hr (fun t ht hW => ⟨⟨(v4085, F4086, (g (44 + nr))), rfl, ⟨hI, hal, rfl, (frC (by decide) hf4087 (frC (by decide) hf4065 (frU (by decide) (frC (by decide) hf3982 (fun _ _ => rfl))))), (by show ((0 ≤ (v 144).toInt ∧ (v4085 144).toInt = (v 144).toInt ∧ (v4085 143).toInt = (v 143).toInt) ∨ ((v 144).toInt = -1 ∧ (v 143).toInt ≤ (v4085 143).toInt ∧ (v4085 143).toInt ≤ (v 100).toInt ∧ ((v4085 144).toInt = -1 ∨ (v4085 144).toInt = (v4085 143).toInt))) ∧ rdX (v 100) (F 39) 5 p0.toInt (v 144).toInt (v 143).toInt (v4085 144).toInt (v4085 143).toInt; rw [show v4085 144 = v4063 144 from hf4087 144 (by decide)]; rw [show v4085 143 = v4063 143 from hf4087 143 (by decide)]; refine ⟨by omega, fun hf => ?_⟩; exact rd.c1 (hw_r3979.2 hf) (by omega) (by omega) (by omega) (hw_r4062.2 (by omega)))⟩, (by show va_P _ _ _ t.heap; rw [ht]; exact hP9)⟩, hS.F ht⟩) hS.2.2 dX3_readComparison_73
