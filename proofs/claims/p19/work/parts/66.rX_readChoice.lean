set_option maxHeartbeats 8000000 in
set_option maxRecDepth 100000 in
theorem c_X3_readChoice (D : Int) (fr lc : Nat) (rO : RPX 0 yX3_readOperand (Cond.code yX3_readOperand cX3_readOperand 3 none) (D + 1) fr lc) (rC : RPX 6 yX3_readChoice (Cond.code yX3_readChoice cX3_readChoice 4 none) (D + 1) (fr + 4) (lc + 160)) (l : Launch) (dC : Nat → ClassId) (dI : Nat → Nat → Nat) (g : Nat → Nat) (c : Nat → ClassId) (adK adV : Nat → Nat) (v : Nat → Int32) (F : Nat → Nat → Int32) (nr sz : Nat) (p0 : Int32) (hg : injX g) (hnr : nr < 10) (hI : IX v F) (hs : (0 ≤ (v 143).toInt ∧ (v 143).toInt ≤ (v 100).toInt) ∧ ((v 144).toInt = -1 ∨ 0 ≤ (v 144).toInt)) (hq : p0.toInt = D ∧ D ≤ 8 ∧ 0 ≤ p0.toInt) : Met l yX3_readChoice (Cond.code yX3_readChoice cX3_readChoice 4 none :: wA) ({ frames := fr + 10, cells := 0, slots := 0, locals := lc + 400 }) (va_Pc [.ref (g 7), .int p0] (PX dC dI g c adK adV v F (g (44 + nr)) sz)) (va_Qv (fun (u : StX) => IX u.1 u.2.1 ∧ alX u.1 u.2.1 = alX v F ∧ u.2.2 = (g (44 + nr)) ∧ (∀ k, k ∉ ([142, 143, 144] : List Nat) → u.1 k = v k) ∧ (((0 ≤ (v 144).toInt ∧ (u.1 144).toInt = (v 144).toInt ∧ (u.1 143).toInt = (v 143).toInt) ∨ ((v 144).toInt = -1 ∧ (v 143).toInt ≤ (u.1 143).toInt ∧ (u.1 143).toInt ≤ (v 100).toInt ∧ ((u.1 144).toInt = -1 ∨ (u.1 144).toInt = (u.1 143).toInt))) ∧ rdX (v 100) (F 39) 6 p0.toInt (v 144).toInt (v 143).toInt (u.1 144).toInt (u.1 143).toInt)) (BX dC dI g c) (AX g sz)) 0 0 (AX g sz) := by
  refine Met.ofW (cc := cX3_readChoice) (maxL := 4) (ret := none) (by decide) rfl ?_
  intro p e s m args below meth c0 s₁ B hml hv
  obtain ⟨rfl, hsz, hP, hK, hE⟩ := hv
  have hx := B.exec
  have hb := B.bytes
  have hr := B.returns
  have hts := atoms_spec (ws := Cond.code yX3_readChoice cX3_readChoice 4 none :: wA) B.pre
  have hwd : ∀ w ∈ wA, w.before _ s = true := fun w h => hts w (List.mem_cons_of_mem _ h)
  have hown : s.vm.findClass RX3 = some m.cls := findClass_of_methodNamed B.named
  have hlocks := B.notSynchronized
  subst hsz
  have hl := lv_entry ([.ref (g 7), .int p0]) (n := 4) (Nat.le_of_ble_eq_true rfl)
  rw [lg_entry_eq]
  generalize (lg_sl ([.ref (g 7), .int p0]) ++ List.replicate (4 - (lg_sl ([.ref (g 7), .int p0])).length) Slot.unset).toArray = ls at hl ⊢
  have hl : lv_has ls 4 [(0, .ref (g 7)), (1, .int p0)] := hl
  obtain ⟨H, eH⟩ : ∃ z, z = s.heap := ⟨_, rfl⟩
  have hP : va_P (dC, dI) classes (wX g c v F (g (44 + nr))) H := by rw [eH]; exact hP
  have hS : va_S (AX g s.heap.size) s.heap H [] := by rw [eH]; exact va_S.rf
  refine my_heap eH ?_
  have hal : alX v F = alX v F := rfl
  have rp0 := i32_rng p0
  have hb100 : 0 ≤ (v 100).toInt ∧ (v 100).toInt ≤ 120 := hI.1 100 _ _ rfl
  refine lv_aload_n hx hb dX3_readChoice_0 rfl (lv_at hl 0 rfl) ?_
  refine lv_iload_n hx hb dX3_readChoice_1 rfl (lv_at hl 1 rfl) ?_
  have t4149 : 0 ≤ (v 100).toInt ∧ (v 100).toInt ≤ 120 := hI.1 100 _ _ rfl
  refine va_callv (va_runV (As := [.int p0]) (rest := []) ⟨hx, hb, hml, hown, hwd⟩ (c_X3_readComparison D fr lc rO rC l dC dI g c adK adV v F nr H.size p0 hg hnr hI (by have h9 : v 143 = v 143 := rfl; (try rw [h9]); clear h9; have h9 : v 100 = v 100 := rfl; (try rw [h9]); clear h9; have h9 : v 144 = v 144 := rfl; (try rw [h9]); clear h9; omega) (by omega)) (cwV 1 hwd (gV wk_891 wk_860 wk_861 wk_862 wk_38) rfl rfl rfl (by decide +kernel) ⟨(by show fr + 9 + 1 ≤ fr + 10; omega), (by show 8 + (3 + 11) + (lc + 360) ≤ lc + 400; omega)⟩) ⟨PX.blind, va_recv hK hP (ci := 3) (q0 := 7) rfl rfl, fun U hU hW => ⟨rfl, PX.at hK hE hP hS hU hW⟩⟩ rfl rfl hl.1 rfl (lv_room (Nat.le_of_ble_eq_true rfl)) dX3_readChoice_2 ⟨Nat.le_of_ble_eq_true rfl, Nat.le_of_ble_eq_true rfl⟩) hS (fun q _ h => (freeX hS) q h) (freeX hS) (fun u t H1 locs ht hvm hw hB hz1 hk1 hS => ?_)
  unfold BX at hB
  rw [ht] at hB
  obtain ⟨v4151, F4152, rc9⟩ := u
  obtain ⟨hI, hal9, hrc, hf4153, hw⟩ := hw
  dsimp only at hI hal9 hrc hB hf4153 hw
  rw [hrc] at hB
  have hal := hal9.trans hal
  have hP : va_P (dC, dI) classes (wX g c v4151 F4152 (g (44 + nr))) H1 := hB
  replace hw : ((0 ≤ (v 144).toInt ∧ (v4151 144).toInt = (v 144).toInt ∧ (v4151 143).toInt = (v 143).toInt) ∨ ((v 144).toInt = -1 ∧ (v 143).toInt ≤ (v4151 143).toInt ∧ (v4151 143).toInt ≤ (v 100).toInt ∧ ((v4151 144).toInt = -1 ∨ (v4151 144).toInt = (v4151 143).toInt))) ∧ rdX (v 100) (F 39) 5 p0.toInt (v 144).toInt (v 143).toInt (v4151 144).toInt (v4151 143).toInt := hw
  have hw_r4150 := hw
  clear hw
  generalize H1 = H at hP hS ⊢
  refine lv_aload_n hx hb dX3_readChoice_5 rfl (lv_at hl 0 rfl) ?_
  have t4154 : 0 ≤ (v 100).toInt ∧ (v 100).toInt ≤ 120 := by have h9 := hI.1 100 _ _ rfl; rw [show v4151 100 = v 100 from hf4153 100 (by decide)] at h9; exact h9
  have hby39 : F4152 39 = F 39 := congrArg (fun t : ALX => t.2.2.2.2.2.2.1) hal
  refine va_calli (va_runV (As := []) (rest := []) ⟨hx, hb, hml, hown, hwd⟩ (c_X3_next l dC dI g c adK adV v4151 F4152 nr H.size  hg hnr hI (by have h9 : v4151 143 = v4151 143 := rfl; (try rw [h9]); clear h9; have h9 : v4151 100 = v 100 := hf4153 100 (by decide); (try rw [h9]); clear h9; have h9 : v4151 144 = v4151 144 := rfl; (try rw [h9]); clear h9; omega)) (cwV 0 hwd (gV wk_866 wk_863 wk_864 wk_865 wk_38) rfl rfl rfl (by decide +kernel) ⟨(by show 2 + 1 ≤ fr + 10; omega), (by show 8 + (1 + 11) + (80) ≤ lc + 400; omega)⟩) ⟨PX.blind, va_recv hK hP (ci := 3) (q0 := 7) rfl rfl, fun U hU hW => ⟨rfl, PX.at hK hE hP hS hU hW⟩⟩ rfl rfl hl.1 rfl (lv_room (Nat.le_of_ble_eq_true rfl)) dX3_readChoice_6 ⟨Nat.le_of_ble_eq_true rfl, Nat.le_of_ble_eq_true rfl⟩) hS (fun q _ h => (freeX hS) q h) (freeX hS) (fun r4155 u t H1 locs ht hvm hw hB hz1 hk1 hS => ?_)
  unfold BX at hB
  rw [ht] at hB
  have hP : va_P (dC, dI) classes (wX g c v4151 F4152 (g (44 + nr))) H1 := hB
  replace hw : (0 ≤ (v4151 144).toInt ∧ r4155.toInt = -1) ∨ ((v4151 144).toInt = -1 ∧ r4155.toInt = sg (v4151 100) (F4152 39) (v4151 143).toInt ∧ (-1 ≤ r4155.toInt ∧ r4155.toInt ≤ 255) ∧ (r4155.toInt = -1 ∨ (v4151 143).toInt < (v4151 100).toInt)) := hw
  rw [show v4151 100 = v 100 from hf4153 100 (by decide)] at hw
  rw [hby39] at hw
  have hw_r4155 := hw
  clear hw
  generalize H1 = H at hP hS ⊢
  have rr_r4155 := i32_rng r4155
  refine lv_bipush (v := 63) hx hb dX3_readChoice_9 (by decide) ?_
  refine lv_icmp_ne (tgt := 66) hx hb dX3_readChoice_11 (by decide) (fun c4156 => ?_) (fun c4156 => ?_)
  · skip
    have t4157 := cv_ne (a := r4155.toInt) rfl (b := 63) (by decide) c4156
    have hP9 : va_P (dC, dI) classes (wX g c v4151 F4152 (g (44 + nr))) H := hP
    exact W.vret hx hb hr (fun t ht hW => ⟨⟨(v4151, F4152, (g (44 + nr))), rfl, ⟨hI, hal, rfl, (frC (by decide) hf4153 (fun _ _ => rfl)), (by show ((0 ≤ (v 144).toInt ∧ (v4151 144).toInt = (v 144).toInt ∧ (v4151 143).toInt = (v 143).toInt) ∨ ((v 144).toInt = -1 ∧ (v 143).toInt ≤ (v4151 143).toInt ∧ (v4151 143).toInt ≤ (v 100).toInt ∧ ((v4151 144).toInt = -1 ∨ (v4151 144).toInt = (v4151 143).toInt))) ∧ rdX (v 100) (F 39) 6 p0.toInt (v 144).toInt (v 143).toInt (v4151 144).toInt (v4151 143).toInt; refine ⟨by omega, fun hf => ?_⟩; exact rd.e0 (hw_r4150.2 hf) (fun q9 => by omega))⟩, (by show va_P _ _ _ t.heap; rw [ht]; exact hP9)⟩, hS.F ht⟩) hS.2.2 dX3_readChoice_66
  · skip
    have t4158 := cv_eq (a := r4155.toInt) rfl (b := 63) (by decide) c4156
    refine lv_aload_n hx hb dX3_readChoice_14 rfl (lv_at hl 0 rfl) ?_
    refine lv_iload_n hx hb dX3_readChoice_15 rfl (lv_at hl 1 rfl) ?_
    refine va_calli (va_runV (As := [.int p0]) (rest := []) ⟨hx, hb, hml, hown, hwd⟩ (c_X3_opens l dC dI g c adK adV v4151 F4152 nr H.size p0 hg hnr hI (by have h9 : v4151 143 = v4151 143 := rfl; (try rw [h9]); clear h9; have h9 : v4151 100 = v 100 := hf4153 100 (by decide); (try rw [h9]); clear h9; have h9 : v4151 144 = v4151 144 := rfl; (try rw [h9]); clear h9; omega)) (cwV 1 hwd (gV wk_874 wk_871 wk_872 wk_873 wk_38) rfl rfl rfl (by decide +kernel) ⟨(by show 2 + 1 ≤ fr + 10; omega), (by show 8 + (2 + 11) + (80) ≤ lc + 400; omega)⟩) ⟨PX.blind, va_recv hK hP (ci := 3) (q0 := 7) rfl rfl, fun U hU hW => ⟨rfl, PX.at hK hE hP hS hU hW⟩⟩ rfl rfl hl.1 rfl (lv_room (Nat.le_of_ble_eq_true rfl)) dX3_readChoice_16 ⟨Nat.le_of_ble_eq_true rfl, Nat.le_of_ble_eq_true rfl⟩) hS (fun q _ h => (freeX hS) q h) (freeX hS) (fun r4159 u t H1 locs ht hvm hw hB hz1 hk1 hS => ?_)
    unfold BX at hB
    rw [ht] at hB
    obtain ⟨v4160, F4161, rc9⟩ := u
    obtain ⟨hI, hal9, hrc, hf4162, hw⟩ := hw
    dsimp only at hI hal9 hrc hB hf4162 hw
    rw [hrc] at hB
    have hal := hal9.trans hal
    have hP : va_P (dC, dI) classes (wX g c v4160 F4161 (g (44 + nr))) H1 := hB
    replace hw : (r4159.toInt = 1 ∧ p0.toInt < 8 ∧ (v4160 143).toInt = (v4151 143).toInt + 1 ∧ (v4160 144).toInt = (v4151 144).toInt) ∨ (r4159.toInt = 0 ∧ 8 ≤ p0.toInt ∧ (v4160 143).toInt = (v4151 143).toInt ∧ ((0 ≤ (v4151 144).toInt ∧ (v4160 144).toInt = (v4151 144).toInt) ∨ ((v4151 144).toInt = -1 ∧ (v4160 144).toInt = (v4151 143).toInt))) := hw
    have hw_r4159 := hw
    clear hw
    generalize H1 = H at hP hS ⊢
    have rr_r4159 := i32_rng r4159
    refine lv_if_eq (tgt := 66) hx hb dX3_readChoice_19 (by decide) (fun c4163 => ?_) (fun c4163 => ?_)
    · skip
      have t4164 := cv_eq (a := r4159.toInt) rfl (b := 0) (by decide) c4163
      have hP9 : va_P (dC, dI) classes (wX g c v4160 F4161 (g (44 + nr))) H := hP
      exact W.vret hx hb hr (fun t ht hW => ⟨⟨(v4160, F4161, (g (44 + nr))), rfl, ⟨hI, hal, rfl, (frC (by decide) hf4162 (frC (by decide) hf4153 (fun _ _ => rfl))), (by show ((0 ≤ (v 144).toInt ∧ (v4160 144).toInt = (v 144).toInt ∧ (v4160 143).toInt = (v 143).toInt) ∨ ((v 144).toInt = -1 ∧ (v 143).toInt ≤ (v4160 143).toInt ∧ (v4160 143).toInt ≤ (v 100).toInt ∧ ((v4160 144).toInt = -1 ∨ (v4160 144).toInt = (v4160 143).toInt))) ∧ rdX (v 100) (F 39) 6 p0.toInt (v 144).toInt (v 143).toInt (v4160 144).toInt (v4160 143).toInt; refine ⟨by omega, fun hf => ?_⟩; exact rd.eD (hw_r4150.2 hf) (by omega) (by omega) (by omega) (by omega) (by omega))⟩, (by show va_P _ _ _ t.heap; rw [ht]; exact hP9)⟩, hS.F ht⟩) hS.2.2 dX3_readChoice_66
    · skip
      have t4165 := cv_ne (a := r4159.toInt) rfl (b := 0) (by decide) c4163
      refine lv_aload_n hx hb dX3_readChoice_22 rfl (lv_at hl 0 rfl) ?_
      refine lv_iconst (v := 4) hx hb dX3_readChoice_23 (by decide) ?_
      refine lv_iconst (v := 0) hx hb dX3_readChoice_24 (by decide) ?_
      refine va_calli (va_runV (As := [.int 4, .int 0]) (rest := []) ⟨hx, hb, hml, hown, hwd⟩ (c_X3_put l dC dI g c adK adV v4160 F4161 nr H.size 4 0 hg hnr hI (by have : (4 : Int32).toInt = 4 := (by decide); omega) (by have : (0 : Int32).toInt = 0 := (by decide); omega)) (cwV 2 hwd (gV wk_882 wk_879 wk_880 wk_881 wk_38) rfl rfl rfl (by decide +kernel) ⟨(by show 1 + 1 ≤ fr + 10; omega), (by show 8 + (3 + 11) + (40) ≤ lc + 400; omega)⟩) ⟨PX.blind, va_recv hK hP (ci := 3) (q0 := 7) rfl rfl, fun U hU hW => ⟨rfl, PX.at hK hE hP hS hU hW⟩⟩ rfl rfl hl.1 rfl (lv_room (Nat.le_of_ble_eq_true rfl)) dX3_readChoice_25 ⟨Nat.le_of_ble_eq_true rfl, Nat.le_of_ble_eq_true rfl⟩) hS (fun q _ h => (freeX hS) q h) (freeX hS) (fun r4166 u t H1 locs ht hvm hw hB hz1 hk1 hS => ?_)
      unfold BX at hB
      rw [ht] at hB
      obtain ⟨v4167, F4168, rc9⟩ := u
      obtain ⟨hI, hal9, hrc, hf4169, hw⟩ := hw
      dsimp only at hI hal9 hrc hB hf4169 hw
      rw [hrc] at hB
      have hal := hal9.trans hal
      have hP : va_P (dC, dI) classes (wX g c v4167 F4168 (g (44 + nr))) H1 := hB
      have hw : -1 ≤ r4166.toInt ∧ r4166.toInt ≤ 119 := hw
      have k4170 : (4 : Int32).toInt = 4 := by decide
      have k4171 : (0 : Int32).toInt = 0 := by decide
      generalize H1 = H at hP hS ⊢
      have hw_r4166 := hw
      refine lv_istore_n (lv' := [(2, .int r4166), (0, .ref (g 7)), (1, .int p0)]) hx hb dX3_readChoice_28 rfl hl (by decide) rfl (fun ls hl => ?_)
      refine lv_aload_n hx hb dX3_readChoice_29 rfl (lv_at hl 1 rfl) ?_
      refine lv_iload_n hx hb dX3_readChoice_30 rfl (lv_at hl 2 rfl) ?_
      refine lv_iconst (v := 1) hx hb dX3_readChoice_31 (by decide) ?_
      refine lv_iadd hx hb dX3_readChoice_32 ?_
      refine lv_topi (fun z4172 e4173 => ?_)
      try (have t4174 := tadd e4173 (a := p0.toInt) rfl (b := 1) (by decide) (by omega))
      have t4175 : 0 ≤ (v 100).toInt ∧ (v 100).toInt ≤ 120 := by have h9 := hI.1 100 _ _ rfl; rw [show v4167 100 = v 100 from (hf4169 100 (by decide)).trans ((hf4162 100 (by decide)).trans (hf4153 100 (by decide)))] at h9; exact h9
      have hby39 : F4168 39 = F 39 := congrArg (fun t : ALX => t.2.2.2.2.2.2.1) hal
      refine va_callv (va_runV (As := [.int z4172]) (rest := []) ⟨hx, hb, hml, hown, hwd⟩ (rC l dC dI g c adK adV v4167 F4168 nr H.size z4172 hg hnr hI (by have h9 : v4167 143 = v4160 143 := hf4169 143 (by decide); (try rw [h9]); clear h9; have h9 : v4167 100 = v 100 := (hf4169 100 (by decide)).trans ((hf4162 100 (by decide)).trans (hf4153 100 (by decide))); (try rw [h9]); clear h9; have h9 : v4167 144 = v4160 144 := hf4169 144 (by decide); (try rw [h9]); clear h9; omega) (by omega)) (cwV 1 hwd (gV wk_859 wk_856 wk_857 wk_858 wk_38) rfl rfl rfl (by decide +kernel) ⟨(by show fr + 4 + 1 ≤ fr + 10; omega), (by show 8 + (4 + 11) + (lc + 160) ≤ lc + 400; omega)⟩) ⟨PX.blind, va_recv hK hP (ci := 3) (q0 := 7) rfl rfl, fun U hU hW => ⟨rfl, PX.at hK hE hP hS hU hW⟩⟩ rfl rfl hl.1 rfl (lv_room (Nat.le_of_ble_eq_true rfl)) dX3_readChoice_33 ⟨Nat.le_of_ble_eq_true rfl, Nat.le_of_ble_eq_true rfl⟩) hS (fun q _ h => (freeX hS) q h) (freeX hS) (fun u t H1 locs ht hvm hw hB hz1 hk1 hS => ?_)
      unfold BX at hB
      rw [ht] at hB
      obtain ⟨v4177, F4178, rc9⟩ := u
      obtain ⟨hI, hal9, hrc, hf4179, hw⟩ := hw
      dsimp only at hI hal9 hrc hB hf4179 hw
      rw [hrc] at hB
      have hal := hal9.trans hal
      have hP : va_P (dC, dI) classes (wX g c v4177 F4178 (g (44 + nr))) H1 := hB
      replace hw : ((0 ≤ (v4167 144).toInt ∧ (v4177 144).toInt = (v4167 144).toInt ∧ (v4177 143).toInt = (v4167 143).toInt) ∨ ((v4167 144).toInt = -1 ∧ (v4167 143).toInt ≤ (v4177 143).toInt ∧ (v4177 143).toInt ≤ (v4167 100).toInt ∧ ((v4177 144).toInt = -1 ∨ (v4177 144).toInt = (v4177 143).toInt))) ∧ rdX (v4167 100) (F4168 39) 6 z4172.toInt (v4167 144).toInt (v4167 143).toInt (v4177 144).toInt (v4177 143).toInt := hw
      rw [show v4167 144 = v4160 144 from hf4169 144 (by decide)] at hw
      rw [show v4167 143 = v4160 143 from hf4169 143 (by decide)] at hw
      rw [show v4167 100 = v 100 from (hf4169 100 (by decide)).trans ((hf4162 100 (by decide)).trans (hf4153 100 (by decide)))] at hw
      rw [hby39] at hw
      have hw_r4176 := hw
      clear hw
      generalize H1 = H at hP hS ⊢
      refine lv_aload_n hx hb dX3_readChoice_36 rfl (lv_at hl 1 rfl) ?_
      refine lv_bipush (v := 58) hx hb dX3_readChoice_37 (by decide) ?_
      have t4180 : 0 ≤ (v 100).toInt ∧ (v 100).toInt ≤ 120 := by have h9 := hI.1 100 _ _ rfl; rw [show v4177 100 = v 100 from (hf4179 100 (by decide)).trans ((hf4169 100 (by decide)).trans ((hf4162 100 (by decide)).trans (hf4153 100 (by decide))))] at h9; exact h9
      have hby39 : F4178 39 = F 39 := congrArg (fun t : ALX => t.2.2.2.2.2.2.1) hal
      refine va_callv (va_runV (As := [.int 58]) (rest := []) ⟨hx, hb, hml, hown, hwd⟩ (c_X3_take l dC dI g c adK adV v4177 F4178 nr H.size 58 hg hnr hI (by have : (58 : Int32).toInt = 58 := (by decide); omega) (by have h9 : v4177 143 = v4177 143 := rfl; (try rw [h9]); clear h9; have h9 : v4177 100 = v 100 := (hf4179 100 (by decide)).trans ((hf4169 100 (by decide)).trans ((hf4162 100 (by decide)).trans (hf4153 100 (by decide)))); (try rw [h9]); clear h9; have h9 : v4177 144 = v4177 144 := rfl; (try rw [h9]); clear h9; omega)) (cwV 1 hwd (gV wk_886 wk_883 wk_884 wk_885 wk_38) rfl rfl rfl (by decide +kernel) ⟨(by show 3 + 1 ≤ fr + 10; omega), (by show 8 + (2 + 11) + (120) ≤ lc + 400; omega)⟩) ⟨PX.blind, va_recv hK hP (ci := 3) (q0 := 7) rfl rfl, fun U hU hW => ⟨rfl, PX.at hK hE hP hS hU hW⟩⟩ rfl rfl hl.1 rfl (lv_room (Nat.le_of_ble_eq_true rfl)) dX3_readChoice_39 ⟨Nat.le_of_ble_eq_true rfl, Nat.le_of_ble_eq_true rfl⟩) hS (fun q _ h => (freeX hS) q h) (freeX hS) (fun u t H1 locs ht hvm hw hB hz1 hk1 hS => ?_)
      unfold BX at hB
      rw [ht] at hB
      obtain ⟨v4182, F4183, rc9⟩ := u
      obtain ⟨hI, hal9, hrc, hf4184, hw⟩ := hw
      dsimp only at hI hal9 hrc hB hf4184 hw
      rw [hrc] at hB
      have hal := hal9.trans hal
      have hP : va_P (dC, dI) classes (wX g c v4182 F4183 (g (44 + nr))) H1 := hB
      replace hw : (0 ≤ (v4177 144).toInt ∧ (v4182 144).toInt = (v4177 144).toInt ∧ (v4182 143).toInt = (v4177 143).toInt) ∨ ((v4177 144).toInt = -1 ∧ sg (v4177 100) (F4178 39) (v4177 143).toInt = (58 : Int32).toInt ∧ (v4182 144).toInt = -1 ∧ (v4182 143).toInt = (v4177 143).toInt + 1 ∧ (v4177 143).toInt < (v4177 100).toInt) ∨ ((v4177 144).toInt = -1 ∧ ¬ sg (v4177 100) (F4178 39) (v4177 143).toInt = (58 : Int32).toInt ∧ (v4182 144).toInt = (v4177 143).toInt ∧ (v4182 143).toInt = (v4177 143).toInt) := hw
      rw [show v4177 100 = v 100 from (hf4179 100 (by decide)).trans ((hf4169 100 (by decide)).trans ((hf4162 100 (by decide)).trans (hf4153 100 (by decide))))] at hw
      rw [hby39] at hw
      have hw_r4181 := hw
      clear hw
      have k4185 : (58 : Int32).toInt = 58 := by decide
      generalize H1 = H at hP hS ⊢
      refine lv_aload_n hx hb dX3_readChoice_42 rfl (lv_at hl 1 rfl) ?_
      refine lv_iconst (v := 3) hx hb dX3_readChoice_43 (by decide) ?_
      refine lv_iconst (v := 0) hx hb dX3_readChoice_44 (by decide) ?_
      refine va_calli (va_runV (As := [.int 3, .int 0]) (rest := []) ⟨hx, hb, hml, hown, hwd⟩ (c_X3_put l dC dI g c adK adV v4182 F4183 nr H.size 3 0 hg hnr hI (by have : (3 : Int32).toInt = 3 := (by decide); omega) (by have : (0 : Int32).toInt = 0 := (by decide); omega)) (cwV 2 hwd (gV wk_882 wk_879 wk_880 wk_881 wk_38) rfl rfl rfl (by decide +kernel) ⟨(by show 1 + 1 ≤ fr + 10; omega), (by show 8 + (3 + 11) + (40) ≤ lc + 400; omega)⟩) ⟨PX.blind, va_recv hK hP (ci := 3) (q0 := 7) rfl rfl, fun U hU hW => ⟨rfl, PX.at hK hE hP hS hU hW⟩⟩ rfl rfl hl.1 rfl (lv_room (Nat.le_of_ble_eq_true rfl)) dX3_readChoice_45 ⟨Nat.le_of_ble_eq_true rfl, Nat.le_of_ble_eq_true rfl⟩) hS (fun q _ h => (freeX hS) q h) (freeX hS) (fun r4186 u t H1 locs ht hvm hw hB hz1 hk1 hS => ?_)
      unfold BX at hB
      rw [ht] at hB
      obtain ⟨v4187, F4188, rc9⟩ := u
      obtain ⟨hI, hal9, hrc, hf4189, hw⟩ := hw
      dsimp only at hI hal9 hrc hB hf4189 hw
      rw [hrc] at hB
      have hal := hal9.trans hal
      have hP : va_P (dC, dI) classes (wX g c v4187 F4188 (g (44 + nr))) H1 := hB
      have hw : -1 ≤ r4186.toInt ∧ r4186.toInt ≤ 119 := hw
      have k4190 : (3 : Int32).toInt = 3 := by decide
      have k4191 : (0 : Int32).toInt = 0 := by decide
      generalize H1 = H at hP hS ⊢
      have hw_r4186 := hw
      refine lv_istore_n (lv' := [(3, .int r4186), (2, .int r4166), (0, .ref (g 7)), (1, .int p0)]) hx hb dX3_readChoice_48 rfl hl (by decide) rfl (fun ls hl => ?_)
      refine lv_aload_n hx hb dX3_readChoice_49 rfl (lv_at hl 2 rfl) ?_
      refine lv_iload_n hx hb dX3_readChoice_50 rfl (lv_at hl 1 rfl) ?_
      refine va_callv (va_runV (As := [.int r4166]) (rest := []) ⟨hx, hb, hml, hown, hwd⟩ (c_X3_leadHere l dC dI g c adK adV v4187 F4188 nr H.size r4166 hg hnr hI ) (cwV 1 hwd (gV wk_890 wk_887 wk_888 wk_889 wk_38) rfl rfl rfl (by decide +kernel) ⟨(by show 1 + 1 ≤ fr + 10; omega), (by show 8 + (2 + 11) + (40) ≤ lc + 400; omega)⟩) ⟨PX.blind, va_recv hK hP (ci := 3) (q0 := 7) rfl rfl, fun U hU hW => ⟨rfl, PX.at hK hE hP hS hU hW⟩⟩ rfl rfl hl.1 rfl (lv_room (Nat.le_of_ble_eq_true rfl)) dX3_readChoice_51 ⟨Nat.le_of_ble_eq_true rfl, Nat.le_of_ble_eq_true rfl⟩) hS (fun q _ h => (freeX hS) q h) (freeX hS) (fun u t H1 locs ht hvm hw hB hz1 hk1 hS => ?_)
      unfold BX at hB
      rw [ht] at hB
      obtain ⟨v4193, F4194, rc9⟩ := u
      obtain ⟨hI, hal9, hrc, hf4195, hw⟩ := hw
      dsimp only at hI hal9 hrc hB hf4195 hw
      rw [hrc] at hB
      have hal := hal9.trans hal
      have hP : va_P (dC, dI) classes (wX g c v4193 F4194 (g (44 + nr))) H1 := hB
      generalize H1 = H at hP hS ⊢
      refine lv_aload_n hx hb dX3_readChoice_54 rfl (lv_at hl 2 rfl) ?_
      refine lv_iload_n hx hb dX3_readChoice_55 rfl (lv_at hl 3 rfl) ?_
      refine lv_iconst (v := 1) hx hb dX3_readChoice_56 (by decide) ?_
      refine lv_iadd hx hb dX3_readChoice_57 ?_
      refine lv_topi (fun z4196 e4197 => ?_)
      try (have t4198 := tadd e4197 (a := p0.toInt) rfl (b := 1) (by decide) (by omega))
      have t4199 : 0 ≤ (v 100).toInt ∧ (v 100).toInt ≤ 120 := by have h9 := hI.1 100 _ _ rfl; rw [show v4193 100 = v 100 from (hf4195 100 (by decide)).trans ((hf4189 100 (by decide)).trans ((hf4184 100 (by decide)).trans ((hf4179 100 (by decide)).trans ((hf4169 100 (by decide)).trans ((hf4162 100 (by decide)).trans (hf4153 100 (by decide)))))))] at h9; exact h9
      have hby39 : F4194 39 = F 39 := congrArg (fun t : ALX => t.2.2.2.2.2.2.1) hal
      refine va_callv (va_runV (As := [.int z4196]) (rest := []) ⟨hx, hb, hml, hown, hwd⟩ (rC l dC dI g c adK adV v4193 F4194 nr H.size z4196 hg hnr hI (by have h9 : v4193 143 = v4182 143 := (hf4195 143 (by decide)).trans (hf4189 143 (by decide)); (try rw [h9]); clear h9; have h9 : v4193 100 = v 100 := (hf4195 100 (by decide)).trans ((hf4189 100 (by decide)).trans ((hf4184 100 (by decide)).trans ((hf4179 100 (by decide)).trans ((hf4169 100 (by decide)).trans ((hf4162 100 (by decide)).trans (hf4153 100 (by decide))))))); (try rw [h9]); clear h9; have h9 : v4193 144 = v4182 144 := (hf4195 144 (by decide)).trans (hf4189 144 (by decide)); (try rw [h9]); clear h9; omega) (by omega)) (cwV 1 hwd (gV wk_859 wk_856 wk_857 wk_858 wk_38) rfl rfl rfl (by decide +kernel) ⟨(by show fr + 4 + 1 ≤ fr + 10; omega), (by show 8 + (4 + 11) + (lc + 160) ≤ lc + 400; omega)⟩) ⟨PX.blind, va_recv hK hP (ci := 3) (q0 := 7) rfl rfl, fun U hU hW => ⟨rfl, PX.at hK hE hP hS hU hW⟩⟩ rfl rfl hl.1 rfl (lv_room (Nat.le_of_ble_eq_true rfl)) dX3_readChoice_58 ⟨Nat.le_of_ble_eq_true rfl, Nat.le_of_ble_eq_true rfl⟩) hS (fun q _ h => (freeX hS) q h) (freeX hS) (fun u t H1 locs ht hvm hw hB hz1 hk1 hS => ?_)
      unfold BX at hB
      rw [ht] at hB
      obtain ⟨v4201, F4202, rc9⟩ := u
      obtain ⟨hI, hal9, hrc, hf4203, hw⟩ := hw
      dsimp only at hI hal9 hrc hB hf4203 hw
      rw [hrc] at hB
      have hal := hal9.trans hal
      have hP : va_P (dC, dI) classes (wX g c v4201 F4202 (g (44 + nr))) H1 := hB
      replace hw : ((0 ≤ (v4193 144).toInt ∧ (v4201 144).toInt = (v4193 144).toInt ∧ (v4201 143).toInt = (v4193 143).toInt) ∨ ((v4193 144).toInt = -1 ∧ (v4193 143).toInt ≤ (v4201 143).toInt ∧ (v4201 143).toInt ≤ (v4193 100).toInt ∧ ((v4201 144).toInt = -1 ∨ (v4201 144).toInt = (v4201 143).toInt))) ∧ rdX (v4193 100) (F4194 39) 6 z4196.toInt (v4193 144).toInt (v4193 143).toInt (v4201 144).toInt (v4201 143).toInt := hw
      rw [show v4193 144 = v4182 144 from (hf4195 144 (by decide)).trans (hf4189 144 (by decide))] at hw
      rw [show v4193 143 = v4182 143 from (hf4195 143 (by decide)).trans (hf4189 143 (by decide))] at hw
      rw [show v4193 100 = v 100 from (hf4195 100 (by decide)).trans ((hf4189 100 (by decide)).trans ((hf4184 100 (by decide)).trans ((hf4179 100 (by decide)).trans ((hf4169 100 (by decide)).trans ((hf4162 100 (by decide)).trans (hf4153 100 (by decide)))))))] at hw
      rw [hby39] at hw
      have hw_r4200 := hw
      clear hw
      generalize H1 = H at hP hS ⊢
      refine lv_aload_n hx hb dX3_readChoice_61 rfl (lv_at hl 2 rfl) ?_
      refine lv_iload_n hx hb dX3_readChoice_62 rfl (lv_at hl 0 rfl) ?_
      refine va_callv (va_runV (As := [.int r4186]) (rest := []) ⟨hx, hb, hml, hown, hwd⟩ (c_X3_leadHere l dC dI g c adK adV v4201 F4202 nr H.size r4186 hg hnr hI ) (cwV 1 hwd (gV wk_890 wk_887 wk_888 wk_889 wk_38) rfl rfl rfl (by decide +kernel) ⟨(by show 1 + 1 ≤ fr + 10; omega), (by show 8 + (2 + 11) + (40) ≤ lc + 400; omega)⟩) ⟨PX.blind, va_recv hK hP (ci := 3) (q0 := 7) rfl rfl, fun U hU hW => ⟨rfl, PX.at hK hE hP hS hU hW⟩⟩ rfl rfl hl.1 rfl (lv_room (Nat.le_of_ble_eq_true rfl)) dX3_readChoice_63 ⟨Nat.le_of_ble_eq_true rfl, Nat.le_of_ble_eq_true rfl⟩) hS (fun q _ h => (freeX hS) q h) (freeX hS) (fun u t H1 locs ht hvm hw hB hz1 hk1 hS => ?_)
      unfold BX at hB
      rw [ht] at hB
      obtain ⟨v4205, F4206, rc9⟩ := u
      obtain ⟨hI, hal9, hrc, hf4207, hw⟩ := hw
      dsimp only at hI hal9 hrc hB hf4207 hw
      rw [hrc] at hB
      have hal := hal9.trans hal
      have hP : va_P (dC, dI) classes (wX g c v4205 F4206 (g (44 + nr))) H1 := hB
      generalize H1 = H at hP hS ⊢
      have hP9 : va_P (dC, dI) classes (wX g c v4205 F4206 (g (44 + nr))) H := hP
      exact W.vret hx hb hr (fun t ht hW => ⟨⟨(v4205, F4206, (g (44 + nr))), rfl, ⟨hI, hal, rfl, (frC (by decide) hf4207 (frC (by decide) hf4203 (frC (by decide) hf4195 (frC (by decide) hf4189 (frC (by decide) hf4184 (frC (by decide) hf4179 (frC (by decide) hf4169 (frC (by decide) hf4162 (frC (by decide) hf4153 (fun _ _ => rfl)))))))))), (by show ((0 ≤ (v 144).toInt ∧ (v4205 144).toInt = (v 144).toInt ∧ (v4205 143).toInt = (v 143).toInt) ∨ ((v 144).toInt = -1 ∧ (v 143).toInt ≤ (v4205 143).toInt ∧ (v4205 143).toInt ≤ (v 100).toInt ∧ ((v4205 144).toInt = -1 ∨ (v4205 144).toInt = (v4205 143).toInt))) ∧ rdX (v 100) (F 39) 6 p0.toInt (v 144).toInt (v 143).toInt (v4205 144).toInt (v4205 143).toInt; rw [show v4205 144 = v4201 144 from hf4207 144 (by decide)]; rw [show v4205 143 = v4201 143 from hf4207 143 (by decide)]; refine ⟨by omega, fun hf => ?_⟩; exact rd.eX (hw_r4150.2 hf) (by omega) (by omega) (by omega) (by omega) (by omega) (hw_r4176.2 (by omega)) (by omega) (by omega) (fun q9 _ => hw_r4200.2 q9))⟩, (by show va_P _ _ _ t.heap; rw [ht]; exact hP9)⟩, hS.F ht⟩) hS.2.2 dX3_readChoice_66
