set_option maxHeartbeats 8000000 in
set_option maxRecDepth 100000 in
theorem d_X4_workOut (l : Launch) (dC : Nat → ClassId) (dI : Nat → Nat → Nat) (g : Nat → Nat) (c : Nat → ClassId) (adK adV : Nat → Nat) (v : Nat → Int32) (F : Nat → Nat → Int32) (rc sz : Nat) (p0 : Int32) (hg : injX g) (hI : IX v F) (h0 : 0 ≤ p0.toInt ∧ p0.toInt ≤ 9) : Met l yX4_workOut (Cond.code yX4_workOut cX4_workOut 7 (some .int) :: wA) ({ frames := 2, cells := 0, slots := 0, locals := 80 }) (va_Pc [.ref (g 6), .int p0, .ref (g 73)] (PX dC dI g c adK adV v F rc sz)) (va_Qi (fun (r : Int32) (u : StX) => IX u.1 u.2.1 ∧ alX u.1 u.2.1 = alX v F ∧ u.2.2 = rc ∧ (∀ k, k ∉ ([126] : List Nat) → u.1 k = v k) ∧ True) (BX dC dI g c) (AX g sz)) 0 0 (AX g sz) := by
  refine Met.ofW (cc := cX4_workOut) (maxL := 7) (ret := (some .int)) (by decide) rfl ?_
  intro p e s m args below meth c0 s₁ B hml hv
  obtain ⟨rfl, hsz, hP, hK, hE⟩ := hv
  have hx := B.exec
  have hb := B.bytes
  have hr := B.returns
  have hts := atoms_spec (ws := Cond.code yX4_workOut cX4_workOut 7 (some .int) :: wA) B.pre
  have hwd : ∀ w ∈ wA, w.before _ s = true := fun w h => hts w (List.mem_cons_of_mem _ h)
  have hown : s.vm.findClass RX4 = some m.cls := findClass_of_methodNamed B.named
  have hlocks := B.notSynchronized
  subst hsz
  have hl := lv_entry ([.ref (g 6), .int p0, .ref (g 73)]) (n := 7) (Nat.le_of_ble_eq_true rfl)
  rw [lg_entry_eq]
  generalize (lg_sl ([.ref (g 6), .int p0, .ref (g 73)]) ++ List.replicate (7 - (lg_sl ([.ref (g 6), .int p0, .ref (g 73)])).length) Slot.unset).toArray = ls at hl ⊢
  have hl : lv_has ls 7 [(0, .ref (g 6)), (1, .int p0), (2, .ref (g 73))] := hl
  obtain ⟨H, eH⟩ : ∃ z, z = s.heap := ⟨_, rfl⟩
  have hP : va_P (dC, dI) classes (wX g c v F rc) H := by rw [eH]; exact hP
  have hS : va_S (AX g s.heap.size) s.heap H [] := by rw [eH]; exact va_S.rf
  refine my_heap eH ?_
  have hal : alX v F = alX v F := rfl
  have rp0 := i32_rng p0
  refine lv_aload_n hx hb dX4_workOut_0 rfl (lv_at hl 0 rfl) ?_
  refine lv_iconst (v := 0) hx hb dX4_workOut_1 (by decide) ?_
  refine va_put (D := (dC, dI)) (ci := 4) (v := .int 0) (ty := .int) (C := RX4) (T := TX4) (N := 7) (fs := fsX_6 g v rc) hx hb hwd inA_X4 tyX4 tyX4_ok nmX4 hown hK hP (DX hg) hS 6 rfl rfl 6 (by decide) (hwd _ wk_411) (fun _ h9 => h9) rfl (by decide +kernel) rfl rfl (Nat.le_of_ble_eq_true rfl) dX4_workOut_2 (fun H locs hP _ hS => ?_)
  have hP := va_P_eq (pX_126 g c _ _ _ _) hP
  have hI := IX.put hI 126 0 rfl (by have : (0 : Int32).toInt = 0 := (by decide); omega)
  have hal := (alX_v _ _ 126 0 (by decide) (by decide) (by decide) (by decide)).trans hal
  refine lv_iconst (v := 0) hx hb dX4_workOut_5 (by decide) ?_
  refine lv_istore_n (lv' := [(3, .int 0), (0, .ref (g 6)), (1, .int p0), (2, .ref (g 73))]) hx hb dX4_workOut_6 rfl hl (by decide) rfl (fun ls hl => ?_)
  have lp3154 : ∀ (n : Nat) (x3_lp3154 : Int32) (v_lp3154 : Nat → Int32) (F_lp3154 : Nat → Nat → Int32) (H : Heap) (locs : List Loc) (ls : Array Slot), (0 ≤ x3_lp3154.toInt) → (x3_lp3154.toInt ≤ 2147483646) → (2147483648 - x3_lp3154.toInt ≤ (n : Int)) → (∀ k, k ∉ ([126] : List Nat) → v_lp3154 k = (va_up v 126 0) k) → IX v_lp3154 F_lp3154 → alX v_lp3154 F_lp3154 = alX v F → va_P (dC, dI) classes (wX g c v_lp3154 F_lp3154 rc) H → va_S (AX g s.heap.size) s.heap H locs → lv_has ls 7 [(3, .int x3_lp3154), (0, .ref (g 6)), (1, .int p0), (2, .ref (g 73))] → W p l e (headSpec (Cond.code yX4_workOut cX4_workOut 7 (some .int) :: wA) ({ frames := 2, cells := 0, slots := 0, locals := 80 })).room s m ([.ref (g 6), .int p0, .ref (g 73)] : List Value).toArray below meth c0 H locs 0 0 (MQ below (va_Qi (fun (r : Int32) (u : StX) => IX u.1 u.2.1 ∧ alX u.1 u.2.1 = alX v F ∧ u.2.2 = rc ∧ (∀ k, k ∉ ([126] : List Nat) → u.1 k = v k) ∧ True) (BX dC dI g c) (AX g s.heap.size)) ([.ref (g 6), .int p0, .ref (g 73)] : List Value).toArray s 0 0 (AX g s.heap.size)) (F0 m 7 ls []) := by
    intro n
    induction n with
    | zero =>
      intro x3_lp3154 v_lp3154 F_lp3154 H locs ls t3155 t3156 hm hf_lp3154 hI hal hP hS hl
      exfalso
      have := i32_rng x3_lp3154
      have hI1 := hI.1
      omega
    | succ n ih_lp3154 =>
      intro x3_lp3154 v_lp3154 F_lp3154 H locs ls t3155 t3156 hm hf_lp3154 hI hal hP hS hl
      have rx3_lp3154 := i32_rng x3_lp3154
      refine lv_iload_n hx hb dX4_workOut_7 rfl (lv_at hl 0 rfl) ?_
      refine lv_aload_n hx hb dX4_workOut_8 rfl (lv_at hl 1 rfl) ?_
      refine va_get (D := (dC, dI)) (ci := 4) (v := .ref (g 42)) (C := RX4) (T := TX4) (N := 7) hx hb hwd inA_X4 hown hK hP 6 rfl rfl 3 (by decide) (hwd _ wk_110) (fun _ h9 => h9) rfl dX4_workOut_9 ?_
      refine lv_iload_n hx hb dX4_workOut_12 rfl (lv_at hl 2 rfl) ?_
      refine va_iald hx hb hK hP 42 30 rfl rfl (i := p0) (vin (a := p0.toInt) rfl (by omega)) dX4_workOut_13 ?_
      refine lv_topi (fun z3157 e3158 => ?_)
      have t3159 : 0 ≤ z3157.toInt ∧ z3157.toInt ≤ 120 := by rw [e3158]; exact hI.2 42 _ _ rfl _
      refine lv_icmp_ge (tgt := 185) hx hb dX4_workOut_14 (by decide) (fun c3160 => ?_) (fun c3160 => ?_)
      · skip
        have t3161 := cv_le (a := z3157.toInt) rfl (b := x3_lp3154.toInt) rfl c3160
        refine lv_aload_n hx hb dX4_workOut_185 rfl (lv_at hl 1 rfl) ?_
        refine va_calli (va_runV (As := []) (rest := []) ⟨hx, hb, hml, hown, hwd⟩ (c_X4_pop l dC dI g c adK adV v_lp3154 F_lp3154 rc H.size  hg hI ) (cwV 0 hwd (gV wk_420 wk_417 wk_418 wk_419 wk_34) rfl rfl rfl (by decide +kernel) ⟨Nat.le_of_ble_eq_true rfl, Nat.le_of_ble_eq_true rfl⟩) ⟨PX.blind, va_recv hK hP (ci := 4) (q0 := 6) rfl rfl, fun U hU hW => ⟨rfl, PX.at hK hE hP hS hU hW⟩⟩ rfl rfl hl.1 rfl (lv_room (Nat.le_of_ble_eq_true rfl)) dX4_workOut_186 ⟨Nat.le_of_ble_eq_true rfl, Nat.le_of_ble_eq_true rfl⟩) hS (fun q _ h => (freeX hS) q h) (freeX hS) (fun r3162 u t H1 locs ht hvm hw hB hz1 hk1 hS => ?_)
        unfold BX at hB
        rw [ht] at hB
        obtain ⟨v3163, F3164, rc9⟩ := u
        obtain ⟨hI, hal9, hrc, hf3165, hw⟩ := hw
        dsimp only at hI hal9 hrc hB hf3165 hw
        rw [hrc] at hB
        have hal := hal9.trans hal
        have hP : va_P (dC, dI) classes (wX g c v3163 F3164 rc) H1 := hB
        generalize H1 = H at hP hS ⊢
        have rr_r3162 := i32_rng r3162
        have hP9 : va_P (dC, dI) classes (wX g c v3163 F3164 rc) H := hP
        exact W.iret (v := r3162) hx hb hr (fun t ht hW => ⟨⟨r3162, (v3163, F3164, rc), rfl, ⟨hI, hal, rfl, (frC (by decide) hf3165 (frC (by decide) hf_lp3154 (frU (by decide) (fun _ _ => rfl)))), trivial⟩, (by show va_P _ _ _ t.heap; rw [ht]; exact hP9)⟩, hS.F ht⟩) hS.2.2 dX4_workOut_189
      · skip
        have t3166 := cv_nle (a := z3157.toInt) rfl (b := x3_lp3154.toInt) rfl c3160
        refine lv_aload_n hx hb dX4_workOut_17 rfl (lv_at hl 1 rfl) ?_
        refine va_get (D := (dC, dI)) (ci := 4) (v := .ref (g 43)) (C := RX4) (T := TX4) (N := 7) hx hb hwd inA_X4 hown hK hP 6 rfl rfl 4 (by decide) (hwd _ wk_112) (fun _ h9 => h9) rfl dX4_workOut_18 ?_
        refine lv_iload_n hx hb dX4_workOut_21 rfl (lv_at hl 2 rfl) ?_
        refine my_aald hx hb hK hP 43 31 rfl rfl (i := p0) (vin (a := p0.toInt) rfl (by omega)) dX4_workOut_22 ?_
        have t3167 : (p0).toNatClampNeg < 10 := nclt (a := p0.toInt) rfl (by omega)
        refine my_any (v := .ref (g (44 + (p0).toNatClampNeg))) (by show va_rf (if _ < 10 then _ else _) = _; rw [if_pos t3167]; rfl) ?_
        refine lv_iload_n hx hb dX4_workOut_23 rfl (lv_at hl 0 rfl) ?_
        refine va_iald hx hb hK hP (44 + (p0).toNatClampNeg) (32 + (p0).toNatClampNeg) (rowW44 t3167) (rowT44 t3167) (i := x3_lp3154) (vin (a := x3_lp3154.toInt) rfl (by omega)) dX4_workOut_24 ?_
        refine lv_topi (fun z3168 e3169 => ?_)
        have t3170 : 0 ≤ z3168.toInt ∧ z3168.toInt ≤ 2147483647 := by rw [e3169]; exact hI.2 _ _ _ (rowA44 t3167) _
        refine lv_bipush (v := 15) hx hb dX4_workOut_25 (by decide) ?_
        refine lv_iand hx hb dX4_workOut_27 ?_
        refine lv_topi (fun z3171 e3172 => ?_)
        have taz3171 := i32_rng z3171
        refine lv_istore (lv' := [(4, .int z3171), (3, .int x3_lp3154), (0, .ref (g 6)), (1, .int p0), (2, .ref (g 73))]) hx hb dX4_workOut_28 hl (by decide) rfl (fun ls hl => ?_)
        refine lv_aload_n hx hb dX4_workOut_30 rfl (lv_at hl 2 rfl) ?_
        refine va_get (D := (dC, dI)) (ci := 4) (v := .ref (g 43)) (C := RX4) (T := TX4) (N := 7) hx hb hwd inA_X4 hown hK hP 6 rfl rfl 4 (by decide) (hwd _ wk_112) (fun _ h9 => h9) rfl dX4_workOut_31 ?_
        refine lv_iload_n hx hb dX4_workOut_34 rfl (lv_at hl 3 rfl) ?_
        refine my_aald hx hb hK hP 43 31 rfl rfl (i := p0) (vin (a := p0.toInt) rfl (by omega)) dX4_workOut_35 ?_
        have t3174 : (p0).toNatClampNeg < 10 := nclt (a := p0.toInt) rfl (by omega)
        refine my_any (v := .ref (g (44 + (p0).toNatClampNeg))) (by show va_rf (if _ < 10 then _ else _) = _; rw [if_pos t3174]; rfl) ?_
        refine lv_iload_n hx hb dX4_workOut_36 rfl (lv_at hl 1 rfl) ?_
        refine va_iald hx hb hK hP (44 + (p0).toNatClampNeg) (32 + (p0).toNatClampNeg) (rowW44 t3174) (rowT44 t3174) (i := x3_lp3154) (vin (a := x3_lp3154.toInt) rfl (by omega)) dX4_workOut_37 ?_
        refine lv_topi (fun z3175 e3176 => ?_)
        have t3177 : 0 ≤ z3175.toInt ∧ z3175.toInt ≤ 2147483647 := by rw [e3176]; exact hI.2 _ _ _ (rowA44 t3174) _
        refine lv_iconst (v := 4) hx hb dX4_workOut_38 (by decide) ?_
        refine lv_ishr hx hb dX4_workOut_39 ?_
        refine lv_topi (fun z3178 e3179 => ?_)
        have tvz3178 := tshr4 e3179 (by omega)
        refine lv_istore (lv' := [(5, .int z3178), (4, .int z3171), (3, .int x3_lp3154), (0, .ref (g 6)), (1, .int p0), (2, .ref (g 73))]) hx hb dX4_workOut_40 hl (by decide) rfl (fun ls hl => ?_)
        refine lv_iload hx hb dX4_workOut_42 (lv_at hl 1 rfl) ?_
        by_cases hlo3181 : z3171.toInt < 0
        · refine lv_tableOut (tgt := 158) hx hb dX4_workOut_44 (Or.inl hlo3181) (by decide) ?_
          refine lv_aload_n hx hb dX4_workOut_158 rfl (lv_at hl 3 rfl) ?_
          refine va_calli (va_runV (As := []) (rest := []) ⟨hx, hb, hml, hown, hwd⟩ (c_X4_pop l dC dI g c adK adV v_lp3154 F_lp3154 rc H.size  hg hI ) (cwV 0 hwd (gV wk_420 wk_417 wk_418 wk_419 wk_34) rfl rfl rfl (by decide +kernel) ⟨Nat.le_of_ble_eq_true rfl, Nat.le_of_ble_eq_true rfl⟩) ⟨PX.blind, va_recv hK hP (ci := 4) (q0 := 6) rfl rfl, fun U hU hW => ⟨rfl, PX.at hK hE hP hS hU hW⟩⟩ rfl rfl hl.1 rfl (lv_room (Nat.le_of_ble_eq_true rfl)) dX4_workOut_159 ⟨Nat.le_of_ble_eq_true rfl, Nat.le_of_ble_eq_true rfl⟩) hS (fun q _ h => (freeX hS) q h) (freeX hS) (fun r3183 u t H1 locs ht hvm hw hB hz1 hk1 hS => ?_)
          unfold BX at hB
          rw [ht] at hB
          obtain ⟨v3184, F3185, rc9⟩ := u
          obtain ⟨hI, hal9, hrc, hf3186, hw⟩ := hw
          dsimp only at hI hal9 hrc hB hf3186 hw
          rw [hrc] at hB
          have hal := hal9.trans hal
          have hP : va_P (dC, dI) classes (wX g c v3184 F3185 rc) H1 := hB
          generalize H1 = H at hP hS ⊢
          have rr_r3183 := i32_rng r3183
          refine lv_istore (lv' := [(6, .int r3183), (5, .int z3178), (4, .int z3171), (3, .int x3_lp3154), (0, .ref (g 6)), (1, .int p0), (2, .ref (g 73))]) hx hb dX4_workOut_162 hl (by decide) rfl (fun ls hl => ?_)
          refine lv_aload_n hx hb dX4_workOut_164 rfl (lv_at hl 4 rfl) ?_
          refine lv_iload hx hb dX4_workOut_165 (lv_at hl 2 rfl) ?_
          refine lv_aload_n hx hb dX4_workOut_167 rfl (lv_at hl 4 rfl) ?_
          refine va_calli (va_runV (As := []) (rest := [.int z3171, .ref (g 6)]) ⟨hx, hb, hml, hown, hwd⟩ (c_X4_pop l dC dI g c adK adV v3184 F3185 rc H.size  hg hI ) (cwV 0 hwd (gV wk_420 wk_417 wk_418 wk_419 wk_34) rfl rfl rfl (by decide +kernel) ⟨Nat.le_of_ble_eq_true rfl, Nat.le_of_ble_eq_true rfl⟩) ⟨PX.blind, va_recv hK hP (ci := 4) (q0 := 6) rfl rfl, fun U hU hW => ⟨rfl, PX.at hK hE hP hS hU hW⟩⟩ rfl rfl hl.1 rfl (lv_room (Nat.le_of_ble_eq_true rfl)) dX4_workOut_168 ⟨Nat.le_of_ble_eq_true rfl, Nat.le_of_ble_eq_true rfl⟩) hS (fun q _ h => (freeX hS) q h) (freeX hS) (fun r3187 u t H1 locs ht hvm hw hB hz1 hk1 hS => ?_)
          unfold BX at hB
          rw [ht] at hB
          obtain ⟨v3188, F3189, rc9⟩ := u
          obtain ⟨hI, hal9, hrc, hf3190, hw⟩ := hw
          dsimp only at hI hal9 hrc hB hf3190 hw
          rw [hrc] at hB
          have hal := hal9.trans hal
          have hP : va_P (dC, dI) classes (wX g c v3188 F3189 rc) H1 := hB
          generalize H1 = H at hP hS ⊢
          have rr_r3187 := i32_rng r3187
          refine lv_iload hx hb dX4_workOut_171 (lv_at hl 0 rfl) ?_
          refine va_calli (va_runS (As := [.int z3171, .int r3187, .int r3183]) (rest := [.ref (g 6)]) ⟨hx, hb, hml, hown, hwd⟩ (c_X4_join l dC dI g c adK adV v3188 F3189 rc H.size z3171 r3187 r3183 hg hI ) (va_cwS 3 hwd (gT wk_423 wk_421 wk_422 wk_34) rfl rfl rfl (by decide +kernel) ⟨Nat.le_of_ble_eq_true rfl, Nat.le_of_ble_eq_true rfl⟩) ⟨PX.blind, fun U hU hW => ⟨rfl, PX.at hK hE hP hS hU hW⟩⟩ rfl rfl hl.1 rfl (lv_room (Nat.le_of_ble_eq_true rfl)) dX4_workOut_173 ⟨Nat.le_of_ble_eq_true rfl, Nat.le_of_ble_eq_true rfl⟩) hS (fun q _ h => (freeX hS) q h) (freeX hS) (fun r3191 u t H1 locs ht hvm hw hB hz1 hk1 hS => ?_)
          unfold BX at hB
          rw [ht] at hB
          have hP : va_P (dC, dI) classes (wX g c v3188 F3189 rc) H1 := hB
          generalize H1 = H at hP hS ⊢
          have rr_r3191 := i32_rng r3191
          refine va_callv (va_runV (As := [.int r3191]) (rest := []) ⟨hx, hb, hml, hown, hwd⟩ (c_X4_push l dC dI g c adK adV v3188 F3189 rc H.size r3191 hg hI ) (cwV 1 hwd (gV wk_416 wk_413 wk_414 wk_415 wk_34) rfl rfl rfl (by decide +kernel) ⟨Nat.le_of_ble_eq_true rfl, Nat.le_of_ble_eq_true rfl⟩) ⟨PX.blind, va_recv hK hP (ci := 4) (q0 := 6) rfl rfl, fun U hU hW => ⟨rfl, PX.at hK hE hP hS hU hW⟩⟩ rfl rfl hl.1 rfl (lv_room (Nat.le_of_ble_eq_true rfl)) dX4_workOut_176 ⟨Nat.le_of_ble_eq_true rfl, Nat.le_of_ble_eq_true rfl⟩) hS (fun q _ h => (freeX hS) q h) (freeX hS) (fun u t H1 locs ht hvm hw hB hz1 hk1 hS => ?_)
          unfold BX at hB
          rw [ht] at hB
          obtain ⟨v3193, F3194, rc9⟩ := u
          obtain ⟨hI, hal9, hrc, hf3195, hw⟩ := hw
          dsimp only at hI hal9 hrc hB hf3195 hw
          rw [hrc] at hB
          have hal := hal9.trans hal
          have hP : va_P (dC, dI) classes (wX g c v3193 F3194 rc) H1 := hB
          generalize H1 = H at hP hS ⊢
          obtain ⟨z3196, e3197⟩ : ∃ y : Int32, y = x3_lp3154 + 1 := ⟨_, rfl⟩
          try (have t3198 := tadd e3197 rfl (b := 1) (by decide) (by omega))
          refine lv_iinc (v := z3196) (lv' := [(3, .int z3196), (6, .int r3183), (5, .int z3178), (4, .int z3171), (0, .ref (g 6)), (1, .int p0), (2, .ref (g 73))]) hx hb dX4_workOut_179 hl (k := 3) rfl (by rw [e3197]; rfl) (by decide) rfl (fun ls hl => ?_)
          refine lv_goto (tgt := 7) hx hb dX4_workOut_182 (by decide) ?_
          exact ih_lp3154 z3196 v3193 F3194 _ _ _ (by omega) (by omega) (by omega) (frC (by decide) hf3195 (frC (by decide) hf3190 (frC (by decide) hf3186 hf_lp3154))) hI hal hP hS (lv_sub hl [0, 4, 5, 6] rfl)
        by_cases hhi3182 : 4 < z3171.toInt
        · refine lv_tableOut (tgt := 158) hx hb dX4_workOut_44 (Or.inr hhi3182) (by decide) ?_
          refine lv_aload_n hx hb dX4_workOut_158 rfl (lv_at hl 3 rfl) ?_
          refine va_calli (va_runV (As := []) (rest := []) ⟨hx, hb, hml, hown, hwd⟩ (c_X4_pop l dC dI g c adK adV v_lp3154 F_lp3154 rc H.size  hg hI ) (cwV 0 hwd (gV wk_420 wk_417 wk_418 wk_419 wk_34) rfl rfl rfl (by decide +kernel) ⟨Nat.le_of_ble_eq_true rfl, Nat.le_of_ble_eq_true rfl⟩) ⟨PX.blind, va_recv hK hP (ci := 4) (q0 := 6) rfl rfl, fun U hU hW => ⟨rfl, PX.at hK hE hP hS hU hW⟩⟩ rfl rfl hl.1 rfl (lv_room (Nat.le_of_ble_eq_true rfl)) dX4_workOut_159 ⟨Nat.le_of_ble_eq_true rfl, Nat.le_of_ble_eq_true rfl⟩) hS (fun q _ h => (freeX hS) q h) (freeX hS) (fun r3199 u t H1 locs ht hvm hw hB hz1 hk1 hS => ?_)
          unfold BX at hB
          rw [ht] at hB
          obtain ⟨v3200, F3201, rc9⟩ := u
          obtain ⟨hI, hal9, hrc, hf3202, hw⟩ := hw
          dsimp only at hI hal9 hrc hB hf3202 hw
          rw [hrc] at hB
          have hal := hal9.trans hal
          have hP : va_P (dC, dI) classes (wX g c v3200 F3201 rc) H1 := hB
          generalize H1 = H at hP hS ⊢
          have rr_r3199 := i32_rng r3199
          refine lv_istore (lv' := [(6, .int r3199), (5, .int z3178), (4, .int z3171), (3, .int x3_lp3154), (0, .ref (g 6)), (1, .int p0), (2, .ref (g 73))]) hx hb dX4_workOut_162 hl (by decide) rfl (fun ls hl => ?_)
          refine lv_aload_n hx hb dX4_workOut_164 rfl (lv_at hl 4 rfl) ?_
          refine lv_iload hx hb dX4_workOut_165 (lv_at hl 2 rfl) ?_
          refine lv_aload_n hx hb dX4_workOut_167 rfl (lv_at hl 4 rfl) ?_
          refine va_calli (va_runV (As := []) (rest := [.int z3171, .ref (g 6)]) ⟨hx, hb, hml, hown, hwd⟩ (c_X4_pop l dC dI g c adK adV v3200 F3201 rc H.size  hg hI ) (cwV 0 hwd (gV wk_420 wk_417 wk_418 wk_419 wk_34) rfl rfl rfl (by decide +kernel) ⟨Nat.le_of_ble_eq_true rfl, Nat.le_of_ble_eq_true rfl⟩) ⟨PX.blind, va_recv hK hP (ci := 4) (q0 := 6) rfl rfl, fun U hU hW => ⟨rfl, PX.at hK hE hP hS hU hW⟩⟩ rfl rfl hl.1 rfl (lv_room (Nat.le_of_ble_eq_true rfl)) dX4_workOut_168 ⟨Nat.le_of_ble_eq_true rfl, Nat.le_of_ble_eq_true rfl⟩) hS (fun q _ h => (freeX hS) q h) (freeX hS) (fun r3203 u t H1 locs ht hvm hw hB hz1 hk1 hS => ?_)
          unfold BX at hB
          rw [ht] at hB
          obtain ⟨v3204, F3205, rc9⟩ := u
          obtain ⟨hI, hal9, hrc, hf3206, hw⟩ := hw
          dsimp only at hI hal9 hrc hB hf3206 hw
          rw [hrc] at hB
          have hal := hal9.trans hal
          have hP : va_P (dC, dI) classes (wX g c v3204 F3205 rc) H1 := hB
          generalize H1 = H at hP hS ⊢
          have rr_r3203 := i32_rng r3203
          refine lv_iload hx hb dX4_workOut_171 (lv_at hl 0 rfl) ?_
          refine va_calli (va_runS (As := [.int z3171, .int r3203, .int r3199]) (rest := [.ref (g 6)]) ⟨hx, hb, hml, hown, hwd⟩ (c_X4_join l dC dI g c adK adV v3204 F3205 rc H.size z3171 r3203 r3199 hg hI ) (va_cwS 3 hwd (gT wk_423 wk_421 wk_422 wk_34) rfl rfl rfl (by decide +kernel) ⟨Nat.le_of_ble_eq_true rfl, Nat.le_of_ble_eq_true rfl⟩) ⟨PX.blind, fun U hU hW => ⟨rfl, PX.at hK hE hP hS hU hW⟩⟩ rfl rfl hl.1 rfl (lv_room (Nat.le_of_ble_eq_true rfl)) dX4_workOut_173 ⟨Nat.le_of_ble_eq_true rfl, Nat.le_of_ble_eq_true rfl⟩) hS (fun q _ h => (freeX hS) q h) (freeX hS) (fun r3207 u t H1 locs ht hvm hw hB hz1 hk1 hS => ?_)
          unfold BX at hB
          rw [ht] at hB
          have hP : va_P (dC, dI) classes (wX g c v3204 F3205 rc) H1 := hB
          generalize H1 = H at hP hS ⊢
          have rr_r3207 := i32_rng r3207
          refine va_callv (va_runV (As := [.int r3207]) (rest := []) ⟨hx, hb, hml, hown, hwd⟩ (c_X4_push l dC dI g c adK adV v3204 F3205 rc H.size r3207 hg hI ) (cwV 1 hwd (gV wk_416 wk_413 wk_414 wk_415 wk_34) rfl rfl rfl (by decide +kernel) ⟨Nat.le_of_ble_eq_true rfl, Nat.le_of_ble_eq_true rfl⟩) ⟨PX.blind, va_recv hK hP (ci := 4) (q0 := 6) rfl rfl, fun U hU hW => ⟨rfl, PX.at hK hE hP hS hU hW⟩⟩ rfl rfl hl.1 rfl (lv_room (Nat.le_of_ble_eq_true rfl)) dX4_workOut_176 ⟨Nat.le_of_ble_eq_true rfl, Nat.le_of_ble_eq_true rfl⟩) hS (fun q _ h => (freeX hS) q h) (freeX hS) (fun u t H1 locs ht hvm hw hB hz1 hk1 hS => ?_)
          unfold BX at hB
          rw [ht] at hB
          obtain ⟨v3209, F3210, rc9⟩ := u
          obtain ⟨hI, hal9, hrc, hf3211, hw⟩ := hw
          dsimp only at hI hal9 hrc hB hf3211 hw
          rw [hrc] at hB
          have hal := hal9.trans hal
          have hP : va_P (dC, dI) classes (wX g c v3209 F3210 rc) H1 := hB
          generalize H1 = H at hP hS ⊢
          obtain ⟨z3212, e3213⟩ : ∃ y : Int32, y = x3_lp3154 + 1 := ⟨_, rfl⟩
          try (have t3214 := tadd e3213 rfl (b := 1) (by decide) (by omega))
          refine lv_iinc (v := z3212) (lv' := [(3, .int z3212), (6, .int r3199), (5, .int z3178), (4, .int z3171), (0, .ref (g 6)), (1, .int p0), (2, .ref (g 73))]) hx hb dX4_workOut_179 hl (k := 3) rfl (by rw [e3213]; rfl) (by decide) rfl (fun ls hl => ?_)
          refine lv_goto (tgt := 7) hx hb dX4_workOut_182 (by decide) ?_
          exact ih_lp3154 z3212 v3209 F3210 _ _ _ (by omega) (by omega) (by omega) (frC (by decide) hf3211 (frC (by decide) hf3206 (frC (by decide) hf3202 hf_lp3154))) hI hal hP hS (lv_sub hl [0, 4, 5, 6] rfl)
        rcases (show z3171.toInt = 0 ∨ z3171.toInt = 1 ∨ z3171.toInt = 2 ∨ z3171.toInt = 3 ∨ z3171.toInt = 4 by omega) with hk | hk | hk | hk | hk
        · refine lv_tableIn (off := 36) (tgt := 80) hx hb dX4_workOut_44 hlo3181 hhi3182 (by rw [hk]; decide) (by decide) ?_
          refine lv_aload_n hx hb dX4_workOut_80 rfl (lv_at hl 3 rfl) ?_
          refine lv_iload hx hb dX4_workOut_81 (lv_at hl 0 rfl) ?_
          refine va_callv (va_runV (As := [.int z3178]) (rest := []) ⟨hx, hb, hml, hown, hwd⟩ (c_X4_push l dC dI g c adK adV v_lp3154 F_lp3154 rc H.size z3178 hg hI ) (cwV 1 hwd (gV wk_416 wk_413 wk_414 wk_415 wk_34) rfl rfl rfl (by decide +kernel) ⟨Nat.le_of_ble_eq_true rfl, Nat.le_of_ble_eq_true rfl⟩) ⟨PX.blind, va_recv hK hP (ci := 4) (q0 := 6) rfl rfl, fun U hU hW => ⟨rfl, PX.at hK hE hP hS hU hW⟩⟩ rfl rfl hl.1 rfl (lv_room (Nat.le_of_ble_eq_true rfl)) dX4_workOut_83 ⟨Nat.le_of_ble_eq_true rfl, Nat.le_of_ble_eq_true rfl⟩) hS (fun q _ h => (freeX hS) q h) (freeX hS) (fun u t H1 locs ht hvm hw hB hz1 hk1 hS => ?_)
          unfold BX at hB
          rw [ht] at hB
          obtain ⟨v3216, F3217, rc9⟩ := u
          obtain ⟨hI, hal9, hrc, hf3218, hw⟩ := hw
          dsimp only at hI hal9 hrc hB hf3218 hw
          rw [hrc] at hB
          have hal := hal9.trans hal
          have hP : va_P (dC, dI) classes (wX g c v3216 F3217 rc) H1 := hB
          generalize H1 = H at hP hS ⊢
          refine lv_goto (tgt := 179) hx hb dX4_workOut_86 (by decide) ?_
          obtain ⟨z3219, e3220⟩ : ∃ y : Int32, y = x3_lp3154 + 1 := ⟨_, rfl⟩
          try (have t3221 := tadd e3220 rfl (b := 1) (by decide) (by omega))
          refine lv_iinc (v := z3219) (lv' := [(3, .int z3219), (5, .int z3178), (4, .int z3171), (0, .ref (g 6)), (1, .int p0), (2, .ref (g 73))]) hx hb dX4_workOut_179 hl (k := 2) rfl (by rw [e3220]; rfl) (by decide) rfl (fun ls hl => ?_)
          refine lv_goto (tgt := 7) hx hb dX4_workOut_182 (by decide) ?_
          exact ih_lp3154 z3219 v3216 F3217 _ _ _ (by omega) (by omega) (by omega) (frC (by decide) hf3218 hf_lp3154) hI hal hP hS (lv_sub hl [0, 3, 4, 5] rfl)
        · refine lv_tableIn (off := 45) (tgt := 89) hx hb dX4_workOut_44 hlo3181 hhi3182 (by rw [hk]; decide) (by decide) ?_
          refine lv_aload_n hx hb dX4_workOut_89 rfl (lv_at hl 3 rfl) ?_
          refine lv_iload hx hb dX4_workOut_90 (lv_at hl 0 rfl) ?_
          refine lv_aload_n hx hb dX4_workOut_92 rfl (lv_at hl 5 rfl) ?_
          refine va_alen (v := 6) hx hb hK hP 73 61 rfl rfl rfl dX4_workOut_93 ?_
          refine lv_icmp_ge (tgt := 104) hx hb dX4_workOut_94 (by decide) (fun c3222 => ?_) (fun c3222 => ?_)
          · skip
            have t3223 := cv_le (a := 6) (by decide) (b := z3178.toInt) rfl c3222
            refine lv_iconst (v := 0) hx hb dX4_workOut_104 (by decide) ?_
            refine va_callv (va_runV (As := [.int 0]) (rest := []) ⟨hx, hb, hml, hown, hwd⟩ (c_X4_push l dC dI g c adK adV v_lp3154 F_lp3154 rc H.size 0 hg hI ) (cwV 1 hwd (gV wk_416 wk_413 wk_414 wk_415 wk_34) rfl rfl rfl (by decide +kernel) ⟨Nat.le_of_ble_eq_true rfl, Nat.le_of_ble_eq_true rfl⟩) ⟨PX.blind, va_recv hK hP (ci := 4) (q0 := 6) rfl rfl, fun U hU hW => ⟨rfl, PX.at hK hE hP hS hU hW⟩⟩ rfl rfl hl.1 rfl (lv_room (Nat.le_of_ble_eq_true rfl)) dX4_workOut_105 ⟨Nat.le_of_ble_eq_true rfl, Nat.le_of_ble_eq_true rfl⟩) hS (fun q _ h => (freeX hS) q h) (freeX hS) (fun u t H1 locs ht hvm hw hB hz1 hk1 hS => ?_)
            unfold BX at hB
            rw [ht] at hB
            obtain ⟨v3225, F3226, rc9⟩ := u
            obtain ⟨hI, hal9, hrc, hf3227, hw⟩ := hw
            dsimp only at hI hal9 hrc hB hf3227 hw
            rw [hrc] at hB
            have hal := hal9.trans hal
            have hP : va_P (dC, dI) classes (wX g c v3225 F3226 rc) H1 := hB
            generalize H1 = H at hP hS ⊢
            refine lv_goto (tgt := 179) hx hb dX4_workOut_108 (by decide) ?_
            obtain ⟨z3228, e3229⟩ : ∃ y : Int32, y = x3_lp3154 + 1 := ⟨_, rfl⟩
            try (have t3230 := tadd e3229 rfl (b := 1) (by decide) (by omega))
            refine lv_iinc (v := z3228) (lv' := [(3, .int z3228), (5, .int z3178), (4, .int z3171), (0, .ref (g 6)), (1, .int p0), (2, .ref (g 73))]) hx hb dX4_workOut_179 hl (k := 2) rfl (by rw [e3229]; rfl) (by decide) rfl (fun ls hl => ?_)
            refine lv_goto (tgt := 7) hx hb dX4_workOut_182 (by decide) ?_
            exact ih_lp3154 z3228 v3225 F3226 _ _ _ (by omega) (by omega) (by omega) (frC (by decide) hf3227 hf_lp3154) hI hal hP hS (lv_sub hl [0, 3, 4, 5] rfl)
          · skip
            have t3231 := cv_nle (a := 6) (by decide) (b := z3178.toInt) rfl c3222
            refine lv_aload_n hx hb dX4_workOut_97 rfl (lv_at hl 5 rfl) ?_
            refine lv_iload hx hb dX4_workOut_98 (lv_at hl 0 rfl) ?_
            refine va_iald hx hb hK hP 73 61 rfl rfl (i := z3178) (vin (a := z3178.toInt) rfl (by omega)) dX4_workOut_100 ?_
            refine lv_topi (fun z3232 e3233 => ?_)
            refine lv_goto (tgt := 105) hx hb dX4_workOut_101 (by decide) ?_
            refine va_callv (va_runV (As := [.int z3232]) (rest := []) ⟨hx, hb, hml, hown, hwd⟩ (c_X4_push l dC dI g c adK adV v_lp3154 F_lp3154 rc H.size z3232 hg hI ) (cwV 1 hwd (gV wk_416 wk_413 wk_414 wk_415 wk_34) rfl rfl rfl (by decide +kernel) ⟨Nat.le_of_ble_eq_true rfl, Nat.le_of_ble_eq_true rfl⟩) ⟨PX.blind, va_recv hK hP (ci := 4) (q0 := 6) rfl rfl, fun U hU hW => ⟨rfl, PX.at hK hE hP hS hU hW⟩⟩ rfl rfl hl.1 rfl (lv_room (Nat.le_of_ble_eq_true rfl)) dX4_workOut_105 ⟨Nat.le_of_ble_eq_true rfl, Nat.le_of_ble_eq_true rfl⟩) hS (fun q _ h => (freeX hS) q h) (freeX hS) (fun u t H1 locs ht hvm hw hB hz1 hk1 hS => ?_)
            unfold BX at hB
            rw [ht] at hB
            obtain ⟨v3235, F3236, rc9⟩ := u
            obtain ⟨hI, hal9, hrc, hf3237, hw⟩ := hw
            dsimp only at hI hal9 hrc hB hf3237 hw
            rw [hrc] at hB
            have hal := hal9.trans hal
            have hP : va_P (dC, dI) classes (wX g c v3235 F3236 rc) H1 := hB
            generalize H1 = H at hP hS ⊢
            refine lv_goto (tgt := 179) hx hb dX4_workOut_108 (by decide) ?_
            obtain ⟨z3238, e3239⟩ : ∃ y : Int32, y = x3_lp3154 + 1 := ⟨_, rfl⟩
            try (have t3240 := tadd e3239 rfl (b := 1) (by decide) (by omega))
            refine lv_iinc (v := z3238) (lv' := [(3, .int z3238), (5, .int z3178), (4, .int z3171), (0, .ref (g 6)), (1, .int p0), (2, .ref (g 73))]) hx hb dX4_workOut_179 hl (k := 2) rfl (by rw [e3239]; rfl) (by decide) rfl (fun ls hl => ?_)
            refine lv_goto (tgt := 7) hx hb dX4_workOut_182 (by decide) ?_
            exact ih_lp3154 z3238 v3235 F3236 _ _ _ (by omega) (by omega) (by omega) (frC (by decide) hf3237 hf_lp3154) hI hal hP hS (lv_sub hl [0, 3, 4, 5] rfl)
        · refine lv_tableIn (off := 67) (tgt := 111) hx hb dX4_workOut_44 hlo3181 hhi3182 (by rw [hk]; decide) (by decide) ?_
          refine lv_aload_n hx hb dX4_workOut_111 rfl (lv_at hl 3 rfl) ?_
          refine lv_aload_n hx hb dX4_workOut_112 rfl (lv_at hl 3 rfl) ?_
          refine va_calli (va_runV (As := []) (rest := [.ref (g 6)]) ⟨hx, hb, hml, hown, hwd⟩ (c_X4_pop l dC dI g c adK adV v_lp3154 F_lp3154 rc H.size  hg hI ) (cwV 0 hwd (gV wk_420 wk_417 wk_418 wk_419 wk_34) rfl rfl rfl (by decide +kernel) ⟨Nat.le_of_ble_eq_true rfl, Nat.le_of_ble_eq_true rfl⟩) ⟨PX.blind, va_recv hK hP (ci := 4) (q0 := 6) rfl rfl, fun U hU hW => ⟨rfl, PX.at hK hE hP hS hU hW⟩⟩ rfl rfl hl.1 rfl (lv_room (Nat.le_of_ble_eq_true rfl)) dX4_workOut_113 ⟨Nat.le_of_ble_eq_true rfl, Nat.le_of_ble_eq_true rfl⟩) hS (fun q _ h => (freeX hS) q h) (freeX hS) (fun r3241 u t H1 locs ht hvm hw hB hz1 hk1 hS => ?_)
          unfold BX at hB
          rw [ht] at hB
          obtain ⟨v3242, F3243, rc9⟩ := u
          obtain ⟨hI, hal9, hrc, hf3244, hw⟩ := hw
          dsimp only at hI hal9 hrc hB hf3244 hw
          rw [hrc] at hB
          have hal := hal9.trans hal
          have hP : va_P (dC, dI) classes (wX g c v3242 F3243 rc) H1 := hB
          generalize H1 = H at hP hS ⊢
          have rr_r3241 := i32_rng r3241
          refine lv_ineg hx hb dX4_workOut_116 ?_
          refine lv_topi (fun z3245 e3246 => ?_)
          refine va_callv (va_runV (As := [.int z3245]) (rest := []) ⟨hx, hb, hml, hown, hwd⟩ (c_X4_push l dC dI g c adK adV v3242 F3243 rc H.size z3245 hg hI ) (cwV 1 hwd (gV wk_416 wk_413 wk_414 wk_415 wk_34) rfl rfl rfl (by decide +kernel) ⟨Nat.le_of_ble_eq_true rfl, Nat.le_of_ble_eq_true rfl⟩) ⟨PX.blind, va_recv hK hP (ci := 4) (q0 := 6) rfl rfl, fun U hU hW => ⟨rfl, PX.at hK hE hP hS hU hW⟩⟩ rfl rfl hl.1 rfl (lv_room (Nat.le_of_ble_eq_true rfl)) dX4_workOut_117 ⟨Nat.le_of_ble_eq_true rfl, Nat.le_of_ble_eq_true rfl⟩) hS (fun q _ h => (freeX hS) q h) (freeX hS) (fun u t H1 locs ht hvm hw hB hz1 hk1 hS => ?_)
          unfold BX at hB
          rw [ht] at hB
          obtain ⟨v3248, F3249, rc9⟩ := u
          obtain ⟨hI, hal9, hrc, hf3250, hw⟩ := hw
          dsimp only at hI hal9 hrc hB hf3250 hw
          rw [hrc] at hB
          have hal := hal9.trans hal
          have hP : va_P (dC, dI) classes (wX g c v3248 F3249 rc) H1 := hB
          generalize H1 = H at hP hS ⊢
          refine lv_goto (tgt := 179) hx hb dX4_workOut_120 (by decide) ?_
          obtain ⟨z3251, e3252⟩ : ∃ y : Int32, y = x3_lp3154 + 1 := ⟨_, rfl⟩
          try (have t3253 := tadd e3252 rfl (b := 1) (by decide) (by omega))
          refine lv_iinc (v := z3251) (lv' := [(3, .int z3251), (5, .int z3178), (4, .int z3171), (0, .ref (g 6)), (1, .int p0), (2, .ref (g 73))]) hx hb dX4_workOut_179 hl (k := 2) rfl (by rw [e3252]; rfl) (by decide) rfl (fun ls hl => ?_)
          refine lv_goto (tgt := 7) hx hb dX4_workOut_182 (by decide) ?_
          exact ih_lp3154 z3251 v3248 F3249 _ _ _ (by omega) (by omega) (by omega) (frC (by decide) hf3250 (frC (by decide) hf3244 hf_lp3154)) hI hal hP hS (lv_sub hl [0, 3, 4, 5] rfl)
        · refine lv_tableIn (off := 79) (tgt := 123) hx hb dX4_workOut_44 hlo3181 hhi3182 (by rw [hk]; decide) (by decide) ?_
          refine lv_iload_n hx hb dX4_workOut_123 rfl (lv_at hl 2 rfl) ?_
          refine lv_iload hx hb dX4_workOut_124 (lv_at hl 0 rfl) ?_
          refine lv_iconst (v := 1) hx hb dX4_workOut_126 (by decide) ?_
          refine lv_isub hx hb dX4_workOut_127 ?_
          refine lv_topi (fun z3254 e3255 => ?_)
          try (have t3256 := tsub e3255 (a := z3178.toInt) rfl (b := 1) (by decide) (by omega))
          refine va_mmax hx hb (by rw [hml]; exact hl.1.symm) hown (hwd _ wk_412) (hwd _ wk_395) (hwd _ wk_392) (hwd _ wk_396) (Nat.le_of_ble_eq_true rfl) (Nat.le_of_ble_eq_true rfl) (Nat.le_of_ble_eq_true rfl) (Nat.le_of_ble_eq_true rfl) dX4_workOut_128 ?_
          refine lv_topi (fun z3257 e3258 => ?_)
          have t3259 := tmax e3258 (a := x3_lp3154.toInt) rfl (b := z3254.toInt) rfl
          refine lv_istore_n (lv' := [(3, .int z3257), (5, .int z3178), (4, .int z3171), (0, .ref (g 6)), (1, .int p0), (2, .ref (g 73))]) hx hb dX4_workOut_131 rfl hl (by decide) rfl (fun ls hl => ?_)
          refine lv_goto (tgt := 179) hx hb dX4_workOut_132 (by decide) ?_
          obtain ⟨z3260, e3261⟩ : ∃ y : Int32, y = z3257 + 1 := ⟨_, rfl⟩
          try (have t3262 := tadd e3261 rfl (b := 1) (by decide) (by omega))
          refine lv_iinc (v := z3260) (lv' := [(3, .int z3260), (5, .int z3178), (4, .int z3171), (0, .ref (g 6)), (1, .int p0), (2, .ref (g 73))]) hx hb dX4_workOut_179 hl (k := 0) rfl (by rw [e3261]; rfl) (by decide) rfl (fun ls hl => ?_)
          refine lv_goto (tgt := 7) hx hb dX4_workOut_182 (by decide) ?_
          exact ih_lp3154 z3260 v_lp3154 F_lp3154 _ _ _ (by omega) (by omega) (by omega) hf_lp3154 hI hal hP hS (lv_sub hl [0, 3, 4, 5] rfl)
        · refine lv_tableIn (off := 91) (tgt := 135) hx hb dX4_workOut_44 hlo3181 hhi3182 (by rw [hk]; decide) (by decide) ?_
          refine lv_aload_n hx hb dX4_workOut_135 rfl (lv_at hl 3 rfl) ?_
          refine va_calli (va_runV (As := []) (rest := []) ⟨hx, hb, hml, hown, hwd⟩ (c_X4_pop l dC dI g c adK adV v_lp3154 F_lp3154 rc H.size  hg hI ) (cwV 0 hwd (gV wk_420 wk_417 wk_418 wk_419 wk_34) rfl rfl rfl (by decide +kernel) ⟨Nat.le_of_ble_eq_true rfl, Nat.le_of_ble_eq_true rfl⟩) ⟨PX.blind, va_recv hK hP (ci := 4) (q0 := 6) rfl rfl, fun U hU hW => ⟨rfl, PX.at hK hE hP hS hU hW⟩⟩ rfl rfl hl.1 rfl (lv_room (Nat.le_of_ble_eq_true rfl)) dX4_workOut_136 ⟨Nat.le_of_ble_eq_true rfl, Nat.le_of_ble_eq_true rfl⟩) hS (fun q _ h => (freeX hS) q h) (freeX hS) (fun r3263 u t H1 locs ht hvm hw hB hz1 hk1 hS => ?_)
          unfold BX at hB
          rw [ht] at hB
          obtain ⟨v3264, F3265, rc9⟩ := u
          obtain ⟨hI, hal9, hrc, hf3266, hw⟩ := hw
          dsimp only at hI hal9 hrc hB hf3266 hw
          rw [hrc] at hB
          have hal := hal9.trans hal
          have hP : va_P (dC, dI) classes (wX g c v3264 F3265 rc) H1 := hB
          generalize H1 = H at hP hS ⊢
          have rr_r3263 := i32_rng r3263
          refine lv_if_ne (tgt := 153) hx hb dX4_workOut_139 (by decide) (fun c3267 => ?_) (fun c3267 => ?_)
          · skip
            have t3268 := cv_ne (a := r3263.toInt) rfl (b := 0) (by decide) c3267
            refine lv_iload_n hx hb dX4_workOut_153 rfl (lv_at hl 2 rfl) ?_
            refine lv_istore_n (lv' := [(3, .int x3_lp3154), (5, .int z3178), (4, .int z3171), (0, .ref (g 6)), (1, .int p0), (2, .ref (g 73))]) hx hb dX4_workOut_154 rfl hl (by decide) rfl (fun ls hl => ?_)
            refine lv_goto (tgt := 179) hx hb dX4_workOut_155 (by decide) ?_
            obtain ⟨z3269, e3270⟩ : ∃ y : Int32, y = x3_lp3154 + 1 := ⟨_, rfl⟩
            try (have t3271 := tadd e3270 rfl (b := 1) (by decide) (by omega))
            refine lv_iinc (v := z3269) (lv' := [(3, .int z3269), (5, .int z3178), (4, .int z3171), (0, .ref (g 6)), (1, .int p0), (2, .ref (g 73))]) hx hb dX4_workOut_179 hl (k := 0) rfl (by rw [e3270]; rfl) (by decide) rfl (fun ls hl => ?_)
            refine lv_goto (tgt := 7) hx hb dX4_workOut_182 (by decide) ?_
            exact ih_lp3154 z3269 v3264 F3265 _ _ _ (by omega) (by omega) (by omega) (frC (by decide) hf3266 hf_lp3154) hI hal hP hS (lv_sub hl [0, 3, 4, 5] rfl)
          · skip
            have t3272 := cv_eq (a := r3263.toInt) rfl (b := 0) (by decide) c3267
            refine lv_iload_n hx hb dX4_workOut_142 rfl (lv_at hl 2 rfl) ?_
            refine lv_iload hx hb dX4_workOut_143 (lv_at hl 0 rfl) ?_
            refine lv_iconst (v := 1) hx hb dX4_workOut_145 (by decide) ?_
            refine lv_isub hx hb dX4_workOut_146 ?_
            refine lv_topi (fun z3273 e3274 => ?_)
            try (have t3275 := tsub e3274 (a := z3178.toInt) rfl (b := 1) (by decide) (by omega))
            refine va_mmax hx hb (by rw [hml]; exact hl.1.symm) hown (hwd _ wk_412) (hwd _ wk_395) (hwd _ wk_392) (hwd _ wk_396) (Nat.le_of_ble_eq_true rfl) (Nat.le_of_ble_eq_true rfl) (Nat.le_of_ble_eq_true rfl) (Nat.le_of_ble_eq_true rfl) dX4_workOut_147 ?_
            refine lv_topi (fun z3276 e3277 => ?_)
            have t3278 := tmax e3277 (a := x3_lp3154.toInt) rfl (b := z3273.toInt) rfl
            refine lv_goto (tgt := 154) hx hb dX4_workOut_150 (by decide) ?_
            refine lv_istore_n (lv' := [(3, .int z3276), (5, .int z3178), (4, .int z3171), (0, .ref (g 6)), (1, .int p0), (2, .ref (g 73))]) hx hb dX4_workOut_154 rfl hl (by decide) rfl (fun ls hl => ?_)
            refine lv_goto (tgt := 179) hx hb dX4_workOut_155 (by decide) ?_
            obtain ⟨z3279, e3280⟩ : ∃ y : Int32, y = z3276 + 1 := ⟨_, rfl⟩
            try (have t3281 := tadd e3280 rfl (b := 1) (by decide) (by omega))
            refine lv_iinc (v := z3279) (lv' := [(3, .int z3279), (5, .int z3178), (4, .int z3171), (0, .ref (g 6)), (1, .int p0), (2, .ref (g 73))]) hx hb dX4_workOut_179 hl (k := 0) rfl (by rw [e3280]; rfl) (by decide) rfl (fun ls hl => ?_)
            refine lv_goto (tgt := 7) hx hb dX4_workOut_182 (by decide) ?_
            exact ih_lp3154 z3279 v3264 F3265 _ _ _ (by omega) (by omega) (by omega) (frC (by decide) hf3266 hf_lp3154) hI hal hP hS (lv_sub hl [0, 3, 4, 5] rfl)
  obtain ⟨n9, hn9⟩ : ∃ n : Nat, 2147483648 - 0 ≤ (n : Int) := ⟨((2147483648 - 0 : Int)).toNat, by omega⟩
  exact lp3154 n9 0 (va_up v 126 0) F H _ ls (by have : (0 : Int32).toInt = 0 := (by decide); omega) (by have : (0 : Int32).toInt = 0 := (by decide); omega) (by have : (0 : Int32).toInt = 0 := (by decide); omega) (fun _ _ => rfl) hI hal hP hS hl
