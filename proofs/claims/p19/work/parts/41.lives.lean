set_option maxHeartbeats 8000000 in
set_option maxRecDepth 100000 in
theorem c_X4_workOut (l : Launch) (dC : Nat → ClassId) (dI : Nat → Nat → Nat) (g : Nat → Nat) (c : Nat → ClassId) (adK adV : Nat → Nat) (v : Nat → Int32) (F : Nat → Nat → Int32) (rc sz : Nat) (p0 : Int32) (hg : injX g) (hI : IX v F) (h0 : 0 ≤ p0.toInt ∧ p0.toInt ≤ 9) : Met l yX4_workOut (Cond.code yX4_workOut cX4_workOut 7 (some .int) :: wA) ({ frames := 2, cells := 0, slots := 0, locals := 80 }) (va_Pc [.ref (g 6), .int p0, .ref (g 73)] (PX dC dI g c adK adV v F rc sz)) (va_Qi (fun (r : Int32) (u : StX) => IX u.1 u.2.1 ∧ alX u.1 u.2.1 = alX v F ∧ u.2.2 = rc ∧ (∀ k, k ∉ ([126] : List Nat) → u.1 k = v k) ∧ True) (BX dC dI g c) (AX g sz)) 0 0 (AX g sz) := by
  refine Met.ofW (cc := cX4_workOut) (maxL := 7) (ret := (some .int)) (by decide) rfl ?_
  intro p e s m args below meth c0 s₁ B hml hv
  obtain ⟨rfl, hsz, hP, hK, hE⟩ := hv
  have hx := B.exec
  have hb := B.bytes
  have hr := B.returns
  have hts := atoms_spec (ws := Cond.code yX4_workOut cX4_workOut 7 (some .int) :: wA) B.pre
  have hwd : ∀ w ∈ wA, w.before _ s = true := fun w h => hts w (List.mem_cons_of_mem _ h)
  have hown : s.vm.findClass RX4 = some m.cls := findClass_of_methodNamed B.named
  have hlocks := B.notSynchronized
  subst hsz
  have hl := lv_entry ([.ref (g 6), .int p0, .ref (g 73)]) (n := 7) (Nat.le_of_ble_eq_true rfl)
  rw [lg_entry_eq]
  generalize (lg_sl ([.ref (g 6), .int p0, .ref (g 73)]) ++ List.replicate (7 - (lg_sl ([.ref (g 6), .int p0, .ref (g 73)])).length) Slot.unset).toArray = ls at hl ⊢
  have hl : lv_has ls 7 [(0, .ref (g 6)), (1, .int p0), (2, .ref (g 73))] := hl
  obtain ⟨H, eH⟩ : ∃ z, z = s.heap := ⟨_, rfl⟩
  have hP : va_P (dC, dI) classes (wX g c v F rc) H := by rw [eH]; exact hP
  have hS : va_S (AX g s.heap.size) s.heap H [] := by rw [eH]; exact va_S.rf
  refine my_heap eH ?_
  have hal : alX v F = alX v F := rfl
  have rp0 := i32_rng p0
  refine lv_aload_n hx hb dX4_workOut_0 rfl (lv_at hl 0 rfl) ?_
  refine lv_iconst (v := 0) hx hb dX4_workOut_1 (by decide) ?_
  refine va_put (D := (dC, dI)) (ci := 4) (v := .int 0) (ty := .int) (C := RX4) (T := TX4) (N := 7) (fs := fsX_6 g v rc) hx hb hwd inA_X4 tyX4 tyX4_ok nmX4 hown hK hP (DX hg) hS 6 rfl rfl 6 (by decide) (hwd _ wk_411) (fun _ h9 => h9) rfl (by decide +kernel) rfl rfl (Nat.le_of_ble_eq_true rfl) dX4_workOut_2 (fun H locs hP _ hS => ?_)
  have hP := va_P_eq (pX_126 g c _ _ _ _) hP
  have hI := IX.put hI 126 0 rfl (by have : (0 : Int32).toInt = 0 := (by decide); omega)
  have hal := (alX_v _ _ 126 0 (by decide) (by decide) (by decide) (by decide)).trans hal
  refine lv_iconst (v := 0) hx hb dX4_workOut_5 (by decide) ?_
  refine lv_istore_n (lv' := [(3, .int 0), (0, .ref (g 6)), (1, .int p0), (2, .ref (g 73))]) hx hb dX4_workOut_6 rfl hl (by decide) rfl (fun ls hl => ?_)
  have lp1153 : ∀ (n : Nat) (x3_lp1153 : Int32) (v_lp1153 : Nat → Int32) (F_lp1153 : Nat → Nat → Int32) (H : Heap) (locs : List Loc) (ls : Array Slot), (0 ≤ x3_lp1153.toInt) → (x3_lp1153.toInt ≤ 2147483646) → (2147483648 - x3_lp1153.toInt ≤ (n : Int)) → (∀ k, k ∉ ([126] : List Nat) → v_lp1153 k = (va_up v 126 0) k) → IX v_lp1153 F_lp1153 → alX v_lp1153 F_lp1153 = alX v F → va_P (dC, dI) classes (wX g c v_lp1153 F_lp1153 rc) H → va_S (AX g s.heap.size) s.heap H locs → lv_has ls 7 [(3, .int x3_lp1153), (0, .ref (g 6)), (1, .int p0), (2, .ref (g 73))] → W p l e (headSpec (Cond.code yX4_workOut cX4_workOut 7 (some .int) :: wA) ({ frames := 2, cells := 0, slots := 0, locals := 80 })).room s m ([.ref (g 6), .int p0, .ref (g 73)] : List Value).toArray below meth c0 H locs 0 0 (MQ below (va_Qi (fun (r : Int32) (u : StX) => IX u.1 u.2.1 ∧ alX u.1 u.2.1 = alX v F ∧ u.2.2 = rc ∧ (∀ k, k ∉ ([126] : List Nat) → u.1 k = v k) ∧ True) (BX dC dI g c) (AX g s.heap.size)) ([.ref (g 6), .int p0, .ref (g 73)] : List Value).toArray s 0 0 (AX g s.heap.size)) (F0 m 7 ls []) := by
    intro n
    induction n with
    | zero =>
      intro x3_lp1153 v_lp1153 F_lp1153 H locs ls t1154 t1155 hm hf_lp1153 hI hal hP hS hl
      exfalso
      have := i32_rng x3_lp1153
      have hI1 := hI.1
      omega
    | succ n ih_lp1153 =>
      intro x3_lp1153 v_lp1153 F_lp1153 H locs ls t1154 t1155 hm hf_lp1153 hI hal hP hS hl
      have rx3_lp1153 := i32_rng x3_lp1153
      refine lv_iload_n hx hb dX4_workOut_7 rfl (lv_at hl 0 rfl) ?_
      refine lv_aload_n hx hb dX4_workOut_8 rfl (lv_at hl 1 rfl) ?_
      refine va_get (D := (dC, dI)) (ci := 4) (v := .ref (g 42)) (C := RX4) (T := TX4) (N := 7) hx hb hwd inA_X4 hown hK hP 6 rfl rfl 3 (by decide) (hwd _ wk_110) (fun _ h9 => h9) rfl dX4_workOut_9 ?_
      refine lv_iload_n hx hb dX4_workOut_12 rfl (lv_at hl 2 rfl) ?_
      refine va_iald hx hb hK hP 42 30 rfl rfl (i := p0) (vin (a := p0.toInt) rfl (by omega)) dX4_workOut_13 ?_
      refine lv_topi (fun z1156 e1157 => ?_)
      have t1158 : 0 ≤ z1156.toInt ∧ z1156.toInt ≤ 120 := by rw [e1157]; exact hI.2 42 _ _ rfl _
      refine lv_icmp_ge (tgt := 185) hx hb dX4_workOut_14 (by decide) (fun c1159 => ?_) (fun c1159 => ?_)
      · skip
        have t1160 := cv_le (a := z1156.toInt) rfl (b := x3_lp1153.toInt) rfl c1159
        refine lv_aload_n hx hb dX4_workOut_185 rfl (lv_at hl 1 rfl) ?_
        refine va_calli (va_runV (As := []) (rest := []) ⟨hx, hb, hml, hown, hwd⟩ (c_X4_pop l dC dI g c adK adV v_lp1153 F_lp1153 rc H.size  hg hI ) (cwV 0 hwd (gV wk_420 wk_417 wk_418 wk_419 wk_34) rfl rfl rfl (by decide +kernel) ⟨Nat.le_of_ble_eq_true rfl, Nat.le_of_ble_eq_true rfl⟩) ⟨PX.blind, va_recv hK hP (ci := 4) (q0 := 6) rfl rfl, fun U hU hW => ⟨rfl, PX.at hK hE hP hS hU hW⟩⟩ rfl rfl hl.1 rfl (lv_room (Nat.le_of_ble_eq_true rfl)) dX4_workOut_186 ⟨Nat.le_of_ble_eq_true rfl, Nat.le_of_ble_eq_true rfl⟩) hS (fun q _ h => (freeX hS) q h) (freeX hS) (fun r1161 u t H1 locs ht hvm hw hB hz1 hk1 hS => ?_)
        unfold BX at hB
        rw [ht] at hB
        obtain ⟨v1162, F1163, rc9⟩ := u
        obtain ⟨hI, hal9, hrc, hf1164, hw⟩ := hw
        dsimp only at hI hal9 hrc hB hf1164 hw
        rw [hrc] at hB
        have hal := hal9.trans hal
        have hP : va_P (dC, dI) classes (wX g c v1162 F1163 rc) H1 := hB
        generalize H1 = H at hP hS ⊢
        have rr_r1161 := i32_rng r1161
        have hP9 : va_P (dC, dI) classes (wX g c v1162 F1163 rc) H := hP
        exact W.iret (v := r1161) hx hb hr (fun t ht hW => ⟨⟨r1161, (v1162, F1163, rc), rfl, ⟨hI, hal, rfl, (frC (by decide) hf1164 (frC (by decide) hf_lp1153 (frU (by decide) (fun _ _ => rfl)))), trivial⟩, (by show va_P _ _ _ t.heap; rw [ht]; exact hP9)⟩, hS.F ht⟩) hS.2.2 dX4_workOut_189
      · skip
        have t1165 := cv_nle (a := z1156.toInt) rfl (b := x3_lp1153.toInt) rfl c1159
        refine lv_aload_n hx hb dX4_workOut_17 rfl (lv_at hl 1 rfl) ?_
        refine va_get (D := (dC, dI)) (ci := 4) (v := .ref (g 43)) (C := RX4) (T := TX4) (N := 7) hx hb hwd inA_X4 hown hK hP 6 rfl rfl 4 (by decide) (hwd _ wk_112) (fun _ h9 => h9) rfl dX4_workOut_18 ?_
        refine lv_iload_n hx hb dX4_workOut_21 rfl (lv_at hl 2 rfl) ?_
        refine my_aald hx hb hK hP 43 31 rfl rfl (i := p0) (vin (a := p0.toInt) rfl (by omega)) dX4_workOut_22 ?_
        have t1166 : (p0).toNatClampNeg < 10 := nclt (a := p0.toInt) rfl (by omega)
        refine my_any (v := .ref (g (44 + (p0).toNatClampNeg))) (by show va_rf (if _ < 10 then _ else _) = _; rw [if_pos t1166]; rfl) ?_
        refine lv_iload_n hx hb dX4_workOut_23 rfl (lv_at hl 0 rfl) ?_
        refine va_iald hx hb hK hP (44 + (p0).toNatClampNeg) (32 + (p0).toNatClampNeg) (rowW44 t1166) (rowT44 t1166) (i := x3_lp1153) (vin (a := x3_lp1153.toInt) rfl (by omega)) dX4_workOut_24 ?_
        refine lv_topi (fun z1167 e1168 => ?_)
        have t1169 : 0 ≤ z1167.toInt ∧ z1167.toInt ≤ 2147483647 := by rw [e1168]; exact hI.2 _ _ _ (rowA44 t1166) _
        refine lv_bipush (v := 15) hx hb dX4_workOut_25 (by decide) ?_
        refine lv_iand hx hb dX4_workOut_27 ?_
        refine lv_topi (fun z1170 e1171 => ?_)
        have taz1170 := i32_rng z1170
        refine lv_istore (lv' := [(4, .int z1170), (3, .int x3_lp1153), (0, .ref (g 6)), (1, .int p0), (2, .ref (g 73))]) hx hb dX4_workOut_28 hl (by decide) rfl (fun ls hl => ?_)
        refine lv_aload_n hx hb dX4_workOut_30 rfl (lv_at hl 2 rfl) ?_
        refine va_get (D := (dC, dI)) (ci := 4) (v := .ref (g 43)) (C := RX4) (T := TX4) (N := 7) hx hb hwd inA_X4 hown hK hP 6 rfl rfl 4 (by decide) (hwd _ wk_112) (fun _ h9 => h9) rfl dX4_workOut_31 ?_
        refine lv_iload_n hx hb dX4_workOut_34 rfl (lv_at hl 3 rfl) ?_
        refine my_aald hx hb hK hP 43 31 rfl rfl (i := p0) (vin (a := p0.toInt) rfl (by omega)) dX4_workOut_35 ?_
        have t1173 : (p0).toNatClampNeg < 10 := nclt (a := p0.toInt) rfl (by omega)
        refine my_any (v := .ref (g (44 + (p0).toNatClampNeg))) (by show va_rf (if _ < 10 then _ else _) = _; rw [if_pos t1173]; rfl) ?_
        refine lv_iload_n hx hb dX4_workOut_36 rfl (lv_at hl 1 rfl) ?_
        refine va_iald hx hb hK hP (44 + (p0).toNatClampNeg) (32 + (p0).toNatClampNeg) (rowW44 t1173) (rowT44 t1173) (i := x3_lp1153) (vin (a := x3_lp1153.toInt) rfl (by omega)) dX4_workOut_37 ?_
        refine lv_topi (fun z1174 e1175 => ?_)
        have t1176 : 0 ≤ z1174.toInt ∧ z1174.toInt ≤ 2147483647 := by rw [e1175]; exact hI.2 _ _ _ (rowA44 t1173) _
        refine lv_iconst (v := 4) hx hb dX4_workOut_38 (by decide) ?_
        refine lv_ishr hx hb dX4_workOut_39 ?_
        refine lv_topi (fun z1177 e1178 => ?_)
        have tvz1177 := tshr4 e1178 (by omega)
        refine lv_istore (lv' := [(5, .int z1177), (4, .int z1170), (3, .int x3_lp1153), (0, .ref (g 6)), (1, .int p0), (2, .ref (g 73))]) hx hb dX4_workOut_40 hl (by decide) rfl (fun ls hl => ?_)
        refine lv_iload hx hb dX4_workOut_42 (lv_at hl 1 rfl) ?_
        by_cases hlo1180 : z1170.toInt < 0
        · refine lv_tableOut (tgt := 158) hx hb dX4_workOut_44 (Or.inl hlo1180) (by decide) ?_
          refine lv_aload_n hx hb dX4_workOut_158 rfl (lv_at hl 3 rfl) ?_
          refine va_calli (va_runV (As := []) (rest := []) ⟨hx, hb, hml, hown, hwd⟩ (c_X4_pop l dC dI g c adK adV v_lp1153 F_lp1153 rc H.size  hg hI ) (cwV 0 hwd (gV wk_420 wk_417 wk_418 wk_419 wk_34) rfl rfl rfl (by decide +kernel) ⟨Nat.le_of_ble_eq_true rfl, Nat.le_of_ble_eq_true rfl⟩) ⟨PX.blind, va_recv hK hP (ci := 4) (q0 := 6) rfl rfl, fun U hU hW => ⟨rfl, PX.at hK hE hP hS hU hW⟩⟩ rfl rfl hl.1 rfl (lv_room (Nat.le_of_ble_eq_true rfl)) dX4_workOut_159 ⟨Nat.le_of_ble_eq_true rfl, Nat.le_of_ble_eq_true rfl⟩) hS (fun q _ h => (freeX hS) q h) (freeX hS) (fun r1182 u t H1 locs ht hvm hw hB hz1 hk1 hS => ?_)
          unfold BX at hB
          rw [ht] at hB
          obtain ⟨v1183, F1184, rc9⟩ := u
          obtain ⟨hI, hal9, hrc, hf1185, hw⟩ := hw
          dsimp only at hI hal9 hrc hB hf1185 hw
          rw [hrc] at hB
          have hal := hal9.trans hal
          have hP : va_P (dC, dI) classes (wX g c v1183 F1184 rc) H1 := hB
          generalize H1 = H at hP hS ⊢
          have rr_r1182 := i32_rng r1182
          refine lv_istore (lv' := [(6, .int r1182), (5, .int z1177), (4, .int z1170), (3, .int x3_lp1153), (0, .ref (g 6)), (1, .int p0), (2, .ref (g 73))]) hx hb dX4_workOut_162 hl (by decide) rfl (fun ls hl => ?_)
          refine lv_aload_n hx hb dX4_workOut_164 rfl (lv_at hl 4 rfl) ?_
          refine lv_iload hx hb dX4_workOut_165 (lv_at hl 2 rfl) ?_
          refine lv_aload_n hx hb dX4_workOut_167 rfl (lv_at hl 4 rfl) ?_
          refine va_calli (va_runV (As := []) (rest := [.int z1170, .ref (g 6)]) ⟨hx, hb, hml, hown, hwd⟩ (c_X4_pop l dC dI g c adK adV v1183 F1184 rc H.size  hg hI ) (cwV 0 hwd (gV wk_420 wk_417 wk_418 wk_419 wk_34) rfl rfl rfl (by decide +kernel) ⟨Nat.le_of_ble_eq_true rfl, Nat.le_of_ble_eq_true rfl⟩) ⟨PX.blind, va_recv hK hP (ci := 4) (q0 := 6) rfl rfl, fun U hU hW => ⟨rfl, PX.at hK hE hP hS hU hW⟩⟩ rfl rfl hl.1 rfl (lv_room (Nat.le_of_ble_eq_true rfl)) dX4_workOut_168 ⟨Nat.le_of_ble_eq_true rfl, Nat.le_of_ble_eq_true rfl⟩) hS (fun q _ h => (freeX hS) q h) (freeX hS) (fun r1186 u t H1 locs ht hvm hw hB hz1 hk1 hS => ?_)
          unfold BX at hB
          rw [ht] at hB
          obtain ⟨v1187, F1188, rc9⟩ := u
          obtain ⟨hI, hal9, hrc, hf1189, hw⟩ := hw
          dsimp only at hI hal9 hrc hB hf1189 hw
          rw [hrc] at hB
          have hal := hal9.trans hal
          have hP : va_P (dC, dI) classes (wX g c v1187 F1188 rc) H1 := hB
          generalize H1 = H at hP hS ⊢
          have rr_r1186 := i32_rng r1186
          refine lv_iload hx hb dX4_workOut_171 (lv_at hl 0 rfl) ?_
          refine va_calli (va_runS (As := [.int z1170, .int r1186, .int r1182]) (rest := [.ref (g 6)]) ⟨hx, hb, hml, hown, hwd⟩ (c_X4_join l dC dI g c adK adV v1187 F1188 rc H.size z1170 r1186 r1182 hg hI ) (va_cwS 3 hwd (gT wk_423 wk_421 wk_422 wk_34) rfl rfl rfl (by decide +kernel) ⟨Nat.le_of_ble_eq_true rfl, Nat.le_of_ble_eq_true rfl⟩) ⟨PX.blind, fun U hU hW => ⟨rfl, PX.at hK hE hP hS hU hW⟩⟩ rfl rfl hl.1 rfl (lv_room (Nat.le_of_ble_eq_true rfl)) dX4_workOut_173 ⟨Nat.le_of_ble_eq_true rfl, Nat.le_of_ble_eq_true rfl⟩) hS (fun q _ h => (freeX hS) q h) (freeX hS) (fun r1190 u t H1 locs ht hvm hw hB hz1 hk1 hS => ?_)
          unfold BX at hB
          rw [ht] at hB
          have hP : va_P (dC, dI) classes (wX g c v1187 F1188 rc) H1 := hB
          generalize H1 = H at hP hS ⊢
          have rr_r1190 := i32_rng r1190
          refine va_callv (va_runV (As := [.int r1190]) (rest := []) ⟨hx, hb, hml, hown, hwd⟩ (c_X4_push l dC dI g c adK adV v1187 F1188 rc H.size r1190 hg hI ) (cwV 1 hwd (gV wk_416 wk_413 wk_414 wk_415 wk_34) rfl rfl rfl (by decide +kernel) ⟨Nat.le_of_ble_eq_true rfl, Nat.le_of_ble_eq_true rfl⟩) ⟨PX.blind, va_recv hK hP (ci := 4) (q0 := 6) rfl rfl, fun U hU hW => ⟨rfl, PX.at hK hE hP hS hU hW⟩⟩ rfl rfl hl.1 rfl (lv_room (Nat.le_of_ble_eq_true rfl)) dX4_workOut_176 ⟨Nat.le_of_ble_eq_true rfl, Nat.le_of_ble_eq_true rfl⟩) hS (fun q _ h => (freeX hS) q h) (freeX hS) (fun u t H1 locs ht hvm hw hB hz1 hk1 hS => ?_)
          unfold BX at hB
          rw [ht] at hB
          obtain ⟨v1192, F1193, rc9⟩ := u
          obtain ⟨hI, hal9, hrc, hf1194, hw⟩ := hw
          dsimp only at hI hal9 hrc hB hf1194 hw
          rw [hrc] at hB
          have hal := hal9.trans hal
          have hP : va_P (dC, dI) classes (wX g c v1192 F1193 rc) H1 := hB
          generalize H1 = H at hP hS ⊢
          obtain ⟨z1195, e1196⟩ : ∃ y : Int32, y = x3_lp1153 + 1 := ⟨_, rfl⟩
          try (have t1197 := tadd e1196 rfl (b := 1) (by decide) (by omega))
          refine lv_iinc (v := z1195) (lv' := [(3, .int z1195), (6, .int r1182), (5, .int z1177), (4, .int z1170), (0, .ref (g 6)), (1, .int p0), (2, .ref (g 73))]) hx hb dX4_workOut_179 hl (k := 3) rfl (by rw [e1196]; rfl) (by decide) rfl (fun ls hl => ?_)
          refine lv_goto (tgt := 7) hx hb dX4_workOut_182 (by decide) ?_
          exact ih_lp1153 z1195 v1192 F1193 _ _ _ (by omega) (by omega) (by omega) (frC (by decide) hf1194 (frC (by decide) hf1189 (frC (by decide) hf1185 hf_lp1153))) hI hal hP hS (lv_sub hl [0, 4, 5, 6] rfl)
        by_cases hhi1181 : 4 < z1170.toInt
        · refine lv_tableOut (tgt := 158) hx hb dX4_workOut_44 (Or.inr hhi1181) (by decide) ?_
          refine lv_aload_n hx hb dX4_workOut_158 rfl (lv_at hl 3 rfl) ?_
          refine va_calli (va_runV (As := []) (rest := []) ⟨hx, hb, hml, hown, hwd⟩ (c_X4_pop l dC dI g c adK adV v_lp1153 F_lp1153 rc H.size  hg hI ) (cwV 0 hwd (gV wk_420 wk_417 wk_418 wk_419 wk_34) rfl rfl rfl (by decide +kernel) ⟨Nat.le_of_ble_eq_true rfl, Nat.le_of_ble_eq_true rfl⟩) ⟨PX.blind, va_recv hK hP (ci := 4) (q0 := 6) rfl rfl, fun U hU hW => ⟨rfl, PX.at hK hE hP hS hU hW⟩⟩ rfl rfl hl.1 rfl (lv_room (Nat.le_of_ble_eq_true rfl)) dX4_workOut_159 ⟨Nat.le_of_ble_eq_true rfl, Nat.le_of_ble_eq_true rfl⟩) hS (fun q _ h => (freeX hS) q h) (freeX hS) (fun r1198 u t H1 locs ht hvm hw hB hz1 hk1 hS => ?_)
          unfold BX at hB
          rw [ht] at hB
          obtain ⟨v1199, F1200, rc9⟩ := u
          obtain ⟨hI, hal9, hrc, hf1201, hw⟩ := hw
          dsimp only at hI hal9 hrc hB hf1201 hw
          rw [hrc] at hB
          have hal := hal9.trans hal
          have hP : va_P (dC, dI) classes (wX g c v1199 F1200 rc) H1 := hB
          generalize H1 = H at hP hS ⊢
          have rr_r1198 := i32_rng r1198
          refine lv_istore (lv' := [(6, .int r1198), (5, .int z1177), (4, .int z1170), (3, .int x3_lp1153), (0, .ref (g 6)), (1, .int p0), (2, .ref (g 73))]) hx hb dX4_workOut_162 hl (by decide) rfl (fun ls hl => ?_)
          refine lv_aload_n hx hb dX4_workOut_164 rfl (lv_at hl 4 rfl) ?_
          refine lv_iload hx hb dX4_workOut_165 (lv_at hl 2 rfl) ?_
          refine lv_aload_n hx hb dX4_workOut_167 rfl (lv_at hl 4 rfl) ?_
          refine va_calli (va_runV (As := []) (rest := [.int z1170, .ref (g 6)]) ⟨hx, hb, hml, hown, hwd⟩ (c_X4_pop l dC dI g c adK adV v1199 F1200 rc H.size  hg hI ) (cwV 0 hwd (gV wk_420 wk_417 wk_418 wk_419 wk_34) rfl rfl rfl (by decide +kernel) ⟨Nat.le_of_ble_eq_true rfl, Nat.le_of_ble_eq_true rfl⟩) ⟨PX.blind, va_recv hK hP (ci := 4) (q0 := 6) rfl rfl, fun U hU hW => ⟨rfl, PX.at hK hE hP hS hU hW⟩⟩ rfl rfl hl.1 rfl (lv_room (Nat.le_of_ble_eq_true rfl)) dX4_workOut_168 ⟨Nat.le_of_ble_eq_true rfl, Nat.le_of_ble_eq_true rfl⟩) hS (fun q _ h => (freeX hS) q h) (freeX hS) (fun r1202 u t H1 locs ht hvm hw hB hz1 hk1 hS => ?_)
          unfold BX at hB
          rw [ht] at hB
          obtain ⟨v1203, F1204, rc9⟩ := u
          obtain ⟨hI, hal9, hrc, hf1205, hw⟩ := hw
          dsimp only at hI hal9 hrc hB hf1205 hw
          rw [hrc] at hB
          have hal := hal9.trans hal
          have hP : va_P (dC, dI) classes (wX g c v1203 F1204 rc) H1 := hB
          generalize H1 = H at hP hS ⊢
          have rr_r1202 := i32_rng r1202
          refine lv_iload hx hb dX4_workOut_171 (lv_at hl 0 rfl) ?_
          refine va_calli (va_runS (As := [.int z1170, .int r1202, .int r1198]) (rest := [.ref (g 6)]) ⟨hx, hb, hml, hown, hwd⟩ (c_X4_join l dC dI g c adK adV v1203 F1204 rc H.size z1170 r1202 r1198 hg hI ) (va_cwS 3 hwd (gT wk_423 wk_421 wk_422 wk_34) rfl rfl rfl (by decide +kernel) ⟨Nat.le_of_ble_eq_true rfl, Nat.le_of_ble_eq_true rfl⟩) ⟨PX.blind, fun U hU hW => ⟨rfl, PX.at hK hE hP hS hU hW⟩⟩ rfl rfl hl.1 rfl (lv_room (Nat.le_of_ble_eq_true rfl)) dX4_workOut_173 ⟨Nat.le_of_ble_eq_true rfl, Nat.le_of_ble_eq_true rfl⟩) hS (fun q _ h => (freeX hS) q h) (freeX hS) (fun r1206 u t H1 locs ht hvm hw hB hz1 hk1 hS => ?_)
          unfold BX at hB
          rw [ht] at hB
          have hP : va_P (dC, dI) classes (wX g c v1203 F1204 rc) H1 := hB
          generalize H1 = H at hP hS ⊢
          have rr_r1206 := i32_rng r1206
          refine va_callv (va_runV (As := [.int r1206]) (rest := []) ⟨hx, hb, hml, hown, hwd⟩ (c_X4_push l dC dI g c adK adV v1203 F1204 rc H.size r1206 hg hI ) (cwV 1 hwd (gV wk_416 wk_413 wk_414 wk_415 wk_34) rfl rfl rfl (by decide +kernel) ⟨Nat.le_of_ble_eq_true rfl, Nat.le_of_ble_eq_true rfl⟩) ⟨PX.blind, va_recv hK hP (ci := 4) (q0 := 6) rfl rfl, fun U hU hW => ⟨rfl, PX.at hK hE hP hS hU hW⟩⟩ rfl rfl hl.1 rfl (lv_room (Nat.le_of_ble_eq_true rfl)) dX4_workOut_176 ⟨Nat.le_of_ble_eq_true rfl, Nat.le_of_ble_eq_true rfl⟩) hS (fun q _ h => (freeX hS) q h) (freeX hS) (fun u t H1 locs ht hvm hw hB hz1 hk1 hS => ?_)
          unfold BX at hB
          rw [ht] at hB
          obtain ⟨v1208, F1209, rc9⟩ := u
          obtain ⟨hI, hal9, hrc, hf1210, hw⟩ := hw
          dsimp only at hI hal9 hrc hB hf1210 hw
          rw [hrc] at hB
          have hal := hal9.trans hal
          have hP : va_P (dC, dI) classes (wX g c v1208 F1209 rc) H1 := hB
          generalize H1 = H at hP hS ⊢
          obtain ⟨z1211, e1212⟩ : ∃ y : Int32, y = x3_lp1153 + 1 := ⟨_, rfl⟩
          try (have t1213 := tadd e1212 rfl (b := 1) (by decide) (by omega))
          refine lv_iinc (v := z1211) (lv' := [(3, .int z1211), (6, .int r1198), (5, .int z1177), (4, .int z1170), (0, .ref (g 6)), (1, .int p0), (2, .ref (g 73))]) hx hb dX4_workOut_179 hl (k := 3) rfl (by rw [e1212]; rfl) (by decide) rfl (fun ls hl => ?_)
          refine lv_goto (tgt := 7) hx hb dX4_workOut_182 (by decide) ?_
          exact ih_lp1153 z1211 v1208 F1209 _ _ _ (by omega) (by omega) (by omega) (frC (by decide) hf1210 (frC (by decide) hf1205 (frC (by decide) hf1201 hf_lp1153))) hI hal hP hS (lv_sub hl [0, 4, 5, 6] rfl)
        rcases (show z1170.toInt = 0 ∨ z1170.toInt = 1 ∨ z1170.toInt = 2 ∨ z1170.toInt = 3 ∨ z1170.toInt = 4 by omega) with hk | hk | hk | hk | hk
        · refine lv_tableIn (off := 36) (tgt := 80) hx hb dX4_workOut_44 hlo1180 hhi1181 (by rw [hk]; decide) (by decide) ?_
          refine lv_aload_n hx hb dX4_workOut_80 rfl (lv_at hl 3 rfl) ?_
          refine lv_iload hx hb dX4_workOut_81 (lv_at hl 0 rfl) ?_
          refine va_callv (va_runV (As := [.int z1177]) (rest := []) ⟨hx, hb, hml, hown, hwd⟩ (c_X4_push l dC dI g c adK adV v_lp1153 F_lp1153 rc H.size z1177 hg hI ) (cwV 1 hwd (gV wk_416 wk_413 wk_414 wk_415 wk_34) rfl rfl rfl (by decide +kernel) ⟨Nat.le_of_ble_eq_true rfl, Nat.le_of_ble_eq_true rfl⟩) ⟨PX.blind, va_recv hK hP (ci := 4) (q0 := 6) rfl rfl, fun U hU hW => ⟨rfl, PX.at hK hE hP hS hU hW⟩⟩ rfl rfl hl.1 rfl (lv_room (Nat.le_of_ble_eq_true rfl)) dX4_workOut_83 ⟨Nat.le_of_ble_eq_true rfl, Nat.le_of_ble_eq_true rfl⟩) hS (fun q _ h => (freeX hS) q h) (freeX hS) (fun u t H1 locs ht hvm hw hB hz1 hk1 hS => ?_)
          unfold BX at hB
          rw [ht] at hB
          obtain ⟨v1215, F1216, rc9⟩ := u
          obtain ⟨hI, hal9, hrc, hf1217, hw⟩ := hw
          dsimp only at hI hal9 hrc hB hf1217 hw
          rw [hrc] at hB
          have hal := hal9.trans hal
          have hP : va_P (dC, dI) classes (wX g c v1215 F1216 rc) H1 := hB
          generalize H1 = H at hP hS ⊢
          refine lv_goto (tgt := 179) hx hb dX4_workOut_86 (by decide) ?_
          obtain ⟨z1218, e1219⟩ : ∃ y : Int32, y = x3_lp1153 + 1 := ⟨_, rfl⟩
          try (have t1220 := tadd e1219 rfl (b := 1) (by decide) (by omega))
          refine lv_iinc (v := z1218) (lv' := [(3, .int z1218), (5, .int z1177), (4, .int z1170), (0, .ref (g 6)), (1, .int p0), (2, .ref (g 73))]) hx hb dX4_workOut_179 hl (k := 2) rfl (by rw [e1219]; rfl) (by decide) rfl (fun ls hl => ?_)
          refine lv_goto (tgt := 7) hx hb dX4_workOut_182 (by decide) ?_
          exact ih_lp1153 z1218 v1215 F1216 _ _ _ (by omega) (by omega) (by omega) (frC (by decide) hf1217 hf_lp1153) hI hal hP hS (lv_sub hl [0, 3, 4, 5] rfl)
        · refine lv_tableIn (off := 45) (tgt := 89) hx hb dX4_workOut_44 hlo1180 hhi1181 (by rw [hk]; decide) (by decide) ?_
          refine lv_aload_n hx hb dX4_workOut_89 rfl (lv_at hl 3 rfl) ?_
          refine lv_iload hx hb dX4_workOut_90 (lv_at hl 0 rfl) ?_
          refine lv_aload_n hx hb dX4_workOut_92 rfl (lv_at hl 5 rfl) ?_
          refine va_alen (v := 6) hx hb hK hP 73 61 rfl rfl rfl dX4_workOut_93 ?_
          refine lv_icmp_ge (tgt := 104) hx hb dX4_workOut_94 (by decide) (fun c1221 => ?_) (fun c1221 => ?_)
          · skip
            have t1222 := cv_le (a := 6) (by decide) (b := z1177.toInt) rfl c1221
            refine lv_iconst (v := 0) hx hb dX4_workOut_104 (by decide) ?_
            refine va_callv (va_runV (As := [.int 0]) (rest := []) ⟨hx, hb, hml, hown, hwd⟩ (c_X4_push l dC dI g c adK adV v_lp1153 F_lp1153 rc H.size 0 hg hI ) (cwV 1 hwd (gV wk_416 wk_413 wk_414 wk_415 wk_34) rfl rfl rfl (by decide +kernel) ⟨Nat.le_of_ble_eq_true rfl, Nat.le_of_ble_eq_true rfl⟩) ⟨PX.blind, va_recv hK hP (ci := 4) (q0 := 6) rfl rfl, fun U hU hW => ⟨rfl, PX.at hK hE hP hS hU hW⟩⟩ rfl rfl hl.1 rfl (lv_room (Nat.le_of_ble_eq_true rfl)) dX4_workOut_105 ⟨Nat.le_of_ble_eq_true rfl, Nat.le_of_ble_eq_true rfl⟩) hS (fun q _ h => (freeX hS) q h) (freeX hS) (fun u t H1 locs ht hvm hw hB hz1 hk1 hS => ?_)
            unfold BX at hB
            rw [ht] at hB
            obtain ⟨v1224, F1225, rc9⟩ := u
            obtain ⟨hI, hal9, hrc, hf1226, hw⟩ := hw
            dsimp only at hI hal9 hrc hB hf1226 hw
            rw [hrc] at hB
            have hal := hal9.trans hal
            have hP : va_P (dC, dI) classes (wX g c v1224 F1225 rc) H1 := hB
            generalize H1 = H at hP hS ⊢
            refine lv_goto (tgt := 179) hx hb dX4_workOut_108 (by decide) ?_
            obtain ⟨z1227, e1228⟩ : ∃ y : Int32, y = x3_lp1153 + 1 := ⟨_, rfl⟩
            try (have t1229 := tadd e1228 rfl (b := 1) (by decide) (by omega))
            refine lv_iinc (v := z1227) (lv' := [(3, .int z1227), (5, .int z1177), (4, .int z1170), (0, .ref (g 6)), (1, .int p0), (2, .ref (g 73))]) hx hb dX4_workOut_179 hl (k := 2) rfl (by rw [e1228]; rfl) (by decide) rfl (fun ls hl => ?_)
            refine lv_goto (tgt := 7) hx hb dX4_workOut_182 (by decide) ?_
            exact ih_lp1153 z1227 v1224 F1225 _ _ _ (by omega) (by omega) (by omega) (frC (by decide) hf1226 hf_lp1153) hI hal hP hS (lv_sub hl [0, 3, 4, 5] rfl)
          · skip
            have t1230 := cv_nle (a := 6) (by decide) (b := z1177.toInt) rfl c1221
            refine lv_aload_n hx hb dX4_workOut_97 rfl (lv_at hl 5 rfl) ?_
            refine lv_iload hx hb dX4_workOut_98 (lv_at hl 0 rfl) ?_
            refine va_iald hx hb hK hP 73 61 rfl rfl (i := z1177) (vin (a := z1177.toInt) rfl (by omega)) dX4_workOut_100 ?_
            refine lv_topi (fun z1231 e1232 => ?_)
            refine lv_goto (tgt := 105) hx hb dX4_workOut_101 (by decide) ?_
            refine va_callv (va_runV (As := [.int z1231]) (rest := []) ⟨hx, hb, hml, hown, hwd⟩ (c_X4_push l dC dI g c adK adV v_lp1153 F_lp1153 rc H.size z1231 hg hI ) (cwV 1 hwd (gV wk_416 wk_413 wk_414 wk_415 wk_34) rfl rfl rfl (by decide +kernel) ⟨Nat.le_of_ble_eq_true rfl, Nat.le_of_ble_eq_true rfl⟩) ⟨PX.blind, va_recv hK hP (ci := 4) (q0 := 6) rfl rfl, fun U hU hW => ⟨rfl, PX.at hK hE hP hS hU hW⟩⟩ rfl rfl hl.1 rfl (lv_room (Nat.le_of_ble_eq_true rfl)) dX4_workOut_105 ⟨Nat.le_of_ble_eq_true rfl, Nat.le_of_ble_eq_true rfl⟩) hS (fun q _ h => (freeX hS) q h) (freeX hS) (fun u t H1 locs ht hvm hw hB hz1 hk1 hS => ?_)
            unfold BX at hB
            rw [ht] at hB
            obtain ⟨v1234, F1235, rc9⟩ := u
            obtain ⟨hI, hal9, hrc, hf1236, hw⟩ := hw
            dsimp only at hI hal9 hrc hB hf1236 hw
            rw [hrc] at hB
            have hal := hal9.trans hal
            have hP : va_P (dC, dI) classes (wX g c v1234 F1235 rc) H1 := hB
            generalize H1 = H at hP hS ⊢
            refine lv_goto (tgt := 179) hx hb dX4_workOut_108 (by decide) ?_
            obtain ⟨z1237, e1238⟩ : ∃ y : Int32, y = x3_lp1153 + 1 := ⟨_, rfl⟩
            try (have t1239 := tadd e1238 rfl (b := 1) (by decide) (by omega))
            refine lv_iinc (v := z1237) (lv' := [(3, .int z1237), (5, .int z1177), (4, .int z1170), (0, .ref (g 6)), (1, .int p0), (2, .ref (g 73))]) hx hb dX4_workOut_179 hl (k := 2) rfl (by rw [e1238]; rfl) (by decide) rfl (fun ls hl => ?_)
            refine lv_goto (tgt := 7) hx hb dX4_workOut_182 (by decide) ?_
            exact ih_lp1153 z1237 v1234 F1235 _ _ _ (by omega) (by omega) (by omega) (frC (by decide) hf1236 hf_lp1153) hI hal hP hS (lv_sub hl [0, 3, 4, 5] rfl)
        · refine lv_tableIn (off := 67) (tgt := 111) hx hb dX4_workOut_44 hlo1180 hhi1181 (by rw [hk]; decide) (by decide) ?_
          refine lv_aload_n hx hb dX4_workOut_111 rfl (lv_at hl 3 rfl) ?_
          refine lv_aload_n hx hb dX4_workOut_112 rfl (lv_at hl 3 rfl) ?_
          refine va_calli (va_runV (As := []) (rest := [.ref (g 6)]) ⟨hx, hb, hml, hown, hwd⟩ (c_X4_pop l dC dI g c adK adV v_lp1153 F_lp1153 rc H.size  hg hI ) (cwV 0 hwd (gV wk_420 wk_417 wk_418 wk_419 wk_34) rfl rfl rfl (by decide +kernel) ⟨Nat.le_of_ble_eq_true rfl, Nat.le_of_ble_eq_true rfl⟩) ⟨PX.blind, va_recv hK hP (ci := 4) (q0 := 6) rfl rfl, fun U hU hW => ⟨rfl, PX.at hK hE hP hS hU hW⟩⟩ rfl rfl hl.1 rfl (lv_room (Nat.le_of_ble_eq_true rfl)) dX4_workOut_113 ⟨Nat.le_of_ble_eq_true rfl, Nat.le_of_ble_eq_true rfl⟩) hS (fun q _ h => (freeX hS) q h) (freeX hS) (fun r1240 u t H1 locs ht hvm hw hB hz1 hk1 hS => ?_)
          unfold BX at hB
          rw [ht] at hB
          obtain ⟨v1241, F1242, rc9⟩ := u
          obtain ⟨hI, hal9, hrc, hf1243, hw⟩ := hw
          dsimp only at hI hal9 hrc hB hf1243 hw
          rw [hrc] at hB
          have hal := hal9.trans hal
          have hP : va_P (dC, dI) classes (wX g c v1241 F1242 rc) H1 := hB
          generalize H1 = H at hP hS ⊢
          have rr_r1240 := i32_rng r1240
          refine lv_ineg hx hb dX4_workOut_116 ?_
          refine lv_topi (fun z1244 e1245 => ?_)
          refine va_callv (va_runV (As := [.int z1244]) (rest := []) ⟨hx, hb, hml, hown, hwd⟩ (c_X4_push l dC dI g c adK adV v1241 F1242 rc H.size z1244 hg hI ) (cwV 1 hwd (gV wk_416 wk_413 wk_414 wk_415 wk_34) rfl rfl rfl (by decide +kernel) ⟨Nat.le_of_ble_eq_true rfl, Nat.le_of_ble_eq_true rfl⟩) ⟨PX.blind, va_recv hK hP (ci := 4) (q0 := 6) rfl rfl, fun U hU hW => ⟨rfl, PX.at hK hE hP hS hU hW⟩⟩ rfl rfl hl.1 rfl (lv_room (Nat.le_of_ble_eq_true rfl)) dX4_workOut_117 ⟨Nat.le_of_ble_eq_true rfl, Nat.le_of_ble_eq_true rfl⟩) hS (fun q _ h => (freeX hS) q h) (freeX hS) (fun u t H1 locs ht hvm hw hB hz1 hk1 hS => ?_)
          unfold BX at hB
          rw [ht] at hB
          obtain ⟨v1247, F1248, rc9⟩ := u
          obtain ⟨hI, hal9, hrc, hf1249, hw⟩ := hw
          dsimp only at hI hal9 hrc hB hf1249 hw
          rw [hrc] at hB
          have hal := hal9.trans hal
          have hP : va_P (dC, dI) classes (wX g c v1247 F1248 rc) H1 := hB
          generalize H1 = H at hP hS ⊢
          refine lv_goto (tgt := 179) hx hb dX4_workOut_120 (by decide) ?_
          obtain ⟨z1250, e1251⟩ : ∃ y : Int32, y = x3_lp1153 + 1 := ⟨_, rfl⟩
          try (have t1252 := tadd e1251 rfl (b := 1) (by decide) (by omega))
          refine lv_iinc (v := z1250) (lv' := [(3, .int z1250), (5, .int z1177), (4, .int z1170), (0, .ref (g 6)), (1, .int p0), (2, .ref (g 73))]) hx hb dX4_workOut_179 hl (k := 2) rfl (by rw [e1251]; rfl) (by decide) rfl (fun ls hl => ?_)
          refine lv_goto (tgt := 7) hx hb dX4_workOut_182 (by decide) ?_
          exact ih_lp1153 z1250 v1247 F1248 _ _ _ (by omega) (by omega) (by omega) (frC (by decide) hf1249 (frC (by decide) hf1243 hf_lp1153)) hI hal hP hS (lv_sub hl [0, 3, 4, 5] rfl)
        · refine lv_tableIn (off := 79) (tgt := 123) hx hb dX4_workOut_44 hlo1180 hhi1181 (by rw [hk]; decide) (by decide) ?_
          refine lv_iload_n hx hb dX4_workOut_123 rfl (lv_at hl 2 rfl) ?_
          refine lv_iload hx hb dX4_workOut_124 (lv_at hl 0 rfl) ?_
          refine lv_iconst (v := 1) hx hb dX4_workOut_126 (by decide) ?_
          refine lv_isub hx hb dX4_workOut_127 ?_
          refine lv_topi (fun z1253 e1254 => ?_)
          try (have t1255 := tsub e1254 (a := z1177.toInt) rfl (b := 1) (by decide) (by omega))
          refine va_mmax hx hb (by rw [hml]; exact hl.1.symm) hown (hwd _ wk_412) (hwd _ wk_395) (hwd _ wk_392) (hwd _ wk_396) (Nat.le_of_ble_eq_true rfl) (Nat.le_of_ble_eq_true rfl) (Nat.le_of_ble_eq_true rfl) (Nat.le_of_ble_eq_true rfl) dX4_workOut_128 ?_
          refine lv_topi (fun z1256 e1257 => ?_)
          have t1258 := tmax e1257 (a := x3_lp1153.toInt) rfl (b := z1253.toInt) rfl
          refine lv_istore_n (lv' := [(3, .int z1256), (5, .int z1177), (4, .int z1170), (0, .ref (g 6)), (1, .int p0), (2, .ref (g 73))]) hx hb dX4_workOut_131 rfl hl (by decide) rfl (fun ls hl => ?_)
          refine lv_goto (tgt := 179) hx hb dX4_workOut_132 (by decide) ?_
          obtain ⟨z1259, e1260⟩ : ∃ y : Int32, y = z1256 + 1 := ⟨_, rfl⟩
          try (have t1261 := tadd e1260 rfl (b := 1) (by decide) (by omega))
          refine lv_iinc (v := z1259) (lv' := [(3, .int z1259), (5, .int z1177), (4, .int z1170), (0, .ref (g 6)), (1, .int p0), (2, .ref (g 73))]) hx hb dX4_workOut_179 hl (k := 0) rfl (by rw [e1260]; rfl) (by decide) rfl (fun ls hl => ?_)
          refine lv_goto (tgt := 7) hx hb dX4_workOut_182 (by decide) ?_
          exact ih_lp1153 z1259 v_lp1153 F_lp1153 _ _ _ (by omega) (by omega) (by omega) hf_lp1153 hI hal hP hS (lv_sub hl [0, 3, 4, 5] rfl)
        · refine lv_tableIn (off := 91) (tgt := 135) hx hb dX4_workOut_44 hlo1180 hhi1181 (by rw [hk]; decide) (by decide) ?_
          refine lv_aload_n hx hb dX4_workOut_135 rfl (lv_at hl 3 rfl) ?_
          refine va_calli (va_runV (As := []) (rest := []) ⟨hx, hb, hml, hown, hwd⟩ (c_X4_pop l dC dI g c adK adV v_lp1153 F_lp1153 rc H.size  hg hI ) (cwV 0 hwd (gV wk_420 wk_417 wk_418 wk_419 wk_34) rfl rfl rfl (by decide +kernel) ⟨Nat.le_of_ble_eq_true rfl, Nat.le_of_ble_eq_true rfl⟩) ⟨PX.blind, va_recv hK hP (ci := 4) (q0 := 6) rfl rfl, fun U hU hW => ⟨rfl, PX.at hK hE hP hS hU hW⟩⟩ rfl rfl hl.1 rfl (lv_room (Nat.le_of_ble_eq_true rfl)) dX4_workOut_136 ⟨Nat.le_of_ble_eq_true rfl, Nat.le_of_ble_eq_true rfl⟩) hS (fun q _ h => (freeX hS) q h) (freeX hS) (fun r1262 u t H1 locs ht hvm hw hB hz1 hk1 hS => ?_)
          unfold BX at hB
          rw [ht] at hB
          obtain ⟨v1263, F1264, rc9⟩ := u
          obtain ⟨hI, hal9, hrc, hf1265, hw⟩ := hw
          dsimp only at hI hal9 hrc hB hf1265 hw
          rw [hrc] at hB
          have hal := hal9.trans hal
          have hP : va_P (dC, dI) classes (wX g c v1263 F1264 rc) H1 := hB
          generalize H1 = H at hP hS ⊢
          have rr_r1262 := i32_rng r1262
          refine lv_if_ne (tgt := 153) hx hb dX4_workOut_139 (by decide) (fun c1266 => ?_) (fun c1266 => ?_)
          · skip
            have t1267 := cv_ne (a := r1262.toInt) rfl (b := 0) (by decide) c1266
            refine lv_iload_n hx hb dX4_workOut_153 rfl (lv_at hl 2 rfl) ?_
            refine lv_istore_n (lv' := [(3, .int x3_lp1153), (5, .int z1177), (4, .int z1170), (0, .ref (g 6)), (1, .int p0), (2, .ref (g 73))]) hx hb dX4_workOut_154 rfl hl (by decide) rfl (fun ls hl => ?_)
            refine lv_goto (tgt := 179) hx hb dX4_workOut_155 (by decide) ?_
            obtain ⟨z1268, e1269⟩ : ∃ y : Int32, y = x3_lp1153 + 1 := ⟨_, rfl⟩
            try (have t1270 := tadd e1269 rfl (b := 1) (by decide) (by omega))
            refine lv_iinc (v := z1268) (lv' := [(3, .int z1268), (5, .int z1177), (4, .int z1170), (0, .ref (g 6)), (1, .int p0), (2, .ref (g 73))]) hx hb dX4_workOut_179 hl (k := 0) rfl (by rw [e1269]; rfl) (by decide) rfl (fun ls hl => ?_)
            refine lv_goto (tgt := 7) hx hb dX4_workOut_182 (by decide) ?_
            exact ih_lp1153 z1268 v1263 F1264 _ _ _ (by omega) (by omega) (by omega) (frC (by decide) hf1265 hf_lp1153) hI hal hP hS (lv_sub hl [0, 3, 4, 5] rfl)
          · skip
            have t1271 := cv_eq (a := r1262.toInt) rfl (b := 0) (by decide) c1266
            refine lv_iload_n hx hb dX4_workOut_142 rfl (lv_at hl 2 rfl) ?_
            refine lv_iload hx hb dX4_workOut_143 (lv_at hl 0 rfl) ?_
            refine lv_iconst (v := 1) hx hb dX4_workOut_145 (by decide) ?_
            refine lv_isub hx hb dX4_workOut_146 ?_
            refine lv_topi (fun z1272 e1273 => ?_)
            try (have t1274 := tsub e1273 (a := z1177.toInt) rfl (b := 1) (by decide) (by omega))
            refine va_mmax hx hb (by rw [hml]; exact hl.1.symm) hown (hwd _ wk_412) (hwd _ wk_395) (hwd _ wk_392) (hwd _ wk_396) (Nat.le_of_ble_eq_true rfl) (Nat.le_of_ble_eq_true rfl) (Nat.le_of_ble_eq_true rfl) (Nat.le_of_ble_eq_true rfl) dX4_workOut_147 ?_
            refine lv_topi (fun z1275 e1276 => ?_)
            have t1277 := tmax e1276 (a := x3_lp1153.toInt) rfl (b := z1272.toInt) rfl
            refine lv_goto (tgt := 154) hx hb dX4_workOut_150 (by decide) ?_
            refine lv_istore_n (lv' := [(3, .int z1275), (5, .int z1177), (4, .int z1170), (0, .ref (g 6)), (1, .int p0), (2, .ref (g 73))]) hx hb dX4_workOut_154 rfl hl (by decide) rfl (fun ls hl => ?_)
            refine lv_goto (tgt := 179) hx hb dX4_workOut_155 (by decide) ?_
            obtain ⟨z1278, e1279⟩ : ∃ y : Int32, y = z1275 + 1 := ⟨_, rfl⟩
            try (have t1280 := tadd e1279 rfl (b := 1) (by decide) (by omega))
            refine lv_iinc (v := z1278) (lv' := [(3, .int z1278), (5, .int z1177), (4, .int z1170), (0, .ref (g 6)), (1, .int p0), (2, .ref (g 73))]) hx hb dX4_workOut_179 hl (k := 0) rfl (by rw [e1279]; rfl) (by decide) rfl (fun ls hl => ?_)
            refine lv_goto (tgt := 7) hx hb dX4_workOut_182 (by decide) ?_
            exact ih_lp1153 z1278 v1263 F1264 _ _ _ (by omega) (by omega) (by omega) (frC (by decide) hf1265 hf_lp1153) hI hal hP hS (lv_sub hl [0, 3, 4, 5] rfl)
  obtain ⟨n9, hn9⟩ : ∃ n : Nat, 2147483648 - 0 ≤ (n : Int) := ⟨((2147483648 - 0 : Int)).toNat, by omega⟩
  exact lp1153 n9 0 (va_up v 126 0) F H _ ls (by have : (0 : Int32).toInt = 0 := (by decide); omega) (by have : (0 : Int32).toInt = 0 := (by decide); omega) (by have : (0 : Int32).toInt = 0 := (by decide); omega) (fun _ _ => rfl) hI hal hP hS hl
