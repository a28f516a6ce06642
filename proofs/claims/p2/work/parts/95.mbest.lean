set_option maxHeartbeats 8000000 in
set_option maxRecDepth 100000 in
theorem c_X12_best (l : Launch) (dC : Nat → ClassId) (dI : Nat → Nat → Nat) (g : Nat → Nat) (c : Nat → ClassId) (adK adV : Nat → Nat) (v : Nat → Int32) (F : Nat → Nat → Int32) (rc sz : Nat) (p0 : Int32) (p1 : Int32) (hg : injM g) (hI : IM v F) (hL : JL (v 31) (F 28) (F 29) (F 27)) : Met l yX12_best (Cond.code yX12_best cX12_best 12 (some .int) :: wA) ({ frames := 8, cells := 0, slots := 0, locals := 320 }) (va_Pc [.ref (g 0), .int p0, .int p1] (PM dC dI g c adK adV v F rc sz)) (va_Qi (fun (r : Int32) (u : StM) => IM u.1 u.2.1 ∧ u.2.2 = rc ∧ (∀ k, k ∉ ([57, 58] : List Nat) → u.1 k = v k) ∧ (∀ k, k ∉ ([30, 31, 42, 43] : List Nat) → u.2.1 k = F k) ∧ True) (BM dC dI g c) (AM g sz)) 0 0 (AM g sz) := by
  refine Met.ofW (cc := cX12_best) (maxL := 12) (ret := (some .int)) (by decide) rfl ?_
  intro p e s m args below meth c0 s₁ B hml hv
  obtain ⟨rfl, hsz, hP, hK, hE⟩ := hv
  have hx := B.exec
  have hb := B.bytes
  have hr := B.returns
  have hts := atoms_spec (ws := Cond.code yX12_best cX12_best 12 (some .int) :: wA) B.pre
  have hwd : ∀ w ∈ wA, w.before _ s = true := fun w h => hts w (List.mem_cons_of_mem _ h)
  have hown : s.vm.findClass RX12 = some m.cls := findClass_of_methodNamed B.named
  have hlocks := B.notSynchronized
  subst hsz
  have hl := lv_entry ([.ref (g 0), .int p0, .int p1]) (n := 12) (Nat.le_of_ble_eq_true rfl)
  rw [lg_entry_eq]
  generalize (lg_sl ([.ref (g 0), .int p0, .int p1]) ++ List.replicate (12 - (lg_sl ([.ref (g 0), .int p0, .int p1])).length) Slot.unset).toArray = ls at hl ⊢
  have hl : lv_has ls 12 [(0, .ref (g 0)), (1, .int p0), (2, .int p1)] := hl
  obtain ⟨H, eH⟩ : ∃ z, z = s.heap := ⟨_, rfl⟩
  have hP : va_P (dC, dI) classes (wM g c v F rc) H := by rw [eH]; exact hP
  have hS : va_S (AM g s.heap.size) s.heap H [] := by rw [eH]; exact va_S.rf
  refine my_heap eH ?_
  have hF : ∀ k, k ∉ ([30, 31, 42, 43] : List Nat) → F k = F k := fun _ _ => rfl
  have rp0 := i32_rng p0
  have rp1 := i32_rng p1
  have hb31 : 0 ≤ (v 31).toInt ∧ (v 31).toInt ≤ 10 := hI.1 31 _ _ rfl
  refine lv_aload_n hx hb dX12_best_0 rfl (lv_at hl 0 rfl) ?_
  refine lv_iload_n hx hb dX12_best_1 rfl (lv_at hl 1 rfl) ?_
  have t29199 : 0 ≤ (v 6).toInt ∧ (v 6).toInt ≤ 10 := hI.1 6 _ _ rfl
  refine va_calli (va_runV (As := [.int p0]) (rest := []) ⟨hx, hb, hml, hown, hwd⟩ (c_X12_isPlane l dC dI g c adK adV v F rc H.size p0 hg hI ) (cwV 1 hwd (gV wk_305 wk_302 wk_303 wk_304 wk_5) rfl rfl rfl (by decide +kernel) ⟨Nat.le_of_ble_eq_true rfl, Nat.le_of_ble_eq_true rfl⟩) ⟨PM.blind, va_recv hK hP (ci := 12) (q0 := 0) rfl rfl, fun U hU hW => ⟨rfl, PM.at hK hE hP hS hU hW⟩⟩ rfl rfl hl.1 rfl (lv_room (Nat.le_of_ble_eq_true rfl)) dX12_best_2 ⟨Nat.le_of_ble_eq_true rfl, Nat.le_of_ble_eq_true rfl⟩) hS (fun q _ h => (freeM hS) q h) (freeM hS) (fun r29200 u t H1 locs ht hvm hw hB hz1 hk1 hS => ?_)
  unfold BM at hB
  rw [ht] at hB
  have hP : va_P (dC, dI) classes (wM g c v F rc) H1 := hB
  have hw : (r29200.toInt = 1 ∧ 0 ≤ p0.toInt ∧ p0.toInt < (v 6).toInt) ∨ (r29200.toInt = 0 ∧ (p0.toInt < 0 ∨ (v 6).toInt ≤ p0.toInt)) := hw
  have hw_r29200 := hw
  generalize H1 = H at hP hS ⊢
  refine lv_if_eq (tgt := 16) hx hb dX12_best_5 (by decide) (fun c29201 => ?_) (fun c29201 => ?_)
  · skip
    have t29202 := cv_eq (a := r29200.toInt) rfl (b := 0) (by decide) c29201
    refine lv_iconst (v := (-1)) hx hb dX12_best_16 (by decide) ?_
    have hP9 : va_P (dC, dI) classes (wM g c v F rc) H := hP
    exact W.iret (v := (-1)) hx hb hr (fun t ht hW => ⟨⟨(-1), (v, F, rc), rfl, ⟨hI, rfl, (fun _ _ => rfl), hF, trivial⟩, (by show va_P _ _ _ t.heap; rw [ht]; exact hP9)⟩, hS.F ht⟩) hS.2.2 dX12_best_17
  · skip
    have t29203 := cv_ne (a := r29200.toInt) rfl (b := 0) (by decide) c29201
    refine lv_aload_n hx hb dX12_best_8 rfl (lv_at hl 0 rfl) ?_
    refine lv_iload_n hx hb dX12_best_9 rfl (lv_at hl 2 rfl) ?_
    have t29204 : 0 ≤ (v 2).toInt ∧ (v 2).toInt ≤ 10 := hI.1 2 _ _ rfl
    refine va_calli (va_runV (As := [.int p1]) (rest := []) ⟨hx, hb, hml, hown, hwd⟩ (c_X12_isKind l dC dI g c adK adV v F rc H.size p1 hg hI ) (cwV 1 hwd (gV wk_309 wk_306 wk_307 wk_308 wk_5) rfl rfl rfl (by decide +kernel) ⟨Nat.le_of_ble_eq_true rfl, Nat.le_of_ble_eq_true rfl⟩) ⟨PM.blind, va_recv hK hP (ci := 12) (q0 := 0) rfl rfl, fun U hU hW => ⟨rfl, PM.at hK hE hP hS hU hW⟩⟩ rfl rfl hl.1 rfl (lv_room (Nat.le_of_ble_eq_true rfl)) dX12_best_10 ⟨Nat.le_of_ble_eq_true rfl, Nat.le_of_ble_eq_true rfl⟩) hS (fun q _ h => (freeM hS) q h) (freeM hS) (fun r29205 u t H1 locs ht hvm hw hB hz1 hk1 hS => ?_)
    unfold BM at hB
    rw [ht] at hB
    have hP : va_P (dC, dI) classes (wM g c v F rc) H1 := hB
    have hw : (r29205.toInt = 1 ∧ 0 ≤ p1.toInt ∧ p1.toInt < (v 2).toInt) ∨ (r29205.toInt = 0 ∧ (p1.toInt < 0 ∨ (v 2).toInt ≤ p1.toInt)) := hw
    have hw_r29205 := hw
    generalize H1 = H at hP hS ⊢
    refine lv_if_ne (tgt := 18) hx hb dX12_best_13 (by decide) (fun c29206 => ?_) (fun c29206 => ?_)
    · skip
      have t29207 := cv_ne (a := r29205.toInt) rfl (b := 0) (by decide) c29206
      refine lv_aload_n hx hb dX12_best_18 rfl (lv_at hl 0 rfl) ?_
      refine lv_iload_n hx hb dX12_best_19 rfl (lv_at hl 1 rfl) ?_
      refine va_calli (va_runV (As := [.int p0]) (rest := []) ⟨hx, hb, hml, hown, hwd⟩ (c_X12_hasContract l dC dI g c adK adV v F rc H.size p0 hg hI (by omega)) (cwV 1 hwd (gV wk_1201 wk_1198 wk_1199 wk_1200 wk_5) rfl rfl rfl (by decide +kernel) ⟨Nat.le_of_ble_eq_true rfl, Nat.le_of_ble_eq_true rfl⟩) ⟨PM.blind, va_recv hK hP (ci := 12) (q0 := 0) rfl rfl, fun U hU hW => ⟨rfl, PM.at hK hE hP hS hU hW⟩⟩ rfl rfl hl.1 rfl (lv_room (Nat.le_of_ble_eq_true rfl)) dX12_best_20 ⟨Nat.le_of_ble_eq_true rfl, Nat.le_of_ble_eq_true rfl⟩) hS (fun q _ h => (freeM hS) q h) (freeM hS) (fun r29208 u t H1 locs ht hvm hw hB hz1 hk1 hS => ?_)
      unfold BM at hB
      rw [ht] at hB
      have hP : va_P (dC, dI) classes (wM g c v F rc) H1 := hB
      have hw : 0 ≤ r29208.toInt ∧ r29208.toInt ≤ 1 := hw
      have hw_r29208 := hw
      generalize H1 = H at hP hS ⊢
      refine lv_if_eq (tgt := 48) hx hb dX12_best_23 (by decide) (fun c29209 => ?_) (fun c29209 => ?_)
      · skip
        have t29210 := cv_eq (a := r29208.toInt) rfl (b := 0) (by decide) c29209
        refine lv_bipush (v := (-2)) hx hb dX12_best_48 (by decide) ?_
        have hP9 : va_P (dC, dI) classes (wM g c v F rc) H := hP
        exact W.iret (v := (-2)) hx hb hr (fun t ht hW => ⟨⟨(-2), (v, F, rc), rfl, ⟨hI, rfl, (fun _ _ => rfl), hF, trivial⟩, (by show va_P _ _ _ t.heap; rw [ht]; exact hP9)⟩, hS.F ht⟩) hS.2.2 dX12_best_50
      · skip
        have t29211 := cv_ne (a := r29208.toInt) rfl (b := 0) (by decide) c29209
        refine lv_aload_n hx hb dX12_best_26 rfl (lv_at hl 0 rfl) ?_
        refine lv_iload_n hx hb dX12_best_27 rfl (lv_at hl 1 rfl) ?_
        refine va_calli (va_runV (As := [.int p0]) (rest := []) ⟨hx, hb, hml, hown, hwd⟩ (c_X12_isReturned l dC dI g c adK adV v F rc H.size p0 hg hI (by omega)) (cwV 1 hwd (gV wk_313 wk_310 wk_311 wk_312 wk_5) rfl rfl rfl (by decide +kernel) ⟨Nat.le_of_ble_eq_true rfl, Nat.le_of_ble_eq_true rfl⟩) ⟨PM.blind, va_recv hK hP (ci := 12) (q0 := 0) rfl rfl, fun U hU hW => ⟨rfl, PM.at hK hE hP hS hU hW⟩⟩ rfl rfl hl.1 rfl (lv_room (Nat.le_of_ble_eq_true rfl)) dX12_best_28 ⟨Nat.le_of_ble_eq_true rfl, Nat.le_of_ble_eq_true rfl⟩) hS (fun q _ h => (freeM hS) q h) (freeM hS) (fun r29212 u t H1 locs ht hvm hw hB hz1 hk1 hS => ?_)
        unfold BM at hB
        rw [ht] at hB
        have hP : va_P (dC, dI) classes (wM g c v F rc) H1 := hB
        have hw : 0 ≤ r29212.toInt ∧ r29212.toInt ≤ 1 := hw
        have hw_r29212 := hw
        generalize H1 = H at hP hS ⊢
        refine lv_if_ne (tgt := 48) hx hb dX12_best_31 (by decide) (fun c29213 => ?_) (fun c29213 => ?_)
        · skip
          have t29214 := cv_ne (a := r29212.toInt) rfl (b := 0) (by decide) c29213
          refine lv_bipush (v := (-2)) hx hb dX12_best_48 (by decide) ?_
          have hP9 : va_P (dC, dI) classes (wM g c v F rc) H := hP
          exact W.iret (v := (-2)) hx hb hr (fun t ht hW => ⟨⟨(-2), (v, F, rc), rfl, ⟨hI, rfl, (fun _ _ => rfl), hF, trivial⟩, (by show va_P _ _ _ t.heap; rw [ht]; exact hP9)⟩, hS.F ht⟩) hS.2.2 dX12_best_50
        · skip
          have t29215 := cv_eq (a := r29212.toInt) rfl (b := 0) (by decide) c29213
          refine lv_aload_n hx hb dX12_best_34 rfl (lv_at hl 0 rfl) ?_
          refine va_get (D := (dC, dI)) (ci := 12) (v := .ref (g 9)) (C := RX12) (T := TX12) (N := 63) hx hb hwd inA_X12 hown hK hP 0 rfl rfl 12 (by decide) (hwd _ wk_190) (fun _ h9 => h9) rfl dX12_best_35 ?_
          refine lv_bipush (v := 10) hx hb dX12_best_38 (by decide) ?_
          refine lv_iload_n hx hb dX12_best_40 rfl (lv_at hl 1 rfl) ?_
          refine lv_imul hx hb dX12_best_41 ?_
          refine lv_topi (fun z29216 e29217 => ?_)
          try (have t29218 := tmul e29217 (a := 10) (by decide) (b := p0.toInt) rfl (by omega))
          refine lv_iload_n hx hb dX12_best_42 rfl (lv_at hl 2 rfl) ?_
          refine lv_iadd hx hb dX12_best_43 ?_
          refine lv_topi (fun z29219 e29220 => ?_)
          try (have t29221 := tadd e29220 (a := z29216.toInt) rfl (b := p1.toInt) rfl (by omega))
          refine va_iald hx hb hK hP 9 8 rfl rfl (i := z29219) (vin (a := z29219.toInt) rfl (by omega)) dX12_best_44 ?_
          refine lv_topi (fun z29222 e29223 => ?_)
          refine lv_if_ne (tgt := 51) hx hb dX12_best_45 (by decide) (fun c29224 => ?_) (fun c29224 => ?_)
          · skip
            have t29225 := cv_ne (a := z29222.toInt) rfl (b := 0) (by decide) c29224
            refine lv_iconst (v := 0) hx hb dX12_best_51 (by decide) ?_
            refine lv_istore_n (lv' := [(3, .int 0), (0, .ref (g 0)), (1, .int p0), (2, .int p1)]) hx hb dX12_best_52 rfl hl (by decide) rfl (fun ls hl => ?_)
            refine lv_iconst (v := 0) hx hb dX12_best_53 (by decide) ?_
            refine lv_istore (lv' := [(4, .int 0), (3, .int 0), (0, .ref (g 0)), (1, .int p0), (2, .int p1)]) hx hb dX12_best_54 hl (by decide) rfl (fun ls hl => ?_)
            refine lv_iconst (v := 0) hx hb dX12_best_56 (by decide) ?_
            refine lv_istore (lv' := [(5, .int 0), (4, .int 0), (3, .int 0), (0, .ref (g 0)), (1, .int p0), (2, .int p1)]) hx hb dX12_best_57 hl (by decide) rfl (fun ls hl => ?_)
            have lp29226 : ∀ (n : Nat) (x5_lp29226 : Int32) (x4_lp29226 : Int32) (x3_lp29226 : Int32) (v_lp29226 : Nat → Int32) (F_lp29226 : Nat → Nat → Int32) (H : Heap) (locs : List Loc) (ls : Array Slot), (0 ≤ x5_lp29226.toInt) → (0 ≤ x3_lp29226.toInt) → (x3_lp29226.toInt ≤ 8) → (2147483648 - x5_lp29226.toInt ≤ (n : Int)) → (∀ k, k ∉ ([] : List Nat) → v_lp29226 k = v k) → IM v_lp29226 F_lp29226 → (∀ k, k ∉ ([30, 31, 42, 43] : List Nat) → F_lp29226 k = F k) → va_P (dC, dI) classes (wM g c v_lp29226 F_lp29226 rc) H → va_S (AM g s.heap.size) s.heap H locs → lv_has ls 12 [(5, .int x5_lp29226), (4, .int x4_lp29226), (3, .int x3_lp29226), (0, .ref (g 0)), (1, .int p0), (2, .int p1)] → W p l e (headSpec (Cond.code yX12_best cX12_best 12 (some .int) :: wA) ({ frames := 8, cells := 0, slots := 0, locals := 320 })).room s m ([.ref (g 0), .int p0, .int p1] : List Value).toArray below meth c0 H locs 0 0 (MQ below (va_Qi (fun (r : Int32) (u : StM) => IM u.1 u.2.1 ∧ u.2.2 = rc ∧ (∀ k, k ∉ ([57, 58] : List Nat) → u.1 k = v k) ∧ (∀ k, k ∉ ([30, 31, 42, 43] : List Nat) → u.2.1 k = F k) ∧ True) (BM dC dI g c) (AM g s.heap.size)) ([.ref (g 0), .int p0, .int p1] : List Value).toArray s 0 0 (AM g s.heap.size)) (F0 m 59 ls []) := by
              intro n
              induction n with
              | zero =>
                intro x5_lp29226 x4_lp29226 x3_lp29226 v_lp29226 F_lp29226 H locs ls t29227 t29228 t29229 hm hf_lp29226 hI hF hP hS hl
                exfalso
                have := i32_rng x5_lp29226
                have := i32_rng x4_lp29226
                have := i32_rng x3_lp29226
                have hI1 := hI.1
                omega
              | succ n ih_lp29226 =>
                intro x5_lp29226 x4_lp29226 x3_lp29226 v_lp29226 F_lp29226 H locs ls t29227 t29228 t29229 hm hf_lp29226 hI hF hP hS hl
                have rx5_lp29226 := i32_rng x5_lp29226
                have rx4_lp29226 := i32_rng x4_lp29226
                have rx3_lp29226 := i32_rng x3_lp29226
                refine lv_iload hx hb dX12_best_59 (lv_at hl 0 rfl) ?_
                refine lv_aload_n hx hb dX12_best_61 rfl (lv_at hl 3 rfl) ?_
                refine va_get (D := (dC, dI)) (ci := 12) (v := .int (v_lp29226 14)) (C := RX12) (T := TX12) (N := 63) hx hb hwd inA_X12 hown hK hP 0 rfl rfl 14 (by decide) (hwd _ wk_318) (fun _ h9 => h9) rfl dX12_best_62 ?_
                refine my_top (v := v 14) (hf_lp29226 14 (by decide)) ?_
                have t29230 : 0 ≤ (v 14).toInt ∧ (v 14).toInt ≤ 100 := by have h9 := hI.1 14 _ _ rfl; rw [show v_lp29226 14 = v 14 from hf_lp29226 14 (by decide)] at h9; exact h9
                refine lv_icmp_ge (tgt := 154) hx hb dX12_best_65 (by decide) (fun c29231 => ?_) (fun c29231 => ?_)
                · skip
                  have t29232 := cv_le (a := (v 14).toInt) rfl (b := x5_lp29226.toInt) rfl c29231
                  refine lv_aload_n hx hb dX12_best_154 rfl (lv_at hl 3 rfl) ?_
                  refine va_get (D := (dC, dI)) (ci := 12) (v := .ref (g 9)) (C := RX12) (T := TX12) (N := 63) hx hb hwd inA_X12 hown hK hP 0 rfl rfl 12 (by decide) (hwd _ wk_190) (fun _ h9 => h9) rfl dX12_best_155 ?_
                  refine lv_bipush (v := 10) hx hb dX12_best_158 (by decide) ?_
                  refine lv_iload_n hx hb dX12_best_160 rfl (lv_at hl 4 rfl) ?_
                  refine lv_imul hx hb dX12_best_161 ?_
                  refine lv_topi (fun z29233 e29234 => ?_)
                  try (have t29235 := tmul e29234 (a := 10) (by decide) (b := p0.toInt) rfl (by omega))
                  refine lv_iload_n hx hb dX12_best_162 rfl (lv_at hl 5 rfl) ?_
                  refine lv_iadd hx hb dX12_best_163 ?_
                  refine lv_topi (fun z29236 e29237 => ?_)
                  try (have t29238 := tadd e29237 (a := z29233.toInt) rfl (b := p1.toInt) rfl (by omega))
                  refine va_iald hx hb hK hP 9 8 rfl rfl (i := z29236) (vin (a := z29236.toInt) rfl (by omega)) dX12_best_164 ?_
                  refine lv_topi (fun z29239 e29240 => ?_)
                  have e29240 : z29239 = F 9 (z29236 : Int32).toNatClampNeg := e29240.trans (congrFun (hF 9 (by decide)) _)
                  refine lv_iload_n hx hb dX12_best_165 rfl (lv_at hl 2 rfl) ?_
                  refine lv_icmp_ge (tgt := 183) hx hb dX12_best_166 (by decide) (fun c29241 => ?_) (fun c29241 => ?_)
                  · skip
                    have t29242 := cv_le (a := x3_lp29226.toInt) rfl (b := z29239.toInt) rfl c29241
                    refine lv_iload_n hx hb dX12_best_183 rfl (lv_at hl 2 rfl) ?_
                    refine lv_istore (lv' := [(5, .int x3_lp29226), (4, .int x4_lp29226), (3, .int x3_lp29226), (0, .ref (g 0)), (1, .int p0), (2, .int p1)]) hx hb dX12_best_184 hl (by decide) rfl (fun ls hl => ?_)
                    refine lv_aload_n hx hb dX12_best_186 rfl (lv_at hl 3 rfl) ?_
                    refine lv_iload_n hx hb dX12_best_187 rfl (lv_at hl 4 rfl) ?_
                    have t29243 : 0 ≤ (v 14).toInt ∧ (v 14).toInt ≤ 100 := by have h9 := hI.1 14 _ _ rfl; rw [show v_lp29226 14 = v 14 from hf_lp29226 14 (by decide)] at h9; exact h9
                    refine va_callv (va_runV (As := [.int p0]) (rest := []) ⟨hx, hb, hml, hown, hwd⟩ (c_X12_board l dC dI g c adK adV v_lp29226 F_lp29226 rc H.size p0 hg hI ) (cwV 1 hwd (gV wk_1205 wk_1202 wk_1203 wk_1204 wk_5) rfl rfl rfl (by decide +kernel) ⟨Nat.le_of_ble_eq_true rfl, Nat.le_of_ble_eq_true rfl⟩) ⟨PM.blind, va_recv hK hP (ci := 12) (q0 := 0) rfl rfl, fun U hU hW => ⟨rfl, PM.at hK hE hP hS hU hW⟩⟩ rfl rfl hl.1 rfl (lv_room (Nat.le_of_ble_eq_true rfl)) dX12_best_188 ⟨Nat.le_of_ble_eq_true rfl, Nat.le_of_ble_eq_true rfl⟩) hS (fun q _ h => (freeM hS) q h) (freeM hS) (fun u t H1 locs ht hvm hw hB hz1 hk1 hS => ?_)
                    unfold BM at hB
                    rw [ht] at hB
                    obtain ⟨v29245, F29246, rc9⟩ := u
                    obtain ⟨hI, hrc, hf29247, hG29248, hw⟩ := hw
                    dsimp only at hI hrc hB hf29247 hG29248 hw
                    have hF := frCF (by decide) hG29248 hF
                    rw [hrc] at hB
                    have hP : va_P (dC, dI) classes (wM g c v29245 F29246 rc) H1 := hB
                    have hw : ∀ j : Nat, (j : Int) < (v_lp29226 14).toInt → (F29246 42 j).toInt ≠ 0 → (F_lp29226 13 j).toInt = p0.toInt := hw
                    rw [show v_lp29226 14 = v 14 from hf_lp29226 14 (by decide)] at hw
                    have hw_r29244 := hw
                    generalize H1 = H at hP hS ⊢
                    refine lv_iconst (v := (-1)) hx hb dX12_best_191 (by decide) ?_
                    refine lv_istore (lv' := [(6, .int (-1)), (5, .int x3_lp29226), (4, .int x4_lp29226), (3, .int x3_lp29226), (0, .ref (g 0)), (1, .int p0), (2, .int p1)]) hx hb dX12_best_192 hl (by decide) rfl (fun ls hl => ?_)
                    refine lv_iconst (v := 0) hx hb dX12_best_194 (by decide) ?_
                    refine lv_istore (lv' := [(7, .int 0), (6, .int (-1)), (5, .int x3_lp29226), (4, .int x4_lp29226), (3, .int x3_lp29226), (0, .ref (g 0)), (1, .int p0), (2, .int p1)]) hx hb dX12_best_195 hl (by decide) rfl (fun ls hl => ?_)
                    refine lv_iconst (v := 0) hx hb dX12_best_197 (by decide) ?_
                    refine lv_istore (lv' := [(8, .int 0), (7, .int 0), (6, .int (-1)), (5, .int x3_lp29226), (4, .int x4_lp29226), (3, .int x3_lp29226), (0, .ref (g 0)), (1, .int p0), (2, .int p1)]) hx hb dX12_best_198 hl (by decide) rfl (fun ls hl => ?_)
                    have lp29249 : ∀ (n : Nat) (x8_lp29249 : Int32) (x7_lp29249 : Int32) (x6_lp29249 : Int32) (v_lp29249 : Nat → Int32) (F_lp29249 : Nat → Nat → Int32) (H : Heap) (locs : List Loc) (ls : Array Slot), (0 ≤ x8_lp29249.toInt) → (2147483648 - x8_lp29249.toInt ≤ (n : Int)) → (∀ k, k ∉ ([] : List Nat) → v_lp29249 k = v29245 k) → IM v_lp29249 F_lp29249 → (∀ k, k ∉ ([30, 31, 42, 43] : List Nat) → F_lp29249 k = F k) → va_P (dC, dI) classes (wM g c v_lp29249 F_lp29249 rc) H → va_S (AM g s.heap.size) s.heap H locs → lv_has ls 12 [(8, .int x8_lp29249), (7, .int x7_lp29249), (6, .int x6_lp29249), (5, .int x3_lp29226), (4, .int x4_lp29226), (3, .int x3_lp29226), (0, .ref (g 0)), (1, .int p0), (2, .int p1)] → W p l e (headSpec (Cond.code yX12_best cX12_best 12 (some .int) :: wA) ({ frames := 8, cells := 0, slots := 0, locals := 320 })).room s m ([.ref (g 0), .int p0, .int p1] : List Value).toArray below meth c0 H locs 0 0 (MQ below (va_Qi (fun (r : Int32) (u : StM) => IM u.1 u.2.1 ∧ u.2.2 = rc ∧ (∀ k, k ∉ ([57, 58] : List Nat) → u.1 k = v k) ∧ (∀ k, k ∉ ([30, 31, 42, 43] : List Nat) → u.2.1 k = F k) ∧ True) (BM dC dI g c) (AM g s.heap.size)) ([.ref (g 0), .int p0, .int p1] : List Value).toArray s 0 0 (AM g s.heap.size)) (F0 m 200 ls []) := by
                      intro n
                      induction n with
                      | zero =>
                        intro x8_lp29249 x7_lp29249 x6_lp29249 v_lp29249 F_lp29249 H locs ls t29250 hm hf_lp29249 hI hF hP hS hl
                        exfalso
                        have := i32_rng x8_lp29249
                        have := i32_rng x7_lp29249
                        have := i32_rng x6_lp29249
                        have hI1 := hI.1
                        omega
                      | succ n ih_lp29249 =>
                        intro x8_lp29249 x7_lp29249 x6_lp29249 v_lp29249 F_lp29249 H locs ls t29250 hm hf_lp29249 hI hF hP hS hl
                        have rx8_lp29249 := i32_rng x8_lp29249
                        have rx7_lp29249 := i32_rng x7_lp29249
                        have rx6_lp29249 := i32_rng x6_lp29249
                        refine lv_iload hx hb dX12_best_200 (lv_at hl 0 rfl) ?_
                        refine lv_iconst (v := 1) hx hb dX12_best_202 (by decide) ?_
                        refine lv_iload_n hx hb dX12_best_203 rfl (lv_at hl 5 rfl) ?_
                        refine lv_ishl hx hb dX12_best_204 ?_
                        refine lv_topi (fun z29251 e29252 => ?_)
                        have rr_z29251 := i32_rng z29251
                        refine lv_icmp_ge (tgt := 367) hx hb dX12_best_205 (by decide) (fun c29254 => ?_) (fun c29254 => ?_)
                        · skip
                          have t29255 := cv_le (a := z29251.toInt) rfl (b := x8_lp29249.toInt) rfl c29254
                          refine lv_aload_n hx hb dX12_best_367 rfl (lv_at hl 6 rfl) ?_
                          refine lv_iconst (v := 1) hx hb dX12_best_368 (by decide) ?_
                          refine va_put (D := (dC, dI)) (ci := 12) (v := .int 1) (ty := .boolean) (C := RX12) (T := TX12) (N := 63) (fs := fsM_0 g v_lp29249 rc) hx hb hwd inA_X12 tyX12 tyX12_ok nmX12 hown hK hP (DM hg) hS 0 rfl rfl 57 (by decide) (hwd _ wk_1304) (fun _ h9 => h9) rfl (by decide +kernel) rfl rfl (Nat.le_of_ble_eq_true rfl) dX12_best_369 (fun H locs hP _ hS => ?_)
                          have hP := va_P_eq (pM_57 g c _ _ _ _) hP
                          have hI := IM.put0 hI 57 1 rfl
                          refine lv_aload_n hx hb dX12_best_372 rfl (lv_at hl 6 rfl) ?_
                          refine lv_iload hx hb dX12_best_373 (lv_at hl 1 rfl) ?_
                          refine va_put (D := (dC, dI)) (ci := 12) (v := .int x7_lp29249) (ty := .int) (C := RX12) (T := TX12) (N := 63) (fs := fsM_0 g (va_up v_lp29249 57 1) rc) hx hb hwd inA_X12 tyX12 tyX12_ok nmX12 hown hK hP (DM hg) hS 0 rfl rfl 58 (by decide) (hwd _ wk_1305) (fun _ h9 => h9) rfl (by decide +kernel) rfl rfl (Nat.le_of_ble_eq_true rfl) dX12_best_375 (fun H locs hP _ hS => ?_)
                          have hP := va_P_eq (pM_58 g c _ _ _ _) hP
                          have hI := IM.put0 hI 58 x7_lp29249 rfl
                          refine lv_iload hx hb dX12_best_378 (lv_at hl 2 rfl) ?_
                          have hP9 : va_P (dC, dI) classes (wM g c (va_up (va_up v_lp29249 57 1) 58 x7_lp29249) F_lp29249 rc) H := hP
                          exact W.iret (v := x6_lp29249) hx hb hr (fun t ht hW => ⟨⟨x6_lp29249, ((va_up (va_up v_lp29249 57 1) 58 x7_lp29249), F_lp29249, rc), rfl, ⟨hI, rfl, (frU (by decide) (frU (by decide) (frC (by decide) hf_lp29249 (frC (by decide) hf29247 (frC (by decide) hf_lp29226 (fun _ _ => rfl)))))), hF, trivial⟩, (by show va_P _ _ _ t.heap; rw [ht]; exact hP9)⟩, hS.F ht⟩) hS.2.2 dX12_best_380
                        · skip
                          have t29256 := cv_nle (a := z29251.toInt) rfl (b := x8_lp29249.toInt) rfl c29254
                          refine lv_iload hx hb dX12_best_208 (lv_at hl 0 rfl) ?_
                          refine va_calli (va_runS (As := [.int x8_lp29249]) (rest := []) ⟨hx, hb, hml, hown, hwd⟩ (c_X12_bitsOf l dC dI g c adK adV v_lp29249 F_lp29249 rc H.size x8_lp29249 hg hI ) (va_cwS 1 hwd (gT wk_1308 wk_1306 wk_1307 wk_5) rfl rfl rfl (by decide +kernel) ⟨Nat.le_of_ble_eq_true rfl, Nat.le_of_ble_eq_true rfl⟩) ⟨PM.blind, fun U hU hW => ⟨rfl, PM.at hK hE hP hS hU hW⟩⟩ rfl rfl hl.1 rfl (lv_room (Nat.le_of_ble_eq_true rfl)) dX12_best_210 ⟨Nat.le_of_ble_eq_true rfl, Nat.le_of_ble_eq_true rfl⟩) hS (fun q _ h => (freeM hS) q h) (freeM hS) (fun r29257 u t H1 locs ht hvm hw hB hz1 hk1 hS => ?_)
                          unfold BM at hB
                          rw [ht] at hB
                          have hP : va_P (dC, dI) classes (wM g c v_lp29249 F_lp29249 rc) H1 := hB
                          generalize H1 = H at hP hS ⊢
                          have rr_r29257 := i32_rng r29257
                          refine lv_iload hx hb dX12_best_213 (lv_at hl 3 rfl) ?_
                          refine lv_icmp_eq (tgt := 221) hx hb dX12_best_215 (by decide) (fun c29258 => ?_) (fun c29258 => ?_)
                          · skip
                            have t29259 := cv_eq (a := r29257.toInt) rfl (b := x3_lp29226.toInt) rfl c29258
                            refine lv_iconst (v := 0) hx hb dX12_best_221 (by decide) ?_
                            refine lv_istore (lv' := [(9, .int 0), (8, .int x8_lp29249), (7, .int x7_lp29249), (6, .int x6_lp29249), (5, .int x3_lp29226), (4, .int x4_lp29226), (3, .int x3_lp29226), (0, .ref (g 0)), (1, .int p0), (2, .int p1)]) hx hb dX12_best_222 hl (by decide) rfl (fun ls hl => ?_)
                            have lp29260 : ∀ (n : Nat) (x9_lp29260 : Int32) (v_lp29260 : Nat → Int32) (F_lp29260 : Nat → Nat → Int32) (H : Heap) (locs : List Loc) (ls : Array Slot), (0 ≤ x9_lp29260.toInt) → (2147483648 - x9_lp29260.toInt ≤ (n : Int)) → (∀ k, k ∉ ([] : List Nat) → v_lp29260 k = v_lp29249 k) → IM v_lp29260 F_lp29260 → (∀ k, k ∉ ([30, 31, 42, 43] : List Nat) → F_lp29260 k = F k) → va_P (dC, dI) classes (wM g c v_lp29260 F_lp29260 rc) H → va_S (AM g s.heap.size) s.heap H locs → lv_has ls 12 [(9, .int x9_lp29260), (8, .int x8_lp29249), (7, .int x7_lp29249), (6, .int x6_lp29249), (5, .int x3_lp29226), (4, .int x4_lp29226), (3, .int x3_lp29226), (0, .ref (g 0)), (1, .int p0), (2, .int p1)] → W p l e (headSpec (Cond.code yX12_best cX12_best 12 (some .int) :: wA) ({ frames := 8, cells := 0, slots := 0, locals := 320 })).room s m ([.ref (g 0), .int p0, .int p1] : List Value).toArray below meth c0 H locs 0 0 (MQ below (va_Qi (fun (r : Int32) (u : StM) => IM u.1 u.2.1 ∧ u.2.2 = rc ∧ (∀ k, k ∉ ([57, 58] : List Nat) → u.1 k = v k) ∧ (∀ k, k ∉ ([30, 31, 42, 43] : List Nat) → u.2.1 k = F k) ∧ True) (BM dC dI g c) (AM g s.heap.size)) ([.ref (g 0), .int p0, .int p1] : List Value).toArray s 0 0 (AM g s.heap.size)) (F0 m 224 ls []) := by
                              intro n
                              induction n with
                              | zero =>
                                intro x9_lp29260 v_lp29260 F_lp29260 H locs ls t29261 hm hf_lp29260 hI hF hP hS hl
                                exfalso
                                have := i32_rng x9_lp29260
                                have hI1 := hI.1
                                omega
                              | succ n ih_lp29260 =>
                                intro x9_lp29260 v_lp29260 F_lp29260 H locs ls t29261 hm hf_lp29260 hI hF hP hS hl
                                have rx9_lp29260 := i32_rng x9_lp29260
                                refine lv_iload hx hb dX12_best_224 (lv_at hl 0 rfl) ?_
                                refine lv_iload_n hx hb dX12_best_226 rfl (lv_at hl 6 rfl) ?_
                                refine lv_icmp_ge (tgt := 264) hx hb dX12_best_227 (by decide) (fun c29262 => ?_) (fun c29262 => ?_)
                                · skip
                                  have t29263 := cv_le (a := x3_lp29226.toInt) rfl (b := x9_lp29260.toInt) rfl c29262
                                  refine lv_aload_n hx hb dX12_best_264 rfl (lv_at hl 7 rfl) ?_
                                  refine lv_iload_n hx hb dX12_best_265 rfl (lv_at hl 8 rfl) ?_
                                  refine lv_aload_n hx hb dX12_best_266 rfl (lv_at hl 7 rfl) ?_
                                  refine va_get (D := (dC, dI)) (ci := 12) (v := .int (v_lp29260 1)) (C := RX12) (T := TX12) (N := 63) hx hb hwd inA_X12 hown hK hP 0 rfl rfl 1 (by decide) (hwd _ wk_332) (fun _ h9 => h9) rfl dX12_best_267 ?_
                                  refine my_top (v := v 1) ((hf_lp29260 1 (by decide)).trans ((hf_lp29249 1 (by decide)).trans ((hf29247 1 (by decide)).trans (hf_lp29226 1 (by decide))))) ?_
                                  have t29264 : 0 ≤ (v 1).toInt ∧ (v 1).toInt ≤ 9999 := by have h9 := hI.1 1 _ _ rfl; rw [show v_lp29260 1 = v 1 from (hf_lp29260 1 (by decide)).trans ((hf_lp29249 1 (by decide)).trans ((hf29247 1 (by decide)).trans (hf_lp29226 1 (by decide))))] at h9; exact h9
                                  refine lv_aload_n hx hb dX12_best_270 rfl (lv_at hl 7 rfl) ?_
                                  refine va_get (D := (dC, dI)) (ci := 12) (v := .int (v_lp29260 1)) (C := RX12) (T := TX12) (N := 63) hx hb hwd inA_X12 hown hK hP 0 rfl rfl 1 (by decide) (hwd _ wk_332) (fun _ h9 => h9) rfl dX12_best_271 ?_
                                  refine my_top (v := v 1) ((hf_lp29260 1 (by decide)).trans ((hf_lp29249 1 (by decide)).trans ((hf29247 1 (by decide)).trans (hf_lp29226 1 (by decide))))) ?_
                                  have t29265 : 0 ≤ (v 1).toInt ∧ (v 1).toInt ≤ 9999 := by have h9 := hI.1 1 _ _ rfl; rw [show v_lp29260 1 = v 1 from (hf_lp29260 1 (by decide)).trans ((hf_lp29249 1 (by decide)).trans ((hf29247 1 (by decide)).trans (hf_lp29226 1 (by decide))))] at h9; exact h9
                                  refine va_calli (va_runV (As := [.int p0, .int (v 1), .int (v 1)]) (rest := []) ⟨hx, hb, hml, hown, hwd⟩ (c_X12_costOfAll l dC dI g c adK adV v_lp29260 F_lp29260 rc H.size p0 (v 1) (v 1) hg hI (by omega) (JL.to hL (show v_lp29260 31 = v 31 from (hf_lp29260 31 (by decide)).trans ((hf_lp29249 31 (by decide)).trans ((hf29247 31 (by decide)).trans (hf_lp29226 31 (by decide))))) (hF 28 (by decide)) (hF 29 (by decide)) (hF 27 (by decide)))) (cwV 3 hwd (gV wk_1247 wk_1244 wk_1245 wk_1246 wk_5) rfl rfl rfl (by decide +kernel) ⟨Nat.le_of_ble_eq_true rfl, Nat.le_of_ble_eq_true rfl⟩) ⟨PM.blind, va_recv hK hP (ci := 12) (q0 := 0) rfl rfl, fun U hU hW => ⟨rfl, PM.at hK hE hP hS hU hW⟩⟩ rfl rfl hl.1 rfl (lv_room (Nat.le_of_ble_eq_true rfl)) dX12_best_274 ⟨Nat.le_of_ble_eq_true rfl, Nat.le_of_ble_eq_true rfl⟩) hS (fun q _ h => (freeM hS) q h) (freeM hS) (fun r29266 u t H1 locs ht hvm hw hB hz1 hk1 hS => ?_)
                                  unfold BM at hB
                                  rw [ht] at hB
                                  obtain ⟨v29267, F29268, rc9⟩ := u
                                  obtain ⟨hI, hrc, hf29269, hG29270, hw⟩ := hw
                                  dsimp only at hI hrc hB hf29269 hG29270 hw
                                  have hF := frCF (by decide) hG29270 hF
                                  rw [hrc] at hB
                                  have hP : va_P (dC, dI) classes (wM g c v29267 F29268 rc) H1 := hB
                                  generalize H1 = H at hP hS ⊢
                                  have rr_r29266 := i32_rng r29266
                                  refine lv_istore (lv' := [(9, .int r29266), (8, .int x8_lp29249), (7, .int x7_lp29249), (6, .int x6_lp29249), (5, .int x3_lp29226), (4, .int x4_lp29226), (3, .int x3_lp29226), (0, .ref (g 0)), (1, .int p0), (2, .int p1)]) hx hb dX12_best_277 hl (by decide) rfl (fun ls hl => ?_)
                                  refine lv_iload hx hb dX12_best_279 (lv_at hl 3 rfl) ?_
                                  refine lv_if_lt (tgt := 353) hx hb dX12_best_281 (by decide) (fun c29271 => ?_) (fun c29271 => ?_)
                                  · skip
                                    have t29272 := cv_lt (a := x6_lp29249.toInt) rfl (b := 0) (by decide) c29271
                                    refine lv_iload hx hb dX12_best_353 (lv_at hl 1 rfl) ?_
                                    refine lv_istore (lv' := [(6, .int x8_lp29249), (9, .int r29266), (8, .int x8_lp29249), (7, .int x7_lp29249), (5, .int x3_lp29226), (4, .int x4_lp29226), (3, .int x3_lp29226), (0, .ref (g 0)), (1, .int p0), (2, .int p1)]) hx hb dX12_best_355 hl (by decide) rfl (fun ls hl => ?_)
                                    refine lv_iload hx hb dX12_best_357 (lv_at hl 1 rfl) ?_
                                    refine lv_istore (lv' := [(7, .int r29266), (6, .int x8_lp29249), (9, .int r29266), (8, .int x8_lp29249), (5, .int x3_lp29226), (4, .int x4_lp29226), (3, .int x3_lp29226), (0, .ref (g 0)), (1, .int p0), (2, .int p1)]) hx hb dX12_best_359 hl (by decide) rfl (fun ls hl => ?_)
                                    obtain ⟨z29273, e29274⟩ : ∃ y : Int32, y = x8_lp29249 + 1 := ⟨_, rfl⟩
                                    try (have t29275 := tadd e29274 rfl (b := 1) (by decide) (by omega))
                                    refine lv_iinc (v := z29273) (lv' := [(8, .int z29273), (7, .int r29266), (6, .int x8_lp29249), (9, .int r29266), (5, .int x3_lp29226), (4, .int x4_lp29226), (3, .int x3_lp29226), (0, .ref (g 0)), (1, .int p0), (2, .int p1)]) hx hb dX12_best_361 hl (k := 3) rfl (by rw [e29274]; rfl) (by decide) rfl (fun ls hl => ?_)
                                    refine lv_goto (tgt := 200) hx hb dX12_best_364 (by decide) ?_
                                    exact ih_lp29249 z29273 r29266 x8_lp29249 v29267 F29268 _ _ _ (by omega) (by omega) (frC (by decide) hf29269 (frC (by decide) hf_lp29260 hf_lp29249)) hI hF hP hS (lv_sub hl [0, 1, 2, 4, 5, 6, 7, 8, 9] rfl)
                                  · skip
                                    have t29276 := cv_nlt (a := x6_lp29249.toInt) rfl (b := 0) (by decide) c29271
                                    refine lv_iload hx hb dX12_best_284 (lv_at hl 1 rfl) ?_
                                    refine lv_iload hx hb dX12_best_286 (lv_at hl 5 rfl) ?_
                                    refine lv_iconst (v := (-1)) hx hb dX12_best_288 (by decide) ?_
                                    refine lv_ixor hx hb dX12_best_289 ?_
                                    refine lv_topi (fun z29277 e29278 => ?_)
                                    refine lv_iand hx hb dX12_best_290 ?_
                                    refine lv_topi (fun z29280 e29281 => ?_)
                                    refine va_calli (va_runS (As := [.int z29280]) (rest := []) ⟨hx, hb, hml, hown, hwd⟩ (c_X12_bitsOf l dC dI g c adK adV v29267 F29268 rc H.size z29280 hg hI ) (va_cwS 1 hwd (gT wk_1308 wk_1306 wk_1307 wk_5) rfl rfl rfl (by decide +kernel) ⟨Nat.le_of_ble_eq_true rfl, Nat.le_of_ble_eq_true rfl⟩) ⟨PM.blind, fun U hU hW => ⟨rfl, PM.at hK hE hP hS hU hW⟩⟩ rfl rfl hl.1 rfl (lv_room (Nat.le_of_ble_eq_true rfl)) dX12_best_291 ⟨Nat.le_of_ble_eq_true rfl, Nat.le_of_ble_eq_true rfl⟩) hS (fun q _ h => (freeM hS) q h) (freeM hS) (fun r29283 u t H1 locs ht hvm hw hB hz1 hk1 hS => ?_)
                                    unfold BM at hB
                                    rw [ht] at hB
                                    have hP : va_P (dC, dI) classes (wM g c v29267 F29268 rc) H1 := hB
                                    generalize H1 = H at hP hS ⊢
                                    have rr_r29283 := i32_rng r29283
                                    refine lv_iload hx hb dX12_best_294 (lv_at hl 3 rfl) ?_
                                    refine lv_iload hx hb dX12_best_296 (lv_at hl 5 rfl) ?_
                                    refine lv_iconst (v := (-1)) hx hb dX12_best_298 (by decide) ?_
                                    refine lv_ixor hx hb dX12_best_299 ?_
                                    refine lv_topi (fun z29284 e29285 => ?_)
                                    refine lv_iand hx hb dX12_best_300 ?_
                                    refine lv_topi (fun z29287 e29288 => ?_)
                                    refine va_calli (va_runS (As := [.int z29287]) (rest := [.int r29283]) ⟨hx, hb, hml, hown, hwd⟩ (c_X12_bitsOf l dC dI g c adK adV v29267 F29268 rc H.size z29287 hg hI ) (va_cwS 1 hwd (gT wk_1308 wk_1306 wk_1307 wk_5) rfl rfl rfl (by decide +kernel) ⟨Nat.le_of_ble_eq_true rfl, Nat.le_of_ble_eq_true rfl⟩) ⟨PM.blind, fun U hU hW => ⟨rfl, PM.at hK hE hP hS hU hW⟩⟩ rfl rfl hl.1 rfl (lv_room (Nat.le_of_ble_eq_true rfl)) dX12_best_301 ⟨Nat.le_of_ble_eq_true rfl, Nat.le_of_ble_eq_true rfl⟩) hS (fun q _ h => (freeM hS) q h) (freeM hS) (fun r29290 u t H1 locs ht hvm hw hB hz1 hk1 hS => ?_)
                                    unfold BM at hB
                                    rw [ht] at hB
                                    have hP : va_P (dC, dI) classes (wM g c v29267 F29268 rc) H1 := hB
                                    generalize H1 = H at hP hS ⊢
                                    have rr_r29290 := i32_rng r29290
                                    refine lv_isub hx hb dX12_best_304 ?_
                                    refine lv_topi (fun z29291 e29292 => ?_)
                                    try (have t29293 := tsub e29292 (a := r29283.toInt) rfl (b := r29290.toInt) rfl (by omega))
                                    refine lv_istore (lv' := [(10, .int z29291), (9, .int r29266), (8, .int x8_lp29249), (7, .int x7_lp29249), (6, .int x6_lp29249), (5, .int x3_lp29226), (4, .int x4_lp29226), (3, .int x3_lp29226), (0, .ref (g 0)), (1, .int p0), (2, .int p1)]) hx hb dX12_best_305 hl (by decide) rfl (fun ls hl => ?_)
                                    refine lv_iload hx hb dX12_best_307 (lv_at hl 2 rfl) ?_
                                    refine lv_iload hx hb dX12_best_309 (lv_at hl 4 rfl) ?_
                                    refine lv_ixor hx hb dX12_best_311 ?_
                                    refine lv_topi (fun z29294 e29295 => ?_)
                                    refine lv_istore (lv' := [(11, .int z29294), (10, .int z29291), (9, .int r29266), (8, .int x8_lp29249), (7, .int x7_lp29249), (6, .int x6_lp29249), (5, .int x3_lp29226), (4, .int x4_lp29226), (3, .int x3_lp29226), (0, .ref (g 0)), (1, .int p0), (2, .int p1)]) hx hb dX12_best_312 hl (by decide) rfl (fun ls hl => ?_)
                                    refine lv_iload hx hb dX12_best_314 (lv_at hl 2 rfl) ?_
                                    refine lv_iload hx hb dX12_best_316 (lv_at hl 4 rfl) ?_
                                    refine lv_icmp_gt (tgt := 361) hx hb dX12_best_318 (by decide) (fun c29297 => ?_) (fun c29297 => ?_)
                                    · skip
                                      have t29298 := cv_lt (a := x7_lp29249.toInt) rfl (b := r29266.toInt) rfl c29297
                                      obtain ⟨z29299, e29300⟩ : ∃ y : Int32, y = x8_lp29249 + 1 := ⟨_, rfl⟩
                                      try (have t29301 := tadd e29300 rfl (b := 1) (by decide) (by omega))
                                      refine lv_iinc (v := z29299) (lv' := [(8, .int z29299), (11, .int z29294), (10, .int z29291), (9, .int r29266), (7, .int x7_lp29249), (6, .int x6_lp29249), (5, .int x3_lp29226), (4, .int x4_lp29226), (3, .int x3_lp29226), (0, .ref (g 0)), (1, .int p0), (2, .int p1)]) hx hb dX12_best_361 hl (k := 3) rfl (by rw [e29300]; rfl) (by decide) rfl (fun ls hl => ?_)
                                      refine lv_goto (tgt := 200) hx hb dX12_best_364 (by decide) ?_
                                      exact ih_lp29249 z29299 x7_lp29249 x6_lp29249 v29267 F29268 _ _ _ (by omega) (by omega) (frC (by decide) hf29269 (frC (by decide) hf_lp29260 hf_lp29249)) hI hF hP hS (lv_sub hl [0, 4, 5, 6, 7, 8, 9, 10, 11] rfl)
                                    · skip
                                      have t29302 := cv_nlt (a := x7_lp29249.toInt) rfl (b := r29266.toInt) rfl c29297
                                      refine lv_iload hx hb dX12_best_321 (lv_at hl 2 rfl) ?_
                                      refine lv_iload hx hb dX12_best_323 (lv_at hl 4 rfl) ?_
                                      refine lv_icmp_ne (tgt := 353) hx hb dX12_best_325 (by decide) (fun c29303 => ?_) (fun c29303 => ?_)
                                      · skip
                                        have t29304 := cv_ne (a := r29266.toInt) rfl (b := x7_lp29249.toInt) rfl c29303
                                        refine lv_iload hx hb dX12_best_353 (lv_at hl 3 rfl) ?_
                                        refine lv_istore (lv' := [(6, .int x8_lp29249), (11, .int z29294), (10, .int z29291), (9, .int r29266), (8, .int x8_lp29249), (7, .int x7_lp29249), (5, .int x3_lp29226), (4, .int x4_lp29226), (3, .int x3_lp29226), (0, .ref (g 0)), (1, .int p0), (2, .int p1)]) hx hb dX12_best_355 hl (by decide) rfl (fun ls hl => ?_)
                                        refine lv_iload hx hb dX12_best_357 (lv_at hl 3 rfl) ?_
                                        refine lv_istore (lv' := [(7, .int r29266), (6, .int x8_lp29249), (11, .int z29294), (10, .int z29291), (9, .int r29266), (8, .int x8_lp29249), (5, .int x3_lp29226), (4, .int x4_lp29226), (3, .int x3_lp29226), (0, .ref (g 0)), (1, .int p0), (2, .int p1)]) hx hb dX12_best_359 hl (by decide) rfl (fun ls hl => ?_)
                                        obtain ⟨z29305, e29306⟩ : ∃ y : Int32, y = x8_lp29249 + 1 := ⟨_, rfl⟩
                                        try (have t29307 := tadd e29306 rfl (b := 1) (by decide) (by omega))
                                        refine lv_iinc (v := z29305) (lv' := [(8, .int z29305), (7, .int r29266), (6, .int x8_lp29249), (11, .int z29294), (10, .int z29291), (9, .int r29266), (5, .int x3_lp29226), (4, .int x4_lp29226), (3, .int x3_lp29226), (0, .ref (g 0)), (1, .int p0), (2, .int p1)]) hx hb dX12_best_361 hl (k := 5) rfl (by rw [e29306]; rfl) (by decide) rfl (fun ls hl => ?_)
                                        refine lv_goto (tgt := 200) hx hb dX12_best_364 (by decide) ?_
                                        exact ih_lp29249 z29305 r29266 x8_lp29249 v29267 F29268 _ _ _ (by omega) (by omega) (frC (by decide) hf29269 (frC (by decide) hf_lp29260 hf_lp29249)) hI hF hP hS (lv_sub hl [0, 1, 2, 6, 7, 8, 9, 10, 11] rfl)
                                      · skip
                                        have t29308 := cv_eq (a := r29266.toInt) rfl (b := x7_lp29249.toInt) rfl c29303
                                        refine lv_iload hx hb dX12_best_328 (lv_at hl 1 rfl) ?_
                                        refine lv_if_gt (tgt := 361) hx hb dX12_best_330 (by decide) (fun c29309 => ?_) (fun c29309 => ?_)
                                        · skip
                                          have t29310 := cv_lt (a := 0) (by decide) (b := z29291.toInt) rfl c29309
                                          obtain ⟨z29311, e29312⟩ : ∃ y : Int32, y = x8_lp29249 + 1 := ⟨_, rfl⟩
                                          try (have t29313 := tadd e29312 rfl (b := 1) (by decide) (by omega))
                                          refine lv_iinc (v := z29311) (lv' := [(8, .int z29311), (11, .int z29294), (10, .int z29291), (9, .int r29266), (7, .int x7_lp29249), (6, .int x6_lp29249), (5, .int x3_lp29226), (4, .int x4_lp29226), (3, .int x3_lp29226), (0, .ref (g 0)), (1, .int p0), (2, .int p1)]) hx hb dX12_best_361 hl (k := 3) rfl (by rw [e29312]; rfl) (by decide) rfl (fun ls hl => ?_)
                                          refine lv_goto (tgt := 200) hx hb dX12_best_364 (by decide) ?_
                                          exact ih_lp29249 z29311 x7_lp29249 x6_lp29249 v29267 F29268 _ _ _ (by omega) (by omega) (frC (by decide) hf29269 (frC (by decide) hf_lp29260 hf_lp29249)) hI hF hP hS (lv_sub hl [0, 4, 5, 6, 7, 8, 9, 10, 11] rfl)
                                        · skip
                                          have t29314 := cv_nlt (a := 0) (by decide) (b := z29291.toInt) rfl c29309
                                          refine lv_iload hx hb dX12_best_333 (lv_at hl 1 rfl) ?_
                                          refine lv_if_ne (tgt := 353) hx hb dX12_best_335 (by decide) (fun c29315 => ?_) (fun c29315 => ?_)
                                          · skip
                                            have t29316 := cv_ne (a := z29291.toInt) rfl (b := 0) (by decide) c29315
                                            refine lv_iload hx hb dX12_best_353 (lv_at hl 3 rfl) ?_
                                            refine lv_istore (lv' := [(6, .int x8_lp29249), (11, .int z29294), (10, .int z29291), (9, .int r29266), (8, .int x8_lp29249), (7, .int x7_lp29249), (5, .int x3_lp29226), (4, .int x4_lp29226), (3, .int x3_lp29226), (0, .ref (g 0)), (1, .int p0), (2, .int p1)]) hx hb dX12_best_355 hl (by decide) rfl (fun ls hl => ?_)
                                            refine lv_iload hx hb dX12_best_357 (lv_at hl 3 rfl) ?_
                                            refine lv_istore (lv' := [(7, .int r29266), (6, .int x8_lp29249), (11, .int z29294), (10, .int z29291), (9, .int r29266), (8, .int x8_lp29249), (5, .int x3_lp29226), (4, .int x4_lp29226), (3, .int x3_lp29226), (0, .ref (g 0)), (1, .int p0), (2, .int p1)]) hx hb dX12_best_359 hl (by decide) rfl (fun ls hl => ?_)
                                            obtain ⟨z29317, e29318⟩ : ∃ y : Int32, y = x8_lp29249 + 1 := ⟨_, rfl⟩
                                            try (have t29319 := tadd e29318 rfl (b := 1) (by decide) (by omega))
                                            refine lv_iinc (v := z29317) (lv' := [(8, .int z29317), (7, .int r29266), (6, .int x8_lp29249), (11, .int z29294), (10, .int z29291), (9, .int r29266), (5, .int x3_lp29226), (4, .int x4_lp29226), (3, .int x3_lp29226), (0, .ref (g 0)), (1, .int p0), (2, .int p1)]) hx hb dX12_best_361 hl (k := 5) rfl (by rw [e29318]; rfl) (by decide) rfl (fun ls hl => ?_)
                                            refine lv_goto (tgt := 200) hx hb dX12_best_364 (by decide) ?_
                                            exact ih_lp29249 z29317 r29266 x8_lp29249 v29267 F29268 _ _ _ (by omega) (by omega) (frC (by decide) hf29269 (frC (by decide) hf_lp29260 hf_lp29249)) hI hF hP hS (lv_sub hl [0, 1, 2, 6, 7, 8, 9, 10, 11] rfl)
                                          · skip
                                            have t29320 := cv_eq (a := z29291.toInt) rfl (b := 0) (by decide) c29315
                                            refine lv_iload hx hb dX12_best_338 (lv_at hl 3 rfl) ?_
                                            refine lv_iload hx hb dX12_best_340 (lv_at hl 0 rfl) ?_
                                            refine lv_iand hx hb dX12_best_342 ?_
                                            refine lv_topi (fun z29321 e29322 => ?_)
                                            refine lv_iload hx hb dX12_best_343 (lv_at hl 0 rfl) ?_
                                            refine lv_ineg hx hb dX12_best_345 ?_
                                            refine lv_topi (fun z29324 e29325 => ?_)
                                            refine lv_iand hx hb dX12_best_346 ?_
                                            refine lv_topi (fun z29326 e29327 => ?_)
                                            refine lv_if_ne (tgt := 353) hx hb dX12_best_347 (by decide) (fun c29329 => ?_) (fun c29329 => ?_)
                                            · skip
                                              have t29330 := cv_ne (a := z29326.toInt) rfl (b := 0) (by decide) c29329
                                              refine lv_iload hx hb dX12_best_353 (lv_at hl 3 rfl) ?_
                                              refine lv_istore (lv' := [(6, .int x8_lp29249), (11, .int z29294), (10, .int z29291), (9, .int r29266), (8, .int x8_lp29249), (7, .int x7_lp29249), (5, .int x3_lp29226), (4, .int x4_lp29226), (3, .int x3_lp29226), (0, .ref (g 0)), (1, .int p0), (2, .int p1)]) hx hb dX12_best_355 hl (by decide) rfl (fun ls hl => ?_)
                                              refine lv_iload hx hb dX12_best_357 (lv_at hl 3 rfl) ?_
                                              refine lv_istore (lv' := [(7, .int r29266), (6, .int x8_lp29249), (11, .int z29294), (10, .int z29291), (9, .int r29266), (8, .int x8_lp29249), (5, .int x3_lp29226), (4, .int x4_lp29226), (3, .int x3_lp29226), (0, .ref (g 0)), (1, .int p0), (2, .int p1)]) hx hb dX12_best_359 hl (by decide) rfl (fun ls hl => ?_)
                                              obtain ⟨z29331, e29332⟩ : ∃ y : Int32, y = x8_lp29249 + 1 := ⟨_, rfl⟩
                                              try (have t29333 := tadd e29332 rfl (b := 1) (by decide) (by omega))
                                              refine lv_iinc (v := z29331) (lv' := [(8, .int z29331), (7, .int r29266), (6, .int x8_lp29249), (11, .int z29294), (10, .int z29291), (9, .int r29266), (5, .int x3_lp29226), (4, .int x4_lp29226), (3, .int x3_lp29226), (0, .ref (g 0)), (1, .int p0), (2, .int p1)]) hx hb dX12_best_361 hl (k := 5) rfl (by rw [e29332]; rfl) (by decide) rfl (fun ls hl => ?_)
                                              refine lv_goto (tgt := 200) hx hb dX12_best_364 (by decide) ?_
                                              exact ih_lp29249 z29331 r29266 x8_lp29249 v29267 F29268 _ _ _ (by omega) (by omega) (frC (by decide) hf29269 (frC (by decide) hf_lp29260 hf_lp29249)) hI hF hP hS (lv_sub hl [0, 1, 2, 6, 7, 8, 9, 10, 11] rfl)
                                            · skip
                                              have t29334 := cv_eq (a := z29326.toInt) rfl (b := 0) (by decide) c29329
                                              refine lv_goto (tgt := 361) hx hb dX12_best_350 (by decide) ?_
                                              obtain ⟨z29335, e29336⟩ : ∃ y : Int32, y = x8_lp29249 + 1 := ⟨_, rfl⟩
                                              try (have t29337 := tadd e29336 rfl (b := 1) (by decide) (by omega))
                                              refine lv_iinc (v := z29335) (lv' := [(8, .int z29335), (11, .int z29294), (10, .int z29291), (9, .int r29266), (7, .int x7_lp29249), (6, .int x6_lp29249), (5, .int x3_lp29226), (4, .int x4_lp29226), (3, .int x3_lp29226), (0, .ref (g 0)), (1, .int p0), (2, .int p1)]) hx hb dX12_best_361 hl (k := 3) rfl (by rw [e29336]; rfl) (by decide) rfl (fun ls hl => ?_)
                                              refine lv_goto (tgt := 200) hx hb dX12_best_364 (by decide) ?_
                                              exact ih_lp29249 z29335 x7_lp29249 x6_lp29249 v29267 F29268 _ _ _ (by omega) (by omega) (frC (by decide) hf29269 (frC (by decide) hf_lp29260 hf_lp29249)) hI hF hP hS (lv_sub hl [0, 4, 5, 6, 7, 8, 9, 10, 11] rfl)
                                · skip
                                  have t29338 := cv_nle (a := x3_lp29226.toInt) rfl (b := x9_lp29260.toInt) rfl c29262
                                  refine lv_aload_n hx hb dX12_best_230 rfl (lv_at hl 7 rfl) ?_
                                  refine va_get (D := (dC, dI)) (ci := 12) (v := .ref (g 42)) (C := RX12) (T := TX12) (N := 63) hx hb hwd inA_X12 hown hK hP 0 rfl rfl 56 (by decide) (hwd _ wk_224) (fun _ h9 => h9) rfl dX12_best_231 ?_
                                  refine lv_aload_n hx hb dX12_best_234 rfl (lv_at hl 7 rfl) ?_
                                  refine va_get (D := (dC, dI)) (ci := 12) (v := .ref (g 43)) (C := RX12) (T := TX12) (N := 63) hx hb hwd inA_X12 hown hK hP 0 rfl rfl 59 (by decide) (hwd _ wk_225) (fun _ h9 => h9) rfl dX12_best_235 ?_
                                  refine lv_iload hx hb dX12_best_238 (lv_at hl 0 rfl) ?_
                                  refine va_iald hx hb hK hP 43 42 rfl rfl (i := x9_lp29260) (vin (a := x9_lp29260.toInt) rfl (by omega)) dX12_best_240 ?_
                                  refine lv_topi (fun z29339 e29340 => ?_)
                                  have t29341 : 0 ≤ z29339.toInt ∧ z29339.toInt ≤ 99 := by rw [e29340]; exact hI.2 43 _ _ rfl _
                                  refine lv_iload hx hb dX12_best_241 (lv_at hl 1 rfl) ?_
                                  refine lv_iload hx hb dX12_best_243 (lv_at hl 0 rfl) ?_
                                  refine lv_ishr hx hb dX12_best_245 ?_
                                  refine lv_topi (fun z29342 e29343 => ?_)
                                  refine lv_iconst (v := 1) hx hb dX12_best_246 (by decide) ?_
                                  refine lv_iand hx hb dX12_best_247 ?_
                                  refine lv_topi (fun z29345 e29346 => ?_)
                                  refine lv_iconst (v := 1) hx hb dX12_best_248 (by decide) ?_
                                  refine lv_icmp_ne (tgt := 256) hx hb dX12_best_249 (by decide) (fun c29348 => ?_) (fun c29348 => ?_)
                                  · skip
                                    have t29349 := cv_ne (a := z29345.toInt) rfl (b := 1) (by decide) c29348
                                    refine lv_iconst (v := 0) hx hb dX12_best_256 (by decide) ?_
                                    refine va_zast hx hb hK hP (DM hg) hS 42 41 rfl rfl (i := z29339) (x := 0) (vin (a := z29339.toInt) rfl (by omega)) dX12_best_257 (fun H locs hP _ hS => ?_)
                                    have hP := va_P_eq (sM_42 g c _ _ _ _) hP
                                    have hI := IM.store0 hI 42 (z29339 : Int32).toNatClampNeg (vp_nar .boolean 0) rfl
                                    have hF := frUF (k := 42) (f := upd (F_lp29260 42) (z29339 : Int32).toNatClampNeg (vp_nar .boolean 0)) (by decide) hF
                                    have hP : va_P (dC, dI) classes (wM g c v_lp29260 (va_up F_lp29260 42 (upd (F_lp29260 42) (z29339 : Int32).toNatClampNeg (vp_nar .boolean 0))) rc) H := hP
                                    generalize (va_up F_lp29260 42 (upd (F_lp29260 42) (z29339 : Int32).toNatClampNeg (vp_nar .boolean 0))) = F29350 at hP hI hF
                                    obtain ⟨z29351, e29352⟩ : ∃ y : Int32, y = x9_lp29260 + 1 := ⟨_, rfl⟩
                                    try (have t29353 := tadd e29352 rfl (b := 1) (by decide) (by omega))
                                    refine lv_iinc (v := z29351) (lv' := [(9, .int z29351), (8, .int x8_lp29249), (7, .int x7_lp29249), (6, .int x6_lp29249), (5, .int x3_lp29226), (4, .int x4_lp29226), (3, .int x3_lp29226), (0, .ref (g 0)), (1, .int p0), (2, .int p1)]) hx hb dX12_best_258 hl (k := 0) rfl (by rw [e29352]; rfl) (by decide) rfl (fun ls hl => ?_)
                                    refine lv_goto (tgt := 224) hx hb dX12_best_261 (by decide) ?_
                                    exact ih_lp29260 z29351 v_lp29260 F29350 _ _ _ (by omega) (by omega) hf_lp29260 hI hF hP hS (lv_sub hl [0, 1, 2, 3, 4, 5, 6, 7, 8, 9] rfl)
                                  · skip
                                    have t29354 := cv_eq (a := z29345.toInt) rfl (b := 1) (by decide) c29348
                                    refine lv_iconst (v := 1) hx hb dX12_best_252 (by decide) ?_
                                    refine lv_goto (tgt := 257) hx hb dX12_best_253 (by decide) ?_
                                    refine va_zast hx hb hK hP (DM hg) hS 42 41 rfl rfl (i := z29339) (x := 1) (vin (a := z29339.toInt) rfl (by omega)) dX12_best_257 (fun H locs hP _ hS => ?_)
                                    have hP := va_P_eq (sM_42 g c _ _ _ _) hP
                                    have hI := IM.store0 hI 42 (z29339 : Int32).toNatClampNeg (vp_nar .boolean 1) rfl
                                    have hF := frUF (k := 42) (f := upd (F_lp29260 42) (z29339 : Int32).toNatClampNeg (vp_nar .boolean 1)) (by decide) hF
                                    have hP : va_P (dC, dI) classes (wM g c v_lp29260 (va_up F_lp29260 42 (upd (F_lp29260 42) (z29339 : Int32).toNatClampNeg (vp_nar .boolean 1))) rc) H := hP
                                    generalize (va_up F_lp29260 42 (upd (F_lp29260 42) (z29339 : Int32).toNatClampNeg (vp_nar .boolean 1))) = F29355 at hP hI hF
                                    obtain ⟨z29356, e29357⟩ : ∃ y : Int32, y = x9_lp29260 + 1 := ⟨_, rfl⟩
                                    try (have t29358 := tadd e29357 rfl (b := 1) (by decide) (by omega))
                                    refine lv_iinc (v := z29356) (lv' := [(9, .int z29356), (8, .int x8_lp29249), (7, .int x7_lp29249), (6, .int x6_lp29249), (5, .int x3_lp29226), (4, .int x4_lp29226), (3, .int x3_lp29226), (0, .ref (g 0)), (1, .int p0), (2, .int p1)]) hx hb dX12_best_258 hl (k := 0) rfl (by rw [e29357]; rfl) (by decide) rfl (fun ls hl => ?_)
                                    refine lv_goto (tgt := 224) hx hb dX12_best_261 (by decide) ?_
                                    exact ih_lp29260 z29356 v_lp29260 F29355 _ _ _ (by omega) (by omega) hf_lp29260 hI hF hP hS (lv_sub hl [0, 1, 2, 3, 4, 5, 6, 7, 8, 9] rfl)
                            obtain ⟨n9, hn9⟩ : ∃ n : Nat, 2147483648 - 0 ≤ (n : Int) := ⟨((2147483648 - 0 : Int)).toNat, by omega⟩
                            exact lp29260 n9 0 v_lp29249 F_lp29249 H _ ls (by have : (0 : Int32).toInt = 0 := (by decide); omega) (by have : (0 : Int32).toInt = 0 := (by decide); omega) (fun _ _ => rfl) hI hF hP hS hl
                          · skip
                            have t29359 := cv_ne (a := r29257.toInt) rfl (b := x3_lp29226.toInt) rfl c29258
                            refine lv_goto (tgt := 361) hx hb dX12_best_218 (by decide) ?_
                            obtain ⟨z29360, e29361⟩ : ∃ y : Int32, y = x8_lp29249 + 1 := ⟨_, rfl⟩
                            try (have t29362 := tadd e29361 rfl (b := 1) (by decide) (by omega))
                            refine lv_iinc (v := z29360) (lv' := [(8, .int z29360), (7, .int x7_lp29249), (6, .int x6_lp29249), (5, .int x3_lp29226), (4, .int x4_lp29226), (3, .int x3_lp29226), (0, .ref (g 0)), (1, .int p0), (2, .int p1)]) hx hb dX12_best_361 hl (k := 0) rfl (by rw [e29361]; rfl) (by decide) rfl (fun ls hl => ?_)
                            refine lv_goto (tgt := 200) hx hb dX12_best_364 (by decide) ?_
                            exact ih_lp29249 z29360 x7_lp29249 x6_lp29249 v_lp29249 F_lp29249 _ _ _ (by omega) (by omega) hf_lp29249 hI hF hP hS (lv_sub hl [0, 1, 2, 3, 4, 5, 6, 7, 8] rfl)
                    obtain ⟨n9, hn9⟩ : ∃ n : Nat, 2147483648 - 0 ≤ (n : Int) := ⟨((2147483648 - 0 : Int)).toNat, by omega⟩
                    exact lp29249 n9 0 0 (-1) v29245 F29246 H _ ls (by have : (0 : Int32).toInt = 0 := (by decide); have : (0 : Int32).toInt = 0 := (by decide); have : ((-1) : Int32).toInt = (-1) := (by decide); omega) (by have : (0 : Int32).toInt = 0 := (by decide); have : (0 : Int32).toInt = 0 := (by decide); have : ((-1) : Int32).toInt = (-1) := (by decide); omega) (fun _ _ => rfl) hI hF hP hS hl
                  · skip
                    have t29363 := cv_nle (a := x3_lp29226.toInt) rfl (b := z29239.toInt) rfl c29241
                    refine lv_aload_n hx hb dX12_best_169 rfl (lv_at hl 3 rfl) ?_
                    refine va_get (D := (dC, dI)) (ci := 12) (v := .ref (g 9)) (C := RX12) (T := TX12) (N := 63) hx hb hwd inA_X12 hown hK hP 0 rfl rfl 12 (by decide) (hwd _ wk_190) (fun _ h9 => h9) rfl dX12_best_170 ?_
                    refine lv_bipush (v := 10) hx hb dX12_best_173 (by decide) ?_
                    refine lv_iload_n hx hb dX12_best_175 rfl (lv_at hl 4 rfl) ?_
                    refine lv_imul hx hb dX12_best_176 ?_
                    refine lv_topi (fun z29364 e29365 => ?_)
                    try (have t29366 := tmul e29365 (a := 10) (by decide) (b := p0.toInt) rfl (by omega))
                    refine lv_iload_n hx hb dX12_best_177 rfl (lv_at hl 5 rfl) ?_
                    refine lv_iadd hx hb dX12_best_178 ?_
                    refine lv_topi (fun z29367 e29368 => ?_)
                    try (have t29369 := tadd e29368 (a := z29364.toInt) rfl (b := p1.toInt) rfl (by omega))
                    refine va_iald hx hb hK hP 9 8 rfl rfl (i := z29367) (vin (a := z29367.toInt) rfl (by omega)) dX12_best_179 ?_
                    refine lv_topi (fun z29370 e29371 => ?_)
                    have e29371 : z29370 = F 9 (z29367 : Int32).toNatClampNeg := e29371.trans (congrFun (hF 9 (by decide)) _)
                    refine lv_goto (tgt := 184) hx hb dX12_best_180 (by decide) ?_
                    refine lv_istore (lv' := [(5, .int z29370), (4, .int x4_lp29226), (3, .int x3_lp29226), (0, .ref (g 0)), (1, .int p0), (2, .int p1)]) hx hb dX12_best_184 hl (by decide) rfl (fun ls hl => ?_)
                    refine lv_aload_n hx hb dX12_best_186 rfl (lv_at hl 3 rfl) ?_
                    refine lv_iload_n hx hb dX12_best_187 rfl (lv_at hl 4 rfl) ?_
                    have t29372 : 0 ≤ (v 14).toInt ∧ (v 14).toInt ≤ 100 := by have h9 := hI.1 14 _ _ rfl; rw [show v_lp29226 14 = v 14 from hf_lp29226 14 (by decide)] at h9; exact h9
                    refine va_callv (va_runV (As := [.int p0]) (rest := []) ⟨hx, hb, hml, hown, hwd⟩ (c_X12_board l dC dI g c adK adV v_lp29226 F_lp29226 rc H.size p0 hg hI ) (cwV 1 hwd (gV wk_1205 wk_1202 wk_1203 wk_1204 wk_5) rfl rfl rfl (by decide +kernel) ⟨Nat.le_of_ble_eq_true rfl, Nat.le_of_ble_eq_true rfl⟩) ⟨PM.blind, va_recv hK hP (ci := 12) (q0 := 0) rfl rfl, fun U hU hW => ⟨rfl, PM.at hK hE hP hS hU hW⟩⟩ rfl rfl hl.1 rfl (lv_room (Nat.le_of_ble_eq_true rfl)) dX12_best_188 ⟨Nat.le_of_ble_eq_true rfl, Nat.le_of_ble_eq_true rfl⟩) hS (fun q _ h => (freeM hS) q h) (freeM hS) (fun u t H1 locs ht hvm hw hB hz1 hk1 hS => ?_)
                    unfold BM at hB
                    rw [ht] at hB
                    obtain ⟨v29374, F29375, rc9⟩ := u
                    obtain ⟨hI, hrc, hf29376, hG29377, hw⟩ := hw
                    dsimp only at hI hrc hB hf29376 hG29377 hw
                    have hF := frCF (by decide) hG29377 hF
                    rw [hrc] at hB
                    have hP : va_P (dC, dI) classes (wM g c v29374 F29375 rc) H1 := hB
                    have hw : ∀ j : Nat, (j : Int) < (v_lp29226 14).toInt → (F29375 42 j).toInt ≠ 0 → (F_lp29226 13 j).toInt = p0.toInt := hw
                    rw [show v_lp29226 14 = v 14 from hf_lp29226 14 (by decide)] at hw
                    have hw_r29373 := hw
                    generalize H1 = H at hP hS ⊢
                    refine lv_iconst (v := (-1)) hx hb dX12_best_191 (by decide) ?_
                    refine lv_istore (lv' := [(6, .int (-1)), (5, .int z29370), (4, .int x4_lp29226), (3, .int x3_lp29226), (0, .ref (g 0)), (1, .int p0), (2, .int p1)]) hx hb dX12_best_192 hl (by decide) rfl (fun ls hl => ?_)
                    refine lv_iconst (v := 0) hx hb dX12_best_194 (by decide) ?_
                    refine lv_istore (lv' := [(7, .int 0), (6, .int (-1)), (5, .int z29370), (4, .int x4_lp29226), (3, .int x3_lp29226), (0, .ref (g 0)), (1, .int p0), (2, .int p1)]) hx hb dX12_best_195 hl (by decide) rfl (fun ls hl => ?_)
                    refine lv_iconst (v := 0) hx hb dX12_best_197 (by decide) ?_
                    refine lv_istore (lv' := [(8, .int 0), (7, .int 0), (6, .int (-1)), (5, .int z29370), (4, .int x4_lp29226), (3, .int x3_lp29226), (0, .ref (g 0)), (1, .int p0), (2, .int p1)]) hx hb dX12_best_198 hl (by decide) rfl (fun ls hl => ?_)
                    have lp29378 : ∀ (n : Nat) (x8_lp29378 : Int32) (x7_lp29378 : Int32) (x6_lp29378 : Int32) (v_lp29378 : Nat → Int32) (F_lp29378 : Nat → Nat → Int32) (H : Heap) (locs : List Loc) (ls : Array Slot), (0 ≤ x8_lp29378.toInt) → (2147483648 - x8_lp29378.toInt ≤ (n : Int)) → (∀ k, k ∉ ([] : List Nat) → v_lp29378 k = v29374 k) → IM v_lp29378 F_lp29378 → (∀ k, k ∉ ([30, 31, 42, 43] : List Nat) → F_lp29378 k = F k) → va_P (dC, dI) classes (wM g c v_lp29378 F_lp29378 rc) H → va_S (AM g s.heap.size) s.heap H locs → lv_has ls 12 [(8, .int x8_lp29378), (7, .int x7_lp29378), (6, .int x6_lp29378), (5, .int z29370), (4, .int x4_lp29226), (3, .int x3_lp29226), (0, .ref (g 0)), (1, .int p0), (2, .int p1)] → W p l e (headSpec (Cond.code yX12_best cX12_best 12 (some .int) :: wA) ({ frames := 8, cells := 0, slots := 0, locals := 320 })).room s m ([.ref (g 0), .int p0, .int p1] : List Value).toArray below meth c0 H locs 0 0 (MQ below (va_Qi (fun (r : Int32) (u : StM) => IM u.1 u.2.1 ∧ u.2.2 = rc ∧ (∀ k, k ∉ ([57, 58] : List Nat) → u.1 k = v k) ∧ (∀ k, k ∉ ([30, 31, 42, 43] : List Nat) → u.2.1 k = F k) ∧ True) (BM dC dI g c) (AM g s.heap.size)) ([.ref (g 0), .int p0, .int p1] : List Value).toArray s 0 0 (AM g s.heap.size)) (F0 m 200 ls []) := by
                      intro n
                      induction n with
                      | zero =>
                        intro x8_lp29378 x7_lp29378 x6_lp29378 v_lp29378 F_lp29378 H locs ls t29379 hm hf_lp29378 hI hF hP hS hl
                        exfalso
                        have := i32_rng x8_lp29378
                        have := i32_rng x7_lp29378
                        have := i32_rng x6_lp29378
                        have hI1 := hI.1
                        omega
                      | succ n ih_lp29378 =>
                        intro x8_lp29378 x7_lp29378 x6_lp29378 v_lp29378 F_lp29378 H locs ls t29379 hm hf_lp29378 hI hF hP hS hl
                        have rx8_lp29378 := i32_rng x8_lp29378
                        have rx7_lp29378 := i32_rng x7_lp29378
                        have rx6_lp29378 := i32_rng x6_lp29378
                        refine lv_iload hx hb dX12_best_200 (lv_at hl 0 rfl) ?_
                        refine lv_iconst (v := 1) hx hb dX12_best_202 (by decide) ?_
                        refine lv_iload_n hx hb dX12_best_203 rfl (lv_at hl 5 rfl) ?_
                        refine lv_ishl hx hb dX12_best_204 ?_
                        refine lv_topi (fun z29380 e29381 => ?_)
                        have rr_z29380 := i32_rng z29380
                        refine lv_icmp_ge (tgt := 367) hx hb dX12_best_205 (by decide) (fun c29383 => ?_) (fun c29383 => ?_)
                        · skip
                          have t29384 := cv_le (a := z29380.toInt) rfl (b := x8_lp29378.toInt) rfl c29383
                          refine lv_aload_n hx hb dX12_best_367 rfl (lv_at hl 6 rfl) ?_
                          refine lv_iconst (v := 1) hx hb dX12_best_368 (by decide) ?_
                          refine va_put (D := (dC, dI)) (ci := 12) (v := .int 1) (ty := .boolean) (C := RX12) (T := TX12) (N := 63) (fs := fsM_0 g v_lp29378 rc) hx hb hwd inA_X12 tyX12 tyX12_ok nmX12 hown hK hP (DM hg) hS 0 rfl rfl 57 (by decide) (hwd _ wk_1304) (fun _ h9 => h9) rfl (by decide +kernel) rfl rfl (Nat.le_of_ble_eq_true rfl) dX12_best_369 (fun H locs hP _ hS => ?_)
                          have hP := va_P_eq (pM_57 g c _ _ _ _) hP
                          have hI := IM.put0 hI 57 1 rfl
                          refine lv_aload_n hx hb dX12_best_372 rfl (lv_at hl 6 rfl) ?_
                          refine lv_iload hx hb dX12_best_373 (lv_at hl 1 rfl) ?_
                          refine va_put (D := (dC, dI)) (ci := 12) (v := .int x7_lp29378) (ty := .int) (C := RX12) (T := TX12) (N := 63) (fs := fsM_0 g (va_up v_lp29378 57 1) rc) hx hb hwd inA_X12 tyX12 tyX12_ok nmX12 hown hK hP (DM hg) hS 0 rfl rfl 58 (by decide) (hwd _ wk_1305) (fun _ h9 => h9) rfl (by decide +kernel) rfl rfl (Nat.le_of_ble_eq_true rfl) dX12_best_375 (fun H locs hP _ hS => ?_)
                          have hP := va_P_eq (pM_58 g c _ _ _ _) hP
                          have hI := IM.put0 hI 58 x7_lp29378 rfl
                          refine lv_iload hx hb dX12_best_378 (lv_at hl 2 rfl) ?_
                          have hP9 : va_P (dC, dI) classes (wM g c (va_up (va_up v_lp29378 57 1) 58 x7_lp29378) F_lp29378 rc) H := hP
                          exact W.iret (v := x6_lp29378) hx hb hr (fun t ht hW => ⟨⟨x6_lp29378, ((va_up (va_up v_lp29378 57 1) 58 x7_lp29378), F_lp29378, rc), rfl, ⟨hI, rfl, (frU (by decide) (frU (by decide) (frC (by decide) hf_lp29378 (frC (by decide) hf29376 (frC (by decide) hf_lp29226 (fun _ _ => rfl)))))), hF, trivial⟩, (by show va_P _ _ _ t.heap; rw [ht]; exact hP9)⟩, hS.F ht⟩) hS.2.2 dX12_best_380
                        · skip
                          have t29385 := cv_nle (a := z29380.toInt) rfl (b := x8_lp29378.toInt) rfl c29383
                          refine lv_iload hx hb dX12_best_208 (lv_at hl 0 rfl) ?_
                          refine va_calli (va_runS (As := [.int x8_lp29378]) (rest := []) ⟨hx, hb, hml, hown, hwd⟩ (c_X12_bitsOf l dC dI g c adK adV v_lp29378 F_lp29378 rc H.size x8_lp29378 hg hI ) (va_cwS 1 hwd (gT wk_1308 wk_1306 wk_1307 wk_5) rfl rfl rfl (by decide +kernel) ⟨Nat.le_of_ble_eq_true rfl, Nat.le_of_ble_eq_true rfl⟩) ⟨PM.blind, fun U hU hW => ⟨rfl, PM.at hK hE hP hS hU hW⟩⟩ rfl rfl hl.1 rfl (lv_room (Nat.le_of_ble_eq_true rfl)) dX12_best_210 ⟨Nat.le_of_ble_eq_true rfl, Nat.le_of_ble_eq_true rfl⟩) hS (fun q _ h => (freeM hS) q h) (freeM hS) (fun r29386 u t H1 locs ht hvm hw hB hz1 hk1 hS => ?_)
                          unfold BM at hB
                          rw [ht] at hB
                          have hP : va_P (dC, dI) classes (wM g c v_lp29378 F_lp29378 rc) H1 := hB
                          generalize H1 = H at hP hS ⊢
                          have rr_r29386 := i32_rng r29386
                          refine lv_iload hx hb dX12_best_213 (lv_at hl 3 rfl) ?_
                          refine lv_icmp_eq (tgt := 221) hx hb dX12_best_215 (by decide) (fun c29387 => ?_) (fun c29387 => ?_)
                          · skip
                            have t29388 := cv_eq (a := r29386.toInt) rfl (b := z29370.toInt) rfl c29387
                            refine lv_iconst (v := 0) hx hb dX12_best_221 (by decide) ?_
                            refine lv_istore (lv' := [(9, .int 0), (8, .int x8_lp29378), (7, .int x7_lp29378), (6, .int x6_lp29378), (5, .int z29370), (4, .int x4_lp29226), (3, .int x3_lp29226), (0, .ref (g 0)), (1, .int p0), (2, .int p1)]) hx hb dX12_best_222 hl (by decide) rfl (fun ls hl => ?_)
                            have lp29389 : ∀ (n : Nat) (x9_lp29389 : Int32) (v_lp29389 : Nat → Int32) (F_lp29389 : Nat → Nat → Int32) (H : Heap) (locs : List Loc) (ls : Array Slot), (0 ≤ x9_lp29389.toInt) → (2147483648 - x9_lp29389.toInt ≤ (n : Int)) → (∀ k, k ∉ ([] : List Nat) → v_lp29389 k = v_lp29378 k) → IM v_lp29389 F_lp29389 → (∀ k, k ∉ ([30, 31, 42, 43] : List Nat) → F_lp29389 k = F k) → va_P (dC, dI) classes (wM g c v_lp29389 F_lp29389 rc) H → va_S (AM g s.heap.size) s.heap H locs → lv_has ls 12 [(9, .int x9_lp29389), (8, .int x8_lp29378), (7, .int x7_lp29378), (6, .int x6_lp29378), (5, .int z29370), (4, .int x4_lp29226), (3, .int x3_lp29226), (0, .ref (g 0)), (1, .int p0), (2, .int p1)] → W p l e (headSpec (Cond.code yX12_best cX12_best 12 (some .int) :: wA) ({ frames := 8, cells := 0, slots := 0, locals := 320 })).room s m ([.ref (g 0), .int p0, .int p1] : List Value).toArray below meth c0 H locs 0 0 (MQ below (va_Qi (fun (r : Int32) (u : StM) => IM u.1 u.2.1 ∧ u.2.2 = rc ∧ (∀ k, k ∉ ([57, 58] : List Nat) → u.1 k = v k) ∧ (∀ k, k ∉ ([30, 31, 42, 43] : List Nat) → u.2.1 k = F k) ∧ True) (BM dC dI g c) (AM g s.heap.size)) ([.ref (g 0), .int p0, .int p1] : List Value).toArray s 0 0 (AM g s.heap.size)) (F0 m 224 ls []) := by
                              intro n
                              induction n with
                              | zero =>
                                intro x9_lp29389 v_lp29389 F_lp29389 H locs ls t29390 hm hf_lp29389 hI hF hP hS hl
                                exfalso
                                have := i32_rng x9_lp29389
                                have hI1 := hI.1
                                omega
                              | succ n ih_lp29389 =>
                                intro x9_lp29389 v_lp29389 F_lp29389 H locs ls t29390 hm hf_lp29389 hI hF hP hS hl
                                have rx9_lp29389 := i32_rng x9_lp29389
                                refine lv_iload hx hb dX12_best_224 (lv_at hl 0 rfl) ?_
                                refine lv_iload_n hx hb dX12_best_226 rfl (lv_at hl 6 rfl) ?_
                                refine lv_icmp_ge (tgt := 264) hx hb dX12_best_227 (by decide) (fun c29391 => ?_) (fun c29391 => ?_)
                                · skip
                                  have t29392 := cv_le (a := x3_lp29226.toInt) rfl (b := x9_lp29389.toInt) rfl c29391
                                  refine lv_aload_n hx hb dX12_best_264 rfl (lv_at hl 7 rfl) ?_
                                  refine lv_iload_n hx hb dX12_best_265 rfl (lv_at hl 8 rfl) ?_
                                  refine lv_aload_n hx hb dX12_best_266 rfl (lv_at hl 7 rfl) ?_
                                  refine va_get (D := (dC, dI)) (ci := 12) (v := .int (v_lp29389 1)) (C := RX12) (T := TX12) (N := 63) hx hb hwd inA_X12 hown hK hP 0 rfl rfl 1 (by decide) (hwd _ wk_332) (fun _ h9 => h9) rfl dX12_best_267 ?_
                                  refine my_top (v := v 1) ((hf_lp29389 1 (by decide)).trans ((hf_lp29378 1 (by decide)).trans ((hf29376 1 (by decide)).trans (hf_lp29226 1 (by decide))))) ?_
                                  have t29393 : 0 ≤ (v 1).toInt ∧ (v 1).toInt ≤ 9999 := by have h9 := hI.1 1 _ _ rfl; rw [show v_lp29389 1 = v 1 from (hf_lp29389 1 (by decide)).trans ((hf_lp29378 1 (by decide)).trans ((hf29376 1 (by decide)).trans (hf_lp29226 1 (by decide))))] at h9; exact h9
                                  refine lv_aload_n hx hb dX12_best_270 rfl (lv_at hl 7 rfl) ?_
                                  refine va_get (D := (dC, dI)) (ci := 12) (v := .int (v_lp29389 1)) (C := RX12) (T := TX12) (N := 63) hx hb hwd inA_X12 hown hK hP 0 rfl rfl 1 (by decide) (hwd _ wk_332) (fun _ h9 => h9) rfl dX12_best_271 ?_
                                  refine my_top (v := v 1) ((hf_lp29389 1 (by decide)).trans ((hf_lp29378 1 (by decide)).trans ((hf29376 1 (by decide)).trans (hf_lp29226 1 (by decide))))) ?_
                                  have t29394 : 0 ≤ (v 1).toInt ∧ (v 1).toInt ≤ 9999 := by have h9 := hI.1 1 _ _ rfl; rw [show v_lp29389 1 = v 1 from (hf_lp29389 1 (by decide)).trans ((hf_lp29378 1 (by decide)).trans ((hf29376 1 (by decide)).trans (hf_lp29226 1 (by decide))))] at h9; exact h9
                                  refine va_calli (va_runV (As := [.int p0, .int (v 1), .int (v 1)]) (rest := []) ⟨hx, hb, hml, hown, hwd⟩ (c_X12_costOfAll l dC dI g c adK adV v_lp29389 F_lp29389 rc H.size p0 (v 1) (v 1) hg hI (by omega) (JL.to hL (show v_lp29389 31 = v 31 from (hf_lp29389 31 (by decide)).trans ((hf_lp29378 31 (by decide)).trans ((hf29376 31 (by decide)).trans (hf_lp29226 31 (by decide))))) (hF 28 (by decide)) (hF 29 (by decide)) (hF 27 (by decide)))) (cwV 3 hwd (gV wk_1247 wk_1244 wk_1245 wk_1246 wk_5) rfl rfl rfl (by decide +kernel) ⟨Nat.le_of_ble_eq_true rfl, Nat.le_of_ble_eq_true rfl⟩) ⟨PM.blind, va_recv hK hP (ci := 12) (q0 := 0) rfl rfl, fun U hU hW => ⟨rfl, PM.at hK hE hP hS hU hW⟩⟩ rfl rfl hl.1 rfl (lv_room (Nat.le_of_ble_eq_true rfl)) dX12_best_274 ⟨Nat.le_of_ble_eq_true rfl, Nat.le_of_ble_eq_true rfl⟩) hS (fun q _ h => (freeM hS) q h) (freeM hS) (fun r29395 u t H1 locs ht hvm hw hB hz1 hk1 hS => ?_)
                                  unfold BM at hB
                                  rw [ht] at hB
                                  obtain ⟨v29396, F29397, rc9⟩ := u
                                  obtain ⟨hI, hrc, hf29398, hG29399, hw⟩ := hw
                                  dsimp only at hI hrc hB hf29398 hG29399 hw
                                  have hF := frCF (by decide) hG29399 hF
                                  rw [hrc] at hB
                                  have hP : va_P (dC, dI) classes (wM g c v29396 F29397 rc) H1 := hB
                                  generalize H1 = H at hP hS ⊢
                                  have rr_r29395 := i32_rng r29395
                                  refine lv_istore (lv' := [(9, .int r29395), (8, .int x8_lp29378), (7, .int x7_lp29378), (6, .int x6_lp29378), (5, .int z29370), (4, .int x4_lp29226), (3, .int x3_lp29226), (0, .ref (g 0)), (1, .int p0), (2, .int p1)]) hx hb dX12_best_277 hl (by decide) rfl (fun ls hl => ?_)
                                  refine lv_iload hx hb dX12_best_279 (lv_at hl 3 rfl) ?_
                                  refine lv_if_lt (tgt := 353) hx hb dX12_best_281 (by decide) (fun c29400 => ?_) (fun c29400 => ?_)
                                  · skip
                                    have t29401 := cv_lt (a := x6_lp29378.toInt) rfl (b := 0) (by decide) c29400
                                    refine lv_iload hx hb dX12_best_353 (lv_at hl 1 rfl) ?_
                                    refine lv_istore (lv' := [(6, .int x8_lp29378), (9, .int r29395), (8, .int x8_lp29378), (7, .int x7_lp29378), (5, .int z29370), (4, .int x4_lp29226), (3, .int x3_lp29226), (0, .ref (g 0)), (1, .int p0), (2, .int p1)]) hx hb dX12_best_355 hl (by decide) rfl (fun ls hl => ?_)
                                    refine lv_iload hx hb dX12_best_357 (lv_at hl 1 rfl) ?_
                                    refine lv_istore (lv' := [(7, .int r29395), (6, .int x8_lp29378), (9, .int r29395), (8, .int x8_lp29378), (5, .int z29370), (4, .int x4_lp29226), (3, .int x3_lp29226), (0, .ref (g 0)), (1, .int p0), (2, .int p1)]) hx hb dX12_best_359 hl (by decide) rfl (fun ls hl => ?_)
                                    obtain ⟨z29402, e29403⟩ : ∃ y : Int32, y = x8_lp29378 + 1 := ⟨_, rfl⟩
                                    try (have t29404 := tadd e29403 rfl (b := 1) (by decide) (by omega))
                                    refine lv_iinc (v := z29402) (lv' := [(8, .int z29402), (7, .int r29395), (6, .int x8_lp29378), (9, .int r29395), (5, .int z29370), (4, .int x4_lp29226), (3, .int x3_lp29226), (0, .ref (g 0)), (1, .int p0), (2, .int p1)]) hx hb dX12_best_361 hl (k := 3) rfl (by rw [e29403]; rfl) (by decide) rfl (fun ls hl => ?_)
                                    refine lv_goto (tgt := 200) hx hb dX12_best_364 (by decide) ?_
                                    exact ih_lp29378 z29402 r29395 x8_lp29378 v29396 F29397 _ _ _ (by omega) (by omega) (frC (by decide) hf29398 (frC (by decide) hf_lp29389 hf_lp29378)) hI hF hP hS (lv_sub hl [0, 1, 2, 4, 5, 6, 7, 8, 9] rfl)
                                  · skip
                                    have t29405 := cv_nlt (a := x6_lp29378.toInt) rfl (b := 0) (by decide) c29400
                                    refine lv_iload hx hb dX12_best_284 (lv_at hl 1 rfl) ?_
                                    refine lv_iload hx hb dX12_best_286 (lv_at hl 5 rfl) ?_
                                    refine lv_iconst (v := (-1)) hx hb dX12_best_288 (by decide) ?_
                                    refine lv_ixor hx hb dX12_best_289 ?_
                                    refine lv_topi (fun z29406 e29407 => ?_)
                                    refine lv_iand hx hb dX12_best_290 ?_
                                    refine lv_topi (fun z29409 e29410 => ?_)
                                    refine va_calli (va_runS (As := [.int z29409]) (rest := []) ⟨hx, hb, hml, hown, hwd⟩ (c_X12_bitsOf l dC dI g c adK adV v29396 F29397 rc H.size z29409 hg hI ) (va_cwS 1 hwd (gT wk_1308 wk_1306 wk_1307 wk_5) rfl rfl rfl (by decide +kernel) ⟨Nat.le_of_ble_eq_true rfl, Nat.le_of_ble_eq_true rfl⟩) ⟨PM.blind, fun U hU hW => ⟨rfl, PM.at hK hE hP hS hU hW⟩⟩ rfl rfl hl.1 rfl (lv_room (Nat.le_of_ble_eq_true rfl)) dX12_best_291 ⟨Nat.le_of_ble_eq_true rfl, Nat.le_of_ble_eq_true rfl⟩) hS (fun q _ h => (freeM hS) q h) (freeM hS) (fun r29412 u t H1 locs ht hvm hw hB hz1 hk1 hS => ?_)
                                    unfold BM at hB
                                    rw [ht] at hB
                                    have hP : va_P (dC, dI) classes (wM g c v29396 F29397 rc) H1 := hB
                                    generalize H1 = H at hP hS ⊢
                                    have rr_r29412 := i32_rng r29412
                                    refine lv_iload hx hb dX12_best_294 (lv_at hl 3 rfl) ?_
                                    refine lv_iload hx hb dX12_best_296 (lv_at hl 5 rfl) ?_
                                    refine lv_iconst (v := (-1)) hx hb dX12_best_298 (by decide) ?_
                                    refine lv_ixor hx hb dX12_best_299 ?_
                                    refine lv_topi (fun z29413 e29414 => ?_)
                                    refine lv_iand hx hb dX12_best_300 ?_
                                    refine lv_topi (fun z29416 e29417 => ?_)
                                    refine va_calli (va_runS (As := [.int z29416]) (rest := [.int r29412]) ⟨hx, hb, hml, hown, hwd⟩ (c_X12_bitsOf l dC dI g c adK adV v29396 F29397 rc H.size z29416 hg hI ) (va_cwS 1 hwd (gT wk_1308 wk_1306 wk_1307 wk_5) rfl rfl rfl (by decide +kernel) ⟨Nat.le_of_ble_eq_true rfl, Nat.le_of_ble_eq_true rfl⟩) ⟨PM.blind, fun U hU hW => ⟨rfl, PM.at hK hE hP hS hU hW⟩⟩ rfl rfl hl.1 rfl (lv_room (Nat.le_of_ble_eq_true rfl)) dX12_best_301 ⟨Nat.le_of_ble_eq_true rfl, Nat.le_of_ble_eq_true rfl⟩) hS (fun q _ h => (freeM hS) q h) (freeM hS) (fun r29419 u t H1 locs ht hvm hw hB hz1 hk1 hS => ?_)
                                    unfold BM at hB
                                    rw [ht] at hB
                                    have hP : va_P (dC, dI) classes (wM g c v29396 F29397 rc) H1 := hB
                                    generalize H1 = H at hP hS ⊢
                                    have rr_r29419 := i32_rng r29419
                                    refine lv_isub hx hb dX12_best_304 ?_
                                    refine lv_topi (fun z29420 e29421 => ?_)
                                    try (have t29422 := tsub e29421 (a := r29412.toInt) rfl (b := r29419.toInt) rfl (by omega))
                                    refine lv_istore (lv' := [(10, .int z29420), (9, .int r29395), (8, .int x8_lp29378), (7, .int x7_lp29378), (6, .int x6_lp29378), (5, .int z29370), (4, .int x4_lp29226), (3, .int x3_lp29226), (0, .ref (g 0)), (1, .int p0), (2, .int p1)]) hx hb dX12_best_305 hl (by decide) rfl (fun ls hl => ?_)
                                    refine lv_iload hx hb dX12_best_307 (lv_at hl 2 rfl) ?_
                                    refine lv_iload hx hb dX12_best_309 (lv_at hl 4 rfl) ?_
                                    refine lv_ixor hx hb dX12_best_311 ?_
                                    refine lv_topi (fun z29423 e29424 => ?_)
                                    refine lv_istore (lv' := [(11, .int z29423), (10, .int z29420), (9, .int r29395), (8, .int x8_lp29378), (7, .int x7_lp29378), (6, .int x6_lp29378), (5, .int z29370), (4, .int x4_lp29226), (3, .int x3_lp29226), (0, .ref (g 0)), (1, .int p0), (2, .int p1)]) hx hb dX12_best_312 hl (by decide) rfl (fun ls hl => ?_)
                                    refine lv_iload hx hb dX12_best_314 (lv_at hl 2 rfl) ?_
                                    refine lv_iload hx hb dX12_best_316 (lv_at hl 4 rfl) ?_
                                    refine lv_icmp_gt (tgt := 361) hx hb dX12_best_318 (by decide) (fun c29426 => ?_) (fun c29426 => ?_)
                                    · skip
                                      have t29427 := cv_lt (a := x7_lp29378.toInt) rfl (b := r29395.toInt) rfl c29426
                                      obtain ⟨z29428, e29429⟩ : ∃ y : Int32, y = x8_lp29378 + 1 := ⟨_, rfl⟩
                                      try (have t29430 := tadd e29429 rfl (b := 1) (by decide) (by omega))
                                      refine lv_iinc (v := z29428) (lv' := [(8, .int z29428), (11, .int z29423), (10, .int z29420), (9, .int r29395), (7, .int x7_lp29378), (6, .int x6_lp29378), (5, .int z29370), (4, .int x4_lp29226), (3, .int x3_lp29226), (0, .ref (g 0)), (1, .int p0), (2, .int p1)]) hx hb dX12_best_361 hl (k := 3) rfl (by rw [e29429]; rfl) (by decide) rfl (fun ls hl => ?_)
                                      refine lv_goto (tgt := 200) hx hb dX12_best_364 (by decide) ?_
                                      exact ih_lp29378 z29428 x7_lp29378 x6_lp29378 v29396 F29397 _ _ _ (by omega) (by omega) (frC (by decide) hf29398 (frC (by decide) hf_lp29389 hf_lp29378)) hI hF hP hS (lv_sub hl [0, 4, 5, 6, 7, 8, 9, 10, 11] rfl)
                                    · skip
                                      have t29431 := cv_nlt (a := x7_lp29378.toInt) rfl (b := r29395.toInt) rfl c29426
                                      refine lv_iload hx hb dX12_best_321 (lv_at hl 2 rfl) ?_
                                      refine lv_iload hx hb dX12_best_323 (lv_at hl 4 rfl) ?_
                                      refine lv_icmp_ne (tgt := 353) hx hb dX12_best_325 (by decide) (fun c29432 => ?_) (fun c29432 => ?_)
                                      · skip
                                        have t29433 := cv_ne (a := r29395.toInt) rfl (b := x7_lp29378.toInt) rfl c29432
                                        refine lv_iload hx hb dX12_best_353 (lv_at hl 3 rfl) ?_
                                        refine lv_istore (lv' := [(6, .int x8_lp29378), (11, .int z29423), (10, .int z29420), (9, .int r29395), (8, .int x8_lp29378), (7, .int x7_lp29378), (5, .int z29370), (4, .int x4_lp29226), (3, .int x3_lp29226), (0, .ref (g 0)), (1, .int p0), (2, .int p1)]) hx hb dX12_best_355 hl (by decide) rfl (fun ls hl => ?_)
                                        refine lv_iload hx hb dX12_best_357 (lv_at hl 3 rfl) ?_
                                        refine lv_istore (lv' := [(7, .int r29395), (6, .int x8_lp29378), (11, .int z29423), (10, .int z29420), (9, .int r29395), (8, .int x8_lp29378), (5, .int z29370), (4, .int x4_lp29226), (3, .int x3_lp29226), (0, .ref (g 0)), (1, .int p0), (2, .int p1)]) hx hb dX12_best_359 hl (by decide) rfl (fun ls hl => ?_)
                                        obtain ⟨z29434, e29435⟩ : ∃ y : Int32, y = x8_lp29378 + 1 := ⟨_, rfl⟩
                                        try (have t29436 := tadd e29435 rfl (b := 1) (by decide) (by omega))
                                        refine lv_iinc (v := z29434) (lv' := [(8, .int z29434), (7, .int r29395), (6, .int x8_lp29378), (11, .int z29423), (10, .int z29420), (9, .int r29395), (5, .int z29370), (4, .int x4_lp29226), (3, .int x3_lp29226), (0, .ref (g 0)), (1, .int p0), (2, .int p1)]) hx hb dX12_best_361 hl (k := 5) rfl (by rw [e29435]; rfl) (by decide) rfl (fun ls hl => ?_)
                                        refine lv_goto (tgt := 200) hx hb dX12_best_364 (by decide) ?_
                                        exact ih_lp29378 z29434 r29395 x8_lp29378 v29396 F29397 _ _ _ (by omega) (by omega) (frC (by decide) hf29398 (frC (by decide) hf_lp29389 hf_lp29378)) hI hF hP hS (lv_sub hl [0, 1, 2, 6, 7, 8, 9, 10, 11] rfl)
                                      · skip
                                        have t29437 := cv_eq (a := r29395.toInt) rfl (b := x7_lp29378.toInt) rfl c29432
                                        refine lv_iload hx hb dX12_best_328 (lv_at hl 1 rfl) ?_
                                        refine lv_if_gt (tgt := 361) hx hb dX12_best_330 (by decide) (fun c29438 => ?_) (fun c29438 => ?_)
                                        · skip
                                          have t29439 := cv_lt (a := 0) (by decide) (b := z29420.toInt) rfl c29438
                                          obtain ⟨z29440, e29441⟩ : ∃ y : Int32, y = x8_lp29378 + 1 := ⟨_, rfl⟩
                                          try (have t29442 := tadd e29441 rfl (b := 1) (by decide) (by omega))
                                          refine lv_iinc (v := z29440) (lv' := [(8, .int z29440), (11, .int z29423), (10, .int z29420), (9, .int r29395), (7, .int x7_lp29378), (6, .int x6_lp29378), (5, .int z29370), (4, .int x4_lp29226), (3, .int x3_lp29226), (0, .ref (g 0)), (1, .int p0), (2, .int p1)]) hx hb dX12_best_361 hl (k := 3) rfl (by rw [e29441]; rfl) (by decide) rfl (fun ls hl => ?_)
                                          refine lv_goto (tgt := 200) hx hb dX12_best_364 (by decide) ?_
                                          exact ih_lp29378 z29440 x7_lp29378 x6_lp29378 v29396 F29397 _ _ _ (by omega) (by omega) (frC (by decide) hf29398 (frC (by decide) hf_lp29389 hf_lp29378)) hI hF hP hS (lv_sub hl [0, 4, 5, 6, 7, 8, 9, 10, 11] rfl)
                                        · skip
                                          have t29443 := cv_nlt (a := 0) (by decide) (b := z29420.toInt) rfl c29438
                                          refine lv_iload hx hb dX12_best_333 (lv_at hl 1 rfl) ?_
                                          refine lv_if_ne (tgt := 353) hx hb dX12_best_335 (by decide) (fun c29444 => ?_) (fun c29444 => ?_)
                                          · skip
                                            have t29445 := cv_ne (a := z29420.toInt) rfl (b := 0) (by decide) c29444
                                            refine lv_iload hx hb dX12_best_353 (lv_at hl 3 rfl) ?_
                                            refine lv_istore (lv' := [(6, .int x8_lp29378), (11, .int z29423), (10, .int z29420), (9, .int r29395), (8, .int x8_lp29378), (7, .int x7_lp29378), (5, .int z29370), (4, .int x4_lp29226), (3, .int x3_lp29226), (0, .ref (g 0)), (1, .int p0), (2, .int p1)]) hx hb dX12_best_355 hl (by decide) rfl (fun ls hl => ?_)
                                            refine lv_iload hx hb dX12_best_357 (lv_at hl 3 rfl) ?_
                                            refine lv_istore (lv' := [(7, .int r29395), (6, .int x8_lp29378), (11, .int z29423), (10, .int z29420), (9, .int r29395), (8, .int x8_lp29378), (5, .int z29370), (4, .int x4_lp29226), (3, .int x3_lp29226), (0, .ref (g 0)), (1, .int p0), (2, .int p1)]) hx hb dX12_best_359 hl (by decide) rfl (fun ls hl => ?_)
                                            obtain ⟨z29446, e29447⟩ : ∃ y : Int32, y = x8_lp29378 + 1 := ⟨_, rfl⟩
                                            try (have t29448 := tadd e29447 rfl (b := 1) (by decide) (by omega))
                                            refine lv_iinc (v := z29446) (lv' := [(8, .int z29446), (7, .int r29395), (6, .int x8_lp29378), (11, .int z29423), (10, .int z29420), (9, .int r29395), (5, .int z29370), (4, .int x4_lp29226), (3, .int x3_lp29226), (0, .ref (g 0)), (1, .int p0), (2, .int p1)]) hx hb dX12_best_361 hl (k := 5) rfl (by rw [e29447]; rfl) (by decide) rfl (fun ls hl => ?_)
                                            refine lv_goto (tgt := 200) hx hb dX12_best_364 (by decide) ?_
                                            exact ih_lp29378 z29446 r29395 x8_lp29378 v29396 F29397 _ _ _ (by omega) (by omega) (frC (by decide) hf29398 (frC (by decide) hf_lp29389 hf_lp29378)) hI hF hP hS (lv_sub hl [0, 1, 2, 6, 7, 8, 9, 10, 11] rfl)
                                          · skip
                                            have t29449 := cv_eq (a := z29420.toInt) rfl (b := 0) (by decide) c29444
                                            refine lv_iload hx hb dX12_best_338 (lv_at hl 3 rfl) ?_
                                            refine lv_iload hx hb dX12_best_340 (lv_at hl 0 rfl) ?_
                                            refine lv_iand hx hb dX12_best_342 ?_
                                            refine lv_topi (fun z29450 e29451 => ?_)
                                            refine lv_iload hx hb dX12_best_343 (lv_at hl 0 rfl) ?_
                                            refine lv_ineg hx hb dX12_best_345 ?_
                                            refine lv_topi (fun z29453 e29454 => ?_)
                                            refine lv_iand hx hb dX12_best_346 ?_
                                            refine lv_topi (fun z29455 e29456 => ?_)
                                            refine lv_if_ne (tgt := 353) hx hb dX12_best_347 (by decide) (fun c29458 => ?_) (fun c29458 => ?_)
                                            · skip
                                              have t29459 := cv_ne (a := z29455.toInt) rfl (b := 0) (by decide) c29458
                                              refine lv_iload hx hb dX12_best_353 (lv_at hl 3 rfl) ?_
                                              refine lv_istore (lv' := [(6, .int x8_lp29378), (11, .int z29423), (10, .int z29420), (9, .int r29395), (8, .int x8_lp29378), (7, .int x7_lp29378), (5, .int z29370), (4, .int x4_lp29226), (3, .int x3_lp29226), (0, .ref (g 0)), (1, .int p0), (2, .int p1)]) hx hb dX12_best_355 hl (by decide) rfl (fun ls hl => ?_)
                                              refine lv_iload hx hb dX12_best_357 (lv_at hl 3 rfl) ?_
                                              refine lv_istore (lv' := [(7, .int r29395), (6, .int x8_lp29378), (11, .int z29423), (10, .int z29420), (9, .int r29395), (8, .int x8_lp29378), (5, .int z29370), (4, .int x4_lp29226), (3, .int x3_lp29226), (0, .ref (g 0)), (1, .int p0), (2, .int p1)]) hx hb dX12_best_359 hl (by decide) rfl (fun ls hl => ?_)
                                              obtain ⟨z29460, e29461⟩ : ∃ y : Int32, y = x8_lp29378 + 1 := ⟨_, rfl⟩
                                              try (have t29462 := tadd e29461 rfl (b := 1) (by decide) (by omega))
                                              refine lv_iinc (v := z29460) (lv' := [(8, .int z29460), (7, .int r29395), (6, .int x8_lp29378), (11, .int z29423), (10, .int z29420), (9, .int r29395), (5, .int z29370), (4, .int x4_lp29226), (3, .int x3_lp29226), (0, .ref (g 0)), (1, .int p0), (2, .int p1)]) hx hb dX12_best_361 hl (k := 5) rfl (by rw [e29461]; rfl) (by decide) rfl (fun ls hl => ?_)
                                              refine lv_goto (tgt := 200) hx hb dX12_best_364 (by decide) ?_
                                              exact ih_lp29378 z29460 r29395 x8_lp29378 v29396 F29397 _ _ _ (by omega) (by omega) (frC (by decide) hf29398 (frC (by decide) hf_lp29389 hf_lp29378)) hI hF hP hS (lv_sub hl [0, 1, 2, 6, 7, 8, 9, 10, 11] rfl)
                                            · skip
                                              have t29463 := cv_eq (a := z29455.toInt) rfl (b := 0) (by decide) c29458
                                              refine lv_goto (tgt := 361) hx hb dX12_best_350 (by decide) ?_
                                              obtain ⟨z29464, e29465⟩ : ∃ y : Int32, y = x8_lp29378 + 1 := ⟨_, rfl⟩
                                              try (have t29466 := tadd e29465 rfl (b := 1) (by decide) (by omega))
                                              refine lv_iinc (v := z29464) (lv' := [(8, .int z29464), (11, .int z29423), (10, .int z29420), (9, .int r29395), (7, .int x7_lp29378), (6, .int x6_lp29378), (5, .int z29370), (4, .int x4_lp29226), (3, .int x3_lp29226), (0, .ref (g 0)), (1, .int p0), (2, .int p1)]) hx hb dX12_best_361 hl (k := 3) rfl (by rw [e29465]; rfl) (by decide) rfl (fun ls hl => ?_)
                                              refine lv_goto (tgt := 200) hx hb dX12_best_364 (by decide) ?_
                                              exact ih_lp29378 z29464 x7_lp29378 x6_lp29378 v29396 F29397 _ _ _ (by omega) (by omega) (frC (by decide) hf29398 (frC (by decide) hf_lp29389 hf_lp29378)) hI hF hP hS (lv_sub hl [0, 4, 5, 6, 7, 8, 9, 10, 11] rfl)
                                · skip
                                  have t29467 := cv_nle (a := x3_lp29226.toInt) rfl (b := x9_lp29389.toInt) rfl c29391
                                  refine lv_aload_n hx hb dX12_best_230 rfl (lv_at hl 7 rfl) ?_
                                  refine va_get (D := (dC, dI)) (ci := 12) (v := .ref (g 42)) (C := RX12) (T := TX12) (N := 63) hx hb hwd inA_X12 hown hK hP 0 rfl rfl 56 (by decide) (hwd _ wk_224) (fun _ h9 => h9) rfl dX12_best_231 ?_
                                  refine lv_aload_n hx hb dX12_best_234 rfl (lv_at hl 7 rfl) ?_
                                  refine va_get (D := (dC, dI)) (ci := 12) (v := .ref (g 43)) (C := RX12) (T := TX12) (N := 63) hx hb hwd inA_X12 hown hK hP 0 rfl rfl 59 (by decide) (hwd _ wk_225) (fun _ h9 => h9) rfl dX12_best_235 ?_
                                  refine lv_iload hx hb dX12_best_238 (lv_at hl 0 rfl) ?_
                                  refine va_iald hx hb hK hP 43 42 rfl rfl (i := x9_lp29389) (vin (a := x9_lp29389.toInt) rfl (by omega)) dX12_best_240 ?_
                                  refine lv_topi (fun z29468 e29469 => ?_)
                                  have t29470 : 0 ≤ z29468.toInt ∧ z29468.toInt ≤ 99 := by rw [e29469]; exact hI.2 43 _ _ rfl _
                                  refine lv_iload hx hb dX12_best_241 (lv_at hl 1 rfl) ?_
                                  refine lv_iload hx hb dX12_best_243 (lv_at hl 0 rfl) ?_
                                  refine lv_ishr hx hb dX12_best_245 ?_
                                  refine lv_topi (fun z29471 e29472 => ?_)
                                  refine lv_iconst (v := 1) hx hb dX12_best_246 (by decide) ?_
                                  refine lv_iand hx hb dX12_best_247 ?_
                                  refine lv_topi (fun z29474 e29475 => ?_)
                                  refine lv_iconst (v := 1) hx hb dX12_best_248 (by decide) ?_
                                  refine lv_icmp_ne (tgt := 256) hx hb dX12_best_249 (by decide) (fun c29477 => ?_) (fun c29477 => ?_)
                                  · skip
                                    have t29478 := cv_ne (a := z29474.toInt) rfl (b := 1) (by decide) c29477
                                    refine lv_iconst (v := 0) hx hb dX12_best_256 (by decide) ?_
                                    refine va_zast hx hb hK hP (DM hg) hS 42 41 rfl rfl (i := z29468) (x := 0) (vin (a := z29468.toInt) rfl (by omega)) dX12_best_257 (fun H locs hP _ hS => ?_)
                                    have hP := va_P_eq (sM_42 g c _ _ _ _) hP
                                    have hI := IM.store0 hI 42 (z29468 : Int32).toNatClampNeg (vp_nar .boolean 0) rfl
                                    have hF := frUF (k := 42) (f := upd (F_lp29389 42) (z29468 : Int32).toNatClampNeg (vp_nar .boolean 0)) (by decide) hF
                                    have hP : va_P (dC, dI) classes (wM g c v_lp29389 (va_up F_lp29389 42 (upd (F_lp29389 42) (z29468 : Int32).toNatClampNeg (vp_nar .boolean 0))) rc) H := hP
                                    generalize (va_up F_lp29389 42 (upd (F_lp29389 42) (z29468 : Int32).toNatClampNeg (vp_nar .boolean 0))) = F29479 at hP hI hF
                                    obtain ⟨z29480, e29481⟩ : ∃ y : Int32, y = x9_lp29389 + 1 := ⟨_, rfl⟩
                                    try (have t29482 := tadd e29481 rfl (b := 1) (by decide) (by omega))
                                    refine lv_iinc (v := z29480) (lv' := [(9, .int z29480), (8, .int x8_lp29378), (7, .int x7_lp29378), (6, .int x6_lp29378), (5, .int z29370), (4, .int x4_lp29226), (3, .int x3_lp29226), (0, .ref (g 0)), (1, .int p0), (2, .int p1)]) hx hb dX12_best_258 hl (k := 0) rfl (by rw [e29481]; rfl) (by decide) rfl (fun ls hl => ?_)
                                    refine lv_goto (tgt := 224) hx hb dX12_best_261 (by decide) ?_
                                    exact ih_lp29389 z29480 v_lp29389 F29479 _ _ _ (by omega) (by omega) hf_lp29389 hI hF hP hS (lv_sub hl [0, 1, 2, 3, 4, 5, 6, 7, 8, 9] rfl)
                                  · skip
                                    have t29483 := cv_eq (a := z29474.toInt) rfl (b := 1) (by decide) c29477
                                    refine lv_iconst (v := 1) hx hb dX12_best_252 (by decide) ?_
                                    refine lv_goto (tgt := 257) hx hb dX12_best_253 (by decide) ?_
                                    refine va_zast hx hb hK hP (DM hg) hS 42 41 rfl rfl (i := z29468) (x := 1) (vin (a := z29468.toInt) rfl (by omega)) dX12_best_257 (fun H locs hP _ hS => ?_)
                                    have hP := va_P_eq (sM_42 g c _ _ _ _) hP
                                    have hI := IM.store0 hI 42 (z29468 : Int32).toNatClampNeg (vp_nar .boolean 1) rfl
                                    have hF := frUF (k := 42) (f := upd (F_lp29389 42) (z29468 : Int32).toNatClampNeg (vp_nar .boolean 1)) (by decide) hF
                                    have hP : va_P (dC, dI) classes (wM g c v_lp29389 (va_up F_lp29389 42 (upd (F_lp29389 42) (z29468 : Int32).toNatClampNeg (vp_nar .boolean 1))) rc) H := hP
                                    generalize (va_up F_lp29389 42 (upd (F_lp29389 42) (z29468 : Int32).toNatClampNeg (vp_nar .boolean 1))) = F29484 at hP hI hF
                                    obtain ⟨z29485, e29486⟩ : ∃ y : Int32, y = x9_lp29389 + 1 := ⟨_, rfl⟩
                                    try (have t29487 := tadd e29486 rfl (b := 1) (by decide) (by omega))
                                    refine lv_iinc (v := z29485) (lv' := [(9, .int z29485), (8, .int x8_lp29378), (7, .int x7_lp29378), (6, .int x6_lp29378), (5, .int z29370), (4, .int x4_lp29226), (3, .int x3_lp29226), (0, .ref (g 0)), (1, .int p0), (2, .int p1)]) hx hb dX12_best_258 hl (k := 0) rfl (by rw [e29486]; rfl) (by decide) rfl (fun ls hl => ?_)
                                    refine lv_goto (tgt := 224) hx hb dX12_best_261 (by decide) ?_
                                    exact ih_lp29389 z29485 v_lp29389 F29484 _ _ _ (by omega) (by omega) hf_lp29389 hI hF hP hS (lv_sub hl [0, 1, 2, 3, 4, 5, 6, 7, 8, 9] rfl)
                            obtain ⟨n9, hn9⟩ : ∃ n : Nat, 2147483648 - 0 ≤ (n : Int) := ⟨((2147483648 - 0 : Int)).toNat, by omega⟩
                            exact lp29389 n9 0 v_lp29378 F_lp29378 H _ ls (by have : (0 : Int32).toInt = 0 := (by decide); omega) (by have : (0 : Int32).toInt = 0 := (by decide); omega) (fun _ _ => rfl) hI hF hP hS hl
                          · skip
                            have t29488 := cv_ne (a := r29386.toInt) rfl (b := z29370.toInt) rfl c29387
                            refine lv_goto (tgt := 361) hx hb dX12_best_218 (by decide) ?_
                            obtain ⟨z29489, e29490⟩ : ∃ y : Int32, y = x8_lp29378 + 1 := ⟨_, rfl⟩
                            try (have t29491 := tadd e29490 rfl (b := 1) (by decide) (by omega))
                            refine lv_iinc (v := z29489) (lv' := [(8, .int z29489), (7, .int x7_lp29378), (6, .int x6_lp29378), (5, .int z29370), (4, .int x4_lp29226), (3, .int x3_lp29226), (0, .ref (g 0)), (1, .int p0), (2, .int p1)]) hx hb dX12_best_361 hl (k := 0) rfl (by rw [e29490]; rfl) (by decide) rfl (fun ls hl => ?_)
                            refine lv_goto (tgt := 200) hx hb dX12_best_364 (by decide) ?_
                            exact ih_lp29378 z29489 x7_lp29378 x6_lp29378 v_lp29378 F_lp29378 _ _ _ (by omega) (by omega) hf_lp29378 hI hF hP hS (lv_sub hl [0, 1, 2, 3, 4, 5, 6, 7, 8] rfl)
                    obtain ⟨n9, hn9⟩ : ∃ n : Nat, 2147483648 - 0 ≤ (n : Int) := ⟨((2147483648 - 0 : Int)).toNat, by omega⟩
                    exact lp29378 n9 0 0 (-1) v29374 F29375 H _ ls (by have : (0 : Int32).toInt = 0 := (by decide); have : (0 : Int32).toInt = 0 := (by decide); have : ((-1) : Int32).toInt = (-1) := (by decide); omega) (by have : (0 : Int32).toInt = 0 := (by decide); have : (0 : Int32).toInt = 0 := (by decide); have : ((-1) : Int32).toInt = (-1) := (by decide); omega) (fun _ _ => rfl) hI hF hP hS hl
                · skip
                  have t29492 := cv_nle (a := (v 14).toInt) rfl (b := x5_lp29226.toInt) rfl c29231
                  refine lv_aload_n hx hb dX12_best_68 rfl (lv_at hl 3 rfl) ?_
                  refine va_get (D := (dC, dI)) (ci := 12) (v := .ref (g 11)) (C := RX12) (T := TX12) (N := 63) hx hb hwd inA_X12 hown hK hP 0 rfl rfl 15 (by decide) (hwd _ wk_192) (fun _ h9 => h9) rfl dX12_best_69 ?_
                  refine lv_iload hx hb dX12_best_72 (lv_at hl 0 rfl) ?_
                  refine va_iald hx hb hK hP 11 10 rfl rfl (i := x5_lp29226) (vin (a := x5_lp29226.toInt) rfl (by omega)) dX12_best_74 ?_
                  refine lv_topi (fun z29493 e29494 => ?_)
                  have t29495 : 0 ≤ z29493.toInt ∧ z29493.toInt ≤ 9 := by rw [e29494]; exact hI.2 11 _ _ rfl _
                  have e29494 : z29493 = F 11 (x5_lp29226 : Int32).toNatClampNeg := e29494.trans (congrFun (hF 11 (by decide)) _)
                  refine lv_iload_n hx hb dX12_best_75 rfl (lv_at hl 5 rfl) ?_
                  refine lv_icmp_ne (tgt := 148) hx hb dX12_best_76 (by decide) (fun c29496 => ?_) (fun c29496 => ?_)
                  · skip
                    have t29497 := cv_ne (a := z29493.toInt) rfl (b := p1.toInt) rfl c29496
                    obtain ⟨z29498, e29499⟩ : ∃ y : Int32, y = x5_lp29226 + 1 := ⟨_, rfl⟩
                    try (have t29500 := tadd e29499 rfl (b := 1) (by decide) (by omega))
                    refine lv_iinc (v := z29498) (lv' := [(5, .int z29498), (4, .int x4_lp29226), (3, .int x3_lp29226), (0, .ref (g 0)), (1, .int p0), (2, .int p1)]) hx hb dX12_best_148 hl (k := 0) rfl (by rw [e29499]; rfl) (by decide) rfl (fun ls hl => ?_)
                    refine lv_goto (tgt := 59) hx hb dX12_best_151 (by decide) ?_
                    exact ih_lp29226 z29498 x4_lp29226 x3_lp29226 v_lp29226 F_lp29226 _ _ _ (by omega) (by omega) (by omega) (by omega) hf_lp29226 hI hF hP hS (lv_sub hl [0, 1, 2, 3, 4, 5] rfl)
                  · skip
                    have t29501 := cv_eq (a := z29493.toInt) rfl (b := p1.toInt) rfl c29496
                    refine lv_aload_n hx hb dX12_best_79 rfl (lv_at hl 3 rfl) ?_
                    refine va_get (D := (dC, dI)) (ci := 12) (v := .ref (g 13)) (C := RX12) (T := TX12) (N := 63) hx hb hwd inA_X12 hown hK hP 0 rfl rfl 17 (by decide) (hwd _ wk_194) (fun _ h9 => h9) rfl dX12_best_80 ?_
                    refine lv_iload hx hb dX12_best_83 (lv_at hl 0 rfl) ?_
                    refine va_iald hx hb hK hP 13 12 rfl rfl (i := x5_lp29226) (vin (a := x5_lp29226.toInt) rfl (by omega)) dX12_best_85 ?_
                    refine lv_topi (fun z29502 e29503 => ?_)
                    have t29504 : 0 ≤ z29502.toInt ∧ z29502.toInt ≤ 12 := by rw [e29503]; exact hI.2 13 _ _ rfl _
                    have e29503 : z29502 = F 13 (x5_lp29226 : Int32).toNatClampNeg := e29503.trans (congrFun (hF 13 (by decide)) _)
                    refine lv_iload_n hx hb dX12_best_86 rfl (lv_at hl 4 rfl) ?_
                    refine lv_icmp_eq (tgt := 105) hx hb dX12_best_87 (by decide) (fun c29505 => ?_) (fun c29505 => ?_)
                    · skip
                      have t29506 := cv_eq (a := z29502.toInt) rfl (b := p0.toInt) rfl c29505
                      refine lv_iload_n hx hb dX12_best_105 rfl (lv_at hl 2 rfl) ?_
                      refine lv_bipush (v := 8) hx hb dX12_best_106 (by decide) ?_
                      refine lv_icmp_ne (tgt := 114) hx hb dX12_best_108 (by decide) (fun c29507 => ?_) (fun c29507 => ?_)
                      · skip
                        have t29508 := cv_ne (a := x3_lp29226.toInt) rfl (b := 8) (by decide) c29507
                        refine lv_aload_n hx hb dX12_best_114 rfl (lv_at hl 3 rfl) ?_
                        refine va_get (D := (dC, dI)) (ci := 12) (v := .ref (g 43)) (C := RX12) (T := TX12) (N := 63) hx hb hwd inA_X12 hown hK hP 0 rfl rfl 59 (by decide) (hwd _ wk_225) (fun _ h9 => h9) rfl dX12_best_115 ?_
                        refine lv_iload_n hx hb dX12_best_118 rfl (lv_at hl 2 rfl) ?_
                        refine lv_iload hx hb dX12_best_119 (lv_at hl 0 rfl) ?_
                        refine va_iast hx hb hK hP (DM hg) hS 43 42 rfl rfl (i := x3_lp29226) (x := x5_lp29226) (vin (a := x3_lp29226.toInt) rfl (by omega)) dX12_best_121 (fun H locs hP _ hS => ?_)
                        have hP := va_P_eq (sM_43 g c _ _ _ _) hP
                        have hI := IM.store hI 43 (x3_lp29226 : Int32).toNatClampNeg x5_lp29226 rfl (by omega)
                        have hF := frUF (k := 43) (f := upd (F_lp29226 43) (x3_lp29226 : Int32).toNatClampNeg x5_lp29226) (by decide) hF
                        have hP : va_P (dC, dI) classes (wM g c v_lp29226 (va_up F_lp29226 43 (upd (F_lp29226 43) (x3_lp29226 : Int32).toNatClampNeg x5_lp29226)) rc) H := hP
                        generalize (va_up F_lp29226 43 (upd (F_lp29226 43) (x3_lp29226 : Int32).toNatClampNeg x5_lp29226)) = F29509 at hP hI hF
                        refine lv_iload hx hb dX12_best_122 (lv_at hl 1 rfl) ?_
                        refine lv_aload_n hx hb dX12_best_124 rfl (lv_at hl 3 rfl) ?_
                        refine va_get (D := (dC, dI)) (ci := 12) (v := .ref (g 13)) (C := RX12) (T := TX12) (N := 63) hx hb hwd inA_X12 hown hK hP 0 rfl rfl 17 (by decide) (hwd _ wk_194) (fun _ h9 => h9) rfl dX12_best_125 ?_
                        refine lv_iload hx hb dX12_best_128 (lv_at hl 0 rfl) ?_
                        refine va_iald hx hb hK hP 13 12 rfl rfl (i := x5_lp29226) (vin (a := x5_lp29226.toInt) rfl (by omega)) dX12_best_130 ?_
                        refine lv_topi (fun z29510 e29511 => ?_)
                        have t29512 : 0 ≤ z29510.toInt ∧ z29510.toInt ≤ 12 := by rw [e29511]; exact hI.2 13 _ _ rfl _
                        have e29511 : z29510 = F 13 (x5_lp29226 : Int32).toNatClampNeg := e29511.trans (congrFun (hF 13 (by decide)) _)
                        refine lv_iload_n hx hb dX12_best_131 rfl (lv_at hl 4 rfl) ?_
                        refine lv_icmp_ne (tgt := 141) hx hb dX12_best_132 (by decide) (fun c29513 => ?_) (fun c29513 => ?_)
                        · skip
                          have t29514 := cv_ne (a := z29510.toInt) rfl (b := p0.toInt) rfl c29513
                          refine lv_iconst (v := 0) hx hb dX12_best_141 (by decide) ?_
                          refine lv_ior hx hb dX12_best_142 ?_
                          refine lv_topi (fun z29515 e29516 => ?_)
                          refine lv_istore (lv' := [(4, .int z29515), (5, .int x5_lp29226), (3, .int x3_lp29226), (0, .ref (g 0)), (1, .int p0), (2, .int p1)]) hx hb dX12_best_143 hl (by decide) rfl (fun ls hl => ?_)
                          obtain ⟨z29518, e29519⟩ : ∃ y : Int32, y = x3_lp29226 + 1 := ⟨_, rfl⟩
                          try (have t29520 := tadd e29519 rfl (b := 1) (by decide) (by omega))
                          refine lv_iinc (v := z29518) (lv' := [(3, .int z29518), (4, .int z29515), (5, .int x5_lp29226), (0, .ref (g 0)), (1, .int p0), (2, .int p1)]) hx hb dX12_best_145 hl (k := 2) rfl (by rw [e29519]; rfl) (by decide) rfl (fun ls hl => ?_)
                          obtain ⟨z29521, e29522⟩ : ∃ y : Int32, y = x5_lp29226 + 1 := ⟨_, rfl⟩
                          try (have t29523 := tadd e29522 rfl (b := 1) (by decide) (by omega))
                          refine lv_iinc (v := z29521) (lv' := [(5, .int z29521), (3, .int z29518), (4, .int z29515), (0, .ref (g 0)), (1, .int p0), (2, .int p1)]) hx hb dX12_best_148 hl (k := 2) rfl (by rw [e29522]; rfl) (by decide) rfl (fun ls hl => ?_)
                          refine lv_goto (tgt := 59) hx hb dX12_best_151 (by decide) ?_
                          exact ih_lp29226 z29521 z29515 z29518 v_lp29226 F29509 _ _ _ (by omega) (by omega) (by omega) (by omega) hf_lp29226 hI hF hP hS (lv_sub hl [0, 2, 1, 3, 4, 5] rfl)
                        · skip
                          have t29524 := cv_eq (a := z29510.toInt) rfl (b := p0.toInt) rfl c29513
                          refine lv_iconst (v := 1) hx hb dX12_best_135 (by decide) ?_
                          refine lv_iload_n hx hb dX12_best_136 rfl (lv_at hl 2 rfl) ?_
                          refine lv_ishl hx hb dX12_best_137 ?_
                          refine lv_topi (fun z29525 e29526 => ?_)
                          have rr_z29525 := i32_rng z29525
                          refine lv_goto (tgt := 142) hx hb dX12_best_138 (by decide) ?_
                          refine lv_ior hx hb dX12_best_142 ?_
                          refine lv_topi (fun z29528 e29529 => ?_)
                          refine lv_istore (lv' := [(4, .int z29528), (5, .int x5_lp29226), (3, .int x3_lp29226), (0, .ref (g 0)), (1, .int p0), (2, .int p1)]) hx hb dX12_best_143 hl (by decide) rfl (fun ls hl => ?_)
                          obtain ⟨z29531, e29532⟩ : ∃ y : Int32, y = x3_lp29226 + 1 := ⟨_, rfl⟩
                          try (have t29533 := tadd e29532 rfl (b := 1) (by decide) (by omega))
                          refine lv_iinc (v := z29531) (lv' := [(3, .int z29531), (4, .int z29528), (5, .int x5_lp29226), (0, .ref (g 0)), (1, .int p0), (2, .int p1)]) hx hb dX12_best_145 hl (k := 2) rfl (by rw [e29532]; rfl) (by decide) rfl (fun ls hl => ?_)
                          obtain ⟨z29534, e29535⟩ : ∃ y : Int32, y = x5_lp29226 + 1 := ⟨_, rfl⟩
                          try (have t29536 := tadd e29535 rfl (b := 1) (by decide) (by omega))
                          refine lv_iinc (v := z29534) (lv' := [(5, .int z29534), (3, .int z29531), (4, .int z29528), (0, .ref (g 0)), (1, .int p0), (2, .int p1)]) hx hb dX12_best_148 hl (k := 2) rfl (by rw [e29535]; rfl) (by decide) rfl (fun ls hl => ?_)
                          refine lv_goto (tgt := 59) hx hb dX12_best_151 (by decide) ?_
                          exact ih_lp29226 z29534 z29528 z29531 v_lp29226 F29509 _ _ _ (by omega) (by omega) (by omega) (by omega) hf_lp29226 hI hF hP hS (lv_sub hl [0, 2, 1, 3, 4, 5] rfl)
                      · skip
                        have t29537 := cv_eq (a := x3_lp29226.toInt) rfl (b := 8) (by decide) c29507
                        refine lv_bipush (v := (-4)) hx hb dX12_best_111 (by decide) ?_
                        have hP9 : va_P (dC, dI) classes (wM g c v_lp29226 F_lp29226 rc) H := hP
                        exact W.iret (v := (-4)) hx hb hr (fun t ht hW => ⟨⟨(-4), (v_lp29226, F_lp29226, rc), rfl, ⟨hI, rfl, (frC (by decide) hf_lp29226 (fun _ _ => rfl)), hF, trivial⟩, (by show va_P _ _ _ t.heap; rw [ht]; exact hP9)⟩, hS.F ht⟩) hS.2.2 dX12_best_113
                    · skip
                      have t29538 := cv_ne (a := z29502.toInt) rfl (b := p0.toInt) rfl c29505
                      refine lv_aload_n hx hb dX12_best_90 rfl (lv_at hl 3 rfl) ?_
                      refine va_get (D := (dC, dI)) (ci := 12) (v := .ref (g 13)) (C := RX12) (T := TX12) (N := 63) hx hb hwd inA_X12 hown hK hP 0 rfl rfl 17 (by decide) (hwd _ wk_194) (fun _ h9 => h9) rfl dX12_best_91 ?_
                      refine lv_iload hx hb dX12_best_94 (lv_at hl 0 rfl) ?_
                      refine va_iald hx hb hK hP 13 12 rfl rfl (i := x5_lp29226) (vin (a := x5_lp29226.toInt) rfl (by omega)) dX12_best_96 ?_
                      refine lv_topi (fun z29539 e29540 => ?_)
                      have t29541 : 0 ≤ z29539.toInt ∧ z29539.toInt ≤ 12 := by rw [e29540]; exact hI.2 13 _ _ rfl _
                      have e29540 : z29539 = F 13 (x5_lp29226 : Int32).toNatClampNeg := e29540.trans (congrFun (hF 13 (by decide)) _)
                      refine lv_bipush (v := 11) hx hb dX12_best_97 (by decide) ?_
                      refine lv_icmp_eq (tgt := 105) hx hb dX12_best_99 (by decide) (fun c29542 => ?_) (fun c29542 => ?_)
                      · skip
                        have t29543 := cv_eq (a := z29539.toInt) rfl (b := 11) (by decide) c29542
                        refine lv_iload_n hx hb dX12_best_105 rfl (lv_at hl 2 rfl) ?_
                        refine lv_bipush (v := 8) hx hb dX12_best_106 (by decide) ?_
                        refine lv_icmp_ne (tgt := 114) hx hb dX12_best_108 (by decide) (fun c29544 => ?_) (fun c29544 => ?_)
                        · skip
                          have t29545 := cv_ne (a := x3_lp29226.toInt) rfl (b := 8) (by decide) c29544
                          refine lv_aload_n hx hb dX12_best_114 rfl (lv_at hl 3 rfl) ?_
                          refine va_get (D := (dC, dI)) (ci := 12) (v := .ref (g 43)) (C := RX12) (T := TX12) (N := 63) hx hb hwd inA_X12 hown hK hP 0 rfl rfl 59 (by decide) (hwd _ wk_225) (fun _ h9 => h9) rfl dX12_best_115 ?_
                          refine lv_iload_n hx hb dX12_best_118 rfl (lv_at hl 2 rfl) ?_
                          refine lv_iload hx hb dX12_best_119 (lv_at hl 0 rfl) ?_
                          refine va_iast hx hb hK hP (DM hg) hS 43 42 rfl rfl (i := x3_lp29226) (x := x5_lp29226) (vin (a := x3_lp29226.toInt) rfl (by omega)) dX12_best_121 (fun H locs hP _ hS => ?_)
                          have hP := va_P_eq (sM_43 g c _ _ _ _) hP
                          have hI := IM.store hI 43 (x3_lp29226 : Int32).toNatClampNeg x5_lp29226 rfl (by omega)
                          have hF := frUF (k := 43) (f := upd (F_lp29226 43) (x3_lp29226 : Int32).toNatClampNeg x5_lp29226) (by decide) hF
                          have hP : va_P (dC, dI) classes (wM g c v_lp29226 (va_up F_lp29226 43 (upd (F_lp29226 43) (x3_lp29226 : Int32).toNatClampNeg x5_lp29226)) rc) H := hP
                          generalize (va_up F_lp29226 43 (upd (F_lp29226 43) (x3_lp29226 : Int32).toNatClampNeg x5_lp29226)) = F29546 at hP hI hF
                          refine lv_iload hx hb dX12_best_122 (lv_at hl 1 rfl) ?_
                          refine lv_aload_n hx hb dX12_best_124 rfl (lv_at hl 3 rfl) ?_
                          refine va_get (D := (dC, dI)) (ci := 12) (v := .ref (g 13)) (C := RX12) (T := TX12) (N := 63) hx hb hwd inA_X12 hown hK hP 0 rfl rfl 17 (by decide) (hwd _ wk_194) (fun _ h9 => h9) rfl dX12_best_125 ?_
                          refine lv_iload hx hb dX12_best_128 (lv_at hl 0 rfl) ?_
                          refine va_iald hx hb hK hP 13 12 rfl rfl (i := x5_lp29226) (vin (a := x5_lp29226.toInt) rfl (by omega)) dX12_best_130 ?_
                          refine lv_topi (fun z29547 e29548 => ?_)
                          have t29549 : 0 ≤ z29547.toInt ∧ z29547.toInt ≤ 12 := by rw [e29548]; exact hI.2 13 _ _ rfl _
                          have e29548 : z29547 = F 13 (x5_lp29226 : Int32).toNatClampNeg := e29548.trans (congrFun (hF 13 (by decide)) _)
                          refine lv_iload_n hx hb dX12_best_131 rfl (lv_at hl 4 rfl) ?_
                          refine lv_icmp_ne (tgt := 141) hx hb dX12_best_132 (by decide) (fun c29550 => ?_) (fun c29550 => ?_)
                          · skip
                            have t29551 := cv_ne (a := z29547.toInt) rfl (b := p0.toInt) rfl c29550
                            refine lv_iconst (v := 0) hx hb dX12_best_141 (by decide) ?_
                            refine lv_ior hx hb dX12_best_142 ?_
                            refine lv_topi (fun z29552 e29553 => ?_)
                            refine lv_istore (lv' := [(4, .int z29552), (5, .int x5_lp29226), (3, .int x3_lp29226), (0, .ref (g 0)), (1, .int p0), (2, .int p1)]) hx hb dX12_best_143 hl (by decide) rfl (fun ls hl => ?_)
                            obtain ⟨z29555, e29556⟩ : ∃ y : Int32, y = x3_lp29226 + 1 := ⟨_, rfl⟩
                            try (have t29557 := tadd e29556 rfl (b := 1) (by decide) (by omega))
                            refine lv_iinc (v := z29555) (lv' := [(3, .int z29555), (4, .int z29552), (5, .int x5_lp29226), (0, .ref (g 0)), (1, .int p0), (2, .int p1)]) hx hb dX12_best_145 hl (k := 2) rfl (by rw [e29556]; rfl) (by decide) rfl (fun ls hl => ?_)
                            obtain ⟨z29558, e29559⟩ : ∃ y : Int32, y = x5_lp29226 + 1 := ⟨_, rfl⟩
                            try (have t29560 := tadd e29559 rfl (b := 1) (by decide) (by omega))
                            refine lv_iinc (v := z29558) (lv' := [(5, .int z29558), (3, .int z29555), (4, .int z29552), (0, .ref (g 0)), (1, .int p0), (2, .int p1)]) hx hb dX12_best_148 hl (k := 2) rfl (by rw [e29559]; rfl) (by decide) rfl (fun ls hl => ?_)
                            refine lv_goto (tgt := 59) hx hb dX12_best_151 (by decide) ?_
                            exact ih_lp29226 z29558 z29552 z29555 v_lp29226 F29546 _ _ _ (by omega) (by omega) (by omega) (by omega) hf_lp29226 hI hF hP hS (lv_sub hl [0, 2, 1, 3, 4, 5] rfl)
                          · skip
                            have t29561 := cv_eq (a := z29547.toInt) rfl (b := p0.toInt) rfl c29550
                            refine lv_iconst (v := 1) hx hb dX12_best_135 (by decide) ?_
                            refine lv_iload_n hx hb dX12_best_136 rfl (lv_at hl 2 rfl) ?_
                            refine lv_ishl hx hb dX12_best_137 ?_
                            refine lv_topi (fun z29562 e29563 => ?_)
                            have rr_z29562 := i32_rng z29562
                            refine lv_goto (tgt := 142) hx hb dX12_best_138 (by decide) ?_
                            refine lv_ior hx hb dX12_best_142 ?_
                            refine lv_topi (fun z29565 e29566 => ?_)
                            refine lv_istore (lv' := [(4, .int z29565), (5, .int x5_lp29226), (3, .int x3_lp29226), (0, .ref (g 0)), (1, .int p0), (2, .int p1)]) hx hb dX12_best_143 hl (by decide) rfl (fun ls hl => ?_)
                            obtain ⟨z29568, e29569⟩ : ∃ y : Int32, y = x3_lp29226 + 1 := ⟨_, rfl⟩
                            try (have t29570 := tadd e29569 rfl (b := 1) (by decide) (by omega))
                            refine lv_iinc (v := z29568) (lv' := [(3, .int z29568), (4, .int z29565), (5, .int x5_lp29226), (0, .ref (g 0)), (1, .int p0), (2, .int p1)]) hx hb dX12_best_145 hl (k := 2) rfl (by rw [e29569]; rfl) (by decide) rfl (fun ls hl => ?_)
                            obtain ⟨z29571, e29572⟩ : ∃ y : Int32, y = x5_lp29226 + 1 := ⟨_, rfl⟩
                            try (have t29573 := tadd e29572 rfl (b := 1) (by decide) (by omega))
                            refine lv_iinc (v := z29571) (lv' := [(5, .int z29571), (3, .int z29568), (4, .int z29565), (0, .ref (g 0)), (1, .int p0), (2, .int p1)]) hx hb dX12_best_148 hl (k := 2) rfl (by rw [e29572]; rfl) (by decide) rfl (fun ls hl => ?_)
                            refine lv_goto (tgt := 59) hx hb dX12_best_151 (by decide) ?_
                            exact ih_lp29226 z29571 z29565 z29568 v_lp29226 F29546 _ _ _ (by omega) (by omega) (by omega) (by omega) hf_lp29226 hI hF hP hS (lv_sub hl [0, 2, 1, 3, 4, 5] rfl)
                        · skip
                          have t29574 := cv_eq (a := x3_lp29226.toInt) rfl (b := 8) (by decide) c29544
                          refine lv_bipush (v := (-4)) hx hb dX12_best_111 (by decide) ?_
                          have hP9 : va_P (dC, dI) classes (wM g c v_lp29226 F_lp29226 rc) H := hP
                          exact W.iret (v := (-4)) hx hb hr (fun t ht hW => ⟨⟨(-4), (v_lp29226, F_lp29226, rc), rfl, ⟨hI, rfl, (frC (by decide) hf_lp29226 (fun _ _ => rfl)), hF, trivial⟩, (by show va_P _ _ _ t.heap; rw [ht]; exact hP9)⟩, hS.F ht⟩) hS.2.2 dX12_best_113
                      · skip
                        have t29575 := cv_ne (a := z29539.toInt) rfl (b := 11) (by decide) c29542
                        refine lv_goto (tgt := 148) hx hb dX12_best_102 (by decide) ?_
                        obtain ⟨z29576, e29577⟩ : ∃ y : Int32, y = x5_lp29226 + 1 := ⟨_, rfl⟩
                        try (have t29578 := tadd e29577 rfl (b := 1) (by decide) (by omega))
                        refine lv_iinc (v := z29576) (lv' := [(5, .int z29576), (4, .int x4_lp29226), (3, .int x3_lp29226), (0, .ref (g 0)), (1, .int p0), (2, .int p1)]) hx hb dX12_best_148 hl (k := 0) rfl (by rw [e29577]; rfl) (by decide) rfl (fun ls hl => ?_)
                        refine lv_goto (tgt := 59) hx hb dX12_best_151 (by decide) ?_
                        exact ih_lp29226 z29576 x4_lp29226 x3_lp29226 v_lp29226 F_lp29226 _ _ _ (by omega) (by omega) (by omega) (by omega) hf_lp29226 hI hF hP hS (lv_sub hl [0, 1, 2, 3, 4, 5] rfl)
            obtain ⟨n9, hn9⟩ : ∃ n : Nat, 2147483648 - 0 ≤ (n : Int) := ⟨((2147483648 - 0 : Int)).toNat, by omega⟩
            exact lp29226 n9 0 0 0 v F H _ ls (by have : (0 : Int32).toInt = 0 := (by decide); have : (0 : Int32).toInt = 0 := (by decide); have : (0 : Int32).toInt = 0 := (by decide); omega) (by have : (0 : Int32).toInt = 0 := (by decide); have : (0 : Int32).toInt = 0 := (by decide); have : (0 : Int32).toInt = 0 := (by decide); omega) (by have : (0 : Int32).toInt = 0 := (by decide); have : (0 : Int32).toInt = 0 := (by decide); have : (0 : Int32).toInt = 0 := (by decide); omega) (by have : (0 : Int32).toInt = 0 := (by decide); have : (0 : Int32).toInt = 0 := (by decide); have : (0 : Int32).toInt = 0 := (by decide); omega) (fun _ _ => rfl) hI hF hP hS hl
          · skip
            have t29579 := cv_eq (a := z29222.toInt) rfl (b := 0) (by decide) c29224
            refine lv_bipush (v := (-2)) hx hb dX12_best_48 (by decide) ?_
            have hP9 : va_P (dC, dI) classes (wM g c v F rc) H := hP
            exact W.iret (v := (-2)) hx hb hr (fun t ht hW => ⟨⟨(-2), (v, F, rc), rfl, ⟨hI, rfl, (fun _ _ => rfl), hF, trivial⟩, (by show va_P _ _ _ t.heap; rw [ht]; exact hP9)⟩, hS.F ht⟩) hS.2.2 dX12_best_50
    · skip
      have t29580 := cv_eq (a := r29205.toInt) rfl (b := 0) (by decide) c29206
      refine lv_iconst (v := (-1)) hx hb dX12_best_16 (by decide) ?_
      have hP9 : va_P (dC, dI) classes (wM g c v F rc) H := hP
      exact W.iret (v := (-1)) hx hb hr (fun t ht hW => ⟨⟨(-1), (v, F, rc), rfl, ⟨hI, rfl, (fun _ _ => rfl), hF, trivial⟩, (by show va_P _ _ _ t.heap; rw [ht]; exact hP9)⟩, hS.F ht⟩) hS.2.2 dX12_best_17
