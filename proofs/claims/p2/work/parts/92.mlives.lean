def limJ (K : Nat → Int32) (i m : Int32) : Nat := (3 * K i.toNatClampNeg + m).toNatClampNeg
set_option maxHeartbeats 8000000 in
set_option maxRecDepth 100000 in
theorem c_X12_lostBy (l : Launch) (dC : Nat → ClassId) (dI : Nat → Nat → Nat) (g : Nat → Nat) (c : Nat → ClassId) (adK adV : Nat → Nat) (v : Nat → Int32) (F : Nat → Nat → Int32) (rc sz : Nat) (p0 : Int32) (p1 : Int32) (hg : injM g) (hI : IM v F) (h0 : 0 ≤ p0.toInt ∧ p0.toInt ≤ 499) (hL : JL (v 31) (F 28) (F 29) (F 27)) : Met l yX12_lostBy (Cond.code yX12_lostBy cX12_lostBy 6 (some .int) :: wA) ({ frames := 3, cells := 0, slots := 0, locals := 120 }) (va_Pc [.ref (g 0), .int p0, .int p1] (PM dC dI g c adK adV v F rc sz)) (va_Qi (fun (r : Int32) (u : StM) => IM u.1 u.2.1 ∧ u.2.2 = rc ∧ (∀ k, k ∉ ([] : List Nat) → u.1 k = v k) ∧ (∀ k, k ∉ ([30, 31] : List Nat) → u.2.1 k = F k) ∧ 0 ≤ r.toInt ∧ r.toInt ≤ 100) (BM dC dI g c) (AM g sz)) 0 0 (AM g sz) := by
  refine Met.ofW (cc := cX12_lostBy) (maxL := 6) (ret := (some .int)) (by decide) rfl ?_
  intro p e s m args below meth c0 s₁ B hml hv
  obtain ⟨rfl, hsz, hP, hK, hE⟩ := hv
  have hx := B.exec
  have hb := B.bytes
  have hr := B.returns
  have hts := atoms_spec (ws := Cond.code yX12_lostBy cX12_lostBy 6 (some .int) :: wA) B.pre
  have hwd : ∀ w ∈ wA, w.before _ s = true := fun w h => hts w (List.mem_cons_of_mem _ h)
  have hown : s.vm.findClass RX12 = some m.cls := findClass_of_methodNamed B.named
  have hlocks := B.notSynchronized
  subst hsz
  have hl := lv_entry ([.ref (g 0), .int p0, .int p1]) (n := 6) (Nat.le_of_ble_eq_true rfl)
  rw [lg_entry_eq]
  generalize (lg_sl ([.ref (g 0), .int p0, .int p1]) ++ List.replicate (6 - (lg_sl ([.ref (g 0), .int p0, .int p1])).length) Slot.unset).toArray = ls at hl ⊢
  have hl : lv_has ls 6 [(0, .ref (g 0)), (1, .int p0), (2, .int p1)] := hl
  obtain ⟨H, eH⟩ : ∃ z, z = s.heap := ⟨_, rfl⟩
  have hP : va_P (dC, dI) classes (wM g c v F rc) H := by rw [eH]; exact hP
  have hS : va_S (AM g s.heap.size) s.heap H [] := by rw [eH]; exact va_S.rf
  refine my_heap eH ?_
  have hF : ∀ k, k ∉ ([30, 31] : List Nat) → F k = F k := fun _ _ => rfl
  have rp0 := i32_rng p0
  have rp1 := i32_rng p1
  have hb31 : 0 ≤ (v 31).toInt ∧ (v 31).toInt ≤ 10 := hI.1 31 _ _ rfl
  refine lv_aload_n hx hb dX12_lostBy_0 rfl (lv_at hl 0 rfl) ?_
  refine va_get (D := (dC, dI)) (ci := 12) (v := .int (v 31)) (C := RX12) (T := TX12) (N := 63) hx hb hwd inA_X12 hown hK hP 0 rfl rfl 31 (by decide) (hwd _ wk_505) (fun _ h9 => h9) rfl dX12_lostBy_1 ?_
  have t25460 : 0 ≤ (v 31).toInt ∧ (v 31).toInt ≤ 10 := hI.1 31 _ _ rfl
  refine lv_iconst (v := 1) hx hb dX12_lostBy_4 (by decide) ?_
  refine lv_isub hx hb dX12_lostBy_5 ?_
  refine lv_topi (fun z25461 e25462 => ?_)
  try (have t25463 := tsub e25462 (a := (v 31).toInt) rfl (b := 1) (by decide) (by omega))
  refine lv_istore_n (lv' := [(3, .int z25461), (0, .ref (g 0)), (1, .int p0), (2, .int p1)]) hx hb dX12_lostBy_6 rfl hl (by decide) rfl (fun ls hl => ?_)
  have lp25464 : ∀ (n : Nat) (x3_lp25464 : Int32) (v_lp25464 : Nat → Int32) (F_lp25464 : Nat → Nat → Int32) (H : Heap) (locs : List Loc) (ls : Array Slot), (-1 ≤ x3_lp25464.toInt) → (x3_lp25464.toInt ≤ (v 31).toInt - 1) → (x3_lp25464.toInt + 2 ≤ (n : Int)) → (∀ k, k ∉ ([] : List Nat) → v_lp25464 k = v k) → IM v_lp25464 F_lp25464 → (∀ k, k ∉ ([30, 31] : List Nat) → F_lp25464 k = F k) → va_P (dC, dI) classes (wM g c v_lp25464 F_lp25464 rc) H → va_S (AM g s.heap.size) s.heap H locs → lv_has ls 6 [(3, .int x3_lp25464), (0, .ref (g 0)), (1, .int p0), (2, .int p1)] → W p l e (headSpec (Cond.code yX12_lostBy cX12_lostBy 6 (some .int) :: wA) ({ frames := 3, cells := 0, slots := 0, locals := 120 })).room s m ([.ref (g 0), .int p0, .int p1] : List Value).toArray below meth c0 H locs 0 0 (MQ below (va_Qi (fun (r : Int32) (u : StM) => IM u.1 u.2.1 ∧ u.2.2 = rc ∧ (∀ k, k ∉ ([] : List Nat) → u.1 k = v k) ∧ (∀ k, k ∉ ([30, 31] : List Nat) → u.2.1 k = F k) ∧ 0 ≤ r.toInt ∧ r.toInt ≤ 100) (BM dC dI g c) (AM g s.heap.size)) ([.ref (g 0), .int p0, .int p1] : List Value).toArray s 0 0 (AM g s.heap.size)) (F0 m 7 ls []) := by
    intro n
    induction n with
    | zero =>
      intro x3_lp25464 v_lp25464 F_lp25464 H locs ls t25465 t25466 hm hf_lp25464 hI hF hP hS hl
      exfalso
      have := i32_rng x3_lp25464
      have hI1 := hI.1
      omega
    | succ n ih_lp25464 =>
      intro x3_lp25464 v_lp25464 F_lp25464 H locs ls t25465 t25466 hm hf_lp25464 hI hF hP hS hl
      have rx3_lp25464 := i32_rng x3_lp25464
      refine lv_iload_n hx hb dX12_lostBy_7 rfl (lv_at hl 0 rfl) ?_
      refine lv_if_lt (tgt := 42) hx hb dX12_lostBy_8 (by decide) (fun c25467 => ?_) (fun c25467 => ?_)
      · skip
        have t25468 := cv_lt (a := x3_lp25464.toInt) rfl (b := 0) (by decide) c25467
        refine lv_iload_n hx hb dX12_lostBy_42 rfl (lv_at hl 0 rfl) ?_
        refine lv_if_ge (tgt := 48) hx hb dX12_lostBy_43 (by decide) (fun c25469 => ?_) (fun c25469 => ?_)
        · skip
          have t25470 := cv_le (a := 0) (by decide) (b := x3_lp25464.toInt) rfl c25469
          refine lv_iconst (v := 0) hx hb dX12_lostBy_48 (by decide) ?_
          refine lv_istore (lv' := [(4, .int 0), (3, .int x3_lp25464), (0, .ref (g 0)), (1, .int p0), (2, .int p1)]) hx hb dX12_lostBy_49 hl (by decide) rfl (fun ls hl => ?_)
          refine lv_iconst (v := 0) hx hb dX12_lostBy_51 (by decide) ?_
          refine lv_istore (lv' := [(5, .int 0), (4, .int 0), (3, .int x3_lp25464), (0, .ref (g 0)), (1, .int p0), (2, .int p1)]) hx hb dX12_lostBy_52 hl (by decide) rfl (fun ls hl => ?_)
          have lp25471 : ∀ (n : Nat) (x5_lp25471 : Int32) (x4_lp25471 : Int32) (v_lp25471 : Nat → Int32) (F_lp25471 : Nat → Nat → Int32) (H : Heap) (locs : List Loc) (ls : Array Slot), (0 ≤ x5_lp25471.toInt) → (2147483648 - x5_lp25471.toInt ≤ (n : Int)) → (∀ k, k ∉ ([] : List Nat) → v_lp25471 k = v_lp25464 k) → IM v_lp25471 F_lp25471 → (∀ k, k ∉ ([30, 31] : List Nat) → F_lp25471 k = F k) → va_P (dC, dI) classes (wM g c v_lp25471 F_lp25471 rc) H → va_S (AM g s.heap.size) s.heap H locs → lv_has ls 6 [(5, .int x5_lp25471), (4, .int x4_lp25471), (3, .int x3_lp25464), (0, .ref (g 0)), (1, .int p0), (2, .int p1)] → W p l e (headSpec (Cond.code yX12_lostBy cX12_lostBy 6 (some .int) :: wA) ({ frames := 3, cells := 0, slots := 0, locals := 120 })).room s m ([.ref (g 0), .int p0, .int p1] : List Value).toArray below meth c0 H locs 0 0 (MQ below (va_Qi (fun (r : Int32) (u : StM) => IM u.1 u.2.1 ∧ u.2.2 = rc ∧ (∀ k, k ∉ ([] : List Nat) → u.1 k = v k) ∧ (∀ k, k ∉ ([30, 31] : List Nat) → u.2.1 k = F k) ∧ 0 ≤ r.toInt ∧ r.toInt ≤ 100) (BM dC dI g c) (AM g s.heap.size)) ([.ref (g 0), .int p0, .int p1] : List Value).toArray s 0 0 (AM g s.heap.size)) (F0 m 54 ls []) := by
            intro n
            induction n with
            | zero =>
              intro x5_lp25471 x4_lp25471 v_lp25471 F_lp25471 H locs ls t25472 hm hf_lp25471 hI hF hP hS hl
              exfalso
              have := i32_rng x5_lp25471
              have := i32_rng x4_lp25471
              have hI1 := hI.1
              omega
            | succ n ih_lp25471 =>
              intro x5_lp25471 x4_lp25471 v_lp25471 F_lp25471 H locs ls t25472 hm hf_lp25471 hI hF hP hS hl
              have rx5_lp25471 := i32_rng x5_lp25471
              have rx4_lp25471 := i32_rng x4_lp25471
              refine lv_iload hx hb dX12_lostBy_54 (lv_at hl 0 rfl) ?_
              refine lv_aload_n hx hb dX12_lostBy_56 rfl (lv_at hl 3 rfl) ?_
              refine va_get (D := (dC, dI)) (ci := 12) (v := .int (v_lp25471 19)) (C := RX12) (T := TX12) (N := 63) hx hb hwd inA_X12 hown hK hP 0 rfl rfl 19 (by decide) (hwd _ wk_494) (fun _ h9 => h9) rfl dX12_lostBy_57 ?_
              refine my_top (v := v 19) ((hf_lp25471 19 (by decide)).trans (hf_lp25464 19 (by decide))) ?_
              have t25473 : 0 ≤ (v 19).toInt ∧ (v 19).toInt ≤ 500 := by have h9 := hI.1 19 _ _ rfl; rw [show v_lp25471 19 = v 19 from (hf_lp25471 19 (by decide)).trans (hf_lp25464 19 (by decide))] at h9; exact h9
              refine lv_icmp_ge (tgt := 152) hx hb dX12_lostBy_60 (by decide) (fun c25474 => ?_) (fun c25474 => ?_)
              · skip
                have t25475 := cv_le (a := (v 19).toInt) rfl (b := x5_lp25471.toInt) rfl c25474
                refine lv_aload_n hx hb dX12_lostBy_152 rfl (lv_at hl 3 rfl) ?_
                refine va_get (D := (dC, dI)) (ci := 12) (v := .ref (g 31)) (C := RX12) (T := TX12) (N := 63) hx hb hwd inA_X12 hown hK hP 0 rfl rfl 44 (by decide) (hwd _ wk_213) (fun _ h9 => h9) rfl dX12_lostBy_153 ?_
                refine lv_iconst (v := 0) hx hb dX12_lostBy_156 (by decide) ?_
                refine lv_aload_n hx hb dX12_lostBy_157 rfl (lv_at hl 3 rfl) ?_
                refine va_get (D := (dC, dI)) (ci := 12) (v := .ref (g 18)) (C := RX12) (T := TX12) (N := 63) hx hb hwd inA_X12 hown hK hP 0 rfl rfl 23 (by decide) (hwd _ wk_199) (fun _ h9 => h9) rfl dX12_lostBy_158 ?_
                refine lv_iload_n hx hb dX12_lostBy_161 rfl (lv_at hl 4 rfl) ?_
                refine va_iald hx hb hK hP 18 17 rfl rfl (i := p0) (vin (a := p0.toInt) rfl (by omega)) dX12_lostBy_162 ?_
                refine lv_topi (fun z25476 e25477 => ?_)
                have e25477 : z25476 = F 18 (p0 : Int32).toNatClampNeg := e25477.trans (congrFun (hF 18 (by decide)) _)
                refine lv_aload_n hx hb dX12_lostBy_163 rfl (lv_at hl 3 rfl) ?_
                refine va_get (D := (dC, dI)) (ci := 12) (v := .ref (g 17)) (C := RX12) (T := TX12) (N := 63) hx hb hwd inA_X12 hown hK hP 0 rfl rfl 22 (by decide) (hwd _ wk_198) (fun _ h9 => h9) rfl dX12_lostBy_164 ?_
                refine lv_iload_n hx hb dX12_lostBy_167 rfl (lv_at hl 4 rfl) ?_
                refine va_iald hx hb hK hP 17 16 rfl rfl (i := p0) (vin (a := p0.toInt) rfl (by omega)) dX12_lostBy_168 ?_
                refine lv_topi (fun z25478 e25479 => ?_)
                have e25479 : z25478 = F 17 (p0 : Int32).toNatClampNeg := e25479.trans (congrFun (hF 17 (by decide)) _)
                refine lv_isub hx hb dX12_lostBy_169 ?_
                refine lv_topi (fun z25480 e25481 => ?_)
                try (have t25482 := tsub e25481 (a := z25476.toInt) rfl (b := z25478.toInt) rfl (by omega))
                refine va_iast hx hb hK hP (DM hg) hS 31 30 rfl rfl (i := 0) (x := z25480) (vin (a := 0) (by decide) (by omega)) dX12_lostBy_170 (fun H locs hP _ hS => ?_)
                have hP := va_P_eq (sM_31 g c _ _ _ _) hP
                have hI := IM.store0 hI 31 (0 : Int32).toNatClampNeg z25480 rfl
                have hF := frUF (k := 31) (f := upd (F_lp25471 31) (0 : Int32).toNatClampNeg z25480) (by decide) hF
                have hP : va_P (dC, dI) classes (wM g c v_lp25471 (va_up F_lp25471 31 (upd (F_lp25471 31) (0 : Int32).toNatClampNeg z25480)) rc) H := hP
                generalize (va_up F_lp25471 31 (upd (F_lp25471 31) (0 : Int32).toNatClampNeg z25480)) = F25483 at hP hI hF
                refine lv_aload_n hx hb dX12_lostBy_171 rfl (lv_at hl 3 rfl) ?_
                refine va_get (D := (dC, dI)) (ci := 12) (v := .ref (g 31)) (C := RX12) (T := TX12) (N := 63) hx hb hwd inA_X12 hown hK hP 0 rfl rfl 44 (by decide) (hwd _ wk_213) (fun _ h9 => h9) rfl dX12_lostBy_172 ?_
                refine lv_iconst (v := 1) hx hb dX12_lostBy_175 (by decide) ?_
                refine lv_aload_n hx hb dX12_lostBy_176 rfl (lv_at hl 3 rfl) ?_
                refine va_get (D := (dC, dI)) (ci := 12) (v := .ref (g 20)) (C := RX12) (T := TX12) (N := 63) hx hb hwd inA_X12 hown hK hP 0 rfl rfl 25 (by decide) (hwd _ wk_201) (fun _ h9 => h9) rfl dX12_lostBy_177 ?_
                refine lv_iload_n hx hb dX12_lostBy_180 rfl (lv_at hl 4 rfl) ?_
                refine va_iald hx hb hK hP 20 19 rfl rfl (i := p0) (vin (a := p0.toInt) rfl (by omega)) dX12_lostBy_181 ?_
                refine lv_topi (fun z25484 e25485 => ?_)
                have e25485 : z25484 = F 20 (p0 : Int32).toNatClampNeg := e25485.trans (congrFun (hF 20 (by decide)) _)
                refine lv_aload_n hx hb dX12_lostBy_182 rfl (lv_at hl 3 rfl) ?_
                refine va_get (D := (dC, dI)) (ci := 12) (v := .ref (g 19)) (C := RX12) (T := TX12) (N := 63) hx hb hwd inA_X12 hown hK hP 0 rfl rfl 24 (by decide) (hwd _ wk_200) (fun _ h9 => h9) rfl dX12_lostBy_183 ?_
                refine lv_iload_n hx hb dX12_lostBy_186 rfl (lv_at hl 4 rfl) ?_
                refine va_iald hx hb hK hP 19 18 rfl rfl (i := p0) (vin (a := p0.toInt) rfl (by omega)) dX12_lostBy_187 ?_
                refine lv_topi (fun z25486 e25487 => ?_)
                have e25487 : z25486 = F 19 (p0 : Int32).toNatClampNeg := e25487.trans (congrFun (hF 19 (by decide)) _)
                refine lv_isub hx hb dX12_lostBy_188 ?_
                refine lv_topi (fun z25488 e25489 => ?_)
                try (have t25490 := tsub e25489 (a := z25484.toInt) rfl (b := z25486.toInt) rfl (by omega))
                refine va_iast hx hb hK hP (DM hg) hS 31 30 rfl rfl (i := 1) (x := z25488) (vin (a := 1) (by decide) (by omega)) dX12_lostBy_189 (fun H locs hP _ hS => ?_)
                have hP := va_P_eq (sM_31 g c _ _ _ _) hP
                have hI := IM.store0 hI 31 (1 : Int32).toNatClampNeg z25488 rfl
                have hF := frUF (k := 31) (f := upd (F25483 31) (1 : Int32).toNatClampNeg z25488) (by decide) hF
                have hP : va_P (dC, dI) classes (wM g c v_lp25471 (va_up F25483 31 (upd (F25483 31) (1 : Int32).toNatClampNeg z25488)) rc) H := hP
                generalize (va_up F25483 31 (upd (F25483 31) (1 : Int32).toNatClampNeg z25488)) = F25491 at hP hI hF
                refine lv_aload_n hx hb dX12_lostBy_190 rfl (lv_at hl 3 rfl) ?_
                refine va_get (D := (dC, dI)) (ci := 12) (v := .ref (g 31)) (C := RX12) (T := TX12) (N := 63) hx hb hwd inA_X12 hown hK hP 0 rfl rfl 44 (by decide) (hwd _ wk_213) (fun _ h9 => h9) rfl dX12_lostBy_191 ?_
                refine lv_iconst (v := 2) hx hb dX12_lostBy_194 (by decide) ?_
                refine lv_aload_n hx hb dX12_lostBy_195 rfl (lv_at hl 3 rfl) ?_
                refine va_get (D := (dC, dI)) (ci := 12) (v := .ref (g 22)) (C := RX12) (T := TX12) (N := 63) hx hb hwd inA_X12 hown hK hP 0 rfl rfl 27 (by decide) (hwd _ wk_203) (fun _ h9 => h9) rfl dX12_lostBy_196 ?_
                refine lv_iload_n hx hb dX12_lostBy_199 rfl (lv_at hl 4 rfl) ?_
                refine va_iald hx hb hK hP 22 21 rfl rfl (i := p0) (vin (a := p0.toInt) rfl (by omega)) dX12_lostBy_200 ?_
                refine lv_topi (fun z25492 e25493 => ?_)
                have e25493 : z25492 = F 22 (p0 : Int32).toNatClampNeg := e25493.trans (congrFun (hF 22 (by decide)) _)
                refine lv_aload_n hx hb dX12_lostBy_201 rfl (lv_at hl 3 rfl) ?_
                refine va_get (D := (dC, dI)) (ci := 12) (v := .ref (g 21)) (C := RX12) (T := TX12) (N := 63) hx hb hwd inA_X12 hown hK hP 0 rfl rfl 26 (by decide) (hwd _ wk_202) (fun _ h9 => h9) rfl dX12_lostBy_202 ?_
                refine lv_iload_n hx hb dX12_lostBy_205 rfl (lv_at hl 4 rfl) ?_
                refine va_iald hx hb hK hP 21 20 rfl rfl (i := p0) (vin (a := p0.toInt) rfl (by omega)) dX12_lostBy_206 ?_
                refine lv_topi (fun z25494 e25495 => ?_)
                have e25495 : z25494 = F 21 (p0 : Int32).toNatClampNeg := e25495.trans (congrFun (hF 21 (by decide)) _)
                refine lv_isub hx hb dX12_lostBy_207 ?_
                refine lv_topi (fun z25496 e25497 => ?_)
                try (have t25498 := tsub e25497 (a := z25492.toInt) rfl (b := z25494.toInt) rfl (by omega))
                refine va_iast hx hb hK hP (DM hg) hS 31 30 rfl rfl (i := 2) (x := z25496) (vin (a := 2) (by decide) (by omega)) dX12_lostBy_208 (fun H locs hP _ hS => ?_)
                have hP := va_P_eq (sM_31 g c _ _ _ _) hP
                have hI := IM.store0 hI 31 (2 : Int32).toNatClampNeg z25496 rfl
                have hF := frUF (k := 31) (f := upd (F25491 31) (2 : Int32).toNatClampNeg z25496) (by decide) hF
                have hP : va_P (dC, dI) classes (wM g c v_lp25471 (va_up F25491 31 (upd (F25491 31) (2 : Int32).toNatClampNeg z25496)) rc) H := hP
                generalize (va_up F25491 31 (upd (F25491 31) (2 : Int32).toNatClampNeg z25496)) = F25499 at hP hI hF
                refine lv_aload_n hx hb dX12_lostBy_209 rfl (lv_at hl 3 rfl) ?_
                refine va_get (D := (dC, dI)) (ci := 12) (v := .ref (g 31)) (C := RX12) (T := TX12) (N := 63) hx hb hwd inA_X12 hown hK hP 0 rfl rfl 44 (by decide) (hwd _ wk_213) (fun _ h9 => h9) rfl dX12_lostBy_210 ?_
                refine lv_iconst (v := 3) hx hb dX12_lostBy_213 (by decide) ?_
                refine lv_aload_n hx hb dX12_lostBy_214 rfl (lv_at hl 3 rfl) ?_
                refine va_get (D := (dC, dI)) (ci := 12) (v := .ref (g 16)) (C := RX12) (T := TX12) (N := 63) hx hb hwd inA_X12 hown hK hP 0 rfl rfl 21 (by decide) (hwd _ wk_197) (fun _ h9 => h9) rfl dX12_lostBy_215 ?_
                refine lv_iload_n hx hb dX12_lostBy_218 rfl (lv_at hl 4 rfl) ?_
                refine va_iald hx hb hK hP 16 15 rfl rfl (i := p0) (vin (a := p0.toInt) rfl (by omega)) dX12_lostBy_219 ?_
                refine lv_topi (fun z25500 e25501 => ?_)
                have t25502 : 0 ≤ z25500.toInt ∧ z25500.toInt ≤ 11 := by rw [e25501]; exact hI.2 16 _ _ rfl _
                have e25501 : z25500 = F 16 (p0 : Int32).toNatClampNeg := e25501.trans (congrFun (hF 16 (by decide)) _)
                refine va_iast hx hb hK hP (DM hg) hS 31 30 rfl rfl (i := 3) (x := z25500) (vin (a := 3) (by decide) (by omega)) dX12_lostBy_220 (fun H locs hP _ hS => ?_)
                have hP := va_P_eq (sM_31 g c _ _ _ _) hP
                have hI := IM.store0 hI 31 (3 : Int32).toNatClampNeg z25500 rfl
                have hF := frUF (k := 31) (f := upd (F25499 31) (3 : Int32).toNatClampNeg z25500) (by decide) hF
                have hP : va_P (dC, dI) classes (wM g c v_lp25471 (va_up F25499 31 (upd (F25499 31) (3 : Int32).toNatClampNeg z25500)) rc) H := hP
                generalize (va_up F25499 31 (upd (F25499 31) (3 : Int32).toNatClampNeg z25500)) = F25503 at hP hI hF
                refine lv_aload_n hx hb dX12_lostBy_221 rfl (lv_at hl 3 rfl) ?_
                refine va_get (D := (dC, dI)) (ci := 12) (v := .ref (g 31)) (C := RX12) (T := TX12) (N := 63) hx hb hwd inA_X12 hown hK hP 0 rfl rfl 44 (by decide) (hwd _ wk_213) (fun _ h9 => h9) rfl dX12_lostBy_222 ?_
                refine lv_iconst (v := 4) hx hb dX12_lostBy_225 (by decide) ?_
                refine lv_aload_n hx hb dX12_lostBy_226 rfl (lv_at hl 3 rfl) ?_
                refine va_get (D := (dC, dI)) (ci := 12) (v := .ref (g 11)) (C := RX12) (T := TX12) (N := 63) hx hb hwd inA_X12 hown hK hP 0 rfl rfl 15 (by decide) (hwd _ wk_192) (fun _ h9 => h9) rfl dX12_lostBy_227 ?_
                refine lv_aload_n hx hb dX12_lostBy_230 rfl (lv_at hl 3 rfl) ?_
                refine va_get (D := (dC, dI)) (ci := 12) (v := .ref (g 15)) (C := RX12) (T := TX12) (N := 63) hx hb hwd inA_X12 hown hK hP 0 rfl rfl 20 (by decide) (hwd _ wk_196) (fun _ h9 => h9) rfl dX12_lostBy_231 ?_
                refine lv_iload_n hx hb dX12_lostBy_234 rfl (lv_at hl 4 rfl) ?_
                refine va_iald hx hb hK hP 15 14 rfl rfl (i := p0) (vin (a := p0.toInt) rfl (by omega)) dX12_lostBy_235 ?_
                refine lv_topi (fun z25504 e25505 => ?_)
                have t25506 : 0 ≤ z25504.toInt ∧ z25504.toInt ≤ 99 := by rw [e25505]; exact hI.2 15 _ _ rfl _
                have e25505 : z25504 = F 15 (p0 : Int32).toNatClampNeg := e25505.trans (congrFun (hF 15 (by decide)) _)
                refine va_iald hx hb hK hP 11 10 rfl rfl (i := z25504) (vin (a := z25504.toInt) rfl (by omega)) dX12_lostBy_236 ?_
                refine lv_topi (fun z25507 e25508 => ?_)
                have t25509 : 0 ≤ z25507.toInt ∧ z25507.toInt ≤ 9 := by rw [e25508]; exact hI.2 11 _ _ rfl _
                have e25508 : z25507 = F 11 (z25504 : Int32).toNatClampNeg := e25508.trans (congrFun (hF 11 (by decide)) _)
                refine va_iast hx hb hK hP (DM hg) hS 31 30 rfl rfl (i := 4) (x := z25507) (vin (a := 4) (by decide) (by omega)) dX12_lostBy_237 (fun H locs hP _ hS => ?_)
                have hP := va_P_eq (sM_31 g c _ _ _ _) hP
                have hI := IM.store0 hI 31 (4 : Int32).toNatClampNeg z25507 rfl
                have hF := frUF (k := 31) (f := upd (F25503 31) (4 : Int32).toNatClampNeg z25507) (by decide) hF
                have hP : va_P (dC, dI) classes (wM g c v_lp25471 (va_up F25503 31 (upd (F25503 31) (4 : Int32).toNatClampNeg z25507)) rc) H := hP
                generalize (va_up F25503 31 (upd (F25503 31) (4 : Int32).toNatClampNeg z25507)) = F25510 at hP hI hF
                refine lv_aload_n hx hb dX12_lostBy_238 rfl (lv_at hl 3 rfl) ?_
                refine va_get (D := (dC, dI)) (ci := 12) (v := .ref (g 31)) (C := RX12) (T := TX12) (N := 63) hx hb hwd inA_X12 hown hK hP 0 rfl rfl 44 (by decide) (hwd _ wk_213) (fun _ h9 => h9) rfl dX12_lostBy_239 ?_
                refine lv_iconst (v := 5) hx hb dX12_lostBy_242 (by decide) ?_
                refine lv_iload hx hb dX12_lostBy_243 (lv_at hl 1 rfl) ?_
                refine va_iast hx hb hK hP (DM hg) hS 31 30 rfl rfl (i := 5) (x := x4_lp25471) (vin (a := 5) (by decide) (by omega)) dX12_lostBy_245 (fun H locs hP _ hS => ?_)
                have hP := va_P_eq (sM_31 g c _ _ _ _) hP
                have hI := IM.store0 hI 31 (5 : Int32).toNatClampNeg x4_lp25471 rfl
                have hF := frUF (k := 31) (f := upd (F25510 31) (5 : Int32).toNatClampNeg x4_lp25471) (by decide) hF
                have hP : va_P (dC, dI) classes (wM g c v_lp25471 (va_up F25510 31 (upd (F25510 31) (5 : Int32).toNatClampNeg x4_lp25471)) rc) H := hP
                generalize (va_up F25510 31 (upd (F25510 31) (5 : Int32).toNatClampNeg x4_lp25471)) = F25511 at hP hI hF
                refine lv_aload_n hx hb dX12_lostBy_246 rfl (lv_at hl 3 rfl) ?_
                refine lv_iload_n hx hb dX12_lostBy_247 rfl (lv_at hl 2 rfl) ?_
                refine va_calli (va_runV (As := [.int x3_lp25464]) (rest := []) ⟨hx, hb, hml, hown, hwd⟩ (c_X12_works l dC dI g c adK adV v_lp25471 F25511 rc H.size x3_lp25464 hg hI (by omega) (JL.at' (JL.to hL rfl (hF 28 (by decide)) (hF 29 (by decide)) (hF 27 (by decide))) (i := x3_lp25464) (by omega) (by omega))) (cwV 1 hwd (gV wk_513 wk_510 wk_511 wk_512 wk_5) rfl rfl rfl (by decide +kernel) ⟨Nat.le_of_ble_eq_true rfl, Nat.le_of_ble_eq_true rfl⟩) ⟨PM.blind, va_recv hK hP (ci := 12) (q0 := 0) rfl rfl, fun U hU hW => ⟨rfl, PM.at hK hE hP hS hU hW⟩⟩ rfl rfl hl.1 rfl (lv_room (Nat.le_of_ble_eq_true rfl)) dX12_lostBy_248 ⟨Nat.le_of_ble_eq_true rfl, Nat.le_of_ble_eq_true rfl⟩) hS (fun q _ h => (freeM hS) q h) (freeM hS) (fun r25512 u t H1 locs ht hvm hw hB hz1 hk1 hS => ?_)
                unfold BM at hB
                rw [ht] at hB
                obtain ⟨v25513, F25514, rc9⟩ := u
                obtain ⟨hI, hrc, hf25515, hG25516, hw⟩ := hw
                dsimp only at hI hrc hB hf25515 hG25516 hw
                have hF := frCF (by decide) hG25516 hF
                rw [hrc] at hB
                have hP : va_P (dC, dI) classes (wM g c v25513 F25514 rc) H1 := hB
                generalize H1 = H at hP hS ⊢
                have rr_r25512 := i32_rng r25512
                refine lv_istore (lv' := [(5, .int r25512), (4, .int x4_lp25471), (3, .int x3_lp25464), (0, .ref (g 0)), (1, .int p0), (2, .int p1)]) hx hb dX12_lostBy_251 hl (by decide) rfl (fun ls hl => ?_)
                refine lv_iload hx hb dX12_lostBy_253 (lv_at hl 0 rfl) ?_
                refine lv_if_ge (tgt := 262) hx hb dX12_lostBy_255 (by decide) (fun c25517 => ?_) (fun c25517 => ?_)
                · skip
                  have t25518 := cv_le (a := 0) (by decide) (b := r25512.toInt) rfl c25517
                  refine lv_iload hx hb dX12_lostBy_262 (lv_at hl 0 rfl) ?_
                  refine lv_bipush (v := 100) hx hb dX12_lostBy_264 (by decide) ?_
                  refine lv_icmp_le (tgt := 274) hx hb dX12_lostBy_266 (by decide) (fun c25519 => ?_) (fun c25519 => ?_)
                  · skip
                    have t25520 := cv_le (a := r25512.toInt) rfl (b := 100) (by decide) c25519
                    refine lv_iload hx hb dX12_lostBy_274 (lv_at hl 0 rfl) ?_
                    have hP9 : va_P (dC, dI) classes (wM g c v25513 F25514 rc) H := hP
                    exact W.iret (v := r25512) hx hb hr (fun t ht hW => ⟨⟨r25512, (v25513, F25514, rc), rfl, ⟨hI, rfl, (frC (by decide) hf25515 (frC (by decide) hf_lp25471 (frC (by decide) hf_lp25464 (fun _ _ => rfl)))), hF, by omega⟩, (by show va_P _ _ _ t.heap; rw [ht]; exact hP9)⟩, hS.F ht⟩) hS.2.2 dX12_lostBy_276
                  · skip
                    have t25521 := cv_nle (a := r25512.toInt) rfl (b := 100) (by decide) c25519
                    refine lv_bipush (v := 100) hx hb dX12_lostBy_269 (by decide) ?_
                    refine lv_goto (tgt := 276) hx hb dX12_lostBy_271 (by decide) ?_
                    have hP9 : va_P (dC, dI) classes (wM g c v25513 F25514 rc) H := hP
                    exact W.iret (v := 100) hx hb hr (fun t ht hW => ⟨⟨100, (v25513, F25514, rc), rfl, ⟨hI, rfl, (frC (by decide) hf25515 (frC (by decide) hf_lp25471 (frC (by decide) hf_lp25464 (fun _ _ => rfl)))), hF, by have : (100 : Int32).toInt = 100 := (by decide); omega⟩, (by show va_P _ _ _ t.heap; rw [ht]; exact hP9)⟩, hS.F ht⟩) hS.2.2 dX12_lostBy_276
                · skip
                  have t25522 := cv_nle (a := 0) (by decide) (b := r25512.toInt) rfl c25517
                  refine lv_iconst (v := 0) hx hb dX12_lostBy_258 (by decide) ?_
                  refine lv_goto (tgt := 276) hx hb dX12_lostBy_259 (by decide) ?_
                  have hP9 : va_P (dC, dI) classes (wM g c v25513 F25514 rc) H := hP
                  exact W.iret (v := 0) hx hb hr (fun t ht hW => ⟨⟨0, (v25513, F25514, rc), rfl, ⟨hI, rfl, (frC (by decide) hf25515 (frC (by decide) hf_lp25471 (frC (by decide) hf_lp25464 (fun _ _ => rfl)))), hF, by have : (0 : Int32).toInt = 0 := (by decide); omega⟩, (by show va_P _ _ _ t.heap; rw [ht]; exact hP9)⟩, hS.F ht⟩) hS.2.2 dX12_lostBy_276
              · skip
                have t25523 := cv_nle (a := (v 19).toInt) rfl (b := x5_lp25471.toInt) rfl c25474
                refine lv_iload hx hb dX12_lostBy_63 (lv_at hl 1 rfl) ?_
                refine lv_iload hx hb dX12_lostBy_65 (lv_at hl 0 rfl) ?_
                refine lv_iload_n hx hb dX12_lostBy_67 rfl (lv_at hl 4 rfl) ?_
                refine lv_icmp_eq (tgt := 142) hx hb dX12_lostBy_68 (by decide) (fun c25524 => ?_) (fun c25524 => ?_)
                · skip
                  have t25525 := cv_eq (a := x5_lp25471.toInt) rfl (b := p0.toInt) rfl c25524
                  refine lv_iconst (v := 0) hx hb dX12_lostBy_142 (by decide) ?_
                  refine lv_iadd hx hb dX12_lostBy_143 ?_
                  refine lv_topi (fun z25526 e25527 => ?_)
                  try (have t25528 := tadd e25527 (a := x4_lp25471.toInt) rfl (b := 0) (by decide) (by omega))
                  refine lv_istore (lv' := [(4, .int z25526), (5, .int x5_lp25471), (3, .int x3_lp25464), (0, .ref (g 0)), (1, .int p0), (2, .int p1)]) hx hb dX12_lostBy_144 hl (by decide) rfl (fun ls hl => ?_)
                  obtain ⟨z25529, e25530⟩ : ∃ y : Int32, y = x5_lp25471 + 1 := ⟨_, rfl⟩
                  try (have t25531 := tadd e25530 rfl (b := 1) (by decide) (by omega))
                  refine lv_iinc (v := z25529) (lv' := [(5, .int z25529), (4, .int z25526), (3, .int x3_lp25464), (0, .ref (g 0)), (1, .int p0), (2, .int p1)]) hx hb dX12_lostBy_146 hl (k := 1) rfl (by rw [e25530]; rfl) (by decide) rfl (fun ls hl => ?_)
                  refine lv_goto (tgt := 54) hx hb dX12_lostBy_149 (by decide) ?_
                  exact ih_lp25471 z25529 z25526 v_lp25471 F_lp25471 _ _ _ (by omega) (by omega) hf_lp25471 hI hF hP hS (lv_sub hl [0, 1, 2, 3, 4, 5] rfl)
                · skip
                  have t25532 := cv_ne (a := x5_lp25471.toInt) rfl (b := p0.toInt) rfl c25524
                  refine lv_aload_n hx hb dX12_lostBy_71 rfl (lv_at hl 3 rfl) ?_
                  refine va_get (D := (dC, dI)) (ci := 12) (v := .ref (g 15)) (C := RX12) (T := TX12) (N := 63) hx hb hwd inA_X12 hown hK hP 0 rfl rfl 20 (by decide) (hwd _ wk_196) (fun _ h9 => h9) rfl dX12_lostBy_72 ?_
                  refine lv_iload hx hb dX12_lostBy_75 (lv_at hl 0 rfl) ?_
                  refine va_iald hx hb hK hP 15 14 rfl rfl (i := x5_lp25471) (vin (a := x5_lp25471.toInt) rfl (by omega)) dX12_lostBy_77 ?_
                  refine lv_topi (fun z25533 e25534 => ?_)
                  have t25535 : 0 ≤ z25533.toInt ∧ z25533.toInt ≤ 99 := by rw [e25534]; exact hI.2 15 _ _ rfl _
                  have e25534 : z25533 = F 15 (x5_lp25471 : Int32).toNatClampNeg := e25534.trans (congrFun (hF 15 (by decide)) _)
                  refine lv_aload_n hx hb dX12_lostBy_78 rfl (lv_at hl 3 rfl) ?_
                  refine va_get (D := (dC, dI)) (ci := 12) (v := .ref (g 15)) (C := RX12) (T := TX12) (N := 63) hx hb hwd inA_X12 hown hK hP 0 rfl rfl 20 (by decide) (hwd _ wk_196) (fun _ h9 => h9) rfl dX12_lostBy_79 ?_
                  refine lv_iload_n hx hb dX12_lostBy_82 rfl (lv_at hl 4 rfl) ?_
                  refine va_iald hx hb hK hP 15 14 rfl rfl (i := p0) (vin (a := p0.toInt) rfl (by omega)) dX12_lostBy_83 ?_
                  refine lv_topi (fun z25536 e25537 => ?_)
                  have t25538 : 0 ≤ z25536.toInt ∧ z25536.toInt ≤ 99 := by rw [e25537]; exact hI.2 15 _ _ rfl _
                  have e25537 : z25536 = F 15 (p0 : Int32).toNatClampNeg := e25537.trans (congrFun (hF 15 (by decide)) _)
                  refine lv_icmp_ne (tgt := 142) hx hb dX12_lostBy_84 (by decide) (fun c25539 => ?_) (fun c25539 => ?_)
                  · skip
                    have t25540 := cv_ne (a := z25533.toInt) rfl (b := z25536.toInt) rfl c25539
                    refine lv_iconst (v := 0) hx hb dX12_lostBy_142 (by decide) ?_
                    refine lv_iadd hx hb dX12_lostBy_143 ?_
                    refine lv_topi (fun z25541 e25542 => ?_)
                    try (have t25543 := tadd e25542 (a := x4_lp25471.toInt) rfl (b := 0) (by decide) (by omega))
                    refine lv_istore (lv' := [(4, .int z25541), (5, .int x5_lp25471), (3, .int x3_lp25464), (0, .ref (g 0)), (1, .int p0), (2, .int p1)]) hx hb dX12_lostBy_144 hl (by decide) rfl (fun ls hl => ?_)
                    obtain ⟨z25544, e25545⟩ : ∃ y : Int32, y = x5_lp25471 + 1 := ⟨_, rfl⟩
                    try (have t25546 := tadd e25545 rfl (b := 1) (by decide) (by omega))
                    refine lv_iinc (v := z25544) (lv' := [(5, .int z25544), (4, .int z25541), (3, .int x3_lp25464), (0, .ref (g 0)), (1, .int p0), (2, .int p1)]) hx hb dX12_lostBy_146 hl (k := 1) rfl (by rw [e25545]; rfl) (by decide) rfl (fun ls hl => ?_)
                    refine lv_goto (tgt := 54) hx hb dX12_lostBy_149 (by decide) ?_
                    exact ih_lp25471 z25544 z25541 v_lp25471 F_lp25471 _ _ _ (by omega) (by omega) hf_lp25471 hI hF hP hS (lv_sub hl [0, 1, 2, 3, 4, 5] rfl)
                  · skip
                    have t25547 := cv_eq (a := z25533.toInt) rfl (b := z25536.toInt) rfl c25539
                    refine lv_aload_n hx hb dX12_lostBy_87 rfl (lv_at hl 3 rfl) ?_
                    refine lv_iload hx hb dX12_lostBy_88 (lv_at hl 0 rfl) ?_
                    refine va_calli (va_runV (As := [.int x5_lp25471]) (rest := [.int x4_lp25471]) ⟨hx, hb, hml, hown, hwd⟩ (c_X12_isGap l dC dI g c adK adV v_lp25471 F_lp25471 rc H.size x5_lp25471 hg hI (by omega)) (cwV 1 hwd (gV wk_499 wk_496 wk_497 wk_498 wk_5) rfl rfl rfl (by decide +kernel) ⟨Nat.le_of_ble_eq_true rfl, Nat.le_of_ble_eq_true rfl⟩) ⟨PM.blind, va_recv hK hP (ci := 12) (q0 := 0) rfl rfl, fun U hU hW => ⟨rfl, PM.at hK hE hP hS hU hW⟩⟩ rfl rfl hl.1 rfl (lv_room (Nat.le_of_ble_eq_true rfl)) dX12_lostBy_90 ⟨Nat.le_of_ble_eq_true rfl, Nat.le_of_ble_eq_true rfl⟩) hS (fun q _ h => (freeM hS) q h) (freeM hS) (fun r25548 u t H1 locs ht hvm hw hB hz1 hk1 hS => ?_)
                    unfold BM at hB
                    rw [ht] at hB
                    have hP : va_P (dC, dI) classes (wM g c v_lp25471 F_lp25471 rc) H1 := hB
                    have hw : 0 ≤ r25548.toInt ∧ r25548.toInt ≤ 1 := hw
                    have hw_r25548 := hw
                    generalize H1 = H at hP hS ⊢
                    refine lv_if_eq (tgt := 142) hx hb dX12_lostBy_93 (by decide) (fun c25549 => ?_) (fun c25549 => ?_)
                    · skip
                      have t25550 := cv_eq (a := r25548.toInt) rfl (b := 0) (by decide) c25549
                      refine lv_iconst (v := 0) hx hb dX12_lostBy_142 (by decide) ?_
                      refine lv_iadd hx hb dX12_lostBy_143 ?_
                      refine lv_topi (fun z25551 e25552 => ?_)
                      try (have t25553 := tadd e25552 (a := x4_lp25471.toInt) rfl (b := 0) (by decide) (by omega))
                      refine lv_istore (lv' := [(4, .int z25551), (5, .int x5_lp25471), (3, .int x3_lp25464), (0, .ref (g 0)), (1, .int p0), (2, .int p1)]) hx hb dX12_lostBy_144 hl (by decide) rfl (fun ls hl => ?_)
                      obtain ⟨z25554, e25555⟩ : ∃ y : Int32, y = x5_lp25471 + 1 := ⟨_, rfl⟩
                      try (have t25556 := tadd e25555 rfl (b := 1) (by decide) (by omega))
                      refine lv_iinc (v := z25554) (lv' := [(5, .int z25554), (4, .int z25551), (3, .int x3_lp25464), (0, .ref (g 0)), (1, .int p0), (2, .int p1)]) hx hb dX12_lostBy_146 hl (k := 1) rfl (by rw [e25555]; rfl) (by decide) rfl (fun ls hl => ?_)
                      refine lv_goto (tgt := 54) hx hb dX12_lostBy_149 (by decide) ?_
                      exact ih_lp25471 z25554 z25551 v_lp25471 F_lp25471 _ _ _ (by omega) (by omega) hf_lp25471 hI hF hP hS (lv_sub hl [0, 1, 2, 3, 4, 5] rfl)
                    · skip
                      have t25557 := cv_ne (a := r25548.toInt) rfl (b := 0) (by decide) c25549
                      refine lv_aload_n hx hb dX12_lostBy_96 rfl (lv_at hl 3 rfl) ?_
                      refine va_get (D := (dC, dI)) (ci := 12) (v := .ref (g 18)) (C := RX12) (T := TX12) (N := 63) hx hb hwd inA_X12 hown hK hP 0 rfl rfl 23 (by decide) (hwd _ wk_199) (fun _ h9 => h9) rfl dX12_lostBy_97 ?_
                      refine lv_iload hx hb dX12_lostBy_100 (lv_at hl 0 rfl) ?_
                      refine va_iald hx hb hK hP 18 17 rfl rfl (i := x5_lp25471) (vin (a := x5_lp25471.toInt) rfl (by omega)) dX12_lostBy_102 ?_
                      refine lv_topi (fun z25558 e25559 => ?_)
                      have e25559 : z25558 = F 18 (x5_lp25471 : Int32).toNatClampNeg := e25559.trans (congrFun (hF 18 (by decide)) _)
                      refine lv_aload_n hx hb dX12_lostBy_103 rfl (lv_at hl 3 rfl) ?_
                      refine va_get (D := (dC, dI)) (ci := 12) (v := .ref (g 18)) (C := RX12) (T := TX12) (N := 63) hx hb hwd inA_X12 hown hK hP 0 rfl rfl 23 (by decide) (hwd _ wk_199) (fun _ h9 => h9) rfl dX12_lostBy_104 ?_
                      refine lv_iload_n hx hb dX12_lostBy_107 rfl (lv_at hl 4 rfl) ?_
                      refine va_iald hx hb hK hP 18 17 rfl rfl (i := p0) (vin (a := p0.toInt) rfl (by omega)) dX12_lostBy_108 ?_
                      refine lv_topi (fun z25560 e25561 => ?_)
                      have e25561 : z25560 = F 18 (p0 : Int32).toNatClampNeg := e25561.trans (congrFun (hF 18 (by decide)) _)
                      refine lv_icmp_lt (tgt := 138) hx hb dX12_lostBy_109 (by decide) (fun c25562 => ?_) (fun c25562 => ?_)
                      · skip
                        have t25563 := cv_lt (a := z25558.toInt) rfl (b := z25560.toInt) rfl c25562
                        refine lv_iconst (v := 1) hx hb dX12_lostBy_138 (by decide) ?_
                        refine lv_goto (tgt := 143) hx hb dX12_lostBy_139 (by decide) ?_
                        refine lv_iadd hx hb dX12_lostBy_143 ?_
                        refine lv_topi (fun z25564 e25565 => ?_)
                        try (have t25566 := tadd e25565 (a := x4_lp25471.toInt) rfl (b := 1) (by decide) (by omega))
                        refine lv_istore (lv' := [(4, .int z25564), (5, .int x5_lp25471), (3, .int x3_lp25464), (0, .ref (g 0)), (1, .int p0), (2, .int p1)]) hx hb dX12_lostBy_144 hl (by decide) rfl (fun ls hl => ?_)
                        obtain ⟨z25567, e25568⟩ : ∃ y : Int32, y = x5_lp25471 + 1 := ⟨_, rfl⟩
                        try (have t25569 := tadd e25568 rfl (b := 1) (by decide) (by omega))
                        refine lv_iinc (v := z25567) (lv' := [(5, .int z25567), (4, .int z25564), (3, .int x3_lp25464), (0, .ref (g 0)), (1, .int p0), (2, .int p1)]) hx hb dX12_lostBy_146 hl (k := 1) rfl (by rw [e25568]; rfl) (by decide) rfl (fun ls hl => ?_)
                        refine lv_goto (tgt := 54) hx hb dX12_lostBy_149 (by decide) ?_
                        exact ih_lp25471 z25567 z25564 v_lp25471 F_lp25471 _ _ _ (by omega) (by omega) hf_lp25471 hI hF hP hS (lv_sub hl [0, 1, 2, 3, 4, 5] rfl)
                      · skip
                        have t25570 := cv_nlt (a := z25558.toInt) rfl (b := z25560.toInt) rfl c25562
                        refine lv_aload_n hx hb dX12_lostBy_112 rfl (lv_at hl 3 rfl) ?_
                        refine va_get (D := (dC, dI)) (ci := 12) (v := .ref (g 18)) (C := RX12) (T := TX12) (N := 63) hx hb hwd inA_X12 hown hK hP 0 rfl rfl 23 (by decide) (hwd _ wk_199) (fun _ h9 => h9) rfl dX12_lostBy_113 ?_
                        refine lv_iload hx hb dX12_lostBy_116 (lv_at hl 0 rfl) ?_
                        refine va_iald hx hb hK hP 18 17 rfl rfl (i := x5_lp25471) (vin (a := x5_lp25471.toInt) rfl (by omega)) dX12_lostBy_118 ?_
                        refine lv_topi (fun z25571 e25572 => ?_)
                        have e25572 : z25571 = F 18 (x5_lp25471 : Int32).toNatClampNeg := e25572.trans (congrFun (hF 18 (by decide)) _)
                        refine lv_aload_n hx hb dX12_lostBy_119 rfl (lv_at hl 3 rfl) ?_
                        refine va_get (D := (dC, dI)) (ci := 12) (v := .ref (g 18)) (C := RX12) (T := TX12) (N := 63) hx hb hwd inA_X12 hown hK hP 0 rfl rfl 23 (by decide) (hwd _ wk_199) (fun _ h9 => h9) rfl dX12_lostBy_120 ?_
                        refine lv_iload_n hx hb dX12_lostBy_123 rfl (lv_at hl 4 rfl) ?_
                        refine va_iald hx hb hK hP 18 17 rfl rfl (i := p0) (vin (a := p0.toInt) rfl (by omega)) dX12_lostBy_124 ?_
                        refine lv_topi (fun z25573 e25574 => ?_)
                        have e25574 : z25573 = F 18 (p0 : Int32).toNatClampNeg := e25574.trans (congrFun (hF 18 (by decide)) _)
                        refine lv_icmp_ne (tgt := 142) hx hb dX12_lostBy_125 (by decide) (fun c25575 => ?_) (fun c25575 => ?_)
                        · skip
                          have t25576 := cv_ne (a := z25571.toInt) rfl (b := z25573.toInt) rfl c25575
                          refine lv_iconst (v := 0) hx hb dX12_lostBy_142 (by decide) ?_
                          refine lv_iadd hx hb dX12_lostBy_143 ?_
                          refine lv_topi (fun z25577 e25578 => ?_)
                          try (have t25579 := tadd e25578 (a := x4_lp25471.toInt) rfl (b := 0) (by decide) (by omega))
                          refine lv_istore (lv' := [(4, .int z25577), (5, .int x5_lp25471), (3, .int x3_lp25464), (0, .ref (g 0)), (1, .int p0), (2, .int p1)]) hx hb dX12_lostBy_144 hl (by decide) rfl (fun ls hl => ?_)
                          obtain ⟨z25580, e25581⟩ : ∃ y : Int32, y = x5_lp25471 + 1 := ⟨_, rfl⟩
                          try (have t25582 := tadd e25581 rfl (b := 1) (by decide) (by omega))
                          refine lv_iinc (v := z25580) (lv' := [(5, .int z25580), (4, .int z25577), (3, .int x3_lp25464), (0, .ref (g 0)), (1, .int p0), (2, .int p1)]) hx hb dX12_lostBy_146 hl (k := 1) rfl (by rw [e25581]; rfl) (by decide) rfl (fun ls hl => ?_)
                          refine lv_goto (tgt := 54) hx hb dX12_lostBy_149 (by decide) ?_
                          exact ih_lp25471 z25580 z25577 v_lp25471 F_lp25471 _ _ _ (by omega) (by omega) hf_lp25471 hI hF hP hS (lv_sub hl [0, 1, 2, 3, 4, 5] rfl)
                        · skip
                          have t25583 := cv_eq (a := z25571.toInt) rfl (b := z25573.toInt) rfl c25575
                          refine lv_aload_n hx hb dX12_lostBy_128 rfl (lv_at hl 3 rfl) ?_
                          refine lv_iload hx hb dX12_lostBy_129 (lv_at hl 0 rfl) ?_
                          refine lv_iload_n hx hb dX12_lostBy_131 rfl (lv_at hl 4 rfl) ?_
                          refine va_calli (va_runV (As := [.int x5_lp25471, .int p0]) (rest := [.int x4_lp25471]) ⟨hx, hb, hml, hown, hwd⟩ (c_X12_isAhead l dC dI g c adK adV v_lp25471 F_lp25471 rc H.size x5_lp25471 p0 hg hI (by omega) (by omega)) (cwV 2 hwd (gV wk_509 wk_506 wk_507 wk_508 wk_5) rfl rfl rfl (by decide +kernel) ⟨Nat.le_of_ble_eq_true rfl, Nat.le_of_ble_eq_true rfl⟩) ⟨PM.blind, va_recv hK hP (ci := 12) (q0 := 0) rfl rfl, fun U hU hW => ⟨rfl, PM.at hK hE hP hS hU hW⟩⟩ rfl rfl hl.1 rfl (lv_room (Nat.le_of_ble_eq_true rfl)) dX12_lostBy_132 ⟨Nat.le_of_ble_eq_true rfl, Nat.le_of_ble_eq_true rfl⟩) hS (fun q _ h => (freeM hS) q h) (freeM hS) (fun r25584 u t H1 locs ht hvm hw hB hz1 hk1 hS => ?_)
                          unfold BM at hB
                          rw [ht] at hB
                          have hP : va_P (dC, dI) classes (wM g c v_lp25471 F_lp25471 rc) H1 := hB
                          have hw : (r25584.toInt = 1 ∧ ((F_lp25471 17 x5_lp25471.toNatClampNeg).toInt < (F_lp25471 17 p0.toNatClampNeg).toInt ∨ ((F_lp25471 17 x5_lp25471.toNatClampNeg).toInt = (F_lp25471 17 p0.toNatClampNeg).toInt ∧ x5_lp25471.toInt < p0.toInt))) ∨ (r25584.toInt = 0 ∧ ¬ ((F_lp25471 17 x5_lp25471.toNatClampNeg).toInt < (F_lp25471 17 p0.toNatClampNeg).toInt ∨ ((F_lp25471 17 x5_lp25471.toNatClampNeg).toInt = (F_lp25471 17 p0.toNatClampNeg).toInt ∧ x5_lp25471.toInt < p0.toInt))) := hw
                          have hw_r25584 := hw
                          generalize H1 = H at hP hS ⊢
                          refine lv_if_eq (tgt := 142) hx hb dX12_lostBy_135 (by decide) (fun c25585 => ?_) (fun c25585 => ?_)
                          · skip
                            have t25586 := cv_eq (a := r25584.toInt) rfl (b := 0) (by decide) c25585
                            refine lv_iconst (v := 0) hx hb dX12_lostBy_142 (by decide) ?_
                            refine lv_iadd hx hb dX12_lostBy_143 ?_
                            refine lv_topi (fun z25587 e25588 => ?_)
                            try (have t25589 := tadd e25588 (a := x4_lp25471.toInt) rfl (b := 0) (by decide) (by omega))
                            refine lv_istore (lv' := [(4, .int z25587), (5, .int x5_lp25471), (3, .int x3_lp25464), (0, .ref (g 0)), (1, .int p0), (2, .int p1)]) hx hb dX12_lostBy_144 hl (by decide) rfl (fun ls hl => ?_)
                            obtain ⟨z25590, e25591⟩ : ∃ y : Int32, y = x5_lp25471 + 1 := ⟨_, rfl⟩
                            try (have t25592 := tadd e25591 rfl (b := 1) (by decide) (by omega))
                            refine lv_iinc (v := z25590) (lv' := [(5, .int z25590), (4, .int z25587), (3, .int x3_lp25464), (0, .ref (g 0)), (1, .int p0), (2, .int p1)]) hx hb dX12_lostBy_146 hl (k := 1) rfl (by rw [e25591]; rfl) (by decide) rfl (fun ls hl => ?_)
                            refine lv_goto (tgt := 54) hx hb dX12_lostBy_149 (by decide) ?_
                            exact ih_lp25471 z25590 z25587 v_lp25471 F_lp25471 _ _ _ (by omega) (by omega) hf_lp25471 hI hF hP hS (lv_sub hl [0, 1, 2, 3, 4, 5] rfl)
                          · skip
                            have t25593 := cv_ne (a := r25584.toInt) rfl (b := 0) (by decide) c25585
                            refine lv_iconst (v := 1) hx hb dX12_lostBy_138 (by decide) ?_
                            refine lv_goto (tgt := 143) hx hb dX12_lostBy_139 (by decide) ?_
                            refine lv_iadd hx hb dX12_lostBy_143 ?_
                            refine lv_topi (fun z25594 e25595 => ?_)
                            try (have t25596 := tadd e25595 (a := x4_lp25471.toInt) rfl (b := 1) (by decide) (by omega))
                            refine lv_istore (lv' := [(4, .int z25594), (5, .int x5_lp25471), (3, .int x3_lp25464), (0, .ref (g 0)), (1, .int p0), (2, .int p1)]) hx hb dX12_lostBy_144 hl (by decide) rfl (fun ls hl => ?_)
                            obtain ⟨z25597, e25598⟩ : ∃ y : Int32, y = x5_lp25471 + 1 := ⟨_, rfl⟩
                            try (have t25599 := tadd e25598 rfl (b := 1) (by decide) (by omega))
                            refine lv_iinc (v := z25597) (lv' := [(5, .int z25597), (4, .int z25594), (3, .int x3_lp25464), (0, .ref (g 0)), (1, .int p0), (2, .int p1)]) hx hb dX12_lostBy_146 hl (k := 1) rfl (by rw [e25598]; rfl) (by decide) rfl (fun ls hl => ?_)
                            refine lv_goto (tgt := 54) hx hb dX12_lostBy_149 (by decide) ?_
                            exact ih_lp25471 z25597 z25594 v_lp25471 F_lp25471 _ _ _ (by omega) (by omega) hf_lp25471 hI hF hP hS (lv_sub hl [0, 1, 2, 3, 4, 5] rfl)
          obtain ⟨n9, hn9⟩ : ∃ n : Nat, 2147483648 - 0 ≤ (n : Int) := ⟨((2147483648 - 0 : Int)).toNat, by omega⟩
          exact lp25471 n9 0 0 v_lp25464 F_lp25464 H _ ls (by have : (0 : Int32).toInt = 0 := (by decide); have : (0 : Int32).toInt = 0 := (by decide); omega) (by have : (0 : Int32).toInt = 0 := (by decide); have : (0 : Int32).toInt = 0 := (by decide); omega) (fun _ _ => rfl) hI hF hP hS hl
        · skip
          have t25600 := cv_nle (a := 0) (by decide) (b := x3_lp25464.toInt) rfl c25469
          refine lv_iconst (v := 0) hx hb dX12_lostBy_46 (by decide) ?_
          have hP9 : va_P (dC, dI) classes (wM g c v_lp25464 F_lp25464 rc) H := hP
          exact W.iret (v := 0) hx hb hr (fun t ht hW => ⟨⟨0, (v_lp25464, F_lp25464, rc), rfl, ⟨hI, rfl, (frC (by decide) hf_lp25464 (fun _ _ => rfl)), hF, by have : (0 : Int32).toInt = 0 := (by decide); omega⟩, (by show va_P _ _ _ t.heap; rw [ht]; exact hP9)⟩, hS.F ht⟩) hS.2.2 dX12_lostBy_47
      · skip
        have t25601 := cv_nlt (a := x3_lp25464.toInt) rfl (b := 0) (by decide) c25467
        refine lv_aload_n hx hb dX12_lostBy_11 rfl (lv_at hl 1 rfl) ?_
        refine va_get (D := (dC, dI)) (ci := 12) (v := .ref (g 25)) (C := RX12) (T := TX12) (N := 63) hx hb hwd inA_X12 hown hK hP 0 rfl rfl 32 (by decide) (hwd _ wk_207) (fun _ h9 => h9) rfl dX12_lostBy_12 ?_
        refine lv_iload_n hx hb dX12_lostBy_15 rfl (lv_at hl 0 rfl) ?_
        refine va_iald hx hb hK hP 25 24 rfl rfl (i := x3_lp25464) (vin (a := x3_lp25464.toInt) rfl (by omega)) dX12_lostBy_16 ?_
        refine lv_topi (fun z25602 e25603 => ?_)
        have e25603 : z25602 = F 25 (x3_lp25464 : Int32).toNatClampNeg := e25603.trans (congrFun (hF 25 (by decide)) _)
        refine lv_iload_n hx hb dX12_lostBy_17 rfl (lv_at hl 3 rfl) ?_
        refine lv_icmp_gt (tgt := 36) hx hb dX12_lostBy_18 (by decide) (fun c25604 => ?_) (fun c25604 => ?_)
        · skip
          have t25605 := cv_lt (a := p1.toInt) rfl (b := z25602.toInt) rfl c25604
          obtain ⟨z25606, e25607⟩ : ∃ y : Int32, y = x3_lp25464 + (-1) := ⟨_, rfl⟩
          try (have t25608 := tadd e25607 rfl (b := (-1)) (by decide) (by omega))
          refine lv_iinc (v := z25606) (lv' := [(3, .int z25606), (0, .ref (g 0)), (1, .int p0), (2, .int p1)]) hx hb dX12_lostBy_36 hl (k := 0) rfl (by rw [e25607]; rfl) (by decide) rfl (fun ls hl => ?_)
          refine lv_goto (tgt := 7) hx hb dX12_lostBy_39 (by decide) ?_
          exact ih_lp25464 z25606 v_lp25464 F_lp25464 _ _ _ (by omega) (by omega) (by omega) hf_lp25464 hI hF hP hS (lv_sub hl [0, 1, 2, 3] rfl)
        · skip
          have t25609 := cv_nlt (a := p1.toInt) rfl (b := z25602.toInt) rfl c25604
          refine lv_aload_n hx hb dX12_lostBy_21 rfl (lv_at hl 1 rfl) ?_
          refine va_get (D := (dC, dI)) (ci := 12) (v := .ref (g 26)) (C := RX12) (T := TX12) (N := 63) hx hb hwd inA_X12 hown hK hP 0 rfl rfl 33 (by decide) (hwd _ wk_208) (fun _ h9 => h9) rfl dX12_lostBy_22 ?_
          refine lv_iload_n hx hb dX12_lostBy_25 rfl (lv_at hl 0 rfl) ?_
          refine va_iald hx hb hK hP 26 25 rfl rfl (i := x3_lp25464) (vin (a := x3_lp25464.toInt) rfl (by omega)) dX12_lostBy_26 ?_
          refine lv_topi (fun z25610 e25611 => ?_)
          have e25611 : z25610 = F 26 (x3_lp25464 : Int32).toNatClampNeg := e25611.trans (congrFun (hF 26 (by decide)) _)
          refine lv_aload_n hx hb dX12_lostBy_27 rfl (lv_at hl 1 rfl) ?_
          refine va_get (D := (dC, dI)) (ci := 12) (v := .ref (g 18)) (C := RX12) (T := TX12) (N := 63) hx hb hwd inA_X12 hown hK hP 0 rfl rfl 23 (by decide) (hwd _ wk_199) (fun _ h9 => h9) rfl dX12_lostBy_28 ?_
          refine lv_iload_n hx hb dX12_lostBy_31 rfl (lv_at hl 2 rfl) ?_
          refine va_iald hx hb hK hP 18 17 rfl rfl (i := p0) (vin (a := p0.toInt) rfl (by omega)) dX12_lostBy_32 ?_
          refine lv_topi (fun z25612 e25613 => ?_)
          have e25613 : z25612 = F 18 (p0 : Int32).toNatClampNeg := e25613.trans (congrFun (hF 18 (by decide)) _)
          refine lv_icmp_le (tgt := 42) hx hb dX12_lostBy_33 (by decide) (fun c25614 => ?_) (fun c25614 => ?_)
          · skip
            have t25615 := cv_le (a := z25610.toInt) rfl (b := z25612.toInt) rfl c25614
            refine lv_iload_n hx hb dX12_lostBy_42 rfl (lv_at hl 0 rfl) ?_
            refine lv_if_ge (tgt := 48) hx hb dX12_lostBy_43 (by decide) (fun c25616 => ?_) (fun c25616 => ?_)
            · skip
              have t25617 := cv_le (a := 0) (by decide) (b := x3_lp25464.toInt) rfl c25616
              refine lv_iconst (v := 0) hx hb dX12_lostBy_48 (by decide) ?_
              refine lv_istore (lv' := [(4, .int 0), (3, .int x3_lp25464), (0, .ref (g 0)), (1, .int p0), (2, .int p1)]) hx hb dX12_lostBy_49 hl (by decide) rfl (fun ls hl => ?_)
              refine lv_iconst (v := 0) hx hb dX12_lostBy_51 (by decide) ?_
              refine lv_istore (lv' := [(5, .int 0), (4, .int 0), (3, .int x3_lp25464), (0, .ref (g 0)), (1, .int p0), (2, .int p1)]) hx hb dX12_lostBy_52 hl (by decide) rfl (fun ls hl => ?_)
              have lp25618 : ∀ (n : Nat) (x5_lp25618 : Int32) (x4_lp25618 : Int32) (v_lp25618 : Nat → Int32) (F_lp25618 : Nat → Nat → Int32) (H : Heap) (locs : List Loc) (ls : Array Slot), (0 ≤ x5_lp25618.toInt) → (2147483648 - x5_lp25618.toInt ≤ (n : Int)) → (∀ k, k ∉ ([] : List Nat) → v_lp25618 k = v_lp25464 k) → IM v_lp25618 F_lp25618 → (∀ k, k ∉ ([30, 31] : List Nat) → F_lp25618 k = F k) → va_P (dC, dI) classes (wM g c v_lp25618 F_lp25618 rc) H → va_S (AM g s.heap.size) s.heap H locs → lv_has ls 6 [(5, .int x5_lp25618), (4, .int x4_lp25618), (3, .int x3_lp25464), (0, .ref (g 0)), (1, .int p0), (2, .int p1)] → W p l e (headSpec (Cond.code yX12_lostBy cX12_lostBy 6 (some .int) :: wA) ({ frames := 3, cells := 0, slots := 0, locals := 120 })).room s m ([.ref (g 0), .int p0, .int p1] : List Value).toArray below meth c0 H locs 0 0 (MQ below (va_Qi (fun (r : Int32) (u : StM) => IM u.1 u.2.1 ∧ u.2.2 = rc ∧ (∀ k, k ∉ ([] : List Nat) → u.1 k = v k) ∧ (∀ k, k ∉ ([30, 31] : List Nat) → u.2.1 k = F k) ∧ 0 ≤ r.toInt ∧ r.toInt ≤ 100) (BM dC dI g c) (AM g s.heap.size)) ([.ref (g 0), .int p0, .int p1] : List Value).toArray s 0 0 (AM g s.heap.size)) (F0 m 54 ls []) := by
                intro n
                induction n with
                | zero =>
                  intro x5_lp25618 x4_lp25618 v_lp25618 F_lp25618 H locs ls t25619 hm hf_lp25618 hI hF hP hS hl
                  exfalso
                  have := i32_rng x5_lp25618
                  have := i32_rng x4_lp25618
                  have hI1 := hI.1
                  omega
                | succ n ih_lp25618 =>
                  intro x5_lp25618 x4_lp25618 v_lp25618 F_lp25618 H locs ls t25619 hm hf_lp25618 hI hF hP hS hl
                  have rx5_lp25618 := i32_rng x5_lp25618
                  have rx4_lp25618 := i32_rng x4_lp25618
                  refine lv_iload hx hb dX12_lostBy_54 (lv_at hl 0 rfl) ?_
                  refine lv_aload_n hx hb dX12_lostBy_56 rfl (lv_at hl 3 rfl) ?_
                  refine va_get (D := (dC, dI)) (ci := 12) (v := .int (v_lp25618 19)) (C := RX12) (T := TX12) (N := 63) hx hb hwd inA_X12 hown hK hP 0 rfl rfl 19 (by decide) (hwd _ wk_494) (fun _ h9 => h9) rfl dX12_lostBy_57 ?_
                  refine my_top (v := v 19) ((hf_lp25618 19 (by decide)).trans (hf_lp25464 19 (by decide))) ?_
                  have t25620 : 0 ≤ (v 19).toInt ∧ (v 19).toInt ≤ 500 := by have h9 := hI.1 19 _ _ rfl; rw [show v_lp25618 19 = v 19 from (hf_lp25618 19 (by decide)).trans (hf_lp25464 19 (by decide))] at h9; exact h9
                  refine lv_icmp_ge (tgt := 152) hx hb dX12_lostBy_60 (by decide) (fun c25621 => ?_) (fun c25621 => ?_)
                  · skip
                    have t25622 := cv_le (a := (v 19).toInt) rfl (b := x5_lp25618.toInt) rfl c25621
                    refine lv_aload_n hx hb dX12_lostBy_152 rfl (lv_at hl 3 rfl) ?_
                    refine va_get (D := (dC, dI)) (ci := 12) (v := .ref (g 31)) (C := RX12) (T := TX12) (N := 63) hx hb hwd inA_X12 hown hK hP 0 rfl rfl 44 (by decide) (hwd _ wk_213) (fun _ h9 => h9) rfl dX12_lostBy_153 ?_
                    refine lv_iconst (v := 0) hx hb dX12_lostBy_156 (by decide) ?_
                    refine lv_aload_n hx hb dX12_lostBy_157 rfl (lv_at hl 3 rfl) ?_
                    refine va_get (D := (dC, dI)) (ci := 12) (v := .ref (g 18)) (C := RX12) (T := TX12) (N := 63) hx hb hwd inA_X12 hown hK hP 0 rfl rfl 23 (by decide) (hwd _ wk_199) (fun _ h9 => h9) rfl dX12_lostBy_158 ?_
                    refine lv_iload_n hx hb dX12_lostBy_161 rfl (lv_at hl 4 rfl) ?_
                    refine va_iald hx hb hK hP 18 17 rfl rfl (i := p0) (vin (a := p0.toInt) rfl (by omega)) dX12_lostBy_162 ?_
                    refine lv_topi (fun z25623 e25624 => ?_)
                    have e25624 : z25623 = F 18 (p0 : Int32).toNatClampNeg := e25624.trans (congrFun (hF 18 (by decide)) _)
                    refine lv_aload_n hx hb dX12_lostBy_163 rfl (lv_at hl 3 rfl) ?_
                    refine va_get (D := (dC, dI)) (ci := 12) (v := .ref (g 17)) (C := RX12) (T := TX12) (N := 63) hx hb hwd inA_X12 hown hK hP 0 rfl rfl 22 (by decide) (hwd _ wk_198) (fun _ h9 => h9) rfl dX12_lostBy_164 ?_
                    refine lv_iload_n hx hb dX12_lostBy_167 rfl (lv_at hl 4 rfl) ?_
                    refine va_iald hx hb hK hP 17 16 rfl rfl (i := p0) (vin (a := p0.toInt) rfl (by omega)) dX12_lostBy_168 ?_
                    refine lv_topi (fun z25625 e25626 => ?_)
                    have e25626 : z25625 = F 17 (p0 : Int32).toNatClampNeg := e25626.trans (congrFun (hF 17 (by decide)) _)
                    refine lv_isub hx hb dX12_lostBy_169 ?_
                    refine lv_topi (fun z25627 e25628 => ?_)
                    try (have t25629 := tsub e25628 (a := z25623.toInt) rfl (b := z25625.toInt) rfl (by omega))
                    refine va_iast hx hb hK hP (DM hg) hS 31 30 rfl rfl (i := 0) (x := z25627) (vin (a := 0) (by decide) (by omega)) dX12_lostBy_170 (fun H locs hP _ hS => ?_)
                    have hP := va_P_eq (sM_31 g c _ _ _ _) hP
                    have hI := IM.store0 hI 31 (0 : Int32).toNatClampNeg z25627 rfl
                    have hF := frUF (k := 31) (f := upd (F_lp25618 31) (0 : Int32).toNatClampNeg z25627) (by decide) hF
                    have hP : va_P (dC, dI) classes (wM g c v_lp25618 (va_up F_lp25618 31 (upd (F_lp25618 31) (0 : Int32).toNatClampNeg z25627)) rc) H := hP
                    generalize (va_up F_lp25618 31 (upd (F_lp25618 31) (0 : Int32).toNatClampNeg z25627)) = F25630 at hP hI hF
                    refine lv_aload_n hx hb dX12_lostBy_171 rfl (lv_at hl 3 rfl) ?_
                    refine va_get (D := (dC, dI)) (ci := 12) (v := .ref (g 31)) (C := RX12) (T := TX12) (N := 63) hx hb hwd inA_X12 hown hK hP 0 rfl rfl 44 (by decide) (hwd _ wk_213) (fun _ h9 => h9) rfl dX12_lostBy_172 ?_
                    refine lv_iconst (v := 1) hx hb dX12_lostBy_175 (by decide) ?_
                    refine lv_aload_n hx hb dX12_lostBy_176 rfl (lv_at hl 3 rfl) ?_
                    refine va_get (D := (dC, dI)) (ci := 12) (v := .ref (g 20)) (C := RX12) (T := TX12) (N := 63) hx hb hwd inA_X12 hown hK hP 0 rfl rfl 25 (by decide) (hwd _ wk_201) (fun _ h9 => h9) rfl dX12_lostBy_177 ?_
                    refine lv_iload_n hx hb dX12_lostBy_180 rfl (lv_at hl 4 rfl) ?_
                    refine va_iald hx hb hK hP 20 19 rfl rfl (i := p0) (vin (a := p0.toInt) rfl (by omega)) dX12_lostBy_181 ?_
                    refine lv_topi (fun z25631 e25632 => ?_)
                    have e25632 : z25631 = F 20 (p0 : Int32).toNatClampNeg := e25632.trans (congrFun (hF 20 (by decide)) _)
                    refine lv_aload_n hx hb dX12_lostBy_182 rfl (lv_at hl 3 rfl) ?_
                    refine va_get (D := (dC, dI)) (ci := 12) (v := .ref (g 19)) (C := RX12) (T := TX12) (N := 63) hx hb hwd inA_X12 hown hK hP 0 rfl rfl 24 (by decide) (hwd _ wk_200) (fun _ h9 => h9) rfl dX12_lostBy_183 ?_
                    refine lv_iload_n hx hb dX12_lostBy_186 rfl (lv_at hl 4 rfl) ?_
                    refine va_iald hx hb hK hP 19 18 rfl rfl (i := p0) (vin (a := p0.toInt) rfl (by omega)) dX12_lostBy_187 ?_
                    refine lv_topi (fun z25633 e25634 => ?_)
                    have e25634 : z25633 = F 19 (p0 : Int32).toNatClampNeg := e25634.trans (congrFun (hF 19 (by decide)) _)
                    refine lv_isub hx hb dX12_lostBy_188 ?_
                    refine lv_topi (fun z25635 e25636 => ?_)
                    try (have t25637 := tsub e25636 (a := z25631.toInt) rfl (b := z25633.toInt) rfl (by omega))
                    refine va_iast hx hb hK hP (DM hg) hS 31 30 rfl rfl (i := 1) (x := z25635) (vin (a := 1) (by decide) (by omega)) dX12_lostBy_189 (fun H locs hP _ hS => ?_)
                    have hP := va_P_eq (sM_31 g c _ _ _ _) hP
                    have hI := IM.store0 hI 31 (1 : Int32).toNatClampNeg z25635 rfl
                    have hF := frUF (k := 31) (f := upd (F25630 31) (1 : Int32).toNatClampNeg z25635) (by decide) hF
                    have hP : va_P (dC, dI) classes (wM g c v_lp25618 (va_up F25630 31 (upd (F25630 31) (1 : Int32).toNatClampNeg z25635)) rc) H := hP
                    generalize (va_up F25630 31 (upd (F25630 31) (1 : Int32).toNatClampNeg z25635)) = F25638 at hP hI hF
                    refine lv_aload_n hx hb dX12_lostBy_190 rfl (lv_at hl 3 rfl) ?_
                    refine va_get (D := (dC, dI)) (ci := 12) (v := .ref (g 31)) (C := RX12) (T := TX12) (N := 63) hx hb hwd inA_X12 hown hK hP 0 rfl rfl 44 (by decide) (hwd _ wk_213) (fun _ h9 => h9) rfl dX12_lostBy_191 ?_
                    refine lv_iconst (v := 2) hx hb dX12_lostBy_194 (by decide) ?_
                    refine lv_aload_n hx hb dX12_lostBy_195 rfl (lv_at hl 3 rfl) ?_
                    refine va_get (D := (dC, dI)) (ci := 12) (v := .ref (g 22)) (C := RX12) (T := TX12) (N := 63) hx hb hwd inA_X12 hown hK hP 0 rfl rfl 27 (by decide) (hwd _ wk_203) (fun _ h9 => h9) rfl dX12_lostBy_196 ?_
                    refine lv_iload_n hx hb dX12_lostBy_199 rfl (lv_at hl 4 rfl) ?_
                    refine va_iald hx hb hK hP 22 21 rfl rfl (i := p0) (vin (a := p0.toInt) rfl (by omega)) dX12_lostBy_200 ?_
                    refine lv_topi (fun z25639 e25640 => ?_)
                    have e25640 : z25639 = F 22 (p0 : Int32).toNatClampNeg := e25640.trans (congrFun (hF 22 (by decide)) _)
                    refine lv_aload_n hx hb dX12_lostBy_201 rfl (lv_at hl 3 rfl) ?_
                    refine va_get (D := (dC, dI)) (ci := 12) (v := .ref (g 21)) (C := RX12) (T := TX12) (N := 63) hx hb hwd inA_X12 hown hK hP 0 rfl rfl 26 (by decide) (hwd _ wk_202) (fun _ h9 => h9) rfl dX12_lostBy_202 ?_
                    refine lv_iload_n hx hb dX12_lostBy_205 rfl (lv_at hl 4 rfl) ?_
                    refine va_iald hx hb hK hP 21 20 rfl rfl (i := p0) (vin (a := p0.toInt) rfl (by omega)) dX12_lostBy_206 ?_
                    refine lv_topi (fun z25641 e25642 => ?_)
                    have e25642 : z25641 = F 21 (p0 : Int32).toNatClampNeg := e25642.trans (congrFun (hF 21 (by decide)) _)
                    refine lv_isub hx hb dX12_lostBy_207 ?_
                    refine lv_topi (fun z25643 e25644 => ?_)
                    try (have t25645 := tsub e25644 (a := z25639.toInt) rfl (b := z25641.toInt) rfl (by omega))
                    refine va_iast hx hb hK hP (DM hg) hS 31 30 rfl rfl (i := 2) (x := z25643) (vin (a := 2) (by decide) (by omega)) dX12_lostBy_208 (fun H locs hP _ hS => ?_)
                    have hP := va_P_eq (sM_31 g c _ _ _ _) hP
                    have hI := IM.store0 hI 31 (2 : Int32).toNatClampNeg z25643 rfl
                    have hF := frUF (k := 31) (f := upd (F25638 31) (2 : Int32).toNatClampNeg z25643) (by decide) hF
                    have hP : va_P (dC, dI) classes (wM g c v_lp25618 (va_up F25638 31 (upd (F25638 31) (2 : Int32).toNatClampNeg z25643)) rc) H := hP
                    generalize (va_up F25638 31 (upd (F25638 31) (2 : Int32).toNatClampNeg z25643)) = F25646 at hP hI hF
                    refine lv_aload_n hx hb dX12_lostBy_209 rfl (lv_at hl 3 rfl) ?_
                    refine va_get (D := (dC, dI)) (ci := 12) (v := .ref (g 31)) (C := RX12) (T := TX12) (N := 63) hx hb hwd inA_X12 hown hK hP 0 rfl rfl 44 (by decide) (hwd _ wk_213) (fun _ h9 => h9) rfl dX12_lostBy_210 ?_
                    refine lv_iconst (v := 3) hx hb dX12_lostBy_213 (by decide) ?_
                    refine lv_aload_n hx hb dX12_lostBy_214 rfl (lv_at hl 3 rfl) ?_
                    refine va_get (D := (dC, dI)) (ci := 12) (v := .ref (g 16)) (C := RX12) (T := TX12) (N := 63) hx hb hwd inA_X12 hown hK hP 0 rfl rfl 21 (by decide) (hwd _ wk_197) (fun _ h9 => h9) rfl dX12_lostBy_215 ?_
                    refine lv_iload_n hx hb dX12_lostBy_218 rfl (lv_at hl 4 rfl) ?_
                    refine va_iald hx hb hK hP 16 15 rfl rfl (i := p0) (vin (a := p0.toInt) rfl (by omega)) dX12_lostBy_219 ?_
                    refine lv_topi (fun z25647 e25648 => ?_)
                    have t25649 : 0 ≤ z25647.toInt ∧ z25647.toInt ≤ 11 := by rw [e25648]; exact hI.2 16 _ _ rfl _
                    have e25648 : z25647 = F 16 (p0 : Int32).toNatClampNeg := e25648.trans (congrFun (hF 16 (by decide)) _)
                    refine va_iast hx hb hK hP (DM hg) hS 31 30 rfl rfl (i := 3) (x := z25647) (vin (a := 3) (by decide) (by omega)) dX12_lostBy_220 (fun H locs hP _ hS => ?_)
                    have hP := va_P_eq (sM_31 g c _ _ _ _) hP
                    have hI := IM.store0 hI 31 (3 : Int32).toNatClampNeg z25647 rfl
                    have hF := frUF (k := 31) (f := upd (F25646 31) (3 : Int32).toNatClampNeg z25647) (by decide) hF
                    have hP : va_P (dC, dI) classes (wM g c v_lp25618 (va_up F25646 31 (upd (F25646 31) (3 : Int32).toNatClampNeg z25647)) rc) H := hP
                    generalize (va_up F25646 31 (upd (F25646 31) (3 : Int32).toNatClampNeg z25647)) = F25650 at hP hI hF
                    refine lv_aload_n hx hb dX12_lostBy_221 rfl (lv_at hl 3 rfl) ?_
                    refine va_get (D := (dC, dI)) (ci := 12) (v := .ref (g 31)) (C := RX12) (T := TX12) (N := 63) hx hb hwd inA_X12 hown hK hP 0 rfl rfl 44 (by decide) (hwd _ wk_213) (fun _ h9 => h9) rfl dX12_lostBy_222 ?_
                    refine lv_iconst (v := 4) hx hb dX12_lostBy_225 (by decide) ?_
                    refine lv_aload_n hx hb dX12_lostBy_226 rfl (lv_at hl 3 rfl) ?_
                    refine va_get (D := (dC, dI)) (ci := 12) (v := .ref (g 11)) (C := RX12) (T := TX12) (N := 63) hx hb hwd inA_X12 hown hK hP 0 rfl rfl 15 (by decide) (hwd _ wk_192) (fun _ h9 => h9) rfl dX12_lostBy_227 ?_
                    refine lv_aload_n hx hb dX12_lostBy_230 rfl (lv_at hl 3 rfl) ?_
                    refine va_get (D := (dC, dI)) (ci := 12) (v := .ref (g 15)) (C := RX12) (T := TX12) (N := 63) hx hb hwd inA_X12 hown hK hP 0 rfl rfl 20 (by decide) (hwd _ wk_196) (fun _ h9 => h9) rfl dX12_lostBy_231 ?_
                    refine lv_iload_n hx hb dX12_lostBy_234 rfl (lv_at hl 4 rfl) ?_
                    refine va_iald hx hb hK hP 15 14 rfl rfl (i := p0) (vin (a := p0.toInt) rfl (by omega)) dX12_lostBy_235 ?_
                    refine lv_topi (fun z25651 e25652 => ?_)
                    have t25653 : 0 ≤ z25651.toInt ∧ z25651.toInt ≤ 99 := by rw [e25652]; exact hI.2 15 _ _ rfl _
                    have e25652 : z25651 = F 15 (p0 : Int32).toNatClampNeg := e25652.trans (congrFun (hF 15 (by decide)) _)
                    refine va_iald hx hb hK hP 11 10 rfl rfl (i := z25651) (vin (a := z25651.toInt) rfl (by omega)) dX12_lostBy_236 ?_
                    refine lv_topi (fun z25654 e25655 => ?_)
                    have t25656 : 0 ≤ z25654.toInt ∧ z25654.toInt ≤ 9 := by rw [e25655]; exact hI.2 11 _ _ rfl _
                    have e25655 : z25654 = F 11 (z25651 : Int32).toNatClampNeg := e25655.trans (congrFun (hF 11 (by decide)) _)
                    refine va_iast hx hb hK hP (DM hg) hS 31 30 rfl rfl (i := 4) (x := z25654) (vin (a := 4) (by decide) (by omega)) dX12_lostBy_237 (fun H locs hP _ hS => ?_)
                    have hP := va_P_eq (sM_31 g c _ _ _ _) hP
                    have hI := IM.store0 hI 31 (4 : Int32).toNatClampNeg z25654 rfl
                    have hF := frUF (k := 31) (f := upd (F25650 31) (4 : Int32).toNatClampNeg z25654) (by decide) hF
                    have hP : va_P (dC, dI) classes (wM g c v_lp25618 (va_up F25650 31 (upd (F25650 31) (4 : Int32).toNatClampNeg z25654)) rc) H := hP
                    generalize (va_up F25650 31 (upd (F25650 31) (4 : Int32).toNatClampNeg z25654)) = F25657 at hP hI hF
                    refine lv_aload_n hx hb dX12_lostBy_238 rfl (lv_at hl 3 rfl) ?_
                    refine va_get (D := (dC, dI)) (ci := 12) (v := .ref (g 31)) (C := RX12) (T := TX12) (N := 63) hx hb hwd inA_X12 hown hK hP 0 rfl rfl 44 (by decide) (hwd _ wk_213) (fun _ h9 => h9) rfl dX12_lostBy_239 ?_
                    refine lv_iconst (v := 5) hx hb dX12_lostBy_242 (by decide) ?_
                    refine lv_iload hx hb dX12_lostBy_243 (lv_at hl 1 rfl) ?_
                    refine va_iast hx hb hK hP (DM hg) hS 31 30 rfl rfl (i := 5) (x := x4_lp25618) (vin (a := 5) (by decide) (by omega)) dX12_lostBy_245 (fun H locs hP _ hS => ?_)
                    have hP := va_P_eq (sM_31 g c _ _ _ _) hP
                    have hI := IM.store0 hI 31 (5 : Int32).toNatClampNeg x4_lp25618 rfl
                    have hF := frUF (k := 31) (f := upd (F25657 31) (5 : Int32).toNatClampNeg x4_lp25618) (by decide) hF
                    have hP : va_P (dC, dI) classes (wM g c v_lp25618 (va_up F25657 31 (upd (F25657 31) (5 : Int32).toNatClampNeg x4_lp25618)) rc) H := hP
                    generalize (va_up F25657 31 (upd (F25657 31) (5 : Int32).toNatClampNeg x4_lp25618)) = F25658 at hP hI hF
                    refine lv_aload_n hx hb dX12_lostBy_246 rfl (lv_at hl 3 rfl) ?_
                    refine lv_iload_n hx hb dX12_lostBy_247 rfl (lv_at hl 2 rfl) ?_
                    refine va_calli (va_runV (As := [.int x3_lp25464]) (rest := []) ⟨hx, hb, hml, hown, hwd⟩ (c_X12_works l dC dI g c adK adV v_lp25618 F25658 rc H.size x3_lp25464 hg hI (by omega) (JL.at' (JL.to hL rfl (hF 28 (by decide)) (hF 29 (by decide)) (hF 27 (by decide))) (i := x3_lp25464) (by omega) (by omega))) (cwV 1 hwd (gV wk_513 wk_510 wk_511 wk_512 wk_5) rfl rfl rfl (by decide +kernel) ⟨Nat.le_of_ble_eq_true rfl, Nat.le_of_ble_eq_true rfl⟩) ⟨PM.blind, va_recv hK hP (ci := 12) (q0 := 0) rfl rfl, fun U hU hW => ⟨rfl, PM.at hK hE hP hS hU hW⟩⟩ rfl rfl hl.1 rfl (lv_room (Nat.le_of_ble_eq_true rfl)) dX12_lostBy_248 ⟨Nat.le_of_ble_eq_true rfl, Nat.le_of_ble_eq_true rfl⟩) hS (fun q _ h => (freeM hS) q h) (freeM hS) (fun r25659 u t H1 locs ht hvm hw hB hz1 hk1 hS => ?_)
                    unfold BM at hB
                    rw [ht] at hB
                    obtain ⟨v25660, F25661, rc9⟩ := u
                    obtain ⟨hI, hrc, hf25662, hG25663, hw⟩ := hw
                    dsimp only at hI hrc hB hf25662 hG25663 hw
                    have hF := frCF (by decide) hG25663 hF
                    rw [hrc] at hB
                    have hP : va_P (dC, dI) classes (wM g c v25660 F25661 rc) H1 := hB
                    generalize H1 = H at hP hS ⊢
                    have rr_r25659 := i32_rng r25659
                    refine lv_istore (lv' := [(5, .int r25659), (4, .int x4_lp25618), (3, .int x3_lp25464), (0, .ref (g 0)), (1, .int p0), (2, .int p1)]) hx hb dX12_lostBy_251 hl (by decide) rfl (fun ls hl => ?_)
                    refine lv_iload hx hb dX12_lostBy_253 (lv_at hl 0 rfl) ?_
                    refine lv_if_ge (tgt := 262) hx hb dX12_lostBy_255 (by decide) (fun c25664 => ?_) (fun c25664 => ?_)
                    · skip
                      have t25665 := cv_le (a := 0) (by decide) (b := r25659.toInt) rfl c25664
                      refine lv_iload hx hb dX12_lostBy_262 (lv_at hl 0 rfl) ?_
                      refine lv_bipush (v := 100) hx hb dX12_lostBy_264 (by decide) ?_
                      refine lv_icmp_le (tgt := 274) hx hb dX12_lostBy_266 (by decide) (fun c25666 => ?_) (fun c25666 => ?_)
                      · skip
                        have t25667 := cv_le (a := r25659.toInt) rfl (b := 100) (by decide) c25666
                        refine lv_iload hx hb dX12_lostBy_274 (lv_at hl 0 rfl) ?_
                        have hP9 : va_P (dC, dI) classes (wM g c v25660 F25661 rc) H := hP
                        exact W.iret (v := r25659) hx hb hr (fun t ht hW => ⟨⟨r25659, (v25660, F25661, rc), rfl, ⟨hI, rfl, (frC (by decide) hf25662 (frC (by decide) hf_lp25618 (frC (by decide) hf_lp25464 (fun _ _ => rfl)))), hF, by omega⟩, (by show va_P _ _ _ t.heap; rw [ht]; exact hP9)⟩, hS.F ht⟩) hS.2.2 dX12_lostBy_276
                      · skip
                        have t25668 := cv_nle (a := r25659.toInt) rfl (b := 100) (by decide) c25666
                        refine lv_bipush (v := 100) hx hb dX12_lostBy_269 (by decide) ?_
                        refine lv_goto (tgt := 276) hx hb dX12_lostBy_271 (by decide) ?_
                        have hP9 : va_P (dC, dI) classes (wM g c v25660 F25661 rc) H := hP
                        exact W.iret (v := 100) hx hb hr (fun t ht hW => ⟨⟨100, (v25660, F25661, rc), rfl, ⟨hI, rfl, (frC (by decide) hf25662 (frC (by decide) hf_lp25618 (frC (by decide) hf_lp25464 (fun _ _ => rfl)))), hF, by have : (100 : Int32).toInt = 100 := (by decide); omega⟩, (by show va_P _ _ _ t.heap; rw [ht]; exact hP9)⟩, hS.F ht⟩) hS.2.2 dX12_lostBy_276
                    · skip
                      have t25669 := cv_nle (a := 0) (by decide) (b := r25659.toInt) rfl c25664
                      refine lv_iconst (v := 0) hx hb dX12_lostBy_258 (by decide) ?_
                      refine lv_goto (tgt := 276) hx hb dX12_lostBy_259 (by decide) ?_
                      have hP9 : va_P (dC, dI) classes (wM g c v25660 F25661 rc) H := hP
                      exact W.iret (v := 0) hx hb hr (fun t ht hW => ⟨⟨0, (v25660, F25661, rc), rfl, ⟨hI, rfl, (frC (by decide) hf25662 (frC (by decide) hf_lp25618 (frC (by decide) hf_lp25464 (fun _ _ => rfl)))), hF, by have : (0 : Int32).toInt = 0 := (by decide); omega⟩, (by show va_P _ _ _ t.heap; rw [ht]; exact hP9)⟩, hS.F ht⟩) hS.2.2 dX12_lostBy_276
                  · skip
                    have t25670 := cv_nle (a := (v 19).toInt) rfl (b := x5_lp25618.toInt) rfl c25621
                    refine lv_iload hx hb dX12_lostBy_63 (lv_at hl 1 rfl) ?_
                    refine lv_iload hx hb dX12_lostBy_65 (lv_at hl 0 rfl) ?_
                    refine lv_iload_n hx hb dX12_lostBy_67 rfl (lv_at hl 4 rfl) ?_
                    refine lv_icmp_eq (tgt := 142) hx hb dX12_lostBy_68 (by decide) (fun c25671 => ?_) (fun c25671 => ?_)
                    · skip
                      have t25672 := cv_eq (a := x5_lp25618.toInt) rfl (b := p0.toInt) rfl c25671
                      refine lv_iconst (v := 0) hx hb dX12_lostBy_142 (by decide) ?_
                      refine lv_iadd hx hb dX12_lostBy_143 ?_
                      refine lv_topi (fun z25673 e25674 => ?_)
                      try (have t25675 := tadd e25674 (a := x4_lp25618.toInt) rfl (b := 0) (by decide) (by omega))
                      refine lv_istore (lv' := [(4, .int z25673), (5, .int x5_lp25618), (3, .int x3_lp25464), (0, .ref (g 0)), (1, .int p0), (2, .int p1)]) hx hb dX12_lostBy_144 hl (by decide) rfl (fun ls hl => ?_)
                      obtain ⟨z25676, e25677⟩ : ∃ y : Int32, y = x5_lp25618 + 1 := ⟨_, rfl⟩
                      try (have t25678 := tadd e25677 rfl (b := 1) (by decide) (by omega))
                      refine lv_iinc (v := z25676) (lv' := [(5, .int z25676), (4, .int z25673), (3, .int x3_lp25464), (0, .ref (g 0)), (1, .int p0), (2, .int p1)]) hx hb dX12_lostBy_146 hl (k := 1) rfl (by rw [e25677]; rfl) (by decide) rfl (fun ls hl => ?_)
                      refine lv_goto (tgt := 54) hx hb dX12_lostBy_149 (by decide) ?_
                      exact ih_lp25618 z25676 z25673 v_lp25618 F_lp25618 _ _ _ (by omega) (by omega) hf_lp25618 hI hF hP hS (lv_sub hl [0, 1, 2, 3, 4, 5] rfl)
                    · skip
                      have t25679 := cv_ne (a := x5_lp25618.toInt) rfl (b := p0.toInt) rfl c25671
                      refine lv_aload_n hx hb dX12_lostBy_71 rfl (lv_at hl 3 rfl) ?_
                      refine va_get (D := (dC, dI)) (ci := 12) (v := .ref (g 15)) (C := RX12) (T := TX12) (N := 63) hx hb hwd inA_X12 hown hK hP 0 rfl rfl 20 (by decide) (hwd _ wk_196) (fun _ h9 => h9) rfl dX12_lostBy_72 ?_
                      refine lv_iload hx hb dX12_lostBy_75 (lv_at hl 0 rfl) ?_
                      refine va_iald hx hb hK hP 15 14 rfl rfl (i := x5_lp25618) (vin (a := x5_lp25618.toInt) rfl (by omega)) dX12_lostBy_77 ?_
                      refine lv_topi (fun z25680 e25681 => ?_)
                      have t25682 : 0 ≤ z25680.toInt ∧ z25680.toInt ≤ 99 := by rw [e25681]; exact hI.2 15 _ _ rfl _
                      have e25681 : z25680 = F 15 (x5_lp25618 : Int32).toNatClampNeg := e25681.trans (congrFun (hF 15 (by decide)) _)
                      refine lv_aload_n hx hb dX12_lostBy_78 rfl (lv_at hl 3 rfl) ?_
                      refine va_get (D := (dC, dI)) (ci := 12) (v := .ref (g 15)) (C := RX12) (T := TX12) (N := 63) hx hb hwd inA_X12 hown hK hP 0 rfl rfl 20 (by decide) (hwd _ wk_196) (fun _ h9 => h9) rfl dX12_lostBy_79 ?_
                      refine lv_iload_n hx hb dX12_lostBy_82 rfl (lv_at hl 4 rfl) ?_
                      refine va_iald hx hb hK hP 15 14 rfl rfl (i := p0) (vin (a := p0.toInt) rfl (by omega)) dX12_lostBy_83 ?_
                      refine lv_topi (fun z25683 e25684 => ?_)
                      have t25685 : 0 ≤ z25683.toInt ∧ z25683.toInt ≤ 99 := by rw [e25684]; exact hI.2 15 _ _ rfl _
                      have e25684 : z25683 = F 15 (p0 : Int32).toNatClampNeg := e25684.trans (congrFun (hF 15 (by decide)) _)
                      refine lv_icmp_ne (tgt := 142) hx hb dX12_lostBy_84 (by decide) (fun c25686 => ?_) (fun c25686 => ?_)
                      · skip
                        have t25687 := cv_ne (a := z25680.toInt) rfl (b := z25683.toInt) rfl c25686
                        refine lv_iconst (v := 0) hx hb dX12_lostBy_142 (by decide) ?_
                        refine lv_iadd hx hb dX12_lostBy_143 ?_
                        refine lv_topi (fun z25688 e25689 => ?_)
                        try (have t25690 := tadd e25689 (a := x4_lp25618.toInt) rfl (b := 0) (by decide) (by omega))
                        refine lv_istore (lv' := [(4, .int z25688), (5, .int x5_lp25618), (3, .int x3_lp25464), (0, .ref (g 0)), (1, .int p0), (2, .int p1)]) hx hb dX12_lostBy_144 hl (by decide) rfl (fun ls hl => ?_)
                        obtain ⟨z25691, e25692⟩ : ∃ y : Int32, y = x5_lp25618 + 1 := ⟨_, rfl⟩
                        try (have t25693 := tadd e25692 rfl (b := 1) (by decide) (by omega))
                        refine lv_iinc (v := z25691) (lv' := [(5, .int z25691), (4, .int z25688), (3, .int x3_lp25464), (0, .ref (g 0)), (1, .int p0), (2, .int p1)]) hx hb dX12_lostBy_146 hl (k := 1) rfl (by rw [e25692]; rfl) (by decide) rfl (fun ls hl => ?_)
                        refine lv_goto (tgt := 54) hx hb dX12_lostBy_149 (by decide) ?_
                        exact ih_lp25618 z25691 z25688 v_lp25618 F_lp25618 _ _ _ (by omega) (by omega) hf_lp25618 hI hF hP hS (lv_sub hl [0, 1, 2, 3, 4, 5] rfl)
                      · skip
                        have t25694 := cv_eq (a := z25680.toInt) rfl (b := z25683.toInt) rfl c25686
                        refine lv_aload_n hx hb dX12_lostBy_87 rfl (lv_at hl 3 rfl) ?_
                        refine lv_iload hx hb dX12_lostBy_88 (lv_at hl 0 rfl) ?_
                        refine va_calli (va_runV (As := [.int x5_lp25618]) (rest := [.int x4_lp25618]) ⟨hx, hb, hml, hown, hwd⟩ (c_X12_isGap l dC dI g c adK adV v_lp25618 F_lp25618 rc H.size x5_lp25618 hg hI (by omega)) (cwV 1 hwd (gV wk_499 wk_496 wk_497 wk_498 wk_5) rfl rfl rfl (by decide +kernel) ⟨Nat.le_of_ble_eq_true rfl, Nat.le_of_ble_eq_true rfl⟩) ⟨PM.blind, va_recv hK hP (ci := 12) (q0 := 0) rfl rfl, fun U hU hW => ⟨rfl, PM.at hK hE hP hS hU hW⟩⟩ rfl rfl hl.1 rfl (lv_room (Nat.le_of_ble_eq_true rfl)) dX12_lostBy_90 ⟨Nat.le_of_ble_eq_true rfl, Nat.le_of_ble_eq_true rfl⟩) hS (fun q _ h => (freeM hS) q h) (freeM hS) (fun r25695 u t H1 locs ht hvm hw hB hz1 hk1 hS => ?_)
                        unfold BM at hB
                        rw [ht] at hB
                        have hP : va_P (dC, dI) classes (wM g c v_lp25618 F_lp25618 rc) H1 := hB
                        have hw : 0 ≤ r25695.toInt ∧ r25695.toInt ≤ 1 := hw
                        have hw_r25695 := hw
                        generalize H1 = H at hP hS ⊢
                        refine lv_if_eq (tgt := 142) hx hb dX12_lostBy_93 (by decide) (fun c25696 => ?_) (fun c25696 => ?_)
                        · skip
                          have t25697 := cv_eq (a := r25695.toInt) rfl (b := 0) (by decide) c25696
                          refine lv_iconst (v := 0) hx hb dX12_lostBy_142 (by decide) ?_
                          refine lv_iadd hx hb dX12_lostBy_143 ?_
                          refine lv_topi (fun z25698 e25699 => ?_)
                          try (have t25700 := tadd e25699 (a := x4_lp25618.toInt) rfl (b := 0) (by decide) (by omega))
                          refine lv_istore (lv' := [(4, .int z25698), (5, .int x5_lp25618), (3, .int x3_lp25464), (0, .ref (g 0)), (1, .int p0), (2, .int p1)]) hx hb dX12_lostBy_144 hl (by decide) rfl (fun ls hl => ?_)
                          obtain ⟨z25701, e25702⟩ : ∃ y : Int32, y = x5_lp25618 + 1 := ⟨_, rfl⟩
                          try (have t25703 := tadd e25702 rfl (b := 1) (by decide) (by omega))
                          refine lv_iinc (v := z25701) (lv' := [(5, .int z25701), (4, .int z25698), (3, .int x3_lp25464), (0, .ref (g 0)), (1, .int p0), (2, .int p1)]) hx hb dX12_lostBy_146 hl (k := 1) rfl (by rw [e25702]; rfl) (by decide) rfl (fun ls hl => ?_)
                          refine lv_goto (tgt := 54) hx hb dX12_lostBy_149 (by decide) ?_
                          exact ih_lp25618 z25701 z25698 v_lp25618 F_lp25618 _ _ _ (by omega) (by omega) hf_lp25618 hI hF hP hS (lv_sub hl [0, 1, 2, 3, 4, 5] rfl)
                        · skip
                          have t25704 := cv_ne (a := r25695.toInt) rfl (b := 0) (by decide) c25696
                          refine lv_aload_n hx hb dX12_lostBy_96 rfl (lv_at hl 3 rfl) ?_
                          refine va_get (D := (dC, dI)) (ci := 12) (v := .ref (g 18)) (C := RX12) (T := TX12) (N := 63) hx hb hwd inA_X12 hown hK hP 0 rfl rfl 23 (by decide) (hwd _ wk_199) (fun _ h9 => h9) rfl dX12_lostBy_97 ?_
                          refine lv_iload hx hb dX12_lostBy_100 (lv_at hl 0 rfl) ?_
                          refine va_iald hx hb hK hP 18 17 rfl rfl (i := x5_lp25618) (vin (a := x5_lp25618.toInt) rfl (by omega)) dX12_lostBy_102 ?_
                          refine lv_topi (fun z25705 e25706 => ?_)
                          have e25706 : z25705 = F 18 (x5_lp25618 : Int32).toNatClampNeg := e25706.trans (congrFun (hF 18 (by decide)) _)
                          refine lv_aload_n hx hb dX12_lostBy_103 rfl (lv_at hl 3 rfl) ?_
                          refine va_get (D := (dC, dI)) (ci := 12) (v := .ref (g 18)) (C := RX12) (T := TX12) (N := 63) hx hb hwd inA_X12 hown hK hP 0 rfl rfl 23 (by decide) (hwd _ wk_199) (fun _ h9 => h9) rfl dX12_lostBy_104 ?_
                          refine lv_iload_n hx hb dX12_lostBy_107 rfl (lv_at hl 4 rfl) ?_
                          refine va_iald hx hb hK hP 18 17 rfl rfl (i := p0) (vin (a := p0.toInt) rfl (by omega)) dX12_lostBy_108 ?_
                          refine lv_topi (fun z25707 e25708 => ?_)
                          have e25708 : z25707 = F 18 (p0 : Int32).toNatClampNeg := e25708.trans (congrFun (hF 18 (by decide)) _)
                          refine lv_icmp_lt (tgt := 138) hx hb dX12_lostBy_109 (by decide) (fun c25709 => ?_) (fun c25709 => ?_)
                          · skip
                            have t25710 := cv_lt (a := z25705.toInt) rfl (b := z25707.toInt) rfl c25709
                            refine lv_iconst (v := 1) hx hb dX12_lostBy_138 (by decide) ?_
                            refine lv_goto (tgt := 143) hx hb dX12_lostBy_139 (by decide) ?_
                            refine lv_iadd hx hb dX12_lostBy_143 ?_
                            refine lv_topi (fun z25711 e25712 => ?_)
                            try (have t25713 := tadd e25712 (a := x4_lp25618.toInt) rfl (b := 1) (by decide) (by omega))
                            refine lv_istore (lv' := [(4, .int z25711), (5, .int x5_lp25618), (3, .int x3_lp25464), (0, .ref (g 0)), (1, .int p0), (2, .int p1)]) hx hb dX12_lostBy_144 hl (by decide) rfl (fun ls hl => ?_)
                            obtain ⟨z25714, e25715⟩ : ∃ y : Int32, y = x5_lp25618 + 1 := ⟨_, rfl⟩
                            try (have t25716 := tadd e25715 rfl (b := 1) (by decide) (by omega))
                            refine lv_iinc (v := z25714) (lv' := [(5, .int z25714), (4, .int z25711), (3, .int x3_lp25464), (0, .ref (g 0)), (1, .int p0), (2, .int p1)]) hx hb dX12_lostBy_146 hl (k := 1) rfl (by rw [e25715]; rfl) (by decide) rfl (fun ls hl => ?_)
                            refine lv_goto (tgt := 54) hx hb dX12_lostBy_149 (by decide) ?_
                            exact ih_lp25618 z25714 z25711 v_lp25618 F_lp25618 _ _ _ (by omega) (by omega) hf_lp25618 hI hF hP hS (lv_sub hl [0, 1, 2, 3, 4, 5] rfl)
                          · skip
                            have t25717 := cv_nlt (a := z25705.toInt) rfl (b := z25707.toInt) rfl c25709
                            refine lv_aload_n hx hb dX12_lostBy_112 rfl (lv_at hl 3 rfl) ?_
                            refine va_get (D := (dC, dI)) (ci := 12) (v := .ref (g 18)) (C := RX12) (T := TX12) (N := 63) hx hb hwd inA_X12 hown hK hP 0 rfl rfl 23 (by decide) (hwd _ wk_199) (fun _ h9 => h9) rfl dX12_lostBy_113 ?_
                            refine lv_iload hx hb dX12_lostBy_116 (lv_at hl 0 rfl) ?_
                            refine va_iald hx hb hK hP 18 17 rfl rfl (i := x5_lp25618) (vin (a := x5_lp25618.toInt) rfl (by omega)) dX12_lostBy_118 ?_
                            refine lv_topi (fun z25718 e25719 => ?_)
                            have e25719 : z25718 = F 18 (x5_lp25618 : Int32).toNatClampNeg := e25719.trans (congrFun (hF 18 (by decide)) _)
                            refine lv_aload_n hx hb dX12_lostBy_119 rfl (lv_at hl 3 rfl) ?_
                            refine va_get (D := (dC, dI)) (ci := 12) (v := .ref (g 18)) (C := RX12) (T := TX12) (N := 63) hx hb hwd inA_X12 hown hK hP 0 rfl rfl 23 (by decide) (hwd _ wk_199) (fun _ h9 => h9) rfl dX12_lostBy_120 ?_
                            refine lv_iload_n hx hb dX12_lostBy_123 rfl (lv_at hl 4 rfl) ?_
                            refine va_iald hx hb hK hP 18 17 rfl rfl (i := p0) (vin (a := p0.toInt) rfl (by omega)) dX12_lostBy_124 ?_
                            refine lv_topi (fun z25720 e25721 => ?_)
                            have e25721 : z25720 = F 18 (p0 : Int32).toNatClampNeg := e25721.trans (congrFun (hF 18 (by decide)) _)
                            refine lv_icmp_ne (tgt := 142) hx hb dX12_lostBy_125 (by decide) (fun c25722 => ?_) (fun c25722 => ?_)
                            · skip
                              have t25723 := cv_ne (a := z25718.toInt) rfl (b := z25720.toInt) rfl c25722
                              refine lv_iconst (v := 0) hx hb dX12_lostBy_142 (by decide) ?_
                              refine lv_iadd hx hb dX12_lostBy_143 ?_
                              refine lv_topi (fun z25724 e25725 => ?_)
                              try (have t25726 := tadd e25725 (a := x4_lp25618.toInt) rfl (b := 0) (by decide) (by omega))
                              refine lv_istore (lv' := [(4, .int z25724), (5, .int x5_lp25618), (3, .int x3_lp25464), (0, .ref (g 0)), (1, .int p0), (2, .int p1)]) hx hb dX12_lostBy_144 hl (by decide) rfl (fun ls hl => ?_)
                              obtain ⟨z25727, e25728⟩ : ∃ y : Int32, y = x5_lp25618 + 1 := ⟨_, rfl⟩
                              try (have t25729 := tadd e25728 rfl (b := 1) (by decide) (by omega))
                              refine lv_iinc (v := z25727) (lv' := [(5, .int z25727), (4, .int z25724), (3, .int x3_lp25464), (0, .ref (g 0)), (1, .int p0), (2, .int p1)]) hx hb dX12_lostBy_146 hl (k := 1) rfl (by rw [e25728]; rfl) (by decide) rfl (fun ls hl => ?_)
                              refine lv_goto (tgt := 54) hx hb dX12_lostBy_149 (by decide) ?_
                              exact ih_lp25618 z25727 z25724 v_lp25618 F_lp25618 _ _ _ (by omega) (by omega) hf_lp25618 hI hF hP hS (lv_sub hl [0, 1, 2, 3, 4, 5] rfl)
                            · skip
                              have t25730 := cv_eq (a := z25718.toInt) rfl (b := z25720.toInt) rfl c25722
                              refine lv_aload_n hx hb dX12_lostBy_128 rfl (lv_at hl 3 rfl) ?_
                              refine lv_iload hx hb dX12_lostBy_129 (lv_at hl 0 rfl) ?_
                              refine lv_iload_n hx hb dX12_lostBy_131 rfl (lv_at hl 4 rfl) ?_
                              refine va_calli (va_runV (As := [.int x5_lp25618, .int p0]) (rest := [.int x4_lp25618]) ⟨hx, hb, hml, hown, hwd⟩ (c_X12_isAhead l dC dI g c adK adV v_lp25618 F_lp25618 rc H.size x5_lp25618 p0 hg hI (by omega) (by omega)) (cwV 2 hwd (gV wk_509 wk_506 wk_507 wk_508 wk_5) rfl rfl rfl (by decide +kernel) ⟨Nat.le_of_ble_eq_true rfl, Nat.le_of_ble_eq_true rfl⟩) ⟨PM.blind, va_recv hK hP (ci := 12) (q0 := 0) rfl rfl, fun U hU hW => ⟨rfl, PM.at hK hE hP hS hU hW⟩⟩ rfl rfl hl.1 rfl (lv_room (Nat.le_of_ble_eq_true rfl)) dX12_lostBy_132 ⟨Nat.le_of_ble_eq_true rfl, Nat.le_of_ble_eq_true rfl⟩) hS (fun q _ h => (freeM hS) q h) (freeM hS) (fun r25731 u t H1 locs ht hvm hw hB hz1 hk1 hS => ?_)
                              unfold BM at hB
                              rw [ht] at hB
                              have hP : va_P (dC, dI) classes (wM g c v_lp25618 F_lp25618 rc) H1 := hB
                              have hw : (r25731.toInt = 1 ∧ ((F_lp25618 17 x5_lp25618.toNatClampNeg).toInt < (F_lp25618 17 p0.toNatClampNeg).toInt ∨ ((F_lp25618 17 x5_lp25618.toNatClampNeg).toInt = (F_lp25618 17 p0.toNatClampNeg).toInt ∧ x5_lp25618.toInt < p0.toInt))) ∨ (r25731.toInt = 0 ∧ ¬ ((F_lp25618 17 x5_lp25618.toNatClampNeg).toInt < (F_lp25618 17 p0.toNatClampNeg).toInt ∨ ((F_lp25618 17 x5_lp25618.toNatClampNeg).toInt = (F_lp25618 17 p0.toNatClampNeg).toInt ∧ x5_lp25618.toInt < p0.toInt))) := hw
                              have hw_r25731 := hw
                              generalize H1 = H at hP hS ⊢
                              refine lv_if_eq (tgt := 142) hx hb dX12_lostBy_135 (by decide) (fun c25732 => ?_) (fun c25732 => ?_)
                              · skip
                                have t25733 := cv_eq (a := r25731.toInt) rfl (b := 0) (by decide) c25732
                                refine lv_iconst (v := 0) hx hb dX12_lostBy_142 (by decide) ?_
                                refine lv_iadd hx hb dX12_lostBy_143 ?_
                                refine lv_topi (fun z25734 e25735 => ?_)
                                try (have t25736 := tadd e25735 (a := x4_lp25618.toInt) rfl (b := 0) (by decide) (by omega))
                                refine lv_istore (lv' := [(4, .int z25734), (5, .int x5_lp25618), (3, .int x3_lp25464), (0, .ref (g 0)), (1, .int p0), (2, .int p1)]) hx hb dX12_lostBy_144 hl (by decide) rfl (fun ls hl => ?_)
                                obtain ⟨z25737, e25738⟩ : ∃ y : Int32, y = x5_lp25618 + 1 := ⟨_, rfl⟩
                                try (have t25739 := tadd e25738 rfl (b := 1) (by decide) (by omega))
                                refine lv_iinc (v := z25737) (lv' := [(5, .int z25737), (4, .int z25734), (3, .int x3_lp25464), (0, .ref (g 0)), (1, .int p0), (2, .int p1)]) hx hb dX12_lostBy_146 hl (k := 1) rfl (by rw [e25738]; rfl) (by decide) rfl (fun ls hl => ?_)
                                refine lv_goto (tgt := 54) hx hb dX12_lostBy_149 (by decide) ?_
                                exact ih_lp25618 z25737 z25734 v_lp25618 F_lp25618 _ _ _ (by omega) (by omega) hf_lp25618 hI hF hP hS (lv_sub hl [0, 1, 2, 3, 4, 5] rfl)
                              · skip
                                have t25740 := cv_ne (a := r25731.toInt) rfl (b := 0) (by decide) c25732
                                refine lv_iconst (v := 1) hx hb dX12_lostBy_138 (by decide) ?_
                                refine lv_goto (tgt := 143) hx hb dX12_lostBy_139 (by decide) ?_
                                refine lv_iadd hx hb dX12_lostBy_143 ?_
                                refine lv_topi (fun z25741 e25742 => ?_)
                                try (have t25743 := tadd e25742 (a := x4_lp25618.toInt) rfl (b := 1) (by decide) (by omega))
                                refine lv_istore (lv' := [(4, .int z25741), (5, .int x5_lp25618), (3, .int x3_lp25464), (0, .ref (g 0)), (1, .int p0), (2, .int p1)]) hx hb dX12_lostBy_144 hl (by decide) rfl (fun ls hl => ?_)
                                obtain ⟨z25744, e25745⟩ : ∃ y : Int32, y = x5_lp25618 + 1 := ⟨_, rfl⟩
                                try (have t25746 := tadd e25745 rfl (b := 1) (by decide) (by omega))
                                refine lv_iinc (v := z25744) (lv' := [(5, .int z25744), (4, .int z25741), (3, .int x3_lp25464), (0, .ref (g 0)), (1, .int p0), (2, .int p1)]) hx hb dX12_lostBy_146 hl (k := 1) rfl (by rw [e25745]; rfl) (by decide) rfl (fun ls hl => ?_)
                                refine lv_goto (tgt := 54) hx hb dX12_lostBy_149 (by decide) ?_
                                exact ih_lp25618 z25744 z25741 v_lp25618 F_lp25618 _ _ _ (by omega) (by omega) hf_lp25618 hI hF hP hS (lv_sub hl [0, 1, 2, 3, 4, 5] rfl)
              obtain ⟨n9, hn9⟩ : ∃ n : Nat, 2147483648 - 0 ≤ (n : Int) := ⟨((2147483648 - 0 : Int)).toNat, by omega⟩
              exact lp25618 n9 0 0 v_lp25464 F_lp25464 H _ ls (by have : (0 : Int32).toInt = 0 := (by decide); have : (0 : Int32).toInt = 0 := (by decide); omega) (by have : (0 : Int32).toInt = 0 := (by decide); have : (0 : Int32).toInt = 0 := (by decide); omega) (fun _ _ => rfl) hI hF hP hS hl
            · skip
              have t25747 := cv_nle (a := 0) (by decide) (b := x3_lp25464.toInt) rfl c25616
              refine lv_iconst (v := 0) hx hb dX12_lostBy_46 (by decide) ?_
              have hP9 : va_P (dC, dI) classes (wM g c v_lp25464 F_lp25464 rc) H := hP
              exact W.iret (v := 0) hx hb hr (fun t ht hW => ⟨⟨0, (v_lp25464, F_lp25464, rc), rfl, ⟨hI, rfl, (frC (by decide) hf_lp25464 (fun _ _ => rfl)), hF, by have : (0 : Int32).toInt = 0 := (by decide); omega⟩, (by show va_P _ _ _ t.heap; rw [ht]; exact hP9)⟩, hS.F ht⟩) hS.2.2 dX12_lostBy_47
          · skip
            have t25748 := cv_nle (a := z25610.toInt) rfl (b := z25612.toInt) rfl c25614
            obtain ⟨z25749, e25750⟩ : ∃ y : Int32, y = x3_lp25464 + (-1) := ⟨_, rfl⟩
            try (have t25751 := tadd e25750 rfl (b := (-1)) (by decide) (by omega))
            refine lv_iinc (v := z25749) (lv' := [(3, .int z25749), (0, .ref (g 0)), (1, .int p0), (2, .int p1)]) hx hb dX12_lostBy_36 hl (k := 0) rfl (by rw [e25750]; rfl) (by decide) rfl (fun ls hl => ?_)
            refine lv_goto (tgt := 7) hx hb dX12_lostBy_39 (by decide) ?_
            exact ih_lp25464 z25749 v_lp25464 F_lp25464 _ _ _ (by omega) (by omega) (by omega) hf_lp25464 hI hF hP hS (lv_sub hl [0, 1, 2, 3] rfl)
  obtain ⟨n9, hn9⟩ : ∃ n : Nat, z25461.toInt + 2 ≤ (n : Int) := ⟨((z25461.toInt + 2 : Int)).toNat, by omega⟩
  exact lp25464 n9 z25461 v F H _ ls (by omega) (by omega) (by omega) (fun _ _ => rfl) hI hF hP hS hl
set_option maxHeartbeats 8000000 in
set_option maxRecDepth 100000 in
theorem c_X12_limitOf (l : Launch) (dC : Nat → ClassId) (dI : Nat → Nat → Nat) (g : Nat → Nat) (c : Nat → ClassId) (adK adV : Nat → Nat) (v : Nat → Int32) (F : Nat → Nat → Int32) (rc sz : Nat) (p0 : Int32) (p1 : Int32) (hg : injM g) (hI : IM v F) (h0 : 0 ≤ p0.toInt ∧ p0.toInt ≤ 99) (h1 : 0 ≤ p1.toInt ∧ p1.toInt ≤ 2) : Met l yX12_limitOf (Cond.code yX12_limitOf cX12_limitOf 3 (some .int) :: wA) ({ frames := 1, cells := 0, slots := 0, locals := 40 }) (va_Pc [.ref (g 0), .int p0, .int p1] (PM dC dI g c adK adV v F rc sz)) (va_Qi (fun (r : Int32) (u : Unit) => r.toInt = (F 1 (limJ (F 11) p0 p1)).toInt) (fun (_ : Unit) => BM dC dI g c (v, F, rc)) (AM g sz)) 0 0 (AM g sz) := by
  refine Met.ofW (cc := cX12_limitOf) (maxL := 3) (ret := (some .int)) (by decide) rfl ?_
  intro p e s m args below meth c0 s₁ B hml hv
  obtain ⟨rfl, hsz, hP, hK, hE⟩ := hv
  have hx := B.exec
  have hb := B.bytes
  have hr := B.returns
  have hts := atoms_spec (ws := Cond.code yX12_limitOf cX12_limitOf 3 (some .int) :: wA) B.pre
  have hwd : ∀ w ∈ wA, w.before _ s = true := fun w h => hts w (List.mem_cons_of_mem _ h)
  have hown : s.vm.findClass RX12 = some m.cls := findClass_of_methodNamed B.named
  have hlocks := B.notSynchronized
  subst hsz
  have hl := lv_entry ([.ref (g 0), .int p0, .int p1]) (n := 3) (Nat.le_of_ble_eq_true rfl)
  rw [lg_entry_eq]
  generalize (lg_sl ([.ref (g 0), .int p0, .int p1]) ++ List.replicate (3 - (lg_sl ([.ref (g 0), .int p0, .int p1])).length) Slot.unset).toArray = ls at hl ⊢
  have hl : lv_has ls 3 [(0, .ref (g 0)), (1, .int p0), (2, .int p1)] := hl
  obtain ⟨H, eH⟩ : ∃ z, z = s.heap := ⟨_, rfl⟩
  have hP : va_P (dC, dI) classes (wM g c v F rc) H := by rw [eH]; exact hP
  have hS : va_S (AM g s.heap.size) s.heap H [] := by rw [eH]; exact va_S.rf
  refine my_heap eH ?_
  have rp0 := i32_rng p0
  have rp1 := i32_rng p1
  refine lv_aload_n hx hb dX12_limitOf_0 rfl (lv_at hl 0 rfl) ?_
  refine va_get (D := (dC, dI)) (ci := 12) (v := .ref (g 1)) (C := RX12) (T := TX12) (N := 63) hx hb hwd inA_X12 hown hK hP 0 rfl rfl 3 (by decide) (hwd _ wk_182) (fun _ h9 => h9) rfl dX12_limitOf_1 ?_
  refine lv_iconst (v := 3) hx hb dX12_limitOf_4 (by decide) ?_
  refine lv_aload_n hx hb dX12_limitOf_5 rfl (lv_at hl 0 rfl) ?_
  refine va_get (D := (dC, dI)) (ci := 12) (v := .ref (g 11)) (C := RX12) (T := TX12) (N := 63) hx hb hwd inA_X12 hown hK hP 0 rfl rfl 15 (by decide) (hwd _ wk_192) (fun _ h9 => h9) rfl dX12_limitOf_6 ?_
  refine lv_iload_n hx hb dX12_limitOf_9 rfl (lv_at hl 1 rfl) ?_
  refine va_iald hx hb hK hP 11 10 rfl rfl (i := p0) (vin (a := p0.toInt) rfl (by omega)) dX12_limitOf_10 ?_
  refine lv_topi (fun z25752 e25753 => ?_)
  have t25754 : 0 ≤ z25752.toInt ∧ z25752.toInt ≤ 9 := by rw [e25753]; exact hI.2 11 _ _ rfl _
  have tzz25752 : z25752.toInt = (F 11 (p0 : Int32).toNatClampNeg).toInt := congrArg Int32.toInt e25753
  refine lv_imul hx hb dX12_limitOf_11 ?_
  refine lv_topi (fun z25755 e25756 => ?_)
  try (have t25757 := tmul e25756 (a := 3) (by decide) (b := z25752.toInt) rfl (by omega))
  refine lv_iload_n hx hb dX12_limitOf_12 rfl (lv_at hl 2 rfl) ?_
  refine lv_iadd hx hb dX12_limitOf_13 ?_
  refine lv_topi (fun z25758 e25759 => ?_)
  try (have t25760 := tadd e25759 (a := z25755.toInt) rfl (b := p1.toInt) rfl (by omega))
  refine va_iald hx hb hK hP 1 0 rfl rfl (i := z25758) (vin (a := z25758.toInt) rfl (by omega)) dX12_limitOf_14 ?_
  refine lv_topi (fun z25761 e25762 => ?_)
  have tzz25761 : z25761.toInt = (F 1 (z25758 : Int32).toNatClampNeg).toInt := congrArg Int32.toInt e25762
  have hP9 : va_P (dC, dI) classes (wM g c v F rc) H := hP
  exact W.iret (v := z25761) hx hb hr (fun t ht hW => ⟨⟨z25761, (), rfl, (by simp only [limJ, e25753, e25756, e25759, e25762]), (by show va_P _ _ _ t.heap; rw [ht]; exact hP9)⟩, hS.F ht⟩) hS.2.2 dX12_limitOf_15
set_option maxHeartbeats 8000000 in
set_option maxRecDepth 100000 in
theorem c_X12_leftOf (l : Launch) (dC : Nat → ClassId) (dI : Nat → Nat → Nat) (g : Nat → Nat) (c : Nat → ClassId) (adK adV : Nat → Nat) (v : Nat → Int32) (F : Nat → Nat → Int32) (rc sz : Nat) (p0 : Int32) (p1 : Int32) (p2 : Int32) (hg : injM g) (hI : IM v F) (h0 : 0 ≤ p0.toInt ∧ p0.toInt ≤ 99) (h1 : 0 ≤ p1.toInt ∧ p1.toInt ≤ 2) (hL : JL (v 31) (F 28) (F 29) (F 27)) : Met l yX12_leftOf (Cond.code yX12_leftOf cX12_leftOf 6 (some .int) :: wA) ({ frames := 4, cells := 0, slots := 0, locals := 160 }) (va_Pc [.ref (g 0), .int p0, .int p1, .int p2] (PM dC dI g c adK adV v F rc sz)) (va_Qi (fun (r : Int32) (u : StM) => IM u.1 u.2.1 ∧ u.2.2 = rc ∧ (∀ k, k ∉ ([] : List Nat) → u.1 k = v k) ∧ (∀ k, k ∉ ([30, 31] : List Nat) → u.2.1 k = F k) ∧ True) (BM dC dI g c) (AM g sz)) 0 0 (AM g sz) := by
  refine Met.ofW (cc := cX12_leftOf) (maxL := 6) (ret := (some .int)) (by decide) rfl ?_
  intro p e s m args below meth c0 s₁ B hml hv
  obtain ⟨rfl, hsz, hP, hK, hE⟩ := hv
  have hx := B.exec
  have hb := B.bytes
  have hr := B.returns
  have hts := atoms_spec (ws := Cond.code yX12_leftOf cX12_leftOf 6 (some .int) :: wA) B.pre
  have hwd : ∀ w ∈ wA, w.before _ s = true := fun w h => hts w (List.mem_cons_of_mem _ h)
  have hown : s.vm.findClass RX12 = some m.cls := findClass_of_methodNamed B.named
  have hlocks := B.notSynchronized
  subst hsz
  have hl := lv_entry ([.ref (g 0), .int p0, .int p1, .int p2]) (n := 6) (Nat.le_of_ble_eq_true rfl)
  rw [lg_entry_eq]
  generalize (lg_sl ([.ref (g 0), .int p0, .int p1, .int p2]) ++ List.replicate (6 - (lg_sl ([.ref (g 0), .int p0, .int p1, .int p2])).length) Slot.unset).toArray = ls at hl ⊢
  have hl : lv_has ls 6 [(0, .ref (g 0)), (1, .int p0), (2, .int p1), (3, .int p2)] := hl
  obtain ⟨H, eH⟩ : ∃ z, z = s.heap := ⟨_, rfl⟩
  have hP : va_P (dC, dI) classes (wM g c v F rc) H := by rw [eH]; exact hP
  have hS : va_S (AM g s.heap.size) s.heap H [] := by rw [eH]; exact va_S.rf
  refine my_heap eH ?_
  have hF : ∀ k, k ∉ ([30, 31] : List Nat) → F k = F k := fun _ _ => rfl
  have rp0 := i32_rng p0
  have rp1 := i32_rng p1
  have rp2 := i32_rng p2
  have hb31 : 0 ≤ (v 31).toInt ∧ (v 31).toInt ≤ 10 := hI.1 31 _ _ rfl
  refine lv_aload_n hx hb dX12_leftOf_0 rfl (lv_at hl 0 rfl) ?_
  refine lv_iload_n hx hb dX12_leftOf_1 rfl (lv_at hl 1 rfl) ?_
  refine lv_iload_n hx hb dX12_leftOf_2 rfl (lv_at hl 2 rfl) ?_
  refine va_calli (va_runV (As := [.int p0, .int p1]) (rest := []) ⟨hx, hb, hml, hown, hwd⟩ (c_X12_limitOf l dC dI g c adK adV v F rc H.size p0 p1 hg hI (by omega) (by omega)) (cwV 2 hwd (gV wk_489 wk_486 wk_487 wk_488 wk_5) rfl rfl rfl (by decide +kernel) ⟨Nat.le_of_ble_eq_true rfl, Nat.le_of_ble_eq_true rfl⟩) ⟨PM.blind, va_recv hK hP (ci := 12) (q0 := 0) rfl rfl, fun U hU hW => ⟨rfl, PM.at hK hE hP hS hU hW⟩⟩ rfl rfl hl.1 rfl (lv_room (Nat.le_of_ble_eq_true rfl)) dX12_leftOf_3 ⟨Nat.le_of_ble_eq_true rfl, Nat.le_of_ble_eq_true rfl⟩) hS (fun q _ h => (freeM hS) q h) (freeM hS) (fun r25819 u t H1 locs ht hvm hw hB hz1 hk1 hS => ?_)
  unfold BM at hB
  rw [ht] at hB
  have hP : va_P (dC, dI) classes (wM g c v F rc) H1 := hB
  have hw : r25819.toInt = (F 1 (limJ (F 11) p0 p1)).toInt := hw
  have hw_r25819 := hw
  generalize H1 = H at hP hS ⊢
  refine lv_aload_n hx hb dX12_leftOf_6 rfl (lv_at hl 0 rfl) ?_
  refine va_get (D := (dC, dI)) (ci := 12) (v := .ref (g 14)) (C := RX12) (T := TX12) (N := 63) hx hb hwd inA_X12 hown hK hP 0 rfl rfl 18 (by decide) (hwd _ wk_195) (fun _ h9 => h9) rfl dX12_leftOf_7 ?_
  refine lv_iconst (v := 3) hx hb dX12_leftOf_10 (by decide) ?_
  refine lv_iload_n hx hb dX12_leftOf_11 rfl (lv_at hl 1 rfl) ?_
  refine lv_imul hx hb dX12_leftOf_12 ?_
  refine lv_topi (fun z25820 e25821 => ?_)
  try (have t25822 := tmul e25821 (a := 3) (by decide) (b := p0.toInt) rfl (by omega))
  refine lv_iload_n hx hb dX12_leftOf_13 rfl (lv_at hl 2 rfl) ?_
  refine lv_iadd hx hb dX12_leftOf_14 ?_
  refine lv_topi (fun z25823 e25824 => ?_)
  try (have t25825 := tadd e25824 (a := z25820.toInt) rfl (b := p1.toInt) rfl (by omega))
  refine va_iald hx hb hK hP 14 13 rfl rfl (i := z25823) (vin (a := z25823.toInt) rfl (by omega)) dX12_leftOf_15 ?_
  refine lv_topi (fun z25826 e25827 => ?_)
  refine lv_isub hx hb dX12_leftOf_16 ?_
  refine lv_topi (fun z25828 e25829 => ?_)
  try (have t25830 := tsub e25829 (a := r25819.toInt) rfl (b := z25826.toInt) rfl (by omega))
  refine lv_istore (lv' := [(4, .int z25828), (0, .ref (g 0)), (1, .int p0), (2, .int p1), (3, .int p2)]) hx hb dX12_leftOf_17 hl (by decide) rfl (fun ls hl => ?_)
  refine lv_iconst (v := 0) hx hb dX12_leftOf_19 (by decide) ?_
  refine lv_istore (lv' := [(5, .int 0), (4, .int z25828), (0, .ref (g 0)), (1, .int p0), (2, .int p1), (3, .int p2)]) hx hb dX12_leftOf_20 hl (by decide) rfl (fun ls hl => ?_)
  have lp25831 : ∀ (n : Nat) (x5_lp25831 : Int32) (x4_lp25831 : Int32) (v_lp25831 : Nat → Int32) (F_lp25831 : Nat → Nat → Int32) (H : Heap) (locs : List Loc) (ls : Array Slot), (0 ≤ x5_lp25831.toInt) → (2147483648 - x5_lp25831.toInt ≤ (n : Int)) → (∀ k, k ∉ ([] : List Nat) → v_lp25831 k = v k) → IM v_lp25831 F_lp25831 → (∀ k, k ∉ ([30, 31] : List Nat) → F_lp25831 k = F k) → va_P (dC, dI) classes (wM g c v_lp25831 F_lp25831 rc) H → va_S (AM g s.heap.size) s.heap H locs → lv_has ls 6 [(5, .int x5_lp25831), (4, .int x4_lp25831), (0, .ref (g 0)), (1, .int p0), (2, .int p1), (3, .int p2)] → W p l e (headSpec (Cond.code yX12_leftOf cX12_leftOf 6 (some .int) :: wA) ({ frames := 4, cells := 0, slots := 0, locals := 160 })).room s m ([.ref (g 0), .int p0, .int p1, .int p2] : List Value).toArray below meth c0 H locs 0 0 (MQ below (va_Qi (fun (r : Int32) (u : StM) => IM u.1 u.2.1 ∧ u.2.2 = rc ∧ (∀ k, k ∉ ([] : List Nat) → u.1 k = v k) ∧ (∀ k, k ∉ ([30, 31] : List Nat) → u.2.1 k = F k) ∧ True) (BM dC dI g c) (AM g s.heap.size)) ([.ref (g 0), .int p0, .int p1, .int p2] : List Value).toArray s 0 0 (AM g s.heap.size)) (F0 m 22 ls []) := by
    intro n
    induction n with
    | zero =>
      intro x5_lp25831 x4_lp25831 v_lp25831 F_lp25831 H locs ls t25832 hm hf_lp25831 hI hF hP hS hl
      exfalso
      have := i32_rng x5_lp25831
      have := i32_rng x4_lp25831
      have hI1 := hI.1
      omega
    | succ n ih_lp25831 =>
      intro x5_lp25831 x4_lp25831 v_lp25831 F_lp25831 H locs ls t25832 hm hf_lp25831 hI hF hP hS hl
      have rx5_lp25831 := i32_rng x5_lp25831
      have rx4_lp25831 := i32_rng x4_lp25831
      refine lv_iload hx hb dX12_leftOf_22 (lv_at hl 0 rfl) ?_
      refine lv_aload_n hx hb dX12_leftOf_24 rfl (lv_at hl 2 rfl) ?_
      refine va_get (D := (dC, dI)) (ci := 12) (v := .int (v_lp25831 19)) (C := RX12) (T := TX12) (N := 63) hx hb hwd inA_X12 hown hK hP 0 rfl rfl 19 (by decide) (hwd _ wk_494) (fun _ h9 => h9) rfl dX12_leftOf_25 ?_
      refine my_top (v := v 19) (hf_lp25831 19 (by decide)) ?_
      have t25833 : 0 ≤ (v 19).toInt ∧ (v 19).toInt ≤ 500 := by have h9 := hI.1 19 _ _ rfl; rw [show v_lp25831 19 = v 19 from hf_lp25831 19 (by decide)] at h9; exact h9
      refine lv_icmp_ge (tgt := 83) hx hb dX12_leftOf_28 (by decide) (fun c25834 => ?_) (fun c25834 => ?_)
      · skip
        have t25835 := cv_le (a := (v 19).toInt) rfl (b := x5_lp25831.toInt) rfl c25834
        refine lv_iload hx hb dX12_leftOf_83 (lv_at hl 1 rfl) ?_
        have hP9 : va_P (dC, dI) classes (wM g c v_lp25831 F_lp25831 rc) H := hP
        exact W.iret (v := x4_lp25831) hx hb hr (fun t ht hW => ⟨⟨x4_lp25831, (v_lp25831, F_lp25831, rc), rfl, ⟨hI, rfl, (frC (by decide) hf_lp25831 (fun _ _ => rfl)), hF, trivial⟩, (by show va_P _ _ _ t.heap; rw [ht]; exact hP9)⟩, hS.F ht⟩) hS.2.2 dX12_leftOf_85
      · skip
        have t25836 := cv_nle (a := (v 19).toInt) rfl (b := x5_lp25831.toInt) rfl c25834
        refine lv_aload_n hx hb dX12_leftOf_31 rfl (lv_at hl 2 rfl) ?_
        refine va_get (D := (dC, dI)) (ci := 12) (v := .ref (g 15)) (C := RX12) (T := TX12) (N := 63) hx hb hwd inA_X12 hown hK hP 0 rfl rfl 20 (by decide) (hwd _ wk_196) (fun _ h9 => h9) rfl dX12_leftOf_32 ?_
        refine lv_iload hx hb dX12_leftOf_35 (lv_at hl 0 rfl) ?_
        refine va_iald hx hb hK hP 15 14 rfl rfl (i := x5_lp25831) (vin (a := x5_lp25831.toInt) rfl (by omega)) dX12_leftOf_37 ?_
        refine lv_topi (fun z25837 e25838 => ?_)
        have t25839 : 0 ≤ z25837.toInt ∧ z25837.toInt ≤ 99 := by rw [e25838]; exact hI.2 15 _ _ rfl _
        have e25838 : z25837 = F 15 (x5_lp25831 : Int32).toNatClampNeg := e25838.trans (congrFun (hF 15 (by decide)) _)
        refine lv_iload_n hx hb dX12_leftOf_38 rfl (lv_at hl 3 rfl) ?_
        refine lv_icmp_ne (tgt := 77) hx hb dX12_leftOf_39 (by decide) (fun c25840 => ?_) (fun c25840 => ?_)
        · skip
          have t25841 := cv_ne (a := z25837.toInt) rfl (b := p0.toInt) rfl c25840
          obtain ⟨z25842, e25843⟩ : ∃ y : Int32, y = x5_lp25831 + 1 := ⟨_, rfl⟩
          try (have t25844 := tadd e25843 rfl (b := 1) (by decide) (by omega))
          refine lv_iinc (v := z25842) (lv' := [(5, .int z25842), (4, .int x4_lp25831), (0, .ref (g 0)), (1, .int p0), (2, .int p1), (3, .int p2)]) hx hb dX12_leftOf_77 hl (k := 0) rfl (by rw [e25843]; rfl) (by decide) rfl (fun ls hl => ?_)
          refine lv_goto (tgt := 22) hx hb dX12_leftOf_80 (by decide) ?_
          exact ih_lp25831 z25842 x4_lp25831 v_lp25831 F_lp25831 _ _ _ (by omega) (by omega) hf_lp25831 hI hF hP hS (lv_sub hl [0, 1, 2, 3, 4, 5] rfl)
        · skip
          have t25845 := cv_eq (a := z25837.toInt) rfl (b := p0.toInt) rfl c25840
          refine lv_aload_n hx hb dX12_leftOf_42 rfl (lv_at hl 2 rfl) ?_
          refine lv_iload hx hb dX12_leftOf_43 (lv_at hl 0 rfl) ?_
          refine va_calli (va_runV (As := [.int x5_lp25831]) (rest := []) ⟨hx, hb, hml, hown, hwd⟩ (c_X12_isGap l dC dI g c adK adV v_lp25831 F_lp25831 rc H.size x5_lp25831 hg hI (by omega)) (cwV 1 hwd (gV wk_499 wk_496 wk_497 wk_498 wk_5) rfl rfl rfl (by decide +kernel) ⟨Nat.le_of_ble_eq_true rfl, Nat.le_of_ble_eq_true rfl⟩) ⟨PM.blind, va_recv hK hP (ci := 12) (q0 := 0) rfl rfl, fun U hU hW => ⟨rfl, PM.at hK hE hP hS hU hW⟩⟩ rfl rfl hl.1 rfl (lv_room (Nat.le_of_ble_eq_true rfl)) dX12_leftOf_45 ⟨Nat.le_of_ble_eq_true rfl, Nat.le_of_ble_eq_true rfl⟩) hS (fun q _ h => (freeM hS) q h) (freeM hS) (fun r25846 u t H1 locs ht hvm hw hB hz1 hk1 hS => ?_)
          unfold BM at hB
          rw [ht] at hB
          have hP : va_P (dC, dI) classes (wM g c v_lp25831 F_lp25831 rc) H1 := hB
          have hw : 0 ≤ r25846.toInt ∧ r25846.toInt ≤ 1 := hw
          have hw_r25846 := hw
          generalize H1 = H at hP hS ⊢
          refine lv_if_eq (tgt := 77) hx hb dX12_leftOf_48 (by decide) (fun c25847 => ?_) (fun c25847 => ?_)
          · skip
            have t25848 := cv_eq (a := r25846.toInt) rfl (b := 0) (by decide) c25847
            obtain ⟨z25849, e25850⟩ : ∃ y : Int32, y = x5_lp25831 + 1 := ⟨_, rfl⟩
            try (have t25851 := tadd e25850 rfl (b := 1) (by decide) (by omega))
            refine lv_iinc (v := z25849) (lv' := [(5, .int z25849), (4, .int x4_lp25831), (0, .ref (g 0)), (1, .int p0), (2, .int p1), (3, .int p2)]) hx hb dX12_leftOf_77 hl (k := 0) rfl (by rw [e25850]; rfl) (by decide) rfl (fun ls hl => ?_)
            refine lv_goto (tgt := 22) hx hb dX12_leftOf_80 (by decide) ?_
            exact ih_lp25831 z25849 x4_lp25831 v_lp25831 F_lp25831 _ _ _ (by omega) (by omega) hf_lp25831 hI hF hP hS (lv_sub hl [0, 1, 2, 3, 4, 5] rfl)
          · skip
            have t25852 := cv_ne (a := r25846.toInt) rfl (b := 0) (by decide) c25847
            refine lv_iload hx hb dX12_leftOf_51 (lv_at hl 1 rfl) ?_
            refine lv_aload_n hx hb dX12_leftOf_53 rfl (lv_at hl 2 rfl) ?_
            refine lv_iload_n hx hb dX12_leftOf_54 rfl (lv_at hl 3 rfl) ?_
            refine lv_iload_n hx hb dX12_leftOf_55 rfl (lv_at hl 4 rfl) ?_
            refine va_calli (va_runV (As := [.int p0, .int p1]) (rest := [.int x4_lp25831]) ⟨hx, hb, hml, hown, hwd⟩ (c_X12_limitOf l dC dI g c adK adV v_lp25831 F_lp25831 rc H.size p0 p1 hg hI (by omega) (by omega)) (cwV 2 hwd (gV wk_489 wk_486 wk_487 wk_488 wk_5) rfl rfl rfl (by decide +kernel) ⟨Nat.le_of_ble_eq_true rfl, Nat.le_of_ble_eq_true rfl⟩) ⟨PM.blind, va_recv hK hP (ci := 12) (q0 := 0) rfl rfl, fun U hU hW => ⟨rfl, PM.at hK hE hP hS hU hW⟩⟩ rfl rfl hl.1 rfl (lv_room (Nat.le_of_ble_eq_true rfl)) dX12_leftOf_56 ⟨Nat.le_of_ble_eq_true rfl, Nat.le_of_ble_eq_true rfl⟩) hS (fun q _ h => (freeM hS) q h) (freeM hS) (fun r25853 u t H1 locs ht hvm hw hB hz1 hk1 hS => ?_)
            unfold BM at hB
            rw [ht] at hB
            have hP : va_P (dC, dI) classes (wM g c v_lp25831 F_lp25831 rc) H1 := hB
            have hw : r25853.toInt = (F_lp25831 1 (limJ (F_lp25831 11) p0 p1)).toInt := hw
            rw [hF 1 (by decide)] at hw
            rw [hF 11 (by decide)] at hw
            have hw_r25853 := hw
            generalize H1 = H at hP hS ⊢
            refine lv_i2l hx hb dX12_leftOf_59 rfl ?_
            refine lv_topl (fun z25854 e25855 => ?_)
            refine lv_aload_n hx hb dX12_leftOf_60 rfl (lv_at hl 2 rfl) ?_
            refine lv_iload hx hb dX12_leftOf_61 (lv_at hl 0 rfl) ?_
            refine lv_iload_n hx hb dX12_leftOf_63 rfl (lv_at hl 5 rfl) ?_
            refine va_calli (va_runV (As := [.int x5_lp25831, .int p2]) (rest := [.long z25854, .int x4_lp25831]) ⟨hx, hb, hml, hown, hwd⟩ (c_X12_lostBy l dC dI g c adK adV v_lp25831 F_lp25831 rc H.size x5_lp25831 p2 hg hI (by omega) (JL.to hL (show v_lp25831 31 = v 31 from hf_lp25831 31 (by decide)) (hF 28 (by decide)) (hF 29 (by decide)) (hF 27 (by decide)))) (cwV 2 hwd (gV wk_504 wk_501 wk_502 wk_503 wk_5) rfl rfl rfl (by decide +kernel) ⟨Nat.le_of_ble_eq_true rfl, Nat.le_of_ble_eq_true rfl⟩) ⟨PM.blind, va_recv hK hP (ci := 12) (q0 := 0) rfl rfl, fun U hU hW => ⟨rfl, PM.at hK hE hP hS hU hW⟩⟩ rfl rfl hl.1 rfl (lv_room (Nat.le_of_ble_eq_true rfl)) dX12_leftOf_64 ⟨Nat.le_of_ble_eq_true rfl, Nat.le_of_ble_eq_true rfl⟩) hS (fun q _ h => (freeM hS) q h) (freeM hS) (fun r25856 u t H1 locs ht hvm hw hB hz1 hk1 hS => ?_)
            unfold BM at hB
            rw [ht] at hB
            obtain ⟨v25857, F25858, rc9⟩ := u
            obtain ⟨hI, hrc, hf25859, hG25860, hw⟩ := hw
            dsimp only at hI hrc hB hf25859 hG25860 hw
            have hF := frCF (by decide) hG25860 hF
            rw [hrc] at hB
            have hP : va_P (dC, dI) classes (wM g c v25857 F25858 rc) H1 := hB
            have hw : 0 ≤ r25856.toInt ∧ r25856.toInt ≤ 100 := hw
            have hw_r25856 := hw
            generalize H1 = H at hP hS ⊢
            refine lv_i2l hx hb dX12_leftOf_67 rfl ?_
            refine lv_topl (fun z25861 e25862 => ?_)
            refine lv_lmul hx hb dX12_leftOf_68 ?_
            refine lv_topl (fun z25863 e25864 => ?_)
            refine lv_ldc2 (v := 100) hx hb hown (hwd _ wk_495) dX12_leftOf_69 ?_
            refine lv_ldiv hx hb dX12_leftOf_72 (by decide) ?_
            refine lv_topl (fun z25865 e25866 => ?_)
            refine lv_l2i hx hb dX12_leftOf_73 rfl ?_
            refine lv_topi (fun z25867 e25868 => ?_)
            refine lv_isub hx hb dX12_leftOf_74 ?_
            refine lv_topi (fun z25869 e25870 => ?_)
            try (have t25871 := tsub e25870 (a := x4_lp25831.toInt) rfl (b := z25867.toInt) rfl (by omega))
            refine lv_istore (lv' := [(4, .int z25869), (5, .int x5_lp25831), (0, .ref (g 0)), (1, .int p0), (2, .int p1), (3, .int p2)]) hx hb dX12_leftOf_75 hl (by decide) rfl (fun ls hl => ?_)
            obtain ⟨z25872, e25873⟩ : ∃ y : Int32, y = x5_lp25831 + 1 := ⟨_, rfl⟩
            try (have t25874 := tadd e25873 rfl (b := 1) (by decide) (by omega))
            refine lv_iinc (v := z25872) (lv' := [(5, .int z25872), (4, .int z25869), (0, .ref (g 0)), (1, .int p0), (2, .int p1), (3, .int p2)]) hx hb dX12_leftOf_77 hl (k := 1) rfl (by rw [e25873]; rfl) (by decide) rfl (fun ls hl => ?_)
            refine lv_goto (tgt := 22) hx hb dX12_leftOf_80 (by decide) ?_
            exact ih_lp25831 z25872 z25869 v25857 F25858 _ _ _ (by omega) (by omega) (frC (by decide) hf25859 hf_lp25831) hI hF hP hS (lv_sub hl [0, 1, 2, 3, 4, 5] rfl)
  obtain ⟨n9, hn9⟩ : ∃ n : Nat, 2147483648 - 0 ≤ (n : Int) := ⟨((2147483648 - 0 : Int)).toNat, by omega⟩
  exact lp25831 n9 0 z25828 v F H _ ls (by have : (0 : Int32).toInt = 0 := (by decide); omega) (by have : (0 : Int32).toInt = 0 := (by decide); omega) (fun _ _ => rfl) hI hF hP hS hl
set_option maxHeartbeats 8000000 in
set_option maxRecDepth 100000 in
theorem c_X12_left (l : Launch) (dC : Nat → ClassId) (dI : Nat → Nat → Nat) (g : Nat → Nat) (c : Nat → ClassId) (adK adV : Nat → Nat) (v : Nat → Int32) (F : Nat → Nat → Int32) (rc sz : Nat) (p0 : Int32) (p1 : Int32) (p2 : Int32) (hg : injM g) (hI : IM v F) (hL : JL (v 31) (F 28) (F 29) (F 27)) : Met l yX12_left (Cond.code yX12_left cX12_left 4 (some .int) :: wA) ({ frames := 5, cells := 0, slots := 0, locals := 200 }) (va_Pc [.ref (g 0), .int p0, .int p1, .int p2] (PM dC dI g c adK adV v F rc sz)) (va_Qi (fun (r : Int32) (u : StM) => IM u.1 u.2.1 ∧ u.2.2 = rc ∧ (∀ k, k ∉ ([] : List Nat) → u.1 k = v k) ∧ (∀ k, k ∉ ([30, 31] : List Nat) → u.2.1 k = F k) ∧ True) (BM dC dI g c) (AM g sz)) 0 0 (AM g sz) := by
  refine Met.ofW (cc := cX12_left) (maxL := 4) (ret := (some .int)) (by decide) rfl ?_
  intro p e s m args below meth c0 s₁ B hml hv
  obtain ⟨rfl, hsz, hP, hK, hE⟩ := hv
  have hx := B.exec
  have hb := B.bytes
  have hr := B.returns
  have hts := atoms_spec (ws := Cond.code yX12_left cX12_left 4 (some .int) :: wA) B.pre
  have hwd : ∀ w ∈ wA, w.before _ s = true := fun w h => hts w (List.mem_cons_of_mem _ h)
  have hown : s.vm.findClass RX12 = some m.cls := findClass_of_methodNamed B.named
  have hlocks := B.notSynchronized
  subst hsz
  have hl := lv_entry ([.ref (g 0), .int p0, .int p1, .int p2]) (n := 4) (Nat.le_of_ble_eq_true rfl)
  rw [lg_entry_eq]
  generalize (lg_sl ([.ref (g 0), .int p0, .int p1, .int p2]) ++ List.replicate (4 - (lg_sl ([.ref (g 0), .int p0, .int p1, .int p2])).length) Slot.unset).toArray = ls at hl ⊢
  have hl : lv_has ls 4 [(0, .ref (g 0)), (1, .int p0), (2, .int p1), (3, .int p2)] := hl
  obtain ⟨H, eH⟩ : ∃ z, z = s.heap := ⟨_, rfl⟩
  have hP : va_P (dC, dI) classes (wM g c v F rc) H := by rw [eH]; exact hP
  have hS : va_S (AM g s.heap.size) s.heap H [] := by rw [eH]; exact va_S.rf
  refine my_heap eH ?_
  have hF : ∀ k, k ∉ ([30, 31] : List Nat) → F k = F k := fun _ _ => rfl
  have rp0 := i32_rng p0
  have rp1 := i32_rng p1
  have rp2 := i32_rng p2
  have hb31 : 0 ≤ (v 31).toInt ∧ (v 31).toInt ≤ 10 := hI.1 31 _ _ rfl
  refine lv_aload_n hx hb dX12_left_0 rfl (lv_at hl 0 rfl) ?_
  refine lv_iload_n hx hb dX12_left_1 rfl (lv_at hl 1 rfl) ?_
  have t25899 : 0 ≤ (v 14).toInt ∧ (v 14).toInt ≤ 100 := hI.1 14 _ _ rfl
  refine va_calli (va_runV (As := [.int p0]) (rest := []) ⟨hx, hb, hml, hown, hwd⟩ (c_X12_isPart l dC dI g c adK adV v F rc H.size p0 hg hI ) (cwV 1 hwd (gV wk_631 wk_628 wk_629 wk_630 wk_5) rfl rfl rfl (by decide +kernel) ⟨Nat.le_of_ble_eq_true rfl, Nat.le_of_ble_eq_true rfl⟩) ⟨PM.blind, va_recv hK hP (ci := 12) (q0 := 0) rfl rfl, fun U hU hW => ⟨rfl, PM.at hK hE hP hS hU hW⟩⟩ rfl rfl hl.1 rfl (lv_room (Nat.le_of_ble_eq_true rfl)) dX12_left_2 ⟨Nat.le_of_ble_eq_true rfl, Nat.le_of_ble_eq_true rfl⟩) hS (fun q _ h => (freeM hS) q h) (freeM hS) (fun r25900 u t H1 locs ht hvm hw hB hz1 hk1 hS => ?_)
  unfold BM at hB
  rw [ht] at hB
  have hP : va_P (dC, dI) classes (wM g c v F rc) H1 := hB
  have hw : (r25900.toInt = 1 ∧ 0 ≤ p0.toInt ∧ p0.toInt < (v 14).toInt) ∨ (r25900.toInt = 0 ∧ (p0.toInt < 0 ∨ (v 14).toInt ≤ p0.toInt)) := hw
  have hw_r25900 := hw
  generalize H1 = H at hP hS ⊢
  refine lv_if_eq (tgt := 43) hx hb dX12_left_5 (by decide) (fun c25901 => ?_) (fun c25901 => ?_)
  · skip
    have t25902 := cv_eq (a := r25900.toInt) rfl (b := 0) (by decide) c25901
    refine lv_ldc (v := (-2000000000)) hx hb hown (hwd _ wk_542) dX12_left_43 ?_
    have hP9 : va_P (dC, dI) classes (wM g c v F rc) H := hP
    exact W.iret (v := (-2000000000)) hx hb hr (fun t ht hW => ⟨⟨(-2000000000), (v, F, rc), rfl, ⟨hI, rfl, (fun _ _ => rfl), hF, trivial⟩, (by show va_P _ _ _ t.heap; rw [ht]; exact hP9)⟩, hS.F ht⟩) hS.2.2 dX12_left_45
  · skip
    have t25903 := cv_ne (a := r25900.toInt) rfl (b := 0) (by decide) c25901
    refine lv_iload_n hx hb dX12_left_8 rfl (lv_at hl 2 rfl) ?_
    refine lv_iconst (v := 0) hx hb dX12_left_9 (by decide) ?_
    refine lv_iconst (v := 2) hx hb dX12_left_10 (by decide) ?_
    refine va_calli (va_runS (As := [.int p1, .int 0, .int 2]) (rest := []) ⟨hx, hb, hml, hown, hwd⟩ (c_X12_in l dC dI g c adK adV v F rc H.size p1 0 2 hg hI ) (va_cwS 3 hwd (gT wk_254 wk_252 wk_253 wk_5) rfl rfl rfl (by decide +kernel) ⟨Nat.le_of_ble_eq_true rfl, Nat.le_of_ble_eq_true rfl⟩) ⟨PM.blind, fun U hU hW => ⟨rfl, PM.at hK hE hP hS hU hW⟩⟩ rfl rfl hl.1 rfl (lv_room (Nat.le_of_ble_eq_true rfl)) dX12_left_11 ⟨Nat.le_of_ble_eq_true rfl, Nat.le_of_ble_eq_true rfl⟩) hS (fun q _ h => (freeM hS) q h) (freeM hS) (fun r25904 u t H1 locs ht hvm hw hB hz1 hk1 hS => ?_)
    unfold BM at hB
    rw [ht] at hB
    have hP : va_P (dC, dI) classes (wM g c v F rc) H1 := hB
    have hw : (r25904.toInt = 1 ∧ (0 : Int32).toInt ≤ p1.toInt ∧ p1.toInt ≤ (2 : Int32).toInt) ∨ (r25904.toInt = 0 ∧ (p1.toInt < (0 : Int32).toInt ∨ (2 : Int32).toInt < p1.toInt)) := hw
    have hw_r25904 := hw
    have k25905 : (0 : Int32).toInt = 0 := by decide
    have k25906 : (2 : Int32).toInt = 2 := by decide
    generalize H1 = H at hP hS ⊢
    refine lv_if_eq (tgt := 43) hx hb dX12_left_14 (by decide) (fun c25907 => ?_) (fun c25907 => ?_)
    · skip
      have t25908 := cv_eq (a := r25904.toInt) rfl (b := 0) (by decide) c25907
      refine lv_ldc (v := (-2000000000)) hx hb hown (hwd _ wk_542) dX12_left_43 ?_
      have hP9 : va_P (dC, dI) classes (wM g c v F rc) H := hP
      exact W.iret (v := (-2000000000)) hx hb hr (fun t ht hW => ⟨⟨(-2000000000), (v, F, rc), rfl, ⟨hI, rfl, (fun _ _ => rfl), hF, trivial⟩, (by show va_P _ _ _ t.heap; rw [ht]; exact hP9)⟩, hS.F ht⟩) hS.2.2 dX12_left_45
    · skip
      have t25909 := cv_ne (a := r25904.toInt) rfl (b := 0) (by decide) c25907
      refine lv_iload_n hx hb dX12_left_17 rfl (lv_at hl 3 rfl) ?_
      refine va_calli (va_runS (As := [.int p2]) (rest := []) ⟨hx, hb, hml, hown, hwd⟩ (c_X12_isDay l dC dI g c adK adV v F rc H.size p2 hg hI ) (va_cwS 1 hwd (gT wk_556 wk_554 wk_555 wk_5) rfl rfl rfl (by decide +kernel) ⟨Nat.le_of_ble_eq_true rfl, Nat.le_of_ble_eq_true rfl⟩) ⟨PM.blind, fun U hU hW => ⟨rfl, PM.at hK hE hP hS hU hW⟩⟩ rfl rfl hl.1 rfl (lv_room (Nat.le_of_ble_eq_true rfl)) dX12_left_18 ⟨Nat.le_of_ble_eq_true rfl, Nat.le_of_ble_eq_true rfl⟩) hS (fun q _ h => (freeM hS) q h) (freeM hS) (fun r25910 u t H1 locs ht hvm hw hB hz1 hk1 hS => ?_)
      unfold BM at hB
      rw [ht] at hB
      have hP : va_P (dC, dI) classes (wM g c v F rc) H1 := hB
      have hw : (r25910.toInt = 1 ∧ 0 ≤ p2.toInt ∧ p2.toInt ≤ 9999) ∨ (r25910.toInt = 0 ∧ (p2.toInt < 0 ∨ 9999 < p2.toInt)) := hw
      have hw_r25910 := hw
      generalize H1 = H at hP hS ⊢
      refine lv_if_eq (tgt := 43) hx hb dX12_left_21 (by decide) (fun c25911 => ?_) (fun c25911 => ?_)
      · skip
        have t25912 := cv_eq (a := r25910.toInt) rfl (b := 0) (by decide) c25911
        refine lv_ldc (v := (-2000000000)) hx hb hown (hwd _ wk_542) dX12_left_43 ?_
        have hP9 : va_P (dC, dI) classes (wM g c v F rc) H := hP
        exact W.iret (v := (-2000000000)) hx hb hr (fun t ht hW => ⟨⟨(-2000000000), (v, F, rc), rfl, ⟨hI, rfl, (fun _ _ => rfl), hF, trivial⟩, (by show va_P _ _ _ t.heap; rw [ht]; exact hP9)⟩, hS.F ht⟩) hS.2.2 dX12_left_45
      · skip
        have t25913 := cv_ne (a := r25910.toInt) rfl (b := 0) (by decide) c25911
        refine lv_aload_n hx hb dX12_left_24 rfl (lv_at hl 0 rfl) ?_
        refine lv_iload_n hx hb dX12_left_25 rfl (lv_at hl 1 rfl) ?_
        refine lv_iload_n hx hb dX12_left_26 rfl (lv_at hl 2 rfl) ?_
        refine va_calli (va_runV (As := [.int p0, .int p1]) (rest := []) ⟨hx, hb, hml, hown, hwd⟩ (c_X12_limitOf l dC dI g c adK adV v F rc H.size p0 p1 hg hI (by omega) (by omega)) (cwV 2 hwd (gV wk_489 wk_486 wk_487 wk_488 wk_5) rfl rfl rfl (by decide +kernel) ⟨Nat.le_of_ble_eq_true rfl, Nat.le_of_ble_eq_true rfl⟩) ⟨PM.blind, va_recv hK hP (ci := 12) (q0 := 0) rfl rfl, fun U hU hW => ⟨rfl, PM.at hK hE hP hS hU hW⟩⟩ rfl rfl hl.1 rfl (lv_room (Nat.le_of_ble_eq_true rfl)) dX12_left_27 ⟨Nat.le_of_ble_eq_true rfl, Nat.le_of_ble_eq_true rfl⟩) hS (fun q _ h => (freeM hS) q h) (freeM hS) (fun r25914 u t H1 locs ht hvm hw hB hz1 hk1 hS => ?_)
        unfold BM at hB
        rw [ht] at hB
        have hP : va_P (dC, dI) classes (wM g c v F rc) H1 := hB
        have hw : r25914.toInt = (F 1 (limJ (F 11) p0 p1)).toInt := hw
        have hw_r25914 := hw
        generalize H1 = H at hP hS ⊢
        refine lv_if_le (tgt := 43) hx hb dX12_left_30 (by decide) (fun c25915 => ?_) (fun c25915 => ?_)
        · skip
          have t25916 := cv_le (a := r25914.toInt) rfl (b := 0) (by decide) c25915
          refine lv_ldc (v := (-2000000000)) hx hb hown (hwd _ wk_542) dX12_left_43 ?_
          have hP9 : va_P (dC, dI) classes (wM g c v F rc) H := hP
          exact W.iret (v := (-2000000000)) hx hb hr (fun t ht hW => ⟨⟨(-2000000000), (v, F, rc), rfl, ⟨hI, rfl, (fun _ _ => rfl), hF, trivial⟩, (by show va_P _ _ _ t.heap; rw [ht]; exact hP9)⟩, hS.F ht⟩) hS.2.2 dX12_left_45
        · skip
          have t25917 := cv_nle (a := r25914.toInt) rfl (b := 0) (by decide) c25915
          refine lv_aload_n hx hb dX12_left_33 rfl (lv_at hl 0 rfl) ?_
          refine lv_iload_n hx hb dX12_left_34 rfl (lv_at hl 1 rfl) ?_
          refine lv_iload_n hx hb dX12_left_35 rfl (lv_at hl 2 rfl) ?_
          refine lv_iload_n hx hb dX12_left_36 rfl (lv_at hl 3 rfl) ?_
          refine va_calli (va_runV (As := [.int p0, .int p1, .int p2]) (rest := []) ⟨hx, hb, hml, hown, hwd⟩ (c_X12_leftOf l dC dI g c adK adV v F rc H.size p0 p1 p2 hg hI (by omega) (by omega) (JL.to hL (show v 31 = v 31 from rfl) rfl rfl rfl)) (cwV 3 hwd (gV wk_493 wk_490 wk_491 wk_492 wk_5) rfl rfl rfl (by decide +kernel) ⟨Nat.le_of_ble_eq_true rfl, Nat.le_of_ble_eq_true rfl⟩) ⟨PM.blind, va_recv hK hP (ci := 12) (q0 := 0) rfl rfl, fun U hU hW => ⟨rfl, PM.at hK hE hP hS hU hW⟩⟩ rfl rfl hl.1 rfl (lv_room (Nat.le_of_ble_eq_true rfl)) dX12_left_37 ⟨Nat.le_of_ble_eq_true rfl, Nat.le_of_ble_eq_true rfl⟩) hS (fun q _ h => (freeM hS) q h) (freeM hS) (fun r25918 u t H1 locs ht hvm hw hB hz1 hk1 hS => ?_)
          unfold BM at hB
          rw [ht] at hB
          obtain ⟨v25919, F25920, rc9⟩ := u
          obtain ⟨hI, hrc, hf25921, hG25922, hw⟩ := hw
          dsimp only at hI hrc hB hf25921 hG25922 hw
          have hF := frCF (by decide) hG25922 hF
          rw [hrc] at hB
          have hP : va_P (dC, dI) classes (wM g c v25919 F25920 rc) H1 := hB
          generalize H1 = H at hP hS ⊢
          have rr_r25918 := i32_rng r25918
          refine lv_goto (tgt := 45) hx hb dX12_left_40 (by decide) ?_
          have hP9 : va_P (dC, dI) classes (wM g c v25919 F25920 rc) H := hP
          exact W.iret (v := r25918) hx hb hr (fun t ht hW => ⟨⟨r25918, (v25919, F25920, rc), rfl, ⟨hI, rfl, (frC (by decide) hf25921 (fun _ _ => rfl)), hF, trivial⟩, (by show va_P _ _ _ t.heap; rw [ht]; exact hP9)⟩, hS.F ht⟩) hS.2.2 dX12_left_45
set_option maxHeartbeats 8000000 in
set_option maxRecDepth 100000 in
theorem c_X12_lost (l : Launch) (dC : Nat → ClassId) (dI : Nat → Nat → Nat) (g : Nat → Nat) (c : Nat → ClassId) (adK adV : Nat → Nat) (v : Nat → Int32) (F : Nat → Nat → Int32) (rc sz : Nat) (p0 : Int32) (p1 : Int32) (p2 : Int32) (hg : injM g) (hI : IM v F) (hL : JL (v 31) (F 28) (F 29) (F 27)) : Met l yX12_lost (Cond.code yX12_lost cX12_lost 5 (some .int) :: wA) ({ frames := 4, cells := 0, slots := 0, locals := 160 }) (va_Pc [.ref (g 0), .int p0, .int p1, .int p2] (PM dC dI g c adK adV v F rc sz)) (va_Qi (fun (r : Int32) (u : StM) => IM u.1 u.2.1 ∧ u.2.2 = rc ∧ (∀ k, k ∉ ([] : List Nat) → u.1 k = v k) ∧ (∀ k, k ∉ ([30, 31] : List Nat) → u.2.1 k = F k) ∧ True) (BM dC dI g c) (AM g sz)) 0 0 (AM g sz) := by
  refine Met.ofW (cc := cX12_lost) (maxL := 5) (ret := (some .int)) (by decide) rfl ?_
  intro p e s m args below meth c0 s₁ B hml hv
  obtain ⟨rfl, hsz, hP, hK, hE⟩ := hv
  have hx := B.exec
  have hb := B.bytes
  have hr := B.returns
  have hts := atoms_spec (ws := Cond.code yX12_lost cX12_lost 5 (some .int) :: wA) B.pre
  have hwd : ∀ w ∈ wA, w.before _ s = true := fun w h => hts w (List.mem_cons_of_mem _ h)
  have hown : s.vm.findClass RX12 = some m.cls := findClass_of_methodNamed B.named
  have hlocks := B.notSynchronized
  subst hsz
  have hl := lv_entry ([.ref (g 0), .int p0, .int p1, .int p2]) (n := 5) (Nat.le_of_ble_eq_true rfl)
  rw [lg_entry_eq]
  generalize (lg_sl ([.ref (g 0), .int p0, .int p1, .int p2]) ++ List.replicate (5 - (lg_sl ([.ref (g 0), .int p0, .int p1, .int p2])).length) Slot.unset).toArray = ls at hl ⊢
  have hl : lv_has ls 5 [(0, .ref (g 0)), (1, .int p0), (2, .int p1), (3, .int p2)] := hl
  obtain ⟨H, eH⟩ : ∃ z, z = s.heap := ⟨_, rfl⟩
  have hP : va_P (dC, dI) classes (wM g c v F rc) H := by rw [eH]; exact hP
  have hS : va_S (AM g s.heap.size) s.heap H [] := by rw [eH]; exact va_S.rf
  refine my_heap eH ?_
  have hF : ∀ k, k ∉ ([30, 31] : List Nat) → F k = F k := fun _ _ => rfl
  have rp0 := i32_rng p0
  have rp1 := i32_rng p1
  have rp2 := i32_rng p2
  have hb31 : 0 ≤ (v 31).toInt ∧ (v 31).toInt ≤ 10 := hI.1 31 _ _ rfl
  refine lv_aload_n hx hb dX12_lost_0 rfl (lv_at hl 0 rfl) ?_
  refine lv_iload_n hx hb dX12_lost_1 rfl (lv_at hl 1 rfl) ?_
  have t25946 : 0 ≤ (v 14).toInt ∧ (v 14).toInt ≤ 100 := hI.1 14 _ _ rfl
  refine va_calli (va_runV (As := [.int p0]) (rest := []) ⟨hx, hb, hml, hown, hwd⟩ (c_X12_isPart l dC dI g c adK adV v F rc H.size p0 hg hI ) (cwV 1 hwd (gV wk_631 wk_628 wk_629 wk_630 wk_5) rfl rfl rfl (by decide +kernel) ⟨Nat.le_of_ble_eq_true rfl, Nat.le_of_ble_eq_true rfl⟩) ⟨PM.blind, va_recv hK hP (ci := 12) (q0 := 0) rfl rfl, fun U hU hW => ⟨rfl, PM.at hK hE hP hS hU hW⟩⟩ rfl rfl hl.1 rfl (lv_room (Nat.le_of_ble_eq_true rfl)) dX12_lost_2 ⟨Nat.le_of_ble_eq_true rfl, Nat.le_of_ble_eq_true rfl⟩) hS (fun q _ h => (freeM hS) q h) (freeM hS) (fun r25947 u t H1 locs ht hvm hw hB hz1 hk1 hS => ?_)
  unfold BM at hB
  rw [ht] at hB
  have hP : va_P (dC, dI) classes (wM g c v F rc) H1 := hB
  have hw : (r25947.toInt = 1 ∧ 0 ≤ p0.toInt ∧ p0.toInt < (v 14).toInt) ∨ (r25947.toInt = 0 ∧ (p0.toInt < 0 ∨ (v 14).toInt ≤ p0.toInt)) := hw
  have hw_r25947 := hw
  generalize H1 = H at hP hS ⊢
  refine lv_if_eq (tgt := 15) hx hb dX12_lost_5 (by decide) (fun c25948 => ?_) (fun c25948 => ?_)
  · skip
    have t25949 := cv_eq (a := r25947.toInt) rfl (b := 0) (by decide) c25948
    refine lv_iconst (v := (-1)) hx hb dX12_lost_15 (by decide) ?_
    have hP9 : va_P (dC, dI) classes (wM g c v F rc) H := hP
    exact W.iret (v := (-1)) hx hb hr (fun t ht hW => ⟨⟨(-1), (v, F, rc), rfl, ⟨hI, rfl, (fun _ _ => rfl), hF, trivial⟩, (by show va_P _ _ _ t.heap; rw [ht]; exact hP9)⟩, hS.F ht⟩) hS.2.2 dX12_lost_16
  · skip
    have t25950 := cv_ne (a := r25947.toInt) rfl (b := 0) (by decide) c25948
    refine lv_iload_n hx hb dX12_lost_8 rfl (lv_at hl 3 rfl) ?_
    refine va_calli (va_runS (As := [.int p2]) (rest := []) ⟨hx, hb, hml, hown, hwd⟩ (c_X12_isDay l dC dI g c adK adV v F rc H.size p2 hg hI ) (va_cwS 1 hwd (gT wk_556 wk_554 wk_555 wk_5) rfl rfl rfl (by decide +kernel) ⟨Nat.le_of_ble_eq_true rfl, Nat.le_of_ble_eq_true rfl⟩) ⟨PM.blind, fun U hU hW => ⟨rfl, PM.at hK hE hP hS hU hW⟩⟩ rfl rfl hl.1 rfl (lv_room (Nat.le_of_ble_eq_true rfl)) dX12_lost_9 ⟨Nat.le_of_ble_eq_true rfl, Nat.le_of_ble_eq_true rfl⟩) hS (fun q _ h => (freeM hS) q h) (freeM hS) (fun r25951 u t H1 locs ht hvm hw hB hz1 hk1 hS => ?_)
    unfold BM at hB
    rw [ht] at hB
    have hP : va_P (dC, dI) classes (wM g c v F rc) H1 := hB
    have hw : (r25951.toInt = 1 ∧ 0 ≤ p2.toInt ∧ p2.toInt ≤ 9999) ∨ (r25951.toInt = 0 ∧ (p2.toInt < 0 ∨ 9999 < p2.toInt)) := hw
    have hw_r25951 := hw
    generalize H1 = H at hP hS ⊢
    refine lv_if_ne (tgt := 17) hx hb dX12_lost_12 (by decide) (fun c25952 => ?_) (fun c25952 => ?_)
    · skip
      have t25953 := cv_ne (a := r25951.toInt) rfl (b := 0) (by decide) c25952
      refine lv_aload_n hx hb dX12_lost_17 rfl (lv_at hl 0 rfl) ?_
      refine lv_iload_n hx hb dX12_lost_18 rfl (lv_at hl 1 rfl) ?_
      refine lv_iload_n hx hb dX12_lost_19 rfl (lv_at hl 2 rfl) ?_
      have t25954 : 0 ≤ (v 19).toInt ∧ (v 19).toInt ≤ 500 := hI.1 19 _ _ rfl
      refine va_calli (va_runV (As := [.int p0, .int p1]) (rest := []) ⟨hx, hb, hml, hown, hwd⟩ (c_X12_stayOf l dC dI g c adK adV v F rc H.size p0 p1 hg hI ) (cwV 2 hwd (gV wk_744 wk_741 wk_742 wk_743 wk_5) rfl rfl rfl (by decide +kernel) ⟨Nat.le_of_ble_eq_true rfl, Nat.le_of_ble_eq_true rfl⟩) ⟨PM.blind, va_recv hK hP (ci := 12) (q0 := 0) rfl rfl, fun U hU hW => ⟨rfl, PM.at hK hE hP hS hU hW⟩⟩ rfl rfl hl.1 rfl (lv_room (Nat.le_of_ble_eq_true rfl)) dX12_lost_20 ⟨Nat.le_of_ble_eq_true rfl, Nat.le_of_ble_eq_true rfl⟩) hS (fun q _ h => (freeM hS) q h) (freeM hS) (fun r25955 u t H1 locs ht hvm hw hB hz1 hk1 hS => ?_)
      unfold BM at hB
      rw [ht] at hB
      have hP : va_P (dC, dI) classes (wM g c v F rc) H1 := hB
      have hw : ((0 ≤ r25955.toInt ∧ r25955.toInt < (v 19).toInt) ∧ (F 15 r25955.toNatClampNeg).toInt = p0.toInt ∧ (cnt (ahP (F 15) (F 17) p0.toInt r25955.toNatClampNeg) (v 19).toNatClampNeg : Int) = p1.toInt) ∨ (r25955.toInt = -1 ∧ ∀ s : Nat, (s : Int) < (v 19).toInt → ((F 15 s).toInt = p0.toInt → (cnt (ahP (F 15) (F 17) p0.toInt s) (v 19).toNatClampNeg : Int) ≠ p1.toInt)) := hw
      have hw_r25955 := hw
      generalize H1 = H at hP hS ⊢
      refine lv_istore (lv' := [(4, .int r25955), (0, .ref (g 0)), (1, .int p0), (2, .int p1), (3, .int p2)]) hx hb dX12_lost_23 hl (by decide) rfl (fun ls hl => ?_)
      refine lv_iload hx hb dX12_lost_25 (lv_at hl 0 rfl) ?_
      refine lv_if_ge (tgt := 32) hx hb dX12_lost_27 (by decide) (fun c25956 => ?_) (fun c25956 => ?_)
      · skip
        have t25957 := cv_le (a := 0) (by decide) (b := r25955.toInt) rfl c25956
        refine lv_aload_n hx hb dX12_lost_32 rfl (lv_at hl 1 rfl) ?_
        refine lv_iload hx hb dX12_lost_33 (lv_at hl 0 rfl) ?_
        refine va_calli (va_runV (As := [.int r25955]) (rest := []) ⟨hx, hb, hml, hown, hwd⟩ (c_X12_isGap l dC dI g c adK adV v F rc H.size r25955 hg hI (by omega)) (cwV 1 hwd (gV wk_499 wk_496 wk_497 wk_498 wk_5) rfl rfl rfl (by decide +kernel) ⟨Nat.le_of_ble_eq_true rfl, Nat.le_of_ble_eq_true rfl⟩) ⟨PM.blind, va_recv hK hP (ci := 12) (q0 := 0) rfl rfl, fun U hU hW => ⟨rfl, PM.at hK hE hP hS hU hW⟩⟩ rfl rfl hl.1 rfl (lv_room (Nat.le_of_ble_eq_true rfl)) dX12_lost_35 ⟨Nat.le_of_ble_eq_true rfl, Nat.le_of_ble_eq_true rfl⟩) hS (fun q _ h => (freeM hS) q h) (freeM hS) (fun r25958 u t H1 locs ht hvm hw hB hz1 hk1 hS => ?_)
        unfold BM at hB
        rw [ht] at hB
        have hP : va_P (dC, dI) classes (wM g c v F rc) H1 := hB
        have hw : 0 ≤ r25958.toInt ∧ r25958.toInt ≤ 1 := hw
        have hw_r25958 := hw
        generalize H1 = H at hP hS ⊢
        refine lv_if_eq (tgt := 51) hx hb dX12_lost_38 (by decide) (fun c25959 => ?_) (fun c25959 => ?_)
        · skip
          have t25960 := cv_eq (a := r25958.toInt) rfl (b := 0) (by decide) c25959
          refine lv_bipush (v := (-2)) hx hb dX12_lost_51 (by decide) ?_
          have hP9 : va_P (dC, dI) classes (wM g c v F rc) H := hP
          exact W.iret (v := (-2)) hx hb hr (fun t ht hW => ⟨⟨(-2), (v, F, rc), rfl, ⟨hI, rfl, (fun _ _ => rfl), hF, trivial⟩, (by show va_P _ _ _ t.heap; rw [ht]; exact hP9)⟩, hS.F ht⟩) hS.2.2 dX12_lost_53
        · skip
          have t25961 := cv_ne (a := r25958.toInt) rfl (b := 0) (by decide) c25959
          refine lv_aload_n hx hb dX12_lost_41 rfl (lv_at hl 1 rfl) ?_
          refine lv_iload hx hb dX12_lost_42 (lv_at hl 0 rfl) ?_
          refine lv_iload_n hx hb dX12_lost_44 rfl (lv_at hl 4 rfl) ?_
          refine va_calli (va_runV (As := [.int r25955, .int p2]) (rest := []) ⟨hx, hb, hml, hown, hwd⟩ (c_X12_lostBy l dC dI g c adK adV v F rc H.size r25955 p2 hg hI (by omega) (JL.to hL (show v 31 = v 31 from rfl) rfl rfl rfl)) (cwV 2 hwd (gV wk_504 wk_501 wk_502 wk_503 wk_5) rfl rfl rfl (by decide +kernel) ⟨Nat.le_of_ble_eq_true rfl, Nat.le_of_ble_eq_true rfl⟩) ⟨PM.blind, va_recv hK hP (ci := 12) (q0 := 0) rfl rfl, fun U hU hW => ⟨rfl, PM.at hK hE hP hS hU hW⟩⟩ rfl rfl hl.1 rfl (lv_room (Nat.le_of_ble_eq_true rfl)) dX12_lost_45 ⟨Nat.le_of_ble_eq_true rfl, Nat.le_of_ble_eq_true rfl⟩) hS (fun q _ h => (freeM hS) q h) (freeM hS) (fun r25962 u t H1 locs ht hvm hw hB hz1 hk1 hS => ?_)
          unfold BM at hB
          rw [ht] at hB
          obtain ⟨v25963, F25964, rc9⟩ := u
          obtain ⟨hI, hrc, hf25965, hG25966, hw⟩ := hw
          dsimp only at hI hrc hB hf25965 hG25966 hw
          have hF := frCF (by decide) hG25966 hF
          rw [hrc] at hB
          have hP : va_P (dC, dI) classes (wM g c v25963 F25964 rc) H1 := hB
          have hw : 0 ≤ r25962.toInt ∧ r25962.toInt ≤ 100 := hw
          have hw_r25962 := hw
          generalize H1 = H at hP hS ⊢
          refine lv_goto (tgt := 53) hx hb dX12_lost_48 (by decide) ?_
          have hP9 : va_P (dC, dI) classes (wM g c v25963 F25964 rc) H := hP
          exact W.iret (v := r25962) hx hb hr (fun t ht hW => ⟨⟨r25962, (v25963, F25964, rc), rfl, ⟨hI, rfl, (frC (by decide) hf25965 (fun _ _ => rfl)), hF, trivial⟩, (by show va_P _ _ _ t.heap; rw [ht]; exact hP9)⟩, hS.F ht⟩) hS.2.2 dX12_lost_53
      · skip
        have t25967 := cv_nle (a := 0) (by decide) (b := r25955.toInt) rfl c25956
        refine lv_iconst (v := (-1)) hx hb dX12_lost_30 (by decide) ?_
        have hP9 : va_P (dC, dI) classes (wM g c v F rc) H := hP
        exact W.iret (v := (-1)) hx hb hr (fun t ht hW => ⟨⟨(-1), (v, F, rc), rfl, ⟨hI, rfl, (fun _ _ => rfl), hF, trivial⟩, (by show va_P _ _ _ t.heap; rw [ht]; exact hP9)⟩, hS.F ht⟩) hS.2.2 dX12_lost_31
    · skip
      have t25968 := cv_eq (a := r25951.toInt) rfl (b := 0) (by decide) c25952
      refine lv_iconst (v := (-1)) hx hb dX12_lost_15 (by decide) ?_
      have hP9 : va_P (dC, dI) classes (wM g c v F rc) H := hP
      exact W.iret (v := (-1)) hx hb hr (fun t ht hW => ⟨⟨(-1), (v, F, rc), rfl, ⟨hI, rfl, (fun _ _ => rfl), hF, trivial⟩, (by show va_P _ _ _ t.heap; rw [ht]; exact hP9)⟩, hS.F ht⟩) hS.2.2 dX12_lost_16
set_option maxHeartbeats 8000000 in
set_option maxRecDepth 100000 in
theorem c_X12_least (l : Launch) (dC : Nat → ClassId) (dI : Nat → Nat → Nat) (g : Nat → Nat) (c : Nat → ClassId) (adK adV : Nat → Nat) (v : Nat → Int32) (F : Nat → Nat → Int32) (rc sz : Nat) (p0 : Int32) (p1 : Int32) (hg : injM g) (hI : IM v F) (hL : JL (v 31) (F 28) (F 29) (F 27)) : Met l yX12_least (Cond.code yX12_least cX12_least 9 (some .int) :: wA) ({ frames := 5, cells := 0, slots := 0, locals := 200 }) (va_Pc [.ref (g 0), .int p0, .int p1] (PM dC dI g c adK adV v F rc sz)) (va_Qi (fun (r : Int32) (u : StM) => IM u.1 u.2.1 ∧ u.2.2 = rc ∧ (∀ k, k ∉ ([] : List Nat) → u.1 k = v k) ∧ (∀ k, k ∉ ([30, 31] : List Nat) → u.2.1 k = F k) ∧ True) (BM dC dI g c) (AM g sz)) 0 0 (AM g sz) := by
  refine Met.ofW (cc := cX12_least) (maxL := 9) (ret := (some .int)) (by decide) rfl ?_
  intro p e s m args below meth c0 s₁ B hml hv
  obtain ⟨rfl, hsz, hP, hK, hE⟩ := hv
  have hx := B.exec
  have hb := B.bytes
  have hr := B.returns
  have hts := atoms_spec (ws := Cond.code yX12_least cX12_least 9 (some .int) :: wA) B.pre
  have hwd : ∀ w ∈ wA, w.before _ s = true := fun w h => hts w (List.mem_cons_of_mem _ h)
  have hown : s.vm.findClass RX12 = some m.cls := findClass_of_methodNamed B.named
  have hlocks := B.notSynchronized
  subst hsz
  have hl := lv_entry ([.ref (g 0), .int p0, .int p1]) (n := 9) (Nat.le_of_ble_eq_true rfl)
  rw [lg_entry_eq]
  generalize (lg_sl ([.ref (g 0), .int p0, .int p1]) ++ List.replicate (9 - (lg_sl ([.ref (g 0), .int p0, .int p1])).length) Slot.unset).toArray = ls at hl ⊢
  have hl : lv_has ls 9 [(0, .ref (g 0)), (1, .int p0), (2, .int p1)] := hl
  obtain ⟨H, eH⟩ : ∃ z, z = s.heap := ⟨_, rfl⟩
  have hP : va_P (dC, dI) classes (wM g c v F rc) H := by rw [eH]; exact hP
  have hS : va_S (AM g s.heap.size) s.heap H [] := by rw [eH]; exact va_S.rf
  refine my_heap eH ?_
  have hF : ∀ k, k ∉ ([30, 31] : List Nat) → F k = F k := fun _ _ => rfl
  have rp0 := i32_rng p0
  have rp1 := i32_rng p1
  have hb31 : 0 ≤ (v 31).toInt ∧ (v 31).toInt ≤ 10 := hI.1 31 _ _ rfl
  refine lv_aload_n hx hb dX12_least_0 rfl (lv_at hl 0 rfl) ?_
  refine lv_iload_n hx hb dX12_least_1 rfl (lv_at hl 1 rfl) ?_
  have t26021 : 0 ≤ (v 14).toInt ∧ (v 14).toInt ≤ 100 := hI.1 14 _ _ rfl
  refine va_calli (va_runV (As := [.int p0]) (rest := []) ⟨hx, hb, hml, hown, hwd⟩ (c_X12_isPart l dC dI g c adK adV v F rc H.size p0 hg hI ) (cwV 1 hwd (gV wk_631 wk_628 wk_629 wk_630 wk_5) rfl rfl rfl (by decide +kernel) ⟨Nat.le_of_ble_eq_true rfl, Nat.le_of_ble_eq_true rfl⟩) ⟨PM.blind, va_recv hK hP (ci := 12) (q0 := 0) rfl rfl, fun U hU hW => ⟨rfl, PM.at hK hE hP hS hU hW⟩⟩ rfl rfl hl.1 rfl (lv_room (Nat.le_of_ble_eq_true rfl)) dX12_least_2 ⟨Nat.le_of_ble_eq_true rfl, Nat.le_of_ble_eq_true rfl⟩) hS (fun q _ h => (freeM hS) q h) (freeM hS) (fun r26022 u t H1 locs ht hvm hw hB hz1 hk1 hS => ?_)
  unfold BM at hB
  rw [ht] at hB
  have hP : va_P (dC, dI) classes (wM g c v F rc) H1 := hB
  have hw : (r26022.toInt = 1 ∧ 0 ≤ p0.toInt ∧ p0.toInt < (v 14).toInt) ∨ (r26022.toInt = 0 ∧ (p0.toInt < 0 ∨ (v 14).toInt ≤ p0.toInt)) := hw
  have hw_r26022 := hw
  generalize H1 = H at hP hS ⊢
  refine lv_if_eq (tgt := 15) hx hb dX12_least_5 (by decide) (fun c26023 => ?_) (fun c26023 => ?_)
  · skip
    have t26024 := cv_eq (a := r26022.toInt) rfl (b := 0) (by decide) c26023
    refine lv_iconst (v := (-1)) hx hb dX12_least_15 (by decide) ?_
    have hP9 : va_P (dC, dI) classes (wM g c v F rc) H := hP
    exact W.iret (v := (-1)) hx hb hr (fun t ht hW => ⟨⟨(-1), (v, F, rc), rfl, ⟨hI, rfl, (fun _ _ => rfl), hF, trivial⟩, (by show va_P _ _ _ t.heap; rw [ht]; exact hP9)⟩, hS.F ht⟩) hS.2.2 dX12_least_16
  · skip
    have t26025 := cv_ne (a := r26022.toInt) rfl (b := 0) (by decide) c26023
    refine lv_iload_n hx hb dX12_least_8 rfl (lv_at hl 2 rfl) ?_
    refine va_calli (va_runS (As := [.int p1]) (rest := []) ⟨hx, hb, hml, hown, hwd⟩ (c_X12_isDay l dC dI g c adK adV v F rc H.size p1 hg hI ) (va_cwS 1 hwd (gT wk_556 wk_554 wk_555 wk_5) rfl rfl rfl (by decide +kernel) ⟨Nat.le_of_ble_eq_true rfl, Nat.le_of_ble_eq_true rfl⟩) ⟨PM.blind, fun U hU hW => ⟨rfl, PM.at hK hE hP hS hU hW⟩⟩ rfl rfl hl.1 rfl (lv_room (Nat.le_of_ble_eq_true rfl)) dX12_least_9 ⟨Nat.le_of_ble_eq_true rfl, Nat.le_of_ble_eq_true rfl⟩) hS (fun q _ h => (freeM hS) q h) (freeM hS) (fun r26026 u t H1 locs ht hvm hw hB hz1 hk1 hS => ?_)
    unfold BM at hB
    rw [ht] at hB
    have hP : va_P (dC, dI) classes (wM g c v F rc) H1 := hB
    have hw : (r26026.toInt = 1 ∧ 0 ≤ p1.toInt ∧ p1.toInt ≤ 9999) ∨ (r26026.toInt = 0 ∧ (p1.toInt < 0 ∨ 9999 < p1.toInt)) := hw
    have hw_r26026 := hw
    generalize H1 = H at hP hS ⊢
    refine lv_if_ne (tgt := 17) hx hb dX12_least_12 (by decide) (fun c26027 => ?_) (fun c26027 => ?_)
    · skip
      have t26028 := cv_ne (a := r26026.toInt) rfl (b := 0) (by decide) c26027
      refine lv_bipush (v := (-2)) hx hb dX12_least_17 (by decide) ?_
      refine lv_istore_n (lv' := [(3, .int (-2)), (0, .ref (g 0)), (1, .int p0), (2, .int p1)]) hx hb dX12_least_19 rfl hl (by decide) rfl (fun ls hl => ?_)
      refine lv_lconst (v := 0) hx hb dX12_least_20 (by decide) ?_
      refine lv_lstore (lv' := [(4, .long 0), (3, .int (-2)), (0, .ref (g 0)), (1, .int p0), (2, .int p1)]) hx hb dX12_least_21 hl (by decide) rfl (fun ls hl => ?_)
      refine lv_iconst (v := 0) hx hb dX12_least_23 (by decide) ?_
      refine lv_istore (lv' := [(6, .int 0), (4, .long 0), (3, .int (-2)), (0, .ref (g 0)), (1, .int p0), (2, .int p1)]) hx hb dX12_least_24 hl (by decide) rfl (fun ls hl => ?_)
      have lp26029 : ∀ (n : Nat) (x6_lp26029 : Int32) (x4_lp26029 : Int64) (x3_lp26029 : Int32) (v_lp26029 : Nat → Int32) (F_lp26029 : Nat → Nat → Int32) (H : Heap) (locs : List Loc) (ls : Array Slot), (0 ≤ x6_lp26029.toInt) → (2147483648 - x6_lp26029.toInt ≤ (n : Int)) → (∀ k, k ∉ ([] : List Nat) → v_lp26029 k = v k) → IM v_lp26029 F_lp26029 → (∀ k, k ∉ ([30, 31] : List Nat) → F_lp26029 k = F k) → va_P (dC, dI) classes (wM g c v_lp26029 F_lp26029 rc) H → va_S (AM g s.heap.size) s.heap H locs → lv_has ls 9 [(6, .int x6_lp26029), (4, .long x4_lp26029), (3, .int x3_lp26029), (0, .ref (g 0)), (1, .int p0), (2, .int p1)] → W p l e (headSpec (Cond.code yX12_least cX12_least 9 (some .int) :: wA) ({ frames := 5, cells := 0, slots := 0, locals := 200 })).room s m ([.ref (g 0), .int p0, .int p1] : List Value).toArray below meth c0 H locs 0 0 (MQ below (va_Qi (fun (r : Int32) (u : StM) => IM u.1 u.2.1 ∧ u.2.2 = rc ∧ (∀ k, k ∉ ([] : List Nat) → u.1 k = v k) ∧ (∀ k, k ∉ ([30, 31] : List Nat) → u.2.1 k = F k) ∧ True) (BM dC dI g c) (AM g s.heap.size)) ([.ref (g 0), .int p0, .int p1] : List Value).toArray s 0 0 (AM g s.heap.size)) (F0 m 26 ls []) := by
        intro n
        induction n with
        | zero =>
          intro x6_lp26029 x4_lp26029 x3_lp26029 v_lp26029 F_lp26029 H locs ls t26030 hm hf_lp26029 hI hF hP hS hl
          exfalso
          have := i32_rng x6_lp26029
          have := i32_rng x3_lp26029
          have hI1 := hI.1
          omega
        | succ n ih_lp26029 =>
          intro x6_lp26029 x4_lp26029 x3_lp26029 v_lp26029 F_lp26029 H locs ls t26030 hm hf_lp26029 hI hF hP hS hl
          have rx6_lp26029 := i32_rng x6_lp26029
          have rx3_lp26029 := i32_rng x3_lp26029
          refine lv_iload hx hb dX12_least_26 (lv_at hl 0 rfl) ?_
          refine lv_iconst (v := 3) hx hb dX12_least_28 (by decide) ?_
          refine lv_icmp_ge (tgt := 97) hx hb dX12_least_29 (by decide) (fun c26031 => ?_) (fun c26031 => ?_)
          · skip
            have t26032 := cv_le (a := 3) (by decide) (b := x6_lp26029.toInt) rfl c26031
            refine lv_iload_n hx hb dX12_least_97 rfl (lv_at hl 2 rfl) ?_
            have hP9 : va_P (dC, dI) classes (wM g c v_lp26029 F_lp26029 rc) H := hP
            exact W.iret (v := x3_lp26029) hx hb hr (fun t ht hW => ⟨⟨x3_lp26029, (v_lp26029, F_lp26029, rc), rfl, ⟨hI, rfl, (frC (by decide) hf_lp26029 (fun _ _ => rfl)), hF, trivial⟩, (by show va_P _ _ _ t.heap; rw [ht]; exact hP9)⟩, hS.F ht⟩) hS.2.2 dX12_least_98
          · skip
            have t26033 := cv_nle (a := 3) (by decide) (b := x6_lp26029.toInt) rfl c26031
            refine lv_aload_n hx hb dX12_least_32 rfl (lv_at hl 3 rfl) ?_
            refine lv_iload_n hx hb dX12_least_33 rfl (lv_at hl 4 rfl) ?_
            refine lv_iload hx hb dX12_least_34 (lv_at hl 0 rfl) ?_
            refine va_calli (va_runV (As := [.int p0, .int x6_lp26029]) (rest := []) ⟨hx, hb, hml, hown, hwd⟩ (c_X12_limitOf l dC dI g c adK adV v_lp26029 F_lp26029 rc H.size p0 x6_lp26029 hg hI (by omega) (by omega)) (cwV 2 hwd (gV wk_489 wk_486 wk_487 wk_488 wk_5) rfl rfl rfl (by decide +kernel) ⟨Nat.le_of_ble_eq_true rfl, Nat.le_of_ble_eq_true rfl⟩) ⟨PM.blind, va_recv hK hP (ci := 12) (q0 := 0) rfl rfl, fun U hU hW => ⟨rfl, PM.at hK hE hP hS hU hW⟩⟩ rfl rfl hl.1 rfl (lv_room (Nat.le_of_ble_eq_true rfl)) dX12_least_36 ⟨Nat.le_of_ble_eq_true rfl, Nat.le_of_ble_eq_true rfl⟩) hS (fun q _ h => (freeM hS) q h) (freeM hS) (fun r26034 u t H1 locs ht hvm hw hB hz1 hk1 hS => ?_)
            unfold BM at hB
            rw [ht] at hB
            have hP : va_P (dC, dI) classes (wM g c v_lp26029 F_lp26029 rc) H1 := hB
            have hw : r26034.toInt = (F_lp26029 1 (limJ (F_lp26029 11) p0 x6_lp26029)).toInt := hw
            rw [hF 1 (by decide)] at hw
            rw [hF 11 (by decide)] at hw
            have hw_r26034 := hw
            generalize H1 = H at hP hS ⊢
            refine lv_if_ne (tgt := 45) hx hb dX12_least_39 (by decide) (fun c26035 => ?_) (fun c26035 => ?_)
            · skip
              have t26036 := cv_ne (a := r26034.toInt) rfl (b := 0) (by decide) c26035
              refine lv_ldc2 (v := 10000) hx hb hown (hwd _ wk_781) dX12_least_45 ?_
              refine lv_aload_n hx hb dX12_least_48 rfl (lv_at hl 3 rfl) ?_
              refine lv_iload_n hx hb dX12_least_49 rfl (lv_at hl 4 rfl) ?_
              refine lv_iload hx hb dX12_least_50 (lv_at hl 0 rfl) ?_
              refine lv_iload_n hx hb dX12_least_52 rfl (lv_at hl 5 rfl) ?_
              refine va_calli (va_runV (As := [.int p0, .int x6_lp26029, .int p1]) (rest := [.long 10000]) ⟨hx, hb, hml, hown, hwd⟩ (c_X12_leftOf l dC dI g c adK adV v_lp26029 F_lp26029 rc H.size p0 x6_lp26029 p1 hg hI (by omega) (by omega) (JL.to hL (show v_lp26029 31 = v 31 from hf_lp26029 31 (by decide)) (hF 28 (by decide)) (hF 29 (by decide)) (hF 27 (by decide)))) (cwV 3 hwd (gV wk_493 wk_490 wk_491 wk_492 wk_5) rfl rfl rfl (by decide +kernel) ⟨Nat.le_of_ble_eq_true rfl, Nat.le_of_ble_eq_true rfl⟩) ⟨PM.blind, va_recv hK hP (ci := 12) (q0 := 0) rfl rfl, fun U hU hW => ⟨rfl, PM.at hK hE hP hS hU hW⟩⟩ rfl rfl hl.1 rfl (lv_room (Nat.le_of_ble_eq_true rfl)) dX12_least_53 ⟨Nat.le_of_ble_eq_true rfl, Nat.le_of_ble_eq_true rfl⟩) hS (fun q _ h => (freeM hS) q h) (freeM hS) (fun r26037 u t H1 locs ht hvm hw hB hz1 hk1 hS => ?_)
              unfold BM at hB
              rw [ht] at hB
              obtain ⟨v26038, F26039, rc9⟩ := u
              obtain ⟨hI, hrc, hf26040, hG26041, hw⟩ := hw
              dsimp only at hI hrc hB hf26040 hG26041 hw
              have hF := frCF (by decide) hG26041 hF
              rw [hrc] at hB
              have hP : va_P (dC, dI) classes (wM g c v26038 F26039 rc) H1 := hB
              generalize H1 = H at hP hS ⊢
              have rr_r26037 := i32_rng r26037
              refine lv_i2l hx hb dX12_least_56 rfl ?_
              refine lv_topl (fun z26042 e26043 => ?_)
              refine lv_lmul hx hb dX12_least_57 ?_
              refine lv_topl (fun z26044 e26045 => ?_)
              refine lv_aload_n hx hb dX12_least_58 rfl (lv_at hl 3 rfl) ?_
              refine lv_iload_n hx hb dX12_least_59 rfl (lv_at hl 4 rfl) ?_
              refine lv_iload hx hb dX12_least_60 (lv_at hl 0 rfl) ?_
              refine va_calli (va_runV (As := [.int p0, .int x6_lp26029]) (rest := [.long z26044]) ⟨hx, hb, hml, hown, hwd⟩ (c_X12_limitOf l dC dI g c adK adV v26038 F26039 rc H.size p0 x6_lp26029 hg hI (by omega) (by omega)) (cwV 2 hwd (gV wk_489 wk_486 wk_487 wk_488 wk_5) rfl rfl rfl (by decide +kernel) ⟨Nat.le_of_ble_eq_true rfl, Nat.le_of_ble_eq_true rfl⟩) ⟨PM.blind, va_recv hK hP (ci := 12) (q0 := 0) rfl rfl, fun U hU hW => ⟨rfl, PM.at hK hE hP hS hU hW⟩⟩ rfl rfl hl.1 rfl (lv_room (Nat.le_of_ble_eq_true rfl)) dX12_least_62 ⟨Nat.le_of_ble_eq_true rfl, Nat.le_of_ble_eq_true rfl⟩) hS (fun q _ h => (freeM hS) q h) (freeM hS) (fun r26046 u t H1 locs ht hvm hw hB hz1 hk1 hS => ?_)
              unfold BM at hB
              rw [ht] at hB
              have hP : va_P (dC, dI) classes (wM g c v26038 F26039 rc) H1 := hB
              have hw : r26046.toInt = (F26039 1 (limJ (F26039 11) p0 x6_lp26029)).toInt := hw
              rw [hF 1 (by decide)] at hw
              rw [hF 11 (by decide)] at hw
              have hw_r26046 := hw
              generalize H1 = H at hP hS ⊢
              refine lv_i2l hx hb dX12_least_65 rfl ?_
              refine lv_topl (fun z26047 e26048 => ?_)
              refine lv_ldiv hx hb dX12_least_66 (nz64 e26048 (a := r26046.toInt) rfl (by omega)) ?_
              refine lv_topl (fun z26049 e26050 => ?_)
              refine lv_lstore (lv' := [(7, .long z26049), (6, .int x6_lp26029), (4, .long x4_lp26029), (3, .int x3_lp26029), (0, .ref (g 0)), (1, .int p0), (2, .int p1)]) hx hb dX12_least_67 hl (by decide) rfl (fun ls hl => ?_)
              refine lv_iload_n hx hb dX12_least_69 rfl (lv_at hl 3 rfl) ?_
              refine lv_if_lt (tgt := 84) hx hb dX12_least_70 (by decide) (fun c26051 => ?_) (fun c26051 => ?_)
              · skip
                have t26052 := cv_lt (a := x3_lp26029.toInt) rfl (b := 0) (by decide) c26051
                refine lv_iload hx hb dX12_least_84 (lv_at hl 1 rfl) ?_
                refine lv_istore_n (lv' := [(3, .int x6_lp26029), (7, .long z26049), (6, .int x6_lp26029), (4, .long x4_lp26029), (0, .ref (g 0)), (1, .int p0), (2, .int p1)]) hx hb dX12_least_86 rfl hl (by decide) rfl (fun ls hl => ?_)
                refine lv_lload hx hb dX12_least_87 (lv_at hl 1 rfl) ?_
                refine lv_lstore (lv' := [(4, .long z26049), (3, .int x6_lp26029), (7, .long z26049), (6, .int x6_lp26029), (0, .ref (g 0)), (1, .int p0), (2, .int p1)]) hx hb dX12_least_89 hl (by decide) rfl (fun ls hl => ?_)
                obtain ⟨z26053, e26054⟩ : ∃ y : Int32, y = x6_lp26029 + 1 := ⟨_, rfl⟩
                try (have t26055 := tadd e26054 rfl (b := 1) (by decide) (by omega))
                refine lv_iinc (v := z26053) (lv' := [(6, .int z26053), (4, .long z26049), (3, .int x6_lp26029), (7, .long z26049), (0, .ref (g 0)), (1, .int p0), (2, .int p1)]) hx hb dX12_least_91 hl (k := 3) rfl (by rw [e26054]; rfl) (by decide) rfl (fun ls hl => ?_)
                refine lv_goto (tgt := 26) hx hb dX12_least_94 (by decide) ?_
                exact ih_lp26029 z26053 z26049 x6_lp26029 v26038 F26039 _ _ _ (by omega) (by omega) (frC (by decide) hf26040 hf_lp26029) hI hF hP hS (lv_sub hl [0, 1, 2, 4, 5, 6] rfl)
              · skip
                have t26056 := cv_nlt (a := x3_lp26029.toInt) rfl (b := 0) (by decide) c26051
                refine lv_lload hx hb dX12_least_73 (lv_at hl 0 rfl) ?_
                refine lv_lload hx hb dX12_least_75 (lv_at hl 2 rfl) ?_
                refine W.lcmp hx hb dX12_least_77 ?_
                refine lv_topi (fun z26057 e26058 => ?_)
                refine lv_if_lt (tgt := 84) hx hb dX12_least_78 (by decide) (fun c26059 => ?_) (fun c26059 => ?_)
                · skip
                  have t26060 := cv_lt (a := z26057.toInt) rfl (b := 0) (by decide) c26059
                  refine lv_iload hx hb dX12_least_84 (lv_at hl 1 rfl) ?_
                  refine lv_istore_n (lv' := [(3, .int x6_lp26029), (7, .long z26049), (6, .int x6_lp26029), (4, .long x4_lp26029), (0, .ref (g 0)), (1, .int p0), (2, .int p1)]) hx hb dX12_least_86 rfl hl (by decide) rfl (fun ls hl => ?_)
                  refine lv_lload hx hb dX12_least_87 (lv_at hl 1 rfl) ?_
                  refine lv_lstore (lv' := [(4, .long z26049), (3, .int x6_lp26029), (7, .long z26049), (6, .int x6_lp26029), (0, .ref (g 0)), (1, .int p0), (2, .int p1)]) hx hb dX12_least_89 hl (by decide) rfl (fun ls hl => ?_)
                  obtain ⟨z26061, e26062⟩ : ∃ y : Int32, y = x6_lp26029 + 1 := ⟨_, rfl⟩
                  try (have t26063 := tadd e26062 rfl (b := 1) (by decide) (by omega))
                  refine lv_iinc (v := z26061) (lv' := [(6, .int z26061), (4, .long z26049), (3, .int x6_lp26029), (7, .long z26049), (0, .ref (g 0)), (1, .int p0), (2, .int p1)]) hx hb dX12_least_91 hl (k := 3) rfl (by rw [e26062]; rfl) (by decide) rfl (fun ls hl => ?_)
                  refine lv_goto (tgt := 26) hx hb dX12_least_94 (by decide) ?_
                  exact ih_lp26029 z26061 z26049 x6_lp26029 v26038 F26039 _ _ _ (by omega) (by omega) (frC (by decide) hf26040 hf_lp26029) hI hF hP hS (lv_sub hl [0, 1, 2, 4, 5, 6] rfl)
                · skip
                  have t26064 := cv_nlt (a := z26057.toInt) rfl (b := 0) (by decide) c26059
                  refine lv_goto (tgt := 91) hx hb dX12_least_81 (by decide) ?_
                  obtain ⟨z26065, e26066⟩ : ∃ y : Int32, y = x6_lp26029 + 1 := ⟨_, rfl⟩
                  try (have t26067 := tadd e26066 rfl (b := 1) (by decide) (by omega))
                  refine lv_iinc (v := z26065) (lv' := [(6, .int z26065), (7, .long z26049), (4, .long x4_lp26029), (3, .int x3_lp26029), (0, .ref (g 0)), (1, .int p0), (2, .int p1)]) hx hb dX12_least_91 hl (k := 1) rfl (by rw [e26066]; rfl) (by decide) rfl (fun ls hl => ?_)
                  refine lv_goto (tgt := 26) hx hb dX12_least_94 (by decide) ?_
                  exact ih_lp26029 z26065 x4_lp26029 x3_lp26029 v26038 F26039 _ _ _ (by omega) (by omega) (frC (by decide) hf26040 hf_lp26029) hI hF hP hS (lv_sub hl [0, 2, 3, 4, 5, 6] rfl)
            · skip
              have t26068 := cv_eq (a := r26034.toInt) rfl (b := 0) (by decide) c26035
              refine lv_goto (tgt := 91) hx hb dX12_least_42 (by decide) ?_
              obtain ⟨z26069, e26070⟩ : ∃ y : Int32, y = x6_lp26029 + 1 := ⟨_, rfl⟩
              try (have t26071 := tadd e26070 rfl (b := 1) (by decide) (by omega))
              refine lv_iinc (v := z26069) (lv' := [(6, .int z26069), (4, .long x4_lp26029), (3, .int x3_lp26029), (0, .ref (g 0)), (1, .int p0), (2, .int p1)]) hx hb dX12_least_91 hl (k := 0) rfl (by rw [e26070]; rfl) (by decide) rfl (fun ls hl => ?_)
              refine lv_goto (tgt := 26) hx hb dX12_least_94 (by decide) ?_
              exact ih_lp26029 z26069 x4_lp26029 x3_lp26029 v_lp26029 F_lp26029 _ _ _ (by omega) (by omega) hf_lp26029 hI hF hP hS (lv_sub hl [0, 1, 2, 3, 4, 5] rfl)
      obtain ⟨n9, hn9⟩ : ∃ n : Nat, 2147483648 - 0 ≤ (n : Int) := ⟨((2147483648 - 0 : Int)).toNat, by omega⟩
      exact lp26029 n9 0 0 (-2) v F H _ ls (by have : (0 : Int32).toInt = 0 := (by decide); have : ((-2) : Int32).toInt = (-2) := (by decide); omega) (by have : (0 : Int32).toInt = 0 := (by decide); have : ((-2) : Int32).toInt = (-2) := (by decide); omega) (fun _ _ => rfl) hI hF hP hS hl
    · skip
      have t26072 := cv_eq (a := r26026.toInt) rfl (b := 0) (by decide) c26027
      refine lv_iconst (v := (-1)) hx hb dX12_least_15 (by decide) ?_
      have hP9 : va_P (dC, dI) classes (wM g c v F rc) H := hP
      exact W.iret (v := (-1)) hx hb hr (fun t ht hW => ⟨⟨(-1), (v, F, rc), rfl, ⟨hI, rfl, (fun _ _ => rfl), hF, trivial⟩, (by show va_P _ _ _ t.heap; rw [ht]; exact hP9)⟩, hS.F ht⟩) hS.2.2 dX12_least_16
set_option maxHeartbeats 8000000 in
set_option maxRecDepth 100000 in
theorem c_X12_halfOf (l : Launch) (dC : Nat → ClassId) (dI : Nat → Nat → Nat) (g : Nat → Nat) (c : Nat → ClassId) (adK adV : Nat → Nat) (v : Nat → Int32) (F : Nat → Nat → Int32) (rc sz : Nat) (p0 : Int32) (p1 : Int32) (hg : injM g) (hI : IM v F) (hL : JL (v 31) (F 28) (F 29) (F 27)) : Met l yX12_halfOf (Cond.code yX12_halfOf cX12_halfOf 7 (some .int) :: wA) ({ frames := 5, cells := 0, slots := 0, locals := 200 }) (va_Pc [.ref (g 0), .int p0, .int p1] (PM dC dI g c adK adV v F rc sz)) (va_Qi (fun (r : Int32) (u : StM) => IM u.1 u.2.1 ∧ u.2.2 = rc ∧ (∀ k, k ∉ ([] : List Nat) → u.1 k = v k) ∧ (∀ k, k ∉ ([30, 31] : List Nat) → u.2.1 k = F k) ∧ True) (BM dC dI g c) (AM g sz)) 0 0 (AM g sz) := by
  refine Met.ofW (cc := cX12_halfOf) (maxL := 7) (ret := (some .int)) (by decide) rfl ?_
  intro p e s m args below meth c0 s₁ B hml hv
  obtain ⟨rfl, hsz, hP, hK, hE⟩ := hv
  have hx := B.exec
  have hb := B.bytes
  have hr := B.returns
  have hts := atoms_spec (ws := Cond.code yX12_halfOf cX12_halfOf 7 (some .int) :: wA) B.pre
  have hwd : ∀ w ∈ wA, w.before _ s = true := fun w h => hts w (List.mem_cons_of_mem _ h)
  have hown : s.vm.findClass RX12 = some m.cls := findClass_of_methodNamed B.named
  have hlocks := B.notSynchronized
  subst hsz
  have hl := lv_entry ([.ref (g 0), .int p0, .int p1]) (n := 7) (Nat.le_of_ble_eq_true rfl)
  rw [lg_entry_eq]
  generalize (lg_sl ([.ref (g 0), .int p0, .int p1]) ++ List.replicate (7 - (lg_sl ([.ref (g 0), .int p0, .int p1])).length) Slot.unset).toArray = ls at hl ⊢
  have hl : lv_has ls 7 [(0, .ref (g 0)), (1, .int p0), (2, .int p1)] := hl
  obtain ⟨H, eH⟩ : ∃ z, z = s.heap := ⟨_, rfl⟩
  have hP : va_P (dC, dI) classes (wM g c v F rc) H := by rw [eH]; exact hP
  have hS : va_S (AM g s.heap.size) s.heap H [] := by rw [eH]; exact va_S.rf
  refine my_heap eH ?_
  have hF : ∀ k, k ∉ ([30, 31] : List Nat) → F k = F k := fun _ _ => rfl
  have rp0 := i32_rng p0
  have rp1 := i32_rng p1
  have hb31 : 0 ≤ (v 31).toInt ∧ (v 31).toInt ≤ 10 := hI.1 31 _ _ rfl
  refine lv_lconst (v := 0) hx hb dX12_halfOf_0 (by decide) ?_
  refine lv_lstore_n (lv' := [(3, .long 0), (0, .ref (g 0)), (1, .int p0), (2, .int p1)]) hx hb dX12_halfOf_1 rfl hl (by decide) rfl (fun ls hl => ?_)
  refine lv_iconst (v := 0) hx hb dX12_halfOf_2 (by decide) ?_
  refine lv_istore (lv' := [(5, .int 0), (3, .long 0), (0, .ref (g 0)), (1, .int p0), (2, .int p1)]) hx hb dX12_halfOf_3 hl (by decide) rfl (fun ls hl => ?_)
  have lp26145 : ∀ (n : Nat) (x5_lp26145 : Int32) (x3_lp26145 : Int64) (v_lp26145 : Nat → Int32) (F_lp26145 : Nat → Nat → Int32) (H : Heap) (locs : List Loc) (ls : Array Slot), (0 ≤ x5_lp26145.toInt) → (2147483648 - x5_lp26145.toInt ≤ (n : Int)) → (∀ k, k ∉ ([] : List Nat) → v_lp26145 k = v k) → IM v_lp26145 F_lp26145 → (∀ k, k ∉ ([30, 31] : List Nat) → F_lp26145 k = F k) → va_P (dC, dI) classes (wM g c v_lp26145 F_lp26145 rc) H → va_S (AM g s.heap.size) s.heap H locs → lv_has ls 7 [(5, .int x5_lp26145), (3, .long x3_lp26145), (0, .ref (g 0)), (1, .int p0), (2, .int p1)] → W p l e (headSpec (Cond.code yX12_halfOf cX12_halfOf 7 (some .int) :: wA) ({ frames := 5, cells := 0, slots := 0, locals := 200 })).room s m ([.ref (g 0), .int p0, .int p1] : List Value).toArray below meth c0 H locs 0 0 (MQ below (va_Qi (fun (r : Int32) (u : StM) => IM u.1 u.2.1 ∧ u.2.2 = rc ∧ (∀ k, k ∉ ([] : List Nat) → u.1 k = v k) ∧ (∀ k, k ∉ ([30, 31] : List Nat) → u.2.1 k = F k) ∧ True) (BM dC dI g c) (AM g s.heap.size)) ([.ref (g 0), .int p0, .int p1] : List Value).toArray s 0 0 (AM g s.heap.size)) (F0 m 5 ls []) := by
    intro n
    induction n with
    | zero =>
      intro x5_lp26145 x3_lp26145 v_lp26145 F_lp26145 H locs ls t26146 hm hf_lp26145 hI hF hP hS hl
      exfalso
      have := i32_rng x5_lp26145
      have hI1 := hI.1
      omega
    | succ n ih_lp26145 =>
      intro x5_lp26145 x3_lp26145 v_lp26145 F_lp26145 H locs ls t26146 hm hf_lp26145 hI hF hP hS hl
      have rx5_lp26145 := i32_rng x5_lp26145
      refine lv_iload hx hb dX12_halfOf_5 (lv_at hl 0 rfl) ?_
      refine lv_aload_n hx hb dX12_halfOf_7 rfl (lv_at hl 2 rfl) ?_
      refine va_get (D := (dC, dI)) (ci := 12) (v := .int (v_lp26145 14)) (C := RX12) (T := TX12) (N := 63) hx hb hwd inA_X12 hown hK hP 0 rfl rfl 14 (by decide) (hwd _ wk_318) (fun _ h9 => h9) rfl dX12_halfOf_8 ?_
      refine my_top (v := v 14) (hf_lp26145 14 (by decide)) ?_
      have t26147 : 0 ≤ (v 14).toInt ∧ (v 14).toInt ≤ 100 := by have h9 := hI.1 14 _ _ rfl; rw [show v_lp26145 14 = v 14 from hf_lp26145 14 (by decide)] at h9; exact h9
      refine lv_icmp_ge (tgt := 99) hx hb dX12_halfOf_11 (by decide) (fun c26148 => ?_) (fun c26148 => ?_)
      · skip
        have t26149 := cv_le (a := (v 14).toInt) rfl (b := x5_lp26145.toInt) rfl c26148
        refine lv_lload_n hx hb dX12_halfOf_99 rfl (lv_at hl 1 rfl) ?_
        refine lv_ldc2 (v := 1999999999) hx hb hown (hwd _ wk_1379) dX12_halfOf_100 ?_
        refine W.lcmp hx hb dX12_halfOf_103 ?_
        refine lv_topi (fun z26150 e26151 => ?_)
        refine lv_if_le (tgt := 113) hx hb dX12_halfOf_104 (by decide) (fun c26152 => ?_) (fun c26152 => ?_)
        · skip
          have t26153 := cv_le (a := z26150.toInt) rfl (b := 0) (by decide) c26152
          refine lv_lload_n hx hb dX12_halfOf_113 rfl (lv_at hl 1 rfl) ?_
          refine lv_ldc2 (v := (-1999999999)) hx hb hown (hwd _ wk_1381) dX12_halfOf_114 ?_
          refine W.lcmp hx hb dX12_halfOf_117 ?_
          refine lv_topi (fun z26154 e26155 => ?_)
          refine lv_if_ge (tgt := 127) hx hb dX12_halfOf_118 (by decide) (fun c26156 => ?_) (fun c26156 => ?_)
          · skip
            have t26157 := cv_le (a := 0) (by decide) (b := z26154.toInt) rfl c26156
            refine lv_lload_n hx hb dX12_halfOf_127 rfl (lv_at hl 1 rfl) ?_
            refine lv_l2i hx hb dX12_halfOf_128 rfl ?_
            refine lv_topi (fun z26158 e26159 => ?_)
            have hP9 : va_P (dC, dI) classes (wM g c v_lp26145 F_lp26145 rc) H := hP
            exact W.iret (v := z26158) hx hb hr (fun t ht hW => ⟨⟨z26158, (v_lp26145, F_lp26145, rc), rfl, ⟨hI, rfl, (frC (by decide) hf_lp26145 (fun _ _ => rfl)), hF, trivial⟩, (by show va_P _ _ _ t.heap; rw [ht]; exact hP9)⟩, hS.F ht⟩) hS.2.2 dX12_halfOf_129
          · skip
            have t26160 := cv_nle (a := 0) (by decide) (b := z26154.toInt) rfl c26156
            refine lv_ldcw (v := (-1999999999)) hx hb hown (hwd _ wk_1382) dX12_halfOf_121 ?_
            refine lv_goto (tgt := 129) hx hb dX12_halfOf_124 (by decide) ?_
            have hP9 : va_P (dC, dI) classes (wM g c v_lp26145 F_lp26145 rc) H := hP
            exact W.iret (v := (-1999999999)) hx hb hr (fun t ht hW => ⟨⟨(-1999999999), (v_lp26145, F_lp26145, rc), rfl, ⟨hI, rfl, (frC (by decide) hf_lp26145 (fun _ _ => rfl)), hF, trivial⟩, (by show va_P _ _ _ t.heap; rw [ht]; exact hP9)⟩, hS.F ht⟩) hS.2.2 dX12_halfOf_129
        · skip
          have t26161 := cv_nle (a := z26150.toInt) rfl (b := 0) (by decide) c26152
          refine lv_ldcw (v := 1999999999) hx hb hown (hwd _ wk_1380) dX12_halfOf_107 ?_
          refine lv_goto (tgt := 129) hx hb dX12_halfOf_110 (by decide) ?_
          have hP9 : va_P (dC, dI) classes (wM g c v_lp26145 F_lp26145 rc) H := hP
          exact W.iret (v := 1999999999) hx hb hr (fun t ht hW => ⟨⟨1999999999, (v_lp26145, F_lp26145, rc), rfl, ⟨hI, rfl, (frC (by decide) hf_lp26145 (fun _ _ => rfl)), hF, trivial⟩, (by show va_P _ _ _ t.heap; rw [ht]; exact hP9)⟩, hS.F ht⟩) hS.2.2 dX12_halfOf_129
      · skip
        have t26162 := cv_nle (a := (v 14).toInt) rfl (b := x5_lp26145.toInt) rfl c26148
        refine lv_iconst (v := 0) hx hb dX12_halfOf_14 (by decide) ?_
        refine lv_istore (lv' := [(6, .int 0), (5, .int x5_lp26145), (3, .long x3_lp26145), (0, .ref (g 0)), (1, .int p0), (2, .int p1)]) hx hb dX12_halfOf_15 hl (by decide) rfl (fun ls hl => ?_)
        have lp26163 : ∀ (n : Nat) (x6_lp26163 : Int32) (x3_lp26163 : Int64) (v_lp26163 : Nat → Int32) (F_lp26163 : Nat → Nat → Int32) (H : Heap) (locs : List Loc) (ls : Array Slot), (0 ≤ x6_lp26163.toInt) → (2147483648 - x6_lp26163.toInt ≤ (n : Int)) → (∀ k, k ∉ ([] : List Nat) → v_lp26163 k = v_lp26145 k) → IM v_lp26163 F_lp26163 → (∀ k, k ∉ ([30, 31] : List Nat) → F_lp26163 k = F k) → va_P (dC, dI) classes (wM g c v_lp26163 F_lp26163 rc) H → va_S (AM g s.heap.size) s.heap H locs → lv_has ls 7 [(6, .int x6_lp26163), (5, .int x5_lp26145), (3, .long x3_lp26163), (0, .ref (g 0)), (1, .int p0), (2, .int p1)] → W p l e (headSpec (Cond.code yX12_halfOf cX12_halfOf 7 (some .int) :: wA) ({ frames := 5, cells := 0, slots := 0, locals := 200 })).room s m ([.ref (g 0), .int p0, .int p1] : List Value).toArray below meth c0 H locs 0 0 (MQ below (va_Qi (fun (r : Int32) (u : StM) => IM u.1 u.2.1 ∧ u.2.2 = rc ∧ (∀ k, k ∉ ([] : List Nat) → u.1 k = v k) ∧ (∀ k, k ∉ ([30, 31] : List Nat) → u.2.1 k = F k) ∧ True) (BM dC dI g c) (AM g s.heap.size)) ([.ref (g 0), .int p0, .int p1] : List Value).toArray s 0 0 (AM g s.heap.size)) (F0 m 17 ls []) := by
          intro n
          induction n with
          | zero =>
            intro x6_lp26163 x3_lp26163 v_lp26163 F_lp26163 H locs ls t26164 hm hf_lp26163 hI hF hP hS hl
            exfalso
            have := i32_rng x6_lp26163
            have hI1 := hI.1
            omega
          | succ n ih_lp26163 =>
            intro x6_lp26163 x3_lp26163 v_lp26163 F_lp26163 H locs ls t26164 hm hf_lp26163 hI hF hP hS hl
            have rx6_lp26163 := i32_rng x6_lp26163
            refine lv_iload hx hb dX12_halfOf_17 (lv_at hl 0 rfl) ?_
            refine lv_iconst (v := 3) hx hb dX12_halfOf_19 (by decide) ?_
            refine lv_icmp_ge (tgt := 93) hx hb dX12_halfOf_20 (by decide) (fun c26165 => ?_) (fun c26165 => ?_)
            · skip
              have t26166 := cv_le (a := 3) (by decide) (b := x6_lp26163.toInt) rfl c26165
              obtain ⟨z26167, e26168⟩ : ∃ y : Int32, y = x5_lp26145 + 1 := ⟨_, rfl⟩
              try (have t26169 := tadd e26168 rfl (b := 1) (by decide) (by omega))
              refine lv_iinc (v := z26167) (lv' := [(5, .int z26167), (6, .int x6_lp26163), (3, .long x3_lp26163), (0, .ref (g 0)), (1, .int p0), (2, .int p1)]) hx hb dX12_halfOf_93 hl (k := 1) rfl (by rw [e26168]; rfl) (by decide) rfl (fun ls hl => ?_)
              refine lv_goto (tgt := 5) hx hb dX12_halfOf_96 (by decide) ?_
              exact ih_lp26145 z26167 x3_lp26163 v_lp26163 F_lp26163 _ _ _ (by omega) (by omega) (frC (by decide) hf_lp26163 hf_lp26145) hI hF hP hS (lv_sub hl [0, 2, 3, 4, 5] rfl)
            · skip
              have t26170 := cv_nle (a := 3) (by decide) (b := x6_lp26163.toInt) rfl c26165
              refine lv_aload_n hx hb dX12_halfOf_23 rfl (lv_at hl 3 rfl) ?_
              refine va_get (D := (dC, dI)) (ci := 12) (v := .ref (g 13)) (C := RX12) (T := TX12) (N := 63) hx hb hwd inA_X12 hown hK hP 0 rfl rfl 17 (by decide) (hwd _ wk_194) (fun _ h9 => h9) rfl dX12_halfOf_24 ?_
              refine lv_iload hx hb dX12_halfOf_27 (lv_at hl 1 rfl) ?_
              refine va_iald hx hb hK hP 13 12 rfl rfl (i := x5_lp26145) (vin (a := x5_lp26145.toInt) rfl (by omega)) dX12_halfOf_29 ?_
              refine lv_topi (fun z26171 e26172 => ?_)
              have t26173 : 0 ≤ z26171.toInt ∧ z26171.toInt ≤ 12 := by rw [e26172]; exact hI.2 13 _ _ rfl _
              have e26172 : z26171 = F 13 (x5_lp26145 : Int32).toNatClampNeg := e26172.trans (congrFun (hF 13 (by decide)) _)
              refine lv_iload_n hx hb dX12_halfOf_30 rfl (lv_at hl 4 rfl) ?_
              refine lv_icmp_ne (tgt := 87) hx hb dX12_halfOf_31 (by decide) (fun c26174 => ?_) (fun c26174 => ?_)
              · skip
                have t26175 := cv_ne (a := z26171.toInt) rfl (b := p0.toInt) rfl c26174
                obtain ⟨z26176, e26177⟩ : ∃ y : Int32, y = x6_lp26163 + 1 := ⟨_, rfl⟩
                try (have t26178 := tadd e26177 rfl (b := 1) (by decide) (by omega))
                refine lv_iinc (v := z26176) (lv' := [(6, .int z26176), (5, .int x5_lp26145), (3, .long x3_lp26163), (0, .ref (g 0)), (1, .int p0), (2, .int p1)]) hx hb dX12_halfOf_87 hl (k := 0) rfl (by rw [e26177]; rfl) (by decide) rfl (fun ls hl => ?_)
                refine lv_goto (tgt := 17) hx hb dX12_halfOf_90 (by decide) ?_
                exact ih_lp26163 z26176 x3_lp26163 v_lp26163 F_lp26163 _ _ _ (by omega) (by omega) hf_lp26163 hI hF hP hS (lv_sub hl [0, 1, 2, 3, 4, 5] rfl)
              · skip
                have t26179 := cv_eq (a := z26171.toInt) rfl (b := p0.toInt) rfl c26174
                refine lv_aload_n hx hb dX12_halfOf_34 rfl (lv_at hl 3 rfl) ?_
                refine lv_iload hx hb dX12_halfOf_35 (lv_at hl 1 rfl) ?_
                refine lv_iload hx hb dX12_halfOf_37 (lv_at hl 0 rfl) ?_
                refine va_calli (va_runV (As := [.int x5_lp26145, .int x6_lp26163]) (rest := []) ⟨hx, hb, hml, hown, hwd⟩ (c_X12_limitOf l dC dI g c adK adV v_lp26163 F_lp26163 rc H.size x5_lp26145 x6_lp26163 hg hI (by omega) (by omega)) (cwV 2 hwd (gV wk_489 wk_486 wk_487 wk_488 wk_5) rfl rfl rfl (by decide +kernel) ⟨Nat.le_of_ble_eq_true rfl, Nat.le_of_ble_eq_true rfl⟩) ⟨PM.blind, va_recv hK hP (ci := 12) (q0 := 0) rfl rfl, fun U hU hW => ⟨rfl, PM.at hK hE hP hS hU hW⟩⟩ rfl rfl hl.1 rfl (lv_room (Nat.le_of_ble_eq_true rfl)) dX12_halfOf_39 ⟨Nat.le_of_ble_eq_true rfl, Nat.le_of_ble_eq_true rfl⟩) hS (fun q _ h => (freeM hS) q h) (freeM hS) (fun r26180 u t H1 locs ht hvm hw hB hz1 hk1 hS => ?_)
                unfold BM at hB
                rw [ht] at hB
                have hP : va_P (dC, dI) classes (wM g c v_lp26163 F_lp26163 rc) H1 := hB
                have hw : r26180.toInt = (F_lp26163 1 (limJ (F_lp26163 11) x5_lp26145 x6_lp26163)).toInt := hw
                rw [hF 1 (by decide)] at hw
                rw [hF 11 (by decide)] at hw
                have hw_r26180 := hw
                generalize H1 = H at hP hS ⊢
                refine lv_if_le (tgt := 87) hx hb dX12_halfOf_42 (by decide) (fun c26181 => ?_) (fun c26181 => ?_)
                · skip
                  have t26182 := cv_le (a := r26180.toInt) rfl (b := 0) (by decide) c26181
                  obtain ⟨z26183, e26184⟩ : ∃ y : Int32, y = x6_lp26163 + 1 := ⟨_, rfl⟩
                  try (have t26185 := tadd e26184 rfl (b := 1) (by decide) (by omega))
                  refine lv_iinc (v := z26183) (lv' := [(6, .int z26183), (5, .int x5_lp26145), (3, .long x3_lp26163), (0, .ref (g 0)), (1, .int p0), (2, .int p1)]) hx hb dX12_halfOf_87 hl (k := 0) rfl (by rw [e26184]; rfl) (by decide) rfl (fun ls hl => ?_)
                  refine lv_goto (tgt := 17) hx hb dX12_halfOf_90 (by decide) ?_
                  exact ih_lp26163 z26183 x3_lp26163 v_lp26163 F_lp26163 _ _ _ (by omega) (by omega) hf_lp26163 hI hF hP hS (lv_sub hl [0, 1, 2, 3, 4, 5] rfl)
                · skip
                  have t26186 := cv_nle (a := r26180.toInt) rfl (b := 0) (by decide) c26181
                  refine lv_lload_n hx hb dX12_halfOf_45 rfl (lv_at hl 2 rfl) ?_
                  refine lv_aload_n hx hb dX12_halfOf_46 rfl (lv_at hl 3 rfl) ?_
                  refine lv_iload hx hb dX12_halfOf_47 (lv_at hl 1 rfl) ?_
                  refine lv_iload hx hb dX12_halfOf_49 (lv_at hl 0 rfl) ?_
                  refine lv_iload_n hx hb dX12_halfOf_51 rfl (lv_at hl 5 rfl) ?_
                  refine va_calli (va_runV (As := [.int x5_lp26145, .int x6_lp26163, .int p1]) (rest := [.long x3_lp26163]) ⟨hx, hb, hml, hown, hwd⟩ (c_X12_leftOf l dC dI g c adK adV v_lp26163 F_lp26163 rc H.size x5_lp26145 x6_lp26163 p1 hg hI (by omega) (by omega) (JL.to hL (show v_lp26163 31 = v 31 from (hf_lp26163 31 (by decide)).trans (hf_lp26145 31 (by decide))) (hF 28 (by decide)) (hF 29 (by decide)) (hF 27 (by decide)))) (cwV 3 hwd (gV wk_493 wk_490 wk_491 wk_492 wk_5) rfl rfl rfl (by decide +kernel) ⟨Nat.le_of_ble_eq_true rfl, Nat.le_of_ble_eq_true rfl⟩) ⟨PM.blind, va_recv hK hP (ci := 12) (q0 := 0) rfl rfl, fun U hU hW => ⟨rfl, PM.at hK hE hP hS hU hW⟩⟩ rfl rfl hl.1 rfl (lv_room (Nat.le_of_ble_eq_true rfl)) dX12_halfOf_52 ⟨Nat.le_of_ble_eq_true rfl, Nat.le_of_ble_eq_true rfl⟩) hS (fun q _ h => (freeM hS) q h) (freeM hS) (fun r26187 u t H1 locs ht hvm hw hB hz1 hk1 hS => ?_)
                  unfold BM at hB
                  rw [ht] at hB
                  obtain ⟨v26188, F26189, rc9⟩ := u
                  obtain ⟨hI, hrc, hf26190, hG26191, hw⟩ := hw
                  dsimp only at hI hrc hB hf26190 hG26191 hw
                  have hF := frCF (by decide) hG26191 hF
                  rw [hrc] at hB
                  have hP : va_P (dC, dI) classes (wM g c v26188 F26189 rc) H1 := hB
                  generalize H1 = H at hP hS ⊢
                  have rr_r26187 := i32_rng r26187
                  refine lv_aload_n hx hb dX12_halfOf_55 rfl (lv_at hl 3 rfl) ?_
                  refine lv_iload hx hb dX12_halfOf_56 (lv_at hl 1 rfl) ?_
                  refine lv_iload hx hb dX12_halfOf_58 (lv_at hl 0 rfl) ?_
                  refine va_calli (va_runV (As := [.int x5_lp26145, .int x6_lp26163]) (rest := [.int r26187, .long x3_lp26163]) ⟨hx, hb, hml, hown, hwd⟩ (c_X12_limitOf l dC dI g c adK adV v26188 F26189 rc H.size x5_lp26145 x6_lp26163 hg hI (by omega) (by omega)) (cwV 2 hwd (gV wk_489 wk_486 wk_487 wk_488 wk_5) rfl rfl rfl (by decide +kernel) ⟨Nat.le_of_ble_eq_true rfl, Nat.le_of_ble_eq_true rfl⟩) ⟨PM.blind, va_recv hK hP (ci := 12) (q0 := 0) rfl rfl, fun U hU hW => ⟨rfl, PM.at hK hE hP hS hU hW⟩⟩ rfl rfl hl.1 rfl (lv_room (Nat.le_of_ble_eq_true rfl)) dX12_halfOf_60 ⟨Nat.le_of_ble_eq_true rfl, Nat.le_of_ble_eq_true rfl⟩) hS (fun q _ h => (freeM hS) q h) (freeM hS) (fun r26192 u t H1 locs ht hvm hw hB hz1 hk1 hS => ?_)
                  unfold BM at hB
                  rw [ht] at hB
                  have hP : va_P (dC, dI) classes (wM g c v26188 F26189 rc) H1 := hB
                  have hw : r26192.toInt = (F26189 1 (limJ (F26189 11) x5_lp26145 x6_lp26163)).toInt := hw
                  rw [hF 1 (by decide)] at hw
                  rw [hF 11 (by decide)] at hw
                  have hw_r26192 := hw
                  generalize H1 = H at hP hS ⊢
                  refine lv_iconst (v := 2) hx hb dX12_halfOf_63 (by decide) ?_
                  refine lv_idiv hx hb dX12_halfOf_64 (by decide) ?_
                  refine lv_topi (fun z26193 e26194 => ?_)
                  refine lv_isub hx hb dX12_halfOf_65 ?_
                  refine lv_topi (fun z26196 e26197 => ?_)
                  try (have t26198 := tsub e26197 (a := r26187.toInt) rfl (b := z26193.toInt) rfl (by omega))
                  refine lv_i2l hx hb dX12_halfOf_66 rfl ?_
                  refine lv_topl (fun z26199 e26200 => ?_)
                  refine lv_aload_n hx hb dX12_halfOf_67 rfl (lv_at hl 3 rfl) ?_
                  refine va_get (D := (dC, dI)) (ci := 12) (v := .ref (g 2)) (C := RX12) (T := TX12) (N := 63) hx hb hwd inA_X12 hown hK hP 0 rfl rfl 4 (by decide) (hwd _ wk_183) (fun _ h9 => h9) rfl dX12_halfOf_68 ?_
                  refine lv_aload_n hx hb dX12_halfOf_71 rfl (lv_at hl 3 rfl) ?_
                  refine va_get (D := (dC, dI)) (ci := 12) (v := .ref (g 11)) (C := RX12) (T := TX12) (N := 63) hx hb hwd inA_X12 hown hK hP 0 rfl rfl 15 (by decide) (hwd _ wk_192) (fun _ h9 => h9) rfl dX12_halfOf_72 ?_
                  refine lv_iload hx hb dX12_halfOf_75 (lv_at hl 1 rfl) ?_
                  refine va_iald hx hb hK hP 11 10 rfl rfl (i := x5_lp26145) (vin (a := x5_lp26145.toInt) rfl (by omega)) dX12_halfOf_77 ?_
                  refine lv_topi (fun z26201 e26202 => ?_)
                  have t26203 : 0 ≤ z26201.toInt ∧ z26201.toInt ≤ 9 := by rw [e26202]; exact hI.2 11 _ _ rfl _
                  have e26202 : z26201 = F 11 (x5_lp26145 : Int32).toNatClampNeg := e26202.trans (congrFun (hF 11 (by decide)) _)
                  refine va_iald hx hb hK hP 2 1 rfl rfl (i := z26201) (vin (a := z26201.toInt) rfl (by omega)) dX12_halfOf_78 ?_
                  refine lv_topi (fun z26204 e26205 => ?_)
                  have e26205 : z26204 = F 2 (z26201 : Int32).toNatClampNeg := e26205.trans (congrFun (hF 2 (by decide)) _)
                  refine lv_i2l hx hb dX12_halfOf_79 rfl ?_
                  refine lv_topl (fun z26206 e26207 => ?_)
                  refine lv_lmul hx hb dX12_halfOf_80 ?_
                  refine lv_topl (fun z26208 e26209 => ?_)
                  refine lv_ldc2 (v := 100) hx hb hown (hwd _ wk_495) dX12_halfOf_81 ?_
                  refine lv_ldiv hx hb dX12_halfOf_84 (by decide) ?_
                  refine lv_topl (fun z26210 e26211 => ?_)
                  refine lv_ladd hx hb dX12_halfOf_85 ?_
                  refine lv_topl (fun z26212 e26213 => ?_)
                  refine lv_lstore_n (lv' := [(3, .long z26212), (6, .int x6_lp26163), (5, .int x5_lp26145), (0, .ref (g 0)), (1, .int p0), (2, .int p1)]) hx hb dX12_halfOf_86 rfl hl (by decide) rfl (fun ls hl => ?_)
                  obtain ⟨z26214, e26215⟩ : ∃ y : Int32, y = x6_lp26163 + 1 := ⟨_, rfl⟩
                  try (have t26216 := tadd e26215 rfl (b := 1) (by decide) (by omega))
                  refine lv_iinc (v := z26214) (lv' := [(6, .int z26214), (3, .long z26212), (5, .int x5_lp26145), (0, .ref (g 0)), (1, .int p0), (2, .int p1)]) hx hb dX12_halfOf_87 hl (k := 1) rfl (by rw [e26215]; rfl) (by decide) rfl (fun ls hl => ?_)
                  refine lv_goto (tgt := 17) hx hb dX12_halfOf_90 (by decide) ?_
                  exact ih_lp26163 z26214 z26212 v26188 F26189 _ _ _ (by omega) (by omega) (frC (by decide) hf26190 hf_lp26163) hI hF hP hS (lv_sub hl [0, 2, 1, 3, 4, 5] rfl)
        obtain ⟨n9, hn9⟩ : ∃ n : Nat, 2147483648 - 0 ≤ (n : Int) := ⟨((2147483648 - 0 : Int)).toNat, by omega⟩
        exact lp26163 n9 0 x3_lp26145 v_lp26145 F_lp26145 H _ ls (by have : (0 : Int32).toInt = 0 := (by decide); omega) (by have : (0 : Int32).toInt = 0 := (by decide); omega) (fun _ _ => rfl) hI hF hP hS hl
  obtain ⟨n9, hn9⟩ : ∃ n : Nat, 2147483648 - 0 ≤ (n : Int) := ⟨((2147483648 - 0 : Int)).toNat, by omega⟩
  exact lp26145 n9 0 0 v F H _ ls (by have : (0 : Int32).toInt = 0 := (by decide); omega) (by have : (0 : Int32).toInt = 0 := (by decide); omega) (fun _ _ => rfl) hI hF hP hS hl
set_option maxHeartbeats 8000000 in
set_option maxRecDepth 100000 in
theorem c_X12_half (l : Launch) (dC : Nat → ClassId) (dI : Nat → Nat → Nat) (g : Nat → Nat) (c : Nat → ClassId) (adK adV : Nat → Nat) (v : Nat → Int32) (F : Nat → Nat → Int32) (rc sz : Nat) (p0 : Int32) (p1 : Int32) (hg : injM g) (hI : IM v F) (hL : JL (v 31) (F 28) (F 29) (F 27)) : Met l yX12_half (Cond.code yX12_half cX12_half 3 (some .int) :: wA) ({ frames := 6, cells := 0, slots := 0, locals := 240 }) (va_Pc [.ref (g 0), .int p0, .int p1] (PM dC dI g c adK adV v F rc sz)) (va_Qi (fun (r : Int32) (u : StM) => IM u.1 u.2.1 ∧ u.2.2 = rc ∧ (∀ k, k ∉ ([] : List Nat) → u.1 k = v k) ∧ (∀ k, k ∉ ([30, 31] : List Nat) → u.2.1 k = F k) ∧ True) (BM dC dI g c) (AM g sz)) 0 0 (AM g sz) := by
  refine Met.ofW (cc := cX12_half) (maxL := 3) (ret := (some .int)) (by decide) rfl ?_
  intro p e s m args below meth c0 s₁ B hml hv
  obtain ⟨rfl, hsz, hP, hK, hE⟩ := hv
  have hx := B.exec
  have hb := B.bytes
  have hr := B.returns
  have hts := atoms_spec (ws := Cond.code yX12_half cX12_half 3 (some .int) :: wA) B.pre
  have hwd : ∀ w ∈ wA, w.before _ s = true := fun w h => hts w (List.mem_cons_of_mem _ h)
  have hown : s.vm.findClass RX12 = some m.cls := findClass_of_methodNamed B.named
  have hlocks := B.notSynchronized
  subst hsz
  have hl := lv_entry ([.ref (g 0), .int p0, .int p1]) (n := 3) (Nat.le_of_ble_eq_true rfl)
  rw [lg_entry_eq]
  generalize (lg_sl ([.ref (g 0), .int p0, .int p1]) ++ List.replicate (3 - (lg_sl ([.ref (g 0), .int p0, .int p1])).length) Slot.unset).toArray = ls at hl ⊢
  have hl : lv_has ls 3 [(0, .ref (g 0)), (1, .int p0), (2, .int p1)] := hl
  obtain ⟨H, eH⟩ : ∃ z, z = s.heap := ⟨_, rfl⟩
  have hP : va_P (dC, dI) classes (wM g c v F rc) H := by rw [eH]; exact hP
  have hS : va_S (AM g s.heap.size) s.heap H [] := by rw [eH]; exact va_S.rf
  refine my_heap eH ?_
  have hF : ∀ k, k ∉ ([30, 31] : List Nat) → F k = F k := fun _ _ => rfl
  have rp0 := i32_rng p0
  have rp1 := i32_rng p1
  have hb31 : 0 ≤ (v 31).toInt ∧ (v 31).toInt ≤ 10 := hI.1 31 _ _ rfl
  refine lv_aload_n hx hb dX12_half_0 rfl (lv_at hl 0 rfl) ?_
  refine lv_iload_n hx hb dX12_half_1 rfl (lv_at hl 1 rfl) ?_
  have t26231 : 0 ≤ (v 6).toInt ∧ (v 6).toInt ≤ 10 := hI.1 6 _ _ rfl
  refine va_calli (va_runV (As := [.int p0]) (rest := []) ⟨hx, hb, hml, hown, hwd⟩ (c_X12_isPlane l dC dI g c adK adV v F rc H.size p0 hg hI ) (cwV 1 hwd (gV wk_305 wk_302 wk_303 wk_304 wk_5) rfl rfl rfl (by decide +kernel) ⟨Nat.le_of_ble_eq_true rfl, Nat.le_of_ble_eq_true rfl⟩) ⟨PM.blind, va_recv hK hP (ci := 12) (q0 := 0) rfl rfl, fun U hU hW => ⟨rfl, PM.at hK hE hP hS hU hW⟩⟩ rfl rfl hl.1 rfl (lv_room (Nat.le_of_ble_eq_true rfl)) dX12_half_2 ⟨Nat.le_of_ble_eq_true rfl, Nat.le_of_ble_eq_true rfl⟩) hS (fun q _ h => (freeM hS) q h) (freeM hS) (fun r26232 u t H1 locs ht hvm hw hB hz1 hk1 hS => ?_)
  unfold BM at hB
  rw [ht] at hB
  have hP : va_P (dC, dI) classes (wM g c v F rc) H1 := hB
  have hw : (r26232.toInt = 1 ∧ 0 ≤ p0.toInt ∧ p0.toInt < (v 6).toInt) ∨ (r26232.toInt = 0 ∧ (p0.toInt < 0 ∨ (v 6).toInt ≤ p0.toInt)) := hw
  have hw_r26232 := hw
  generalize H1 = H at hP hS ⊢
  refine lv_if_eq (tgt := 24) hx hb dX12_half_5 (by decide) (fun c26233 => ?_) (fun c26233 => ?_)
  · skip
    have t26234 := cv_eq (a := r26232.toInt) rfl (b := 0) (by decide) c26233
    refine lv_ldc (v := (-2000000000)) hx hb hown (hwd _ wk_542) dX12_half_24 ?_
    have hP9 : va_P (dC, dI) classes (wM g c v F rc) H := hP
    exact W.iret (v := (-2000000000)) hx hb hr (fun t ht hW => ⟨⟨(-2000000000), (v, F, rc), rfl, ⟨hI, rfl, (fun _ _ => rfl), hF, trivial⟩, (by show va_P _ _ _ t.heap; rw [ht]; exact hP9)⟩, hS.F ht⟩) hS.2.2 dX12_half_26
  · skip
    have t26235 := cv_ne (a := r26232.toInt) rfl (b := 0) (by decide) c26233
    refine lv_iload_n hx hb dX12_half_8 rfl (lv_at hl 2 rfl) ?_
    refine va_calli (va_runS (As := [.int p1]) (rest := []) ⟨hx, hb, hml, hown, hwd⟩ (c_X12_isDay l dC dI g c adK adV v F rc H.size p1 hg hI ) (va_cwS 1 hwd (gT wk_556 wk_554 wk_555 wk_5) rfl rfl rfl (by decide +kernel) ⟨Nat.le_of_ble_eq_true rfl, Nat.le_of_ble_eq_true rfl⟩) ⟨PM.blind, fun U hU hW => ⟨rfl, PM.at hK hE hP hS hU hW⟩⟩ rfl rfl hl.1 rfl (lv_room (Nat.le_of_ble_eq_true rfl)) dX12_half_9 ⟨Nat.le_of_ble_eq_true rfl, Nat.le_of_ble_eq_true rfl⟩) hS (fun q _ h => (freeM hS) q h) (freeM hS) (fun r26236 u t H1 locs ht hvm hw hB hz1 hk1 hS => ?_)
    unfold BM at hB
    rw [ht] at hB
    have hP : va_P (dC, dI) classes (wM g c v F rc) H1 := hB
    have hw : (r26236.toInt = 1 ∧ 0 ≤ p1.toInt ∧ p1.toInt ≤ 9999) ∨ (r26236.toInt = 0 ∧ (p1.toInt < 0 ∨ 9999 < p1.toInt)) := hw
    have hw_r26236 := hw
    generalize H1 = H at hP hS ⊢
    refine lv_if_eq (tgt := 24) hx hb dX12_half_12 (by decide) (fun c26237 => ?_) (fun c26237 => ?_)
    · skip
      have t26238 := cv_eq (a := r26236.toInt) rfl (b := 0) (by decide) c26237
      refine lv_ldc (v := (-2000000000)) hx hb hown (hwd _ wk_542) dX12_half_24 ?_
      have hP9 : va_P (dC, dI) classes (wM g c v F rc) H := hP
      exact W.iret (v := (-2000000000)) hx hb hr (fun t ht hW => ⟨⟨(-2000000000), (v, F, rc), rfl, ⟨hI, rfl, (fun _ _ => rfl), hF, trivial⟩, (by show va_P _ _ _ t.heap; rw [ht]; exact hP9)⟩, hS.F ht⟩) hS.2.2 dX12_half_26
    · skip
      have t26239 := cv_ne (a := r26236.toInt) rfl (b := 0) (by decide) c26237
      refine lv_aload_n hx hb dX12_half_15 rfl (lv_at hl 0 rfl) ?_
      refine lv_iload_n hx hb dX12_half_16 rfl (lv_at hl 1 rfl) ?_
      refine lv_iload_n hx hb dX12_half_17 rfl (lv_at hl 2 rfl) ?_
      refine va_calli (va_runV (As := [.int p0, .int p1]) (rest := []) ⟨hx, hb, hml, hown, hwd⟩ (c_X12_halfOf l dC dI g c adK adV v F rc H.size p0 p1 hg hI (JL.to hL (show v 31 = v 31 from rfl) rfl rfl rfl)) (cwV 2 hwd (gV wk_1378 wk_1375 wk_1376 wk_1377 wk_5) rfl rfl rfl (by decide +kernel) ⟨Nat.le_of_ble_eq_true rfl, Nat.le_of_ble_eq_true rfl⟩) ⟨PM.blind, va_recv hK hP (ci := 12) (q0 := 0) rfl rfl, fun U hU hW => ⟨rfl, PM.at hK hE hP hS hU hW⟩⟩ rfl rfl hl.1 rfl (lv_room (Nat.le_of_ble_eq_true rfl)) dX12_half_18 ⟨Nat.le_of_ble_eq_true rfl, Nat.le_of_ble_eq_true rfl⟩) hS (fun q _ h => (freeM hS) q h) (freeM hS) (fun r26240 u t H1 locs ht hvm hw hB hz1 hk1 hS => ?_)
      unfold BM at hB
      rw [ht] at hB
      obtain ⟨v26241, F26242, rc9⟩ := u
      obtain ⟨hI, hrc, hf26243, hG26244, hw⟩ := hw
      dsimp only at hI hrc hB hf26243 hG26244 hw
      have hF := frCF (by decide) hG26244 hF
      rw [hrc] at hB
      have hP : va_P (dC, dI) classes (wM g c v26241 F26242 rc) H1 := hB
      generalize H1 = H at hP hS ⊢
      have rr_r26240 := i32_rng r26240
      refine lv_goto (tgt := 26) hx hb dX12_half_21 (by decide) ?_
      have hP9 : va_P (dC, dI) classes (wM g c v26241 F26242 rc) H := hP
      exact W.iret (v := r26240) hx hb hr (fun t ht hW => ⟨⟨r26240, (v26241, F26242, rc), rfl, ⟨hI, rfl, (frC (by decide) hf26243 (fun _ _ => rfl)), hF, trivial⟩, (by show va_P _ _ _ t.heap; rw [ht]; exact hP9)⟩, hS.F ht⟩) hS.2.2 dX12_half_26
