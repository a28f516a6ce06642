def limJ (K : Nat → Int32) (i m : Int32) : Nat := (3 * K i.toNatClampNeg + m).toNatClampNeg
set_option maxHeartbeats 8000000 in
set_option maxRecDepth 100000 in
theorem c_X12_lostBy (l : Launch) (dC : Nat → ClassId) (dI : Nat → Nat → Nat) (g : Nat → Nat) (c : Nat → ClassId) (adK adV : Nat → Nat) (v : Nat → Int32) (F : Nat → Nat → Int32) (rc sz : Nat) (p0 : Int32) (p1 : Int32) (hg : injM g) (hI : IM v F) (h0 : 0 ≤ p0.toInt ∧ p0.toInt ≤ 499) (hL : JL (v 31) (F 28) (F 29) (F 27)) : Met l yX12_lostBy (Cond.code yX12_lostBy cX12_lostBy 6 (some .int) :: wA) ({ frames := 3, cells := 0, slots := 0, locals := 120 }) (va_Pc [.ref (g 0), .int p0, .int p1] (PM dC dI g c adK adV v F rc sz)) (va_Qi (fun (r : Int32) (u : StM) => IM u.1 u.2.1 ∧ u.2.2 = rc ∧ (∀ k, k ∉ ([] : List Nat) → u.1 k = v k) ∧ (∀ k, k ∉ ([30, 31] : List Nat) → u.2.1 k = F k) ∧ 0 ≤ r.toInt ∧ r.toInt ≤ 100) (BM dC dI g c) (AM g sz)) 0 0 (AM g sz) := by
  refine Met.ofW (cc := cX12_lostBy) (maxL := 6) (ret := (some .int)) (by decide) rfl ?_
  intro p e s m args below meth c0 s₁ B hml hv
  obtain ⟨rfl, hsz, hP, hK, hE⟩ := hv
  have hx := B.exec
  have hb := B.bytes
  have hr := B.returns
  have hts := atoms_spec (ws := Cond.code yX12_lostBy cX12_lostBy 6 (some .int) :: wA) B.pre
  have hwd : ∀ w ∈ wA, w.before _ s = true := fun w h => hts w (List.mem_cons_of_mem _ h)
  have hown : s.vm.findClass RX12 = some m.cls := findClass_of_methodNamed B.named
  have hlocks := B.notSynchronized
  subst hsz
  have hl := lv_entry ([.ref (g 0), .int p0, .int p1]) (n := 6) (Nat.le_of_ble_eq_true rfl)
  rw [lg_entry_eq]
  generalize (lg_sl ([.ref (g 0), .int p0, .int p1]) ++ List.replicate (6 - (lg_sl ([.ref (g 0), .int p0, .int p1])).length) Slot.unset).toArray = ls at hl ⊢
  have hl : lv_has ls 6 [(0, .ref (g 0)), (1, .int p0), (2, .int p1)] := hl
  obtain ⟨H, eH⟩ : ∃ z, z = s.heap := ⟨_, rfl⟩
  have hP : va_P (dC, dI) classes (wM g c v F rc) H := by rw [eH]; exact hP
  have hS : va_S (AM g s.heap.size) s.heap H [] := by rw [eH]; exact va_S.rf
  refine my_heap eH ?_
  have hF : ∀ k, k ∉ ([30, 31] : List Nat) → F k = F k := fun _ _ => rfl
  have rp0 := i32_rng p0
  have rp1 := i32_rng p1
  have hb31 : 0 ≤ (v 31).toInt ∧ (v 31).toInt ≤ 10 := hI.1 31 _ _ rfl
  refine lv_aload_n hx hb dX12_lostBy_0 rfl (lv_at hl 0 rfl) ?_
  refine va_get (D := (dC, dI)) (ci := 12) (v := .int (v 31)) (C := RX12) (T := TX12) (N := 63) hx hb hwd inA_X12 hown hK hP 0 rfl rfl 31 (by decide) (hwd _ wk_505) (fun _ h9 => h9) rfl dX12_lostBy_1 ?_
  have t10683 : 0 ≤ (v 31).toInt ∧ (v 31).toInt ≤ 10 := hI.1 31 _ _ rfl
  refine lv_iconst (v := 1) hx hb dX12_lostBy_4 (by decide) ?_
  refine lv_isub hx hb dX12_lostBy_5 ?_
  refine lv_topi (fun z10684 e10685 => ?_)
  try (have t10686 := tsub e10685 (a := (v 31).toInt) rfl (b := 1) (by decide) (by omega))
  refine lv_istore_n (lv' := [(3, .int z10684), (0, .ref (g 0)), (1, .int p0), (2, .int p1)]) hx hb dX12_lostBy_6 rfl hl (by decide) rfl (fun ls hl => ?_)
  have lp10687 : ∀ (n : Nat) (x3_lp10687 : Int32) (v_lp10687 : Nat → Int32) (F_lp10687 : Nat → Nat → Int32) (H : Heap) (locs : List Loc) (ls : Array Slot), (-1 ≤ x3_lp10687.toInt) → (x3_lp10687.toInt ≤ (v 31).toInt - 1) → (x3_lp10687.toInt + 2 ≤ (n : Int)) → (∀ k, k ∉ ([] : List Nat) → v_lp10687 k = v k) → IM v_lp10687 F_lp10687 → (∀ k, k ∉ ([30, 31] : List Nat) → F_lp10687 k = F k) → va_P (dC, dI) classes (wM g c v_lp10687 F_lp10687 rc) H → va_S (AM g s.heap.size) s.heap H locs → lv_has ls 6 [(3, .int x3_lp10687), (0, .ref (g 0)), (1, .int p0), (2, .int p1)] → W p l e (headSpec (Cond.code yX12_lostBy cX12_lostBy 6 (some .int) :: wA) ({ frames := 3, cells := 0, slots := 0, locals := 120 })).room s m ([.ref (g 0), .int p0, .int p1] : List Value).toArray below meth c0 H locs 0 0 (MQ below (va_Qi (fun (r : Int32) (u : StM) => IM u.1 u.2.1 ∧ u.2.2 = rc ∧ (∀ k, k ∉ ([] : List Nat) → u.1 k = v k) ∧ (∀ k, k ∉ ([30, 31] : List Nat) → u.2.1 k = F k) ∧ 0 ≤ r.toInt ∧ r.toInt ≤ 100) (BM dC dI g c) (AM g s.heap.size)) ([.ref (g 0), .int p0, .int p1] : List Value).toArray s 0 0 (AM g s.heap.size)) (F0 m 7 ls []) := by
    intro n
    induction n with
    | zero =>
      intro x3_lp10687 v_lp10687 F_lp10687 H locs ls t10688 t10689 hm hf_lp10687 hI hF hP hS hl
      exfalso
      have := i32_rng x3_lp10687
      have hI1 := hI.1
      omega
    | succ n ih_lp10687 =>
      intro x3_lp10687 v_lp10687 F_lp10687 H locs ls t10688 t10689 hm hf_lp10687 hI hF hP hS hl
      have rx3_lp10687 := i32_rng x3_lp10687
      refine lv_iload_n hx hb dX12_lostBy_7 rfl (lv_at hl 0 rfl) ?_
      refine lv_if_lt (tgt := 42) hx hb dX12_lostBy_8 (by decide) (fun c10690 => ?_) (fun c10690 => ?_)
      · skip
        have t10691 := cv_lt (a := x3_lp10687.toInt) rfl (b := 0) (by decide) c10690
        refine lv_iload_n hx hb dX12_lostBy_42 rfl (lv_at hl 0 rfl) ?_
        refine lv_if_ge (tgt := 48) hx hb dX12_lostBy_43 (by decide) (fun c10692 => ?_) (fun c10692 => ?_)
        · skip
          have t10693 := cv_le (a := 0) (by decide) (b := x3_lp10687.toInt) rfl c10692
          refine lv_iconst (v := 0) hx hb dX12_lostBy_48 (by decide) ?_
          refine lv_istore (lv' := [(4, .int 0), (3, .int x3_lp10687), (0, .ref (g 0)), (1, .int p0), (2, .int p1)]) hx hb dX12_lostBy_49 hl (by decide) rfl (fun ls hl => ?_)
          refine lv_iconst (v := 0) hx hb dX12_lostBy_51 (by decide) ?_
          refine lv_istore (lv' := [(5, .int 0), (4, .int 0), (3, .int x3_lp10687), (0, .ref (g 0)), (1, .int p0), (2, .int p1)]) hx hb dX12_lostBy_52 hl (by decide) rfl (fun ls hl => ?_)
          have lp10694 : ∀ (n : Nat) (x5_lp10694 : Int32) (x4_lp10694 : Int32) (v_lp10694 : Nat → Int32) (F_lp10694 : Nat → Nat → Int32) (H : Heap) (locs : List Loc) (ls : Array Slot), (0 ≤ x5_lp10694.toInt) → (2147483648 - x5_lp10694.toInt ≤ (n : Int)) → (∀ k, k ∉ ([] : List Nat) → v_lp10694 k = v_lp10687 k) → IM v_lp10694 F_lp10694 → (∀ k, k ∉ ([30, 31] : List Nat) → F_lp10694 k = F k) → va_P (dC, dI) classes (wM g c v_lp10694 F_lp10694 rc) H → va_S (AM g s.heap.size) s.heap H locs → lv_has ls 6 [(5, .int x5_lp10694), (4, .int x4_lp10694), (3, .int x3_lp10687), (0, .ref (g 0)), (1, .int p0), (2, .int p1)] → W p l e (headSpec (Cond.code yX12_lostBy cX12_lostBy 6 (some .int) :: wA) ({ frames := 3, cells := 0, slots := 0, locals := 120 })).room s m ([.ref (g 0), .int p0, .int p1] : List Value).toArray below meth c0 H locs 0 0 (MQ below (va_Qi (fun (r : Int32) (u : StM) => IM u.1 u.2.1 ∧ u.2.2 = rc ∧ (∀ k, k ∉ ([] : List Nat) → u.1 k = v k) ∧ (∀ k, k ∉ ([30, 31] : List Nat) → u.2.1 k = F k) ∧ 0 ≤ r.toInt ∧ r.toInt ≤ 100) (BM dC dI g c) (AM g s.heap.size)) ([.ref (g 0), .int p0, .int p1] : List Value).toArray s 0 0 (AM g s.heap.size)) (F0 m 54 ls []) := by
            intro n
            induction n with
            | zero =>
              intro x5_lp10694 x4_lp10694 v_lp10694 F_lp10694 H locs ls t10695 hm hf_lp10694 hI hF hP hS hl
              exfalso
              have := i32_rng x5_lp10694
              have := i32_rng x4_lp10694
              have hI1 := hI.1
              omega
            | succ n ih_lp10694 =>
              intro x5_lp10694 x4_lp10694 v_lp10694 F_lp10694 H locs ls t10695 hm hf_lp10694 hI hF hP hS hl
              have rx5_lp10694 := i32_rng x5_lp10694
              have rx4_lp10694 := i32_rng x4_lp10694
              refine lv_iload hx hb dX12_lostBy_54 (lv_at hl 0 rfl) ?_
              refine lv_aload_n hx hb dX12_lostBy_56 rfl (lv_at hl 3 rfl) ?_
              refine va_get (D := (dC, dI)) (ci := 12) (v := .int (v_lp10694 19)) (C := RX12) (T := TX12) (N := 63) hx hb hwd inA_X12 hown hK hP 0 rfl rfl 19 (by decide) (hwd _ wk_494) (fun _ h9 => h9) rfl dX12_lostBy_57 ?_
              refine my_top (v := v 19) ((hf_lp10694 19 (by decide)).trans (hf_lp10687 19 (by decide))) ?_
              have t10696 : 0 ≤ (v 19).toInt ∧ (v 19).toInt ≤ 500 := by have h9 := hI.1 19 _ _ rfl; rw [show v_lp10694 19 = v 19 from (hf_lp10694 19 (by decide)).trans (hf_lp10687 19 (by decide))] at h9; exact h9
              refine lv_icmp_ge (tgt := 152) hx hb dX12_lostBy_60 (by decide) (fun c10697 => ?_) (fun c10697 => ?_)
              · skip
                have t10698 := cv_le (a := (v 19).toInt) rfl (b := x5_lp10694.toInt) rfl c10697
                refine lv_aload_n hx hb dX12_lostBy_152 rfl (lv_at hl 3 rfl) ?_
                refine va_get (D := (dC, dI)) (ci := 12) (v := .ref (g 31)) (C := RX12) (T := TX12) (N := 63) hx hb hwd inA_X12 hown hK hP 0 rfl rfl 44 (by decide) (hwd _ wk_213) (fun _ h9 => h9) rfl dX12_lostBy_153 ?_
                refine lv_iconst (v := 0) hx hb dX12_lostBy_156 (by decide) ?_
                refine lv_aload_n hx hb dX12_lostBy_157 rfl (lv_at hl 3 rfl) ?_
                refine va_get (D := (dC, dI)) (ci := 12) (v := .ref (g 18)) (C := RX12) (T := TX12) (N := 63) hx hb hwd inA_X12 hown hK hP 0 rfl rfl 23 (by decide) (hwd _ wk_199) (fun _ h9 => h9) rfl dX12_lostBy_158 ?_
                refine lv_iload_n hx hb dX12_lostBy_161 rfl (lv_at hl 4 rfl) ?_
                refine va_iald hx hb hK hP 18 17 rfl rfl (i := p0) (vin (a := p0.toInt) rfl (by omega)) dX12_lostBy_162 ?_
                refine lv_topi (fun z10699 e10700 => ?_)
                have e10700 : z10699 = F 18 (p0 : Int32).toNatClampNeg := e10700.trans (congrFun (hF 18 (by decide)) _)
                refine lv_aload_n hx hb dX12_lostBy_163 rfl (lv_at hl 3 rfl) ?_
                refine va_get (D := (dC, dI)) (ci := 12) (v := .ref (g 17)) (C := RX12) (T := TX12) (N := 63) hx hb hwd inA_X12 hown hK hP 0 rfl rfl 22 (by decide) (hwd _ wk_198) (fun _ h9 => h9) rfl dX12_lostBy_164 ?_
                refine lv_iload_n hx hb dX12_lostBy_167 rfl (lv_at hl 4 rfl) ?_
                refine va_iald hx hb hK hP 17 16 rfl rfl (i := p0) (vin (a := p0.toInt) rfl (by omega)) dX12_lostBy_168 ?_
                refine lv_topi (fun z10701 e10702 => ?_)
                have e10702 : z10701 = F 17 (p0 : Int32).toNatClampNeg := e10702.trans (congrFun (hF 17 (by decide)) _)
                refine lv_isub hx hb dX12_lostBy_169 ?_
                refine lv_topi (fun z10703 e10704 => ?_)
                try (have t10705 := tsub e10704 (a := z10699.toInt) rfl (b := z10701.toInt) rfl (by omega))
                refine va_iast hx hb hK hP (DM hg) hS 31 30 rfl rfl (i := 0) (x := z10703) (vin (a := 0) (by decide) (by omega)) dX12_lostBy_170 (fun H locs hP _ hS => ?_)
                have hP := va_P_eq (sM_31 g c _ _ _ _) hP
                have hI := IM.store0 hI 31 (0 : Int32).toNatClampNeg z10703 rfl
                have hF := frUF (k := 31) (f := upd (F_lp10694 31) (0 : Int32).toNatClampNeg z10703) (by decide) hF
                have hP : va_P (dC, dI) classes (wM g c v_lp10694 (va_up F_lp10694 31 (upd (F_lp10694 31) (0 : Int32).toNatClampNeg z10703)) rc) H := hP
                generalize (va_up F_lp10694 31 (upd (F_lp10694 31) (0 : Int32).toNatClampNeg z10703)) = F10706 at hP hI hF
                refine lv_aload_n hx hb dX12_lostBy_171 rfl (lv_at hl 3 rfl) ?_
                refine va_get (D := (dC, dI)) (ci := 12) (v := .ref (g 31)) (C := RX12) (T := TX12) (N := 63) hx hb hwd inA_X12 hown hK hP 0 rfl rfl 44 (by decide) (hwd _ wk_213) (fun _ h9 => h9) rfl dX12_lostBy_172 ?_
                refine lv_iconst (v := 1) hx hb dX12_lostBy_175 (by decide) ?_
                refine lv_aload_n hx hb dX12_lostBy_176 rfl (lv_at hl 3 rfl) ?_
                refine va_get (D := (dC, dI)) (ci := 12) (v := .ref (g 20)) (C := RX12) (T := TX12) (N := 63) hx hb hwd inA_X12 hown hK hP 0 rfl rfl 25 (by decide) (hwd _ wk_201) (fun _ h9 => h9) rfl dX12_lostBy_177 ?_
                refine lv_iload_n hx hb dX12_lostBy_180 rfl (lv_at hl 4 rfl) ?_
                refine va_iald hx hb hK hP 20 19 rfl rfl (i := p0) (vin (a := p0.toInt) rfl (by omega)) dX12_lostBy_181 ?_
                refine lv_topi (fun z10707 e10708 => ?_)
                have e10708 : z10707 = F 20 (p0 : Int32).toNatClampNeg := e10708.trans (congrFun (hF 20 (by decide)) _)
                refine lv_aload_n hx hb dX12_lostBy_182 rfl (lv_at hl 3 rfl) ?_
                refine va_get (D := (dC, dI)) (ci := 12) (v := .ref (g 19)) (C := RX12) (T := TX12) (N := 63) hx hb hwd inA_X12 hown hK hP 0 rfl rfl 24 (by decide) (hwd _ wk_200) (fun _ h9 => h9) rfl dX12_lostBy_183 ?_
                refine lv_iload_n hx hb dX12_lostBy_186 rfl (lv_at hl 4 rfl) ?_
                refine va_iald hx hb hK hP 19 18 rfl rfl (i := p0) (vin (a := p0.toInt) rfl (by omega)) dX12_lostBy_187 ?_
                refine lv_topi (fun z10709 e10710 => ?_)
                have e10710 : z10709 = F 19 (p0 : Int32).toNatClampNeg := e10710.trans (congrFun (hF 19 (by decide)) _)
                refine lv_isub hx hb dX12_lostBy_188 ?_
                refine lv_topi (fun z10711 e10712 => ?_)
                try (have t10713 := tsub e10712 (a := z10707.toInt) rfl (b := z10709.toInt) rfl (by omega))
                refine va_iast hx hb hK hP (DM hg) hS 31 30 rfl rfl (i := 1) (x := z10711) (vin (a := 1) (by decide) (by omega)) dX12_lostBy_189 (fun H locs hP _ hS => ?_)
                have hP := va_P_eq (sM_31 g c _ _ _ _) hP
                have hI := IM.store0 hI 31 (1 : Int32).toNatClampNeg z10711 rfl
                have hF := frUF (k := 31) (f := upd (F10706 31) (1 : Int32).toNatClampNeg z10711) (by decide) hF
                have hP : va_P (dC, dI) classes (wM g c v_lp10694 (va_up F10706 31 (upd (F10706 31) (1 : Int32).toNatClampNeg z10711)) rc) H := hP
                generalize (va_up F10706 31 (upd (F10706 31) (1 : Int32).toNatClampNeg z10711)) = F10714 at hP hI hF
                refine lv_aload_n hx hb dX12_lostBy_190 rfl (lv_at hl 3 rfl) ?_
                refine va_get (D := (dC, dI)) (ci := 12) (v := .ref (g 31)) (C := RX12) (T := TX12) (N := 63) hx hb hwd inA_X12 hown hK hP 0 rfl rfl 44 (by decide) (hwd _ wk_213) (fun _ h9 => h9) rfl dX12_lostBy_191 ?_
                refine lv_iconst (v := 2) hx hb dX12_lostBy_194 (by decide) ?_
                refine lv_aload_n hx hb dX12_lostBy_195 rfl (lv_at hl 3 rfl) ?_
                refine va_get (D := (dC, dI)) (ci := 12) (v := .ref (g 22)) (C := RX12) (T := TX12) (N := 63) hx hb hwd inA_X12 hown hK hP 0 rfl rfl 27 (by decide) (hwd _ wk_203) (fun _ h9 => h9) rfl dX12_lostBy_196 ?_
                refine lv_iload_n hx hb dX12_lostBy_199 rfl (lv_at hl 4 rfl) ?_
                refine va_iald hx hb hK hP 22 21 rfl rfl (i := p0) (vin (a := p0.toInt) rfl (by omega)) dX12_lostBy_200 ?_
                refine lv_topi (fun z10715 e10716 => ?_)
                have e10716 : z10715 = F 22 (p0 : Int32).toNatClampNeg := e10716.trans (congrFun (hF 22 (by decide)) _)
                refine lv_aload_n hx hb dX12_lostBy_201 rfl (lv_at hl 3 rfl) ?_
                refine va_get (D := (dC, dI)) (ci := 12) (v := .ref (g 21)) (C := RX12) (T := TX12) (N := 63) hx hb hwd inA_X12 hown hK hP 0 rfl rfl 26 (by decide) (hwd _ wk_202) (fun _ h9 => h9) rfl dX12_lostBy_202 ?_
                refine lv_iload_n hx hb dX12_lostBy_205 rfl (lv_at hl 4 rfl) ?_
                refine va_iald hx hb hK hP 21 20 rfl rfl (i := p0) (vin (a := p0.toInt) rfl (by omega)) dX12_lostBy_206 ?_
                refine lv_topi (fun z10717 e10718 => ?_)
                have e10718 : z10717 = F 21 (p0 : Int32).toNatClampNeg := e10718.trans (congrFun (hF 21 (by decide)) _)
                refine lv_isub hx hb dX12_lostBy_207 ?_
                refine lv_topi (fun z10719 e10720 => ?_)
                try (have t10721 := tsub e10720 (a := z10715.toInt) rfl (b := z10717.toInt) rfl (by omega))
                refine va_iast hx hb hK hP (DM hg) hS 31 30 rfl rfl (i := 2) (x := z10719) (vin (a := 2) (by decide) (by omega)) dX12_lostBy_208 (fun H locs hP _ hS => ?_)
                have hP := va_P_eq (sM_31 g c _ _ _ _) hP
                have hI := IM.store0 hI 31 (2 : Int32).toNatClampNeg z10719 rfl
                have hF := frUF (k := 31) (f := upd (F10714 31) (2 : Int32).toNatClampNeg z10719) (by decide) hF
                have hP : va_P (dC, dI) classes (wM g c v_lp10694 (va_up F10714 31 (upd (F10714 31) (2 : Int32).toNatClampNeg z10719)) rc) H := hP
                generalize (va_up F10714 31 (upd (F10714 31) (2 : Int32).toNatClampNeg z10719)) = F10722 at hP hI hF
                refine lv_aload_n hx hb dX12_lostBy_209 rfl (lv_at hl 3 rfl) ?_
                refine va_get (D := (dC, dI)) (ci := 12) (v := .ref (g 31)) (C := RX12) (T := TX12) (N := 63) hx hb hwd inA_X12 hown hK hP 0 rfl rfl 44 (by decide) (hwd _ wk_213) (fun _ h9 => h9) rfl dX12_lostBy_210 ?_
                refine lv_iconst (v := 3) hx hb dX12_lostBy_213 (by decide) ?_
                refine lv_aload_n hx hb dX12_lostBy_214 rfl (lv_at hl 3 rfl) ?_
                refine va_get (D := (dC, dI)) (ci := 12) (v := .ref (g 16)) (C := RX12) (T := TX12) (N := 63) hx hb hwd inA_X12 hown hK hP 0 rfl rfl 21 (by decide) (hwd _ wk_197) (fun _ h9 => h9) rfl dX12_lostBy_215 ?_
                refine lv_iload_n hx hb dX12_lostBy_218 rfl (lv_at hl 4 rfl) ?_
                refine va_iald hx hb hK hP 16 15 rfl rfl (i := p0) (vin (a := p0.toInt) rfl (by omega)) dX12_lostBy_219 ?_
                refine lv_topi (fun z10723 e10724 => ?_)
                have t10725 : 0 ≤ z10723.toInt ∧ z10723.toInt ≤ 11 := by rw [e10724]; exact hI.2 16 _ _ rfl _
                have e10724 : z10723 = F 16 (p0 : Int32).toNatClampNeg := e10724.trans (congrFun (hF 16 (by decide)) _)
                refine va_iast hx hb hK hP (DM hg) hS 31 30 rfl rfl (i := 3) (x := z10723) (vin (a := 3) (by decide) (by omega)) dX12_lostBy_220 (fun H locs hP _ hS => ?_)
                have hP := va_P_eq (sM_31 g c _ _ _ _) hP
                have hI := IM.store0 hI 31 (3 : Int32).toNatClampNeg z10723 rfl
                have hF := frUF (k := 31) (f := upd (F10722 31) (3 : Int32).toNatClampNeg z10723) (by decide) hF
                have hP : va_P (dC, dI) classes (wM g c v_lp10694 (va_up F10722 31 (upd (F10722 31) (3 : Int32).toNatClampNeg z10723)) rc) H := hP
                generalize (va_up F10722 31 (upd (F10722 31) (3 : Int32).toNatClampNeg z10723)) = F10726 at hP hI hF
                refine lv_aload_n hx hb dX12_lostBy_221 rfl (lv_at hl 3 rfl) ?_
                refine va_get (D := (dC, dI)) (ci := 12) (v := .ref (g 31)) (C := RX12) (T := TX12) (N := 63) hx hb hwd inA_X12 hown hK hP 0 rfl rfl 44 (by decide) (hwd _ wk_213) (fun _ h9 => h9) rfl dX12_lostBy_222 ?_
                refine lv_iconst (v := 4) hx hb dX12_lostBy_225 (by decide) ?_
                refine lv_aload_n hx hb dX12_lostBy_226 rfl (lv_at hl 3 rfl) ?_
                refine va_get (D := (dC, dI)) (ci := 12) (v := .ref (g 11)) (C := RX12) (T := TX12) (N := 63) hx hb hwd inA_X12 hown hK hP 0 rfl rfl 15 (by decide) (hwd _ wk_192) (fun _ h9 => h9) rfl dX12_lostBy_227 ?_
                refine lv_aload_n hx hb dX12_lostBy_230 rfl (lv_at hl 3 rfl) ?_
                refine va_get (D := (dC, dI)) (ci := 12) (v := .ref (g 15)) (C := RX12) (T := TX12) (N := 63) hx hb hwd inA_X12 hown hK hP 0 rfl rfl 20 (by decide) (hwd _ wk_196) (fun _ h9 => h9) rfl dX12_lostBy_231 ?_
                refine lv_iload_n hx hb dX12_lostBy_234 rfl (lv_at hl 4 rfl) ?_
                refine va_iald hx hb hK hP 15 14 rfl rfl (i := p0) (vin (a := p0.toInt) rfl (by omega)) dX12_lostBy_235 ?_
                refine lv_topi (fun z10727 e10728 => ?_)
                have t10729 : 0 ≤ z10727.toInt ∧ z10727.toInt ≤ 99 := by rw [e10728]; exact hI.2 15 _ _ rfl _
                have e10728 : z10727 = F 15 (p0 : Int32).toNatClampNeg := e10728.trans (congrFun (hF 15 (by decide)) _)
                refine va_iald hx hb hK hP 11 10 rfl rfl (i := z10727) (vin (a := z10727.toInt) rfl (by omega)) dX12_lostBy_236 ?_
                refine lv_topi (fun z10730 e10731 => ?_)
                have t10732 : 0 ≤ z10730.toInt ∧ z10730.toInt ≤ 9 := by rw [e10731]; exact hI.2 11 _ _ rfl _
                have e10731 : z10730 = F 11 (z10727 : Int32).toNatClampNeg := e10731.trans (congrFun (hF 11 (by decide)) _)
                refine va_iast hx hb hK hP (DM hg) hS 31 30 rfl rfl (i := 4) (x := z10730) (vin (a := 4) (by decide) (by omega)) dX12_lostBy_237 (fun H locs hP _ hS => ?_)
                have hP := va_P_eq (sM_31 g c _ _ _ _) hP
                have hI := IM.store0 hI 31 (4 : Int32).toNatClampNeg z10730 rfl
                have hF := frUF (k := 31) (f := upd (F10726 31) (4 : Int32).toNatClampNeg z10730) (by decide) hF
                have hP : va_P (dC, dI) classes (wM g c v_lp10694 (va_up F10726 31 (upd (F10726 31) (4 : Int32).toNatClampNeg z10730)) rc) H := hP
                generalize (va_up F10726 31 (upd (F10726 31) (4 : Int32).toNatClampNeg z10730)) = F10733 at hP hI hF
                refine lv_aload_n hx hb dX12_lostBy_238 rfl (lv_at hl 3 rfl) ?_
                refine va_get (D := (dC, dI)) (ci := 12) (v := .ref (g 31)) (C := RX12) (T := TX12) (N := 63) hx hb hwd inA_X12 hown hK hP 0 rfl rfl 44 (by decide) (hwd _ wk_213) (fun _ h9 => h9) rfl dX12_lostBy_239 ?_
                refine lv_iconst (v := 5) hx hb dX12_lostBy_242 (by decide) ?_
                refine lv_iload hx hb dX12_lostBy_243 (lv_at hl 1 rfl) ?_
                refine va_iast hx hb hK hP (DM hg) hS 31 30 rfl rfl (i := 5) (x := x4_lp10694) (vin (a := 5) (by decide) (by omega)) dX12_lostBy_245 (fun H locs hP _ hS => ?_)
                have hP := va_P_eq (sM_31 g c _ _ _ _) hP
                have hI := IM.store0 hI 31 (5 : Int32).toNatClampNeg x4_lp10694 rfl
                have hF := frUF (k := 31) (f := upd (F10733 31) (5 : Int32).toNatClampNeg x4_lp10694) (by decide) hF
                have hP : va_P (dC, dI) classes (wM g c v_lp10694 (va_up F10733 31 (upd (F10733 31) (5 : Int32).toNatClampNeg x4_lp10694)) rc) H := hP
                generalize (va_up F10733 31 (upd (F10733 31) (5 : Int32).toNatClampNeg x4_lp10694)) = F10734 at hP hI hF
                refine lv_aload_n hx hb dX12_lostBy_246 rfl (lv_at hl 3 rfl) ?_
                refine lv_iload_n hx hb dX12_lostBy_247 rfl (lv_at hl 2 rfl) ?_
                refine va_calli (va_runV (As := [.int x3_lp10687]) (rest := []) ⟨hx, hb, hml, hown, hwd⟩ (c_X12_works l dC dI g c adK adV v_lp10694 F10734 rc H.size x3_lp10687 hg hI (by omega) (JL.at' (JL.to hL rfl (hF 28 (by decide)) (hF 29 (by decide)) (hF 27 (by decide))) (i := x3_lp10687) (by omega) (by omega))) (cwV 1 hwd (gV wk_513 wk_510 wk_511 wk_512 wk_5) rfl rfl rfl (by decide +kernel) ⟨Nat.le_of_ble_eq_true rfl, Nat.le_of_ble_eq_true rfl⟩) ⟨PM.blind, va_recv hK hP (ci := 12) (q0 := 0) rfl rfl, fun U hU hW => ⟨rfl, PM.at hK hE hP hS hU hW⟩⟩ rfl rfl hl.1 rfl (lv_room (Nat.le_of_ble_eq_true rfl)) dX12_lostBy_248 ⟨Nat.le_of_ble_eq_true rfl, Nat.le_of_ble_eq_true rfl⟩) hS (fun q _ h => (freeM hS) q h) (freeM hS) (fun r10735 u t H1 locs ht hvm hw hB hz1 hk1 hS => ?_)
                unfold BM at hB
                rw [ht] at hB
                obtain ⟨v10736, F10737, rc9⟩ := u
                obtain ⟨hI, hrc, hf10738, hG10739, hw⟩ := hw
                dsimp only at hI hrc hB hf10738 hG10739 hw
                have hF := frCF (by decide) hG10739 hF
                rw [hrc] at hB
                have hP : va_P (dC, dI) classes (wM g c v10736 F10737 rc) H1 := hB
                clear hz1
                generalize H1 = H at hP hS ⊢
                have rr_r10735 := i32_rng r10735
                refine lv_istore (lv' := [(5, .int r10735), (4, .int x4_lp10694), (3, .int x3_lp10687), (0, .ref (g 0)), (1, .int p0), (2, .int p1)]) hx hb dX12_lostBy_251 hl (by decide) rfl (fun ls hl => ?_)
                refine lv_iload hx hb dX12_lostBy_253 (lv_at hl 0 rfl) ?_
                refine lv_if_ge (tgt := 262) hx hb dX12_lostBy_255 (by decide) (fun c10740 => ?_) (fun c10740 => ?_)
                · skip
                  have t10741 := cv_le (a := 0) (by decide) (b := r10735.toInt) rfl c10740
                  refine lv_iload hx hb dX12_lostBy_262 (lv_at hl 0 rfl) ?_
                  refine lv_bipush (v := 100) hx hb dX12_lostBy_264 (by decide) ?_
                  refine lv_icmp_le (tgt := 274) hx hb dX12_lostBy_266 (by decide) (fun c10742 => ?_) (fun c10742 => ?_)
                  · skip
                    have t10743 := cv_le (a := r10735.toInt) rfl (b := 100) (by decide) c10742
                    refine lv_iload hx hb dX12_lostBy_274 (lv_at hl 0 rfl) ?_
                    have hP9 : va_P (dC, dI) classes (wM g c v10736 F10737 rc) H := hP
                    exact W.iret (v := r10735) hx hb hr (fun t ht hW => ⟨⟨r10735, (v10736, F10737, rc), rfl, ⟨hI, rfl, (frC (by decide) hf10738 (frC (by decide) hf_lp10694 (frC (by decide) hf_lp10687 (fun _ _ => rfl)))), hF, by omega⟩, (by show va_P _ _ _ t.heap; rw [ht]; exact hP9)⟩, hS.F ht⟩) hS.2.2 dX12_lostBy_276
                  · skip
                    have t10744 := cv_nle (a := r10735.toInt) rfl (b := 100) (by decide) c10742
                    refine lv_bipush (v := 100) hx hb dX12_lostBy_269 (by decide) ?_
                    refine lv_goto (tgt := 276) hx hb dX12_lostBy_271 (by decide) ?_
                    have hP9 : va_P (dC, dI) classes (wM g c v10736 F10737 rc) H := hP
                    exact W.iret (v := 100) hx hb hr (fun t ht hW => ⟨⟨100, (v10736, F10737, rc), rfl, ⟨hI, rfl, (frC (by decide) hf10738 (frC (by decide) hf_lp10694 (frC (by decide) hf_lp10687 (fun _ _ => rfl)))), hF, by have : (100 : Int32).toInt = 100 := (by decide); omega⟩, (by show va_P _ _ _ t.heap; rw [ht]; exact hP9)⟩, hS.F ht⟩) hS.2.2 dX12_lostBy_276
                · skip
                  have t10745 := cv_nle (a := 0) (by decide) (b := r10735.toInt) rfl c10740
                  refine lv_iconst (v := 0) hx hb dX12_lostBy_258 (by decide) ?_
                  refine lv_goto (tgt := 276) hx hb dX12_lostBy_259 (by decide) ?_
                  have hP9 : va_P (dC, dI) classes (wM g c v10736 F10737 rc) H := hP
                  exact W.iret (v := 0) hx hb hr (fun t ht hW => ⟨⟨0, (v10736, F10737, rc), rfl, ⟨hI, rfl, (frC (by decide) hf10738 (frC (by decide) hf_lp10694 (frC (by decide) hf_lp10687 (fun _ _ => rfl)))), hF, by have : (0 : Int32).toInt = 0 := (by decide); omega⟩, (by show va_P _ _ _ t.heap; rw [ht]; exact hP9)⟩, hS.F ht⟩) hS.2.2 dX12_lostBy_276
              · skip
                have t10746 := cv_nle (a := (v 19).toInt) rfl (b := x5_lp10694.toInt) rfl c10697
                refine lv_iload hx hb dX12_lostBy_63 (lv_at hl 1 rfl) ?_
                refine lv_iload hx hb dX12_lostBy_65 (lv_at hl 0 rfl) ?_
                refine lv_iload_n hx hb dX12_lostBy_67 rfl (lv_at hl 4 rfl) ?_
                refine lv_icmp_eq (tgt := 142) hx hb dX12_lostBy_68 (by decide) (fun c10747 => ?_) (fun c10747 => ?_)
                · skip
                  have t10748 := cv_eq (a := x5_lp10694.toInt) rfl (b := p0.toInt) rfl c10747
                  refine lv_iconst (v := 0) hx hb dX12_lostBy_142 (by decide) ?_
                  refine lv_iadd hx hb dX12_lostBy_143 ?_
                  refine lv_topi (fun z10749 e10750 => ?_)
                  try (have t10751 := tadd e10750 (a := x4_lp10694.toInt) rfl (b := 0) (by decide) (by omega))
                  refine lv_istore (lv' := [(4, .int z10749), (5, .int x5_lp10694), (3, .int x3_lp10687), (0, .ref (g 0)), (1, .int p0), (2, .int p1)]) hx hb dX12_lostBy_144 hl (by decide) rfl (fun ls hl => ?_)
                  obtain ⟨z10752, e10753⟩ : ∃ y : Int32, y = x5_lp10694 + 1 := ⟨_, rfl⟩
                  try (have t10754 := tadd e10753 rfl (b := 1) (by decide) (by omega))
                  refine lv_iinc (v := z10752) (lv' := [(5, .int z10752), (4, .int z10749), (3, .int x3_lp10687), (0, .ref (g 0)), (1, .int p0), (2, .int p1)]) hx hb dX12_lostBy_146 hl (k := 1) rfl (by rw [e10753]; rfl) (by decide) rfl (fun ls hl => ?_)
                  refine lv_goto (tgt := 54) hx hb dX12_lostBy_149 (by decide) ?_
                  exact ih_lp10694 z10752 z10749 v_lp10694 F_lp10694 _ _ _ (by omega) (by omega) hf_lp10694 hI hF hP hS (lv_sub hl [0, 1, 2, 3, 4, 5] rfl)
                · skip
                  have t10755 := cv_ne (a := x5_lp10694.toInt) rfl (b := p0.toInt) rfl c10747
                  refine lv_aload_n hx hb dX12_lostBy_71 rfl (lv_at hl 3 rfl) ?_
                  refine va_get (D := (dC, dI)) (ci := 12) (v := .ref (g 15)) (C := RX12) (T := TX12) (N := 63) hx hb hwd inA_X12 hown hK hP 0 rfl rfl 20 (by decide) (hwd _ wk_196) (fun _ h9 => h9) rfl dX12_lostBy_72 ?_
                  refine lv_iload hx hb dX12_lostBy_75 (lv_at hl 0 rfl) ?_
                  refine va_iald hx hb hK hP 15 14 rfl rfl (i := x5_lp10694) (vin (a := x5_lp10694.toInt) rfl (by omega)) dX12_lostBy_77 ?_
                  refine lv_topi (fun z10756 e10757 => ?_)
                  have t10758 : 0 ≤ z10756.toInt ∧ z10756.toInt ≤ 99 := by rw [e10757]; exact hI.2 15 _ _ rfl _
                  have e10757 : z10756 = F 15 (x5_lp10694 : Int32).toNatClampNeg := e10757.trans (congrFun (hF 15 (by decide)) _)
                  refine lv_aload_n hx hb dX12_lostBy_78 rfl (lv_at hl 3 rfl) ?_
                  refine va_get (D := (dC, dI)) (ci := 12) (v := .ref (g 15)) (C := RX12) (T := TX12) (N := 63) hx hb hwd inA_X12 hown hK hP 0 rfl rfl 20 (by decide) (hwd _ wk_196) (fun _ h9 => h9) rfl dX12_lostBy_79 ?_
                  refine lv_iload_n hx hb dX12_lostBy_82 rfl (lv_at hl 4 rfl) ?_
                  refine va_iald hx hb hK hP 15 14 rfl rfl (i := p0) (vin (a := p0.toInt) rfl (by omega)) dX12_lostBy_83 ?_
                  refine lv_topi (fun z10759 e10760 => ?_)
                  have t10761 : 0 ≤ z10759.toInt ∧ z10759.toInt ≤ 99 := by rw [e10760]; exact hI.2 15 _ _ rfl _
                  have e10760 : z10759 = F 15 (p0 : Int32).toNatClampNeg := e10760.trans (congrFun (hF 15 (by decide)) _)
                  refine lv_icmp_ne (tgt := 142) hx hb dX12_lostBy_84 (by decide) (fun c10762 => ?_) (fun c10762 => ?_)
                  · skip
                    have t10763 := cv_ne (a := z10756.toInt) rfl (b := z10759.toInt) rfl c10762
                    refine lv_iconst (v := 0) hx hb dX12_lostBy_142 (by decide) ?_
                    refine lv_iadd hx hb dX12_lostBy_143 ?_
                    refine lv_topi (fun z10764 e10765 => ?_)
                    try (have t10766 := tadd e10765 (a := x4_lp10694.toInt) rfl (b := 0) (by decide) (by omega))
                    refine lv_istore (lv' := [(4, .int z10764), (5, .int x5_lp10694), (3, .int x3_lp10687), (0, .ref (g 0)), (1, .int p0), (2, .int p1)]) hx hb dX12_lostBy_144 hl (by decide) rfl (fun ls hl => ?_)
                    obtain ⟨z10767, e10768⟩ : ∃ y : Int32, y = x5_lp10694 + 1 := ⟨_, rfl⟩
                    try (have t10769 := tadd e10768 rfl (b := 1) (by decide) (by omega))
                    refine lv_iinc (v := z10767) (lv' := [(5, .int z10767), (4, .int z10764), (3, .int x3_lp10687), (0, .ref (g 0)), (1, .int p0), (2, .int p1)]) hx hb dX12_lostBy_146 hl (k := 1) rfl (by rw [e10768]; rfl) (by decide) rfl (fun ls hl => ?_)
                    refine lv_goto (tgt := 54) hx hb dX12_lostBy_149 (by decide) ?_
                    exact ih_lp10694 z10767 z10764 v_lp10694 F_lp10694 _ _ _ (by omega) (by omega) hf_lp10694 hI hF hP hS (lv_sub hl [0, 1, 2, 3, 4, 5] rfl)
                  · skip
                    have t10770 := cv_eq (a := z10756.toInt) rfl (b := z10759.toInt) rfl c10762
                    refine lv_aload_n hx hb dX12_lostBy_87 rfl (lv_at hl 3 rfl) ?_
                    refine lv_iload hx hb dX12_lostBy_88 (lv_at hl 0 rfl) ?_
                    refine va_calli (va_runV (As := [.int x5_lp10694]) (rest := [.int x4_lp10694]) ⟨hx, hb, hml, hown, hwd⟩ (c_X12_isGap l dC dI g c adK adV v_lp10694 F_lp10694 rc H.size x5_lp10694 hg hI (by omega)) (cwV 1 hwd (gV wk_499 wk_496 wk_497 wk_498 wk_5) rfl rfl rfl (by decide +kernel) ⟨Nat.le_of_ble_eq_true rfl, Nat.le_of_ble_eq_true rfl⟩) ⟨PM.blind, va_recv hK hP (ci := 12) (q0 := 0) rfl rfl, fun U hU hW => ⟨rfl, PM.at hK hE hP hS hU hW⟩⟩ rfl rfl hl.1 rfl (lv_room (Nat.le_of_ble_eq_true rfl)) dX12_lostBy_90 ⟨Nat.le_of_ble_eq_true rfl, Nat.le_of_ble_eq_true rfl⟩) hS (fun q _ h => (freeM hS) q h) (freeM hS) (fun r10771 u t H1 locs ht hvm hw hB hz1 hk1 hS => ?_)
                    unfold BM at hB
                    rw [ht] at hB
                    have hP : va_P (dC, dI) classes (wM g c v_lp10694 F_lp10694 rc) H1 := hB
                    have hw_r10771 : 0 ≤ r10771.toInt ∧ r10771.toInt ≤ 1 := hw
                    clear hw
                    clear hz1
                    generalize H1 = H at hP hS ⊢
                    refine lv_if_eq (tgt := 142) hx hb dX12_lostBy_93 (by decide) (fun c10772 => ?_) (fun c10772 => ?_)
                    · skip
                      have t10773 := cv_eq (a := r10771.toInt) rfl (b := 0) (by decide) c10772
                      refine lv_iconst (v := 0) hx hb dX12_lostBy_142 (by decide) ?_
                      refine lv_iadd hx hb dX12_lostBy_143 ?_
                      refine lv_topi (fun z10774 e10775 => ?_)
                      try (have t10776 := tadd e10775 (a := x4_lp10694.toInt) rfl (b := 0) (by decide) (by omega))
                      refine lv_istore (lv' := [(4, .int z10774), (5, .int x5_lp10694), (3, .int x3_lp10687), (0, .ref (g 0)), (1, .int p0), (2, .int p1)]) hx hb dX12_lostBy_144 hl (by decide) rfl (fun ls hl => ?_)
                      obtain ⟨z10777, e10778⟩ : ∃ y : Int32, y = x5_lp10694 + 1 := ⟨_, rfl⟩
                      try (have t10779 := tadd e10778 rfl (b := 1) (by decide) (by omega))
                      refine lv_iinc (v := z10777) (lv' := [(5, .int z10777), (4, .int z10774), (3, .int x3_lp10687), (0, .ref (g 0)), (1, .int p0), (2, .int p1)]) hx hb dX12_lostBy_146 hl (k := 1) rfl (by rw [e10778]; rfl) (by decide) rfl (fun ls hl => ?_)
                      refine lv_goto (tgt := 54) hx hb dX12_lostBy_149 (by decide) ?_
                      exact ih_lp10694 z10777 z10774 v_lp10694 F_lp10694 _ _ _ (by omega) (by omega) hf_lp10694 hI hF hP hS (lv_sub hl [0, 1, 2, 3, 4, 5] rfl)
                    · skip
                      have t10780 := cv_ne (a := r10771.toInt) rfl (b := 0) (by decide) c10772
                      refine lv_aload_n hx hb dX12_lostBy_96 rfl (lv_at hl 3 rfl) ?_
                      refine va_get (D := (dC, dI)) (ci := 12) (v := .ref (g 18)) (C := RX12) (T := TX12) (N := 63) hx hb hwd inA_X12 hown hK hP 0 rfl rfl 23 (by decide) (hwd _ wk_199) (fun _ h9 => h9) rfl dX12_lostBy_97 ?_
                      refine lv_iload hx hb dX12_lostBy_100 (lv_at hl 0 rfl) ?_
                      refine va_iald hx hb hK hP 18 17 rfl rfl (i := x5_lp10694) (vin (a := x5_lp10694.toInt) rfl (by omega)) dX12_lostBy_102 ?_
                      refine lv_topi (fun z10781 e10782 => ?_)
                      have e10782 : z10781 = F 18 (x5_lp10694 : Int32).toNatClampNeg := e10782.trans (congrFun (hF 18 (by decide)) _)
                      refine lv_aload_n hx hb dX12_lostBy_103 rfl (lv_at hl 3 rfl) ?_
                      refine va_get (D := (dC, dI)) (ci := 12) (v := .ref (g 18)) (C := RX12) (T := TX12) (N := 63) hx hb hwd inA_X12 hown hK hP 0 rfl rfl 23 (by decide) (hwd _ wk_199) (fun _ h9 => h9) rfl dX12_lostBy_104 ?_
                      refine lv_iload_n hx hb dX12_lostBy_107 rfl (lv_at hl 4 rfl) ?_
                      refine va_iald hx hb hK hP 18 17 rfl rfl (i := p0) (vin (a := p0.toInt) rfl (by omega)) dX12_lostBy_108 ?_
                      refine lv_topi (fun z10783 e10784 => ?_)
                      have e10784 : z10783 = F 18 (p0 : Int32).toNatClampNeg := e10784.trans (congrFun (hF 18 (by decide)) _)
                      refine lv_icmp_lt (tgt := 138) hx hb dX12_lostBy_109 (by decide) (fun c10785 => ?_) (fun c10785 => ?_)
                      · skip
                        have t10786 := cv_lt (a := z10781.toInt) rfl (b := z10783.toInt) rfl c10785
                        refine lv_iconst (v := 1) hx hb dX12_lostBy_138 (by decide) ?_
                        refine lv_goto (tgt := 143) hx hb dX12_lostBy_139 (by decide) ?_
                        refine lv_iadd hx hb dX12_lostBy_143 ?_
                        refine lv_topi (fun z10787 e10788 => ?_)
                        try (have t10789 := tadd e10788 (a := x4_lp10694.toInt) rfl (b := 1) (by decide) (by omega))
                        refine lv_istore (lv' := [(4, .int z10787), (5, .int x5_lp10694), (3, .int x3_lp10687), (0, .ref (g 0)), (1, .int p0), (2, .int p1)]) hx hb dX12_lostBy_144 hl (by decide) rfl (fun ls hl => ?_)
                        obtain ⟨z10790, e10791⟩ : ∃ y : Int32, y = x5_lp10694 + 1 := ⟨_, rfl⟩
                        try (have t10792 := tadd e10791 rfl (b := 1) (by decide) (by omega))
                        refine lv_iinc (v := z10790) (lv' := [(5, .int z10790), (4, .int z10787), (3, .int x3_lp10687), (0, .ref (g 0)), (1, .int p0), (2, .int p1)]) hx hb dX12_lostBy_146 hl (k := 1) rfl (by rw [e10791]; rfl) (by decide) rfl (fun ls hl => ?_)
                        refine lv_goto (tgt := 54) hx hb dX12_lostBy_149 (by decide) ?_
                        exact ih_lp10694 z10790 z10787 v_lp10694 F_lp10694 _ _ _ (by omega) (by omega) hf_lp10694 hI hF hP hS (lv_sub hl [0, 1, 2, 3, 4, 5] rfl)
                      · skip
                        have t10793 := cv_nlt (a := z10781.toInt) rfl (b := z10783.toInt) rfl c10785
                        refine lv_aload_n hx hb dX12_lostBy_112 rfl (lv_at hl 3 rfl) ?_
                        refine va_get (D := (dC, dI)) (ci := 12) (v := .ref (g 18)) (C := RX12) (T := TX12) (N := 63) hx hb hwd inA_X12 hown hK hP 0 rfl rfl 23 (by decide) (hwd _ wk_199) (fun _ h9 => h9) rfl dX12_lostBy_113 ?_
                        refine lv_iload hx hb dX12_lostBy_116 (lv_at hl 0 rfl) ?_
                        refine va_iald hx hb hK hP 18 17 rfl rfl (i := x5_lp10694) (vin (a := x5_lp10694.toInt) rfl (by omega)) dX12_lostBy_118 ?_
                        refine lv_topi (fun z10794 e10795 => ?_)
                        have e10795 : z10794 = F 18 (x5_lp10694 : Int32).toNatClampNeg := e10795.trans (congrFun (hF 18 (by decide)) _)
                        refine lv_aload_n hx hb dX12_lostBy_119 rfl (lv_at hl 3 rfl) ?_
                        refine va_get (D := (dC, dI)) (ci := 12) (v := .ref (g 18)) (C := RX12) (T := TX12) (N := 63) hx hb hwd inA_X12 hown hK hP 0 rfl rfl 23 (by decide) (hwd _ wk_199) (fun _ h9 => h9) rfl dX12_lostBy_120 ?_
                        refine lv_iload_n hx hb dX12_lostBy_123 rfl (lv_at hl 4 rfl) ?_
                        refine va_iald hx hb hK hP 18 17 rfl rfl (i := p0) (vin (a := p0.toInt) rfl (by omega)) dX12_lostBy_124 ?_
                        refine lv_topi (fun z10796 e10797 => ?_)
                        have e10797 : z10796 = F 18 (p0 : Int32).toNatClampNeg := e10797.trans (congrFun (hF 18 (by decide)) _)
                        refine lv_icmp_ne (tgt := 142) hx hb dX12_lostBy_125 (by decide) (fun c10798 => ?_) (fun c10798 => ?_)
                        · skip
                          have t10799 := cv_ne (a := z10794.toInt) rfl (b := z10796.toInt) rfl c10798
                          refine lv_iconst (v := 0) hx hb dX12_lostBy_142 (by decide) ?_
                          refine lv_iadd hx hb dX12_lostBy_143 ?_
                          refine lv_topi (fun z10800 e10801 => ?_)
                          try (have t10802 := tadd e10801 (a := x4_lp10694.toInt) rfl (b := 0) (by decide) (by omega))
                          refine lv_istore (lv' := [(4, .int z10800), (5, .int x5_lp10694), (3, .int x3_lp10687), (0, .ref (g 0)), (1, .int p0), (2, .int p1)]) hx hb dX12_lostBy_144 hl (by decide) rfl (fun ls hl => ?_)
                          obtain ⟨z10803, e10804⟩ : ∃ y : Int32, y = x5_lp10694 + 1 := ⟨_, rfl⟩
                          try (have t10805 := tadd e10804 rfl (b := 1) (by decide) (by omega))
                          refine lv_iinc (v := z10803) (lv' := [(5, .int z10803), (4, .int z10800), (3, .int x3_lp10687), (0, .ref (g 0)), (1, .int p0), (2, .int p1)]) hx hb dX12_lostBy_146 hl (k := 1) rfl (by rw [e10804]; rfl) (by decide) rfl (fun ls hl => ?_)
                          refine lv_goto (tgt := 54) hx hb dX12_lostBy_149 (by decide) ?_
                          exact ih_lp10694 z10803 z10800 v_lp10694 F_lp10694 _ _ _ (by omega) (by omega) hf_lp10694 hI hF hP hS (lv_sub hl [0, 1, 2, 3, 4, 5] rfl)
                        · skip
                          have t10806 := cv_eq (a := z10794.toInt) rfl (b := z10796.toInt) rfl c10798
                          refine lv_aload_n hx hb dX12_lostBy_128 rfl (lv_at hl 3 rfl) ?_
                          refine lv_iload hx hb dX12_lostBy_129 (lv_at hl 0 rfl) ?_
                          refine lv_iload_n hx hb dX12_lostBy_131 rfl (lv_at hl 4 rfl) ?_
                          refine va_calli (va_runV (As := [.int x5_lp10694, .int p0]) (rest := [.int x4_lp10694]) ⟨hx, hb, hml, hown, hwd⟩ (c_X12_isAhead l dC dI g c adK adV v_lp10694 F_lp10694 rc H.size x5_lp10694 p0 hg hI (by omega) (by omega)) (cwV 2 hwd (gV wk_509 wk_506 wk_507 wk_508 wk_5) rfl rfl rfl (by decide +kernel) ⟨Nat.le_of_ble_eq_true rfl, Nat.le_of_ble_eq_true rfl⟩) ⟨PM.blind, va_recv hK hP (ci := 12) (q0 := 0) rfl rfl, fun U hU hW => ⟨rfl, PM.at hK hE hP hS hU hW⟩⟩ rfl rfl hl.1 rfl (lv_room (Nat.le_of_ble_eq_true rfl)) dX12_lostBy_132 ⟨Nat.le_of_ble_eq_true rfl, Nat.le_of_ble_eq_true rfl⟩) hS (fun q _ h => (freeM hS) q h) (freeM hS) (fun r10807 u t H1 locs ht hvm hw hB hz1 hk1 hS => ?_)
                          unfold BM at hB
                          rw [ht] at hB
                          have hP : va_P (dC, dI) classes (wM g c v_lp10694 F_lp10694 rc) H1 := hB
                          replace hw : (r10807.toInt = 1 ∧ ((F_lp10694 17 x5_lp10694.toNatClampNeg).toInt < (F_lp10694 17 p0.toNatClampNeg).toInt ∨ ((F_lp10694 17 x5_lp10694.toNatClampNeg).toInt = (F_lp10694 17 p0.toNatClampNeg).toInt ∧ x5_lp10694.toInt < p0.toInt))) ∨ (r10807.toInt = 0 ∧ ¬ ((F_lp10694 17 x5_lp10694.toNatClampNeg).toInt < (F_lp10694 17 p0.toNatClampNeg).toInt ∨ ((F_lp10694 17 x5_lp10694.toNatClampNeg).toInt = (F_lp10694 17 p0.toNatClampNeg).toInt ∧ x5_lp10694.toInt < p0.toInt))) := hw
                          have hw_r10807 := hw
                          clear hw
                          clear hz1
                          generalize H1 = H at hP hS ⊢
                          refine lv_if_eq (tgt := 142) hx hb dX12_lostBy_135 (by decide) (fun c10808 => ?_) (fun c10808 => ?_)
                          · skip
                            have t10809 := cv_eq (a := r10807.toInt) rfl (b := 0) (by decide) c10808
                            refine lv_iconst (v := 0) hx hb dX12_lostBy_142 (by decide) ?_
                            refine lv_iadd hx hb dX12_lostBy_143 ?_
                            refine lv_topi (fun z10810 e10811 => ?_)
                            try (have t10812 := tadd e10811 (a := x4_lp10694.toInt) rfl (b := 0) (by decide) (by omega))
                            refine lv_istore (lv' := [(4, .int z10810), (5, .int x5_lp10694), (3, .int x3_lp10687), (0, .ref (g 0)), (1, .int p0), (2, .int p1)]) hx hb dX12_lostBy_144 hl (by decide) rfl (fun ls hl => ?_)
                            obtain ⟨z10813, e10814⟩ : ∃ y : Int32, y = x5_lp10694 + 1 := ⟨_, rfl⟩
                            try (have t10815 := tadd e10814 rfl (b := 1) (by decide) (by omega))
                            refine lv_iinc (v := z10813) (lv' := [(5, .int z10813), (4, .int z10810), (3, .int x3_lp10687), (0, .ref (g 0)), (1, .int p0), (2, .int p1)]) hx hb dX12_lostBy_146 hl (k := 1) rfl (by rw [e10814]; rfl) (by decide) rfl (fun ls hl => ?_)
                            refine lv_goto (tgt := 54) hx hb dX12_lostBy_149 (by decide) ?_
                            exact ih_lp10694 z10813 z10810 v_lp10694 F_lp10694 _ _ _ (by omega) (by omega) hf_lp10694 hI hF hP hS (lv_sub hl [0, 1, 2, 3, 4, 5] rfl)
                          · skip
                            have t10816 := cv_ne (a := r10807.toInt) rfl (b := 0) (by decide) c10808
                            refine lv_iconst (v := 1) hx hb dX12_lostBy_138 (by decide) ?_
                            refine lv_goto (tgt := 143) hx hb dX12_lostBy_139 (by decide) ?_
                            refine lv_iadd hx hb dX12_lostBy_143 ?_
                            refine lv_topi (fun z10817 e10818 => ?_)
                            try (have t10819 := tadd e10818 (a := x4_lp10694.toInt) rfl (b := 1) (by decide) (by omega))
                            refine lv_istore (lv' := [(4, .int z10817), (5, .int x5_lp10694), (3, .int x3_lp10687), (0, .ref (g 0)), (1, .int p0), (2, .int p1)]) hx hb dX12_lostBy_144 hl (by decide) rfl (fun ls hl => ?_)
                            obtain ⟨z10820, e10821⟩ : ∃ y : Int32, y = x5_lp10694 + 1 := ⟨_, rfl⟩
                            try (have t10822 := tadd e10821 rfl (b := 1) (by decide) (by omega))
                            refine lv_iinc (v := z10820) (lv' := [(5, .int z10820), (4, .int z10817), (3, .int x3_lp10687), (0, .ref (g 0)), (1, .int p0), (2, .int p1)]) hx hb dX12_lostBy_146 hl (k := 1) rfl (by rw [e10821]; rfl) (by decide) rfl (fun ls hl => ?_)
                            refine lv_goto (tgt := 54) hx hb dX12_lostBy_149 (by decide) ?_
                            exact ih_lp10694 z10820 z10817 v_lp10694 F_lp10694 _ _ _ (by omega) (by omega) hf_lp10694 hI hF hP hS (lv_sub hl [0, 1, 2, 3, 4, 5] rfl)
          obtain ⟨n9, hn9⟩ : ∃ n : Nat, 2147483648 - 0 ≤ (n : Int) := ⟨((2147483648 - 0 : Int)).toNat, by omega⟩
          exact lp10694 n9 0 0 v_lp10687 F_lp10687 H _ ls (by have : (0 : Int32).toInt = 0 := (by decide); have : (0 : Int32).toInt = 0 := (by decide); omega) (by have : (0 : Int32).toInt = 0 := (by decide); have : (0 : Int32).toInt = 0 := (by decide); omega) (fun _ _ => rfl) hI hF hP hS hl
        · skip
          have t10823 := cv_nle (a := 0) (by decide) (b := x3_lp10687.toInt) rfl c10692
          refine lv_iconst (v := 0) hx hb dX12_lostBy_46 (by decide) ?_
          have hP9 : va_P (dC, dI) classes (wM g c v_lp10687 F_lp10687 rc) H := hP
          exact W.iret (v := 0) hx hb hr (fun t ht hW => ⟨⟨0, (v_lp10687, F_lp10687, rc), rfl, ⟨hI, rfl, (frC (by decide) hf_lp10687 (fun _ _ => rfl)), hF, by have : (0 : Int32).toInt = 0 := (by decide); omega⟩, (by show va_P _ _ _ t.heap; rw [ht]; exact hP9)⟩, hS.F ht⟩) hS.2.2 dX12_lostBy_47
      · skip
        have t10824 := cv_nlt (a := x3_lp10687.toInt) rfl (b := 0) (by decide) c10690
        refine lv_aload_n hx hb dX12_lostBy_11 rfl (lv_at hl 1 rfl) ?_
        refine va_get (D := (dC, dI)) (ci := 12) (v := .ref (g 25)) (C := RX12) (T := TX12) (N := 63) hx hb hwd inA_X12 hown hK hP 0 rfl rfl 32 (by decide) (hwd _ wk_207) (fun _ h9 => h9) rfl dX12_lostBy_12 ?_
        refine lv_iload_n hx hb dX12_lostBy_15 rfl (lv_at hl 0 rfl) ?_
        refine va_iald hx hb hK hP 25 24 rfl rfl (i := x3_lp10687) (vin (a := x3_lp10687.toInt) rfl (by omega)) dX12_lostBy_16 ?_
        refine lv_topi (fun z10825 e10826 => ?_)
        have e10826 : z10825 = F 25 (x3_lp10687 : Int32).toNatClampNeg := e10826.trans (congrFun (hF 25 (by decide)) _)
        refine lv_iload_n hx hb dX12_lostBy_17 rfl (lv_at hl 3 rfl) ?_
        refine lv_icmp_gt (tgt := 36) hx hb dX12_lostBy_18 (by decide) (fun c10827 => ?_) (fun c10827 => ?_)
        · skip
          have t10828 := cv_lt (a := p1.toInt) rfl (b := z10825.toInt) rfl c10827
          obtain ⟨z10829, e10830⟩ : ∃ y : Int32, y = x3_lp10687 + (-1) := ⟨_, rfl⟩
          try (have t10831 := tadd e10830 rfl (b := (-1)) (by decide) (by omega))
          refine lv_iinc (v := z10829) (lv' := [(3, .int z10829), (0, .ref (g 0)), (1, .int p0), (2, .int p1)]) hx hb dX12_lostBy_36 hl (k := 0) rfl (by rw [e10830]; rfl) (by decide) rfl (fun ls hl => ?_)
          refine lv_goto (tgt := 7) hx hb dX12_lostBy_39 (by decide) ?_
          exact ih_lp10687 z10829 v_lp10687 F_lp10687 _ _ _ (by omega) (by omega) (by omega) hf_lp10687 hI hF hP hS (lv_sub hl [0, 1, 2, 3] rfl)
        · skip
          have t10832 := cv_nlt (a := p1.toInt) rfl (b := z10825.toInt) rfl c10827
          refine lv_aload_n hx hb dX12_lostBy_21 rfl (lv_at hl 1 rfl) ?_
          refine va_get (D := (dC, dI)) (ci := 12) (v := .ref (g 26)) (C := RX12) (T := TX12) (N := 63) hx hb hwd inA_X12 hown hK hP 0 rfl rfl 33 (by decide) (hwd _ wk_208) (fun _ h9 => h9) rfl dX12_lostBy_22 ?_
          refine lv_iload_n hx hb dX12_lostBy_25 rfl (lv_at hl 0 rfl) ?_
          refine va_iald hx hb hK hP 26 25 rfl rfl (i := x3_lp10687) (vin (a := x3_lp10687.toInt) rfl (by omega)) dX12_lostBy_26 ?_
          refine lv_topi (fun z10833 e10834 => ?_)
          have e10834 : z10833 = F 26 (x3_lp10687 : Int32).toNatClampNeg := e10834.trans (congrFun (hF 26 (by decide)) _)
          refine lv_aload_n hx hb dX12_lostBy_27 rfl (lv_at hl 1 rfl) ?_
          refine va_get (D := (dC, dI)) (ci := 12) (v := .ref (g 18)) (C := RX12) (T := TX12) (N := 63) hx hb hwd inA_X12 hown hK hP 0 rfl rfl 23 (by decide) (hwd _ wk_199) (fun _ h9 => h9) rfl dX12_lostBy_28 ?_
          refine lv_iload_n hx hb dX12_lostBy_31 rfl (lv_at hl 2 rfl) ?_
          refine va_iald hx hb hK hP 18 17 rfl rfl (i := p0) (vin (a := p0.toInt) rfl (by omega)) dX12_lostBy_32 ?_
          refine lv_topi (fun z10835 e10836 => ?_)
          have e10836 : z10835 = F 18 (p0 : Int32).toNatClampNeg := e10836.trans (congrFun (hF 18 (by decide)) _)
          refine lv_icmp_le (tgt := 42) hx hb dX12_lostBy_33 (by decide) (fun c10837 => ?_) (fun c10837 => ?_)
          · skip
            have t10838 := cv_le (a := z10833.toInt) rfl (b := z10835.toInt) rfl c10837
            refine lv_iload_n hx hb dX12_lostBy_42 rfl (lv_at hl 0 rfl) ?_
            refine lv_if_ge (tgt := 48) hx hb dX12_lostBy_43 (by decide) (fun c10839 => ?_) (fun c10839 => ?_)
            · skip
              have t10840 := cv_le (a := 0) (by decide) (b := x3_lp10687.toInt) rfl c10839
              refine lv_iconst (v := 0) hx hb dX12_lostBy_48 (by decide) ?_
              refine lv_istore (lv' := [(4, .int 0), (3, .int x3_lp10687), (0, .ref (g 0)), (1, .int p0), (2, .int p1)]) hx hb dX12_lostBy_49 hl (by decide) rfl (fun ls hl => ?_)
              refine lv_iconst (v := 0) hx hb dX12_lostBy_51 (by decide) ?_
              refine lv_istore (lv' := [(5, .int 0), (4, .int 0), (3, .int x3_lp10687), (0, .ref (g 0)), (1, .int p0), (2, .int p1)]) hx hb dX12_lostBy_52 hl (by decide) rfl (fun ls hl => ?_)
              have lp10841 : ∀ (n : Nat) (x5_lp10841 : Int32) (x4_lp10841 : Int32) (v_lp10841 : Nat → Int32) (F_lp10841 : Nat → Nat → Int32) (H : Heap) (locs : List Loc) (ls : Array Slot), (0 ≤ x5_lp10841.toInt) → (2147483648 - x5_lp10841.toInt ≤ (n : Int)) → (∀ k, k ∉ ([] : List Nat) → v_lp10841 k = v_lp10687 k) → IM v_lp10841 F_lp10841 → (∀ k, k ∉ ([30, 31] : List Nat) → F_lp10841 k = F k) → va_P (dC, dI) classes (wM g c v_lp10841 F_lp10841 rc) H → va_S (AM g s.heap.size) s.heap H locs → lv_has ls 6 [(5, .int x5_lp10841), (4, .int x4_lp10841), (3, .int x3_lp10687), (0, .ref (g 0)), (1, .int p0), (2, .int p1)] → W p l e (headSpec (Cond.code yX12_lostBy cX12_lostBy 6 (some .int) :: wA) ({ frames := 3, cells := 0, slots := 0, locals := 120 })).room s m ([.ref (g 0), .int p0, .int p1] : List Value).toArray below meth c0 H locs 0 0 (MQ below (va_Qi (fun (r : Int32) (u : StM) => IM u.1 u.2.1 ∧ u.2.2 = rc ∧ (∀ k, k ∉ ([] : List Nat) → u.1 k = v k) ∧ (∀ k, k ∉ ([30, 31] : List Nat) → u.2.1 k = F k) ∧ 0 ≤ r.toInt ∧ r.toInt ≤ 100) (BM dC dI g c) (AM g s.heap.size)) ([.ref (g 0), .int p0, .int p1] : List Value).toArray s 0 0 (AM g s.heap.size)) (F0 m 54 ls []) := by
                intro n
                induction n with
                | zero =>
                  intro x5_lp10841 x4_lp10841 v_lp10841 F_lp10841 H locs ls t10842 hm hf_lp10841 hI hF hP hS hl
                  exfalso
                  have := i32_rng x5_lp10841
                  have := i32_rng x4_lp10841
                  have hI1 := hI.1
                  omega
                | succ n ih_lp10841 =>
                  intro x5_lp10841 x4_lp10841 v_lp10841 F_lp10841 H locs ls t10842 hm hf_lp10841 hI hF hP hS hl
                  have rx5_lp10841 := i32_rng x5_lp10841
                  have rx4_lp10841 := i32_rng x4_lp10841
                  refine lv_iload hx hb dX12_lostBy_54 (lv_at hl 0 rfl) ?_
                  refine lv_aload_n hx hb dX12_lostBy_56 rfl (lv_at hl 3 rfl) ?_
                  refine va_get (D := (dC, dI)) (ci := 12) (v := .int (v_lp10841 19)) (C := RX12) (T := TX12) (N := 63) hx hb hwd inA_X12 hown hK hP 0 rfl rfl 19 (by decide) (hwd _ wk_494) (fun _ h9 => h9) rfl dX12_lostBy_57 ?_
                  refine my_top (v := v 19) ((hf_lp10841 19 (by decide)).trans (hf_lp10687 19 (by decide))) ?_
                  have t10843 : 0 ≤ (v 19).toInt ∧ (v 19).toInt ≤ 500 := by have h9 := hI.1 19 _ _ rfl; rw [show v_lp10841 19 = v 19 from (hf_lp10841 19 (by decide)).trans (hf_lp10687 19 (by decide))] at h9; exact h9
                  refine lv_icmp_ge (tgt := 152) hx hb dX12_lostBy_60 (by decide) (fun c10844 => ?_) (fun c10844 => ?_)
                  · skip
                    have t10845 := cv_le (a := (v 19).toInt) rfl (b := x5_lp10841.toInt) rfl c10844
                    refine lv_aload_n hx hb dX12_lostBy_152 rfl (lv_at hl 3 rfl) ?_
                    refine va_get (D := (dC, dI)) (ci := 12) (v := .ref (g 31)) (C := RX12) (T := TX12) (N := 63) hx hb hwd inA_X12 hown hK hP 0 rfl rfl 44 (by decide) (hwd _ wk_213) (fun _ h9 => h9) rfl dX12_lostBy_153 ?_
                    refine lv_iconst (v := 0) hx hb dX12_lostBy_156 (by decide) ?_
                    refine lv_aload_n hx hb dX12_lostBy_157 rfl (lv_at hl 3 rfl) ?_
                    refine va_get (D := (dC, dI)) (ci := 12) (v := .ref (g 18)) (C := RX12) (T := TX12) (N := 63) hx hb hwd inA_X12 hown hK hP 0 rfl rfl 23 (by decide) (hwd _ wk_199) (fun _ h9 => h9) rfl dX12_lostBy_158 ?_
                    refine lv_iload_n hx hb dX12_lostBy_161 rfl (lv_at hl 4 rfl) ?_
                    refine va_iald hx hb hK hP 18 17 rfl rfl (i := p0) (vin (a := p0.toInt) rfl (by omega)) dX12_lostBy_162 ?_
                    refine lv_topi (fun z10846 e10847 => ?_)
                    have e10847 : z10846 = F 18 (p0 : Int32).toNatClampNeg := e10847.trans (congrFun (hF 18 (by decide)) _)
                    refine lv_aload_n hx hb dX12_lostBy_163 rfl (lv_at hl 3 rfl) ?_
                    refine va_get (D := (dC, dI)) (ci := 12) (v := .ref (g 17)) (C := RX12) (T := TX12) (N := 63) hx hb hwd inA_X12 hown hK hP 0 rfl rfl 22 (by decide) (hwd _ wk_198) (fun _ h9 => h9) rfl dX12_lostBy_164 ?_
                    refine lv_iload_n hx hb dX12_lostBy_167 rfl (lv_at hl 4 rfl) ?_
                    refine va_iald hx hb hK hP 17 16 rfl rfl (i := p0) (vin (a := p0.toInt) rfl (by omega)) dX12_lostBy_168 ?_
                    refine lv_topi (fun z10848 e10849 => ?_)
                    have e10849 : z10848 = F 17 (p0 : Int32).toNatClampNeg := e10849.trans (congrFun (hF 17 (by decide)) _)
                    refine lv_isub hx hb dX12_lostBy_169 ?_
                    refine lv_topi (fun z10850 e10851 => ?_)
                    try (have t10852 := tsub e10851 (a := z10846.toInt) rfl (b := z10848.toInt) rfl (by omega))
                    refine va_iast hx hb hK hP (DM hg) hS 31 30 rfl rfl (i := 0) (x := z10850) (vin (a := 0) (by decide) (by omega)) dX12_lostBy_170 (fun H locs hP _ hS => ?_)
                    have hP := va_P_eq (sM_31 g c _ _ _ _) hP
                    have hI := IM.store0 hI 31 (0 : Int32).toNatClampNeg z10850 rfl
                    have hF := frUF (k := 31) (f := upd (F_lp10841 31) (0 : Int32).toNatClampNeg z10850) (by decide) hF
                    have hP : va_P (dC, dI) classes (wM g c v_lp10841 (va_up F_lp10841 31 (upd (F_lp10841 31) (0 : Int32).toNatClampNeg z10850)) rc) H := hP
                    generalize (va_up F_lp10841 31 (upd (F_lp10841 31) (0 : Int32).toNatClampNeg z10850)) = F10853 at hP hI hF
                    refine lv_aload_n hx hb dX12_lostBy_171 rfl (lv_at hl 3 rfl) ?_
                    refine va_get (D := (dC, dI)) (ci := 12) (v := .ref (g 31)) (C := RX12) (T := TX12) (N := 63) hx hb hwd inA_X12 hown hK hP 0 rfl rfl 44 (by decide) (hwd _ wk_213) (fun _ h9 => h9) rfl dX12_lostBy_172 ?_
                    refine lv_iconst (v := 1) hx hb dX12_lostBy_175 (by decide) ?_
                    refine lv_aload_n hx hb dX12_lostBy_176 rfl (lv_at hl 3 rfl) ?_
                    refine va_get (D := (dC, dI)) (ci := 12) (v := .ref (g 20)) (C := RX12) (T := TX12) (N := 63) hx hb hwd inA_X12 hown hK hP 0 rfl rfl 25 (by decide) (hwd _ wk_201) (fun _ h9 => h9) rfl dX12_lostBy_177 ?_
                    refine lv_iload_n hx hb dX12_lostBy_180 rfl (lv_at hl 4 rfl) ?_
                    refine va_iald hx hb hK hP 20 19 rfl rfl (i := p0) (vin (a := p0.toInt) rfl (by omega)) dX12_lostBy_181 ?_
                    refine lv_topi (fun z10854 e10855 => ?_)
                    have e10855 : z10854 = F 20 (p0 : Int32).toNatClampNeg := e10855.trans (congrFun (hF 20 (by decide)) _)
                    refine lv_aload_n hx hb dX12_lostBy_182 rfl (lv_at hl 3 rfl) ?_
                    refine va_get (D := (dC, dI)) (ci := 12) (v := .ref (g 19)) (C := RX12) (T := TX12) (N := 63) hx hb hwd inA_X12 hown hK hP 0 rfl rfl 24 (by decide) (hwd _ wk_200) (fun _ h9 => h9) rfl dX12_lostBy_183 ?_
                    refine lv_iload_n hx hb dX12_lostBy_186 rfl (lv_at hl 4 rfl) ?_
                    refine va_iald hx hb hK hP 19 18 rfl rfl (i := p0) (vin (a := p0.toInt) rfl (by omega)) dX12_lostBy_187 ?_
                    refine lv_topi (fun z10856 e10857 => ?_)
                    have e10857 : z10856 = F 19 (p0 : Int32).toNatClampNeg := e10857.trans (congrFun (hF 19 (by decide)) _)
                    refine lv_isub hx hb dX12_lostBy_188 ?_
                    refine lv_topi (fun z10858 e10859 => ?_)
                    try (have t10860 := tsub e10859 (a := z10854.toInt) rfl (b := z10856.toInt) rfl (by omega))
                    refine va_iast hx hb hK hP (DM hg) hS 31 30 rfl rfl (i := 1) (x := z10858) (vin (a := 1) (by decide) (by omega)) dX12_lostBy_189 (fun H locs hP _ hS => ?_)
                    have hP := va_P_eq (sM_31 g c _ _ _ _) hP
                    have hI := IM.store0 hI 31 (1 : Int32).toNatClampNeg z10858 rfl
                    have hF := frUF (k := 31) (f := upd (F10853 31) (1 : Int32).toNatClampNeg z10858) (by decide) hF
                    have hP : va_P (dC, dI) classes (wM g c v_lp10841 (va_up F10853 31 (upd (F10853 31) (1 : Int32).toNatClampNeg z10858)) rc) H := hP
                    generalize (va_up F10853 31 (upd (F10853 31) (1 : Int32).toNatClampNeg z10858)) = F10861 at hP hI hF
                    refine lv_aload_n hx hb dX12_lostBy_190 rfl (lv_at hl 3 rfl) ?_
                    refine va_get (D := (dC, dI)) (ci := 12) (v := .ref (g 31)) (C := RX12) (T := TX12) (N := 63) hx hb hwd inA_X12 hown hK hP 0 rfl rfl 44 (by decide) (hwd _ wk_213) (fun _ h9 => h9) rfl dX12_lostBy_191 ?_
                    refine lv_iconst (v := 2) hx hb dX12_lostBy_194 (by decide) ?_
                    refine lv_aload_n hx hb dX12_lostBy_195 rfl (lv_at hl 3 rfl) ?_
                    refine va_get (D := (dC, dI)) (ci := 12) (v := .ref (g 22)) (C := RX12) (T := TX12) (N := 63) hx hb hwd inA_X12 hown hK hP 0 rfl rfl 27 (by decide) (hwd _ wk_203) (fun _ h9 => h9) rfl dX12_lostBy_196 ?_
                    refine lv_iload_n hx hb dX12_lostBy_199 rfl (lv_at hl 4 rfl) ?_
                    refine va_iald hx hb hK hP 22 21 rfl rfl (i := p0) (vin (a := p0.toInt) rfl (by omega)) dX12_lostBy_200 ?_
                    refine lv_topi (fun z10862 e10863 => ?_)
                    have e10863 : z10862 = F 22 (p0 : Int32).toNatClampNeg := e10863.trans (congrFun (hF 22 (by decide)) _)
                    refine lv_aload_n hx hb dX12_lostBy_201 rfl (lv_at hl 3 rfl) ?_
                    refine va_get (D := (dC, dI)) (ci := 12) (v := .ref (g 21)) (C := RX12) (T := TX12) (N := 63) hx hb hwd inA_X12 hown hK hP 0 rfl rfl 26 (by decide) (hwd _ wk_202) (fun _ h9 => h9) rfl dX12_lostBy_202 ?_
                    refine lv_iload_n hx hb dX12_lostBy_205 rfl (lv_at hl 4 rfl) ?_
                    refine va_iald hx hb hK hP 21 20 rfl rfl (i := p0) (vin (a := p0.toInt) rfl (by omega)) dX12_lostBy_206 ?_
                    refine lv_topi (fun z10864 e10865 => ?_)
                    have e10865 : z10864 = F 21 (p0 : Int32).toNatClampNeg := e10865.trans (congrFun (hF 21 (by decide)) _)
                    refine lv_isub hx hb dX12_lostBy_207 ?_
                    refine lv_topi (fun z10866 e10867 => ?_)
                    try (have t10868 := tsub e10867 (a := z10862.toInt) rfl (b := z10864.toInt) rfl (by omega))
                    refine va_iast hx hb hK hP (DM hg) hS 31 30 rfl rfl (i := 2) (x := z10866) (vin (a := 2) (by decide) (by omega)) dX12_lostBy_208 (fun H locs hP _ hS => ?_)
                    have hP := va_P_eq (sM_31 g c _ _ _ _) hP
                    have hI := IM.store0 hI 31 (2 : Int32).toNatClampNeg z10866 rfl
                    have hF := frUF (k := 31) (f := upd (F10861 31) (2 : Int32).toNatClampNeg z10866) (by decide) hF
                    have hP : va_P (dC, dI) classes (wM g c v_lp10841 (va_up F10861 31 (upd (F10861 31) (2 : Int32).toNatClampNeg z10866)) rc) H := hP
                    generalize (va_up F10861 31 (upd (F10861 31) (2 : Int32).toNatClampNeg z10866)) = F10869 at hP hI hF
                    refine lv_aload_n hx hb dX12_lostBy_209 rfl (lv_at hl 3 rfl) ?_
                    refine va_get (D := (dC, dI)) (ci := 12) (v := .ref (g 31)) (C := RX12) (T := TX12) (N := 63) hx hb hwd inA_X12 hown hK hP 0 rfl rfl 44 (by decide) (hwd _ wk_213) (fun _ h9 => h9) rfl dX12_lostBy_210 ?_
                    refine lv_iconst (v := 3) hx hb dX12_lostBy_213 (by decide) ?_
                    refine lv_aload_n hx hb dX12_lostBy_214 rfl (lv_at hl 3 rfl) ?_
                    refine va_get (D := (dC, dI)) (ci := 12) (v := .ref (g 16)) (C := RX12) (T := TX12) (N := 63) hx hb hwd inA_X12 hown hK hP 0 rfl rfl 21 (by decide) (hwd _ wk_197) (fun _ h9 => h9) rfl dX12_lostBy_215 ?_
                    refine lv_iload_n hx hb dX12_lostBy_218 rfl (lv_at hl 4 rfl) ?_
                    refine va_iald hx hb hK hP 16 15 rfl rfl (i := p0) (vin (a := p0.toInt) rfl (by omega)) dX12_lostBy_219 ?_
                    refine lv_topi (fun z10870 e10871 => ?_)
                    have t10872 : 0 ≤ z10870.toInt ∧ z10870.toInt ≤ 11 := by rw [e10871]; exact hI.2 16 _ _ rfl _
                    have e10871 : z10870 = F 16 (p0 : Int32).toNatClampNeg := e10871.trans (congrFun (hF 16 (by decide)) _)
                    refine va_iast hx hb hK hP (DM hg) hS 31 30 rfl rfl (i := 3) (x := z10870) (vin (a := 3) (by decide) (by omega)) dX12_lostBy_220 (fun H locs hP _ hS => ?_)
                    have hP := va_P_eq (sM_31 g c _ _ _ _) hP
                    have hI := IM.store0 hI 31 (3 : Int32).toNatClampNeg z10870 rfl
                    have hF := frUF (k := 31) (f := upd (F10869 31) (3 : Int32).toNatClampNeg z10870) (by decide) hF
                    have hP : va_P (dC, dI) classes (wM g c v_lp10841 (va_up F10869 31 (upd (F10869 31) (3 : Int32).toNatClampNeg z10870)) rc) H := hP
                    generalize (va_up F10869 31 (upd (F10869 31) (3 : Int32).toNatClampNeg z10870)) = F10873 at hP hI hF
                    refine lv_aload_n hx hb dX12_lostBy_221 rfl (lv_at hl 3 rfl) ?_
                    refine va_get (D := (dC, dI)) (ci := 12) (v := .ref (g 31)) (C := RX12) (T := TX12) (N := 63) hx hb hwd inA_X12 hown hK hP 0 rfl rfl 44 (by decide) (hwd _ wk_213) (fun _ h9 => h9) rfl dX12_lostBy_222 ?_
                    refine lv_iconst (v := 4) hx hb dX12_lostBy_225 (by decide) ?_
                    refine lv_aload_n hx hb dX12_lostBy_226 rfl (lv_at hl 3 rfl) ?_
                    refine va_get (D := (dC, dI)) (ci := 12) (v := .ref (g 11)) (C := RX12) (T := TX12) (N := 63) hx hb hwd inA_X12 hown hK hP 0 rfl rfl 15 (by decide) (hwd _ wk_192) (fun _ h9 => h9) rfl dX12_lostBy_227 ?_
                    refine lv_aload_n hx hb dX12_lostBy_230 rfl (lv_at hl 3 rfl) ?_
                    refine va_get (D := (dC, dI)) (ci := 12) (v := .ref (g 15)) (C := RX12) (T := TX12) (N := 63) hx hb hwd inA_X12 hown hK hP 0 rfl rfl 20 (by decide) (hwd _ wk_196) (fun _ h9 => h9) rfl dX12_lostBy_231 ?_
                    refine lv_iload_n hx hb dX12_lostBy_234 rfl (lv_at hl 4 rfl) ?_
                    refine va_iald hx hb hK hP 15 14 rfl rfl (i := p0) (vin (a := p0.toInt) rfl (by omega)) dX12_lostBy_235 ?_
                    refine lv_topi (fun z10874 e10875 => ?_)
                    have t10876 : 0 ≤ z10874.toInt ∧ z10874.toInt ≤ 99 := by rw [e10875]; exact hI.2 15 _ _ rfl _
                    have e10875 : z10874 = F 15 (p0 : Int32).toNatClampNeg := e10875.trans (congrFun (hF 15 (by decide)) _)
                    refine va_iald hx hb hK hP 11 10 rfl rfl (i := z10874) (vin (a := z10874.toInt) rfl (by omega)) dX12_lostBy_236 ?_
                    refine lv_topi (fun z10877 e10878 => ?_)
                    have t10879 : 0 ≤ z10877.toInt ∧ z10877.toInt ≤ 9 := by rw [e10878]; exact hI.2 11 _ _ rfl _
                    have e10878 : z10877 = F 11 (z10874 : Int32).toNatClampNeg := e10878.trans (congrFun (hF 11 (by decide)) _)
                    refine va_iast hx hb hK hP (DM hg) hS 31 30 rfl rfl (i := 4) (x := z10877) (vin (a := 4) (by decide) (by omega)) dX12_lostBy_237 (fun H locs hP _ hS => ?_)
                    have hP := va_P_eq (sM_31 g c _ _ _ _) hP
                    have hI := IM.store0 hI 31 (4 : Int32).toNatClampNeg z10877 rfl
                    have hF := frUF (k := 31) (f := upd (F10873 31) (4 : Int32).toNatClampNeg z10877) (by decide) hF
                    have hP : va_P (dC, dI) classes (wM g c v_lp10841 (va_up F10873 31 (upd (F10873 31) (4 : Int32).toNatClampNeg z10877)) rc) H := hP
                    generalize (va_up F10873 31 (upd (F10873 31) (4 : Int32).toNatClampNeg z10877)) = F10880 at hP hI hF
                    refine lv_aload_n hx hb dX12_lostBy_238 rfl (lv_at hl 3 rfl) ?_
                    refine va_get (D := (dC, dI)) (ci := 12) (v := .ref (g 31)) (C := RX12) (T := TX12) (N := 63) hx hb hwd inA_X12 hown hK hP 0 rfl rfl 44 (by decide) (hwd _ wk_213) (fun _ h9 => h9) rfl dX12_lostBy_239 ?_
                    refine lv_iconst (v := 5) hx hb dX12_lostBy_242 (by decide) ?_
                    refine lv_iload hx hb dX12_lostBy_243 (lv_at hl 1 rfl) ?_
                    refine va_iast hx hb hK hP (DM hg) hS 31 30 rfl rfl (i := 5) (x := x4_lp10841) (vin (a := 5) (by decide) (by omega)) dX12_lostBy_245 (fun H locs hP _ hS => ?_)
                    have hP := va_P_eq (sM_31 g c _ _ _ _) hP
                    have hI := IM.store0 hI 31 (5 : Int32).toNatClampNeg x4_lp10841 rfl
                    have hF := frUF (k := 31) (f := upd (F10880 31) (5 : Int32).toNatClampNeg x4_lp10841) (by decide) hF
                    have hP : va_P (dC, dI) classes (wM g c v_lp10841 (va_up F10880 31 (upd (F10880 31) (5 : Int32).toNatClampNeg x4_lp10841)) rc) H := hP
                    generalize (va_up F10880 31 (upd (F10880 31) (5 : Int32).toNatClampNeg x4_lp10841)) = F10881 at hP hI hF
                    refine lv_aload_n hx hb dX12_lostBy_246 rfl (lv_at hl 3 rfl) ?_
                    refine lv_iload_n hx hb dX12_lostBy_247 rfl (lv_at hl 2 rfl) ?_
                    refine va_calli (va_runV (As := [.int x3_lp10687]) (rest := []) ⟨hx, hb, hml, hown, hwd⟩ (c_X12_works l dC dI g c adK adV v_lp10841 F10881 rc H.size x3_lp10687 hg hI (by omega) (JL.at' (JL.to hL rfl (hF 28 (by decide)) (hF 29 (by decide)) (hF 27 (by decide))) (i := x3_lp10687) (by omega) (by omega))) (cwV 1 hwd (gV wk_513 wk_510 wk_511 wk_512 wk_5) rfl rfl rfl (by decide +kernel) ⟨Nat.le_of_ble_eq_true rfl, Nat.le_of_ble_eq_true rfl⟩) ⟨PM.blind, va_recv hK hP (ci := 12) (q0 := 0) rfl rfl, fun U hU hW => ⟨rfl, PM.at hK hE hP hS hU hW⟩⟩ rfl rfl hl.1 rfl (lv_room (Nat.le_of_ble_eq_true rfl)) dX12_lostBy_248 ⟨Nat.le_of_ble_eq_true rfl, Nat.le_of_ble_eq_true rfl⟩) hS (fun q _ h => (freeM hS) q h) (freeM hS) (fun r10882 u t H1 locs ht hvm hw hB hz1 hk1 hS => ?_)
                    unfold BM at hB
                    rw [ht] at hB
                    obtain ⟨v10883, F10884, rc9⟩ := u
                    obtain ⟨hI, hrc, hf10885, hG10886, hw⟩ := hw
                    dsimp only at hI hrc hB hf10885 hG10886 hw
                    have hF := frCF (by decide) hG10886 hF
                    rw [hrc] at hB
                    have hP : va_P (dC, dI) classes (wM g c v10883 F10884 rc) H1 := hB
                    clear hz1
                    generalize H1 = H at hP hS ⊢
                    have rr_r10882 := i32_rng r10882
                    refine lv_istore (lv' := [(5, .int r10882), (4, .int x4_lp10841), (3, .int x3_lp10687), (0, .ref (g 0)), (1, .int p0), (2, .int p1)]) hx hb dX12_lostBy_251 hl (by decide) rfl (fun ls hl => ?_)
                    refine lv_iload hx hb dX12_lostBy_253 (lv_at hl 0 rfl) ?_
                    refine lv_if_ge (tgt := 262) hx hb dX12_lostBy_255 (by decide) (fun c10887 => ?_) (fun c10887 => ?_)
                    · skip
                      have t10888 := cv_le (a := 0) (by decide) (b := r10882.toInt) rfl c10887
                      refine lv_iload hx hb dX12_lostBy_262 (lv_at hl 0 rfl) ?_
                      refine lv_bipush (v := 100) hx hb dX12_lostBy_264 (by decide) ?_
                      refine lv_icmp_le (tgt := 274) hx hb dX12_lostBy_266 (by decide) (fun c10889 => ?_) (fun c10889 => ?_)
                      · skip
                        have t10890 := cv_le (a := r10882.toInt) rfl (b := 100) (by decide) c10889
                        refine lv_iload hx hb dX12_lostBy_274 (lv_at hl 0 rfl) ?_
                        have hP9 : va_P (dC, dI) classes (wM g c v10883 F10884 rc) H := hP
                        exact W.iret (v := r10882) hx hb hr (fun t ht hW => ⟨⟨r10882, (v10883, F10884, rc), rfl, ⟨hI, rfl, (frC (by decide) hf10885 (frC (by decide) hf_lp10841 (frC (by decide) hf_lp10687 (fun _ _ => rfl)))), hF, by omega⟩, (by show va_P _ _ _ t.heap; rw [ht]; exact hP9)⟩, hS.F ht⟩) hS.2.2 dX12_lostBy_276
                      · skip
                        have t10891 := cv_nle (a := r10882.toInt) rfl (b := 100) (by decide) c10889
                        refine lv_bipush (v := 100) hx hb dX12_lostBy_269 (by decide) ?_
                        refine lv_goto (tgt := 276) hx hb dX12_lostBy_271 (by decide) ?_
                        have hP9 : va_P (dC, dI) classes (wM g c v10883 F10884 rc) H := hP
                        exact W.iret (v := 100) hx hb hr (fun t ht hW => ⟨⟨100, (v10883, F10884, rc), rfl, ⟨hI, rfl, (frC (by decide) hf10885 (frC (by decide) hf_lp10841 (frC (by decide) hf_lp10687 (fun _ _ => rfl)))), hF, by have : (100 : Int32).toInt = 100 := (by decide); omega⟩, (by show va_P _ _ _ t.heap; rw [ht]; exact hP9)⟩, hS.F ht⟩) hS.2.2 dX12_lostBy_276
                    · skip
                      have t10892 := cv_nle (a := 0) (by decide) (b := r10882.toInt) rfl c10887
                      refine lv_iconst (v := 0) hx hb dX12_lostBy_258 (by decide) ?_
                      refine lv_goto (tgt := 276) hx hb dX12_lostBy_259 (by decide) ?_
                      have hP9 : va_P (dC, dI) classes (wM g c v10883 F10884 rc) H := hP
                      exact W.iret (v := 0) hx hb hr (fun t ht hW => ⟨⟨0, (v10883, F10884, rc), rfl, ⟨hI, rfl, (frC (by decide) hf10885 (frC (by decide) hf_lp10841 (frC (by decide) hf_lp10687 (fun _ _ => rfl)))), hF, by have : (0 : Int32).toInt = 0 := (by decide); omega⟩, (by show va_P _ _ _ t.heap; rw [ht]; exact hP9)⟩, hS.F ht⟩) hS.2.2 dX12_lostBy_276
                  · skip
                    have t10893 := cv_nle (a := (v 19).toInt) rfl (b := x5_lp10841.toInt) rfl c10844
                    refine lv_iload hx hb dX12_lostBy_63 (lv_at hl 1 rfl) ?_
                    refine lv_iload hx hb dX12_lostBy_65 (lv_at hl 0 rfl) ?_
                    refine lv_iload_n hx hb dX12_lostBy_67 rfl (lv_at hl 4 rfl) ?_
                    refine lv_icmp_eq (tgt := 142) hx hb dX12_lostBy_68 (by decide) (fun c10894 => ?_) (fun c10894 => ?_)
                    · skip
                      have t10895 := cv_eq (a := x5_lp10841.toInt) rfl (b := p0.toInt) rfl c10894
                      refine lv_iconst (v := 0) hx hb dX12_lostBy_142 (by decide) ?_
                      refine lv_iadd hx hb dX12_lostBy_143 ?_
                      refine lv_topi (fun z10896 e10897 => ?_)
                      try (have t10898 := tadd e10897 (a := x4_lp10841.toInt) rfl (b := 0) (by decide) (by omega))
                      refine lv_istore (lv' := [(4, .int z10896), (5, .int x5_lp10841), (3, .int x3_lp10687), (0, .ref (g 0)), (1, .int p0), (2, .int p1)]) hx hb dX12_lostBy_144 hl (by decide) rfl (fun ls hl => ?_)
                      obtain ⟨z10899, e10900⟩ : ∃ y : Int32, y = x5_lp10841 + 1 := ⟨_, rfl⟩
                      try (have t10901 := tadd e10900 rfl (b := 1) (by decide) (by omega))
                      refine lv_iinc (v := z10899) (lv' := [(5, .int z10899), (4, .int z10896), (3, .int x3_lp10687), (0, .ref (g 0)), (1, .int p0), (2, .int p1)]) hx hb dX12_lostBy_146 hl (k := 1) rfl (by rw [e10900]; rfl) (by decide) rfl (fun ls hl => ?_)
                      refine lv_goto (tgt := 54) hx hb dX12_lostBy_149 (by decide) ?_
                      exact ih_lp10841 z10899 z10896 v_lp10841 F_lp10841 _ _ _ (by omega) (by omega) hf_lp10841 hI hF hP hS (lv_sub hl [0, 1, 2, 3, 4, 5] rfl)
                    · skip
                      have t10902 := cv_ne (a := x5_lp10841.toInt) rfl (b := p0.toInt) rfl c10894
                      refine lv_aload_n hx hb dX12_lostBy_71 rfl (lv_at hl 3 rfl) ?_
                      refine va_get (D := (dC, dI)) (ci := 12) (v := .ref (g 15)) (C := RX12) (T := TX12) (N := 63) hx hb hwd inA_X12 hown hK hP 0 rfl rfl 20 (by decide) (hwd _ wk_196) (fun _ h9 => h9) rfl dX12_lostBy_72 ?_
                      refine lv_iload hx hb dX12_lostBy_75 (lv_at hl 0 rfl) ?_
                      refine va_iald hx hb hK hP 15 14 rfl rfl (i := x5_lp10841) (vin (a := x5_lp10841.toInt) rfl (by omega)) dX12_lostBy_77 ?_
                      refine lv_topi (fun z10903 e10904 => ?_)
                      have t10905 : 0 ≤ z10903.toInt ∧ z10903.toInt ≤ 99 := by rw [e10904]; exact hI.2 15 _ _ rfl _
                      have e10904 : z10903 = F 15 (x5_lp10841 : Int32).toNatClampNeg := e10904.trans (congrFun (hF 15 (by decide)) _)
                      refine lv_aload_n hx hb dX12_lostBy_78 rfl (lv_at hl 3 rfl) ?_
                      refine va_get (D := (dC, dI)) (ci := 12) (v := .ref (g 15)) (C := RX12) (T := TX12) (N := 63) hx hb hwd inA_X12 hown hK hP 0 rfl rfl 20 (by decide) (hwd _ wk_196) (fun _ h9 => h9) rfl dX12_lostBy_79 ?_
                      refine lv_iload_n hx hb dX12_lostBy_82 rfl (lv_at hl 4 rfl) ?_
                      refine va_iald hx hb hK hP 15 14 rfl rfl (i := p0) (vin (a := p0.toInt) rfl (by omega)) dX12_lostBy_83 ?_
                      refine lv_topi (fun z10906 e10907 => ?_)
                      have t10908 : 0 ≤ z10906.toInt ∧ z10906.toInt ≤ 99 := by rw [e10907]; exact hI.2 15 _ _ rfl _
                      have e10907 : z10906 = F 15 (p0 : Int32).toNatClampNeg := e10907.trans (congrFun (hF 15 (by decide)) _)
                      refine lv_icmp_ne (tgt := 142) hx hb dX12_lostBy_84 (by decide) (fun c10909 => ?_) (fun c10909 => ?_)
                      · skip
                        have t10910 := cv_ne (a := z10903.toInt) rfl (b := z10906.toInt) rfl c10909
                        refine lv_iconst (v := 0) hx hb dX12_lostBy_142 (by decide) ?_
                        refine lv_iadd hx hb dX12_lostBy_143 ?_
                        refine lv_topi (fun z10911 e10912 => ?_)
                        try (have t10913 := tadd e10912 (a := x4_lp10841.toInt) rfl (b := 0) (by decide) (by omega))
                        refine lv_istore (lv' := [(4, .int z10911), (5, .int x5_lp10841), (3, .int x3_lp10687), (0, .ref (g 0)), (1, .int p0), (2, .int p1)]) hx hb dX12_lostBy_144 hl (by decide) rfl (fun ls hl => ?_)
                        obtain ⟨z10914, e10915⟩ : ∃ y : Int32, y = x5_lp10841 + 1 := ⟨_, rfl⟩
                        try (have t10916 := tadd e10915 rfl (b := 1) (by decide) (by omega))
                        refine lv_iinc (v := z10914) (lv' := [(5, .int z10914), (4, .int z10911), (3, .int x3_lp10687), (0, .ref (g 0)), (1, .int p0), (2, .int p1)]) hx hb dX12_lostBy_146 hl (k := 1) rfl (by rw [e10915]; rfl) (by decide) rfl (fun ls hl => ?_)
                        refine lv_goto (tgt := 54) hx hb dX12_lostBy_149 (by decide) ?_
                        exact ih_lp10841 z10914 z10911 v_lp10841 F_lp10841 _ _ _ (by omega) (by omega) hf_lp10841 hI hF hP hS (lv_sub hl [0, 1, 2, 3, 4, 5] rfl)
                      · skip
                        have t10917 := cv_eq (a := z10903.toInt) rfl (b := z10906.toInt) rfl c10909
                        refine lv_aload_n hx hb dX12_lostBy_87 rfl (lv_at hl 3 rfl) ?_
                        refine lv_iload hx hb dX12_lostBy_88 (lv_at hl 0 rfl) ?_
                        refine va_calli (va_runV (As := [.int x5_lp10841]) (rest := [.int x4_lp10841]) ⟨hx, hb, hml, hown, hwd⟩ (c_X12_isGap l dC dI g c adK adV v_lp10841 F_lp10841 rc H.size x5_lp10841 hg hI (by omega)) (cwV 1 hwd (gV wk_499 wk_496 wk_497 wk_498 wk_5) rfl rfl rfl (by decide +kernel) ⟨Nat.le_of_ble_eq_true rfl, Nat.le_of_ble_eq_true rfl⟩) ⟨PM.blind, va_recv hK hP (ci := 12) (q0 := 0) rfl rfl, fun U hU hW => ⟨rfl, PM.at hK hE hP hS hU hW⟩⟩ rfl rfl hl.1 rfl (lv_room (Nat.le_of_ble_eq_true rfl)) dX12_lostBy_90 ⟨Nat.le_of_ble_eq_true rfl, Nat.le_of_ble_eq_true rfl⟩) hS (fun q _ h => (freeM hS) q h) (freeM hS) (fun r10918 u t H1 locs ht hvm hw hB hz1 hk1 hS => ?_)
                        unfold BM at hB
                        rw [ht] at hB
                        have hP : va_P (dC, dI) classes (wM g c v_lp10841 F_lp10841 rc) H1 := hB
                        have hw_r10918 : 0 ≤ r10918.toInt ∧ r10918.toInt ≤ 1 := hw
                        clear hw
                        clear hz1
                        generalize H1 = H at hP hS ⊢
                        refine lv_if_eq (tgt := 142) hx hb dX12_lostBy_93 (by decide) (fun c10919 => ?_) (fun c10919 => ?_)
                        · skip
                          have t10920 := cv_eq (a := r10918.toInt) rfl (b := 0) (by decide) c10919
                          refine lv_iconst (v := 0) hx hb dX12_lostBy_142 (by decide) ?_
                          refine lv_iadd hx hb dX12_lostBy_143 ?_
                          refine lv_topi (fun z10921 e10922 => ?_)
                          try (have t10923 := tadd e10922 (a := x4_lp10841.toInt) rfl (b := 0) (by decide) (by omega))
                          refine lv_istore (lv' := [(4, .int z10921), (5, .int x5_lp10841), (3, .int x3_lp10687), (0, .ref (g 0)), (1, .int p0), (2, .int p1)]) hx hb dX12_lostBy_144 hl (by decide) rfl (fun ls hl => ?_)
                          obtain ⟨z10924, e10925⟩ : ∃ y : Int32, y = x5_lp10841 + 1 := ⟨_, rfl⟩
                          try (have t10926 := tadd e10925 rfl (b := 1) (by decide) (by omega))
                          refine lv_iinc (v := z10924) (lv' := [(5, .int z10924), (4, .int z10921), (3, .int x3_lp10687), (0, .ref (g 0)), (1, .int p0), (2, .int p1)]) hx hb dX12_lostBy_146 hl (k := 1) rfl (by rw [e10925]; rfl) (by decide) rfl (fun ls hl => ?_)
                          refine lv_goto (tgt := 54) hx hb dX12_lostBy_149 (by decide) ?_
                          exact ih_lp10841 z10924 z10921 v_lp10841 F_lp10841 _ _ _ (by omega) (by omega) hf_lp10841 hI hF hP hS (lv_sub hl [0, 1, 2, 3, 4, 5] rfl)
                        · skip
                          have t10927 := cv_ne (a := r10918.toInt) rfl (b := 0) (by decide) c10919
                          refine lv_aload_n hx hb dX12_lostBy_96 rfl (lv_at hl 3 rfl) ?_
                          refine va_get (D := (dC, dI)) (ci := 12) (v := .ref (g 18)) (C := RX12) (T := TX12) (N := 63) hx hb hwd inA_X12 hown hK hP 0 rfl rfl 23 (by decide) (hwd _ wk_199) (fun _ h9 => h9) rfl dX12_lostBy_97 ?_
                          refine lv_iload hx hb dX12_lostBy_100 (lv_at hl 0 rfl) ?_
                          refine va_iald hx hb hK hP 18 17 rfl rfl (i := x5_lp10841) (vin (a := x5_lp10841.toInt) rfl (by omega)) dX12_lostBy_102 ?_
                          refine lv_topi (fun z10928 e10929 => ?_)
                          have e10929 : z10928 = F 18 (x5_lp10841 : Int32).toNatClampNeg := e10929.trans (congrFun (hF 18 (by decide)) _)
                          refine lv_aload_n hx hb dX12_lostBy_103 rfl (lv_at hl 3 rfl) ?_
                          refine va_get (D := (dC, dI)) (ci := 12) (v := .ref (g 18)) (C := RX12) (T := TX12) (N := 63) hx hb hwd inA_X12 hown hK hP 0 rfl rfl 23 (by decide) (hwd _ wk_199) (fun _ h9 => h9) rfl dX12_lostBy_104 ?_
                          refine lv_iload_n hx hb dX12_lostBy_107 rfl (lv_at hl 4 rfl) ?_
                          refine va_iald hx hb hK hP 18 17 rfl rfl (i := p0) (vin (a := p0.toInt) rfl (by omega)) dX12_lostBy_108 ?_
                          refine lv_topi (fun z10930 e10931 => ?_)
                          have e10931 : z10930 = F 18 (p0 : Int32).toNatClampNeg := e10931.trans (congrFun (hF 18 (by decide)) _)
                          refine lv_icmp_lt (tgt := 138) hx hb dX12_lostBy_109 (by decide) (fun c10932 => ?_) (fun c10932 => ?_)
                          · skip
                            have t10933 := cv_lt (a := z10928.toInt) rfl (b := z10930.toInt) rfl c10932
                            refine lv_iconst (v := 1) hx hb dX12_lostBy_138 (by decide) ?_
                            refine lv_goto (tgt := 143) hx hb dX12_lostBy_139 (by decide) ?_
                            refine lv_iadd hx hb dX12_lostBy_143 ?_
                            refine lv_topi (fun z10934 e10935 => ?_)
                            try (have t10936 := tadd e10935 (a := x4_lp10841.toInt) rfl (b := 1) (by decide) (by omega))
                            refine lv_istore (lv' := [(4, .int z10934), (5, .int x5_lp10841), (3, .int x3_lp10687), (0, .ref (g 0)), (1, .int p0), (2, .int p1)]) hx hb dX12_lostBy_144 hl (by decide) rfl (fun ls hl => ?_)
                            obtain ⟨z10937, e10938⟩ : ∃ y : Int32, y = x5_lp10841 + 1 := ⟨_, rfl⟩
                            try (have t10939 := tadd e10938 rfl (b := 1) (by decide) (by omega))
                            refine lv_iinc (v := z10937) (lv' := [(5, .int z10937), (4, .int z10934), (3, .int x3_lp10687), (0, .ref (g 0)), (1, .int p0), (2, .int p1)]) hx hb dX12_lostBy_146 hl (k := 1) rfl (by rw [e10938]; rfl) (by decide) rfl (fun ls hl => ?_)
                            refine lv_goto (tgt := 54) hx hb dX12_lostBy_149 (by decide) ?_
                            exact ih_lp10841 z10937 z10934 v_lp10841 F_lp10841 _ _ _ (by omega) (by omega) hf_lp10841 hI hF hP hS (lv_sub hl [0, 1, 2, 3, 4, 5] rfl)
                          · skip
                            have t10940 := cv_nlt (a := z10928.toInt) rfl (b := z10930.toInt) rfl c10932
                            refine lv_aload_n hx hb dX12_lostBy_112 rfl (lv_at hl 3 rfl) ?_
                            refine va_get (D := (dC, dI)) (ci := 12) (v := .ref (g 18)) (C := RX12) (T := TX12) (N := 63) hx hb hwd inA_X12 hown hK hP 0 rfl rfl 23 (by decide) (hwd _ wk_199) (fun _ h9 => h9) rfl dX12_lostBy_113 ?_
                            refine lv_iload hx hb dX12_lostBy_116 (lv_at hl 0 rfl) ?_
                            refine va_iald hx hb hK hP 18 17 rfl rfl (i := x5_lp10841) (vin (a := x5_lp10841.toInt) rfl (by omega)) dX12_lostBy_118 ?_
                            refine lv_topi (fun z10941 e10942 => ?_)
                            have e10942 : z10941 = F 18 (x5_lp10841 : Int32).toNatClampNeg := e10942.trans (congrFun (hF 18 (by decide)) _)
                            refine lv_aload_n hx hb dX12_lostBy_119 rfl (lv_at hl 3 rfl) ?_
                            refine va_get (D := (dC, dI)) (ci := 12) (v := .ref (g 18)) (C := RX12) (T := TX12) (N := 63) hx hb hwd inA_X12 hown hK hP 0 rfl rfl 23 (by decide) (hwd _ wk_199) (fun _ h9 => h9) rfl dX12_lostBy_120 ?_
                            refine lv_iload_n hx hb dX12_lostBy_123 rfl (lv_at hl 4 rfl) ?_
                            refine va_iald hx hb hK hP 18 17 rfl rfl (i := p0) (vin (a := p0.toInt) rfl (by omega)) dX12_lostBy_124 ?_
                            refine lv_topi (fun z10943 e10944 => ?_)
                            have e10944 : z10943 = F 18 (p0 : Int32).toNatClampNeg := e10944.trans (congrFun (hF 18 (by decide)) _)
                            refine lv_icmp_ne (tgt := 142) hx hb dX12_lostBy_125 (by decide) (fun c10945 => ?_) (fun c10945 => ?_)
                            · skip
                              have t10946 := cv_ne (a := z10941.toInt) rfl (b := z10943.toInt) rfl c10945
                              refine lv_iconst (v := 0) hx hb dX12_lostBy_142 (by decide) ?_
                              refine lv_iadd hx hb dX12_lostBy_143 ?_
                              refine lv_topi (fun z10947 e10948 => ?_)
                              try (have t10949 := tadd e10948 (a := x4_lp10841.toInt) rfl (b := 0) (by decide) (by omega))
                              refine lv_istore (lv' := [(4, .int z10947), (5, .int x5_lp10841), (3, .int x3_lp10687), (0, .ref (g 0)), (1, .int p0), (2, .int p1)]) hx hb dX12_lostBy_144 hl (by decide) rfl (fun ls hl => ?_)
                              obtain ⟨z10950, e10951⟩ : ∃ y : Int32, y = x5_lp10841 + 1 := ⟨_, rfl⟩
                              try (have t10952 := tadd e10951 rfl (b := 1) (by decide) (by omega))
                              refine lv_iinc (v := z10950) (lv' := [(5, .int z10950), (4, .int z10947), (3, .int x3_lp10687), (0, .ref (g 0)), (1, .int p0), (2, .int p1)]) hx hb dX12_lostBy_146 hl (k := 1) rfl (by rw [e10951]; rfl) (by decide) rfl (fun ls hl => ?_)
                              refine lv_goto (tgt := 54) hx hb dX12_lostBy_149 (by decide) ?_
                              exact ih_lp10841 z10950 z10947 v_lp10841 F_lp10841 _ _ _ (by omega) (by omega) hf_lp10841 hI hF hP hS (lv_sub hl [0, 1, 2, 3, 4, 5] rfl)
                            · skip
                              have t10953 := cv_eq (a := z10941.toInt) rfl (b := z10943.toInt) rfl c10945
                              refine lv_aload_n hx hb dX12_lostBy_128 rfl (lv_at hl 3 rfl) ?_
                              refine lv_iload hx hb dX12_lostBy_129 (lv_at hl 0 rfl) ?_
                              refine lv_iload_n hx hb dX12_lostBy_131 rfl (lv_at hl 4 rfl) ?_
                              refine va_calli (va_runV (As := [.int x5_lp10841, .int p0]) (rest := [.int x4_lp10841]) ⟨hx, hb, hml, hown, hwd⟩ (c_X12_isAhead l dC dI g c adK adV v_lp10841 F_lp10841 rc H.size x5_lp10841 p0 hg hI (by omega) (by omega)) (cwV 2 hwd (gV wk_509 wk_506 wk_507 wk_508 wk_5) rfl rfl rfl (by decide +kernel) ⟨Nat.le_of_ble_eq_true rfl, Nat.le_of_ble_eq_true rfl⟩) ⟨PM.blind, va_recv hK hP (ci := 12) (q0 := 0) rfl rfl, fun U hU hW => ⟨rfl, PM.at hK hE hP hS hU hW⟩⟩ rfl rfl hl.1 rfl (lv_room (Nat.le_of_ble_eq_true rfl)) dX12_lostBy_132 ⟨Nat.le_of_ble_eq_true rfl, Nat.le_of_ble_eq_true rfl⟩) hS (fun q _ h => (freeM hS) q h) (freeM hS) (fun r10954 u t H1 locs ht hvm hw hB hz1 hk1 hS => ?_)
                              unfold BM at hB
                              rw [ht] at hB
                              have hP : va_P (dC, dI) classes (wM g c v_lp10841 F_lp10841 rc) H1 := hB
                              replace hw : (r10954.toInt = 1 ∧ ((F_lp10841 17 x5_lp10841.toNatClampNeg).toInt < (F_lp10841 17 p0.toNatClampNeg).toInt ∨ ((F_lp10841 17 x5_lp10841.toNatClampNeg).toInt = (F_lp10841 17 p0.toNatClampNeg).toInt ∧ x5_lp10841.toInt < p0.toInt))) ∨ (r10954.toInt = 0 ∧ ¬ ((F_lp10841 17 x5_lp10841.toNatClampNeg).toInt < (F_lp10841 17 p0.toNatClampNeg).toInt ∨ ((F_lp10841 17 x5_lp10841.toNatClampNeg).toInt = (F_lp10841 17 p0.toNatClampNeg).toInt ∧ x5_lp10841.toInt < p0.toInt))) := hw
                              have hw_r10954 := hw
                              clear hw
                              clear hz1
                              generalize H1 = H at hP hS ⊢
                              refine lv_if_eq (tgt := 142) hx hb dX12_lostBy_135 (by decide) (fun c10955 => ?_) (fun c10955 => ?_)
                              · skip
                                have t10956 := cv_eq (a := r10954.toInt) rfl (b := 0) (by decide) c10955
                                refine lv_iconst (v := 0) hx hb dX12_lostBy_142 (by decide) ?_
                                refine lv_iadd hx hb dX12_lostBy_143 ?_
                                refine lv_topi (fun z10957 e10958 => ?_)
                                try (have t10959 := tadd e10958 (a := x4_lp10841.toInt) rfl (b := 0) (by decide) (by omega))
                                refine lv_istore (lv' := [(4, .int z10957), (5, .int x5_lp10841), (3, .int x3_lp10687), (0, .ref (g 0)), (1, .int p0), (2, .int p1)]) hx hb dX12_lostBy_144 hl (by decide) rfl (fun ls hl => ?_)
                                obtain ⟨z10960, e10961⟩ : ∃ y : Int32, y = x5_lp10841 + 1 := ⟨_, rfl⟩
                                try (have t10962 := tadd e10961 rfl (b := 1) (by decide) (by omega))
                                refine lv_iinc (v := z10960) (lv' := [(5, .int z10960), (4, .int z10957), (3, .int x3_lp10687), (0, .ref (g 0)), (1, .int p0), (2, .int p1)]) hx hb dX12_lostBy_146 hl (k := 1) rfl (by rw [e10961]; rfl) (by decide) rfl (fun ls hl => ?_)
                                refine lv_goto (tgt := 54) hx hb dX12_lostBy_149 (by decide) ?_
                                exact ih_lp10841 z10960 z10957 v_lp10841 F_lp10841 _ _ _ (by omega) (by omega) hf_lp10841 hI hF hP hS (lv_sub hl [0, 1, 2, 3, 4, 5] rfl)
                              · skip
                                have t10963 := cv_ne (a := r10954.toInt) rfl (b := 0) (by decide) c10955
                                refine lv_iconst (v := 1) hx hb dX12_lostBy_138 (by decide) ?_
                                refine lv_goto (tgt := 143) hx hb dX12_lostBy_139 (by decide) ?_
                                refine lv_iadd hx hb dX12_lostBy_143 ?_
                                refine lv_topi (fun z10964 e10965 => ?_)
                                try (have t10966 := tadd e10965 (a := x4_lp10841.toInt) rfl (b := 1) (by decide) (by omega))
                                refine lv_istore (lv' := [(4, .int z10964), (5, .int x5_lp10841), (3, .int x3_lp10687), (0, .ref (g 0)), (1, .int p0), (2, .int p1)]) hx hb dX12_lostBy_144 hl (by decide) rfl (fun ls hl => ?_)
                                obtain ⟨z10967, e10968⟩ : ∃ y : Int32, y = x5_lp10841 + 1 := ⟨_, rfl⟩
                                try (have t10969 := tadd e10968 rfl (b := 1) (by decide) (by omega))
                                refine lv_iinc (v := z10967) (lv' := [(5, .int z10967), (4, .int z10964), (3, .int x3_lp10687), (0, .ref (g 0)), (1, .int p0), (2, .int p1)]) hx hb dX12_lostBy_146 hl (k := 1) rfl (by rw [e10968]; rfl) (by decide) rfl (fun ls hl => ?_)
                                refine lv_goto (tgt := 54) hx hb dX12_lostBy_149 (by decide) ?_
                                exact ih_lp10841 z10967 z10964 v_lp10841 F_lp10841 _ _ _ (by omega) (by omega) hf_lp10841 hI hF hP hS (lv_sub hl [0, 1, 2, 3, 4, 5] rfl)
              obtain ⟨n9, hn9⟩ : ∃ n : Nat, 2147483648 - 0 ≤ (n : Int) := ⟨((2147483648 - 0 : Int)).toNat, by omega⟩
              exact lp10841 n9 0 0 v_lp10687 F_lp10687 H _ ls (by have : (0 : Int32).toInt = 0 := (by decide); have : (0 : Int32).toInt = 0 := (by decide); omega) (by have : (0 : Int32).toInt = 0 := (by decide); have : (0 : Int32).toInt = 0 := (by decide); omega) (fun _ _ => rfl) hI hF hP hS hl
            · skip
              have t10970 := cv_nle (a := 0) (by decide) (b := x3_lp10687.toInt) rfl c10839
              refine lv_iconst (v := 0) hx hb dX12_lostBy_46 (by decide) ?_
              have hP9 : va_P (dC, dI) classes (wM g c v_lp10687 F_lp10687 rc) H := hP
              exact W.iret (v := 0) hx hb hr (fun t ht hW => ⟨⟨0, (v_lp10687, F_lp10687, rc), rfl, ⟨hI, rfl, (frC (by decide) hf_lp10687 (fun _ _ => rfl)), hF, by have : (0 : Int32).toInt = 0 := (by decide); omega⟩, (by show va_P _ _ _ t.heap; rw [ht]; exact hP9)⟩, hS.F ht⟩) hS.2.2 dX12_lostBy_47
          · skip
            have t10971 := cv_nle (a := z10833.toInt) rfl (b := z10835.toInt) rfl c10837
            obtain ⟨z10972, e10973⟩ : ∃ y : Int32, y = x3_lp10687 + (-1) := ⟨_, rfl⟩
            try (have t10974 := tadd e10973 rfl (b := (-1)) (by decide) (by omega))
            refine lv_iinc (v := z10972) (lv' := [(3, .int z10972), (0, .ref (g 0)), (1, .int p0), (2, .int p1)]) hx hb dX12_lostBy_36 hl (k := 0) rfl (by rw [e10973]; rfl) (by decide) rfl (fun ls hl => ?_)
            refine lv_goto (tgt := 7) hx hb dX12_lostBy_39 (by decide) ?_
            exact ih_lp10687 z10972 v_lp10687 F_lp10687 _ _ _ (by omega) (by omega) (by omega) hf_lp10687 hI hF hP hS (lv_sub hl [0, 1, 2, 3] rfl)
  obtain ⟨n9, hn9⟩ : ∃ n : Nat, z10684.toInt + 2 ≤ (n : Int) := ⟨((z10684.toInt + 2 : Int)).toNat, by omega⟩
  exact lp10687 n9 z10684 v F H _ ls (by omega) (by omega) (by omega) (fun _ _ => rfl) hI hF hP hS hl
set_option maxHeartbeats 8000000 in
set_option maxRecDepth 100000 in
theorem c_X12_limitOf (l : Launch) (dC : Nat → ClassId) (dI : Nat → Nat → Nat) (g : Nat → Nat) (c : Nat → ClassId) (adK adV : Nat → Nat) (v : Nat → Int32) (F : Nat → Nat → Int32) (rc sz : Nat) (p0 : Int32) (p1 : Int32) (hg : injM g) (hI : IM v F) (h0 : 0 ≤ p0.toInt ∧ p0.toInt ≤ 99) (h1 : 0 ≤ p1.toInt ∧ p1.toInt ≤ 2) : Met l yX12_limitOf (Cond.code yX12_limitOf cX12_limitOf 3 (some .int) :: wA) ({ frames := 1, cells := 0, slots := 0, locals := 40 }) (va_Pc [.ref (g 0), .int p0, .int p1] (PM dC dI g c adK adV v F rc sz)) (va_Qi (fun (r : Int32) (u : Unit) => r.toInt = (F 1 (limJ (F 11) p0 p1)).toInt) (fun (_ : Unit) => BM dC dI g c (v, F, rc)) (AM g sz)) 0 0 (AM g sz) := by
  refine Met.ofW (cc := cX12_limitOf) (maxL := 3) (ret := (some .int)) (by decide) rfl ?_
  intro p e s m args below meth c0 s₁ B hml hv
  obtain ⟨rfl, hsz, hP, hK, hE⟩ := hv
  have hx := B.exec
  have hb := B.bytes
  have hr := B.returns
  have hts := atoms_spec (ws := Cond.code yX12_limitOf cX12_limitOf 3 (some .int) :: wA) B.pre
  have hwd : ∀ w ∈ wA, w.before _ s = true := fun w h => hts w (List.mem_cons_of_mem _ h)
  have hown : s.vm.findClass RX12 = some m.cls := findClass_of_methodNamed B.named
  have hlocks := B.notSynchronized
  subst hsz
  have hl := lv_entry ([.ref (g 0), .int p0, .int p1]) (n := 3) (Nat.le_of_ble_eq_true rfl)
  rw [lg_entry_eq]
  generalize (lg_sl ([.ref (g 0), .int p0, .int p1]) ++ List.replicate (3 - (lg_sl ([.ref (g 0), .int p0, .int p1])).length) Slot.unset).toArray = ls at hl ⊢
  have hl : lv_has ls 3 [(0, .ref (g 0)), (1, .int p0), (2, .int p1)] := hl
  obtain ⟨H, eH⟩ : ∃ z, z = s.heap := ⟨_, rfl⟩
  have hP : va_P (dC, dI) classes (wM g c v F rc) H := by rw [eH]; exact hP
  have hS : va_S (AM g s.heap.size) s.heap H [] := by rw [eH]; exact va_S.rf
  refine my_heap eH ?_
  have rp0 := i32_rng p0
  have rp1 := i32_rng p1
  refine lv_aload_n hx hb dX12_limitOf_0 rfl (lv_at hl 0 rfl) ?_
  refine va_get (D := (dC, dI)) (ci := 12) (v := .ref (g 1)) (C := RX12) (T := TX12) (N := 63) hx hb hwd inA_X12 hown hK hP 0 rfl rfl 3 (by decide) (hwd _ wk_182) (fun _ h9 => h9) rfl dX12_limitOf_1 ?_
  refine lv_iconst (v := 3) hx hb dX12_limitOf_4 (by decide) ?_
  refine lv_aload_n hx hb dX12_limitOf_5 rfl (lv_at hl 0 rfl) ?_
  refine va_get (D := (dC, dI)) (ci := 12) (v := .ref (g 11)) (C := RX12) (T := TX12) (N := 63) hx hb hwd inA_X12 hown hK hP 0 rfl rfl 15 (by decide) (hwd _ wk_192) (fun _ h9 => h9) rfl dX12_limitOf_6 ?_
  refine lv_iload_n hx hb dX12_limitOf_9 rfl (lv_at hl 1 rfl) ?_
  refine va_iald hx hb hK hP 11 10 rfl rfl (i := p0) (vin (a := p0.toInt) rfl (by omega)) dX12_limitOf_10 ?_
  refine lv_topi (fun z10975 e10976 => ?_)
  have t10977 : 0 ≤ z10975.toInt ∧ z10975.toInt ≤ 9 := by rw [e10976]; exact hI.2 11 _ _ rfl _
  have tzz10975 : z10975.toInt = (F 11 (p0 : Int32).toNatClampNeg).toInt := congrArg Int32.toInt e10976
  refine lv_imul hx hb dX12_limitOf_11 ?_
  refine lv_topi (fun z10978 e10979 => ?_)
  try (have t10980 := tmul e10979 (a := 3) (by decide) (b := z10975.toInt) rfl (by omega))
  refine lv_iload_n hx hb dX12_limitOf_12 rfl (lv_at hl 2 rfl) ?_
  refine lv_iadd hx hb dX12_limitOf_13 ?_
  refine lv_topi (fun z10981 e10982 => ?_)
  try (have t10983 := tadd e10982 (a := z10978.toInt) rfl (b := p1.toInt) rfl (by omega))
  refine va_iald hx hb hK hP 1 0 rfl rfl (i := z10981) (vin (a := z10981.toInt) rfl (by omega)) dX12_limitOf_14 ?_
  refine lv_topi (fun z10984 e10985 => ?_)
  have tzz10984 : z10984.toInt = (F 1 (z10981 : Int32).toNatClampNeg).toInt := congrArg Int32.toInt e10985
  have hP9 : va_P (dC, dI) classes (wM g c v F rc) H := hP
  exact W.iret (v := z10984) hx hb hr (fun t ht hW => ⟨⟨z10984, (), rfl, (by simp only [limJ, e10976, e10979, e10982, e10985]), (by show va_P _ _ _ t.heap; rw [ht]; exact hP9)⟩, hS.F ht⟩) hS.2.2 dX12_limitOf_15
set_option maxHeartbeats 8000000 in
set_option maxRecDepth 100000 in
theorem c_X12_leftOf (l : Launch) (dC : Nat → ClassId) (dI : Nat → Nat → Nat) (g : Nat → Nat) (c : Nat → ClassId) (adK adV : Nat → Nat) (v : Nat → Int32) (F : Nat → Nat → Int32) (rc sz : Nat) (p0 : Int32) (p1 : Int32) (p2 : Int32) (hg : injM g) (hI : IM v F) (h0 : 0 ≤ p0.toInt ∧ p0.toInt ≤ 99) (h1 : 0 ≤ p1.toInt ∧ p1.toInt ≤ 2) (hL : JL (v 31) (F 28) (F 29) (F 27)) : Met l yX12_leftOf (Cond.code yX12_leftOf cX12_leftOf 6 (some .int) :: wA) ({ frames := 4, cells := 0, slots := 0, locals := 160 }) (va_Pc [.ref (g 0), .int p0, .int p1, .int p2] (PM dC dI g c adK adV v F rc sz)) (va_Qi (fun (r : Int32) (u : StM) => IM u.1 u.2.1 ∧ u.2.2 = rc ∧ (∀ k, k ∉ ([] : List Nat) → u.1 k = v k) ∧ (∀ k, k ∉ ([30, 31] : List Nat) → u.2.1 k = F k) ∧ True) (BM dC dI g c) (AM g sz)) 0 0 (AM g sz) := by
  refine Met.ofW (cc := cX12_leftOf) (maxL := 6) (ret := (some .int)) (by decide) rfl ?_
  intro p e s m args below meth c0 s₁ B hml hv
  obtain ⟨rfl, hsz, hP, hK, hE⟩ := hv
  have hx := B.exec
  have hb := B.bytes
  have hr := B.returns
  have hts := atoms_spec (ws := Cond.code yX12_leftOf cX12_leftOf 6 (some .int) :: wA) B.pre
  have hwd : ∀ w ∈ wA, w.before _ s = true := fun w h => hts w (List.mem_cons_of_mem _ h)
  have hown : s.vm.findClass RX12 = some m.cls := findClass_of_methodNamed B.named
  have hlocks := B.notSynchronized
  subst hsz
  have hl := lv_entry ([.ref (g 0), .int p0, .int p1, .int p2]) (n := 6) (Nat.le_of_ble_eq_true rfl)
  rw [lg_entry_eq]
  generalize (lg_sl ([.ref (g 0), .int p0, .int p1, .int p2]) ++ List.replicate (6 - (lg_sl ([.ref (g 0), .int p0, .int p1, .int p2])).length) Slot.unset).toArray = ls at hl ⊢
  have hl : lv_has ls 6 [(0, .ref (g 0)), (1, .int p0), (2, .int p1), (3, .int p2)] := hl
  obtain ⟨H, eH⟩ : ∃ z, z = s.heap := ⟨_, rfl⟩
  have hP : va_P (dC, dI) classes (wM g c v F rc) H := by rw [eH]; exact hP
  have hS : va_S (AM g s.heap.size) s.heap H [] := by rw [eH]; exact va_S.rf
  refine my_heap eH ?_
  have hF : ∀ k, k ∉ ([30, 31] : List Nat) → F k = F k := fun _ _ => rfl
  have rp0 := i32_rng p0
  have rp1 := i32_rng p1
  have rp2 := i32_rng p2
  have hb31 : 0 ≤ (v 31).toInt ∧ (v 31).toInt ≤ 10 := hI.1 31 _ _ rfl
  refine lv_aload_n hx hb dX12_leftOf_0 rfl (lv_at hl 0 rfl) ?_
  refine lv_iload_n hx hb dX12_leftOf_1 rfl (lv_at hl 1 rfl) ?_
  refine lv_iload_n hx hb dX12_leftOf_2 rfl (lv_at hl 2 rfl) ?_
  refine va_calli (va_runV (As := [.int p0, .int p1]) (rest := []) ⟨hx, hb, hml, hown, hwd⟩ (c_X12_limitOf l dC dI g c adK adV v F rc H.size p0 p1 hg hI (by omega) (by omega)) (cwV 2 hwd (gV wk_489 wk_486 wk_487 wk_488 wk_5) rfl rfl rfl (by decide +kernel) ⟨Nat.le_of_ble_eq_true rfl, Nat.le_of_ble_eq_true rfl⟩) ⟨PM.blind, va_recv hK hP (ci := 12) (q0 := 0) rfl rfl, fun U hU hW => ⟨rfl, PM.at hK hE hP hS hU hW⟩⟩ rfl rfl hl.1 rfl (lv_room (Nat.le_of_ble_eq_true rfl)) dX12_leftOf_3 ⟨Nat.le_of_ble_eq_true rfl, Nat.le_of_ble_eq_true rfl⟩) hS (fun q _ h => (freeM hS) q h) (freeM hS) (fun r11042 u t H1 locs ht hvm hw hB hz1 hk1 hS => ?_)
  unfold BM at hB
  rw [ht] at hB
  have hP : va_P (dC, dI) classes (wM g c v F rc) H1 := hB
  replace hw : r11042.toInt = (F 1 (limJ (F 11) p0 p1)).toInt := hw
  have hw_r11042 := hw
  clear hw
  clear hz1
  generalize H1 = H at hP hS ⊢
  refine lv_aload_n hx hb dX12_leftOf_6 rfl (lv_at hl 0 rfl) ?_
  refine va_get (D := (dC, dI)) (ci := 12) (v := .ref (g 14)) (C := RX12) (T := TX12) (N := 63) hx hb hwd inA_X12 hown hK hP 0 rfl rfl 18 (by decide) (hwd _ wk_195) (fun _ h9 => h9) rfl dX12_leftOf_7 ?_
  refine lv_iconst (v := 3) hx hb dX12_leftOf_10 (by decide) ?_
  refine lv_iload_n hx hb dX12_leftOf_11 rfl (lv_at hl 1 rfl) ?_
  refine lv_imul hx hb dX12_leftOf_12 ?_
  refine lv_topi (fun z11043 e11044 => ?_)
  try (have t11045 := tmul e11044 (a := 3) (by decide) (b := p0.toInt) rfl (by omega))
  refine lv_iload_n hx hb dX12_leftOf_13 rfl (lv_at hl 2 rfl) ?_
  refine lv_iadd hx hb dX12_leftOf_14 ?_
  refine lv_topi (fun z11046 e11047 => ?_)
  try (have t11048 := tadd e11047 (a := z11043.toInt) rfl (b := p1.toInt) rfl (by omega))
  refine va_iald hx hb hK hP 14 13 rfl rfl (i := z11046) (vin (a := z11046.toInt) rfl (by omega)) dX12_leftOf_15 ?_
  refine lv_topi (fun z11049 e11050 => ?_)
  refine lv_isub hx hb dX12_leftOf_16 ?_
  refine lv_topi (fun z11051 e11052 => ?_)
  try (have t11053 := tsub e11052 (a := r11042.toInt) rfl (b := z11049.toInt) rfl (by omega))
  refine lv_istore (lv' := [(4, .int z11051), (0, .ref (g 0)), (1, .int p0), (2, .int p1), (3, .int p2)]) hx hb dX12_leftOf_17 hl (by decide) rfl (fun ls hl => ?_)
  refine lv_iconst (v := 0) hx hb dX12_leftOf_19 (by decide) ?_
  refine lv_istore (lv' := [(5, .int 0), (4, .int z11051), (0, .ref (g 0)), (1, .int p0), (2, .int p1), (3, .int p2)]) hx hb dX12_leftOf_20 hl (by decide) rfl (fun ls hl => ?_)
  have lp11054 : ∀ (n : Nat) (x5_lp11054 : Int32) (x4_lp11054 : Int32) (v_lp11054 : Nat → Int32) (F_lp11054 : Nat → Nat → Int32) (H : Heap) (locs : List Loc) (ls : Array Slot), (0 ≤ x5_lp11054.toInt) → (2147483648 - x5_lp11054.toInt ≤ (n : Int)) → (∀ k, k ∉ ([] : List Nat) → v_lp11054 k = v k) → IM v_lp11054 F_lp11054 → (∀ k, k ∉ ([30, 31] : List Nat) → F_lp11054 k = F k) → va_P (dC, dI) classes (wM g c v_lp11054 F_lp11054 rc) H → va_S (AM g s.heap.size) s.heap H locs → lv_has ls 6 [(5, .int x5_lp11054), (4, .int x4_lp11054), (0, .ref (g 0)), (1, .int p0), (2, .int p1), (3, .int p2)] → W p l e (headSpec (Cond.code yX12_leftOf cX12_leftOf 6 (some .int) :: wA) ({ frames := 4, cells := 0, slots := 0, locals := 160 })).room s m ([.ref (g 0), .int p0, .int p1, .int p2] : List Value).toArray below meth c0 H locs 0 0 (MQ below (va_Qi (fun (r : Int32) (u : StM) => IM u.1 u.2.1 ∧ u.2.2 = rc ∧ (∀ k, k ∉ ([] : List Nat) → u.1 k = v k) ∧ (∀ k, k ∉ ([30, 31] : List Nat) → u.2.1 k = F k) ∧ True) (BM dC dI g c) (AM g s.heap.size)) ([.ref (g 0), .int p0, .int p1, .int p2] : List Value).toArray s 0 0 (AM g s.heap.size)) (F0 m 22 ls []) := by
    intro n
    induction n with
    | zero =>
      intro x5_lp11054 x4_lp11054 v_lp11054 F_lp11054 H locs ls t11055 hm hf_lp11054 hI hF hP hS hl
      exfalso
      have := i32_rng x5_lp11054
      have := i32_rng x4_lp11054
      have hI1 := hI.1
      omega
    | succ n ih_lp11054 =>
      intro x5_lp11054 x4_lp11054 v_lp11054 F_lp11054 H locs ls t11055 hm hf_lp11054 hI hF hP hS hl
      have rx5_lp11054 := i32_rng x5_lp11054
      have rx4_lp11054 := i32_rng x4_lp11054
      refine lv_iload hx hb dX12_leftOf_22 (lv_at hl 0 rfl) ?_
      refine lv_aload_n hx hb dX12_leftOf_24 rfl (lv_at hl 2 rfl) ?_
      refine va_get (D := (dC, dI)) (ci := 12) (v := .int (v_lp11054 19)) (C := RX12) (T := TX12) (N := 63) hx hb hwd inA_X12 hown hK hP 0 rfl rfl 19 (by decide) (hwd _ wk_494) (fun _ h9 => h9) rfl dX12_leftOf_25 ?_
      refine my_top (v := v 19) (hf_lp11054 19 (by decide)) ?_
      have t11056 : 0 ≤ (v 19).toInt ∧ (v 19).toInt ≤ 500 := by have h9 := hI.1 19 _ _ rfl; rw [show v_lp11054 19 = v 19 from hf_lp11054 19 (by decide)] at h9; exact h9
      refine lv_icmp_ge (tgt := 83) hx hb dX12_leftOf_28 (by decide) (fun c11057 => ?_) (fun c11057 => ?_)
      · skip
        have t11058 := cv_le (a := (v 19).toInt) rfl (b := x5_lp11054.toInt) rfl c11057
        refine lv_iload hx hb dX12_leftOf_83 (lv_at hl 1 rfl) ?_
        have hP9 : va_P (dC, dI) classes (wM g c v_lp11054 F_lp11054 rc) H := hP
        exact W.iret (v := x4_lp11054) hx hb hr (fun t ht hW => ⟨⟨x4_lp11054, (v_lp11054, F_lp11054, rc), rfl, ⟨hI, rfl, (frC (by decide) hf_lp11054 (fun _ _ => rfl)), hF, trivial⟩, (by show va_P _ _ _ t.heap; rw [ht]; exact hP9)⟩, hS.F ht⟩) hS.2.2 dX12_leftOf_85
      · skip
        have t11059 := cv_nle (a := (v 19).toInt) rfl (b := x5_lp11054.toInt) rfl c11057
        refine lv_aload_n hx hb dX12_leftOf_31 rfl (lv_at hl 2 rfl) ?_
        refine va_get (D := (dC, dI)) (ci := 12) (v := .ref (g 15)) (C := RX12) (T := TX12) (N := 63) hx hb hwd inA_X12 hown hK hP 0 rfl rfl 20 (by decide) (hwd _ wk_196) (fun _ h9 => h9) rfl dX12_leftOf_32 ?_
        refine lv_iload hx hb dX12_leftOf_35 (lv_at hl 0 rfl) ?_
        refine va_iald hx hb hK hP 15 14 rfl rfl (i := x5_lp11054) (vin (a := x5_lp11054.toInt) rfl (by omega)) dX12_leftOf_37 ?_
        refine lv_topi (fun z11060 e11061 => ?_)
        have t11062 : 0 ≤ z11060.toInt ∧ z11060.toInt ≤ 99 := by rw [e11061]; exact hI.2 15 _ _ rfl _
        have e11061 : z11060 = F 15 (x5_lp11054 : Int32).toNatClampNeg := e11061.trans (congrFun (hF 15 (by decide)) _)
        refine lv_iload_n hx hb dX12_leftOf_38 rfl (lv_at hl 3 rfl) ?_
        refine lv_icmp_ne (tgt := 77) hx hb dX12_leftOf_39 (by decide) (fun c11063 => ?_) (fun c11063 => ?_)
        · skip
          have t11064 := cv_ne (a := z11060.toInt) rfl (b := p0.toInt) rfl c11063
          obtain ⟨z11065, e11066⟩ : ∃ y : Int32, y = x5_lp11054 + 1 := ⟨_, rfl⟩
          try (have t11067 := tadd e11066 rfl (b := 1) (by decide) (by omega))
          refine lv_iinc (v := z11065) (lv' := [(5, .int z11065), (4, .int x4_lp11054), (0, .ref (g 0)), (1, .int p0), (2, .int p1), (3, .int p2)]) hx hb dX12_leftOf_77 hl (k := 0) rfl (by rw [e11066]; rfl) (by decide) rfl (fun ls hl => ?_)
          refine lv_goto (tgt := 22) hx hb dX12_leftOf_80 (by decide) ?_
          exact ih_lp11054 z11065 x4_lp11054 v_lp11054 F_lp11054 _ _ _ (by omega) (by omega) hf_lp11054 hI hF hP hS (lv_sub hl [0, 1, 2, 3, 4, 5] rfl)
        · skip
          have t11068 := cv_eq (a := z11060.toInt) rfl (b := p0.toInt) rfl c11063
          refine lv_aload_n hx hb dX12_leftOf_42 rfl (lv_at hl 2 rfl) ?_
          refine lv_iload hx hb dX12_leftOf_43 (lv_at hl 0 rfl) ?_
          refine va_calli (va_runV (As := [.int x5_lp11054]) (rest := []) ⟨hx, hb, hml, hown, hwd⟩ (c_X12_isGap l dC dI g c adK adV v_lp11054 F_lp11054 rc H.size x5_lp11054 hg hI (by omega)) (cwV 1 hwd (gV wk_499 wk_496 wk_497 wk_498 wk_5) rfl rfl rfl (by decide +kernel) ⟨Nat.le_of_ble_eq_true rfl, Nat.le_of_ble_eq_true rfl⟩) ⟨PM.blind, va_recv hK hP (ci := 12) (q0 := 0) rfl rfl, fun U hU hW => ⟨rfl, PM.at hK hE hP hS hU hW⟩⟩ rfl rfl hl.1 rfl (lv_room (Nat.le_of_ble_eq_true rfl)) dX12_leftOf_45 ⟨Nat.le_of_ble_eq_true rfl, Nat.le_of_ble_eq_true rfl⟩) hS (fun q _ h => (freeM hS) q h) (freeM hS) (fun r11069 u t H1 locs ht hvm hw hB hz1 hk1 hS => ?_)
          unfold BM at hB
          rw [ht] at hB
          have hP : va_P (dC, dI) classes (wM g c v_lp11054 F_lp11054 rc) H1 := hB
          have hw_r11069 : 0 ≤ r11069.toInt ∧ r11069.toInt ≤ 1 := hw
          clear hw
          clear hz1
          generalize H1 = H at hP hS ⊢
          refine lv_if_eq (tgt := 77) hx hb dX12_leftOf_48 (by decide) (fun c11070 => ?_) (fun c11070 => ?_)
          · skip
            have t11071 := cv_eq (a := r11069.toInt) rfl (b := 0) (by decide) c11070
            obtain ⟨z11072, e11073⟩ : ∃ y : Int32, y = x5_lp11054 + 1 := ⟨_, rfl⟩
            try (have t11074 := tadd e11073 rfl (b := 1) (by decide) (by omega))
            refine lv_iinc (v := z11072) (lv' := [(5, .int z11072), (4, .int x4_lp11054), (0, .ref (g 0)), (1, .int p0), (2, .int p1), (3, .int p2)]) hx hb dX12_leftOf_77 hl (k := 0) rfl (by rw [e11073]; rfl) (by decide) rfl (fun ls hl => ?_)
            refine lv_goto (tgt := 22) hx hb dX12_leftOf_80 (by decide) ?_
            exact ih_lp11054 z11072 x4_lp11054 v_lp11054 F_lp11054 _ _ _ (by omega) (by omega) hf_lp11054 hI hF hP hS (lv_sub hl [0, 1, 2, 3, 4, 5] rfl)
          · skip
            have t11075 := cv_ne (a := r11069.toInt) rfl (b := 0) (by decide) c11070
            refine lv_iload hx hb dX12_leftOf_51 (lv_at hl 1 rfl) ?_
            refine lv_aload_n hx hb dX12_leftOf_53 rfl (lv_at hl 2 rfl) ?_
            refine lv_iload_n hx hb dX12_leftOf_54 rfl (lv_at hl 3 rfl) ?_
            refine lv_iload_n hx hb dX12_leftOf_55 rfl (lv_at hl 4 rfl) ?_
            refine va_calli (va_runV (As := [.int p0, .int p1]) (rest := [.int x4_lp11054]) ⟨hx, hb, hml, hown, hwd⟩ (c_X12_limitOf l dC dI g c adK adV v_lp11054 F_lp11054 rc H.size p0 p1 hg hI (by omega) (by omega)) (cwV 2 hwd (gV wk_489 wk_486 wk_487 wk_488 wk_5) rfl rfl rfl (by decide +kernel) ⟨Nat.le_of_ble_eq_true rfl, Nat.le_of_ble_eq_true rfl⟩) ⟨PM.blind, va_recv hK hP (ci := 12) (q0 := 0) rfl rfl, fun U hU hW => ⟨rfl, PM.at hK hE hP hS hU hW⟩⟩ rfl rfl hl.1 rfl (lv_room (Nat.le_of_ble_eq_true rfl)) dX12_leftOf_56 ⟨Nat.le_of_ble_eq_true rfl, Nat.le_of_ble_eq_true rfl⟩) hS (fun q _ h => (freeM hS) q h) (freeM hS) (fun r11076 u t H1 locs ht hvm hw hB hz1 hk1 hS => ?_)
            unfold BM at hB
            rw [ht] at hB
            have hP : va_P (dC, dI) classes (wM g c v_lp11054 F_lp11054 rc) H1 := hB
            replace hw : r11076.toInt = (F_lp11054 1 (limJ (F_lp11054 11) p0 p1)).toInt := hw
            rw [hF 1 (by decide)] at hw
            rw [hF 11 (by decide)] at hw
            have hw_r11076 := hw
            clear hw
            clear hz1
            generalize H1 = H at hP hS ⊢
            refine lv_i2l hx hb dX12_leftOf_59 rfl ?_
            refine lv_topl (fun z11077 e11078 => ?_)
            refine lv_aload_n hx hb dX12_leftOf_60 rfl (lv_at hl 2 rfl) ?_
            refine lv_iload hx hb dX12_leftOf_61 (lv_at hl 0 rfl) ?_
            refine lv_iload_n hx hb dX12_leftOf_63 rfl (lv_at hl 5 rfl) ?_
            refine va_calli (va_runV (As := [.int x5_lp11054, .int p2]) (rest := [.long z11077, .int x4_lp11054]) ⟨hx, hb, hml, hown, hwd⟩ (c_X12_lostBy l dC dI g c adK adV v_lp11054 F_lp11054 rc H.size x5_lp11054 p2 hg hI (by omega) (JL.to hL (show v_lp11054 31 = v 31 from hf_lp11054 31 (by decide)) (hF 28 (by decide)) (hF 29 (by decide)) (hF 27 (by decide)))) (cwV 2 hwd (gV wk_504 wk_501 wk_502 wk_503 wk_5) rfl rfl rfl (by decide +kernel) ⟨Nat.le_of_ble_eq_true rfl, Nat.le_of_ble_eq_true rfl⟩) ⟨PM.blind, va_recv hK hP (ci := 12) (q0 := 0) rfl rfl, fun U hU hW => ⟨rfl, PM.at hK hE hP hS hU hW⟩⟩ rfl rfl hl.1 rfl (lv_room (Nat.le_of_ble_eq_true rfl)) dX12_leftOf_64 ⟨Nat.le_of_ble_eq_true rfl, Nat.le_of_ble_eq_true rfl⟩) hS (fun q _ h => (freeM hS) q h) (freeM hS) (fun r11079 u t H1 locs ht hvm hw hB hz1 hk1 hS => ?_)
            unfold BM at hB
            rw [ht] at hB
            obtain ⟨v11080, F11081, rc9⟩ := u
            obtain ⟨hI, hrc, hf11082, hG11083, hw⟩ := hw
            dsimp only at hI hrc hB hf11082 hG11083 hw
            have hF := frCF (by decide) hG11083 hF
            rw [hrc] at hB
            have hP : va_P (dC, dI) classes (wM g c v11080 F11081 rc) H1 := hB
            have hw_r11079 : 0 ≤ r11079.toInt ∧ r11079.toInt ≤ 100 := hw
            clear hw
            clear hz1
            generalize H1 = H at hP hS ⊢
            refine lv_i2l hx hb dX12_leftOf_67 rfl ?_
            refine lv_topl (fun z11084 e11085 => ?_)
            refine lv_lmul hx hb dX12_leftOf_68 ?_
            refine lv_topl (fun z11086 e11087 => ?_)
            refine lv_ldc2 (v := 100) hx hb hown (hwd _ wk_495) dX12_leftOf_69 ?_
            refine lv_ldiv hx hb dX12_leftOf_72 (by decide) ?_
            refine lv_topl (fun z11088 e11089 => ?_)
            refine lv_l2i hx hb dX12_leftOf_73 rfl ?_
            refine lv_topi (fun z11090 e11091 => ?_)
            refine lv_isub hx hb dX12_leftOf_74 ?_
            refine lv_topi (fun z11092 e11093 => ?_)
            try (have t11094 := tsub e11093 (a := x4_lp11054.toInt) rfl (b := z11090.toInt) rfl (by omega))
            refine lv_istore (lv' := [(4, .int z11092), (5, .int x5_lp11054), (0, .ref (g 0)), (1, .int p0), (2, .int p1), (3, .int p2)]) hx hb dX12_leftOf_75 hl (by decide) rfl (fun ls hl => ?_)
            obtain ⟨z11095, e11096⟩ : ∃ y : Int32, y = x5_lp11054 + 1 := ⟨_, rfl⟩
            try (have t11097 := tadd e11096 rfl (b := 1) (by decide) (by omega))
            refine lv_iinc (v := z11095) (lv' := [(5, .int z11095), (4, .int z11092), (0, .ref (g 0)), (1, .int p0), (2, .int p1), (3, .int p2)]) hx hb dX12_leftOf_77 hl (k := 1) rfl (by rw [e11096]; rfl) (by decide) rfl (fun ls hl => ?_)
            refine lv_goto (tgt := 22) hx hb dX12_leftOf_80 (by decide) ?_
            exact ih_lp11054 z11095 z11092 v11080 F11081 _ _ _ (by omega) (by omega) (frC (by decide) hf11082 hf_lp11054) hI hF hP hS (lv_sub hl [0, 1, 2, 3, 4, 5] rfl)
  obtain ⟨n9, hn9⟩ : ∃ n : Nat, 2147483648 - 0 ≤ (n : Int) := ⟨((2147483648 - 0 : Int)).toNat, by omega⟩
  exact lp11054 n9 0 z11051 v F H _ ls (by have : (0 : Int32).toInt = 0 := (by decide); omega) (by have : (0 : Int32).toInt = 0 := (by decide); omega) (fun _ _ => rfl) hI hF hP hS hl
set_option maxHeartbeats 8000000 in
set_option maxRecDepth 100000 in
theorem c_X12_left (l : Launch) (dC : Nat → ClassId) (dI : Nat → Nat → Nat) (g : Nat → Nat) (c : Nat → ClassId) (adK adV : Nat → Nat) (v : Nat → Int32) (F : Nat → Nat → Int32) (rc sz : Nat) (p0 : Int32) (p1 : Int32) (p2 : Int32) (hg : injM g) (hI : IM v F) (hL : JL (v 31) (F 28) (F 29) (F 27)) : Met l yX12_left (Cond.code yX12_left cX12_left 4 (some .int) :: wA) ({ frames := 5, cells := 0, slots := 0, locals := 200 }) (va_Pc [.ref (g 0), .int p0, .int p1, .int p2] (PM dC dI g c adK adV v F rc sz)) (va_Qi (fun (r : Int32) (u : StM) => IM u.1 u.2.1 ∧ u.2.2 = rc ∧ (∀ k, k ∉ ([] : List Nat) → u.1 k = v k) ∧ (∀ k, k ∉ ([30, 31] : List Nat) → u.2.1 k = F k) ∧ True) (BM dC dI g c) (AM g sz)) 0 0 (AM g sz) := by
  refine Met.ofW (cc := cX12_left) (maxL := 4) (ret := (some .int)) (by decide) rfl ?_
  intro p e s m args below meth c0 s₁ B hml hv
  obtain ⟨rfl, hsz, hP, hK, hE⟩ := hv
  have hx := B.exec
  have hb := B.bytes
  have hr := B.returns
  have hts := atoms_spec (ws := Cond.code yX12_left cX12_left 4 (some .int) :: wA) B.pre
  have hwd : ∀ w ∈ wA, w.before _ s = true := fun w h => hts w (List.mem_cons_of_mem _ h)
  have hown : s.vm.findClass RX12 = some m.cls := findClass_of_methodNamed B.named
  have hlocks := B.notSynchronized
  subst hsz
  have hl := lv_entry ([.ref (g 0), .int p0, .int p1, .int p2]) (n := 4) (Nat.le_of_ble_eq_true rfl)
  rw [lg_entry_eq]
  generalize (lg_sl ([.ref (g 0), .int p0, .int p1, .int p2]) ++ List.replicate (4 - (lg_sl ([.ref (g 0), .int p0, .int p1, .int p2])).length) Slot.unset).toArray = ls at hl ⊢
  have hl : lv_has ls 4 [(0, .ref (g 0)), (1, .int p0), (2, .int p1), (3, .int p2)] := hl
  obtain ⟨H, eH⟩ : ∃ z, z = s.heap := ⟨_, rfl⟩
  have hP : va_P (dC, dI) classes (wM g c v F rc) H := by rw [eH]; exact hP
  have hS : va_S (AM g s.heap.size) s.heap H [] := by rw [eH]; exact va_S.rf
  refine my_heap eH ?_
  have hF : ∀ k, k ∉ ([30, 31] : List Nat) → F k = F k := fun _ _ => rfl
  have rp0 := i32_rng p0
  have rp1 := i32_rng p1
  have rp2 := i32_rng p2
  have hb31 : 0 ≤ (v 31).toInt ∧ (v 31).toInt ≤ 10 := hI.1 31 _ _ rfl
  refine lv_aload_n hx hb dX12_left_0 rfl (lv_at hl 0 rfl) ?_
  refine lv_iload_n hx hb dX12_left_1 rfl (lv_at hl 1 rfl) ?_
  have t11122 : 0 ≤ (v 14).toInt ∧ (v 14).toInt ≤ 100 := hI.1 14 _ _ rfl
  refine va_calli (va_runV (As := [.int p0]) (rest := []) ⟨hx, hb, hml, hown, hwd⟩ (c_X12_isPart l dC dI g c adK adV v F rc H.size p0 hg hI ) (cwV 1 hwd (gV wk_631 wk_628 wk_629 wk_630 wk_5) rfl rfl rfl (by decide +kernel) ⟨Nat.le_of_ble_eq_true rfl, Nat.le_of_ble_eq_true rfl⟩) ⟨PM.blind, va_recv hK hP (ci := 12) (q0 := 0) rfl rfl, fun U hU hW => ⟨rfl, PM.at hK hE hP hS hU hW⟩⟩ rfl rfl hl.1 rfl (lv_room (Nat.le_of_ble_eq_true rfl)) dX12_left_2 ⟨Nat.le_of_ble_eq_true rfl, Nat.le_of_ble_eq_true rfl⟩) hS (fun q _ h => (freeM hS) q h) (freeM hS) (fun r11123 u t H1 locs ht hvm hw hB hz1 hk1 hS => ?_)
  unfold BM at hB
  rw [ht] at hB
  have hP : va_P (dC, dI) classes (wM g c v F rc) H1 := hB
  replace hw : (r11123.toInt = 1 ∧ 0 ≤ p0.toInt ∧ p0.toInt < (v 14).toInt) ∨ (r11123.toInt = 0 ∧ (p0.toInt < 0 ∨ (v 14).toInt ≤ p0.toInt)) := hw
  have hw_r11123 := hw
  clear hw
  clear hz1
  generalize H1 = H at hP hS ⊢
  refine lv_if_eq (tgt := 43) hx hb dX12_left_5 (by decide) (fun c11124 => ?_) (fun c11124 => ?_)
  · skip
    have t11125 := cv_eq (a := r11123.toInt) rfl (b := 0) (by decide) c11124
    refine lv_ldc (v := (-2000000000)) hx hb hown (hwd _ wk_542) dX12_left_43 ?_
    have hP9 : va_P (dC, dI) classes (wM g c v F rc) H := hP
    exact W.iret (v := (-2000000000)) hx hb hr (fun t ht hW => ⟨⟨(-2000000000), (v, F, rc), rfl, ⟨hI, rfl, (fun _ _ => rfl), hF, trivial⟩, (by show va_P _ _ _ t.heap; rw [ht]; exact hP9)⟩, hS.F ht⟩) hS.2.2 dX12_left_45
  · skip
    have t11126 := cv_ne (a := r11123.toInt) rfl (b := 0) (by decide) c11124
    refine lv_iload_n hx hb dX12_left_8 rfl (lv_at hl 2 rfl) ?_
    refine lv_iconst (v := 0) hx hb dX12_left_9 (by decide) ?_
    refine lv_iconst (v := 2) hx hb dX12_left_10 (by decide) ?_
    refine va_calli (va_runS (As := [.int p1, .int 0, .int 2]) (rest := []) ⟨hx, hb, hml, hown, hwd⟩ (c_X12_in l dC dI g c adK adV v F rc H.size p1 0 2 hg hI ) (va_cwS 3 hwd (gT wk_254 wk_252 wk_253 wk_5) rfl rfl rfl (by decide +kernel) ⟨Nat.le_of_ble_eq_true rfl, Nat.le_of_ble_eq_true rfl⟩) ⟨PM.blind, fun U hU hW => ⟨rfl, PM.at hK hE hP hS hU hW⟩⟩ rfl rfl hl.1 rfl (lv_room (Nat.le_of_ble_eq_true rfl)) dX12_left_11 ⟨Nat.le_of_ble_eq_true rfl, Nat.le_of_ble_eq_true rfl⟩) hS (fun q _ h => (freeM hS) q h) (freeM hS) (fun r11127 u t H1 locs ht hvm hw hB hz1 hk1 hS => ?_)
    unfold BM at hB
    rw [ht] at hB
    have hP : va_P (dC, dI) classes (wM g c v F rc) H1 := hB
    have hw_r11127 : (r11127.toInt = 1 ∧ (0 : Int32).toInt ≤ p1.toInt ∧ p1.toInt ≤ (2 : Int32).toInt) ∨ (r11127.toInt = 0 ∧ (p1.toInt < (0 : Int32).toInt ∨ (2 : Int32).toInt < p1.toInt)) := hw
    clear hw
    have k11128 : (0 : Int32).toInt = 0 := by decide
    have k11129 : (2 : Int32).toInt = 2 := by decide
    clear hz1
    generalize H1 = H at hP hS ⊢
    refine lv_if_eq (tgt := 43) hx hb dX12_left_14 (by decide) (fun c11130 => ?_) (fun c11130 => ?_)
    · skip
      have t11131 := cv_eq (a := r11127.toInt) rfl (b := 0) (by decide) c11130
      refine lv_ldc (v := (-2000000000)) hx hb hown (hwd _ wk_542) dX12_left_43 ?_
      have hP9 : va_P (dC, dI) classes (wM g c v F rc) H := hP
      exact W.iret (v := (-2000000000)) hx hb hr (fun t ht hW => ⟨⟨(-2000000000), (v, F, rc), rfl, ⟨hI, rfl, (fun _ _ => rfl), hF, trivial⟩, (by show va_P _ _ _ t.heap; rw [ht]; exact hP9)⟩, hS.F ht⟩) hS.2.2 dX12_left_45
    · skip
      have t11132 := cv_ne (a := r11127.toInt) rfl (b := 0) (by decide) c11130
      refine lv_iload_n hx hb dX12_left_17 rfl (lv_at hl 3 rfl) ?_
      refine va_calli (va_runS (As := [.int p2]) (rest := []) ⟨hx, hb, hml, hown, hwd⟩ (c_X12_isDay l dC dI g c adK adV v F rc H.size p2 hg hI ) (va_cwS 1 hwd (gT wk_556 wk_554 wk_555 wk_5) rfl rfl rfl (by decide +kernel) ⟨Nat.le_of_ble_eq_true rfl, Nat.le_of_ble_eq_true rfl⟩) ⟨PM.blind, fun U hU hW => ⟨rfl, PM.at hK hE hP hS hU hW⟩⟩ rfl rfl hl.1 rfl (lv_room (Nat.le_of_ble_eq_true rfl)) dX12_left_18 ⟨Nat.le_of_ble_eq_true rfl, Nat.le_of_ble_eq_true rfl⟩) hS (fun q _ h => (freeM hS) q h) (freeM hS) (fun r11133 u t H1 locs ht hvm hw hB hz1 hk1 hS => ?_)
      unfold BM at hB
      rw [ht] at hB
      have hP : va_P (dC, dI) classes (wM g c v F rc) H1 := hB
      have hw_r11133 : (r11133.toInt = 1 ∧ 0 ≤ p2.toInt ∧ p2.toInt ≤ 9999) ∨ (r11133.toInt = 0 ∧ (p2.toInt < 0 ∨ 9999 < p2.toInt)) := hw
      clear hw
      clear hz1
      generalize H1 = H at hP hS ⊢
      refine lv_if_eq (tgt := 43) hx hb dX12_left_21 (by decide) (fun c11134 => ?_) (fun c11134 => ?_)
      · skip
        have t11135 := cv_eq (a := r11133.toInt) rfl (b := 0) (by decide) c11134
        refine lv_ldc (v := (-2000000000)) hx hb hown (hwd _ wk_542) dX12_left_43 ?_
        have hP9 : va_P (dC, dI) classes (wM g c v F rc) H := hP
        exact W.iret (v := (-2000000000)) hx hb hr (fun t ht hW => ⟨⟨(-2000000000), (v, F, rc), rfl, ⟨hI, rfl, (fun _ _ => rfl), hF, trivial⟩, (by show va_P _ _ _ t.heap; rw [ht]; exact hP9)⟩, hS.F ht⟩) hS.2.2 dX12_left_45
      · skip
        have t11136 := cv_ne (a := r11133.toInt) rfl (b := 0) (by decide) c11134
        refine lv_aload_n hx hb dX12_left_24 rfl (lv_at hl 0 rfl) ?_
        refine lv_iload_n hx hb dX12_left_25 rfl (lv_at hl 1 rfl) ?_
        refine lv_iload_n hx hb dX12_left_26 rfl (lv_at hl 2 rfl) ?_
        refine va_calli (va_runV (As := [.int p0, .int p1]) (rest := []) ⟨hx, hb, hml, hown, hwd⟩ (c_X12_limitOf l dC dI g c adK adV v F rc H.size p0 p1 hg hI (by omega) (by omega)) (cwV 2 hwd (gV wk_489 wk_486 wk_487 wk_488 wk_5) rfl rfl rfl (by decide +kernel) ⟨Nat.le_of_ble_eq_true rfl, Nat.le_of_ble_eq_true rfl⟩) ⟨PM.blind, va_recv hK hP (ci := 12) (q0 := 0) rfl rfl, fun U hU hW => ⟨rfl, PM.at hK hE hP hS hU hW⟩⟩ rfl rfl hl.1 rfl (lv_room (Nat.le_of_ble_eq_true rfl)) dX12_left_27 ⟨Nat.le_of_ble_eq_true rfl, Nat.le_of_ble_eq_true rfl⟩) hS (fun q _ h => (freeM hS) q h) (freeM hS) (fun r11137 u t H1 locs ht hvm hw hB hz1 hk1 hS => ?_)
        unfold BM at hB
        rw [ht] at hB
        have hP : va_P (dC, dI) classes (wM g c v F rc) H1 := hB
        replace hw : r11137.toInt = (F 1 (limJ (F 11) p0 p1)).toInt := hw
        have hw_r11137 := hw
        clear hw
        clear hz1
        generalize H1 = H at hP hS ⊢
        refine lv_if_le (tgt := 43) hx hb dX12_left_30 (by decide) (fun c11138 => ?_) (fun c11138 => ?_)
        · skip
          have t11139 := cv_le (a := r11137.toInt) rfl (b := 0) (by decide) c11138
          refine lv_ldc (v := (-2000000000)) hx hb hown (hwd _ wk_542) dX12_left_43 ?_
          have hP9 : va_P (dC, dI) classes (wM g c v F rc) H := hP
          exact W.iret (v := (-2000000000)) hx hb hr (fun t ht hW => ⟨⟨(-2000000000), (v, F, rc), rfl, ⟨hI, rfl, (fun _ _ => rfl), hF, trivial⟩, (by show va_P _ _ _ t.heap; rw [ht]; exact hP9)⟩, hS.F ht⟩) hS.2.2 dX12_left_45
        · skip
          have t11140 := cv_nle (a := r11137.toInt) rfl (b := 0) (by decide) c11138
          refine lv_aload_n hx hb dX12_left_33 rfl (lv_at hl 0 rfl) ?_
          refine lv_iload_n hx hb dX12_left_34 rfl (lv_at hl 1 rfl) ?_
          refine lv_iload_n hx hb dX12_left_35 rfl (lv_at hl 2 rfl) ?_
          refine lv_iload_n hx hb dX12_left_36 rfl (lv_at hl 3 rfl) ?_
          refine va_calli (va_runV (As := [.int p0, .int p1, .int p2]) (rest := []) ⟨hx, hb, hml, hown, hwd⟩ (c_X12_leftOf l dC dI g c adK adV v F rc H.size p0 p1 p2 hg hI (by omega) (by omega) (JL.to hL (show v 31 = v 31 from rfl) rfl rfl rfl)) (cwV 3 hwd (gV wk_493 wk_490 wk_491 wk_492 wk_5) rfl rfl rfl (by decide +kernel) ⟨Nat.le_of_ble_eq_true rfl, Nat.le_of_ble_eq_true rfl⟩) ⟨PM.blind, va_recv hK hP (ci := 12) (q0 := 0) rfl rfl, fun U hU hW => ⟨rfl, PM.at hK hE hP hS hU hW⟩⟩ rfl rfl hl.1 rfl (lv_room (Nat.le_of_ble_eq_true rfl)) dX12_left_37 ⟨Nat.le_of_ble_eq_true rfl, Nat.le_of_ble_eq_true rfl⟩) hS (fun q _ h => (freeM hS) q h) (freeM hS) (fun r11141 u t H1 locs ht hvm hw hB hz1 hk1 hS => ?_)
          unfold BM at hB
          rw [ht] at hB
          obtain ⟨v11142, F11143, rc9⟩ := u
          obtain ⟨hI, hrc, hf11144, hG11145, hw⟩ := hw
          dsimp only at hI hrc hB hf11144 hG11145 hw
          have hF := frCF (by decide) hG11145 hF
          rw [hrc] at hB
          have hP : va_P (dC, dI) classes (wM g c v11142 F11143 rc) H1 := hB
          clear hz1
          generalize H1 = H at hP hS ⊢
          have rr_r11141 := i32_rng r11141
          refine lv_goto (tgt := 45) hx hb dX12_left_40 (by decide) ?_
          have hP9 : va_P (dC, dI) classes (wM g c v11142 F11143 rc) H := hP
          exact W.iret (v := r11141) hx hb hr (fun t ht hW => ⟨⟨r11141, (v11142, F11143, rc), rfl, ⟨hI, rfl, (frC (by decide) hf11144 (fun _ _ => rfl)), hF, trivial⟩, (by show va_P _ _ _ t.heap; rw [ht]; exact hP9)⟩, hS.F ht⟩) hS.2.2 dX12_left_45
set_option maxHeartbeats 8000000 in
set_option maxRecDepth 100000 in
theorem c_X12_lost (l : Launch) (dC : Nat → ClassId) (dI : Nat → Nat → Nat) (g : Nat → Nat) (c : Nat → ClassId) (adK adV : Nat → Nat) (v : Nat → Int32) (F : Nat → Nat → Int32) (rc sz : Nat) (p0 : Int32) (p1 : Int32) (p2 : Int32) (hg : injM g) (hI : IM v F) (hL : JL (v 31) (F 28) (F 29) (F 27)) : Met l yX12_lost (Cond.code yX12_lost cX12_lost 5 (some .int) :: wA) ({ frames := 4, cells := 0, slots := 0, locals := 160 }) (va_Pc [.ref (g 0), .int p0, .int p1, .int p2] (PM dC dI g c adK adV v F rc sz)) (va_Qi (fun (r : Int32) (u : StM) => IM u.1 u.2.1 ∧ u.2.2 = rc ∧ (∀ k, k ∉ ([] : List Nat) → u.1 k = v k) ∧ (∀ k, k ∉ ([30, 31] : List Nat) → u.2.1 k = F k) ∧ True) (BM dC dI g c) (AM g sz)) 0 0 (AM g sz) := by
  refine Met.ofW (cc := cX12_lost) (maxL := 5) (ret := (some .int)) (by decide) rfl ?_
  intro p e s m args below meth c0 s₁ B hml hv
  obtain ⟨rfl, hsz, hP, hK, hE⟩ := hv
  have hx := B.exec
  have hb := B.bytes
  have hr := B.returns
  have hts := atoms_spec (ws := Cond.code yX12_lost cX12_lost 5 (some .int) :: wA) B.pre
  have hwd : ∀ w ∈ wA, w.before _ s = true := fun w h => hts w (List.mem_cons_of_mem _ h)
  have hown : s.vm.findClass RX12 = some m.cls := findClass_of_methodNamed B.named
  have hlocks := B.notSynchronized
  subst hsz
  have hl := lv_entry ([.ref (g 0), .int p0, .int p1, .int p2]) (n := 5) (Nat.le_of_ble_eq_true rfl)
  rw [lg_entry_eq]
  generalize (lg_sl ([.ref (g 0), .int p0, .int p1, .int p2]) ++ List.replicate (5 - (lg_sl ([.ref (g 0), .int p0, .int p1, .int p2])).length) Slot.unset).toArray = ls at hl ⊢
  have hl : lv_has ls 5 [(0, .ref (g 0)), (1, .int p0), (2, .int p1), (3, .int p2)] := hl
  obtain ⟨H, eH⟩ : ∃ z, z = s.heap := ⟨_, rfl⟩
  have hP : va_P (dC, dI) classes (wM g c v F rc) H := by rw [eH]; exact hP
  have hS : va_S (AM g s.heap.size) s.heap H [] := by rw [eH]; exact va_S.rf
  refine my_heap eH ?_
  have hF : ∀ k, k ∉ ([30, 31] : List Nat) → F k = F k := fun _ _ => rfl
  have rp0 := i32_rng p0
  have rp1 := i32_rng p1
  have rp2 := i32_rng p2
  have hb31 : 0 ≤ (v 31).toInt ∧ (v 31).toInt ≤ 10 := hI.1 31 _ _ rfl
  refine lv_aload_n hx hb dX12_lost_0 rfl (lv_at hl 0 rfl) ?_
  refine lv_iload_n hx hb dX12_lost_1 rfl (lv_at hl 1 rfl) ?_
  have t11169 : 0 ≤ (v 14).toInt ∧ (v 14).toInt ≤ 100 := hI.1 14 _ _ rfl
  refine va_calli (va_runV (As := [.int p0]) (rest := []) ⟨hx, hb, hml, hown, hwd⟩ (c_X12_isPart l dC dI g c adK adV v F rc H.size p0 hg hI ) (cwV 1 hwd (gV wk_631 wk_628 wk_629 wk_630 wk_5) rfl rfl rfl (by decide +kernel) ⟨Nat.le_of_ble_eq_true rfl, Nat.le_of_ble_eq_true rfl⟩) ⟨PM.blind, va_recv hK hP (ci := 12) (q0 := 0) rfl rfl, fun U hU hW => ⟨rfl, PM.at hK hE hP hS hU hW⟩⟩ rfl rfl hl.1 rfl (lv_room (Nat.le_of_ble_eq_true rfl)) dX12_lost_2 ⟨Nat.le_of_ble_eq_true rfl, Nat.le_of_ble_eq_true rfl⟩) hS (fun q _ h => (freeM hS) q h) (freeM hS) (fun r11170 u t H1 locs ht hvm hw hB hz1 hk1 hS => ?_)
  unfold BM at hB
  rw [ht] at hB
  have hP : va_P (dC, dI) classes (wM g c v F rc) H1 := hB
  replace hw : (r11170.toInt = 1 ∧ 0 ≤ p0.toInt ∧ p0.toInt < (v 14).toInt) ∨ (r11170.toInt = 0 ∧ (p0.toInt < 0 ∨ (v 14).toInt ≤ p0.toInt)) := hw
  have hw_r11170 := hw
  clear hw
  clear hz1
  generalize H1 = H at hP hS ⊢
  refine lv_if_eq (tgt := 15) hx hb dX12_lost_5 (by decide) (fun c11171 => ?_) (fun c11171 => ?_)
  · skip
    have t11172 := cv_eq (a := r11170.toInt) rfl (b := 0) (by decide) c11171
    refine lv_iconst (v := (-1)) hx hb dX12_lost_15 (by decide) ?_
    have hP9 : va_P (dC, dI) classes (wM g c v F rc) H := hP
    exact W.iret (v := (-1)) hx hb hr (fun t ht hW => ⟨⟨(-1), (v, F, rc), rfl, ⟨hI, rfl, (fun _ _ => rfl), hF, trivial⟩, (by show va_P _ _ _ t.heap; rw [ht]; exact hP9)⟩, hS.F ht⟩) hS.2.2 dX12_lost_16
  · skip
    have t11173 := cv_ne (a := r11170.toInt) rfl (b := 0) (by decide) c11171
    refine lv_iload_n hx hb dX12_lost_8 rfl (lv_at hl 3 rfl) ?_
    refine va_calli (va_runS (As := [.int p2]) (rest := []) ⟨hx, hb, hml, hown, hwd⟩ (c_X12_isDay l dC dI g c adK adV v F rc H.size p2 hg hI ) (va_cwS 1 hwd (gT wk_556 wk_554 wk_555 wk_5) rfl rfl rfl (by decide +kernel) ⟨Nat.le_of_ble_eq_true rfl, Nat.le_of_ble_eq_true rfl⟩) ⟨PM.blind, fun U hU hW => ⟨rfl, PM.at hK hE hP hS hU hW⟩⟩ rfl rfl hl.1 rfl (lv_room (Nat.le_of_ble_eq_true rfl)) dX12_lost_9 ⟨Nat.le_of_ble_eq_true rfl, Nat.le_of_ble_eq_true rfl⟩) hS (fun q _ h => (freeM hS) q h) (freeM hS) (fun r11174 u t H1 locs ht hvm hw hB hz1 hk1 hS => ?_)
    unfold BM at hB
    rw [ht] at hB
    have hP : va_P (dC, dI) classes (wM g c v F rc) H1 := hB
    have hw_r11174 : (r11174.toInt = 1 ∧ 0 ≤ p2.toInt ∧ p2.toInt ≤ 9999) ∨ (r11174.toInt = 0 ∧ (p2.toInt < 0 ∨ 9999 < p2.toInt)) := hw
    clear hw
    clear hz1
    generalize H1 = H at hP hS ⊢
    refine lv_if_ne (tgt := 17) hx hb dX12_lost_12 (by decide) (fun c11175 => ?_) (fun c11175 => ?_)
    · skip
      have t11176 := cv_ne (a := r11174.toInt) rfl (b := 0) (by decide) c11175
      refine lv_aload_n hx hb dX12_lost_17 rfl (lv_at hl 0 rfl) ?_
      refine lv_iload_n hx hb dX12_lost_18 rfl (lv_at hl 1 rfl) ?_
      refine lv_iload_n hx hb dX12_lost_19 rfl (lv_at hl 2 rfl) ?_
      have t11177 : 0 ≤ (v 19).toInt ∧ (v 19).toInt ≤ 500 := hI.1 19 _ _ rfl
      refine va_calli (va_runV (As := [.int p0, .int p1]) (rest := []) ⟨hx, hb, hml, hown, hwd⟩ (c_X12_stayOf l dC dI g c adK adV v F rc H.size p0 p1 hg hI ) (cwV 2 hwd (gV wk_744 wk_741 wk_742 wk_743 wk_5) rfl rfl rfl (by decide +kernel) ⟨Nat.le_of_ble_eq_true rfl, Nat.le_of_ble_eq_true rfl⟩) ⟨PM.blind, va_recv hK hP (ci := 12) (q0 := 0) rfl rfl, fun U hU hW => ⟨rfl, PM.at hK hE hP hS hU hW⟩⟩ rfl rfl hl.1 rfl (lv_room (Nat.le_of_ble_eq_true rfl)) dX12_lost_20 ⟨Nat.le_of_ble_eq_true rfl, Nat.le_of_ble_eq_true rfl⟩) hS (fun q _ h => (freeM hS) q h) (freeM hS) (fun r11178 u t H1 locs ht hvm hw hB hz1 hk1 hS => ?_)
      unfold BM at hB
      rw [ht] at hB
      have hP : va_P (dC, dI) classes (wM g c v F rc) H1 := hB
      replace hw : ((0 ≤ r11178.toInt ∧ r11178.toInt < (v 19).toInt) ∧ (F 15 r11178.toNatClampNeg).toInt = p0.toInt ∧ (cnt (ahP (F 15) (F 17) p0.toInt r11178.toNatClampNeg) (v 19).toNatClampNeg : Int) = p1.toInt) ∨ (r11178.toInt = -1 ∧ ∀ s : Nat, (s : Int) < (v 19).toInt → ((F 15 s).toInt = p0.toInt → (cnt (ahP (F 15) (F 17) p0.toInt s) (v 19).toNatClampNeg : Int) ≠ p1.toInt)) := hw
      have hw_r11178 := hw
      clear hw
      clear hz1
      generalize H1 = H at hP hS ⊢
      refine lv_istore (lv' := [(4, .int r11178), (0, .ref (g 0)), (1, .int p0), (2, .int p1), (3, .int p2)]) hx hb dX12_lost_23 hl (by decide) rfl (fun ls hl => ?_)
      refine lv_iload hx hb dX12_lost_25 (lv_at hl 0 rfl) ?_
      refine lv_if_ge (tgt := 32) hx hb dX12_lost_27 (by decide) (fun c11179 => ?_) (fun c11179 => ?_)
      · skip
        have t11180 := cv_le (a := 0) (by decide) (b := r11178.toInt) rfl c11179
        refine lv_aload_n hx hb dX12_lost_32 rfl (lv_at hl 1 rfl) ?_
        refine lv_iload hx hb dX12_lost_33 (lv_at hl 0 rfl) ?_
        refine va_calli (va_runV (As := [.int r11178]) (rest := []) ⟨hx, hb, hml, hown, hwd⟩ (c_X12_isGap l dC dI g c adK adV v F rc H.size r11178 hg hI (by omega)) (cwV 1 hwd (gV wk_499 wk_496 wk_497 wk_498 wk_5) rfl rfl rfl (by decide +kernel) ⟨Nat.le_of_ble_eq_true rfl, Nat.le_of_ble_eq_true rfl⟩) ⟨PM.blind, va_recv hK hP (ci := 12) (q0 := 0) rfl rfl, fun U hU hW => ⟨rfl, PM.at hK hE hP hS hU hW⟩⟩ rfl rfl hl.1 rfl (lv_room (Nat.le_of_ble_eq_true rfl)) dX12_lost_35 ⟨Nat.le_of_ble_eq_true rfl, Nat.le_of_ble_eq_true rfl⟩) hS (fun q _ h => (freeM hS) q h) (freeM hS) (fun r11181 u t H1 locs ht hvm hw hB hz1 hk1 hS => ?_)
        unfold BM at hB
        rw [ht] at hB
        have hP : va_P (dC, dI) classes (wM g c v F rc) H1 := hB
        have hw_r11181 : 0 ≤ r11181.toInt ∧ r11181.toInt ≤ 1 := hw
        clear hw
        clear hz1
        generalize H1 = H at hP hS ⊢
        refine lv_if_eq (tgt := 51) hx hb dX12_lost_38 (by decide) (fun c11182 => ?_) (fun c11182 => ?_)
        · skip
          have t11183 := cv_eq (a := r11181.toInt) rfl (b := 0) (by decide) c11182
          refine lv_bipush (v := (-2)) hx hb dX12_lost_51 (by decide) ?_
          have hP9 : va_P (dC, dI) classes (wM g c v F rc) H := hP
          exact W.iret (v := (-2)) hx hb hr (fun t ht hW => ⟨⟨(-2), (v, F, rc), rfl, ⟨hI, rfl, (fun _ _ => rfl), hF, trivial⟩, (by show va_P _ _ _ t.heap; rw [ht]; exact hP9)⟩, hS.F ht⟩) hS.2.2 dX12_lost_53
        · skip
          have t11184 := cv_ne (a := r11181.toInt) rfl (b := 0) (by decide) c11182
          refine lv_aload_n hx hb dX12_lost_41 rfl (lv_at hl 1 rfl) ?_
          refine lv_iload hx hb dX12_lost_42 (lv_at hl 0 rfl) ?_
          refine lv_iload_n hx hb dX12_lost_44 rfl (lv_at hl 4 rfl) ?_
          refine va_calli (va_runV (As := [.int r11178, .int p2]) (rest := []) ⟨hx, hb, hml, hown, hwd⟩ (c_X12_lostBy l dC dI g c adK adV v F rc H.size r11178 p2 hg hI (by omega) (JL.to hL (show v 31 = v 31 from rfl) rfl rfl rfl)) (cwV 2 hwd (gV wk_504 wk_501 wk_502 wk_503 wk_5) rfl rfl rfl (by decide +kernel) ⟨Nat.le_of_ble_eq_true rfl, Nat.le_of_ble_eq_true rfl⟩) ⟨PM.blind, va_recv hK hP (ci := 12) (q0 := 0) rfl rfl, fun U hU hW => ⟨rfl, PM.at hK hE hP hS hU hW⟩⟩ rfl rfl hl.1 rfl (lv_room (Nat.le_of_ble_eq_true rfl)) dX12_lost_45 ⟨Nat.le_of_ble_eq_true rfl, Nat.le_of_ble_eq_true rfl⟩) hS (fun q _ h => (freeM hS) q h) (freeM hS) (fun r11185 u t H1 locs ht hvm hw hB hz1 hk1 hS => ?_)
          unfold BM at hB
          rw [ht] at hB
          obtain ⟨v11186, F11187, rc9⟩ := u
          obtain ⟨hI, hrc, hf11188, hG11189, hw⟩ := hw
          dsimp only at hI hrc hB hf11188 hG11189 hw
          have hF := frCF (by decide) hG11189 hF
          rw [hrc] at hB
          have hP : va_P (dC, dI) classes (wM g c v11186 F11187 rc) H1 := hB
          have hw_r11185 : 0 ≤ r11185.toInt ∧ r11185.toInt ≤ 100 := hw
          clear hw
          clear hz1
          generalize H1 = H at hP hS ⊢
          refine lv_goto (tgt := 53) hx hb dX12_lost_48 (by decide) ?_
          have hP9 : va_P (dC, dI) classes (wM g c v11186 F11187 rc) H := hP
          exact W.iret (v := r11185) hx hb hr (fun t ht hW => ⟨⟨r11185, (v11186, F11187, rc), rfl, ⟨hI, rfl, (frC (by decide) hf11188 (fun _ _ => rfl)), hF, trivial⟩, (by show va_P _ _ _ t.heap; rw [ht]; exact hP9)⟩, hS.F ht⟩) hS.2.2 dX12_lost_53
      · skip
        have t11190 := cv_nle (a := 0) (by decide) (b := r11178.toInt) rfl c11179
        refine lv_iconst (v := (-1)) hx hb dX12_lost_30 (by decide) ?_
        have hP9 : va_P (dC, dI) classes (wM g c v F rc) H := hP
        exact W.iret (v := (-1)) hx hb hr (fun t ht hW => ⟨⟨(-1), (v, F, rc), rfl, ⟨hI, rfl, (fun _ _ => rfl), hF, trivial⟩, (by show va_P _ _ _ t.heap; rw [ht]; exact hP9)⟩, hS.F ht⟩) hS.2.2 dX12_lost_31
    · skip
      have t11191 := cv_eq (a := r11174.toInt) rfl (b := 0) (by decide) c11175
      refine lv_iconst (v := (-1)) hx hb dX12_lost_15 (by decide) ?_
      have hP9 : va_P (dC, dI) classes (wM g c v F rc) H := hP
      exact W.iret (v := (-1)) hx hb hr (fun t ht hW => ⟨⟨(-1), (v, F, rc), rfl, ⟨hI, rfl, (fun _ _ => rfl), hF, trivial⟩, (by show va_P _ _ _ t.heap; rw [ht]; exact hP9)⟩, hS.F ht⟩) hS.2.2 dX12_lost_16
set_option maxHeartbeats 8000000 in
set_option maxRecDepth 100000 in
theorem c_X12_least (l : Launch) (dC : Nat → ClassId) (dI : Nat → Nat → Nat) (g : Nat → Nat) (c : Nat → ClassId) (adK adV : Nat → Nat) (v : Nat → Int32) (F : Nat → Nat → Int32) (rc sz : Nat) (p0 : Int32) (p1 : Int32) (hg : injM g) (hI : IM v F) (hL : JL (v 31) (F 28) (F 29) (F 27)) : Met l yX12_least (Cond.code yX12_least cX12_least 9 (some .int) :: wA) ({ frames := 5, cells := 0, slots := 0, locals := 200 }) (va_Pc [.ref (g 0), .int p0, .int p1] (PM dC dI g c adK adV v F rc sz)) (va_Qi (fun (r : Int32) (u : StM) => IM u.1 u.2.1 ∧ u.2.2 = rc ∧ (∀ k, k ∉ ([] : List Nat) → u.1 k = v k) ∧ (∀ k, k ∉ ([30, 31] : List Nat) → u.2.1 k = F k) ∧ True) (BM dC dI g c) (AM g sz)) 0 0 (AM g sz) := by
  refine Met.ofW (cc := cX12_least) (maxL := 9) (ret := (some .int)) (by decide) rfl ?_
  intro p e s m args below meth c0 s₁ B hml hv
  obtain ⟨rfl, hsz, hP, hK, hE⟩ := hv
  have hx := B.exec
  have hb := B.bytes
  have hr := B.returns
  have hts := atoms_spec (ws := Cond.code yX12_least cX12_least 9 (some .int) :: wA) B.pre
  have hwd : ∀ w ∈ wA, w.before _ s = true := fun w h => hts w (List.mem_cons_of_mem _ h)
  have hown : s.vm.findClass RX12 = some m.cls := findClass_of_methodNamed B.named
  have hlocks := B.notSynchronized
  subst hsz
  have hl := lv_entry ([.ref (g 0), .int p0, .int p1]) (n := 9) (Nat.le_of_ble_eq_true rfl)
  rw [lg_entry_eq]
  generalize (lg_sl ([.ref (g 0), .int p0, .int p1]) ++ List.replicate (9 - (lg_sl ([.ref (g 0), .int p0, .int p1])).length) Slot.unset).toArray = ls at hl ⊢
  have hl : lv_has ls 9 [(0, .ref (g 0)), (1, .int p0), (2, .int p1)] := hl
  obtain ⟨H, eH⟩ : ∃ z, z = s.heap := ⟨_, rfl⟩
  have hP : va_P (dC, dI) classes (wM g c v F rc) H := by rw [eH]; exact hP
  have hS : va_S (AM g s.heap.size) s.heap H [] := by rw [eH]; exact va_S.rf
  refine my_heap eH ?_
  have hF : ∀ k, k ∉ ([30, 31] : List Nat) → F k = F k := fun _ _ => rfl
  have rp0 := i32_rng p0
  have rp1 := i32_rng p1
  have hb31 : 0 ≤ (v 31).toInt ∧ (v 31).toInt ≤ 10 := hI.1 31 _ _ rfl
  refine lv_aload_n hx hb dX12_least_0 rfl (lv_at hl 0 rfl) ?_
  refine lv_iload_n hx hb dX12_least_1 rfl (lv_at hl 1 rfl) ?_
  have t11244 : 0 ≤ (v 14).toInt ∧ (v 14).toInt ≤ 100 := hI.1 14 _ _ rfl
  refine va_calli (va_runV (As := [.int p0]) (rest := []) ⟨hx, hb, hml, hown, hwd⟩ (c_X12_isPart l dC dI g c adK adV v F rc H.size p0 hg hI ) (cwV 1 hwd (gV wk_631 wk_628 wk_629 wk_630 wk_5) rfl rfl rfl (by decide +kernel) ⟨Nat.le_of_ble_eq_true rfl, Nat.le_of_ble_eq_true rfl⟩) ⟨PM.blind, va_recv hK hP (ci := 12) (q0 := 0) rfl rfl, fun U hU hW => ⟨rfl, PM.at hK hE hP hS hU hW⟩⟩ rfl rfl hl.1 rfl (lv_room (Nat.le_of_ble_eq_true rfl)) dX12_least_2 ⟨Nat.le_of_ble_eq_true rfl, Nat.le_of_ble_eq_true rfl⟩) hS (fun q _ h => (freeM hS) q h) (freeM hS) (fun r11245 u t H1 locs ht hvm hw hB hz1 hk1 hS => ?_)
  unfold BM at hB
  rw [ht] at hB
  have hP : va_P (dC, dI) classes (wM g c v F rc) H1 := hB
  replace hw : (r11245.toInt = 1 ∧ 0 ≤ p0.toInt ∧ p0.toInt < (v 14).toInt) ∨ (r11245.toInt = 0 ∧ (p0.toInt < 0 ∨ (v 14).toInt ≤ p0.toInt)) := hw
  have hw_r11245 := hw
  clear hw
  clear hz1
  generalize H1 = H at hP hS ⊢
  refine lv_if_eq (tgt := 15) hx hb dX12_least_5 (by decide) (fun c11246 => ?_) (fun c11246 => ?_)
  · skip
    have t11247 := cv_eq (a := r11245.toInt) rfl (b := 0) (by decide) c11246
    refine lv_iconst (v := (-1)) hx hb dX12_least_15 (by decide) ?_
    have hP9 : va_P (dC, dI) classes (wM g c v F rc) H := hP
    exact W.iret (v := (-1)) hx hb hr (fun t ht hW => ⟨⟨(-1), (v, F, rc), rfl, ⟨hI, rfl, (fun _ _ => rfl), hF, trivial⟩, (by show va_P _ _ _ t.heap; rw [ht]; exact hP9)⟩, hS.F ht⟩) hS.2.2 dX12_least_16
  · skip
    have t11248 := cv_ne (a := r11245.toInt) rfl (b := 0) (by decide) c11246
    refine lv_iload_n hx hb dX12_least_8 rfl (lv_at hl 2 rfl) ?_
    refine va_calli (va_runS (As := [.int p1]) (rest := []) ⟨hx, hb, hml, hown, hwd⟩ (c_X12_isDay l dC dI g c adK adV v F rc H.size p1 hg hI ) (va_cwS 1 hwd (gT wk_556 wk_554 wk_555 wk_5) rfl rfl rfl (by decide +kernel) ⟨Nat.le_of_ble_eq_true rfl, Nat.le_of_ble_eq_true rfl⟩) ⟨PM.blind, fun U hU hW => ⟨rfl, PM.at hK hE hP hS hU hW⟩⟩ rfl rfl hl.1 rfl (lv_room (Nat.le_of_ble_eq_true rfl)) dX12_least_9 ⟨Nat.le_of_ble_eq_true rfl, Nat.le_of_ble_eq_true rfl⟩) hS (fun q _ h => (freeM hS) q h) (freeM hS) (fun r11249 u t H1 locs ht hvm hw hB hz1 hk1 hS => ?_)
    unfold BM at hB
    rw [ht] at hB
    have hP : va_P (dC, dI) classes (wM g c v F rc) H1 := hB
    have hw_r11249 : (r11249.toInt = 1 ∧ 0 ≤ p1.toInt ∧ p1.toInt ≤ 9999) ∨ (r11249.toInt = 0 ∧ (p1.toInt < 0 ∨ 9999 < p1.toInt)) := hw
    clear hw
    clear hz1
    generalize H1 = H at hP hS ⊢
    refine lv_if_ne (tgt := 17) hx hb dX12_least_12 (by decide) (fun c11250 => ?_) (fun c11250 => ?_)
    · skip
      have t11251 := cv_ne (a := r11249.toInt) rfl (b := 0) (by decide) c11250
      refine lv_bipush (v := (-2)) hx hb dX12_least_17 (by decide) ?_
      refine lv_istore_n (lv' := [(3, .int (-2)), (0, .ref (g 0)), (1, .int p0), (2, .int p1)]) hx hb dX12_least_19 rfl hl (by decide) rfl (fun ls hl => ?_)
      refine lv_lconst (v := 0) hx hb dX12_least_20 (by decide) ?_
      refine lv_lstore (lv' := [(4, .long 0), (3, .int (-2)), (0, .ref (g 0)), (1, .int p0), (2, .int p1)]) hx hb dX12_least_21 hl (by decide) rfl (fun ls hl => ?_)
      refine lv_iconst (v := 0) hx hb dX12_least_23 (by decide) ?_
      refine lv_istore (lv' := [(6, .int 0), (4, .long 0), (3, .int (-2)), (0, .ref (g 0)), (1, .int p0), (2, .int p1)]) hx hb dX12_least_24 hl (by decide) rfl (fun ls hl => ?_)
      have lp11252 : ∀ (n : Nat) (x6_lp11252 : Int32) (x4_lp11252 : Int64) (x3_lp11252 : Int32) (v_lp11252 : Nat → Int32) (F_lp11252 : Nat → Nat → Int32) (H : Heap) (locs : List Loc) (ls : Array Slot), (0 ≤ x6_lp11252.toInt) → (2147483648 - x6_lp11252.toInt ≤ (n : Int)) → (∀ k, k ∉ ([] : List Nat) → v_lp11252 k = v k) → IM v_lp11252 F_lp11252 → (∀ k, k ∉ ([30, 31] : List Nat) → F_lp11252 k = F k) → va_P (dC, dI) classes (wM g c v_lp11252 F_lp11252 rc) H → va_S (AM g s.heap.size) s.heap H locs → lv_has ls 9 [(6, .int x6_lp11252), (4, .long x4_lp11252), (3, .int x3_lp11252), (0, .ref (g 0)), (1, .int p0), (2, .int p1)] → W p l e (headSpec (Cond.code yX12_least cX12_least 9 (some .int) :: wA) ({ frames := 5, cells := 0, slots := 0, locals := 200 })).room s m ([.ref (g 0), .int p0, .int p1] : List Value).toArray below meth c0 H locs 0 0 (MQ below (va_Qi (fun (r : Int32) (u : StM) => IM u.1 u.2.1 ∧ u.2.2 = rc ∧ (∀ k, k ∉ ([] : List Nat) → u.1 k = v k) ∧ (∀ k, k ∉ ([30, 31] : List Nat) → u.2.1 k = F k) ∧ True) (BM dC dI g c) (AM g s.heap.size)) ([.ref (g 0), .int p0, .int p1] : List Value).toArray s 0 0 (AM g s.heap.size)) (F0 m 26 ls []) := by
        intro n
        induction n with
        | zero =>
          intro x6_lp11252 x4_lp11252 x3_lp11252 v_lp11252 F_lp11252 H locs ls t11253 hm hf_lp11252 hI hF hP hS hl
          exfalso
          have := i32_rng x6_lp11252
          have := i32_rng x3_lp11252
          have hI1 := hI.1
          omega
        | succ n ih_lp11252 =>
          intro x6_lp11252 x4_lp11252 x3_lp11252 v_lp11252 F_lp11252 H locs ls t11253 hm hf_lp11252 hI hF hP hS hl
          have rx6_lp11252 := i32_rng x6_lp11252
          have rx3_lp11252 := i32_rng x3_lp11252
          refine lv_iload hx hb dX12_least_26 (lv_at hl 0 rfl) ?_
          refine lv_iconst (v := 3) hx hb dX12_least_28 (by decide) ?_
          refine lv_icmp_ge (tgt := 97) hx hb dX12_least_29 (by decide) (fun c11254 => ?_) (fun c11254 => ?_)
          · skip
            have t11255 := cv_le (a := 3) (by decide) (b := x6_lp11252.toInt) rfl c11254
            refine lv_iload_n hx hb dX12_least_97 rfl (lv_at hl 2 rfl) ?_
            have hP9 : va_P (dC, dI) classes (wM g c v_lp11252 F_lp11252 rc) H := hP
            exact W.iret (v := x3_lp11252) hx hb hr (fun t ht hW => ⟨⟨x3_lp11252, (v_lp11252, F_lp11252, rc), rfl, ⟨hI, rfl, (frC (by decide) hf_lp11252 (fun _ _ => rfl)), hF, trivial⟩, (by show va_P _ _ _ t.heap; rw [ht]; exact hP9)⟩, hS.F ht⟩) hS.2.2 dX12_least_98
          · skip
            have t11256 := cv_nle (a := 3) (by decide) (b := x6_lp11252.toInt) rfl c11254
            refine lv_aload_n hx hb dX12_least_32 rfl (lv_at hl 3 rfl) ?_
            refine lv_iload_n hx hb dX12_least_33 rfl (lv_at hl 4 rfl) ?_
            refine lv_iload hx hb dX12_least_34 (lv_at hl 0 rfl) ?_
            refine va_calli (va_runV (As := [.int p0, .int x6_lp11252]) (rest := []) ⟨hx, hb, hml, hown, hwd⟩ (c_X12_limitOf l dC dI g c adK adV v_lp11252 F_lp11252 rc H.size p0 x6_lp11252 hg hI (by omega) (by omega)) (cwV 2 hwd (gV wk_489 wk_486 wk_487 wk_488 wk_5) rfl rfl rfl (by decide +kernel) ⟨Nat.le_of_ble_eq_true rfl, Nat.le_of_ble_eq_true rfl⟩) ⟨PM.blind, va_recv hK hP (ci := 12) (q0 := 0) rfl rfl, fun U hU hW => ⟨rfl, PM.at hK hE hP hS hU hW⟩⟩ rfl rfl hl.1 rfl (lv_room (Nat.le_of_ble_eq_true rfl)) dX12_least_36 ⟨Nat.le_of_ble_eq_true rfl, Nat.le_of_ble_eq_true rfl⟩) hS (fun q _ h => (freeM hS) q h) (freeM hS) (fun r11257 u t H1 locs ht hvm hw hB hz1 hk1 hS => ?_)
            unfold BM at hB
            rw [ht] at hB
            have hP : va_P (dC, dI) classes (wM g c v_lp11252 F_lp11252 rc) H1 := hB
            replace hw : r11257.toInt = (F_lp11252 1 (limJ (F_lp11252 11) p0 x6_lp11252)).toInt := hw
            rw [hF 1 (by decide)] at hw
            rw [hF 11 (by decide)] at hw
            have hw_r11257 := hw
            clear hw
            clear hz1
            generalize H1 = H at hP hS ⊢
            refine lv_if_ne (tgt := 45) hx hb dX12_least_39 (by decide) (fun c11258 => ?_) (fun c11258 => ?_)
            · skip
              have t11259 := cv_ne (a := r11257.toInt) rfl (b := 0) (by decide) c11258
              refine lv_ldc2 (v := 10000) hx hb hown (hwd _ wk_781) dX12_least_45 ?_
              refine lv_aload_n hx hb dX12_least_48 rfl (lv_at hl 3 rfl) ?_
              refine lv_iload_n hx hb dX12_least_49 rfl (lv_at hl 4 rfl) ?_
              refine lv_iload hx hb dX12_least_50 (lv_at hl 0 rfl) ?_
              refine lv_iload_n hx hb dX12_least_52 rfl (lv_at hl 5 rfl) ?_
              refine va_calli (va_runV (As := [.int p0, .int x6_lp11252, .int p1]) (rest := [.long 10000]) ⟨hx, hb, hml, hown, hwd⟩ (c_X12_leftOf l dC dI g c adK adV v_lp11252 F_lp11252 rc H.size p0 x6_lp11252 p1 hg hI (by omega) (by omega) (JL.to hL (show v_lp11252 31 = v 31 from hf_lp11252 31 (by decide)) (hF 28 (by decide)) (hF 29 (by decide)) (hF 27 (by decide)))) (cwV 3 hwd (gV wk_493 wk_490 wk_491 wk_492 wk_5) rfl rfl rfl (by decide +kernel) ⟨Nat.le_of_ble_eq_true rfl, Nat.le_of_ble_eq_true rfl⟩) ⟨PM.blind, va_recv hK hP (ci := 12) (q0 := 0) rfl rfl, fun U hU hW => ⟨rfl, PM.at hK hE hP hS hU hW⟩⟩ rfl rfl hl.1 rfl (lv_room (Nat.le_of_ble_eq_true rfl)) dX12_least_53 ⟨Nat.le_of_ble_eq_true rfl, Nat.le_of_ble_eq_true rfl⟩) hS (fun q _ h => (freeM hS) q h) (freeM hS) (fun r11260 u t H1 locs ht hvm hw hB hz1 hk1 hS => ?_)
              unfold BM at hB
              rw [ht] at hB
              obtain ⟨v11261, F11262, rc9⟩ := u
              obtain ⟨hI, hrc, hf11263, hG11264, hw⟩ := hw
              dsimp only at hI hrc hB hf11263 hG11264 hw
              have hF := frCF (by decide) hG11264 hF
              rw [hrc] at hB
              have hP : va_P (dC, dI) classes (wM g c v11261 F11262 rc) H1 := hB
              clear hz1
              generalize H1 = H at hP hS ⊢
              have rr_r11260 := i32_rng r11260
              refine lv_i2l hx hb dX12_least_56 rfl ?_
              refine lv_topl (fun z11265 e11266 => ?_)
              refine lv_lmul hx hb dX12_least_57 ?_
              refine lv_topl (fun z11267 e11268 => ?_)
              refine lv_aload_n hx hb dX12_least_58 rfl (lv_at hl 3 rfl) ?_
              refine lv_iload_n hx hb dX12_least_59 rfl (lv_at hl 4 rfl) ?_
              refine lv_iload hx hb dX12_least_60 (lv_at hl 0 rfl) ?_
              refine va_calli (va_runV (As := [.int p0, .int x6_lp11252]) (rest := [.long z11267]) ⟨hx, hb, hml, hown, hwd⟩ (c_X12_limitOf l dC dI g c adK adV v11261 F11262 rc H.size p0 x6_lp11252 hg hI (by omega) (by omega)) (cwV 2 hwd (gV wk_489 wk_486 wk_487 wk_488 wk_5) rfl rfl rfl (by decide +kernel) ⟨Nat.le_of_ble_eq_true rfl, Nat.le_of_ble_eq_true rfl⟩) ⟨PM.blind, va_recv hK hP (ci := 12) (q0 := 0) rfl rfl, fun U hU hW => ⟨rfl, PM.at hK hE hP hS hU hW⟩⟩ rfl rfl hl.1 rfl (lv_room (Nat.le_of_ble_eq_true rfl)) dX12_least_62 ⟨Nat.le_of_ble_eq_true rfl, Nat.le_of_ble_eq_true rfl⟩) hS (fun q _ h => (freeM hS) q h) (freeM hS) (fun r11269 u t H1 locs ht hvm hw hB hz1 hk1 hS => ?_)
              unfold BM at hB
              rw [ht] at hB
              have hP : va_P (dC, dI) classes (wM g c v11261 F11262 rc) H1 := hB
              replace hw : r11269.toInt = (F11262 1 (limJ (F11262 11) p0 x6_lp11252)).toInt := hw
              rw [hF 1 (by decide)] at hw
              rw [hF 11 (by decide)] at hw
              have hw_r11269 := hw
              clear hw
              clear hz1
              generalize H1 = H at hP hS ⊢
              refine lv_i2l hx hb dX12_least_65 rfl ?_
              refine lv_topl (fun z11270 e11271 => ?_)
              refine lv_ldiv hx hb dX12_least_66 (nz64 e11271 (a := r11269.toInt) rfl (by omega)) ?_
              refine lv_topl (fun z11272 e11273 => ?_)
              refine lv_lstore (lv' := [(7, .long z11272), (6, .int x6_lp11252), (4, .long x4_lp11252), (3, .int x3_lp11252), (0, .ref (g 0)), (1, .int p0), (2, .int p1)]) hx hb dX12_least_67 hl (by decide) rfl (fun ls hl => ?_)
              refine lv_iload_n hx hb dX12_least_69 rfl (lv_at hl 3 rfl) ?_
              refine lv_if_lt (tgt := 84) hx hb dX12_least_70 (by decide) (fun c11274 => ?_) (fun c11274 => ?_)
              · skip
                have t11275 := cv_lt (a := x3_lp11252.toInt) rfl (b := 0) (by decide) c11274
                refine lv_iload hx hb dX12_least_84 (lv_at hl 1 rfl) ?_
                refine lv_istore_n (lv' := [(3, .int x6_lp11252), (7, .long z11272), (6, .int x6_lp11252), (4, .long x4_lp11252), (0, .ref (g 0)), (1, .int p0), (2, .int p1)]) hx hb dX12_least_86 rfl hl (by decide) rfl (fun ls hl => ?_)
                refine lv_lload hx hb dX12_least_87 (lv_at hl 1 rfl) ?_
                refine lv_lstore (lv' := [(4, .long z11272), (3, .int x6_lp11252), (7, .long z11272), (6, .int x6_lp11252), (0, .ref (g 0)), (1, .int p0), (2, .int p1)]) hx hb dX12_least_89 hl (by decide) rfl (fun ls hl => ?_)
                obtain ⟨z11276, e11277⟩ : ∃ y : Int32, y = x6_lp11252 + 1 := ⟨_, rfl⟩
                try (have t11278 := tadd e11277 rfl (b := 1) (by decide) (by omega))
                refine lv_iinc (v := z11276) (lv' := [(6, .int z11276), (4, .long z11272), (3, .int x6_lp11252), (7, .long z11272), (0, .ref (g 0)), (1, .int p0), (2, .int p1)]) hx hb dX12_least_91 hl (k := 3) rfl (by rw [e11277]; rfl) (by decide) rfl (fun ls hl => ?_)
                refine lv_goto (tgt := 26) hx hb dX12_least_94 (by decide) ?_
                exact ih_lp11252 z11276 z11272 x6_lp11252 v11261 F11262 _ _ _ (by omega) (by omega) (frC (by decide) hf11263 hf_lp11252) hI hF hP hS (lv_sub hl [0, 1, 2, 4, 5, 6] rfl)
              · skip
                have t11279 := cv_nlt (a := x3_lp11252.toInt) rfl (b := 0) (by decide) c11274
                refine lv_lload hx hb dX12_least_73 (lv_at hl 0 rfl) ?_
                refine lv_lload hx hb dX12_least_75 (lv_at hl 2 rfl) ?_
                refine W.lcmp hx hb dX12_least_77 ?_
                refine lv_topi (fun z11280 e11281 => ?_)
                refine lv_if_lt (tgt := 84) hx hb dX12_least_78 (by decide) (fun c11282 => ?_) (fun c11282 => ?_)
                · skip
                  have t11283 := cv_lt (a := z11280.toInt) rfl (b := 0) (by decide) c11282
                  refine lv_iload hx hb dX12_least_84 (lv_at hl 1 rfl) ?_
                  refine lv_istore_n (lv' := [(3, .int x6_lp11252), (7, .long z11272), (6, .int x6_lp11252), (4, .long x4_lp11252), (0, .ref (g 0)), (1, .int p0), (2, .int p1)]) hx hb dX12_least_86 rfl hl (by decide) rfl (fun ls hl => ?_)
                  refine lv_lload hx hb dX12_least_87 (lv_at hl 1 rfl) ?_
                  refine lv_lstore (lv' := [(4, .long z11272), (3, .int x6_lp11252), (7, .long z11272), (6, .int x6_lp11252), (0, .ref (g 0)), (1, .int p0), (2, .int p1)]) hx hb dX12_least_89 hl (by decide) rfl (fun ls hl => ?_)
                  obtain ⟨z11284, e11285⟩ : ∃ y : Int32, y = x6_lp11252 + 1 := ⟨_, rfl⟩
                  try (have t11286 := tadd e11285 rfl (b := 1) (by decide) (by omega))
                  refine lv_iinc (v := z11284) (lv' := [(6, .int z11284), (4, .long z11272), (3, .int x6_lp11252), (7, .long z11272), (0, .ref (g 0)), (1, .int p0), (2, .int p1)]) hx hb dX12_least_91 hl (k := 3) rfl (by rw [e11285]; rfl) (by decide) rfl (fun ls hl => ?_)
                  refine lv_goto (tgt := 26) hx hb dX12_least_94 (by decide) ?_
                  exact ih_lp11252 z11284 z11272 x6_lp11252 v11261 F11262 _ _ _ (by omega) (by omega) (frC (by decide) hf11263 hf_lp11252) hI hF hP hS (lv_sub hl [0, 1, 2, 4, 5, 6] rfl)
                · skip
                  have t11287 := cv_nlt (a := z11280.toInt) rfl (b := 0) (by decide) c11282
                  refine lv_goto (tgt := 91) hx hb dX12_least_81 (by decide) ?_
                  obtain ⟨z11288, e11289⟩ : ∃ y : Int32, y = x6_lp11252 + 1 := ⟨_, rfl⟩
                  try (have t11290 := tadd e11289 rfl (b := 1) (by decide) (by omega))
                  refine lv_iinc (v := z11288) (lv' := [(6, .int z11288), (7, .long z11272), (4, .long x4_lp11252), (3, .int x3_lp11252), (0, .ref (g 0)), (1, .int p0), (2, .int p1)]) hx hb dX12_least_91 hl (k := 1) rfl (by rw [e11289]; rfl) (by decide) rfl (fun ls hl => ?_)
                  refine lv_goto (tgt := 26) hx hb dX12_least_94 (by decide) ?_
                  exact ih_lp11252 z11288 x4_lp11252 x3_lp11252 v11261 F11262 _ _ _ (by omega) (by omega) (frC (by decide) hf11263 hf_lp11252) hI hF hP hS (lv_sub hl [0, 2, 3, 4, 5, 6] rfl)
            · skip
              have t11291 := cv_eq (a := r11257.toInt) rfl (b := 0) (by decide) c11258
              refine lv_goto (tgt := 91) hx hb dX12_least_42 (by decide) ?_
              obtain ⟨z11292, e11293⟩ : ∃ y : Int32, y = x6_lp11252 + 1 := ⟨_, rfl⟩
              try (have t11294 := tadd e11293 rfl (b := 1) (by decide) (by omega))
              refine lv_iinc (v := z11292) (lv' := [(6, .int z11292), (4, .long x4_lp11252), (3, .int x3_lp11252), (0, .ref (g 0)), (1, .int p0), (2, .int p1)]) hx hb dX12_least_91 hl (k := 0) rfl (by rw [e11293]; rfl) (by decide) rfl (fun ls hl => ?_)
              refine lv_goto (tgt := 26) hx hb dX12_least_94 (by decide) ?_
              exact ih_lp11252 z11292 x4_lp11252 x3_lp11252 v_lp11252 F_lp11252 _ _ _ (by omega) (by omega) hf_lp11252 hI hF hP hS (lv_sub hl [0, 1, 2, 3, 4, 5] rfl)
      obtain ⟨n9, hn9⟩ : ∃ n : Nat, 2147483648 - 0 ≤ (n : Int) := ⟨((2147483648 - 0 : Int)).toNat, by omega⟩
      exact lp11252 n9 0 0 (-2) v F H _ ls (by have : (0 : Int32).toInt = 0 := (by decide); have : ((-2) : Int32).toInt = (-2) := (by decide); omega) (by have : (0 : Int32).toInt = 0 := (by decide); have : ((-2) : Int32).toInt = (-2) := (by decide); omega) (fun _ _ => rfl) hI hF hP hS hl
    · skip
      have t11295 := cv_eq (a := r11249.toInt) rfl (b := 0) (by decide) c11250
      refine lv_iconst (v := (-1)) hx hb dX12_least_15 (by decide) ?_
      have hP9 : va_P (dC, dI) classes (wM g c v F rc) H := hP
      exact W.iret (v := (-1)) hx hb hr (fun t ht hW => ⟨⟨(-1), (v, F, rc), rfl, ⟨hI, rfl, (fun _ _ => rfl), hF, trivial⟩, (by show va_P _ _ _ t.heap; rw [ht]; exact hP9)⟩, hS.F ht⟩) hS.2.2 dX12_least_16
set_option maxHeartbeats 8000000 in
set_option maxRecDepth 100000 in
theorem c_X12_halfOf (l : Launch) (dC : Nat → ClassId) (dI : Nat → Nat → Nat) (g : Nat → Nat) (c : Nat → ClassId) (adK adV : Nat → Nat) (v : Nat → Int32) (F : Nat → Nat → Int32) (rc sz : Nat) (p0 : Int32) (p1 : Int32) (hg : injM g) (hI : IM v F) (hL : JL (v 31) (F 28) (F 29) (F 27)) : Met l yX12_halfOf (Cond.code yX12_halfOf cX12_halfOf 7 (some .int) :: wA) ({ frames := 5, cells := 0, slots := 0, locals := 200 }) (va_Pc [.ref (g 0), .int p0, .int p1] (PM dC dI g c adK adV v F rc sz)) (va_Qi (fun (r : Int32) (u : StM) => IM u.1 u.2.1 ∧ u.2.2 = rc ∧ (∀ k, k ∉ ([] : List Nat) → u.1 k = v k) ∧ (∀ k, k ∉ ([30, 31] : List Nat) → u.2.1 k = F k) ∧ True) (BM dC dI g c) (AM g sz)) 0 0 (AM g sz) := by
  refine Met.ofW (cc := cX12_halfOf) (maxL := 7) (ret := (some .int)) (by decide) rfl ?_
  intro p e s m args below meth c0 s₁ B hml hv
  obtain ⟨rfl, hsz, hP, hK, hE⟩ := hv
  have hx := B.exec
  have hb := B.bytes
  have hr := B.returns
  have hts := atoms_spec (ws := Cond.code yX12_halfOf cX12_halfOf 7 (some .int) :: wA) B.pre
  have hwd : ∀ w ∈ wA, w.before _ s = true := fun w h => hts w (List.mem_cons_of_mem _ h)
  have hown : s.vm.findClass RX12 = some m.cls := findClass_of_methodNamed B.named
  have hlocks := B.notSynchronized
  subst hsz
  have hl := lv_entry ([.ref (g 0), .int p0, .int p1]) (n := 7) (Nat.le_of_ble_eq_true rfl)
  rw [lg_entry_eq]
  generalize (lg_sl ([.ref (g 0), .int p0, .int p1]) ++ List.replicate (7 - (lg_sl ([.ref (g 0), .int p0, .int p1])).length) Slot.unset).toArray = ls at hl ⊢
  have hl : lv_has ls 7 [(0, .ref (g 0)), (1, .int p0), (2, .int p1)] := hl
  obtain ⟨H, eH⟩ : ∃ z, z = s.heap := ⟨_, rfl⟩
  have hP : va_P (dC, dI) classes (wM g c v F rc) H := by rw [eH]; exact hP
  have hS : va_S (AM g s.heap.size) s.heap H [] := by rw [eH]; exact va_S.rf
  refine my_heap eH ?_
  have hF : ∀ k, k ∉ ([30, 31] : List Nat) → F k = F k := fun _ _ => rfl
  have rp0 := i32_rng p0
  have rp1 := i32_rng p1
  have hb31 : 0 ≤ (v 31).toInt ∧ (v 31).toInt ≤ 10 := hI.1 31 _ _ rfl
  refine lv_lconst (v := 0) hx hb dX12_halfOf_0 (by decide) ?_
  refine lv_lstore_n (lv' := [(3, .long 0), (0, .ref (g 0)), (1, .int p0), (2, .int p1)]) hx hb dX12_halfOf_1 rfl hl (by decide) rfl (fun ls hl => ?_)
  refine lv_iconst (v := 0) hx hb dX12_halfOf_2 (by decide) ?_
  refine lv_istore (lv' := [(5, .int 0), (3, .long 0), (0, .ref (g 0)), (1, .int p0), (2, .int p1)]) hx hb dX12_halfOf_3 hl (by decide) rfl (fun ls hl => ?_)
  have lp11368 : ∀ (n : Nat) (x5_lp11368 : Int32) (x3_lp11368 : Int64) (v_lp11368 : Nat → Int32) (F_lp11368 : Nat → Nat → Int32) (H : Heap) (locs : List Loc) (ls : Array Slot), (0 ≤ x5_lp11368.toInt) → (2147483648 - x5_lp11368.toInt ≤ (n : Int)) → (∀ k, k ∉ ([] : List Nat) → v_lp11368 k = v k) → IM v_lp11368 F_lp11368 → (∀ k, k ∉ ([30, 31] : List Nat) → F_lp11368 k = F k) → va_P (dC, dI) classes (wM g c v_lp11368 F_lp11368 rc) H → va_S (AM g s.heap.size) s.heap H locs → lv_has ls 7 [(5, .int x5_lp11368), (3, .long x3_lp11368), (0, .ref (g 0)), (1, .int p0), (2, .int p1)] → W p l e (headSpec (Cond.code yX12_halfOf cX12_halfOf 7 (some .int) :: wA) ({ frames := 5, cells := 0, slots := 0, locals := 200 })).room s m ([.ref (g 0), .int p0, .int p1] : List Value).toArray below meth c0 H locs 0 0 (MQ below (va_Qi (fun (r : Int32) (u : StM) => IM u.1 u.2.1 ∧ u.2.2 = rc ∧ (∀ k, k ∉ ([] : List Nat) → u.1 k = v k) ∧ (∀ k, k ∉ ([30, 31] : List Nat) → u.2.1 k = F k) ∧ True) (BM dC dI g c) (AM g s.heap.size)) ([.ref (g 0), .int p0, .int p1] : List Value).toArray s 0 0 (AM g s.heap.size)) (F0 m 5 ls []) := by
    intro n
    induction n with
    | zero =>
      intro x5_lp11368 x3_lp11368 v_lp11368 F_lp11368 H locs ls t11369 hm hf_lp11368 hI hF hP hS hl
      exfalso
      have := i32_rng x5_lp11368
      have hI1 := hI.1
      omega
    | succ n ih_lp11368 =>
      intro x5_lp11368 x3_lp11368 v_lp11368 F_lp11368 H locs ls t11369 hm hf_lp11368 hI hF hP hS hl
      have rx5_lp11368 := i32_rng x5_lp11368
      refine lv_iload hx hb dX12_halfOf_5 (lv_at hl 0 rfl) ?_
      refine lv_aload_n hx hb dX12_halfOf_7 rfl (lv_at hl 2 rfl) ?_
      refine va_get (D := (dC, dI)) (ci := 12) (v := .int (v_lp11368 14)) (C := RX12) (T := TX12) (N := 63) hx hb hwd inA_X12 hown hK hP 0 rfl rfl 14 (by decide) (hwd _ wk_318) (fun _ h9 => h9) rfl dX12_halfOf_8 ?_
      refine my_top (v := v 14) (hf_lp11368 14 (by decide)) ?_
      have t11370 : 0 ≤ (v 14).toInt ∧ (v 14).toInt ≤ 100 := by have h9 := hI.1 14 _ _ rfl; rw [show v_lp11368 14 = v 14 from hf_lp11368 14 (by decide)] at h9; exact h9
      refine lv_icmp_ge (tgt := 99) hx hb dX12_halfOf_11 (by decide) (fun c11371 => ?_) (fun c11371 => ?_)
      · skip
        have t11372 := cv_le (a := (v 14).toInt) rfl (b := x5_lp11368.toInt) rfl c11371
        refine lv_lload_n hx hb dX12_halfOf_99 rfl (lv_at hl 1 rfl) ?_
        refine lv_ldc2 (v := 1999999999) hx hb hown (hwd _ wk_1379) dX12_halfOf_100 ?_
        refine W.lcmp hx hb dX12_halfOf_103 ?_
        refine lv_topi (fun z11373 e11374 => ?_)
        refine lv_if_le (tgt := 113) hx hb dX12_halfOf_104 (by decide) (fun c11375 => ?_) (fun c11375 => ?_)
        · skip
          have t11376 := cv_le (a := z11373.toInt) rfl (b := 0) (by decide) c11375
          refine lv_lload_n hx hb dX12_halfOf_113 rfl (lv_at hl 1 rfl) ?_
          refine lv_ldc2 (v := (-1999999999)) hx hb hown (hwd _ wk_1381) dX12_halfOf_114 ?_
          refine W.lcmp hx hb dX12_halfOf_117 ?_
          refine lv_topi (fun z11377 e11378 => ?_)
          refine lv_if_ge (tgt := 127) hx hb dX12_halfOf_118 (by decide) (fun c11379 => ?_) (fun c11379 => ?_)
          · skip
            have t11380 := cv_le (a := 0) (by decide) (b := z11377.toInt) rfl c11379
            refine lv_lload_n hx hb dX12_halfOf_127 rfl (lv_at hl 1 rfl) ?_
            refine lv_l2i hx hb dX12_halfOf_128 rfl ?_
            refine lv_topi (fun z11381 e11382 => ?_)
            have hP9 : va_P (dC, dI) classes (wM g c v_lp11368 F_lp11368 rc) H := hP
            exact W.iret (v := z11381) hx hb hr (fun t ht hW => ⟨⟨z11381, (v_lp11368, F_lp11368, rc), rfl, ⟨hI, rfl, (frC (by decide) hf_lp11368 (fun _ _ => rfl)), hF, trivial⟩, (by show va_P _ _ _ t.heap; rw [ht]; exact hP9)⟩, hS.F ht⟩) hS.2.2 dX12_halfOf_129
          · skip
            have t11383 := cv_nle (a := 0) (by decide) (b := z11377.toInt) rfl c11379
            refine lv_ldcw (v := (-1999999999)) hx hb hown (hwd _ wk_1382) dX12_halfOf_121 ?_
            refine lv_goto (tgt := 129) hx hb dX12_halfOf_124 (by decide) ?_
            have hP9 : va_P (dC, dI) classes (wM g c v_lp11368 F_lp11368 rc) H := hP
            exact W.iret (v := (-1999999999)) hx hb hr (fun t ht hW => ⟨⟨(-1999999999), (v_lp11368, F_lp11368, rc), rfl, ⟨hI, rfl, (frC (by decide) hf_lp11368 (fun _ _ => rfl)), hF, trivial⟩, (by show va_P _ _ _ t.heap; rw [ht]; exact hP9)⟩, hS.F ht⟩) hS.2.2 dX12_halfOf_129
        · skip
          have t11384 := cv_nle (a := z11373.toInt) rfl (b := 0) (by decide) c11375
          refine lv_ldcw (v := 1999999999) hx hb hown (hwd _ wk_1380) dX12_halfOf_107 ?_
          refine lv_goto (tgt := 129) hx hb dX12_halfOf_110 (by decide) ?_
          have hP9 : va_P (dC, dI) classes (wM g c v_lp11368 F_lp11368 rc) H := hP
          exact W.iret (v := 1999999999) hx hb hr (fun t ht hW => ⟨⟨1999999999, (v_lp11368, F_lp11368, rc), rfl, ⟨hI, rfl, (frC (by decide) hf_lp11368 (fun _ _ => rfl)), hF, trivial⟩, (by show va_P _ _ _ t.heap; rw [ht]; exact hP9)⟩, hS.F ht⟩) hS.2.2 dX12_halfOf_129
      · skip
        have t11385 := cv_nle (a := (v 14).toInt) rfl (b := x5_lp11368.toInt) rfl c11371
        refine lv_iconst (v := 0) hx hb dX12_halfOf_14 (by decide) ?_
        refine lv_istore (lv' := [(6, .int 0), (5, .int x5_lp11368), (3, .long x3_lp11368), (0, .ref (g 0)), (1, .int p0), (2, .int p1)]) hx hb dX12_halfOf_15 hl (by decide) rfl (fun ls hl => ?_)
        have lp11386 : ∀ (n : Nat) (x6_lp11386 : Int32) (x3_lp11386 : Int64) (v_lp11386 : Nat → Int32) (F_lp11386 : Nat → Nat → Int32) (H : Heap) (locs : List Loc) (ls : Array Slot), (0 ≤ x6_lp11386.toInt) → (2147483648 - x6_lp11386.toInt ≤ (n : Int)) → (∀ k, k ∉ ([] : List Nat) → v_lp11386 k = v_lp11368 k) → IM v_lp11386 F_lp11386 → (∀ k, k ∉ ([30, 31] : List Nat) → F_lp11386 k = F k) → va_P (dC, dI) classes (wM g c v_lp11386 F_lp11386 rc) H → va_S (AM g s.heap.size) s.heap H locs → lv_has ls 7 [(6, .int x6_lp11386), (5, .int x5_lp11368), (3, .long x3_lp11386), (0, .ref (g 0)), (1, .int p0), (2, .int p1)] → W p l e (headSpec (Cond.code yX12_halfOf cX12_halfOf 7 (some .int) :: wA) ({ frames := 5, cells := 0, slots := 0, locals := 200 })).room s m ([.ref (g 0), .int p0, .int p1] : List Value).toArray below meth c0 H locs 0 0 (MQ below (va_Qi (fun (r : Int32) (u : StM) => IM u.1 u.2.1 ∧ u.2.2 = rc ∧ (∀ k, k ∉ ([] : List Nat) → u.1 k = v k) ∧ (∀ k, k ∉ ([30, 31] : List Nat) → u.2.1 k = F k) ∧ True) (BM dC dI g c) (AM g s.heap.size)) ([.ref (g 0), .int p0, .int p1] : List Value).toArray s 0 0 (AM g s.heap.size)) (F0 m 17 ls []) := by
          intro n
          induction n with
          | zero =>
            intro x6_lp11386 x3_lp11386 v_lp11386 F_lp11386 H locs ls t11387 hm hf_lp11386 hI hF hP hS hl
            exfalso
            have := i32_rng x6_lp11386
            have hI1 := hI.1
            omega
          | succ n ih_lp11386 =>
            intro x6_lp11386 x3_lp11386 v_lp11386 F_lp11386 H locs ls t11387 hm hf_lp11386 hI hF hP hS hl
            have rx6_lp11386 := i32_rng x6_lp11386
            refine lv_iload hx hb dX12_halfOf_17 (lv_at hl 0 rfl) ?_
            refine lv_iconst (v := 3) hx hb dX12_halfOf_19 (by decide) ?_
            refine lv_icmp_ge (tgt := 93) hx hb dX12_halfOf_20 (by decide) (fun c11388 => ?_) (fun c11388 => ?_)
            · skip
              have t11389 := cv_le (a := 3) (by decide) (b := x6_lp11386.toInt) rfl c11388
              obtain ⟨z11390, e11391⟩ : ∃ y : Int32, y = x5_lp11368 + 1 := ⟨_, rfl⟩
              try (have t11392 := tadd e11391 rfl (b := 1) (by decide) (by omega))
              refine lv_iinc (v := z11390) (lv' := [(5, .int z11390), (6, .int x6_lp11386), (3, .long x3_lp11386), (0, .ref (g 0)), (1, .int p0), (2, .int p1)]) hx hb dX12_halfOf_93 hl (k := 1) rfl (by rw [e11391]; rfl) (by decide) rfl (fun ls hl => ?_)
              refine lv_goto (tgt := 5) hx hb dX12_halfOf_96 (by decide) ?_
              exact ih_lp11368 z11390 x3_lp11386 v_lp11386 F_lp11386 _ _ _ (by omega) (by omega) (frC (by decide) hf_lp11386 hf_lp11368) hI hF hP hS (lv_sub hl [0, 2, 3, 4, 5] rfl)
            · skip
              have t11393 := cv_nle (a := 3) (by decide) (b := x6_lp11386.toInt) rfl c11388
              refine lv_aload_n hx hb dX12_halfOf_23 rfl (lv_at hl 3 rfl) ?_
              refine va_get (D := (dC, dI)) (ci := 12) (v := .ref (g 13)) (C := RX12) (T := TX12) (N := 63) hx hb hwd inA_X12 hown hK hP 0 rfl rfl 17 (by decide) (hwd _ wk_194) (fun _ h9 => h9) rfl dX12_halfOf_24 ?_
              refine lv_iload hx hb dX12_halfOf_27 (lv_at hl 1 rfl) ?_
              refine va_iald hx hb hK hP 13 12 rfl rfl (i := x5_lp11368) (vin (a := x5_lp11368.toInt) rfl (by omega)) dX12_halfOf_29 ?_
              refine lv_topi (fun z11394 e11395 => ?_)
              have t11396 : 0 ≤ z11394.toInt ∧ z11394.toInt ≤ 12 := by rw [e11395]; exact hI.2 13 _ _ rfl _
              have e11395 : z11394 = F 13 (x5_lp11368 : Int32).toNatClampNeg := e11395.trans (congrFun (hF 13 (by decide)) _)
              refine lv_iload_n hx hb dX12_halfOf_30 rfl (lv_at hl 4 rfl) ?_
              refine lv_icmp_ne (tgt := 87) hx hb dX12_halfOf_31 (by decide) (fun c11397 => ?_) (fun c11397 => ?_)
              · skip
                have t11398 := cv_ne (a := z11394.toInt) rfl (b := p0.toInt) rfl c11397
                obtain ⟨z11399, e11400⟩ : ∃ y : Int32, y = x6_lp11386 + 1 := ⟨_, rfl⟩
                try (have t11401 := tadd e11400 rfl (b := 1) (by decide) (by omega))
                refine lv_iinc (v := z11399) (lv' := [(6, .int z11399), (5, .int x5_lp11368), (3, .long x3_lp11386), (0, .ref (g 0)), (1, .int p0), (2, .int p1)]) hx hb dX12_halfOf_87 hl (k := 0) rfl (by rw [e11400]; rfl) (by decide) rfl (fun ls hl => ?_)
                refine lv_goto (tgt := 17) hx hb dX12_halfOf_90 (by decide) ?_
                exact ih_lp11386 z11399 x3_lp11386 v_lp11386 F_lp11386 _ _ _ (by omega) (by omega) hf_lp11386 hI hF hP hS (lv_sub hl [0, 1, 2, 3, 4, 5] rfl)
              · skip
                have t11402 := cv_eq (a := z11394.toInt) rfl (b := p0.toInt) rfl c11397
                refine lv_aload_n hx hb dX12_halfOf_34 rfl (lv_at hl 3 rfl) ?_
                refine lv_iload hx hb dX12_halfOf_35 (lv_at hl 1 rfl) ?_
                refine lv_iload hx hb dX12_halfOf_37 (lv_at hl 0 rfl) ?_
                refine va_calli (va_runV (As := [.int x5_lp11368, .int x6_lp11386]) (rest := []) ⟨hx, hb, hml, hown, hwd⟩ (c_X12_limitOf l dC dI g c adK adV v_lp11386 F_lp11386 rc H.size x5_lp11368 x6_lp11386 hg hI (by omega) (by omega)) (cwV 2 hwd (gV wk_489 wk_486 wk_487 wk_488 wk_5) rfl rfl rfl (by decide +kernel) ⟨Nat.le_of_ble_eq_true rfl, Nat.le_of_ble_eq_true rfl⟩) ⟨PM.blind, va_recv hK hP (ci := 12) (q0 := 0) rfl rfl, fun U hU hW => ⟨rfl, PM.at hK hE hP hS hU hW⟩⟩ rfl rfl hl.1 rfl (lv_room (Nat.le_of_ble_eq_true rfl)) dX12_halfOf_39 ⟨Nat.le_of_ble_eq_true rfl, Nat.le_of_ble_eq_true rfl⟩) hS (fun q _ h => (freeM hS) q h) (freeM hS) (fun r11403 u t H1 locs ht hvm hw hB hz1 hk1 hS => ?_)
                unfold BM at hB
                rw [ht] at hB
                have hP : va_P (dC, dI) classes (wM g c v_lp11386 F_lp11386 rc) H1 := hB
                replace hw : r11403.toInt = (F_lp11386 1 (limJ (F_lp11386 11) x5_lp11368 x6_lp11386)).toInt := hw
                rw [hF 1 (by decide)] at hw
                rw [hF 11 (by decide)] at hw
                have hw_r11403 := hw
                clear hw
                clear hz1
                generalize H1 = H at hP hS ⊢
                refine lv_if_le (tgt := 87) hx hb dX12_halfOf_42 (by decide) (fun c11404 => ?_) (fun c11404 => ?_)
                · skip
                  have t11405 := cv_le (a := r11403.toInt) rfl (b := 0) (by decide) c11404
                  obtain ⟨z11406, e11407⟩ : ∃ y : Int32, y = x6_lp11386 + 1 := ⟨_, rfl⟩
                  try (have t11408 := tadd e11407 rfl (b := 1) (by decide) (by omega))
                  refine lv_iinc (v := z11406) (lv' := [(6, .int z11406), (5, .int x5_lp11368), (3, .long x3_lp11386), (0, .ref (g 0)), (1, .int p0), (2, .int p1)]) hx hb dX12_halfOf_87 hl (k := 0) rfl (by rw [e11407]; rfl) (by decide) rfl (fun ls hl => ?_)
                  refine lv_goto (tgt := 17) hx hb dX12_halfOf_90 (by decide) ?_
                  exact ih_lp11386 z11406 x3_lp11386 v_lp11386 F_lp11386 _ _ _ (by omega) (by omega) hf_lp11386 hI hF hP hS (lv_sub hl [0, 1, 2, 3, 4, 5] rfl)
                · skip
                  have t11409 := cv_nle (a := r11403.toInt) rfl (b := 0) (by decide) c11404
                  refine lv_lload_n hx hb dX12_halfOf_45 rfl (lv_at hl 2 rfl) ?_
                  refine lv_aload_n hx hb dX12_halfOf_46 rfl (lv_at hl 3 rfl) ?_
                  refine lv_iload hx hb dX12_halfOf_47 (lv_at hl 1 rfl) ?_
                  refine lv_iload hx hb dX12_halfOf_49 (lv_at hl 0 rfl) ?_
                  refine lv_iload_n hx hb dX12_halfOf_51 rfl (lv_at hl 5 rfl) ?_
                  refine va_calli (va_runV (As := [.int x5_lp11368, .int x6_lp11386, .int p1]) (rest := [.long x3_lp11386]) ⟨hx, hb, hml, hown, hwd⟩ (c_X12_leftOf l dC dI g c adK adV v_lp11386 F_lp11386 rc H.size x5_lp11368 x6_lp11386 p1 hg hI (by omega) (by omega) (JL.to hL (show v_lp11386 31 = v 31 from (hf_lp11386 31 (by decide)).trans (hf_lp11368 31 (by decide))) (hF 28 (by decide)) (hF 29 (by decide)) (hF 27 (by decide)))) (cwV 3 hwd (gV wk_493 wk_490 wk_491 wk_492 wk_5) rfl rfl rfl (by decide +kernel) ⟨Nat.le_of_ble_eq_true rfl, Nat.le_of_ble_eq_true rfl⟩) ⟨PM.blind, va_recv hK hP (ci := 12) (q0 := 0) rfl rfl, fun U hU hW => ⟨rfl, PM.at hK hE hP hS hU hW⟩⟩ rfl rfl hl.1 rfl (lv_room (Nat.le_of_ble_eq_true rfl)) dX12_halfOf_52 ⟨Nat.le_of_ble_eq_true rfl, Nat.le_of_ble_eq_true rfl⟩) hS (fun q _ h => (freeM hS) q h) (freeM hS) (fun r11410 u t H1 locs ht hvm hw hB hz1 hk1 hS => ?_)
                  unfold BM at hB
                  rw [ht] at hB
                  obtain ⟨v11411, F11412, rc9⟩ := u
                  obtain ⟨hI, hrc, hf11413, hG11414, hw⟩ := hw
                  dsimp only at hI hrc hB hf11413 hG11414 hw
                  have hF := frCF (by decide) hG11414 hF
                  rw [hrc] at hB
                  have hP : va_P (dC, dI) classes (wM g c v11411 F11412 rc) H1 := hB
                  clear hz1
                  generalize H1 = H at hP hS ⊢
                  have rr_r11410 := i32_rng r11410
                  refine lv_aload_n hx hb dX12_halfOf_55 rfl (lv_at hl 3 rfl) ?_
                  refine lv_iload hx hb dX12_halfOf_56 (lv_at hl 1 rfl) ?_
                  refine lv_iload hx hb dX12_halfOf_58 (lv_at hl 0 rfl) ?_
                  refine va_calli (va_runV (As := [.int x5_lp11368, .int x6_lp11386]) (rest := [.int r11410, .long x3_lp11386]) ⟨hx, hb, hml, hown, hwd⟩ (c_X12_limitOf l dC dI g c adK adV v11411 F11412 rc H.size x5_lp11368 x6_lp11386 hg hI (by omega) (by omega)) (cwV 2 hwd (gV wk_489 wk_486 wk_487 wk_488 wk_5) rfl rfl rfl (by decide +kernel) ⟨Nat.le_of_ble_eq_true rfl, Nat.le_of_ble_eq_true rfl⟩) ⟨PM.blind, va_recv hK hP (ci := 12) (q0 := 0) rfl rfl, fun U hU hW => ⟨rfl, PM.at hK hE hP hS hU hW⟩⟩ rfl rfl hl.1 rfl (lv_room (Nat.le_of_ble_eq_true rfl)) dX12_halfOf_60 ⟨Nat.le_of_ble_eq_true rfl, Nat.le_of_ble_eq_true rfl⟩) hS (fun q _ h => (freeM hS) q h) (freeM hS) (fun r11415 u t H1 locs ht hvm hw hB hz1 hk1 hS => ?_)
                  unfold BM at hB
                  rw [ht] at hB
                  have hP : va_P (dC, dI) classes (wM g c v11411 F11412 rc) H1 := hB
                  replace hw : r11415.toInt = (F11412 1 (limJ (F11412 11) x5_lp11368 x6_lp11386)).toInt := hw
                  rw [hF 1 (by decide)] at hw
                  rw [hF 11 (by decide)] at hw
                  have hw_r11415 := hw
                  clear hw
                  clear hz1
                  generalize H1 = H at hP hS ⊢
                  refine lv_iconst (v := 2) hx hb dX12_halfOf_63 (by decide) ?_
                  refine lv_idiv hx hb dX12_halfOf_64 (by decide) ?_
                  refine lv_topi (fun z11416 e11417 => ?_)
                  refine lv_isub hx hb dX12_halfOf_65 ?_
                  refine lv_topi (fun z11419 e11420 => ?_)
                  try (have t11421 := tsub e11420 (a := r11410.toInt) rfl (b := z11416.toInt) rfl (by omega))
                  refine lv_i2l hx hb dX12_halfOf_66 rfl ?_
                  refine lv_topl (fun z11422 e11423 => ?_)
                  refine lv_aload_n hx hb dX12_halfOf_67 rfl (lv_at hl 3 rfl) ?_
                  refine va_get (D := (dC, dI)) (ci := 12) (v := .ref (g 2)) (C := RX12) (T := TX12) (N := 63) hx hb hwd inA_X12 hown hK hP 0 rfl rfl 4 (by decide) (hwd _ wk_183) (fun _ h9 => h9) rfl dX12_halfOf_68 ?_
                  refine lv_aload_n hx hb dX12_halfOf_71 rfl (lv_at hl 3 rfl) ?_
                  refine va_get (D := (dC, dI)) (ci := 12) (v := .ref (g 11)) (C := RX12) (T := TX12) (N := 63) hx hb hwd inA_X12 hown hK hP 0 rfl rfl 15 (by decide) (hwd _ wk_192) (fun _ h9 => h9) rfl dX12_halfOf_72 ?_
                  refine lv_iload hx hb dX12_halfOf_75 (lv_at hl 1 rfl) ?_
                  refine va_iald hx hb hK hP 11 10 rfl rfl (i := x5_lp11368) (vin (a := x5_lp11368.toInt) rfl (by omega)) dX12_halfOf_77 ?_
                  refine lv_topi (fun z11424 e11425 => ?_)
                  have t11426 : 0 ≤ z11424.toInt ∧ z11424.toInt ≤ 9 := by rw [e11425]; exact hI.2 11 _ _ rfl _
                  have e11425 : z11424 = F 11 (x5_lp11368 : Int32).toNatClampNeg := e11425.trans (congrFun (hF 11 (by decide)) _)
                  refine va_iald hx hb hK hP 2 1 rfl rfl (i := z11424) (vin (a := z11424.toInt) rfl (by omega)) dX12_halfOf_78 ?_
                  refine lv_topi (fun z11427 e11428 => ?_)
                  have e11428 : z11427 = F 2 (z11424 : Int32).toNatClampNeg := e11428.trans (congrFun (hF 2 (by decide)) _)
                  refine lv_i2l hx hb dX12_halfOf_79 rfl ?_
                  refine lv_topl (fun z11429 e11430 => ?_)
                  refine lv_lmul hx hb dX12_halfOf_80 ?_
                  refine lv_topl (fun z11431 e11432 => ?_)
                  refine lv_ldc2 (v := 100) hx hb hown (hwd _ wk_495) dX12_halfOf_81 ?_
                  refine lv_ldiv hx hb dX12_halfOf_84 (by decide) ?_
                  refine lv_topl (fun z11433 e11434 => ?_)
                  refine lv_ladd hx hb dX12_halfOf_85 ?_
                  refine lv_topl (fun z11435 e11436 => ?_)
                  refine lv_lstore_n (lv' := [(3, .long z11435), (6, .int x6_lp11386), (5, .int x5_lp11368), (0, .ref (g 0)), (1, .int p0), (2, .int p1)]) hx hb dX12_halfOf_86 rfl hl (by decide) rfl (fun ls hl => ?_)
                  obtain ⟨z11437, e11438⟩ : ∃ y : Int32, y = x6_lp11386 + 1 := ⟨_, rfl⟩
                  try (have t11439 := tadd e11438 rfl (b := 1) (by decide) (by omega))
                  refine lv_iinc (v := z11437) (lv' := [(6, .int z11437), (3, .long z11435), (5, .int x5_lp11368), (0, .ref (g 0)), (1, .int p0), (2, .int p1)]) hx hb dX12_halfOf_87 hl (k := 1) rfl (by rw [e11438]; rfl) (by decide) rfl (fun ls hl => ?_)
                  refine lv_goto (tgt := 17) hx hb dX12_halfOf_90 (by decide) ?_
                  exact ih_lp11386 z11437 z11435 v11411 F11412 _ _ _ (by omega) (by omega) (frC (by decide) hf11413 hf_lp11386) hI hF hP hS (lv_sub hl [0, 2, 1, 3, 4, 5] rfl)
        obtain ⟨n9, hn9⟩ : ∃ n : Nat, 2147483648 - 0 ≤ (n : Int) := ⟨((2147483648 - 0 : Int)).toNat, by omega⟩
        exact lp11386 n9 0 x3_lp11368 v_lp11368 F_lp11368 H _ ls (by have : (0 : Int32).toInt = 0 := (by decide); omega) (by have : (0 : Int32).toInt = 0 := (by decide); omega) (fun _ _ => rfl) hI hF hP hS hl
  obtain ⟨n9, hn9⟩ : ∃ n : Nat, 2147483648 - 0 ≤ (n : Int) := ⟨((2147483648 - 0 : Int)).toNat, by omega⟩
  exact lp11368 n9 0 0 v F H _ ls (by have : (0 : Int32).toInt = 0 := (by decide); omega) (by have : (0 : Int32).toInt = 0 := (by decide); omega) (fun _ _ => rfl) hI hF hP hS hl
set_option maxHeartbeats 8000000 in
set_option maxRecDepth 100000 in
theorem c_X12_half (l : Launch) (dC : Nat → ClassId) (dI : Nat → Nat → Nat) (g : Nat → Nat) (c : Nat → ClassId) (adK adV : Nat → Nat) (v : Nat → Int32) (F : Nat → Nat → Int32) (rc sz : Nat) (p0 : Int32) (p1 : Int32) (hg : injM g) (hI : IM v F) (hL : JL (v 31) (F 28) (F 29) (F 27)) : Met l yX12_half (Cond.code yX12_half cX12_half 3 (some .int) :: wA) ({ frames := 6, cells := 0, slots := 0, locals := 240 }) (va_Pc [.ref (g 0), .int p0, .int p1] (PM dC dI g c adK adV v F rc sz)) (va_Qi (fun (r : Int32) (u : StM) => IM u.1 u.2.1 ∧ u.2.2 = rc ∧ (∀ k, k ∉ ([] : List Nat) → u.1 k = v k) ∧ (∀ k, k ∉ ([30, 31] : List Nat) → u.2.1 k = F k) ∧ True) (BM dC dI g c) (AM g sz)) 0 0 (AM g sz) := by
  refine Met.ofW (cc := cX12_half) (maxL := 3) (ret := (some .int)) (by decide) rfl ?_
  intro p e s m args below meth c0 s₁ B hml hv
  obtain ⟨rfl, hsz, hP, hK, hE⟩ := hv
  have hx := B.exec
  have hb := B.bytes
  have hr := B.returns
  have hts := atoms_spec (ws := Cond.code yX12_half cX12_half 3 (some .int) :: wA) B.pre
  have hwd : ∀ w ∈ wA, w.before _ s = true := fun w h => hts w (List.mem_cons_of_mem _ h)
  have hown : s.vm.findClass RX12 = some m.cls := findClass_of_methodNamed B.named
  have hlocks := B.notSynchronized
  subst hsz
  have hl := lv_entry ([.ref (g 0), .int p0, .int p1]) (n := 3) (Nat.le_of_ble_eq_true rfl)
  rw [lg_entry_eq]
  generalize (lg_sl ([.ref (g 0), .int p0, .int p1]) ++ List.replicate (3 - (lg_sl ([.ref (g 0), .int p0, .int p1])).length) Slot.unset).toArray = ls at hl ⊢
  have hl : lv_has ls 3 [(0, .ref (g 0)), (1, .int p0), (2, .int p1)] := hl
  obtain ⟨H, eH⟩ : ∃ z, z = s.heap := ⟨_, rfl⟩
  have hP : va_P (dC, dI) classes (wM g c v F rc) H := by rw [eH]; exact hP
  have hS : va_S (AM g s.heap.size) s.heap H [] := by rw [eH]; exact va_S.rf
  refine my_heap eH ?_
  have hF : ∀ k, k ∉ ([30, 31] : List Nat) → F k = F k := fun _ _ => rfl
  have rp0 := i32_rng p0
  have rp1 := i32_rng p1
  have hb31 : 0 ≤ (v 31).toInt ∧ (v 31).toInt ≤ 10 := hI.1 31 _ _ rfl
  refine lv_aload_n hx hb dX12_half_0 rfl (lv_at hl 0 rfl) ?_
  refine lv_iload_n hx hb dX12_half_1 rfl (lv_at hl 1 rfl) ?_
  have t11454 : 0 ≤ (v 6).toInt ∧ (v 6).toInt ≤ 10 := hI.1 6 _ _ rfl
  refine va_calli (va_runV (As := [.int p0]) (rest := []) ⟨hx, hb, hml, hown, hwd⟩ (c_X12_isPlane l dC dI g c adK adV v F rc H.size p0 hg hI ) (cwV 1 hwd (gV wk_305 wk_302 wk_303 wk_304 wk_5) rfl rfl rfl (by decide +kernel) ⟨Nat.le_of_ble_eq_true rfl, Nat.le_of_ble_eq_true rfl⟩) ⟨PM.blind, va_recv hK hP (ci := 12) (q0 := 0) rfl rfl, fun U hU hW => ⟨rfl, PM.at hK hE hP hS hU hW⟩⟩ rfl rfl hl.1 rfl (lv_room (Nat.le_of_ble_eq_true rfl)) dX12_half_2 ⟨Nat.le_of_ble_eq_true rfl, Nat.le_of_ble_eq_true rfl⟩) hS (fun q _ h => (freeM hS) q h) (freeM hS) (fun r11455 u t H1 locs ht hvm hw hB hz1 hk1 hS => ?_)
  unfold BM at hB
  rw [ht] at hB
  have hP : va_P (dC, dI) classes (wM g c v F rc) H1 := hB
  replace hw : (r11455.toInt = 1 ∧ 0 ≤ p0.toInt ∧ p0.toInt < (v 6).toInt) ∨ (r11455.toInt = 0 ∧ (p0.toInt < 0 ∨ (v 6).toInt ≤ p0.toInt)) := hw
  have hw_r11455 := hw
  clear hw
  clear hz1
  generalize H1 = H at hP hS ⊢
  refine lv_if_eq (tgt := 24) hx hb dX12_half_5 (by decide) (fun c11456 => ?_) (fun c11456 => ?_)
  · skip
    have t11457 := cv_eq (a := r11455.toInt) rfl (b := 0) (by decide) c11456
    refine lv_ldc (v := (-2000000000)) hx hb hown (hwd _ wk_542) dX12_half_24 ?_
    have hP9 : va_P (dC, dI) classes (wM g c v F rc) H := hP
    exact W.iret (v := (-2000000000)) hx hb hr (fun t ht hW => ⟨⟨(-2000000000), (v, F, rc), rfl, ⟨hI, rfl, (fun _ _ => rfl), hF, trivial⟩, (by show va_P _ _ _ t.heap; rw [ht]; exact hP9)⟩, hS.F ht⟩) hS.2.2 dX12_half_26
  · skip
    have t11458 := cv_ne (a := r11455.toInt) rfl (b := 0) (by decide) c11456
    refine lv_iload_n hx hb dX12_half_8 rfl (lv_at hl 2 rfl) ?_
    refine va_calli (va_runS (As := [.int p1]) (rest := []) ⟨hx, hb, hml, hown, hwd⟩ (c_X12_isDay l dC dI g c adK adV v F rc H.size p1 hg hI ) (va_cwS 1 hwd (gT wk_556 wk_554 wk_555 wk_5) rfl rfl rfl (by decide +kernel) ⟨Nat.le_of_ble_eq_true rfl, Nat.le_of_ble_eq_true rfl⟩) ⟨PM.blind, fun U hU hW => ⟨rfl, PM.at hK hE hP hS hU hW⟩⟩ rfl rfl hl.1 rfl (lv_room (Nat.le_of_ble_eq_true rfl)) dX12_half_9 ⟨Nat.le_of_ble_eq_true rfl, Nat.le_of_ble_eq_true rfl⟩) hS (fun q _ h => (freeM hS) q h) (freeM hS) (fun r11459 u t H1 locs ht hvm hw hB hz1 hk1 hS => ?_)
    unfold BM at hB
    rw [ht] at hB
    have hP : va_P (dC, dI) classes (wM g c v F rc) H1 := hB
    have hw_r11459 : (r11459.toInt = 1 ∧ 0 ≤ p1.toInt ∧ p1.toInt ≤ 9999) ∨ (r11459.toInt = 0 ∧ (p1.toInt < 0 ∨ 9999 < p1.toInt)) := hw
    clear hw
    clear hz1
    generalize H1 = H at hP hS ⊢
    refine lv_if_eq (tgt := 24) hx hb dX12_half_12 (by decide) (fun c11460 => ?_) (fun c11460 => ?_)
    · skip
      have t11461 := cv_eq (a := r11459.toInt) rfl (b := 0) (by decide) c11460
      refine lv_ldc (v := (-2000000000)) hx hb hown (hwd _ wk_542) dX12_half_24 ?_
      have hP9 : va_P (dC, dI) classes (wM g c v F rc) H := hP
      exact W.iret (v := (-2000000000)) hx hb hr (fun t ht hW => ⟨⟨(-2000000000), (v, F, rc), rfl, ⟨hI, rfl, (fun _ _ => rfl), hF, trivial⟩, (by show va_P _ _ _ t.heap; rw [ht]; exact hP9)⟩, hS.F ht⟩) hS.2.2 dX12_half_26
    · skip
      have t11462 := cv_ne (a := r11459.toInt) rfl (b := 0) (by decide) c11460
      refine lv_aload_n hx hb dX12_half_15 rfl (lv_at hl 0 rfl) ?_
      refine lv_iload_n hx hb dX12_half_16 rfl (lv_at hl 1 rfl) ?_
      refine lv_iload_n hx hb dX12_half_17 rfl (lv_at hl 2 rfl) ?_
      refine va_calli (va_runV (As := [.int p0, .int p1]) (rest := []) ⟨hx, hb, hml, hown, hwd⟩ (c_X12_halfOf l dC dI g c adK adV v F rc H.size p0 p1 hg hI (JL.to hL (show v 31 = v 31 from rfl) rfl rfl rfl)) (cwV 2 hwd (gV wk_1378 wk_1375 wk_1376 wk_1377 wk_5) rfl rfl rfl (by decide +kernel) ⟨Nat.le_of_ble_eq_true rfl, Nat.le_of_ble_eq_true rfl⟩) ⟨PM.blind, va_recv hK hP (ci := 12) (q0 := 0) rfl rfl, fun U hU hW => ⟨rfl, PM.at hK hE hP hS hU hW⟩⟩ rfl rfl hl.1 rfl (lv_room (Nat.le_of_ble_eq_true rfl)) dX12_half_18 ⟨Nat.le_of_ble_eq_true rfl, Nat.le_of_ble_eq_true rfl⟩) hS (fun q _ h => (freeM hS) q h) (freeM hS) (fun r11463 u t H1 locs ht hvm hw hB hz1 hk1 hS => ?_)
      unfold BM at hB
      rw [ht] at hB
      obtain ⟨v11464, F11465, rc9⟩ := u
      obtain ⟨hI, hrc, hf11466, hG11467, hw⟩ := hw
      dsimp only at hI hrc hB hf11466 hG11467 hw
      have hF := frCF (by decide) hG11467 hF
      rw [hrc] at hB
      have hP : va_P (dC, dI) classes (wM g c v11464 F11465 rc) H1 := hB
      clear hz1
      generalize H1 = H at hP hS ⊢
      have rr_r11463 := i32_rng r11463
      refine lv_goto (tgt := 26) hx hb dX12_half_21 (by decide) ?_
      have hP9 : va_P (dC, dI) classes (wM g c v11464 F11465 rc) H := hP
      exact W.iret (v := r11463) hx hb hr (fun t ht hW => ⟨⟨r11463, (v11464, F11465, rc), rfl, ⟨hI, rfl, (frC (by decide) hf11466 (fun _ _ => rfl)), hF, trivial⟩, (by show va_P _ _ _ t.heap; rw [ht]; exact hP9)⟩, hS.F ht⟩) hS.2.2 dX12_half_26
