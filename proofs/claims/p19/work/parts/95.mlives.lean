def limJ (K : Nat → Int32) (i m : Int32) : Nat := (3 * K i.toNatClampNeg + m).toNatClampNeg
set_option maxHeartbeats 8000000 in
set_option maxRecDepth 100000 in
theorem c_X12_lostBy (l : Launch) (dC : Nat → ClassId) (dI : Nat → Nat → Nat) (g : Nat → Nat) (c : Nat → ClassId) (adK adV : Nat → Nat) (v : Nat → Int32) (F : Nat → Nat → Int32) (rc sz : Nat) (p0 : Int32) (p1 : Int32) (hg : injM g) (hI : IM v F) (h0 : 0 ≤ p0.toInt ∧ p0.toInt ≤ 499) (hL : JL (v 31) (F 28) (F 29) (F 27)) : Met l yX12_lostBy (Cond.code yX12_lostBy cX12_lostBy 6 (some .int) :: wA) ({ frames := 3, cells := 0, slots := 0, locals := 120 }) (va_Pc [.ref (g 0), .int p0, .int p1] (PM dC dI g c adK adV v F rc sz)) (va_Qi (fun (r : Int32) (u : StM) => IM u.1 u.2.1 ∧ u.2.2 = rc ∧ (∀ k, k ∉ ([] : List Nat) → u.1 k = v k) ∧ (∀ k, k ∉ ([30, 31] : List Nat) → u.2.1 k = F k) ∧ 0 ≤ r.toInt ∧ r.toInt ≤ 100) (BM dC dI g c) (AM g sz)) 0 0 (AM g sz) := by
  refine Met.ofW (cc := cX12_lostBy) (maxL := 6) (ret := (some .int)) (by decide) rfl ?_
  intro p e s m args below meth c0 s₁ B hml hv
  obtain ⟨rfl, hsz, hP, hK, hE⟩ := hv
  have hx := B.exec
  have hb := B.bytes
  have hr := B.returns
  have hts := atoms_spec (ws := Cond.code yX12_lostBy cX12_lostBy 6 (some .int) :: wA) B.pre
  have hwd : ∀ w ∈ wA, w.before _ s = true := fun w h => hts w (List.mem_cons_of_mem _ h)
  have hown : s.vm.findClass RX12 = some m.cls := findClass_of_methodNamed B.named
  have hlocks := B.notSynchronized
  subst hsz
  have hl := lv_entry ([.ref (g 0), .int p0, .int p1]) (n := 6) (Nat.le_of_ble_eq_true rfl)
  rw [lg_entry_eq]
  generalize (lg_sl ([.ref (g 0), .int p0, .int p1]) ++ List.replicate (6 - (lg_sl ([.ref (g 0), .int p0, .int p1])).length) Slot.unset).toArray = ls at hl ⊢
  have hl : lv_has ls 6 [(0, .ref (g 0)), (1, .int p0), (2, .int p1)] := hl
  obtain ⟨H, eH⟩ : ∃ z, z = s.heap := ⟨_, rfl⟩
  have hP : va_P (dC, dI) classes (wM g c v F rc) H := by rw [eH]; exact hP
  have hS : va_S (AM g s.heap.size) s.heap H [] := by rw [eH]; exact va_S.rf
  refine my_heap eH ?_
  have hF : ∀ k, k ∉ ([30, 31] : List Nat) → F k = F k := fun _ _ => rfl
  have rp0 := i32_rng p0
  have rp1 := i32_rng p1
  have hb31 : 0 ≤ (v 31).toInt ∧ (v 31).toInt ≤ 10 := hI.1 31 _ _ rfl
  refine lv_aload_n hx hb dX12_lostBy_0 rfl (lv_at hl 0 rfl) ?_
  refine va_get (D := (dC, dI)) (ci := 12) (v := .int (v 31)) (C := RX12) (T := TX12) (N := 63) hx hb hwd inA_X12 hown hK hP 0 rfl rfl 31 (by decide) (hwd _ wk_505) (fun _ h9 => h9) rfl dX12_lostBy_1 ?_
  have t10837 : 0 ≤ (v 31).toInt ∧ (v 31).toInt ≤ 10 := hI.1 31 _ _ rfl
  refine lv_iconst (v := 1) hx hb dX12_lostBy_4 (by decide) ?_
  refine lv_isub hx hb dX12_lostBy_5 ?_
  refine lv_topi (fun z10838 e10839 => ?_)
  try (have t10840 := tsub e10839 (a := (v 31).toInt) rfl (b := 1) (by decide) (by omega))
  refine lv_istore_n (lv' := [(3, .int z10838), (0, .ref (g 0)), (1, .int p0), (2, .int p1)]) hx hb dX12_lostBy_6 rfl hl (by decide) rfl (fun ls hl => ?_)
  have lp10841 : ∀ (n : Nat) (x3_lp10841 : Int32) (v_lp10841 : Nat → Int32) (F_lp10841 : Nat → Nat → Int32) (H : Heap) (locs : List Loc) (ls : Array Slot), (-1 ≤ x3_lp10841.toInt) → (x3_lp10841.toInt ≤ (v 31).toInt - 1) → (x3_lp10841.toInt + 2 ≤ (n : Int)) → (∀ k, k ∉ ([] : List Nat) → v_lp10841 k = v k) → IM v_lp10841 F_lp10841 → (∀ k, k ∉ ([30, 31] : List Nat) → F_lp10841 k = F k) → va_P (dC, dI) classes (wM g c v_lp10841 F_lp10841 rc) H → va_S (AM g s.heap.size) s.heap H locs → lv_has ls 6 [(3, .int x3_lp10841), (0, .ref (g 0)), (1, .int p0), (2, .int p1)] → W p l e (headSpec (Cond.code yX12_lostBy cX12_lostBy 6 (some .int) :: wA) ({ frames := 3, cells := 0, slots := 0, locals := 120 })).room s m ([.ref (g 0), .int p0, .int p1] : List Value).toArray below meth c0 H locs 0 0 (MQ below (va_Qi (fun (r : Int32) (u : StM) => IM u.1 u.2.1 ∧ u.2.2 = rc ∧ (∀ k, k ∉ ([] : List Nat) → u.1 k = v k) ∧ (∀ k, k ∉ ([30, 31] : List Nat) → u.2.1 k = F k) ∧ 0 ≤ r.toInt ∧ r.toInt ≤ 100) (BM dC dI g c) (AM g s.heap.size)) ([.ref (g 0), .int p0, .int p1] : List Value).toArray s 0 0 (AM g s.heap.size)) (F0 m 7 ls []) := by
    intro n
    induction n with
    | zero =>
      intro x3_lp10841 v_lp10841 F_lp10841 H locs ls t10842 t10843 hm hf_lp10841 hI hF hP hS hl
      exfalso
      have := i32_rng x3_lp10841
      have hI1 := hI.1
      omega
    | succ n ih_lp10841 =>
      intro x3_lp10841 v_lp10841 F_lp10841 H locs ls t10842 t10843 hm hf_lp10841 hI hF hP hS hl
      have rx3_lp10841 := i32_rng x3_lp10841
      refine lv_iload_n hx hb dX12_lostBy_7 rfl (lv_at hl 0 rfl) ?_
      refine lv_if_lt (tgt := 42) hx hb dX12_lostBy_8 (by decide) (fun c10844 => ?_) (fun c10844 => ?_)
      · skip
        have t10845 := cv_lt (a := x3_lp10841.toInt) rfl (b := 0) (by decide) c10844
        refine lv_iload_n hx hb dX12_lostBy_42 rfl (lv_at hl 0 rfl) ?_
        refine lv_if_ge (tgt := 48) hx hb dX12_lostBy_43 (by decide) (fun c10846 => ?_) (fun c10846 => ?_)
        · skip
          have t10847 := cv_le (a := 0) (by decide) (b := x3_lp10841.toInt) rfl c10846
          refine lv_iconst (v := 0) hx hb dX12_lostBy_48 (by decide) ?_
          refine lv_istore (lv' := [(4, .int 0), (3, .int x3_lp10841), (0, .ref (g 0)), (1, .int p0), (2, .int p1)]) hx hb dX12_lostBy_49 hl (by decide) rfl (fun ls hl => ?_)
          refine lv_iconst (v := 0) hx hb dX12_lostBy_51 (by decide) ?_
          refine lv_istore (lv' := [(5, .int 0), (4, .int 0), (3, .int x3_lp10841), (0, .ref (g 0)), (1, .int p0), (2, .int p1)]) hx hb dX12_lostBy_52 hl (by decide) rfl (fun ls hl => ?_)
          have lp10848 : ∀ (n : Nat) (x5_lp10848 : Int32) (x4_lp10848 : Int32) (v_lp10848 : Nat → Int32) (F_lp10848 : Nat → Nat → Int32) (H : Heap) (locs : List Loc) (ls : Array Slot), (0 ≤ x5_lp10848.toInt) → (2147483648 - x5_lp10848.toInt ≤ (n : Int)) → (∀ k, k ∉ ([] : List Nat) → v_lp10848 k = v_lp10841 k) → IM v_lp10848 F_lp10848 → (∀ k, k ∉ ([30, 31] : List Nat) → F_lp10848 k = F k) → va_P (dC, dI) classes (wM g c v_lp10848 F_lp10848 rc) H → va_S (AM g s.heap.size) s.heap H locs → lv_has ls 6 [(5, .int x5_lp10848), (4, .int x4_lp10848), (3, .int x3_lp10841), (0, .ref (g 0)), (1, .int p0), (2, .int p1)] → W p l e (headSpec (Cond.code yX12_lostBy cX12_lostBy 6 (some .int) :: wA) ({ frames := 3, cells := 0, slots := 0, locals := 120 })).room s m ([.ref (g 0), .int p0, .int p1] : List Value).toArray below meth c0 H locs 0 0 (MQ below (va_Qi (fun (r : Int32) (u : StM) => IM u.1 u.2.1 ∧ u.2.2 = rc ∧ (∀ k, k ∉ ([] : List Nat) → u.1 k = v k) ∧ (∀ k, k ∉ ([30, 31] : List Nat) → u.2.1 k = F k) ∧ 0 ≤ r.toInt ∧ r.toInt ≤ 100) (BM dC dI g c) (AM g s.heap.size)) ([.ref (g 0), .int p0, .int p1] : List Value).toArray s 0 0 (AM g s.heap.size)) (F0 m 54 ls []) := by
            intro n
            induction n with
            | zero =>
              intro x5_lp10848 x4_lp10848 v_lp10848 F_lp10848 H locs ls t10849 hm hf_lp10848 hI hF hP hS hl
              exfalso
              have := i32_rng x5_lp10848
              have := i32_rng x4_lp10848
              have hI1 := hI.1
              omega
            | succ n ih_lp10848 =>
              intro x5_lp10848 x4_lp10848 v_lp10848 F_lp10848 H locs ls t10849 hm hf_lp10848 hI hF hP hS hl
              have rx5_lp10848 := i32_rng x5_lp10848
              have rx4_lp10848 := i32_rng x4_lp10848
              refine lv_iload hx hb dX12_lostBy_54 (lv_at hl 0 rfl) ?_
              refine lv_aload_n hx hb dX12_lostBy_56 rfl (lv_at hl 3 rfl) ?_
              refine va_get (D := (dC, dI)) (ci := 12) (v := .int (v_lp10848 19)) (C := RX12) (T := TX12) (N := 63) hx hb hwd inA_X12 hown hK hP 0 rfl rfl 19 (by decide) (hwd _ wk_494) (fun _ h9 => h9) rfl dX12_lostBy_57 ?_
              refine my_top (v := v 19) ((hf_lp10848 19 (by decide)).trans (hf_lp10841 19 (by decide))) ?_
              have t10850 : 0 ≤ (v 19).toInt ∧ (v 19).toInt ≤ 500 := by have h9 := hI.1 19 _ _ rfl; rw [show v_lp10848 19 = v 19 from (hf_lp10848 19 (by decide)).trans (hf_lp10841 19 (by decide))] at h9; exact h9
              refine lv_icmp_ge (tgt := 152) hx hb dX12_lostBy_60 (by decide) (fun c10851 => ?_) (fun c10851 => ?_)
              · skip
                have t10852 := cv_le (a := (v 19).toInt) rfl (b := x5_lp10848.toInt) rfl c10851
                refine lv_aload_n hx hb dX12_lostBy_152 rfl (lv_at hl 3 rfl) ?_
                refine va_get (D := (dC, dI)) (ci := 12) (v := .ref (g 31)) (C := RX12) (T := TX12) (N := 63) hx hb hwd inA_X12 hown hK hP 0 rfl rfl 44 (by decide) (hwd _ wk_213) (fun _ h9 => h9) rfl dX12_lostBy_153 ?_
                refine lv_iconst (v := 0) hx hb dX12_lostBy_156 (by decide) ?_
                refine lv_aload_n hx hb dX12_lostBy_157 rfl (lv_at hl 3 rfl) ?_
                refine va_get (D := (dC, dI)) (ci := 12) (v := .ref (g 18)) (C := RX12) (T := TX12) (N := 63) hx hb hwd inA_X12 hown hK hP 0 rfl rfl 23 (by decide) (hwd _ wk_199) (fun _ h9 => h9) rfl dX12_lostBy_158 ?_
                refine lv_iload_n hx hb dX12_lostBy_161 rfl (lv_at hl 4 rfl) ?_
                refine va_iald hx hb hK hP 18 17 rfl rfl (i := p0) (vin (a := p0.toInt) rfl (by omega)) dX12_lostBy_162 ?_
                refine lv_topi (fun z10853 e10854 => ?_)
                have e10854 : z10853 = F 18 (p0 : Int32).toNatClampNeg := e10854.trans (congrFun (hF 18 (by decide)) _)
                refine lv_aload_n hx hb dX12_lostBy_163 rfl (lv_at hl 3 rfl) ?_
                refine va_get (D := (dC, dI)) (ci := 12) (v := .ref (g 17)) (C := RX12) (T := TX12) (N := 63) hx hb hwd inA_X12 hown hK hP 0 rfl rfl 22 (by decide) (hwd _ wk_198) (fun _ h9 => h9) rfl dX12_lostBy_164 ?_
                refine lv_iload_n hx hb dX12_lostBy_167 rfl (lv_at hl 4 rfl) ?_
                refine va_iald hx hb hK hP 17 16 rfl rfl (i := p0) (vin (a := p0.toInt) rfl (by omega)) dX12_lostBy_168 ?_
                refine lv_topi (fun z10855 e10856 => ?_)
                have e10856 : z10855 = F 17 (p0 : Int32).toNatClampNeg := e10856.trans (congrFun (hF 17 (by decide)) _)
                refine lv_isub hx hb dX12_lostBy_169 ?_
                refine lv_topi (fun z10857 e10858 => ?_)
                try (have t10859 := tsub e10858 (a := z10853.toInt) rfl (b := z10855.toInt) rfl (by omega))
                refine va_iast hx hb hK hP (DM hg) hS 31 30 rfl rfl (i := 0) (x := z10857) (vin (a := 0) (by decide) (by omega)) dX12_lostBy_170 (fun H locs hP _ hS => ?_)
                have hP := va_P_eq (sM_31 g c _ _ _ _) hP
                have hI := IM.store0 hI 31 (0 : Int32).toNatClampNeg z10857 rfl
                have hF := frUF (k := 31) (f := upd (F_lp10848 31) (0 : Int32).toNatClampNeg z10857) (by decide) hF
                have hP : va_P (dC, dI) classes (wM g c v_lp10848 (va_up F_lp10848 31 (upd (F_lp10848 31) (0 : Int32).toNatClampNeg z10857)) rc) H := hP
                generalize (va_up F_lp10848 31 (upd (F_lp10848 31) (0 : Int32).toNatClampNeg z10857)) = F10860 at hP hI hF
                refine lv_aload_n hx hb dX12_lostBy_171 rfl (lv_at hl 3 rfl) ?_
                refine va_get (D := (dC, dI)) (ci := 12) (v := .ref (g 31)) (C := RX12) (T := TX12) (N := 63) hx hb hwd inA_X12 hown hK hP 0 rfl rfl 44 (by decide) (hwd _ wk_213) (fun _ h9 => h9) rfl dX12_lostBy_172 ?_
                refine lv_iconst (v := 1) hx hb dX12_lostBy_175 (by decide) ?_
                refine lv_aload_n hx hb dX12_lostBy_176 rfl (lv_at hl 3 rfl) ?_
                refine va_get (D := (dC, dI)) (ci := 12) (v := .ref (g 20)) (C := RX12) (T := TX12) (N := 63) hx hb hwd inA_X12 hown hK hP 0 rfl rfl 25 (by decide) (hwd _ wk_201) (fun _ h9 => h9) rfl dX12_lostBy_177 ?_
                refine lv_iload_n hx hb dX12_lostBy_180 rfl (lv_at hl 4 rfl) ?_
                refine va_iald hx hb hK hP 20 19 rfl rfl (i := p0) (vin (a := p0.toInt) rfl (by omega)) dX12_lostBy_181 ?_
                refine lv_topi (fun z10861 e10862 => ?_)
                have e10862 : z10861 = F 20 (p0 : Int32).toNatClampNeg := e10862.trans (congrFun (hF 20 (by decide)) _)
                refine lv_aload_n hx hb dX12_lostBy_182 rfl (lv_at hl 3 rfl) ?_
                refine va_get (D := (dC, dI)) (ci := 12) (v := .ref (g 19)) (C := RX12) (T := TX12) (N := 63) hx hb hwd inA_X12 hown hK hP 0 rfl rfl 24 (by decide) (hwd _ wk_200) (fun _ h9 => h9) rfl dX12_lostBy_183 ?_
                refine lv_iload_n hx hb dX12_lostBy_186 rfl (lv_at hl 4 rfl) ?_
                refine va_iald hx hb hK hP 19 18 rfl rfl (i := p0) (vin (a := p0.toInt) rfl (by omega)) dX12_lostBy_187 ?_
                refine lv_topi (fun z10863 e10864 => ?_)
                have e10864 : z10863 = F 19 (p0 : Int32).toNatClampNeg := e10864.trans (congrFun (hF 19 (by decide)) _)
                refine lv_isub hx hb dX12_lostBy_188 ?_
                refine lv_topi (fun z10865 e10866 => ?_)
                try (have t10867 := tsub e10866 (a := z10861.toInt) rfl (b := z10863.toInt) rfl (by omega))
                refine va_iast hx hb hK hP (DM hg) hS 31 30 rfl rfl (i := 1) (x := z10865) (vin (a := 1) (by decide) (by omega)) dX12_lostBy_189 (fun H locs hP _ hS => ?_)
                have hP := va_P_eq (sM_31 g c _ _ _ _) hP
                have hI := IM.store0 hI 31 (1 : Int32).toNatClampNeg z10865 rfl
                have hF := frUF (k := 31) (f := upd (F10860 31) (1 : Int32).toNatClampNeg z10865) (by decide) hF
                have hP : va_P (dC, dI) classes (wM g c v_lp10848 (va_up F10860 31 (upd (F10860 31) (1 : Int32).toNatClampNeg z10865)) rc) H := hP
                generalize (va_up F10860 31 (upd (F10860 31) (1 : Int32).toNatClampNeg z10865)) = F10868 at hP hI hF
                refine lv_aload_n hx hb dX12_lostBy_190 rfl (lv_at hl 3 rfl) ?_
                refine va_get (D := (dC, dI)) (ci := 12) (v := .ref (g 31)) (C := RX12) (T := TX12) (N := 63) hx hb hwd inA_X12 hown hK hP 0 rfl rfl 44 (by decide) (hwd _ wk_213) (fun _ h9 => h9) rfl dX12_lostBy_191 ?_
                refine lv_iconst (v := 2) hx hb dX12_lostBy_194 (by decide) ?_
                refine lv_aload_n hx hb dX12_lostBy_195 rfl (lv_at hl 3 rfl) ?_
                refine va_get (D := (dC, dI)) (ci := 12) (v := .ref (g 22)) (C := RX12) (T := TX12) (N := 63) hx hb hwd inA_X12 hown hK hP 0 rfl rfl 27 (by decide) (hwd _ wk_203) (fun _ h9 => h9) rfl dX12_lostBy_196 ?_
                refine lv_iload_n hx hb dX12_lostBy_199 rfl (lv_at hl 4 rfl) ?_
                refine va_iald hx hb hK hP 22 21 rfl rfl (i := p0) (vin (a := p0.toInt) rfl (by omega)) dX12_lostBy_200 ?_
                refine lv_topi (fun z10869 e10870 => ?_)
                have e10870 : z10869 = F 22 (p0 : Int32).toNatClampNeg := e10870.trans (congrFun (hF 22 (by decide)) _)
                refine lv_aload_n hx hb dX12_lostBy_201 rfl (lv_at hl 3 rfl) ?_
                refine va_get (D := (dC, dI)) (ci := 12) (v := .ref (g 21)) (C := RX12) (T := TX12) (N := 63) hx hb hwd inA_X12 hown hK hP 0 rfl rfl 26 (by decide) (hwd _ wk_202) (fun _ h9 => h9) rfl dX12_lostBy_202 ?_
                refine lv_iload_n hx hb dX12_lostBy_205 rfl (lv_at hl 4 rfl) ?_
                refine va_iald hx hb hK hP 21 20 rfl rfl (i := p0) (vin (a := p0.toInt) rfl (by omega)) dX12_lostBy_206 ?_
                refine lv_topi (fun z10871 e10872 => ?_)
                have e10872 : z10871 = F 21 (p0 : Int32).toNatClampNeg := e10872.trans (congrFun (hF 21 (by decide)) _)
                refine lv_isub hx hb dX12_lostBy_207 ?_
                refine lv_topi (fun z10873 e10874 => ?_)
                try (have t10875 := tsub e10874 (a := z10869.toInt) rfl (b := z10871.toInt) rfl (by omega))
                refine va_iast hx hb hK hP (DM hg) hS 31 30 rfl rfl (i := 2) (x := z10873) (vin (a := 2) (by decide) (by omega)) dX12_lostBy_208 (fun H locs hP _ hS => ?_)
                have hP := va_P_eq (sM_31 g c _ _ _ _) hP
                have hI := IM.store0 hI 31 (2 : Int32).toNatClampNeg z10873 rfl
                have hF := frUF (k := 31) (f := upd (F10868 31) (2 : Int32).toNatClampNeg z10873) (by decide) hF
                have hP : va_P (dC, dI) classes (wM g c v_lp10848 (va_up F10868 31 (upd (F10868 31) (2 : Int32).toNatClampNeg z10873)) rc) H := hP
                generalize (va_up F10868 31 (upd (F10868 31) (2 : Int32).toNatClampNeg z10873)) = F10876 at hP hI hF
                refine lv_aload_n hx hb dX12_lostBy_209 rfl (lv_at hl 3 rfl) ?_
                refine va_get (D := (dC, dI)) (ci := 12) (v := .ref (g 31)) (C := RX12) (T := TX12) (N := 63) hx hb hwd inA_X12 hown hK hP 0 rfl rfl 44 (by decide) (hwd _ wk_213) (fun _ h9 => h9) rfl dX12_lostBy_210 ?_
                refine lv_iconst (v := 3) hx hb dX12_lostBy_213 (by decide) ?_
                refine lv_aload_n hx hb dX12_lostBy_214 rfl (lv_at hl 3 rfl) ?_
                refine va_get (D := (dC, dI)) (ci := 12) (v := .ref (g 16)) (C := RX12) (T := TX12) (N := 63) hx hb hwd inA_X12 hown hK hP 0 rfl rfl 21 (by decide) (hwd _ wk_197) (fun _ h9 => h9) rfl dX12_lostBy_215 ?_
                refine lv_iload_n hx hb dX12_lostBy_218 rfl (lv_at hl 4 rfl) ?_
                refine va_iald hx hb hK hP 16 15 rfl rfl (i := p0) (vin (a := p0.toInt) rfl (by omega)) dX12_lostBy_219 ?_
                refine lv_topi (fun z10877 e10878 => ?_)
                have t10879 : 0 ≤ z10877.toInt ∧ z10877.toInt ≤ 11 := by rw [e10878]; exact hI.2 16 _ _ rfl _
                have e10878 : z10877 = F 16 (p0 : Int32).toNatClampNeg := e10878.trans (congrFun (hF 16 (by decide)) _)
                refine va_iast hx hb hK hP (DM hg) hS 31 30 rfl rfl (i := 3) (x := z10877) (vin (a := 3) (by decide) (by omega)) dX12_lostBy_220 (fun H locs hP _ hS => ?_)
                have hP := va_P_eq (sM_31 g c _ _ _ _) hP
                have hI := IM.store0 hI 31 (3 : Int32).toNatClampNeg z10877 rfl
                have hF := frUF (k := 31) (f := upd (F10876 31) (3 : Int32).toNatClampNeg z10877) (by decide) hF
                have hP : va_P (dC, dI) classes (wM g c v_lp10848 (va_up F10876 31 (upd (F10876 31) (3 : Int32).toNatClampNeg z10877)) rc) H := hP
                generalize (va_up F10876 31 (upd (F10876 31) (3 : Int32).toNatClampNeg z10877)) = F10880 at hP hI hF
                refine lv_aload_n hx hb dX12_lostBy_221 rfl (lv_at hl 3 rfl) ?_
                refine va_get (D := (dC, dI)) (ci := 12) (v := .ref (g 31)) (C := RX12) (T := TX12) (N := 63) hx hb hwd inA_X12 hown hK hP 0 rfl rfl 44 (by decide) (hwd _ wk_213) (fun _ h9 => h9) rfl dX12_lostBy_222 ?_
                refine lv_iconst (v := 4) hx hb dX12_lostBy_225 (by decide) ?_
                refine lv_aload_n hx hb dX12_lostBy_226 rfl (lv_at hl 3 rfl) ?_
                refine va_get (D := (dC, dI)) (ci := 12) (v := .ref (g 11)) (C := RX12) (T := TX12) (N := 63) hx hb hwd inA_X12 hown hK hP 0 rfl rfl 15 (by decide) (hwd _ wk_192) (fun _ h9 => h9) rfl dX12_lostBy_227 ?_
                refine lv_aload_n hx hb dX12_lostBy_230 rfl (lv_at hl 3 rfl) ?_
                refine va_get (D := (dC, dI)) (ci := 12) (v := .ref (g 15)) (C := RX12) (T := TX12) (N := 63) hx hb hwd inA_X12 hown hK hP 0 rfl rfl 20 (by decide) (hwd _ wk_196) (fun _ h9 => h9) rfl dX12_lostBy_231 ?_
                refine lv_iload_n hx hb dX12_lostBy_234 rfl (lv_at hl 4 rfl) ?_
                refine va_iald hx hb hK hP 15 14 rfl rfl (i := p0) (vin (a := p0.toInt) rfl (by omega)) dX12_lostBy_235 ?_
                refine lv_topi (fun z10881 e10882 => ?_)
                have t10883 : 0 ≤ z10881.toInt ∧ z10881.toInt ≤ 99 := by rw [e10882]; exact hI.2 15 _ _ rfl _
                have e10882 : z10881 = F 15 (p0 : Int32).toNatClampNeg := e10882.trans (congrFun (hF 15 (by decide)) _)
                refine va_iald hx hb hK hP 11 10 rfl rfl (i := z10881) (vin (a := z10881.toInt) rfl (by omega)) dX12_lostBy_236 ?_
                refine lv_topi (fun z10884 e10885 => ?_)
                have t10886 : 0 ≤ z10884.toInt ∧ z10884.toInt ≤ 9 := by rw [e10885]; exact hI.2 11 _ _ rfl _
                have e10885 : z10884 = F 11 (z10881 : Int32).toNatClampNeg := e10885.trans (congrFun (hF 11 (by decide)) _)
                refine va_iast hx hb hK hP (DM hg) hS 31 30 rfl rfl (i := 4) (x := z10884) (vin (a := 4) (by decide) (by omega)) dX12_lostBy_237 (fun H locs hP _ hS => ?_)
                have hP := va_P_eq (sM_31 g c _ _ _ _) hP
                have hI := IM.store0 hI 31 (4 : Int32).toNatClampNeg z10884 rfl
                have hF := frUF (k := 31) (f := upd (F10880 31) (4 : Int32).toNatClampNeg z10884) (by decide) hF
                have hP : va_P (dC, dI) classes (wM g c v_lp10848 (va_up F10880 31 (upd (F10880 31) (4 : Int32).toNatClampNeg z10884)) rc) H := hP
                generalize (va_up F10880 31 (upd (F10880 31) (4 : Int32).toNatClampNeg z10884)) = F10887 at hP hI hF
                refine lv_aload_n hx hb dX12_lostBy_238 rfl (lv_at hl 3 rfl) ?_
                refine va_get (D := (dC, dI)) (ci := 12) (v := .ref (g 31)) (C := RX12) (T := TX12) (N := 63) hx hb hwd inA_X12 hown hK hP 0 rfl rfl 44 (by decide) (hwd _ wk_213) (fun _ h9 => h9) rfl dX12_lostBy_239 ?_
                refine lv_iconst (v := 5) hx hb dX12_lostBy_242 (by decide) ?_
                refine lv_iload hx hb dX12_lostBy_243 (lv_at hl 1 rfl) ?_
                refine va_iast hx hb hK hP (DM hg) hS 31 30 rfl rfl (i := 5) (x := x4_lp10848) (vin (a := 5) (by decide) (by omega)) dX12_lostBy_245 (fun H locs hP _ hS => ?_)
                have hP := va_P_eq (sM_31 g c _ _ _ _) hP
                have hI := IM.store0 hI 31 (5 : Int32).toNatClampNeg x4_lp10848 rfl
                have hF := frUF (k := 31) (f := upd (F10887 31) (5 : Int32).toNatClampNeg x4_lp10848) (by decide) hF
                have hP : va_P (dC, dI) classes (wM g c v_lp10848 (va_up F10887 31 (upd (F10887 31) (5 : Int32).toNatClampNeg x4_lp10848)) rc) H := hP
                generalize (va_up F10887 31 (upd (F10887 31) (5 : Int32).toNatClampNeg x4_lp10848)) = F10888 at hP hI hF
                refine lv_aload_n hx hb dX12_lostBy_246 rfl (lv_at hl 3 rfl) ?_
                refine lv_iload_n hx hb dX12_lostBy_247 rfl (lv_at hl 2 rfl) ?_
                refine va_calli (va_runV (As := [.int x3_lp10841]) (rest := []) ⟨hx, hb, hml, hown, hwd⟩ (c_X12_works l dC dI g c adK adV v_lp10848 F10888 rc H.size x3_lp10841 hg hI (by omega) (JL.at' (JL.to hL rfl (hF 28 (by decide)) (hF 29 (by decide)) (hF 27 (by decide))) (i := x3_lp10841) (by omega) (by omega))) (cwV 1 hwd (gV wk_513 wk_510 wk_511 wk_512 wk_5) rfl rfl rfl (by decide +kernel) ⟨Nat.le_of_ble_eq_true rfl, Nat.le_of_ble_eq_true rfl⟩) ⟨PM.blind, va_recv hK hP (ci := 12) (q0 := 0) rfl rfl, fun U hU hW => ⟨rfl, PM.at hK hE hP hS hU hW⟩⟩ rfl rfl hl.1 rfl (lv_room (Nat.le_of_ble_eq_true rfl)) dX12_lostBy_248 ⟨Nat.le_of_ble_eq_true rfl, Nat.le_of_ble_eq_true rfl⟩) hS (fun q _ h => (freeM hS) q h) (freeM hS) (fun r10889 u t H1 locs ht hvm hw hB hz1 hk1 hS => ?_)
                unfold BM at hB
                rw [ht] at hB
                obtain ⟨v10890, F10891, rc9⟩ := u
                obtain ⟨hI, hrc, hf10892, hG10893, hw⟩ := hw
                dsimp only at hI hrc hB hf10892 hG10893 hw
                have hF := frCF (by decide) hG10893 hF
                rw [hrc] at hB
                have hP : va_P (dC, dI) classes (wM g c v10890 F10891 rc) H1 := hB
                clear hz1
                generalize H1 = H at hP hS ⊢
                have rr_r10889 := i32_rng r10889
                refine lv_istore (lv' := [(5, .int r10889), (4, .int x4_lp10848), (3, .int x3_lp10841), (0, .ref (g 0)), (1, .int p0), (2, .int p1)]) hx hb dX12_lostBy_251 hl (by decide) rfl (fun ls hl => ?_)
                refine lv_iload hx hb dX12_lostBy_253 (lv_at hl 0 rfl) ?_
                refine lv_if_ge (tgt := 262) hx hb dX12_lostBy_255 (by decide) (fun c10894 => ?_) (fun c10894 => ?_)
                · skip
                  have t10895 := cv_le (a := 0) (by decide) (b := r10889.toInt) rfl c10894
                  refine lv_iload hx hb dX12_lostBy_262 (lv_at hl 0 rfl) ?_
                  refine lv_bipush (v := 100) hx hb dX12_lostBy_264 (by decide) ?_
                  refine lv_icmp_le (tgt := 274) hx hb dX12_lostBy_266 (by decide) (fun c10896 => ?_) (fun c10896 => ?_)
                  · skip
                    have t10897 := cv_le (a := r10889.toInt) rfl (b := 100) (by decide) c10896
                    refine lv_iload hx hb dX12_lostBy_274 (lv_at hl 0 rfl) ?_
                    have hP9 : va_P (dC, dI) classes (wM g c v10890 F10891 rc) H := hP
                    exact W.iret (v := r10889) hx hb hr (fun t ht hW => ⟨⟨r10889, (v10890, F10891, rc), rfl, ⟨hI, rfl, (frC (by decide) hf10892 (frC (by decide) hf_lp10848 (frC (by decide) hf_lp10841 (fun _ _ => rfl)))), hF, by omega⟩, (by show va_P _ _ _ t.heap; rw [ht]; exact hP9)⟩, hS.F ht⟩) hS.2.2 dX12_lostBy_276
                  · skip
                    have t10898 := cv_nle (a := r10889.toInt) rfl (b := 100) (by decide) c10896
                    refine lv_bipush (v := 100) hx hb dX12_lostBy_269 (by decide) ?_
                    refine lv_goto (tgt := 276) hx hb dX12_lostBy_271 (by decide) ?_
                    have hP9 : va_P (dC, dI) classes (wM g c v10890 F10891 rc) H := hP
                    exact W.iret (v := 100) hx hb hr (fun t ht hW => ⟨⟨100, (v10890, F10891, rc), rfl, ⟨hI, rfl, (frC (by decide) hf10892 (frC (by decide) hf_lp10848 (frC (by decide) hf_lp10841 (fun _ _ => rfl)))), hF, by have : (100 : Int32).toInt = 100 := (by decide); omega⟩, (by show va_P _ _ _ t.heap; rw [ht]; exact hP9)⟩, hS.F ht⟩) hS.2.2 dX12_lostBy_276
                · skip
                  have t10899 := cv_nle (a := 0) (by decide) (b := r10889.toInt) rfl c10894
                  refine lv_iconst (v := 0) hx hb dX12_lostBy_258 (by decide) ?_
                  refine lv_goto (tgt := 276) hx hb dX12_lostBy_259 (by decide) ?_
                  have hP9 : va_P (dC, dI) classes (wM g c v10890 F10891 rc) H := hP
                  exact W.iret (v := 0) hx hb hr (fun t ht hW => ⟨⟨0, (v10890, F10891, rc), rfl, ⟨hI, rfl, (frC (by decide) hf10892 (frC (by decide) hf_lp10848 (frC (by decide) hf_lp10841 (fun _ _ => rfl)))), hF, by have : (0 : Int32).toInt = 0 := (by decide); omega⟩, (by show va_P _ _ _ t.heap; rw [ht]; exact hP9)⟩, hS.F ht⟩) hS.2.2 dX12_lostBy_276
              · skip
                have t10900 := cv_nle (a := (v 19).toInt) rfl (b := x5_lp10848.toInt) rfl c10851
                refine lv_iload hx hb dX12_lostBy_63 (lv_at hl 1 rfl) ?_
                refine lv_iload hx hb dX12_lostBy_65 (lv_at hl 0 rfl) ?_
                refine lv_iload_n hx hb dX12_lostBy_67 rfl (lv_at hl 4 rfl) ?_
                refine lv_icmp_eq (tgt := 142) hx hb dX12_lostBy_68 (by decide) (fun c10901 => ?_) (fun c10901 => ?_)
                · skip
                  have t10902 := cv_eq (a := x5_lp10848.toInt) rfl (b := p0.toInt) rfl c10901
                  refine lv_iconst (v := 0) hx hb dX12_lostBy_142 (by decide) ?_
                  refine lv_iadd hx hb dX12_lostBy_143 ?_
                  refine lv_topi (fun z10903 e10904 => ?_)
                  try (have t10905 := tadd e10904 (a := x4_lp10848.toInt) rfl (b := 0) (by decide) (by omega))
                  refine lv_istore (lv' := [(4, .int z10903), (5, .int x5_lp10848), (3, .int x3_lp10841), (0, .ref (g 0)), (1, .int p0), (2, .int p1)]) hx hb dX12_lostBy_144 hl (by decide) rfl (fun ls hl => ?_)
                  obtain ⟨z10906, e10907⟩ : ∃ y : Int32, y = x5_lp10848 + 1 := ⟨_, rfl⟩
                  try (have t10908 := tadd e10907 rfl (b := 1) (by decide) (by omega))
                  refine lv_iinc (v := z10906) (lv' := [(5, .int z10906), (4, .int z10903), (3, .int x3_lp10841), (0, .ref (g 0)), (1, .int p0), (2, .int p1)]) hx hb dX12_lostBy_146 hl (k := 1) rfl (by rw [e10907]; rfl) (by decide) rfl (fun ls hl => ?_)
                  refine lv_goto (tgt := 54) hx hb dX12_lostBy_149 (by decide) ?_
                  exact ih_lp10848 z10906 z10903 v_lp10848 F_lp10848 _ _ _ (by omega) (by omega) hf_lp10848 hI hF hP hS (lv_sub hl [0, 1, 2, 3, 4, 5] rfl)
                · skip
                  have t10909 := cv_ne (a := x5_lp10848.toInt) rfl (b := p0.toInt) rfl c10901
                  refine lv_aload_n hx hb dX12_lostBy_71 rfl (lv_at hl 3 rfl) ?_
                  refine va_get (D := (dC, dI)) (ci := 12) (v := .ref (g 15)) (C := RX12) (T := TX12) (N := 63) hx hb hwd inA_X12 hown hK hP 0 rfl rfl 20 (by decide) (hwd _ wk_196) (fun _ h9 => h9) rfl dX12_lostBy_72 ?_
                  refine lv_iload hx hb dX12_lostBy_75 (lv_at hl 0 rfl) ?_
                  refine va_iald hx hb hK hP 15 14 rfl rfl (i := x5_lp10848) (vin (a := x5_lp10848.toInt) rfl (by omega)) dX12_lostBy_77 ?_
                  refine lv_topi (fun z10910 e10911 => ?_)
                  have t10912 : 0 ≤ z10910.toInt ∧ z10910.toInt ≤ 99 := by rw [e10911]; exact hI.2 15 _ _ rfl _
                  have e10911 : z10910 = F 15 (x5_lp10848 : Int32).toNatClampNeg := e10911.trans (congrFun (hF 15 (by decide)) _)
                  refine lv_aload_n hx hb dX12_lostBy_78 rfl (lv_at hl 3 rfl) ?_
                  refine va_get (D := (dC, dI)) (ci := 12) (v := .ref (g 15)) (C := RX12) (T := TX12) (N := 63) hx hb hwd inA_X12 hown hK hP 0 rfl rfl 20 (by decide) (hwd _ wk_196) (fun _ h9 => h9) rfl dX12_lostBy_79 ?_
                  refine lv_iload_n hx hb dX12_lostBy_82 rfl (lv_at hl 4 rfl) ?_
                  refine va_iald hx hb hK hP 15 14 rfl rfl (i := p0) (vin (a := p0.toInt) rfl (by omega)) dX12_lostBy_83 ?_
                  refine lv_topi (fun z10913 e10914 => ?_)
                  have t10915 : 0 ≤ z10913.toInt ∧ z10913.toInt ≤ 99 := by rw [e10914]; exact hI.2 15 _ _ rfl _
                  have e10914 : z10913 = F 15 (p0 : Int32).toNatClampNeg := e10914.trans (congrFun (hF 15 (by decide)) _)
                  refine lv_icmp_ne (tgt := 142) hx hb dX12_lostBy_84 (by decide) (fun c10916 => ?_) (fun c10916 => ?_)
                  · skip
                    have t10917 := cv_ne (a := z10910.toInt) rfl (b := z10913.toInt) rfl c10916
                    refine lv_iconst (v := 0) hx hb dX12_lostBy_142 (by decide) ?_
                    refine lv_iadd hx hb dX12_lostBy_143 ?_
                    refine lv_topi (fun z10918 e10919 => ?_)
                    try (have t10920 := tadd e10919 (a := x4_lp10848.toInt) rfl (b := 0) (by decide) (by omega))
                    refine lv_istore (lv' := [(4, .int z10918), (5, .int x5_lp10848), (3, .int x3_lp10841), (0, .ref (g 0)), (1, .int p0), (2, .int p1)]) hx hb dX12_lostBy_144 hl (by decide) rfl (fun ls hl => ?_)
                    obtain ⟨z10921, e10922⟩ : ∃ y : Int32, y = x5_lp10848 + 1 := ⟨_, rfl⟩
                    try (have t10923 := tadd e10922 rfl (b := 1) (by decide) (by omega))
                    refine lv_iinc (v := z10921) (lv' := [(5, .int z10921), (4, .int z10918), (3, .int x3_lp10841), (0, .ref (g 0)), (1, .int p0), (2, .int p1)]) hx hb dX12_lostBy_146 hl (k := 1) rfl (by rw [e10922]; rfl) (by decide) rfl (fun ls hl => ?_)
                    refine lv_goto (tgt := 54) hx hb dX12_lostBy_149 (by decide) ?_
                    exact ih_lp10848 z10921 z10918 v_lp10848 F_lp10848 _ _ _ (by omega) (by omega) hf_lp10848 hI hF hP hS (lv_sub hl [0, 1, 2, 3, 4, 5] rfl)
                  · skip
                    have t10924 := cv_eq (a := z10910.toInt) rfl (b := z10913.toInt) rfl c10916
                    refine lv_aload_n hx hb dX12_lostBy_87 rfl (lv_at hl 3 rfl) ?_
                    refine lv_iload hx hb dX12_lostBy_88 (lv_at hl 0 rfl) ?_
                    refine va_calli (va_runV (As := [.int x5_lp10848]) (rest := [.int x4_lp10848]) ⟨hx, hb, hml, hown, hwd⟩ (c_X12_isGap l dC dI g c adK adV v_lp10848 F_lp10848 rc H.size x5_lp10848 hg hI (by omega)) (cwV 1 hwd (gV wk_499 wk_496 wk_497 wk_498 wk_5) rfl rfl rfl (by decide +kernel) ⟨Nat.le_of_ble_eq_true rfl, Nat.le_of_ble_eq_true rfl⟩) ⟨PM.blind, va_recv hK hP (ci := 12) (q0 := 0) rfl rfl, fun U hU hW => ⟨rfl, PM.at hK hE hP hS hU hW⟩⟩ rfl rfl hl.1 rfl (lv_room (Nat.le_of_ble_eq_true rfl)) dX12_lostBy_90 ⟨Nat.le_of_ble_eq_true rfl, Nat.le_of_ble_eq_true rfl⟩) hS (fun q _ h => (freeM hS) q h) (freeM hS) (fun r10925 u t H1 locs ht hvm hw hB hz1 hk1 hS => ?_)
                    unfold BM at hB
                    rw [ht] at hB
                    have hP : va_P (dC, dI) classes (wM g c v_lp10848 F_lp10848 rc) H1 := hB
                    have hw_r10925 : 0 ≤ r10925.toInt ∧ r10925.toInt ≤ 1 := hw
                    clear hw
                    clear hz1
                    generalize H1 = H at hP hS ⊢
                    refine lv_if_eq (tgt := 142) hx hb dX12_lostBy_93 (by decide) (fun c10926 => ?_) (fun c10926 => ?_)
                    · skip
                      have t10927 := cv_eq (a := r10925.toInt) rfl (b := 0) (by decide) c10926
                      refine lv_iconst (v := 0) hx hb dX12_lostBy_142 (by decide) ?_
                      refine lv_iadd hx hb dX12_lostBy_143 ?_
                      refine lv_topi (fun z10928 e10929 => ?_)
                      try (have t10930 := tadd e10929 (a := x4_lp10848.toInt) rfl (b := 0) (by decide) (by omega))
                      refine lv_istore (lv' := [(4, .int z10928), (5, .int x5_lp10848), (3, .int x3_lp10841), (0, .ref (g 0)), (1, .int p0), (2, .int p1)]) hx hb dX12_lostBy_144 hl (by decide) rfl (fun ls hl => ?_)
                      obtain ⟨z10931, e10932⟩ : ∃ y : Int32, y = x5_lp10848 + 1 := ⟨_, rfl⟩
                      try (have t10933 := tadd e10932 rfl (b := 1) (by decide) (by omega))
                      refine lv_iinc (v := z10931) (lv' := [(5, .int z10931), (4, .int z10928), (3, .int x3_lp10841), (0, .ref (g 0)), (1, .int p0), (2, .int p1)]) hx hb dX12_lostBy_146 hl (k := 1) rfl (by rw [e10932]; rfl) (by decide) rfl (fun ls hl => ?_)
                      refine lv_goto (tgt := 54) hx hb dX12_lostBy_149 (by decide) ?_
                      exact ih_lp10848 z10931 z10928 v_lp10848 F_lp10848 _ _ _ (by omega) (by omega) hf_lp10848 hI hF hP hS (lv_sub hl [0, 1, 2, 3, 4, 5] rfl)
                    · skip
                      have t10934 := cv_ne (a := r10925.toInt) rfl (b := 0) (by decide) c10926
                      refine lv_aload_n hx hb dX12_lostBy_96 rfl (lv_at hl 3 rfl) ?_
                      refine va_get (D := (dC, dI)) (ci := 12) (v := .ref (g 18)) (C := RX12) (T := TX12) (N := 63) hx hb hwd inA_X12 hown hK hP 0 rfl rfl 23 (by decide) (hwd _ wk_199) (fun _ h9 => h9) rfl dX12_lostBy_97 ?_
                      refine lv_iload hx hb dX12_lostBy_100 (lv_at hl 0 rfl) ?_
                      refine va_iald hx hb hK hP 18 17 rfl rfl (i := x5_lp10848) (vin (a := x5_lp10848.toInt) rfl (by omega)) dX12_lostBy_102 ?_
                      refine lv_topi (fun z10935 e10936 => ?_)
                      have e10936 : z10935 = F 18 (x5_lp10848 : Int32).toNatClampNeg := e10936.trans (congrFun (hF 18 (by decide)) _)
                      refine lv_aload_n hx hb dX12_lostBy_103 rfl (lv_at hl 3 rfl) ?_
                      refine va_get (D := (dC, dI)) (ci := 12) (v := .ref (g 18)) (C := RX12) (T := TX12) (N := 63) hx hb hwd inA_X12 hown hK hP 0 rfl rfl 23 (by decide) (hwd _ wk_199) (fun _ h9 => h9) rfl dX12_lostBy_104 ?_
                      refine lv_iload_n hx hb dX12_lostBy_107 rfl (lv_at hl 4 rfl) ?_
                      refine va_iald hx hb hK hP 18 17 rfl rfl (i := p0) (vin (a := p0.toInt) rfl (by omega)) dX12_lostBy_108 ?_
                      refine lv_topi (fun z10937 e10938 => ?_)
                      have e10938 : z10937 = F 18 (p0 : Int32).toNatClampNeg := e10938.trans (congrFun (hF 18 (by decide)) _)
                      refine lv_icmp_lt (tgt := 138) hx hb dX12_lostBy_109 (by decide) (fun c10939 => ?_) (fun c10939 => ?_)
                      · skip
                        have t10940 := cv_lt (a := z10935.toInt) rfl (b := z10937.toInt) rfl c10939
                        refine lv_iconst (v := 1) hx hb dX12_lostBy_138 (by decide) ?_
                        refine lv_goto (tgt := 143) hx hb dX12_lostBy_139 (by decide) ?_
                        refine lv_iadd hx hb dX12_lostBy_143 ?_
                        refine lv_topi (fun z10941 e10942 => ?_)
                        try (have t10943 := tadd e10942 (a := x4_lp10848.toInt) rfl (b := 1) (by decide) (by omega))
                        refine lv_istore (lv' := [(4, .int z10941), (5, .int x5_lp10848), (3, .int x3_lp10841), (0, .ref (g 0)), (1, .int p0), (2, .int p1)]) hx hb dX12_lostBy_144 hl (by decide) rfl (fun ls hl => ?_)
                        obtain ⟨z10944, e10945⟩ : ∃ y : Int32, y = x5_lp10848 + 1 := ⟨_, rfl⟩
                        try (have t10946 := tadd e10945 rfl (b := 1) (by decide) (by omega))
                        refine lv_iinc (v := z10944) (lv' := [(5, .int z10944), (4, .int z10941), (3, .int x3_lp10841), (0, .ref (g 0)), (1, .int p0), (2, .int p1)]) hx hb dX12_lostBy_146 hl (k := 1) rfl (by rw [e10945]; rfl) (by decide) rfl (fun ls hl => ?_)
                        refine lv_goto (tgt := 54) hx hb dX12_lostBy_149 (by decide) ?_
                        exact ih_lp10848 z10944 z10941 v_lp10848 F_lp10848 _ _ _ (by omega) (by omega) hf_lp10848 hI hF hP hS (lv_sub hl [0, 1, 2, 3, 4, 5] rfl)
                      · skip
                        have t10947 := cv_nlt (a := z10935.toInt) rfl (b := z10937.toInt) rfl c10939
                        refine lv_aload_n hx hb dX12_lostBy_112 rfl (lv_at hl 3 rfl) ?_
                        refine va_get (D := (dC, dI)) (ci := 12) (v := .ref (g 18)) (C := RX12) (T := TX12) (N := 63) hx hb hwd inA_X12 hown hK hP 0 rfl rfl 23 (by decide) (hwd _ wk_199) (fun _ h9 => h9) rfl dX12_lostBy_113 ?_
                        refine lv_iload hx hb dX12_lostBy_116 (lv_at hl 0 rfl) ?_
                        refine va_iald hx hb hK hP 18 17 rfl rfl (i := x5_lp10848) (vin (a := x5_lp10848.toInt) rfl (by omega)) dX12_lostBy_118 ?_
                        refine lv_topi (fun z10948 e10949 => ?_)
                        have e10949 : z10948 = F 18 (x5_lp10848 : Int32).toNatClampNeg := e10949.trans (congrFun (hF 18 (by decide)) _)
                        refine lv_aload_n hx hb dX12_lostBy_119 rfl (lv_at hl 3 rfl) ?_
                        refine va_get (D := (dC, dI)) (ci := 12) (v := .ref (g 18)) (C := RX12) (T := TX12) (N := 63) hx hb hwd inA_X12 hown hK hP 0 rfl rfl 23 (by decide) (hwd _ wk_199) (fun _ h9 => h9) rfl dX12_lostBy_120 ?_
                        refine lv_iload_n hx hb dX12_lostBy_123 rfl (lv_at hl 4 rfl) ?_
                        refine va_iald hx hb hK hP 18 17 rfl rfl (i := p0) (vin (a := p0.toInt) rfl (by omega)) dX12_lostBy_124 ?_
                        refine lv_topi (fun z10950 e10951 => ?_)
                        have e10951 : z10950 = F 18 (p0 : Int32).toNatClampNeg := e10951.trans (congrFun (hF 18 (by decide)) _)
                        refine lv_icmp_ne (tgt := 142) hx hb dX12_lostBy_125 (by decide) (fun c10952 => ?_) (fun c10952 => ?_)
                        · skip
                          have t10953 := cv_ne (a := z10948.toInt) rfl (b := z10950.toInt) rfl c10952
                          refine lv_iconst (v := 0) hx hb dX12_lostBy_142 (by decide) ?_
                          refine lv_iadd hx hb dX12_lostBy_143 ?_
                          refine lv_topi (fun z10954 e10955 => ?_)
                          try (have t10956 := tadd e10955 (a := x4_lp10848.toInt) rfl (b := 0) (by decide) (by omega))
                          refine lv_istore (lv' := [(4, .int z10954), (5, .int x5_lp10848), (3, .int x3_lp10841), (0, .ref (g 0)), (1, .int p0), (2, .int p1)]) hx hb dX12_lostBy_144 hl (by decide) rfl (fun ls hl => ?_)
                          obtain ⟨z10957, e10958⟩ : ∃ y : Int32, y = x5_lp10848 + 1 := ⟨_, rfl⟩
                          try (have t10959 := tadd e10958 rfl (b := 1) (by decide) (by omega))
                          refine lv_iinc (v := z10957) (lv' := [(5, .int z10957), (4, .int z10954), (3, .int x3_lp10841), (0, .ref (g 0)), (1, .int p0), (2, .int p1)]) hx hb dX12_lostBy_146 hl (k := 1) rfl (by rw [e10958]; rfl) (by decide) rfl (fun ls hl => ?_)
                          refine lv_goto (tgt := 54) hx hb dX12_lostBy_149 (by decide) ?_
                          exact ih_lp10848 z10957 z10954 v_lp10848 F_lp10848 _ _ _ (by omega) (by omega) hf_lp10848 hI hF hP hS (lv_sub hl [0, 1, 2, 3, 4, 5] rfl)
                        · skip
                          have t10960 := cv_eq (a := z10948.toInt) rfl (b := z10950.toInt) rfl c10952
                          refine lv_aload_n hx hb dX12_lostBy_128 rfl (lv_at hl 3 rfl) ?_
                          refine lv_iload hx hb dX12_lostBy_129 (lv_at hl 0 rfl) ?_
                          refine lv_iload_n hx hb dX12_lostBy_131 rfl (lv_at hl 4 rfl) ?_
                          refine va_calli (va_runV (As := [.int x5_lp10848, .int p0]) (rest := [.int x4_lp10848]) ⟨hx, hb, hml, hown, hwd⟩ (c_X12_isAhead l dC dI g c adK adV v_lp10848 F_lp10848 rc H.size x5_lp10848 p0 hg hI (by omega) (by omega)) (cwV 2 hwd (gV wk_509 wk_506 wk_507 wk_508 wk_5) rfl rfl rfl (by decide +kernel) ⟨Nat.le_of_ble_eq_true rfl, Nat.le_of_ble_eq_true rfl⟩) ⟨PM.blind, va_recv hK hP (ci := 12) (q0 := 0) rfl rfl, fun U hU hW => ⟨rfl, PM.at hK hE hP hS hU hW⟩⟩ rfl rfl hl.1 rfl (lv_room (Nat.le_of_ble_eq_true rfl)) dX12_lostBy_132 ⟨Nat.le_of_ble_eq_true rfl, Nat.le_of_ble_eq_true rfl⟩) hS (fun q _ h => (freeM hS) q h) (freeM hS) (fun r10961 u t H1 locs ht hvm hw hB hz1 hk1 hS => ?_)
                          unfold BM at hB
                          rw [ht] at hB
                          have hP : va_P (dC, dI) classes (wM g c v_lp10848 F_lp10848 rc) H1 := hB
                          replace hw : (r10961.toInt = 1 ∧ ((F_lp10848 17 x5_lp10848.toNatClampNeg).toInt < (F_lp10848 17 p0.toNatClampNeg).toInt ∨ ((F_lp10848 17 x5_lp10848.toNatClampNeg).toInt = (F_lp10848 17 p0.toNatClampNeg).toInt ∧ x5_lp10848.toInt < p0.toInt))) ∨ (r10961.toInt = 0 ∧ ¬ ((F_lp10848 17 x5_lp10848.toNatClampNeg).toInt < (F_lp10848 17 p0.toNatClampNeg).toInt ∨ ((F_lp10848 17 x5_lp10848.toNatClampNeg).toInt = (F_lp10848 17 p0.toNatClampNeg).toInt ∧ x5_lp10848.toInt < p0.toInt))) := hw
                          have hw_r10961 := hw
                          clear hw
                          clear hz1
                          generalize H1 = H at hP hS ⊢
                          refine lv_if_eq (tgt := 142) hx hb dX12_lostBy_135 (by decide) (fun c10962 => ?_) (fun c10962 => ?_)
                          · skip
                            have t10963 := cv_eq (a := r10961.toInt) rfl (b := 0) (by decide) c10962
                            refine lv_iconst (v := 0) hx hb dX12_lostBy_142 (by decide) ?_
                            refine lv_iadd hx hb dX12_lostBy_143 ?_
                            refine lv_topi (fun z10964 e10965 => ?_)
                            try (have t10966 := tadd e10965 (a := x4_lp10848.toInt) rfl (b := 0) (by decide) (by omega))
                            refine lv_istore (lv' := [(4, .int z10964), (5, .int x5_lp10848), (3, .int x3_lp10841), (0, .ref (g 0)), (1, .int p0), (2, .int p1)]) hx hb dX12_lostBy_144 hl (by decide) rfl (fun ls hl => ?_)
                            obtain ⟨z10967, e10968⟩ : ∃ y : Int32, y = x5_lp10848 + 1 := ⟨_, rfl⟩
                            try (have t10969 := tadd e10968 rfl (b := 1) (by decide) (by omega))
                            refine lv_iinc (v := z10967) (lv' := [(5, .int z10967), (4, .int z10964), (3, .int x3_lp10841), (0, .ref (g 0)), (1, .int p0), (2, .int p1)]) hx hb dX12_lostBy_146 hl (k := 1) rfl (by rw [e10968]; rfl) (by decide) rfl (fun ls hl => ?_)
                            refine lv_goto (tgt := 54) hx hb dX12_lostBy_149 (by decide) ?_
                            exact ih_lp10848 z10967 z10964 v_lp10848 F_lp10848 _ _ _ (by omega) (by omega) hf_lp10848 hI hF hP hS (lv_sub hl [0, 1, 2, 3, 4, 5] rfl)
                          · skip
                            have t10970 := cv_ne (a := r10961.toInt) rfl (b := 0) (by decide) c10962
                            refine lv_iconst (v := 1) hx hb dX12_lostBy_138 (by decide) ?_
                            refine lv_goto (tgt := 143) hx hb dX12_lostBy_139 (by decide) ?_
                            refine lv_iadd hx hb dX12_lostBy_143 ?_
                            refine lv_topi (fun z10971 e10972 => ?_)
                            try (have t10973 := tadd e10972 (a := x4_lp10848.toInt) rfl (b := 1) (by decide) (by omega))
                            refine lv_istore (lv' := [(4, .int z10971), (5, .int x5_lp10848), (3, .int x3_lp10841), (0, .ref (g 0)), (1, .int p0), (2, .int p1)]) hx hb dX12_lostBy_144 hl (by decide) rfl (fun ls hl => ?_)
                            obtain ⟨z10974, e10975⟩ : ∃ y : Int32, y = x5_lp10848 + 1 := ⟨_, rfl⟩
                            try (have t10976 := tadd e10975 rfl (b := 1) (by decide) (by omega))
                            refine lv_iinc (v := z10974) (lv' := [(5, .int z10974), (4, .int z10971), (3, .int x3_lp10841), (0, .ref (g 0)), (1, .int p0), (2, .int p1)]) hx hb dX12_lostBy_146 hl (k := 1) rfl (by rw [e10975]; rfl) (by decide) rfl (fun ls hl => ?_)
                            refine lv_goto (tgt := 54) hx hb dX12_lostBy_149 (by decide) ?_
                            exact ih_lp10848 z10974 z10971 v_lp10848 F_lp10848 _ _ _ (by omega) (by omega) hf_lp10848 hI hF hP hS (lv_sub hl [0, 1, 2, 3, 4, 5] rfl)
          obtain ⟨n9, hn9⟩ : ∃ n : Nat, 2147483648 - 0 ≤ (n : Int) := ⟨((2147483648 - 0 : Int)).toNat, by omega⟩
          exact lp10848 n9 0 0 v_lp10841 F_lp10841 H _ ls (by have : (0 : Int32).toInt = 0 := (by decide); have : (0 : Int32).toInt = 0 := (by decide); omega) (by have : (0 : Int32).toInt = 0 := (by decide); have : (0 : Int32).toInt = 0 := (by decide); omega) (fun _ _ => rfl) hI hF hP hS hl
        · skip
          have t10977 := cv_nle (a := 0) (by decide) (b := x3_lp10841.toInt) rfl c10846
          refine lv_iconst (v := 0) hx hb dX12_lostBy_46 (by decide) ?_
          have hP9 : va_P (dC, dI) classes (wM g c v_lp10841 F_lp10841 rc) H := hP
          exact W.iret (v := 0) hx hb hr (fun t ht hW => ⟨⟨0, (v_lp10841, F_lp10841, rc), rfl, ⟨hI, rfl, (frC (by decide) hf_lp10841 (fun _ _ => rfl)), hF, by have : (0 : Int32).toInt = 0 := (by decide); omega⟩, (by show va_P _ _ _ t.heap; rw [ht]; exact hP9)⟩, hS.F ht⟩) hS.2.2 dX12_lostBy_47
      · skip
        have t10978 := cv_nlt (a := x3_lp10841.toInt) rfl (b := 0) (by decide) c10844
        refine lv_aload_n hx hb dX12_lostBy_11 rfl (lv_at hl 1 rfl) ?_
        refine va_get (D := (dC, dI)) (ci := 12) (v := .ref (g 25)) (C := RX12) (T := TX12) (N := 63) hx hb hwd inA_X12 hown hK hP 0 rfl rfl 32 (by decide) (hwd _ wk_207) (fun _ h9 => h9) rfl dX12_lostBy_12 ?_
        refine lv_iload_n hx hb dX12_lostBy_15 rfl (lv_at hl 0 rfl) ?_
        refine va_iald hx hb hK hP 25 24 rfl rfl (i := x3_lp10841) (vin (a := x3_lp10841.toInt) rfl (by omega)) dX12_lostBy_16 ?_
        refine lv_topi (fun z10979 e10980 => ?_)
        have e10980 : z10979 = F 25 (x3_lp10841 : Int32).toNatClampNeg := e10980.trans (congrFun (hF 25 (by decide)) _)
        refine lv_iload_n hx hb dX12_lostBy_17 rfl (lv_at hl 3 rfl) ?_
        refine lv_icmp_gt (tgt := 36) hx hb dX12_lostBy_18 (by decide) (fun c10981 => ?_) (fun c10981 => ?_)
        · skip
          have t10982 := cv_lt (a := p1.toInt) rfl (b := z10979.toInt) rfl c10981
          obtain ⟨z10983, e10984⟩ : ∃ y : Int32, y = x3_lp10841 + (-1) := ⟨_, rfl⟩
          try (have t10985 := tadd e10984 rfl (b := (-1)) (by decide) (by omega))
          refine lv_iinc (v := z10983) (lv' := [(3, .int z10983), (0, .ref (g 0)), (1, .int p0), (2, .int p1)]) hx hb dX12_lostBy_36 hl (k := 0) rfl (by rw [e10984]; rfl) (by decide) rfl (fun ls hl => ?_)
          refine lv_goto (tgt := 7) hx hb dX12_lostBy_39 (by decide) ?_
          exact ih_lp10841 z10983 v_lp10841 F_lp10841 _ _ _ (by omega) (by omega) (by omega) hf_lp10841 hI hF hP hS (lv_sub hl [0, 1, 2, 3] rfl)
        · skip
          have t10986 := cv_nlt (a := p1.toInt) rfl (b := z10979.toInt) rfl c10981
          refine lv_aload_n hx hb dX12_lostBy_21 rfl (lv_at hl 1 rfl) ?_
          refine va_get (D := (dC, dI)) (ci := 12) (v := .ref (g 26)) (C := RX12) (T := TX12) (N := 63) hx hb hwd inA_X12 hown hK hP 0 rfl rfl 33 (by decide) (hwd _ wk_208) (fun _ h9 => h9) rfl dX12_lostBy_22 ?_
          refine lv_iload_n hx hb dX12_lostBy_25 rfl (lv_at hl 0 rfl) ?_
          refine va_iald hx hb hK hP 26 25 rfl rfl (i := x3_lp10841) (vin (a := x3_lp10841.toInt) rfl (by omega)) dX12_lostBy_26 ?_
          refine lv_topi (fun z10987 e10988 => ?_)
          have e10988 : z10987 = F 26 (x3_lp10841 : Int32).toNatClampNeg := e10988.trans (congrFun (hF 26 (by decide)) _)
          refine lv_aload_n hx hb dX12_lostBy_27 rfl (lv_at hl 1 rfl) ?_
          refine va_get (D := (dC, dI)) (ci := 12) (v := .ref (g 18)) (C := RX12) (T := TX12) (N := 63) hx hb hwd inA_X12 hown hK hP 0 rfl rfl 23 (by decide) (hwd _ wk_199) (fun _ h9 => h9) rfl dX12_lostBy_28 ?_
          refine lv_iload_n hx hb dX12_lostBy_31 rfl (lv_at hl 2 rfl) ?_
          refine va_iald hx hb hK hP 18 17 rfl rfl (i := p0) (vin (a := p0.toInt) rfl (by omega)) dX12_lostBy_32 ?_
          refine lv_topi (fun z10989 e10990 => ?_)
          have e10990 : z10989 = F 18 (p0 : Int32).toNatClampNeg := e10990.trans (congrFun (hF 18 (by decide)) _)
          refine lv_icmp_le (tgt := 42) hx hb dX12_lostBy_33 (by decide) (fun c10991 => ?_) (fun c10991 => ?_)
          · skip
            have t10992 := cv_le (a := z10987.toInt) rfl (b := z10989.toInt) rfl c10991
            refine lv_iload_n hx hb dX12_lostBy_42 rfl (lv_at hl 0 rfl) ?_
            refine lv_if_ge (tgt := 48) hx hb dX12_lostBy_43 (by decide) (fun c10993 => ?_) (fun c10993 => ?_)
            · skip
              have t10994 := cv_le (a := 0) (by decide) (b := x3_lp10841.toInt) rfl c10993
              refine lv_iconst (v := 0) hx hb dX12_lostBy_48 (by decide) ?_
              refine lv_istore (lv' := [(4, .int 0), (3, .int x3_lp10841), (0, .ref (g 0)), (1, .int p0), (2, .int p1)]) hx hb dX12_lostBy_49 hl (by decide) rfl (fun ls hl => ?_)
              refine lv_iconst (v := 0) hx hb dX12_lostBy_51 (by decide) ?_
              refine lv_istore (lv' := [(5, .int 0), (4, .int 0), (3, .int x3_lp10841), (0, .ref (g 0)), (1, .int p0), (2, .int p1)]) hx hb dX12_lostBy_52 hl (by decide) rfl (fun ls hl => ?_)
              have lp10995 : ∀ (n : Nat) (x5_lp10995 : Int32) (x4_lp10995 : Int32) (v_lp10995 : Nat → Int32) (F_lp10995 : Nat → Nat → Int32) (H : Heap) (locs : List Loc) (ls : Array Slot), (0 ≤ x5_lp10995.toInt) → (2147483648 - x5_lp10995.toInt ≤ (n : Int)) → (∀ k, k ∉ ([] : List Nat) → v_lp10995 k = v_lp10841 k) → IM v_lp10995 F_lp10995 → (∀ k, k ∉ ([30, 31] : List Nat) → F_lp10995 k = F k) → va_P (dC, dI) classes (wM g c v_lp10995 F_lp10995 rc) H → va_S (AM g s.heap.size) s.heap H locs → lv_has ls 6 [(5, .int x5_lp10995), (4, .int x4_lp10995), (3, .int x3_lp10841), (0, .ref (g 0)), (1, .int p0), (2, .int p1)] → W p l e (headSpec (Cond.code yX12_lostBy cX12_lostBy 6 (some .int) :: wA) ({ frames := 3, cells := 0, slots := 0, locals := 120 })).room s m ([.ref (g 0), .int p0, .int p1] : List Value).toArray below meth c0 H locs 0 0 (MQ below (va_Qi (fun (r : Int32) (u : StM) => IM u.1 u.2.1 ∧ u.2.2 = rc ∧ (∀ k, k ∉ ([] : List Nat) → u.1 k = v k) ∧ (∀ k, k ∉ ([30, 31] : List Nat) → u.2.1 k = F k) ∧ 0 ≤ r.toInt ∧ r.toInt ≤ 100) (BM dC dI g c) (AM g s.heap.size)) ([.ref (g 0), .int p0, .int p1] : List Value).toArray s 0 0 (AM g s.heap.size)) (F0 m 54 ls []) := by
                intro n
                induction n with
                | zero =>
                  intro x5_lp10995 x4_lp10995 v_lp10995 F_lp10995 H locs ls t10996 hm hf_lp10995 hI hF hP hS hl
                  exfalso
                  have := i32_rng x5_lp10995
                  have := i32_rng x4_lp10995
                  have hI1 := hI.1
                  omega
                | succ n ih_lp10995 =>
                  intro x5_lp10995 x4_lp10995 v_lp10995 F_lp10995 H locs ls t10996 hm hf_lp10995 hI hF hP hS hl
                  have rx5_lp10995 := i32_rng x5_lp10995
                  have rx4_lp10995 := i32_rng x4_lp10995
                  refine lv_iload hx hb dX12_lostBy_54 (lv_at hl 0 rfl) ?_
                  refine lv_aload_n hx hb dX12_lostBy_56 rfl (lv_at hl 3 rfl) ?_
                  refine va_get (D := (dC, dI)) (ci := 12) (v := .int (v_lp10995 19)) (C := RX12) (T := TX12) (N := 63) hx hb hwd inA_X12 hown hK hP 0 rfl rfl 19 (by decide) (hwd _ wk_494) (fun _ h9 => h9) rfl dX12_lostBy_57 ?_
                  refine my_top (v := v 19) ((hf_lp10995 19 (by decide)).trans (hf_lp10841 19 (by decide))) ?_
                  have t10997 : 0 ≤ (v 19).toInt ∧ (v 19).toInt ≤ 500 := by have h9 := hI.1 19 _ _ rfl; rw [show v_lp10995 19 = v 19 from (hf_lp10995 19 (by decide)).trans (hf_lp10841 19 (by decide))] at h9; exact h9
                  refine lv_icmp_ge (tgt := 152) hx hb dX12_lostBy_60 (by decide) (fun c10998 => ?_) (fun c10998 => ?_)
                  · skip
                    have t10999 := cv_le (a := (v 19).toInt) rfl (b := x5_lp10995.toInt) rfl c10998
                    refine lv_aload_n hx hb dX12_lostBy_152 rfl (lv_at hl 3 rfl) ?_
                    refine va_get (D := (dC, dI)) (ci := 12) (v := .ref (g 31)) (C := RX12) (T := TX12) (N := 63) hx hb hwd inA_X12 hown hK hP 0 rfl rfl 44 (by decide) (hwd _ wk_213) (fun _ h9 => h9) rfl dX12_lostBy_153 ?_
                    refine lv_iconst (v := 0) hx hb dX12_lostBy_156 (by decide) ?_
                    refine lv_aload_n hx hb dX12_lostBy_157 rfl (lv_at hl 3 rfl) ?_
                    refine va_get (D := (dC, dI)) (ci := 12) (v := .ref (g 18)) (C := RX12) (T := TX12) (N := 63) hx hb hwd inA_X12 hown hK hP 0 rfl rfl 23 (by decide) (hwd _ wk_199) (fun _ h9 => h9) rfl dX12_lostBy_158 ?_
                    refine lv_iload_n hx hb dX12_lostBy_161 rfl (lv_at hl 4 rfl) ?_
                    refine va_iald hx hb hK hP 18 17 rfl rfl (i := p0) (vin (a := p0.toInt) rfl (by omega)) dX12_lostBy_162 ?_
                    refine lv_topi (fun z11000 e11001 => ?_)
                    have e11001 : z11000 = F 18 (p0 : Int32).toNatClampNeg := e11001.trans (congrFun (hF 18 (by decide)) _)
                    refine lv_aload_n hx hb dX12_lostBy_163 rfl (lv_at hl 3 rfl) ?_
                    refine va_get (D := (dC, dI)) (ci := 12) (v := .ref (g 17)) (C := RX12) (T := TX12) (N := 63) hx hb hwd inA_X12 hown hK hP 0 rfl rfl 22 (by decide) (hwd _ wk_198) (fun _ h9 => h9) rfl dX12_lostBy_164 ?_
                    refine lv_iload_n hx hb dX12_lostBy_167 rfl (lv_at hl 4 rfl) ?_
                    refine va_iald hx hb hK hP 17 16 rfl rfl (i := p0) (vin (a := p0.toInt) rfl (by omega)) dX12_lostBy_168 ?_
                    refine lv_topi (fun z11002 e11003 => ?_)
                    have e11003 : z11002 = F 17 (p0 : Int32).toNatClampNeg := e11003.trans (congrFun (hF 17 (by decide)) _)
                    refine lv_isub hx hb dX12_lostBy_169 ?_
                    refine lv_topi (fun z11004 e11005 => ?_)
                    try (have t11006 := tsub e11005 (a := z11000.toInt) rfl (b := z11002.toInt) rfl (by omega))
                    refine va_iast hx hb hK hP (DM hg) hS 31 30 rfl rfl (i := 0) (x := z11004) (vin (a := 0) (by decide) (by omega)) dX12_lostBy_170 (fun H locs hP _ hS => ?_)
                    have hP := va_P_eq (sM_31 g c _ _ _ _) hP
                    have hI := IM.store0 hI 31 (0 : Int32).toNatClampNeg z11004 rfl
                    have hF := frUF (k := 31) (f := upd (F_lp10995 31) (0 : Int32).toNatClampNeg z11004) (by decide) hF
                    have hP : va_P (dC, dI) classes (wM g c v_lp10995 (va_up F_lp10995 31 (upd (F_lp10995 31) (0 : Int32).toNatClampNeg z11004)) rc) H := hP
                    generalize (va_up F_lp10995 31 (upd (F_lp10995 31) (0 : Int32).toNatClampNeg z11004)) = F11007 at hP hI hF
                    refine lv_aload_n hx hb dX12_lostBy_171 rfl (lv_at hl 3 rfl) ?_
                    refine va_get (D := (dC, dI)) (ci := 12) (v := .ref (g 31)) (C := RX12) (T := TX12) (N := 63) hx hb hwd inA_X12 hown hK hP 0 rfl rfl 44 (by decide) (hwd _ wk_213) (fun _ h9 => h9) rfl dX12_lostBy_172 ?_
                    refine lv_iconst (v := 1) hx hb dX12_lostBy_175 (by decide) ?_
                    refine lv_aload_n hx hb dX12_lostBy_176 rfl (lv_at hl 3 rfl) ?_
                    refine va_get (D := (dC, dI)) (ci := 12) (v := .ref (g 20)) (C := RX12) (T := TX12) (N := 63) hx hb hwd inA_X12 hown hK hP 0 rfl rfl 25 (by decide) (hwd _ wk_201) (fun _ h9 => h9) rfl dX12_lostBy_177 ?_
                    refine lv_iload_n hx hb dX12_lostBy_180 rfl (lv_at hl 4 rfl) ?_
                    refine va_iald hx hb hK hP 20 19 rfl rfl (i := p0) (vin (a := p0.toInt) rfl (by omega)) dX12_lostBy_181 ?_
                    refine lv_topi (fun z11008 e11009 => ?_)
                    have e11009 : z11008 = F 20 (p0 : Int32).toNatClampNeg := e11009.trans (congrFun (hF 20 (by decide)) _)
                    refine lv_aload_n hx hb dX12_lostBy_182 rfl (lv_at hl 3 rfl) ?_
                    refine va_get (D := (dC, dI)) (ci := 12) (v := .ref (g 19)) (C := RX12) (T := TX12) (N := 63) hx hb hwd inA_X12 hown hK hP 0 rfl rfl 24 (by decide) (hwd _ wk_200) (fun _ h9 => h9) rfl dX12_lostBy_183 ?_
                    refine lv_iload_n hx hb dX12_lostBy_186 rfl (lv_at hl 4 rfl) ?_
                    refine va_iald hx hb hK hP 19 18 rfl rfl (i := p0) (vin (a := p0.toInt) rfl (by omega)) dX12_lostBy_187 ?_
                    refine lv_topi (fun z11010 e11011 => ?_)
                    have e11011 : z11010 = F 19 (p0 : Int32).toNatClampNeg := e11011.trans (congrFun (hF 19 (by decide)) _)
                    refine lv_isub hx hb dX12_lostBy_188 ?_
                    refine lv_topi (fun z11012 e11013 => ?_)
                    try (have t11014 := tsub e11013 (a := z11008.toInt) rfl (b := z11010.toInt) rfl (by omega))
                    refine va_iast hx hb hK hP (DM hg) hS 31 30 rfl rfl (i := 1) (x := z11012) (vin (a := 1) (by decide) (by omega)) dX12_lostBy_189 (fun H locs hP _ hS => ?_)
                    have hP := va_P_eq (sM_31 g c _ _ _ _) hP
                    have hI := IM.store0 hI 31 (1 : Int32).toNatClampNeg z11012 rfl
                    have hF := frUF (k := 31) (f := upd (F11007 31) (1 : Int32).toNatClampNeg z11012) (by decide) hF
                    have hP : va_P (dC, dI) classes (wM g c v_lp10995 (va_up F11007 31 (upd (F11007 31) (1 : Int32).toNatClampNeg z11012)) rc) H := hP
                    generalize (va_up F11007 31 (upd (F11007 31) (1 : Int32).toNatClampNeg z11012)) = F11015 at hP hI hF
                    refine lv_aload_n hx hb dX12_lostBy_190 rfl (lv_at hl 3 rfl) ?_
                    refine va_get (D := (dC, dI)) (ci := 12) (v := .ref (g 31)) (C := RX12) (T := TX12) (N := 63) hx hb hwd inA_X12 hown hK hP 0 rfl rfl 44 (by decide) (hwd _ wk_213) (fun _ h9 => h9) rfl dX12_lostBy_191 ?_
                    refine lv_iconst (v := 2) hx hb dX12_lostBy_194 (by decide) ?_
                    refine lv_aload_n hx hb dX12_lostBy_195 rfl (lv_at hl 3 rfl) ?_
                    refine va_get (D := (dC, dI)) (ci := 12) (v := .ref (g 22)) (C := RX12) (T := TX12) (N := 63) hx hb hwd inA_X12 hown hK hP 0 rfl rfl 27 (by decide) (hwd _ wk_203) (fun _ h9 => h9) rfl dX12_lostBy_196 ?_
                    refine lv_iload_n hx hb dX12_lostBy_199 rfl (lv_at hl 4 rfl) ?_
                    refine va_iald hx hb hK hP 22 21 rfl rfl (i := p0) (vin (a := p0.toInt) rfl (by omega)) dX12_lostBy_200 ?_
                    refine lv_topi (fun z11016 e11017 => ?_)
                    have e11017 : z11016 = F 22 (p0 : Int32).toNatClampNeg := e11017.trans (congrFun (hF 22 (by decide)) _)
                    refine lv_aload_n hx hb dX12_lostBy_201 rfl (lv_at hl 3 rfl) ?_
                    refine va_get (D := (dC, dI)) (ci := 12) (v := .ref (g 21)) (C := RX12) (T := TX12) (N := 63) hx hb hwd inA_X12 hown hK hP 0 rfl rfl 26 (by decide) (hwd _ wk_202) (fun _ h9 => h9) rfl dX12_lostBy_202 ?_
                    refine lv_iload_n hx hb dX12_lostBy_205 rfl (lv_at hl 4 rfl) ?_
                    refine va_iald hx hb hK hP 21 20 rfl rfl (i := p0) (vin (a := p0.toInt) rfl (by omega)) dX12_lostBy_206 ?_
                    refine lv_topi (fun z11018 e11019 => ?_)
                    have e11019 : z11018 = F 21 (p0 : Int32).toNatClampNeg := e11019.trans (congrFun (hF 21 (by decide)) _)
                    refine lv_isub hx hb dX12_lostBy_207 ?_
                    refine lv_topi (fun z11020 e11021 => ?_)
                    try (have t11022 := tsub e11021 (a := z11016.toInt) rfl (b := z11018.toInt) rfl (by omega))
                    refine va_iast hx hb hK hP (DM hg) hS 31 30 rfl rfl (i := 2) (x := z11020) (vin (a := 2) (by decide) (by omega)) dX12_lostBy_208 (fun H locs hP _ hS => ?_)
                    have hP := va_P_eq (sM_31 g c _ _ _ _) hP
                    have hI := IM.store0 hI 31 (2 : Int32).toNatClampNeg z11020 rfl
                    have hF := frUF (k := 31) (f := upd (F11015 31) (2 : Int32).toNatClampNeg z11020) (by decide) hF
                    have hP : va_P (dC, dI) classes (wM g c v_lp10995 (va_up F11015 31 (upd (F11015 31) (2 : Int32).toNatClampNeg z11020)) rc) H := hP
                    generalize (va_up F11015 31 (upd (F11015 31) (2 : Int32).toNatClampNeg z11020)) = F11023 at hP hI hF
                    refine lv_aload_n hx hb dX12_lostBy_209 rfl (lv_at hl 3 rfl) ?_
                    refine va_get (D := (dC, dI)) (ci := 12) (v := .ref (g 31)) (C := RX12) (T := TX12) (N := 63) hx hb hwd inA_X12 hown hK hP 0 rfl rfl 44 (by decide) (hwd _ wk_213) (fun _ h9 => h9) rfl dX12_lostBy_210 ?_
                    refine lv_iconst (v := 3) hx hb dX12_lostBy_213 (by decide) ?_
                    refine lv_aload_n hx hb dX12_lostBy_214 rfl (lv_at hl 3 rfl) ?_
                    refine va_get (D := (dC, dI)) (ci := 12) (v := .ref (g 16)) (C := RX12) (T := TX12) (N := 63) hx hb hwd inA_X12 hown hK hP 0 rfl rfl 21 (by decide) (hwd _ wk_197) (fun _ h9 => h9) rfl dX12_lostBy_215 ?_
                    refine lv_iload_n hx hb dX12_lostBy_218 rfl (lv_at hl 4 rfl) ?_
                    refine va_iald hx hb hK hP 16 15 rfl rfl (i := p0) (vin (a := p0.toInt) rfl (by omega)) dX12_lostBy_219 ?_
                    refine lv_topi (fun z11024 e11025 => ?_)
                    have t11026 : 0 ≤ z11024.toInt ∧ z11024.toInt ≤ 11 := by rw [e11025]; exact hI.2 16 _ _ rfl _
                    have e11025 : z11024 = F 16 (p0 : Int32).toNatClampNeg := e11025.trans (congrFun (hF 16 (by decide)) _)
                    refine va_iast hx hb hK hP (DM hg) hS 31 30 rfl rfl (i := 3) (x := z11024) (vin (a := 3) (by decide) (by omega)) dX12_lostBy_220 (fun H locs hP _ hS => ?_)
                    have hP := va_P_eq (sM_31 g c _ _ _ _) hP
                    have hI := IM.store0 hI 31 (3 : Int32).toNatClampNeg z11024 rfl
                    have hF := frUF (k := 31) (f := upd (F11023 31) (3 : Int32).toNatClampNeg z11024) (by decide) hF
                    have hP : va_P (dC, dI) classes (wM g c v_lp10995 (va_up F11023 31 (upd (F11023 31) (3 : Int32).toNatClampNeg z11024)) rc) H := hP
                    generalize (va_up F11023 31 (upd (F11023 31) (3 : Int32).toNatClampNeg z11024)) = F11027 at hP hI hF
                    refine lv_aload_n hx hb dX12_lostBy_221 rfl (lv_at hl 3 rfl) ?_
                    refine va_get (D := (dC, dI)) (ci := 12) (v := .ref (g 31)) (C := RX12) (T := TX12) (N := 63) hx hb hwd inA_X12 hown hK hP 0 rfl rfl 44 (by decide) (hwd _ wk_213) (fun _ h9 => h9) rfl dX12_lostBy_222 ?_
                    refine lv_iconst (v := 4) hx hb dX12_lostBy_225 (by decide) ?_
                    refine lv_aload_n hx hb dX12_lostBy_226 rfl (lv_at hl 3 rfl) ?_
                    refine va_get (D := (dC, dI)) (ci := 12) (v := .ref (g 11)) (C := RX12) (T := TX12) (N := 63) hx hb hwd inA_X12 hown hK hP 0 rfl rfl 15 (by decide) (hwd _ wk_192) (fun _ h9 => h9) rfl dX12_lostBy_227 ?_
                    refine lv_aload_n hx hb dX12_lostBy_230 rfl (lv_at hl 3 rfl) ?_
                    refine va_get (D := (dC, dI)) (ci := 12) (v := .ref (g 15)) (C := RX12) (T := TX12) (N := 63) hx hb hwd inA_X12 hown hK hP 0 rfl rfl 20 (by decide) (hwd _ wk_196) (fun _ h9 => h9) rfl dX12_lostBy_231 ?_
                    refine lv_iload_n hx hb dX12_lostBy_234 rfl (lv_at hl 4 rfl) ?_
                    refine va_iald hx hb hK hP 15 14 rfl rfl (i := p0) (vin (a := p0.toInt) rfl (by omega)) dX12_lostBy_235 ?_
                    refine lv_topi (fun z11028 e11029 => ?_)
                    have t11030 : 0 ≤ z11028.toInt ∧ z11028.toInt ≤ 99 := by rw [e11029]; exact hI.2 15 _ _ rfl _
                    have e11029 : z11028 = F 15 (p0 : Int32).toNatClampNeg := e11029.trans (congrFun (hF 15 (by decide)) _)
                    refine va_iald hx hb hK hP 11 10 rfl rfl (i := z11028) (vin (a := z11028.toInt) rfl (by omega)) dX12_lostBy_236 ?_
                    refine lv_topi (fun z11031 e11032 => ?_)
                    have t11033 : 0 ≤ z11031.toInt ∧ z11031.toInt ≤ 9 := by rw [e11032]; exact hI.2 11 _ _ rfl _
                    have e11032 : z11031 = F 11 (z11028 : Int32).toNatClampNeg := e11032.trans (congrFun (hF 11 (by decide)) _)
                    refine va_iast hx hb hK hP (DM hg) hS 31 30 rfl rfl (i := 4) (x := z11031) (vin (a := 4) (by decide) (by omega)) dX12_lostBy_237 (fun H locs hP _ hS => ?_)
                    have hP := va_P_eq (sM_31 g c _ _ _ _) hP
                    have hI := IM.store0 hI 31 (4 : Int32).toNatClampNeg z11031 rfl
                    have hF := frUF (k := 31) (f := upd (F11027 31) (4 : Int32).toNatClampNeg z11031) (by decide) hF
                    have hP : va_P (dC, dI) classes (wM g c v_lp10995 (va_up F11027 31 (upd (F11027 31) (4 : Int32).toNatClampNeg z11031)) rc) H := hP
                    generalize (va_up F11027 31 (upd (F11027 31) (4 : Int32).toNatClampNeg z11031)) = F11034 at hP hI hF
                    refine lv_aload_n hx hb dX12_lostBy_238 rfl (lv_at hl 3 rfl) ?_
                    refine va_get (D := (dC, dI)) (ci := 12) (v := .ref (g 31)) (C := RX12) (T := TX12) (N := 63) hx hb hwd inA_X12 hown hK hP 0 rfl rfl 44 (by decide) (hwd _ wk_213) (fun _ h9 => h9) rfl dX12_lostBy_239 ?_
                    refine lv_iconst (v := 5) hx hb dX12_lostBy_242 (by decide) ?_
                    refine lv_iload hx hb dX12_lostBy_243 (lv_at hl 1 rfl) ?_
                    refine va_iast hx hb hK hP (DM hg) hS 31 30 rfl rfl (i := 5) (x := x4_lp10995) (vin (a := 5) (by decide) (by omega)) dX12_lostBy_245 (fun H locs hP _ hS => ?_)
                    have hP := va_P_eq (sM_31 g c _ _ _ _) hP
                    have hI := IM.store0 hI 31 (5 : Int32).toNatClampNeg x4_lp10995 rfl
                    have hF := frUF (k := 31) (f := upd (F11034 31) (5 : Int32).toNatClampNeg x4_lp10995) (by decide) hF
                    have hP : va_P (dC, dI) classes (wM g c v_lp10995 (va_up F11034 31 (upd (F11034 31) (5 : Int32).toNatClampNeg x4_lp10995)) rc) H := hP
                    generalize (va_up F11034 31 (upd (F11034 31) (5 : Int32).toNatClampNeg x4_lp10995)) = F11035 at hP hI hF
                    refine lv_aload_n hx hb dX12_lostBy_246 rfl (lv_at hl 3 rfl) ?_
                    refine lv_iload_n hx hb dX12_lostBy_247 rfl (lv_at hl 2 rfl) ?_
                    refine va_calli (va_runV (As := [.int x3_lp10841]) (rest := []) ⟨hx, hb, hml, hown, hwd⟩ (c_X12_works l dC dI g c adK adV v_lp10995 F11035 rc H.size x3_lp10841 hg hI (by omega) (JL.at' (JL.to hL rfl (hF 28 (by decide)) (hF 29 (by decide)) (hF 27 (by decide))) (i := x3_lp10841) (by omega) (by omega))) (cwV 1 hwd (gV wk_513 wk_510 wk_511 wk_512 wk_5) rfl rfl rfl (by decide +kernel) ⟨Nat.le_of_ble_eq_true rfl, Nat.le_of_ble_eq_true rfl⟩) ⟨PM.blind, va_recv hK hP (ci := 12) (q0 := 0) rfl rfl, fun U hU hW => ⟨rfl, PM.at hK hE hP hS hU hW⟩⟩ rfl rfl hl.1 rfl (lv_room (Nat.le_of_ble_eq_true rfl)) dX12_lostBy_248 ⟨Nat.le_of_ble_eq_true rfl, Nat.le_of_ble_eq_true rfl⟩) hS (fun q _ h => (freeM hS) q h) (freeM hS) (fun r11036 u t H1 locs ht hvm hw hB hz1 hk1 hS => ?_)
                    unfold BM at hB
                    rw [ht] at hB
                    obtain ⟨v11037, F11038, rc9⟩ := u
                    obtain ⟨hI, hrc, hf11039, hG11040, hw⟩ := hw
                    dsimp only at hI hrc hB hf11039 hG11040 hw
                    have hF := frCF (by decide) hG11040 hF
                    rw [hrc] at hB
                    have hP : va_P (dC, dI) classes (wM g c v11037 F11038 rc) H1 := hB
                    clear hz1
                    generalize H1 = H at hP hS ⊢
                    have rr_r11036 := i32_rng r11036
                    refine lv_istore (lv' := [(5, .int r11036), (4, .int x4_lp10995), (3, .int x3_lp10841), (0, .ref (g 0)), (1, .int p0), (2, .int p1)]) hx hb dX12_lostBy_251 hl (by decide) rfl (fun ls hl => ?_)
                    refine lv_iload hx hb dX12_lostBy_253 (lv_at hl 0 rfl) ?_
                    refine lv_if_ge (tgt := 262) hx hb dX12_lostBy_255 (by decide) (fun c11041 => ?_) (fun c11041 => ?_)
                    · skip
                      have t11042 := cv_le (a := 0) (by decide) (b := r11036.toInt) rfl c11041
                      refine lv_iload hx hb dX12_lostBy_262 (lv_at hl 0 rfl) ?_
                      refine lv_bipush (v := 100) hx hb dX12_lostBy_264 (by decide) ?_
                      refine lv_icmp_le (tgt := 274) hx hb dX12_lostBy_266 (by decide) (fun c11043 => ?_) (fun c11043 => ?_)
                      · skip
                        have t11044 := cv_le (a := r11036.toInt) rfl (b := 100) (by decide) c11043
                        refine lv_iload hx hb dX12_lostBy_274 (lv_at hl 0 rfl) ?_
                        have hP9 : va_P (dC, dI) classes (wM g c v11037 F11038 rc) H := hP
                        exact W.iret (v := r11036) hx hb hr (fun t ht hW => ⟨⟨r11036, (v11037, F11038, rc), rfl, ⟨hI, rfl, (frC (by decide) hf11039 (frC (by decide) hf_lp10995 (frC (by decide) hf_lp10841 (fun _ _ => rfl)))), hF, by omega⟩, (by show va_P _ _ _ t.heap; rw [ht]; exact hP9)⟩, hS.F ht⟩) hS.2.2 dX12_lostBy_276
                      · skip
                        have t11045 := cv_nle (a := r11036.toInt) rfl (b := 100) (by decide) c11043
                        refine lv_bipush (v := 100) hx hb dX12_lostBy_269 (by decide) ?_
                        refine lv_goto (tgt := 276) hx hb dX12_lostBy_271 (by decide) ?_
                        have hP9 : va_P (dC, dI) classes (wM g c v11037 F11038 rc) H := hP
                        exact W.iret (v := 100) hx hb hr (fun t ht hW => ⟨⟨100, (v11037, F11038, rc), rfl, ⟨hI, rfl, (frC (by decide) hf11039 (frC (by decide) hf_lp10995 (frC (by decide) hf_lp10841 (fun _ _ => rfl)))), hF, by have : (100 : Int32).toInt = 100 := (by decide); omega⟩, (by show va_P _ _ _ t.heap; rw [ht]; exact hP9)⟩, hS.F ht⟩) hS.2.2 dX12_lostBy_276
                    · skip
                      have t11046 := cv_nle (a := 0) (by decide) (b := r11036.toInt) rfl c11041
                      refine lv_iconst (v := 0) hx hb dX12_lostBy_258 (by decide) ?_
                      refine lv_goto (tgt := 276) hx hb dX12_lostBy_259 (by decide) ?_
                      have hP9 : va_P (dC, dI) classes (wM g c v11037 F11038 rc) H := hP
                      exact W.iret (v := 0) hx hb hr (fun t ht hW => ⟨⟨0, (v11037, F11038, rc), rfl, ⟨hI, rfl, (frC (by decide) hf11039 (frC (by decide) hf_lp10995 (frC (by decide) hf_lp10841 (fun _ _ => rfl)))), hF, by have : (0 : Int32).toInt = 0 := (by decide); omega⟩, (by show va_P _ _ _ t.heap; rw [ht]; exact hP9)⟩, hS.F ht⟩) hS.2.2 dX12_lostBy_276
                  · skip
                    have t11047 := cv_nle (a := (v 19).toInt) rfl (b := x5_lp10995.toInt) rfl c10998
                    refine lv_iload hx hb dX12_lostBy_63 (lv_at hl 1 rfl) ?_
                    refine lv_iload hx hb dX12_lostBy_65 (lv_at hl 0 rfl) ?_
                    refine lv_iload_n hx hb dX12_lostBy_67 rfl (lv_at hl 4 rfl) ?_
                    refine lv_icmp_eq (tgt := 142) hx hb dX12_lostBy_68 (by decide) (fun c11048 => ?_) (fun c11048 => ?_)
                    · skip
                      have t11049 := cv_eq (a := x5_lp10995.toInt) rfl (b := p0.toInt) rfl c11048
                      refine lv_iconst (v := 0) hx hb dX12_lostBy_142 (by decide) ?_
                      refine lv_iadd hx hb dX12_lostBy_143 ?_
                      refine lv_topi (fun z11050 e11051 => ?_)
                      try (have t11052 := tadd e11051 (a := x4_lp10995.toInt) rfl (b := 0) (by decide) (by omega))
                      refine lv_istore (lv' := [(4, .int z11050), (5, .int x5_lp10995), (3, .int x3_lp10841), (0, .ref (g 0)), (1, .int p0), (2, .int p1)]) hx hb dX12_lostBy_144 hl (by decide) rfl (fun ls hl => ?_)
                      obtain ⟨z11053, e11054⟩ : ∃ y : Int32, y = x5_lp10995 + 1 := ⟨_, rfl⟩
                      try (have t11055 := tadd e11054 rfl (b := 1) (by decide) (by omega))
                      refine lv_iinc (v := z11053) (lv' := [(5, .int z11053), (4, .int z11050), (3, .int x3_lp10841), (0, .ref (g 0)), (1, .int p0), (2, .int p1)]) hx hb dX12_lostBy_146 hl (k := 1) rfl (by rw [e11054]; rfl) (by decide) rfl (fun ls hl => ?_)
                      refine lv_goto (tgt := 54) hx hb dX12_lostBy_149 (by decide) ?_
                      exact ih_lp10995 z11053 z11050 v_lp10995 F_lp10995 _ _ _ (by omega) (by omega) hf_lp10995 hI hF hP hS (lv_sub hl [0, 1, 2, 3, 4, 5] rfl)
                    · skip
                      have t11056 := cv_ne (a := x5_lp10995.toInt) rfl (b := p0.toInt) rfl c11048
                      refine lv_aload_n hx hb dX12_lostBy_71 rfl (lv_at hl 3 rfl) ?_
                      refine va_get (D := (dC, dI)) (ci := 12) (v := .ref (g 15)) (C := RX12) (T := TX12) (N := 63) hx hb hwd inA_X12 hown hK hP 0 rfl rfl 20 (by decide) (hwd _ wk_196) (fun _ h9 => h9) rfl dX12_lostBy_72 ?_
                      refine lv_iload hx hb dX12_lostBy_75 (lv_at hl 0 rfl) ?_
                      refine va_iald hx hb hK hP 15 14 rfl rfl (i := x5_lp10995) (vin (a := x5_lp10995.toInt) rfl (by omega)) dX12_lostBy_77 ?_
                      refine lv_topi (fun z11057 e11058 => ?_)
                      have t11059 : 0 ≤ z11057.toInt ∧ z11057.toInt ≤ 99 := by rw [e11058]; exact hI.2 15 _ _ rfl _
                      have e11058 : z11057 = F 15 (x5_lp10995 : Int32).toNatClampNeg := e11058.trans (congrFun (hF 15 (by decide)) _)
                      refine lv_aload_n hx hb dX12_lostBy_78 rfl (lv_at hl 3 rfl) ?_
                      refine va_get (D := (dC, dI)) (ci := 12) (v := .ref (g 15)) (C := RX12) (T := TX12) (N := 63) hx hb hwd inA_X12 hown hK hP 0 rfl rfl 20 (by decide) (hwd _ wk_196) (fun _ h9 => h9) rfl dX12_lostBy_79 ?_
                      refine lv_iload_n hx hb dX12_lostBy_82 rfl (lv_at hl 4 rfl) ?_
                      refine va_iald hx hb hK hP 15 14 rfl rfl (i := p0) (vin (a := p0.toInt) rfl (by omega)) dX12_lostBy_83 ?_
                      refine lv_topi (fun z11060 e11061 => ?_)
                      have t11062 : 0 ≤ z11060.toInt ∧ z11060.toInt ≤ 99 := by rw [e11061]; exact hI.2 15 _ _ rfl _
                      have e11061 : z11060 = F 15 (p0 : Int32).toNatClampNeg := e11061.trans (congrFun (hF 15 (by decide)) _)
                      refine lv_icmp_ne (tgt := 142) hx hb dX12_lostBy_84 (by decide) (fun c11063 => ?_) (fun c11063 => ?_)
                      · skip
                        have t11064 := cv_ne (a := z11057.toInt) rfl (b := z11060.toInt) rfl c11063
                        refine lv_iconst (v := 0) hx hb dX12_lostBy_142 (by decide) ?_
                        refine lv_iadd hx hb dX12_lostBy_143 ?_
                        refine lv_topi (fun z11065 e11066 => ?_)
                        try (have t11067 := tadd e11066 (a := x4_lp10995.toInt) rfl (b := 0) (by decide) (by omega))
                        refine lv_istore (lv' := [(4, .int z11065), (5, .int x5_lp10995), (3, .int x3_lp10841), (0, .ref (g 0)), (1, .int p0), (2, .int p1)]) hx hb dX12_lostBy_144 hl (by decide) rfl (fun ls hl => ?_)
                        obtain ⟨z11068, e11069⟩ : ∃ y : Int32, y = x5_lp10995 + 1 := ⟨_, rfl⟩
                        try (have t11070 := tadd e11069 rfl (b := 1) (by decide) (by omega))
                        refine lv_iinc (v := z11068) (lv' := [(5, .int z11068), (4, .int z11065), (3, .int x3_lp10841), (0, .ref (g 0)), (1, .int p0), (2, .int p1)]) hx hb dX12_lostBy_146 hl (k := 1) rfl (by rw [e11069]; rfl) (by decide) rfl (fun ls hl => ?_)
                        refine lv_goto (tgt := 54) hx hb dX12_lostBy_149 (by decide) ?_
                        exact ih_lp10995 z11068 z11065 v_lp10995 F_lp10995 _ _ _ (by omega) (by omega) hf_lp10995 hI hF hP hS (lv_sub hl [0, 1, 2, 3, 4, 5] rfl)
                      · skip
                        have t11071 := cv_eq (a := z11057.toInt) rfl (b := z11060.toInt) rfl c11063
                        refine lv_aload_n hx hb dX12_lostBy_87 rfl (lv_at hl 3 rfl) ?_
                        refine lv_iload hx hb dX12_lostBy_88 (lv_at hl 0 rfl) ?_
                        refine va_calli (va_runV (As := [.int x5_lp10995]) (rest := [.int x4_lp10995]) ⟨hx, hb, hml, hown, hwd⟩ (c_X12_isGap l dC dI g c adK adV v_lp10995 F_lp10995 rc H.size x5_lp10995 hg hI (by omega)) (cwV 1 hwd (gV wk_499 wk_496 wk_497 wk_498 wk_5) rfl rfl rfl (by decide +kernel) ⟨Nat.le_of_ble_eq_true rfl, Nat.le_of_ble_eq_true rfl⟩) ⟨PM.blind, va_recv hK hP (ci := 12) (q0 := 0) rfl rfl, fun U hU hW => ⟨rfl, PM.at hK hE hP hS hU hW⟩⟩ rfl rfl hl.1 rfl (lv_room (Nat.le_of_ble_eq_true rfl)) dX12_lostBy_90 ⟨Nat.le_of_ble_eq_true rfl, Nat.le_of_ble_eq_true rfl⟩) hS (fun q _ h => (freeM hS) q h) (freeM hS) (fun r11072 u t H1 locs ht hvm hw hB hz1 hk1 hS => ?_)
                        unfold BM at hB
                        rw [ht] at hB
                        have hP : va_P (dC, dI) classes (wM g c v_lp10995 F_lp10995 rc) H1 := hB
                        have hw_r11072 : 0 ≤ r11072.toInt ∧ r11072.toInt ≤ 1 := hw
                        clear hw
                        clear hz1
                        generalize H1 = H at hP hS ⊢
                        refine lv_if_eq (tgt := 142) hx hb dX12_lostBy_93 (by decide) (fun c11073 => ?_) (fun c11073 => ?_)
                        · skip
                          have t11074 := cv_eq (a := r11072.toInt) rfl (b := 0) (by decide) c11073
                          refine lv_iconst (v := 0) hx hb dX12_lostBy_142 (by decide) ?_
                          refine lv_iadd hx hb dX12_lostBy_143 ?_
                          refine lv_topi (fun z11075 e11076 => ?_)
                          try (have t11077 := tadd e11076 (a := x4_lp10995.toInt) rfl (b := 0) (by decide) (by omega))
                          refine lv_istore (lv' := [(4, .int z11075), (5, .int x5_lp10995), (3, .int x3_lp10841), (0, .ref (g 0)), (1, .int p0), (2, .int p1)]) hx hb dX12_lostBy_144 hl (by decide) rfl (fun ls hl => ?_)
                          obtain ⟨z11078, e11079⟩ : ∃ y : Int32, y = x5_lp10995 + 1 := ⟨_, rfl⟩
                          try (have t11080 := tadd e11079 rfl (b := 1) (by decide) (by omega))
                          refine lv_iinc (v := z11078) (lv' := [(5, .int z11078), (4, .int z11075), (3, .int x3_lp10841), (0, .ref (g 0)), (1, .int p0), (2, .int p1)]) hx hb dX12_lostBy_146 hl (k := 1) rfl (by rw [e11079]; rfl) (by decide) rfl (fun ls hl => ?_)
                          refine lv_goto (tgt := 54) hx hb dX12_lostBy_149 (by decide) ?_
                          exact ih_lp10995 z11078 z11075 v_lp10995 F_lp10995 _ _ _ (by omega) (by omega) hf_lp10995 hI hF hP hS (lv_sub hl [0, 1, 2, 3, 4, 5] rfl)
                        · skip
                          have t11081 := cv_ne (a := r11072.toInt) rfl (b := 0) (by decide) c11073
                          refine lv_aload_n hx hb dX12_lostBy_96 rfl (lv_at hl 3 rfl) ?_
                          refine va_get (D := (dC, dI)) (ci := 12) (v := .ref (g 18)) (C := RX12) (T := TX12) (N := 63) hx hb hwd inA_X12 hown hK hP 0 rfl rfl 23 (by decide) (hwd _ wk_199) (fun _ h9 => h9) rfl dX12_lostBy_97 ?_
                          refine lv_iload hx hb dX12_lostBy_100 (lv_at hl 0 rfl) ?_
                          refine va_iald hx hb hK hP 18 17 rfl rfl (i := x5_lp10995) (vin (a := x5_lp10995.toInt) rfl (by omega)) dX12_lostBy_102 ?_
                          refine lv_topi (fun z11082 e11083 => ?_)
                          have e11083 : z11082 = F 18 (x5_lp10995 : Int32).toNatClampNeg := e11083.trans (congrFun (hF 18 (by decide)) _)
                          refine lv_aload_n hx hb dX12_lostBy_103 rfl (lv_at hl 3 rfl) ?_
                          refine va_get (D := (dC, dI)) (ci := 12) (v := .ref (g 18)) (C := RX12) (T := TX12) (N := 63) hx hb hwd inA_X12 hown hK hP 0 rfl rfl 23 (by decide) (hwd _ wk_199) (fun _ h9 => h9) rfl dX12_lostBy_104 ?_
                          refine lv_iload_n hx hb dX12_lostBy_107 rfl (lv_at hl 4 rfl) ?_
                          refine va_iald hx hb hK hP 18 17 rfl rfl (i := p0) (vin (a := p0.toInt) rfl (by omega)) dX12_lostBy_108 ?_
                          refine lv_topi (fun z11084 e11085 => ?_)
                          have e11085 : z11084 = F 18 (p0 : Int32).toNatClampNeg := e11085.trans (congrFun (hF 18 (by decide)) _)
                          refine lv_icmp_lt (tgt := 138) hx hb dX12_lostBy_109 (by decide) (fun c11086 => ?_) (fun c11086 => ?_)
                          · skip
                            have t11087 := cv_lt (a := z11082.toInt) rfl (b := z11084.toInt) rfl c11086
                            refine lv_iconst (v := 1) hx hb dX12_lostBy_138 (by decide) ?_
                            refine lv_goto (tgt := 143) hx hb dX12_lostBy_139 (by decide) ?_
                            refine lv_iadd hx hb dX12_lostBy_143 ?_
                            refine lv_topi (fun z11088 e11089 => ?_)
                            try (have t11090 := tadd e11089 (a := x4_lp10995.toInt) rfl (b := 1) (by decide) (by omega))
                            refine lv_istore (lv' := [(4, .int z11088), (5, .int x5_lp10995), (3, .int x3_lp10841), (0, .ref (g 0)), (1, .int p0), (2, .int p1)]) hx hb dX12_lostBy_144 hl (by decide) rfl (fun ls hl => ?_)
                            obtain ⟨z11091, e11092⟩ : ∃ y : Int32, y = x5_lp10995 + 1 := ⟨_, rfl⟩
                            try (have t11093 := tadd e11092 rfl (b := 1) (by decide) (by omega))
                            refine lv_iinc (v := z11091) (lv' := [(5, .int z11091), (4, .int z11088), (3, .int x3_lp10841), (0, .ref (g 0)), (1, .int p0), (2, .int p1)]) hx hb dX12_lostBy_146 hl (k := 1) rfl (by rw [e11092]; rfl) (by decide) rfl (fun ls hl => ?_)
                            refine lv_goto (tgt := 54) hx hb dX12_lostBy_149 (by decide) ?_
                            exact ih_lp10995 z11091 z11088 v_lp10995 F_lp10995 _ _ _ (by omega) (by omega) hf_lp10995 hI hF hP hS (lv_sub hl [0, 1, 2, 3, 4, 5] rfl)
                          · skip
                            have t11094 := cv_nlt (a := z11082.toInt) rfl (b := z11084.toInt) rfl c11086
                            refine lv_aload_n hx hb dX12_lostBy_112 rfl (lv_at hl 3 rfl) ?_
                            refine va_get (D := (dC, dI)) (ci := 12) (v := .ref (g 18)) (C := RX12) (T := TX12) (N := 63) hx hb hwd inA_X12 hown hK hP 0 rfl rfl 23 (by decide) (hwd _ wk_199) (fun _ h9 => h9) rfl dX12_lostBy_113 ?_
                            refine lv_iload hx hb dX12_lostBy_116 (lv_at hl 0 rfl) ?_
                            refine va_iald hx hb hK hP 18 17 rfl rfl (i := x5_lp10995) (vin (a := x5_lp10995.toInt) rfl (by omega)) dX12_lostBy_118 ?_
                            refine lv_topi (fun z11095 e11096 => ?_)
                            have e11096 : z11095 = F 18 (x5_lp10995 : Int32).toNatClampNeg := e11096.trans (congrFun (hF 18 (by decide)) _)
                            refine lv_aload_n hx hb dX12_lostBy_119 rfl (lv_at hl 3 rfl) ?_
                            refine va_get (D := (dC, dI)) (ci := 12) (v := .ref (g 18)) (C := RX12) (T := TX12) (N := 63) hx hb hwd inA_X12 hown hK hP 0 rfl rfl 23 (by decide) (hwd _ wk_199) (fun _ h9 => h9) rfl dX12_lostBy_120 ?_
                            refine lv_iload_n hx hb dX12_lostBy_123 rfl (lv_at hl 4 rfl) ?_
                            refine va_iald hx hb hK hP 18 17 rfl rfl (i := p0) (vin (a := p0.toInt) rfl (by omega)) dX12_lostBy_124 ?_
                            refine lv_topi (fun z11097 e11098 => ?_)
                            have e11098 : z11097 = F 18 (p0 : Int32).toNatClampNeg := e11098.trans (congrFun (hF 18 (by decide)) _)
                            refine lv_icmp_ne (tgt := 142) hx hb dX12_lostBy_125 (by decide) (fun c11099 => ?_) (fun c11099 => ?_)
                            · skip
                              have t11100 := cv_ne (a := z11095.toInt) rfl (b := z11097.toInt) rfl c11099
                              refine lv_iconst (v := 0) hx hb dX12_lostBy_142 (by decide) ?_
                              refine lv_iadd hx hb dX12_lostBy_143 ?_
                              refine lv_topi (fun z11101 e11102 => ?_)
                              try (have t11103 := tadd e11102 (a := x4_lp10995.toInt) rfl (b := 0) (by decide) (by omega))
                              refine lv_istore (lv' := [(4, .int z11101), (5, .int x5_lp10995), (3, .int x3_lp10841), (0, .ref (g 0)), (1, .int p0), (2, .int p1)]) hx hb dX12_lostBy_144 hl (by decide) rfl (fun ls hl => ?_)
                              obtain ⟨z11104, e11105⟩ : ∃ y : Int32, y = x5_lp10995 + 1 := ⟨_, rfl⟩
                              try (have t11106 := tadd e11105 rfl (b := 1) (by decide) (by omega))
                              refine lv_iinc (v := z11104) (lv' := [(5, .int z11104), (4, .int z11101), (3, .int x3_lp10841), (0, .ref (g 0)), (1, .int p0), (2, .int p1)]) hx hb dX12_lostBy_146 hl (k := 1) rfl (by rw [e11105]; rfl) (by decide) rfl (fun ls hl => ?_)
                              refine lv_goto (tgt := 54) hx hb dX12_lostBy_149 (by decide) ?_
                              exact ih_lp10995 z11104 z11101 v_lp10995 F_lp10995 _ _ _ (by omega) (by omega) hf_lp10995 hI hF hP hS (lv_sub hl [0, 1, 2, 3, 4, 5] rfl)
                            · skip
                              have t11107 := cv_eq (a := z11095.toInt) rfl (b := z11097.toInt) rfl c11099
                              refine lv_aload_n hx hb dX12_lostBy_128 rfl (lv_at hl 3 rfl) ?_
                              refine lv_iload hx hb dX12_lostBy_129 (lv_at hl 0 rfl) ?_
                              refine lv_iload_n hx hb dX12_lostBy_131 rfl (lv_at hl 4 rfl) ?_
                              refine va_calli (va_runV (As := [.int x5_lp10995, .int p0]) (rest := [.int x4_lp10995]) ⟨hx, hb, hml, hown, hwd⟩ (c_X12_isAhead l dC dI g c adK adV v_lp10995 F_lp10995 rc H.size x5_lp10995 p0 hg hI (by omega) (by omega)) (cwV 2 hwd (gV wk_509 wk_506 wk_507 wk_508 wk_5) rfl rfl rfl (by decide +kernel) ⟨Nat.le_of_ble_eq_true rfl, Nat.le_of_ble_eq_true rfl⟩) ⟨PM.blind, va_recv hK hP (ci := 12) (q0 := 0) rfl rfl, fun U hU hW => ⟨rfl, PM.at hK hE hP hS hU hW⟩⟩ rfl rfl hl.1 rfl (lv_room (Nat.le_of_ble_eq_true rfl)) dX12_lostBy_132 ⟨Nat.le_of_ble_eq_true rfl, Nat.le_of_ble_eq_true rfl⟩) hS (fun q _ h => (freeM hS) q h) (freeM hS) (fun r11108 u t H1 locs ht hvm hw hB hz1 hk1 hS => ?_)
                              unfold BM at hB
                              rw [ht] at hB
                              have hP : va_P (dC, dI) classes (wM g c v_lp10995 F_lp10995 rc) H1 := hB
                              replace hw : (r11108.toInt = 1 ∧ ((F_lp10995 17 x5_lp10995.toNatClampNeg).toInt < (F_lp10995 17 p0.toNatClampNeg).toInt ∨ ((F_lp10995 17 x5_lp10995.toNatClampNeg).toInt = (F_lp10995 17 p0.toNatClampNeg).toInt ∧ x5_lp10995.toInt < p0.toInt))) ∨ (r11108.toInt = 0 ∧ ¬ ((F_lp10995 17 x5_lp10995.toNatClampNeg).toInt < (F_lp10995 17 p0.toNatClampNeg).toInt ∨ ((F_lp10995 17 x5_lp10995.toNatClampNeg).toInt = (F_lp10995 17 p0.toNatClampNeg).toInt ∧ x5_lp10995.toInt < p0.toInt))) := hw
                              have hw_r11108 := hw
                              clear hw
                              clear hz1
                              generalize H1 = H at hP hS ⊢
                              refine lv_if_eq (tgt := 142) hx hb dX12_lostBy_135 (by decide) (fun c11109 => ?_) (fun c11109 => ?_)
                              · skip
                                have t11110 := cv_eq (a := r11108.toInt) rfl (b := 0) (by decide) c11109
                                refine lv_iconst (v := 0) hx hb dX12_lostBy_142 (by decide) ?_
                                refine lv_iadd hx hb dX12_lostBy_143 ?_
                                refine lv_topi (fun z11111 e11112 => ?_)
                                try (have t11113 := tadd e11112 (a := x4_lp10995.toInt) rfl (b := 0) (by decide) (by omega))
                                refine lv_istore (lv' := [(4, .int z11111), (5, .int x5_lp10995), (3, .int x3_lp10841), (0, .ref (g 0)), (1, .int p0), (2, .int p1)]) hx hb dX12_lostBy_144 hl (by decide) rfl (fun ls hl => ?_)
                                obtain ⟨z11114, e11115⟩ : ∃ y : Int32, y = x5_lp10995 + 1 := ⟨_, rfl⟩
                                try (have t11116 := tadd e11115 rfl (b := 1) (by decide) (by omega))
                                refine lv_iinc (v := z11114) (lv' := [(5, .int z11114), (4, .int z11111), (3, .int x3_lp10841), (0, .ref (g 0)), (1, .int p0), (2, .int p1)]) hx hb dX12_lostBy_146 hl (k := 1) rfl (by rw [e11115]; rfl) (by decide) rfl (fun ls hl => ?_)
                                refine lv_goto (tgt := 54) hx hb dX12_lostBy_149 (by decide) ?_
                                exact ih_lp10995 z11114 z11111 v_lp10995 F_lp10995 _ _ _ (by omega) (by omega) hf_lp10995 hI hF hP hS (lv_sub hl [0, 1, 2, 3, 4, 5] rfl)
                              · skip
                                have t11117 := cv_ne (a := r11108.toInt) rfl (b := 0) (by decide) c11109
                                refine lv_iconst (v := 1) hx hb dX12_lostBy_138 (by decide) ?_
                                refine lv_goto (tgt := 143) hx hb dX12_lostBy_139 (by decide) ?_
                                refine lv_iadd hx hb dX12_lostBy_143 ?_
                                refine lv_topi (fun z11118 e11119 => ?_)
                                try (have t11120 := tadd e11119 (a := x4_lp10995.toInt) rfl (b := 1) (by decide) (by omega))
                                refine lv_istore (lv' := [(4, .int z11118), (5, .int x5_lp10995), (3, .int x3_lp10841), (0, .ref (g 0)), (1, .int p0), (2, .int p1)]) hx hb dX12_lostBy_144 hl (by decide) rfl (fun ls hl => ?_)
                                obtain ⟨z11121, e11122⟩ : ∃ y : Int32, y = x5_lp10995 + 1 := ⟨_, rfl⟩
                                try (have t11123 := tadd e11122 rfl (b := 1) (by decide) (by omega))
                                refine lv_iinc (v := z11121) (lv' := [(5, .int z11121), (4, .int z11118), (3, .int x3_lp10841), (0, .ref (g 0)), (1, .int p0), (2, .int p1)]) hx hb dX12_lostBy_146 hl (k := 1) rfl (by rw [e11122]; rfl) (by decide) rfl (fun ls hl => ?_)
                                refine lv_goto (tgt := 54) hx hb dX12_lostBy_149 (by decide) ?_
                                exact ih_lp10995 z11121 z11118 v_lp10995 F_lp10995 _ _ _ (by omega) (by omega) hf_lp10995 hI hF hP hS (lv_sub hl [0, 1, 2, 3, 4, 5] rfl)
              obtain ⟨n9, hn9⟩ : ∃ n : Nat, 2147483648 - 0 ≤ (n : Int) := ⟨((2147483648 - 0 : Int)).toNat, by omega⟩
              exact lp10995 n9 0 0 v_lp10841 F_lp10841 H _ ls (by have : (0 : Int32).toInt = 0 := (by decide); have : (0 : Int32).toInt = 0 := (by decide); omega) (by have : (0 : Int32).toInt = 0 := (by decide); have : (0 : Int32).toInt = 0 := (by decide); omega) (fun _ _ => rfl) hI hF hP hS hl
            · skip
              have t11124 := cv_nle (a := 0) (by decide) (b := x3_lp10841.toInt) rfl c10993
              refine lv_iconst (v := 0) hx hb dX12_lostBy_46 (by decide) ?_
              have hP9 : va_P (dC, dI) classes (wM g c v_lp10841 F_lp10841 rc) H := hP
              exact W.iret (v := 0) hx hb hr (fun t ht hW => ⟨⟨0, (v_lp10841, F_lp10841, rc), rfl, ⟨hI, rfl, (frC (by decide) hf_lp10841 (fun _ _ => rfl)), hF, by have : (0 : Int32).toInt = 0 := (by decide); omega⟩, (by show va_P _ _ _ t.heap; rw [ht]; exact hP9)⟩, hS.F ht⟩) hS.2.2 dX12_lostBy_47
          · skip
            have t11125 := cv_nle (a := z10987.toInt) rfl (b := z10989.toInt) rfl c10991
            obtain ⟨z11126, e11127⟩ : ∃ y : Int32, y = x3_lp10841 + (-1) := ⟨_, rfl⟩
            try (have t11128 := tadd e11127 rfl (b := (-1)) (by decide) (by omega))
            refine lv_iinc (v := z11126) (lv' := [(3, .int z11126), (0, .ref (g 0)), (1, .int p0), (2, .int p1)]) hx hb dX12_lostBy_36 hl (k := 0) rfl (by rw [e11127]; rfl) (by decide) rfl (fun ls hl => ?_)
            refine lv_goto (tgt := 7) hx hb dX12_lostBy_39 (by decide) ?_
            exact ih_lp10841 z11126 v_lp10841 F_lp10841 _ _ _ (by omega) (by omega) (by omega) hf_lp10841 hI hF hP hS (lv_sub hl [0, 1, 2, 3] rfl)
  obtain ⟨n9, hn9⟩ : ∃ n : Nat, z10838.toInt + 2 ≤ (n : Int) := ⟨((z10838.toInt + 2 : Int)).toNat, by omega⟩
  exact lp10841 n9 z10838 v F H _ ls (by omega) (by omega) (by omega) (fun _ _ => rfl) hI hF hP hS hl
set_option maxHeartbeats 8000000 in
set_option maxRecDepth 100000 in
theorem c_X12_limitOf (l : Launch) (dC : Nat → ClassId) (dI : Nat → Nat → Nat) (g : Nat → Nat) (c : Nat → ClassId) (adK adV : Nat → Nat) (v : Nat → Int32) (F : Nat → Nat → Int32) (rc sz : Nat) (p0 : Int32) (p1 : Int32) (hg : injM g) (hI : IM v F) (h0 : 0 ≤ p0.toInt ∧ p0.toInt ≤ 99) (h1 : 0 ≤ p1.toInt ∧ p1.toInt ≤ 2) : Met l yX12_limitOf (Cond.code yX12_limitOf cX12_limitOf 3 (some .int) :: wA) ({ frames := 1, cells := 0, slots := 0, locals := 40 }) (va_Pc [.ref (g 0), .int p0, .int p1] (PM dC dI g c adK adV v F rc sz)) (va_Qi (fun (r : Int32) (u : Unit) => r.toInt = (F 1 (limJ (F 11) p0 p1)).toInt) (fun (_ : Unit) => BM dC dI g c (v, F, rc)) (AM g sz)) 0 0 (AM g sz) := by
  refine Met.ofW (cc := cX12_limitOf) (maxL := 3) (ret := (some .int)) (by decide) rfl ?_
  intro p e s m args below meth c0 s₁ B hml hv
  obtain ⟨rfl, hsz, hP, hK, hE⟩ := hv
  have hx := B.exec
  have hb := B.bytes
  have hr := B.returns
  have hts := atoms_spec (ws := Cond.code yX12_limitOf cX12_limitOf 3 (some .int) :: wA) B.pre
  have hwd : ∀ w ∈ wA, w.before _ s = true := fun w h => hts w (List.mem_cons_of_mem _ h)
  have hown : s.vm.findClass RX12 = some m.cls := findClass_of_methodNamed B.named
  have hlocks := B.notSynchronized
  subst hsz
  have hl := lv_entry ([.ref (g 0), .int p0, .int p1]) (n := 3) (Nat.le_of_ble_eq_true rfl)
  rw [lg_entry_eq]
  generalize (lg_sl ([.ref (g 0), .int p0, .int p1]) ++ List.replicate (3 - (lg_sl ([.ref (g 0), .int p0, .int p1])).length) Slot.unset).toArray = ls at hl ⊢
  have hl : lv_has ls 3 [(0, .ref (g 0)), (1, .int p0), (2, .int p1)] := hl
  obtain ⟨H, eH⟩ : ∃ z, z = s.heap := ⟨_, rfl⟩
  have hP : va_P (dC, dI) classes (wM g c v F rc) H := by rw [eH]; exact hP
  have hS : va_S (AM g s.heap.size) s.heap H [] := by rw [eH]; exact va_S.rf
  refine my_heap eH ?_
  have rp0 := i32_rng p0
  have rp1 := i32_rng p1
  refine lv_aload_n hx hb dX12_limitOf_0 rfl (lv_at hl 0 rfl) ?_
  refine va_get (D := (dC, dI)) (ci := 12) (v := .ref (g 1)) (C := RX12) (T := TX12) (N := 63) hx hb hwd inA_X12 hown hK hP 0 rfl rfl 3 (by decide) (hwd _ wk_182) (fun _ h9 => h9) rfl dX12_limitOf_1 ?_
  refine lv_iconst (v := 3) hx hb dX12_limitOf_4 (by decide) ?_
  refine lv_aload_n hx hb dX12_limitOf_5 rfl (lv_at hl 0 rfl) ?_
  refine va_get (D := (dC, dI)) (ci := 12) (v := .ref (g 11)) (C := RX12) (T := TX12) (N := 63) hx hb hwd inA_X12 hown hK hP 0 rfl rfl 15 (by decide) (hwd _ wk_192) (fun _ h9 => h9) rfl dX12_limitOf_6 ?_
  refine lv_iload_n hx hb dX12_limitOf_9 rfl (lv_at hl 1 rfl) ?_
  refine va_iald hx hb hK hP 11 10 rfl rfl (i := p0) (vin (a := p0.toInt) rfl (by omega)) dX12_limitOf_10 ?_
  refine lv_topi (fun z11129 e11130 => ?_)
  have t11131 : 0 ≤ z11129.toInt ∧ z11129.toInt ≤ 9 := by rw [e11130]; exact hI.2 11 _ _ rfl _
  have tzz11129 : z11129.toInt = (F 11 (p0 : Int32).toNatClampNeg).toInt := congrArg Int32.toInt e11130
  refine lv_imul hx hb dX12_limitOf_11 ?_
  refine lv_topi (fun z11132 e11133 => ?_)
  try (have t11134 := tmul e11133 (a := 3) (by decide) (b := z11129.toInt) rfl (by omega))
  refine lv_iload_n hx hb dX12_limitOf_12 rfl (lv_at hl 2 rfl) ?_
  refine lv_iadd hx hb dX12_limitOf_13 ?_
  refine lv_topi (fun z11135 e11136 => ?_)
  try (have t11137 := tadd e11136 (a := z11132.toInt) rfl (b := p1.toInt) rfl (by omega))
  refine va_iald hx hb hK hP 1 0 rfl rfl (i := z11135) (vin (a := z11135.toInt) rfl (by omega)) dX12_limitOf_14 ?_
  refine lv_topi (fun z11138 e11139 => ?_)
  have tzz11138 : z11138.toInt = (F 1 (z11135 : Int32).toNatClampNeg).toInt := congrArg Int32.toInt e11139
  have hP9 : va_P (dC, dI) classes (wM g c v F rc) H := hP
  exact W.iret (v := z11138) hx hb hr (fun t ht hW => ⟨⟨z11138, (), rfl, (by simp only [limJ, e11130, e11133, e11136, e11139]), (by show va_P _ _ _ t.heap; rw [ht]; exact hP9)⟩, hS.F ht⟩) hS.2.2 dX12_limitOf_15
set_option maxHeartbeats 8000000 in
set_option maxRecDepth 100000 in
theorem c_X12_leftOf (l : Launch) (dC : Nat → ClassId) (dI : Nat → Nat → Nat) (g : Nat → Nat) (c : Nat → ClassId) (adK adV : Nat → Nat) (v : Nat → Int32) (F : Nat → Nat → Int32) (rc sz : Nat) (p0 : Int32) (p1 : Int32) (p2 : Int32) (hg : injM g) (hI : IM v F) (h0 : 0 ≤ p0.toInt ∧ p0.toInt ≤ 99) (h1 : 0 ≤ p1.toInt ∧ p1.toInt ≤ 2) (hL : JL (v 31) (F 28) (F 29) (F 27)) : Met l yX12_leftOf (Cond.code yX12_leftOf cX12_leftOf 6 (some .int) :: wA) ({ frames := 4, cells := 0, slots := 0, locals := 160 }) (va_Pc [.ref (g 0), .int p0, .int p1, .int p2] (PM dC dI g c adK adV v F rc sz)) (va_Qi (fun (r : Int32) (u : StM) => IM u.1 u.2.1 ∧ u.2.2 = rc ∧ (∀ k, k ∉ ([] : List Nat) → u.1 k = v k) ∧ (∀ k, k ∉ ([30, 31] : List Nat) → u.2.1 k = F k) ∧ True) (BM dC dI g c) (AM g sz)) 0 0 (AM g sz) := by
  refine Met.ofW (cc := cX12_leftOf) (maxL := 6) (ret := (some .int)) (by decide) rfl ?_
  intro p e s m args below meth c0 s₁ B hml hv
  obtain ⟨rfl, hsz, hP, hK, hE⟩ := hv
  have hx := B.exec
  have hb := B.bytes
  have hr := B.returns
  have hts := atoms_spec (ws := Cond.code yX12_leftOf cX12_leftOf 6 (some .int) :: wA) B.pre
  have hwd : ∀ w ∈ wA, w.before _ s = true := fun w h => hts w (List.mem_cons_of_mem _ h)
  have hown : s.vm.findClass RX12 = some m.cls := findClass_of_methodNamed B.named
  have hlocks := B.notSynchronized
  subst hsz
  have hl := lv_entry ([.ref (g 0), .int p0, .int p1, .int p2]) (n := 6) (Nat.le_of_ble_eq_true rfl)
  rw [lg_entry_eq]
  generalize (lg_sl ([.ref (g 0), .int p0, .int p1, .int p2]) ++ List.replicate (6 - (lg_sl ([.ref (g 0), .int p0, .int p1, .int p2])).length) Slot.unset).toArray = ls at hl ⊢
  have hl : lv_has ls 6 [(0, .ref (g 0)), (1, .int p0), (2, .int p1), (3, .int p2)] := hl
  obtain ⟨H, eH⟩ : ∃ z, z = s.heap := ⟨_, rfl⟩
  have hP : va_P (dC, dI) classes (wM g c v F rc) H := by rw [eH]; exact hP
  have hS : va_S (AM g s.heap.size) s.heap H [] := by rw [eH]; exact va_S.rf
  refine my_heap eH ?_
  have hF : ∀ k, k ∉ ([30, 31] : List Nat) → F k = F k := fun _ _ => rfl
  have rp0 := i32_rng p0
  have rp1 := i32_rng p1
  have rp2 := i32_rng p2
  have hb31 : 0 ≤ (v 31).toInt ∧ (v 31).toInt ≤ 10 := hI.1 31 _ _ rfl
  refine lv_aload_n hx hb dX12_leftOf_0 rfl (lv_at hl 0 rfl) ?_
  refine lv_iload_n hx hb dX12_leftOf_1 rfl (lv_at hl 1 rfl) ?_
  refine lv_iload_n hx hb dX12_leftOf_2 rfl (lv_at hl 2 rfl) ?_
  refine va_calli (va_runV (As := [.int p0, .int p1]) (rest := []) ⟨hx, hb, hml, hown, hwd⟩ (c_X12_limitOf l dC dI g c adK adV v F rc H.size p0 p1 hg hI (by omega) (by omega)) (cwV 2 hwd (gV wk_489 wk_486 wk_487 wk_488 wk_5) rfl rfl rfl (by decide +kernel) ⟨Nat.le_of_ble_eq_true rfl, Nat.le_of_ble_eq_true rfl⟩) ⟨PM.blind, va_recv hK hP (ci := 12) (q0 := 0) rfl rfl, fun U hU hW => ⟨rfl, PM.at hK hE hP hS hU hW⟩⟩ rfl rfl hl.1 rfl (lv_room (Nat.le_of_ble_eq_true rfl)) dX12_leftOf_3 ⟨Nat.le_of_ble_eq_true rfl, Nat.le_of_ble_eq_true rfl⟩) hS (fun q _ h => (freeM hS) q h) (freeM hS) (fun r11196 u t H1 locs ht hvm hw hB hz1 hk1 hS => ?_)
  unfold BM at hB
  rw [ht] at hB
  have hP : va_P (dC, dI) classes (wM g c v F rc) H1 := hB
  replace hw : r11196.toInt = (F 1 (limJ (F 11) p0 p1)).toInt := hw
  have hw_r11196 := hw
  clear hw
  clear hz1
  generalize H1 = H at hP hS ⊢
  refine lv_aload_n hx hb dX12_leftOf_6 rfl (lv_at hl 0 rfl) ?_
  refine va_get (D := (dC, dI)) (ci := 12) (v := .ref (g 14)) (C := RX12) (T := TX12) (N := 63) hx hb hwd inA_X12 hown hK hP 0 rfl rfl 18 (by decide) (hwd _ wk_195) (fun _ h9 => h9) rfl dX12_leftOf_7 ?_
  refine lv_iconst (v := 3) hx hb dX12_leftOf_10 (by decide) ?_
  refine lv_iload_n hx hb dX12_leftOf_11 rfl (lv_at hl 1 rfl) ?_
  refine lv_imul hx hb dX12_leftOf_12 ?_
  refine lv_topi (fun z11197 e11198 => ?_)
  try (have t11199 := tmul e11198 (a := 3) (by decide) (b := p0.toInt) rfl (by omega))
  refine lv_iload_n hx hb dX12_leftOf_13 rfl (lv_at hl 2 rfl) ?_
  refine lv_iadd hx hb dX12_leftOf_14 ?_
  refine lv_topi (fun z11200 e11201 => ?_)
  try (have t11202 := tadd e11201 (a := z11197.toInt) rfl (b := p1.toInt) rfl (by omega))
  refine va_iald hx hb hK hP 14 13 rfl rfl (i := z11200) (vin (a := z11200.toInt) rfl (by omega)) dX12_leftOf_15 ?_
  refine lv_topi (fun z11203 e11204 => ?_)
  refine lv_isub hx hb dX12_leftOf_16 ?_
  refine lv_topi (fun z11205 e11206 => ?_)
  try (have t11207 := tsub e11206 (a := r11196.toInt) rfl (b := z11203.toInt) rfl (by omega))
  refine lv_istore (lv' := [(4, .int z11205), (0, .ref (g 0)), (1, .int p0), (2, .int p1), (3, .int p2)]) hx hb dX12_leftOf_17 hl (by decide) rfl (fun ls hl => ?_)
  refine lv_iconst (v := 0) hx hb dX12_leftOf_19 (by decide) ?_
  refine lv_istore (lv' := [(5, .int 0), (4, .int z11205), (0, .ref (g 0)), (1, .int p0), (2, .int p1), (3, .int p2)]) hx hb dX12_leftOf_20 hl (by decide) rfl (fun ls hl => ?_)
  have lp11208 : ∀ (n : Nat) (x5_lp11208 : Int32) (x4_lp11208 : Int32) (v_lp11208 : Nat → Int32) (F_lp11208 : Nat → Nat → Int32) (H : Heap) (locs : List Loc) (ls : Array Slot), (0 ≤ x5_lp11208.toInt) → (2147483648 - x5_lp11208.toInt ≤ (n : Int)) → (∀ k, k ∉ ([] : List Nat) → v_lp11208 k = v k) → IM v_lp11208 F_lp11208 → (∀ k, k ∉ ([30, 31] : List Nat) → F_lp11208 k = F k) → va_P (dC, dI) classes (wM g c v_lp11208 F_lp11208 rc) H → va_S (AM g s.heap.size) s.heap H locs → lv_has ls 6 [(5, .int x5_lp11208), (4, .int x4_lp11208), (0, .ref (g 0)), (1, .int p0), (2, .int p1), (3, .int p2)] → W p l e (headSpec (Cond.code yX12_leftOf cX12_leftOf 6 (some .int) :: wA) ({ frames := 4, cells := 0, slots := 0, locals := 160 })).room s m ([.ref (g 0), .int p0, .int p1, .int p2] : List Value).toArray below meth c0 H locs 0 0 (MQ below (va_Qi (fun (r : Int32) (u : StM) => IM u.1 u.2.1 ∧ u.2.2 = rc ∧ (∀ k, k ∉ ([] : List Nat) → u.1 k = v k) ∧ (∀ k, k ∉ ([30, 31] : List Nat) → u.2.1 k = F k) ∧ True) (BM dC dI g c) (AM g s.heap.size)) ([.ref (g 0), .int p0, .int p1, .int p2] : List Value).toArray s 0 0 (AM g s.heap.size)) (F0 m 22 ls []) := by
    intro n
    induction n with
    | zero =>
      intro x5_lp11208 x4_lp11208 v_lp11208 F_lp11208 H locs ls t11209 hm hf_lp11208 hI hF hP hS hl
      exfalso
      have := i32_rng x5_lp11208
      have := i32_rng x4_lp11208
      have hI1 := hI.1
      omega
    | succ n ih_lp11208 =>
      intro x5_lp11208 x4_lp11208 v_lp11208 F_lp11208 H locs ls t11209 hm hf_lp11208 hI hF hP hS hl
      have rx5_lp11208 := i32_rng x5_lp11208
      have rx4_lp11208 := i32_rng x4_lp11208
      refine lv_iload hx hb dX12_leftOf_22 (lv_at hl 0 rfl) ?_
      refine lv_aload_n hx hb dX12_leftOf_24 rfl (lv_at hl 2 rfl) ?_
      refine va_get (D := (dC, dI)) (ci := 12) (v := .int (v_lp11208 19)) (C := RX12) (T := TX12) (N := 63) hx hb hwd inA_X12 hown hK hP 0 rfl rfl 19 (by decide) (hwd _ wk_494) (fun _ h9 => h9) rfl dX12_leftOf_25 ?_
      refine my_top (v := v 19) (hf_lp11208 19 (by decide)) ?_
      have t11210 : 0 ≤ (v 19).toInt ∧ (v 19).toInt ≤ 500 := by have h9 := hI.1 19 _ _ rfl; rw [show v_lp11208 19 = v 19 from hf_lp11208 19 (by decide)] at h9; exact h9
      refine lv_icmp_ge (tgt := 83) hx hb dX12_leftOf_28 (by decide) (fun c11211 => ?_) (fun c11211 => ?_)
      · skip
        have t11212 := cv_le (a := (v 19).toInt) rfl (b := x5_lp11208.toInt) rfl c11211
        refine lv_iload hx hb dX12_leftOf_83 (lv_at hl 1 rfl) ?_
        have hP9 : va_P (dC, dI) classes (wM g c v_lp11208 F_lp11208 rc) H := hP
        exact W.iret (v := x4_lp11208) hx hb hr (fun t ht hW => ⟨⟨x4_lp11208, (v_lp11208, F_lp11208, rc), rfl, ⟨hI, rfl, (frC (by decide) hf_lp11208 (fun _ _ => rfl)), hF, trivial⟩, (by show va_P _ _ _ t.heap; rw [ht]; exact hP9)⟩, hS.F ht⟩) hS.2.2 dX12_leftOf_85
      · skip
        have t11213 := cv_nle (a := (v 19).toInt) rfl (b := x5_lp11208.toInt) rfl c11211
        refine lv_aload_n hx hb dX12_leftOf_31 rfl (lv_at hl 2 rfl) ?_
        refine va_get (D := (dC, dI)) (ci := 12) (v := .ref (g 15)) (C := RX12) (T := TX12) (N := 63) hx hb hwd inA_X12 hown hK hP 0 rfl rfl 20 (by decide) (hwd _ wk_196) (fun _ h9 => h9) rfl dX12_leftOf_32 ?_
        refine lv_iload hx hb dX12_leftOf_35 (lv_at hl 0 rfl) ?_
        refine va_iald hx hb hK hP 15 14 rfl rfl (i := x5_lp11208) (vin (a := x5_lp11208.toInt) rfl (by omega)) dX12_leftOf_37 ?_
        refine lv_topi (fun z11214 e11215 => ?_)
        have t11216 : 0 ≤ z11214.toInt ∧ z11214.toInt ≤ 99 := by rw [e11215]; exact hI.2 15 _ _ rfl _
        have e11215 : z11214 = F 15 (x5_lp11208 : Int32).toNatClampNeg := e11215.trans (congrFun (hF 15 (by decide)) _)
        refine lv_iload_n hx hb dX12_leftOf_38 rfl (lv_at hl 3 rfl) ?_
        refine lv_icmp_ne (tgt := 77) hx hb dX12_leftOf_39 (by decide) (fun c11217 => ?_) (fun c11217 => ?_)
        · skip
          have t11218 := cv_ne (a := z11214.toInt) rfl (b := p0.toInt) rfl c11217
          obtain ⟨z11219, e11220⟩ : ∃ y : Int32, y = x5_lp11208 + 1 := ⟨_, rfl⟩
          try (have t11221 := tadd e11220 rfl (b := 1) (by decide) (by omega))
          refine lv_iinc (v := z11219) (lv' := [(5, .int z11219), (4, .int x4_lp11208), (0, .ref (g 0)), (1, .int p0), (2, .int p1), (3, .int p2)]) hx hb dX12_leftOf_77 hl (k := 0) rfl (by rw [e11220]; rfl) (by decide) rfl (fun ls hl => ?_)
          refine lv_goto (tgt := 22) hx hb dX12_leftOf_80 (by decide) ?_
          exact ih_lp11208 z11219 x4_lp11208 v_lp11208 F_lp11208 _ _ _ (by omega) (by omega) hf_lp11208 hI hF hP hS (lv_sub hl [0, 1, 2, 3, 4, 5] rfl)
        · skip
          have t11222 := cv_eq (a := z11214.toInt) rfl (b := p0.toInt) rfl c11217
          refine lv_aload_n hx hb dX12_leftOf_42 rfl (lv_at hl 2 rfl) ?_
          refine lv_iload hx hb dX12_leftOf_43 (lv_at hl 0 rfl) ?_
          refine va_calli (va_runV (As := [.int x5_lp11208]) (rest := []) ⟨hx, hb, hml, hown, hwd⟩ (c_X12_isGap l dC dI g c adK adV v_lp11208 F_lp11208 rc H.size x5_lp11208 hg hI (by omega)) (cwV 1 hwd (gV wk_499 wk_496 wk_497 wk_498 wk_5) rfl rfl rfl (by decide +kernel) ⟨Nat.le_of_ble_eq_true rfl, Nat.le_of_ble_eq_true rfl⟩) ⟨PM.blind, va_recv hK hP (ci := 12) (q0 := 0) rfl rfl, fun U hU hW => ⟨rfl, PM.at hK hE hP hS hU hW⟩⟩ rfl rfl hl.1 rfl (lv_room (Nat.le_of_ble_eq_true rfl)) dX12_leftOf_45 ⟨Nat.le_of_ble_eq_true rfl, Nat.le_of_ble_eq_true rfl⟩) hS (fun q _ h => (freeM hS) q h) (freeM hS) (fun r11223 u t H1 locs ht hvm hw hB hz1 hk1 hS => ?_)
          unfold BM at hB
          rw [ht] at hB
          have hP : va_P (dC, dI) classes (wM g c v_lp11208 F_lp11208 rc) H1 := hB
          have hw_r11223 : 0 ≤ r11223.toInt ∧ r11223.toInt ≤ 1 := hw
          clear hw
          clear hz1
          generalize H1 = H at hP hS ⊢
          refine lv_if_eq (tgt := 77) hx hb dX12_leftOf_48 (by decide) (fun c11224 => ?_) (fun c11224 => ?_)
          · skip
            have t11225 := cv_eq (a := r11223.toInt) rfl (b := 0) (by decide) c11224
            obtain ⟨z11226, e11227⟩ : ∃ y : Int32, y = x5_lp11208 + 1 := ⟨_, rfl⟩
            try (have t11228 := tadd e11227 rfl (b := 1) (by decide) (by omega))
            refine lv_iinc (v := z11226) (lv' := [(5, .int z11226), (4, .int x4_lp11208), (0, .ref (g 0)), (1, .int p0), (2, .int p1), (3, .int p2)]) hx hb dX12_leftOf_77 hl (k := 0) rfl (by rw [e11227]; rfl) (by decide) rfl (fun ls hl => ?_)
            refine lv_goto (tgt := 22) hx hb dX12_leftOf_80 (by decide) ?_
            exact ih_lp11208 z11226 x4_lp11208 v_lp11208 F_lp11208 _ _ _ (by omega) (by omega) hf_lp11208 hI hF hP hS (lv_sub hl [0, 1, 2, 3, 4, 5] rfl)
          · skip
            have t11229 := cv_ne (a := r11223.toInt) rfl (b := 0) (by decide) c11224
            refine lv_iload hx hb dX12_leftOf_51 (lv_at hl 1 rfl) ?_
            refine lv_aload_n hx hb dX12_leftOf_53 rfl (lv_at hl 2 rfl) ?_
            refine lv_iload_n hx hb dX12_leftOf_54 rfl (lv_at hl 3 rfl) ?_
            refine lv_iload_n hx hb dX12_leftOf_55 rfl (lv_at hl 4 rfl) ?_
            have hby1 : F_lp11208 1 = F 1 := hF 1 (by decide)
            have hby11 : F_lp11208 11 = F 11 := hF 11 (by decide)
            refine va_calli (va_runV (As := [.int p0, .int p1]) (rest := [.int x4_lp11208]) ⟨hx, hb, hml, hown, hwd⟩ (c_X12_limitOf l dC dI g c adK adV v_lp11208 F_lp11208 rc H.size p0 p1 hg hI (by omega) (by omega)) (cwV 2 hwd (gV wk_489 wk_486 wk_487 wk_488 wk_5) rfl rfl rfl (by decide +kernel) ⟨Nat.le_of_ble_eq_true rfl, Nat.le_of_ble_eq_true rfl⟩) ⟨PM.blind, va_recv hK hP (ci := 12) (q0 := 0) rfl rfl, fun U hU hW => ⟨rfl, PM.at hK hE hP hS hU hW⟩⟩ rfl rfl hl.1 rfl (lv_room (Nat.le_of_ble_eq_true rfl)) dX12_leftOf_56 ⟨Nat.le_of_ble_eq_true rfl, Nat.le_of_ble_eq_true rfl⟩) hS (fun q _ h => (freeM hS) q h) (freeM hS) (fun r11230 u t H1 locs ht hvm hw hB hz1 hk1 hS => ?_)
            unfold BM at hB
            rw [ht] at hB
            have hP : va_P (dC, dI) classes (wM g c v_lp11208 F_lp11208 rc) H1 := hB
            replace hw : r11230.toInt = (F_lp11208 1 (limJ (F_lp11208 11) p0 p1)).toInt := hw
            rw [hby1] at hw
            rw [hby11] at hw
            have hw_r11230 := hw
            clear hw
            clear hz1
            generalize H1 = H at hP hS ⊢
            refine lv_i2l hx hb dX12_leftOf_59 rfl ?_
            refine lv_topl (fun z11231 e11232 => ?_)
            refine lv_aload_n hx hb dX12_leftOf_60 rfl (lv_at hl 2 rfl) ?_
            refine lv_iload hx hb dX12_leftOf_61 (lv_at hl 0 rfl) ?_
            refine lv_iload_n hx hb dX12_leftOf_63 rfl (lv_at hl 5 rfl) ?_
            refine va_calli (va_runV (As := [.int x5_lp11208, .int p2]) (rest := [.long z11231, .int x4_lp11208]) ⟨hx, hb, hml, hown, hwd⟩ (c_X12_lostBy l dC dI g c adK adV v_lp11208 F_lp11208 rc H.size x5_lp11208 p2 hg hI (by omega) (JL.to hL (show v_lp11208 31 = v 31 from hf_lp11208 31 (by decide)) (hF 28 (by decide)) (hF 29 (by decide)) (hF 27 (by decide)))) (cwV 2 hwd (gV wk_504 wk_501 wk_502 wk_503 wk_5) rfl rfl rfl (by decide +kernel) ⟨Nat.le_of_ble_eq_true rfl, Nat.le_of_ble_eq_true rfl⟩) ⟨PM.blind, va_recv hK hP (ci := 12) (q0 := 0) rfl rfl, fun U hU hW => ⟨rfl, PM.at hK hE hP hS hU hW⟩⟩ rfl rfl hl.1 rfl (lv_room (Nat.le_of_ble_eq_true rfl)) dX12_leftOf_64 ⟨Nat.le_of_ble_eq_true rfl, Nat.le_of_ble_eq_true rfl⟩) hS (fun q _ h => (freeM hS) q h) (freeM hS) (fun r11233 u t H1 locs ht hvm hw hB hz1 hk1 hS => ?_)
            unfold BM at hB
            rw [ht] at hB
            obtain ⟨v11234, F11235, rc9⟩ := u
            obtain ⟨hI, hrc, hf11236, hG11237, hw⟩ := hw
            dsimp only at hI hrc hB hf11236 hG11237 hw
            have hF := frCF (by decide) hG11237 hF
            rw [hrc] at hB
            have hP : va_P (dC, dI) classes (wM g c v11234 F11235 rc) H1 := hB
            have hw_r11233 : 0 ≤ r11233.toInt ∧ r11233.toInt ≤ 100 := hw
            clear hw
            clear hz1
            generalize H1 = H at hP hS ⊢
            refine lv_i2l hx hb dX12_leftOf_67 rfl ?_
            refine lv_topl (fun z11238 e11239 => ?_)
            refine lv_lmul hx hb dX12_leftOf_68 ?_
            refine lv_topl (fun z11240 e11241 => ?_)
            refine lv_ldc2 (v := 100) hx hb hown (hwd _ wk_495) dX12_leftOf_69 ?_
            refine lv_ldiv hx hb dX12_leftOf_72 (by decide) ?_
            refine lv_topl (fun z11242 e11243 => ?_)
            refine lv_l2i hx hb dX12_leftOf_73 rfl ?_
            refine lv_topi (fun z11244 e11245 => ?_)
            refine lv_isub hx hb dX12_leftOf_74 ?_
            refine lv_topi (fun z11246 e11247 => ?_)
            try (have t11248 := tsub e11247 (a := x4_lp11208.toInt) rfl (b := z11244.toInt) rfl (by omega))
            refine lv_istore (lv' := [(4, .int z11246), (5, .int x5_lp11208), (0, .ref (g 0)), (1, .int p0), (2, .int p1), (3, .int p2)]) hx hb dX12_leftOf_75 hl (by decide) rfl (fun ls hl => ?_)
            obtain ⟨z11249, e11250⟩ : ∃ y : Int32, y = x5_lp11208 + 1 := ⟨_, rfl⟩
            try (have t11251 := tadd e11250 rfl (b := 1) (by decide) (by omega))
            refine lv_iinc (v := z11249) (lv' := [(5, .int z11249), (4, .int z11246), (0, .ref (g 0)), (1, .int p0), (2, .int p1), (3, .int p2)]) hx hb dX12_leftOf_77 hl (k := 1) rfl (by rw [e11250]; rfl) (by decide) rfl (fun ls hl => ?_)
            refine lv_goto (tgt := 22) hx hb dX12_leftOf_80 (by decide) ?_
            exact ih_lp11208 z11249 z11246 v11234 F11235 _ _ _ (by omega) (by omega) (frC (by decide) hf11236 hf_lp11208) hI hF hP hS (lv_sub hl [0, 1, 2, 3, 4, 5] rfl)
  obtain ⟨n9, hn9⟩ : ∃ n : Nat, 2147483648 - 0 ≤ (n : Int) := ⟨((2147483648 - 0 : Int)).toNat, by omega⟩
  exact lp11208 n9 0 z11205 v F H _ ls (by have : (0 : Int32).toInt = 0 := (by decide); omega) (by have : (0 : Int32).toInt = 0 := (by decide); omega) (fun _ _ => rfl) hI hF hP hS hl
set_option maxHeartbeats 8000000 in
set_option maxRecDepth 100000 in
theorem c_X12_left (l : Launch) (dC : Nat → ClassId) (dI : Nat → Nat → Nat) (g : Nat → Nat) (c : Nat → ClassId) (adK adV : Nat → Nat) (v : Nat → Int32) (F : Nat → Nat → Int32) (rc sz : Nat) (p0 : Int32) (p1 : Int32) (p2 : Int32) (hg : injM g) (hI : IM v F) (hL : JL (v 31) (F 28) (F 29) (F 27)) : Met l yX12_left (Cond.code yX12_left cX12_left 4 (some .int) :: wA) ({ frames := 5, cells := 0, slots := 0, locals := 200 }) (va_Pc [.ref (g 0), .int p0, .int p1, .int p2] (PM dC dI g c adK adV v F rc sz)) (va_Qi (fun (r : Int32) (u : StM) => IM u.1 u.2.1 ∧ u.2.2 = rc ∧ (∀ k, k ∉ ([] : List Nat) → u.1 k = v k) ∧ (∀ k, k ∉ ([30, 31] : List Nat) → u.2.1 k = F k) ∧ True) (BM dC dI g c) (AM g sz)) 0 0 (AM g sz) := by
  refine Met.ofW (cc := cX12_left) (maxL := 4) (ret := (some .int)) (by decide) rfl ?_
  intro p e s m args below meth c0 s₁ B hml hv
  obtain ⟨rfl, hsz, hP, hK, hE⟩ := hv
  have hx := B.exec
  have hb := B.bytes
  have hr := B.returns
  have hts := atoms_spec (ws := Cond.code yX12_left cX12_left 4 (some .int) :: wA) B.pre
  have hwd : ∀ w ∈ wA, w.before _ s = true := fun w h => hts w (List.mem_cons_of_mem _ h)
  have hown : s.vm.findClass RX12 = some m.cls := findClass_of_methodNamed B.named
  have hlocks := B.notSynchronized
  subst hsz
  have hl := lv_entry ([.ref (g 0), .int p0, .int p1, .int p2]) (n := 4) (Nat.le_of_ble_eq_true rfl)
  rw [lg_entry_eq]
  generalize (lg_sl ([.ref (g 0), .int p0, .int p1, .int p2]) ++ List.replicate (4 - (lg_sl ([.ref (g 0), .int p0, .int p1, .int p2])).length) Slot.unset).toArray = ls at hl ⊢
  have hl : lv_has ls 4 [(0, .ref (g 0)), (1, .int p0), (2, .int p1), (3, .int p2)] := hl
  obtain ⟨H, eH⟩ : ∃ z, z = s.heap := ⟨_, rfl⟩
  have hP : va_P (dC, dI) classes (wM g c v F rc) H := by rw [eH]; exact hP
  have hS : va_S (AM g s.heap.size) s.heap H [] := by rw [eH]; exact va_S.rf
  refine my_heap eH ?_
  have hF : ∀ k, k ∉ ([30, 31] : List Nat) → F k = F k := fun _ _ => rfl
  have rp0 := i32_rng p0
  have rp1 := i32_rng p1
  have rp2 := i32_rng p2
  have hb31 : 0 ≤ (v 31).toInt ∧ (v 31).toInt ≤ 10 := hI.1 31 _ _ rfl
  refine lv_aload_n hx hb dX12_left_0 rfl (lv_at hl 0 rfl) ?_
  refine lv_iload_n hx hb dX12_left_1 rfl (lv_at hl 1 rfl) ?_
  have t11276 : 0 ≤ (v 14).toInt ∧ (v 14).toInt ≤ 100 := hI.1 14 _ _ rfl
  refine va_calli (va_runV (As := [.int p0]) (rest := []) ⟨hx, hb, hml, hown, hwd⟩ (c_X12_isPart l dC dI g c adK adV v F rc H.size p0 hg hI ) (cwV 1 hwd (gV wk_631 wk_628 wk_629 wk_630 wk_5) rfl rfl rfl (by decide +kernel) ⟨Nat.le_of_ble_eq_true rfl, Nat.le_of_ble_eq_true rfl⟩) ⟨PM.blind, va_recv hK hP (ci := 12) (q0 := 0) rfl rfl, fun U hU hW => ⟨rfl, PM.at hK hE hP hS hU hW⟩⟩ rfl rfl hl.1 rfl (lv_room (Nat.le_of_ble_eq_true rfl)) dX12_left_2 ⟨Nat.le_of_ble_eq_true rfl, Nat.le_of_ble_eq_true rfl⟩) hS (fun q _ h => (freeM hS) q h) (freeM hS) (fun r11277 u t H1 locs ht hvm hw hB hz1 hk1 hS => ?_)
  unfold BM at hB
  rw [ht] at hB
  have hP : va_P (dC, dI) classes (wM g c v F rc) H1 := hB
  replace hw : (r11277.toInt = 1 ∧ 0 ≤ p0.toInt ∧ p0.toInt < (v 14).toInt) ∨ (r11277.toInt = 0 ∧ (p0.toInt < 0 ∨ (v 14).toInt ≤ p0.toInt)) := hw
  have hw_r11277 := hw
  clear hw
  clear hz1
  generalize H1 = H at hP hS ⊢
  refine lv_if_eq (tgt := 43) hx hb dX12_left_5 (by decide) (fun c11278 => ?_) (fun c11278 => ?_)
  · skip
    have t11279 := cv_eq (a := r11277.toInt) rfl (b := 0) (by decide) c11278
    refine lv_ldc (v := (-2000000000)) hx hb hown (hwd _ wk_542) dX12_left_43 ?_
    have hP9 : va_P (dC, dI) classes (wM g c v F rc) H := hP
    exact W.iret (v := (-2000000000)) hx hb hr (fun t ht hW => ⟨⟨(-2000000000), (v, F, rc), rfl, ⟨hI, rfl, (fun _ _ => rfl), hF, trivial⟩, (by show va_P _ _ _ t.heap; rw [ht]; exact hP9)⟩, hS.F ht⟩) hS.2.2 dX12_left_45
  · skip
    have t11280 := cv_ne (a := r11277.toInt) rfl (b := 0) (by decide) c11278
    refine lv_iload_n hx hb dX12_left_8 rfl (lv_at hl 2 rfl) ?_
    refine lv_iconst (v := 0) hx hb dX12_left_9 (by decide) ?_
    refine lv_iconst (v := 2) hx hb dX12_left_10 (by decide) ?_
    refine va_calli (va_runS (As := [.int p1, .int 0, .int 2]) (rest := []) ⟨hx, hb, hml, hown, hwd⟩ (c_X12_in l dC dI g c adK adV v F rc H.size p1 0 2 hg hI ) (va_cwS 3 hwd (gT wk_254 wk_252 wk_253 wk_5) rfl rfl rfl (by decide +kernel) ⟨Nat.le_of_ble_eq_true rfl, Nat.le_of_ble_eq_true rfl⟩) ⟨PM.blind, fun U hU hW => ⟨rfl, PM.at hK hE hP hS hU hW⟩⟩ rfl rfl hl.1 rfl (lv_room (Nat.le_of_ble_eq_true rfl)) dX12_left_11 ⟨Nat.le_of_ble_eq_true rfl, Nat.le_of_ble_eq_true rfl⟩) hS (fun q _ h => (freeM hS) q h) (freeM hS) (fun r11281 u t H1 locs ht hvm hw hB hz1 hk1 hS => ?_)
    unfold BM at hB
    rw [ht] at hB
    have hP : va_P (dC, dI) classes (wM g c v F rc) H1 := hB
    have hw_r11281 : (r11281.toInt = 1 ∧ (0 : Int32).toInt ≤ p1.toInt ∧ p1.toInt ≤ (2 : Int32).toInt) ∨ (r11281.toInt = 0 ∧ (p1.toInt < (0 : Int32).toInt ∨ (2 : Int32).toInt < p1.toInt)) := hw
    clear hw
    have k11282 : (0 : Int32).toInt = 0 := by decide
    have k11283 : (2 : Int32).toInt = 2 := by decide
    clear hz1
    generalize H1 = H at hP hS ⊢
    refine lv_if_eq (tgt := 43) hx hb dX12_left_14 (by decide) (fun c11284 => ?_) (fun c11284 => ?_)
    · skip
      have t11285 := cv_eq (a := r11281.toInt) rfl (b := 0) (by decide) c11284
      refine lv_ldc (v := (-2000000000)) hx hb hown (hwd _ wk_542) dX12_left_43 ?_
      have hP9 : va_P (dC, dI) classes (wM g c v F rc) H := hP
      exact W.iret (v := (-2000000000)) hx hb hr (fun t ht hW => ⟨⟨(-2000000000), (v, F, rc), rfl, ⟨hI, rfl, (fun _ _ => rfl), hF, trivial⟩, (by show va_P _ _ _ t.heap; rw [ht]; exact hP9)⟩, hS.F ht⟩) hS.2.2 dX12_left_45
    · skip
      have t11286 := cv_ne (a := r11281.toInt) rfl (b := 0) (by decide) c11284
      refine lv_iload_n hx hb dX12_left_17 rfl (lv_at hl 3 rfl) ?_
      refine va_calli (va_runS (As := [.int p2]) (rest := []) ⟨hx, hb, hml, hown, hwd⟩ (c_X12_isDay l dC dI g c adK adV v F rc H.size p2 hg hI ) (va_cwS 1 hwd (gT wk_556 wk_554 wk_555 wk_5) rfl rfl rfl (by decide +kernel) ⟨Nat.le_of_ble_eq_true rfl, Nat.le_of_ble_eq_true rfl⟩) ⟨PM.blind, fun U hU hW => ⟨rfl, PM.at hK hE hP hS hU hW⟩⟩ rfl rfl hl.1 rfl (lv_room (Nat.le_of_ble_eq_true rfl)) dX12_left_18 ⟨Nat.le_of_ble_eq_true rfl, Nat.le_of_ble_eq_true rfl⟩) hS (fun q _ h => (freeM hS) q h) (freeM hS) (fun r11287 u t H1 locs ht hvm hw hB hz1 hk1 hS => ?_)
      unfold BM at hB
      rw [ht] at hB
      have hP : va_P (dC, dI) classes (wM g c v F rc) H1 := hB
      have hw_r11287 : (r11287.toInt = 1 ∧ 0 ≤ p2.toInt ∧ p2.toInt ≤ 9999) ∨ (r11287.toInt = 0 ∧ (p2.toInt < 0 ∨ 9999 < p2.toInt)) := hw
      clear hw
      clear hz1
      generalize H1 = H at hP hS ⊢
      refine lv_if_eq (tgt := 43) hx hb dX12_left_21 (by decide) (fun c11288 => ?_) (fun c11288 => ?_)
      · skip
        have t11289 := cv_eq (a := r11287.toInt) rfl (b := 0) (by decide) c11288
        refine lv_ldc (v := (-2000000000)) hx hb hown (hwd _ wk_542) dX12_left_43 ?_
        have hP9 : va_P (dC, dI) classes (wM g c v F rc) H := hP
        exact W.iret (v := (-2000000000)) hx hb hr (fun t ht hW => ⟨⟨(-2000000000), (v, F, rc), rfl, ⟨hI, rfl, (fun _ _ => rfl), hF, trivial⟩, (by show va_P _ _ _ t.heap; rw [ht]; exact hP9)⟩, hS.F ht⟩) hS.2.2 dX12_left_45
      · skip
        have t11290 := cv_ne (a := r11287.toInt) rfl (b := 0) (by decide) c11288
        refine lv_aload_n hx hb dX12_left_24 rfl (lv_at hl 0 rfl) ?_
        refine lv_iload_n hx hb dX12_left_25 rfl (lv_at hl 1 rfl) ?_
        refine lv_iload_n hx hb dX12_left_26 rfl (lv_at hl 2 rfl) ?_
        refine va_calli (va_runV (As := [.int p0, .int p1]) (rest := []) ⟨hx, hb, hml, hown, hwd⟩ (c_X12_limitOf l dC dI g c adK adV v F rc H.size p0 p1 hg hI (by omega) (by omega)) (cwV 2 hwd (gV wk_489 wk_486 wk_487 wk_488 wk_5) rfl rfl rfl (by decide +kernel) ⟨Nat.le_of_ble_eq_true rfl, Nat.le_of_ble_eq_true rfl⟩) ⟨PM.blind, va_recv hK hP (ci := 12) (q0 := 0) rfl rfl, fun U hU hW => ⟨rfl, PM.at hK hE hP hS hU hW⟩⟩ rfl rfl hl.1 rfl (lv_room (Nat.le_of_ble_eq_true rfl)) dX12_left_27 ⟨Nat.le_of_ble_eq_true rfl, Nat.le_of_ble_eq_true rfl⟩) hS (fun q _ h => (freeM hS) q h) (freeM hS) (fun r11291 u t H1 locs ht hvm hw hB hz1 hk1 hS => ?_)
        unfold BM at hB
        rw [ht] at hB
        have hP : va_P (dC, dI) classes (wM g c v F rc) H1 := hB
        replace hw : r11291.toInt = (F 1 (limJ (F 11) p0 p1)).toInt := hw
        have hw_r11291 := hw
        clear hw
        clear hz1
        generalize H1 = H at hP hS ⊢
        refine lv_if_le (tgt := 43) hx hb dX12_left_30 (by decide) (fun c11292 => ?_) (fun c11292 => ?_)
        · skip
          have t11293 := cv_le (a := r11291.toInt) rfl (b := 0) (by decide) c11292
          refine lv_ldc (v := (-2000000000)) hx hb hown (hwd _ wk_542) dX12_left_43 ?_
          have hP9 : va_P (dC, dI) classes (wM g c v F rc) H := hP
          exact W.iret (v := (-2000000000)) hx hb hr (fun t ht hW => ⟨⟨(-2000000000), (v, F, rc), rfl, ⟨hI, rfl, (fun _ _ => rfl), hF, trivial⟩, (by show va_P _ _ _ t.heap; rw [ht]; exact hP9)⟩, hS.F ht⟩) hS.2.2 dX12_left_45
        · skip
          have t11294 := cv_nle (a := r11291.toInt) rfl (b := 0) (by decide) c11292
          refine lv_aload_n hx hb dX12_left_33 rfl (lv_at hl 0 rfl) ?_
          refine lv_iload_n hx hb dX12_left_34 rfl (lv_at hl 1 rfl) ?_
          refine lv_iload_n hx hb dX12_left_35 rfl (lv_at hl 2 rfl) ?_
          refine lv_iload_n hx hb dX12_left_36 rfl (lv_at hl 3 rfl) ?_
          refine va_calli (va_runV (As := [.int p0, .int p1, .int p2]) (rest := []) ⟨hx, hb, hml, hown, hwd⟩ (c_X12_leftOf l dC dI g c adK adV v F rc H.size p0 p1 p2 hg hI (by omega) (by omega) (JL.to hL (show v 31 = v 31 from rfl) rfl rfl rfl)) (cwV 3 hwd (gV wk_493 wk_490 wk_491 wk_492 wk_5) rfl rfl rfl (by decide +kernel) ⟨Nat.le_of_ble_eq_true rfl, Nat.le_of_ble_eq_true rfl⟩) ⟨PM.blind, va_recv hK hP (ci := 12) (q0 := 0) rfl rfl, fun U hU hW => ⟨rfl, PM.at hK hE hP hS hU hW⟩⟩ rfl rfl hl.1 rfl (lv_room (Nat.le_of_ble_eq_true rfl)) dX12_left_37 ⟨Nat.le_of_ble_eq_true rfl, Nat.le_of_ble_eq_true rfl⟩) hS (fun q _ h => (freeM hS) q h) (freeM hS) (fun r11295 u t H1 locs ht hvm hw hB hz1 hk1 hS => ?_)
          unfold BM at hB
          rw [ht] at hB
          obtain ⟨v11296, F11297, rc9⟩ := u
          obtain ⟨hI, hrc, hf11298, hG11299, hw⟩ := hw
          dsimp only at hI hrc hB hf11298 hG11299 hw
          have hF := frCF (by decide) hG11299 hF
          rw [hrc] at hB
          have hP : va_P (dC, dI) classes (wM g c v11296 F11297 rc) H1 := hB
          clear hz1
          generalize H1 = H at hP hS ⊢
          have rr_r11295 := i32_rng r11295
          refine lv_goto (tgt := 45) hx hb dX12_left_40 (by decide) ?_
          have hP9 : va_P (dC, dI) classes (wM g c v11296 F11297 rc) H := hP
          exact W.iret (v := r11295) hx hb hr (fun t ht hW => ⟨⟨r11295, (v11296, F11297, rc), rfl, ⟨hI, rfl, (frC (by decide) hf11298 (fun _ _ => rfl)), hF, trivial⟩, (by show va_P _ _ _ t.heap; rw [ht]; exact hP9)⟩, hS.F ht⟩) hS.2.2 dX12_left_45
set_option maxHeartbeats 8000000 in
set_option maxRecDepth 100000 in
theorem c_X12_lost (l : Launch) (dC : Nat → ClassId) (dI : Nat → Nat → Nat) (g : Nat → Nat) (c : Nat → ClassId) (adK adV : Nat → Nat) (v : Nat → Int32) (F : Nat → Nat → Int32) (rc sz : Nat) (p0 : Int32) (p1 : Int32) (p2 : Int32) (hg : injM g) (hI : IM v F) (hL : JL (v 31) (F 28) (F 29) (F 27)) : Met l yX12_lost (Cond.code yX12_lost cX12_lost 5 (some .int) :: wA) ({ frames := 4, cells := 0, slots := 0, locals := 160 }) (va_Pc [.ref (g 0), .int p0, .int p1, .int p2] (PM dC dI g c adK adV v F rc sz)) (va_Qi (fun (r : Int32) (u : StM) => IM u.1 u.2.1 ∧ u.2.2 = rc ∧ (∀ k, k ∉ ([] : List Nat) → u.1 k = v k) ∧ (∀ k, k ∉ ([30, 31] : List Nat) → u.2.1 k = F k) ∧ True) (BM dC dI g c) (AM g sz)) 0 0 (AM g sz) := by
  refine Met.ofW (cc := cX12_lost) (maxL := 5) (ret := (some .int)) (by decide) rfl ?_
  intro p e s m args below meth c0 s₁ B hml hv
  obtain ⟨rfl, hsz, hP, hK, hE⟩ := hv
  have hx := B.exec
  have hb := B.bytes
  have hr := B.returns
  have hts := atoms_spec (ws := Cond.code yX12_lost cX12_lost 5 (some .int) :: wA) B.pre
  have hwd : ∀ w ∈ wA, w.before _ s = true := fun w h => hts w (List.mem_cons_of_mem _ h)
  have hown : s.vm.findClass RX12 = some m.cls := findClass_of_methodNamed B.named
  have hlocks := B.notSynchronized
  subst hsz
  have hl := lv_entry ([.ref (g 0), .int p0, .int p1, .int p2]) (n := 5) (Nat.le_of_ble_eq_true rfl)
  rw [lg_entry_eq]
  generalize (lg_sl ([.ref (g 0), .int p0, .int p1, .int p2]) ++ List.replicate (5 - (lg_sl ([.ref (g 0), .int p0, .int p1, .int p2])).length) Slot.unset).toArray = ls at hl ⊢
  have hl : lv_has ls 5 [(0, .ref (g 0)), (1, .int p0), (2, .int p1), (3, .int p2)] := hl
  obtain ⟨H, eH⟩ : ∃ z, z = s.heap := ⟨_, rfl⟩
  have hP : va_P (dC, dI) classes (wM g c v F rc) H := by rw [eH]; exact hP
  have hS : va_S (AM g s.heap.size) s.heap H [] := by rw [eH]; exact va_S.rf
  refine my_heap eH ?_
  have hF : ∀ k, k ∉ ([30, 31] : List Nat) → F k = F k := fun _ _ => rfl
  have rp0 := i32_rng p0
  have rp1 := i32_rng p1
  have rp2 := i32_rng p2
  have hb31 : 0 ≤ (v 31).toInt ∧ (v 31).toInt ≤ 10 := hI.1 31 _ _ rfl
  refine lv_aload_n hx hb dX12_lost_0 rfl (lv_at hl 0 rfl) ?_
  refine lv_iload_n hx hb dX12_lost_1 rfl (lv_at hl 1 rfl) ?_
  have t11323 : 0 ≤ (v 14).toInt ∧ (v 14).toInt ≤ 100 := hI.1 14 _ _ rfl
  refine va_calli (va_runV (As := [.int p0]) (rest := []) ⟨hx, hb, hml, hown, hwd⟩ (c_X12_isPart l dC dI g c adK adV v F rc H.size p0 hg hI ) (cwV 1 hwd (gV wk_631 wk_628 wk_629 wk_630 wk_5) rfl rfl rfl (by decide +kernel) ⟨Nat.le_of_ble_eq_true rfl, Nat.le_of_ble_eq_true rfl⟩) ⟨PM.blind, va_recv hK hP (ci := 12) (q0 := 0) rfl rfl, fun U hU hW => ⟨rfl, PM.at hK hE hP hS hU hW⟩⟩ rfl rfl hl.1 rfl (lv_room (Nat.le_of_ble_eq_true rfl)) dX12_lost_2 ⟨Nat.le_of_ble_eq_true rfl, Nat.le_of_ble_eq_true rfl⟩) hS (fun q _ h => (freeM hS) q h) (freeM hS) (fun r11324 u t H1 locs ht hvm hw hB hz1 hk1 hS => ?_)
  unfold BM at hB
  rw [ht] at hB
  have hP : va_P (dC, dI) classes (wM g c v F rc) H1 := hB
  replace hw : (r11324.toInt = 1 ∧ 0 ≤ p0.toInt ∧ p0.toInt < (v 14).toInt) ∨ (r11324.toInt = 0 ∧ (p0.toInt < 0 ∨ (v 14).toInt ≤ p0.toInt)) := hw
  have hw_r11324 := hw
  clear hw
  clear hz1
  generalize H1 = H at hP hS ⊢
  refine lv_if_eq (tgt := 15) hx hb dX12_lost_5 (by decide) (fun c11325 => ?_) (fun c11325 => ?_)
  · skip
    have t11326 := cv_eq (a := r11324.toInt) rfl (b := 0) (by decide) c11325
    refine lv_iconst (v := (-1)) hx hb dX12_lost_15 (by decide) ?_
    have hP9 : va_P (dC, dI) classes (wM g c v F rc) H := hP
    exact W.iret (v := (-1)) hx hb hr (fun t ht hW => ⟨⟨(-1), (v, F, rc), rfl, ⟨hI, rfl, (fun _ _ => rfl), hF, trivial⟩, (by show va_P _ _ _ t.heap; rw [ht]; exact hP9)⟩, hS.F ht⟩) hS.2.2 dX12_lost_16
  · skip
    have t11327 := cv_ne (a := r11324.toInt) rfl (b := 0) (by decide) c11325
    refine lv_iload_n hx hb dX12_lost_8 rfl (lv_at hl 3 rfl) ?_
    refine va_calli (va_runS (As := [.int p2]) (rest := []) ⟨hx, hb, hml, hown, hwd⟩ (c_X12_isDay l dC dI g c adK adV v F rc H.size p2 hg hI ) (va_cwS 1 hwd (gT wk_556 wk_554 wk_555 wk_5) rfl rfl rfl (by decide +kernel) ⟨Nat.le_of_ble_eq_true rfl, Nat.le_of_ble_eq_true rfl⟩) ⟨PM.blind, fun U hU hW => ⟨rfl, PM.at hK hE hP hS hU hW⟩⟩ rfl rfl hl.1 rfl (lv_room (Nat.le_of_ble_eq_true rfl)) dX12_lost_9 ⟨Nat.le_of_ble_eq_true rfl, Nat.le_of_ble_eq_true rfl⟩) hS (fun q _ h => (freeM hS) q h) (freeM hS) (fun r11328 u t H1 locs ht hvm hw hB hz1 hk1 hS => ?_)
    unfold BM at hB
    rw [ht] at hB
    have hP : va_P (dC, dI) classes (wM g c v F rc) H1 := hB
    have hw_r11328 : (r11328.toInt = 1 ∧ 0 ≤ p2.toInt ∧ p2.toInt ≤ 9999) ∨ (r11328.toInt = 0 ∧ (p2.toInt < 0 ∨ 9999 < p2.toInt)) := hw
    clear hw
    clear hz1
    generalize H1 = H at hP hS ⊢
    refine lv_if_ne (tgt := 17) hx hb dX12_lost_12 (by decide) (fun c11329 => ?_) (fun c11329 => ?_)
    · skip
      have t11330 := cv_ne (a := r11328.toInt) rfl (b := 0) (by decide) c11329
      refine lv_aload_n hx hb dX12_lost_17 rfl (lv_at hl 0 rfl) ?_
      refine lv_iload_n hx hb dX12_lost_18 rfl (lv_at hl 1 rfl) ?_
      refine lv_iload_n hx hb dX12_lost_19 rfl (lv_at hl 2 rfl) ?_
      have t11331 : 0 ≤ (v 19).toInt ∧ (v 19).toInt ≤ 500 := hI.1 19 _ _ rfl
      refine va_calli (va_runV (As := [.int p0, .int p1]) (rest := []) ⟨hx, hb, hml, hown, hwd⟩ (c_X12_stayOf l dC dI g c adK adV v F rc H.size p0 p1 hg hI ) (cwV 2 hwd (gV wk_744 wk_741 wk_742 wk_743 wk_5) rfl rfl rfl (by decide +kernel) ⟨Nat.le_of_ble_eq_true rfl, Nat.le_of_ble_eq_true rfl⟩) ⟨PM.blind, va_recv hK hP (ci := 12) (q0 := 0) rfl rfl, fun U hU hW => ⟨rfl, PM.at hK hE hP hS hU hW⟩⟩ rfl rfl hl.1 rfl (lv_room (Nat.le_of_ble_eq_true rfl)) dX12_lost_20 ⟨Nat.le_of_ble_eq_true rfl, Nat.le_of_ble_eq_true rfl⟩) hS (fun q _ h => (freeM hS) q h) (freeM hS) (fun r11332 u t H1 locs ht hvm hw hB hz1 hk1 hS => ?_)
      unfold BM at hB
      rw [ht] at hB
      have hP : va_P (dC, dI) classes (wM g c v F rc) H1 := hB
      replace hw : ((0 ≤ r11332.toInt ∧ r11332.toInt < (v 19).toInt) ∧ (F 15 r11332.toNatClampNeg).toInt = p0.toInt ∧ (cnt (ahP (F 15) (F 17) p0.toInt r11332.toNatClampNeg) (v 19).toNatClampNeg : Int) = p1.toInt) ∨ (r11332.toInt = -1 ∧ ∀ s : Nat, (s : Int) < (v 19).toInt → ((F 15 s).toInt = p0.toInt → (cnt (ahP (F 15) (F 17) p0.toInt s) (v 19).toNatClampNeg : Int) ≠ p1.toInt)) := hw
      have hw_r11332 := hw
      clear hw
      clear hz1
      generalize H1 = H at hP hS ⊢
      refine lv_istore (lv' := [(4, .int r11332), (0, .ref (g 0)), (1, .int p0), (2, .int p1), (3, .int p2)]) hx hb dX12_lost_23 hl (by decide) rfl (fun ls hl => ?_)
      refine lv_iload hx hb dX12_lost_25 (lv_at hl 0 rfl) ?_
      refine lv_if_ge (tgt := 32) hx hb dX12_lost_27 (by decide) (fun c11333 => ?_) (fun c11333 => ?_)
      · skip
        have t11334 := cv_le (a := 0) (by decide) (b := r11332.toInt) rfl c11333
        refine lv_aload_n hx hb dX12_lost_32 rfl (lv_at hl 1 rfl) ?_
        refine lv_iload hx hb dX12_lost_33 (lv_at hl 0 rfl) ?_
        refine va_calli (va_runV (As := [.int r11332]) (rest := []) ⟨hx, hb, hml, hown, hwd⟩ (c_X12_isGap l dC dI g c adK adV v F rc H.size r11332 hg hI (by omega)) (cwV 1 hwd (gV wk_499 wk_496 wk_497 wk_498 wk_5) rfl rfl rfl (by decide +kernel) ⟨Nat.le_of_ble_eq_true rfl, Nat.le_of_ble_eq_true rfl⟩) ⟨PM.blind, va_recv hK hP (ci := 12) (q0 := 0) rfl rfl, fun U hU hW => ⟨rfl, PM.at hK hE hP hS hU hW⟩⟩ rfl rfl hl.1 rfl (lv_room (Nat.le_of_ble_eq_true rfl)) dX12_lost_35 ⟨Nat.le_of_ble_eq_true rfl, Nat.le_of_ble_eq_true rfl⟩) hS (fun q _ h => (freeM hS) q h) (freeM hS) (fun r11335 u t H1 locs ht hvm hw hB hz1 hk1 hS => ?_)
        unfold BM at hB
        rw [ht] at hB
        have hP : va_P (dC, dI) classes (wM g c v F rc) H1 := hB
        have hw_r11335 : 0 ≤ r11335.toInt ∧ r11335.toInt ≤ 1 := hw
        clear hw
        clear hz1
        generalize H1 = H at hP hS ⊢
        refine lv_if_eq (tgt := 51) hx hb dX12_lost_38 (by decide) (fun c11336 => ?_) (fun c11336 => ?_)
        · skip
          have t11337 := cv_eq (a := r11335.toInt) rfl (b := 0) (by decide) c11336
          refine lv_bipush (v := (-2)) hx hb dX12_lost_51 (by decide) ?_
          have hP9 : va_P (dC, dI) classes (wM g c v F rc) H := hP
          exact W.iret (v := (-2)) hx hb hr (fun t ht hW => ⟨⟨(-2), (v, F, rc), rfl, ⟨hI, rfl, (fun _ _ => rfl), hF, trivial⟩, (by show va_P _ _ _ t.heap; rw [ht]; exact hP9)⟩, hS.F ht⟩) hS.2.2 dX12_lost_53
        · skip
          have t11338 := cv_ne (a := r11335.toInt) rfl (b := 0) (by decide) c11336
          refine lv_aload_n hx hb dX12_lost_41 rfl (lv_at hl 1 rfl) ?_
          refine lv_iload hx hb dX12_lost_42 (lv_at hl 0 rfl) ?_
          refine lv_iload_n hx hb dX12_lost_44 rfl (lv_at hl 4 rfl) ?_
          refine va_calli (va_runV (As := [.int r11332, .int p2]) (rest := []) ⟨hx, hb, hml, hown, hwd⟩ (c_X12_lostBy l dC dI g c adK adV v F rc H.size r11332 p2 hg hI (by omega) (JL.to hL (show v 31 = v 31 from rfl) rfl rfl rfl)) (cwV 2 hwd (gV wk_504 wk_501 wk_502 wk_503 wk_5) rfl rfl rfl (by decide +kernel) ⟨Nat.le_of_ble_eq_true rfl, Nat.le_of_ble_eq_true rfl⟩) ⟨PM.blind, va_recv hK hP (ci := 12) (q0 := 0) rfl rfl, fun U hU hW => ⟨rfl, PM.at hK hE hP hS hU hW⟩⟩ rfl rfl hl.1 rfl (lv_room (Nat.le_of_ble_eq_true rfl)) dX12_lost_45 ⟨Nat.le_of_ble_eq_true rfl, Nat.le_of_ble_eq_true rfl⟩) hS (fun q _ h => (freeM hS) q h) (freeM hS) (fun r11339 u t H1 locs ht hvm hw hB hz1 hk1 hS => ?_)
          unfold BM at hB
          rw [ht] at hB
          obtain ⟨v11340, F11341, rc9⟩ := u
          obtain ⟨hI, hrc, hf11342, hG11343, hw⟩ := hw
          dsimp only at hI hrc hB hf11342 hG11343 hw
          have hF := frCF (by decide) hG11343 hF
          rw [hrc] at hB
          have hP : va_P (dC, dI) classes (wM g c v11340 F11341 rc) H1 := hB
          have hw_r11339 : 0 ≤ r11339.toInt ∧ r11339.toInt ≤ 100 := hw
          clear hw
          clear hz1
          generalize H1 = H at hP hS ⊢
          refine lv_goto (tgt := 53) hx hb dX12_lost_48 (by decide) ?_
          have hP9 : va_P (dC, dI) classes (wM g c v11340 F11341 rc) H := hP
          exact W.iret (v := r11339) hx hb hr (fun t ht hW => ⟨⟨r11339, (v11340, F11341, rc), rfl, ⟨hI, rfl, (frC (by decide) hf11342 (fun _ _ => rfl)), hF, trivial⟩, (by show va_P _ _ _ t.heap; rw [ht]; exact hP9)⟩, hS.F ht⟩) hS.2.2 dX12_lost_53
      · skip
        have t11344 := cv_nle (a := 0) (by decide) (b := r11332.toInt) rfl c11333
        refine lv_iconst (v := (-1)) hx hb dX12_lost_30 (by decide) ?_
        have hP9 : va_P (dC, dI) classes (wM g c v F rc) H := hP
        exact W.iret (v := (-1)) hx hb hr (fun t ht hW => ⟨⟨(-1), (v, F, rc), rfl, ⟨hI, rfl, (fun _ _ => rfl), hF, trivial⟩, (by show va_P _ _ _ t.heap; rw [ht]; exact hP9)⟩, hS.F ht⟩) hS.2.2 dX12_lost_31
    · skip
      have t11345 := cv_eq (a := r11328.toInt) rfl (b := 0) (by decide) c11329
      refine lv_iconst (v := (-1)) hx hb dX12_lost_15 (by decide) ?_
      have hP9 : va_P (dC, dI) classes (wM g c v F rc) H := hP
      exact W.iret (v := (-1)) hx hb hr (fun t ht hW => ⟨⟨(-1), (v, F, rc), rfl, ⟨hI, rfl, (fun _ _ => rfl), hF, trivial⟩, (by show va_P _ _ _ t.heap; rw [ht]; exact hP9)⟩, hS.F ht⟩) hS.2.2 dX12_lost_16
set_option maxHeartbeats 8000000 in
set_option maxRecDepth 100000 in
theorem c_X12_least (l : Launch) (dC : Nat → ClassId) (dI : Nat → Nat → Nat) (g : Nat → Nat) (c : Nat → ClassId) (adK adV : Nat → Nat) (v : Nat → Int32) (F : Nat → Nat → Int32) (rc sz : Nat) (p0 : Int32) (p1 : Int32) (hg : injM g) (hI : IM v F) (hL : JL (v 31) (F 28) (F 29) (F 27)) : Met l yX12_least (Cond.code yX12_least cX12_least 9 (some .int) :: wA) ({ frames := 5, cells := 0, slots := 0, locals := 200 }) (va_Pc [.ref (g 0), .int p0, .int p1] (PM dC dI g c adK adV v F rc sz)) (va_Qi (fun (r : Int32) (u : StM) => IM u.1 u.2.1 ∧ u.2.2 = rc ∧ (∀ k, k ∉ ([] : List Nat) → u.1 k = v k) ∧ (∀ k, k ∉ ([30, 31] : List Nat) → u.2.1 k = F k) ∧ True) (BM dC dI g c) (AM g sz)) 0 0 (AM g sz) := by
  refine Met.ofW (cc := cX12_least) (maxL := 9) (ret := (some .int)) (by decide) rfl ?_
  intro p e s m args below meth c0 s₁ B hml hv
  obtain ⟨rfl, hsz, hP, hK, hE⟩ := hv
  have hx := B.exec
  have hb := B.bytes
  have hr := B.returns
  have hts := atoms_spec (ws := Cond.code yX12_least cX12_least 9 (some .int) :: wA) B.pre
  have hwd : ∀ w ∈ wA, w.before _ s = true := fun w h => hts w (List.mem_cons_of_mem _ h)
  have hown : s.vm.findClass RX12 = some m.cls := findClass_of_methodNamed B.named
  have hlocks := B.notSynchronized
  subst hsz
  have hl := lv_entry ([.ref (g 0), .int p0, .int p1]) (n := 9) (Nat.le_of_ble_eq_true rfl)
  rw [lg_entry_eq]
  generalize (lg_sl ([.ref (g 0), .int p0, .int p1]) ++ List.replicate (9 - (lg_sl ([.ref (g 0), .int p0, .int p1])).length) Slot.unset).toArray = ls at hl ⊢
  have hl : lv_has ls 9 [(0, .ref (g 0)), (1, .int p0), (2, .int p1)] := hl
  obtain ⟨H, eH⟩ : ∃ z, z = s.heap := ⟨_, rfl⟩
  have hP : va_P (dC, dI) classes (wM g c v F rc) H := by rw [eH]; exact hP
  have hS : va_S (AM g s.heap.size) s.heap H [] := by rw [eH]; exact va_S.rf
  refine my_heap eH ?_
  have hF : ∀ k, k ∉ ([30, 31] : List Nat) → F k = F k := fun _ _ => rfl
  have rp0 := i32_rng p0
  have rp1 := i32_rng p1
  have hb31 : 0 ≤ (v 31).toInt ∧ (v 31).toInt ≤ 10 := hI.1 31 _ _ rfl
  refine lv_aload_n hx hb dX12_least_0 rfl (lv_at hl 0 rfl) ?_
  refine lv_iload_n hx hb dX12_least_1 rfl (lv_at hl 1 rfl) ?_
  have t11398 : 0 ≤ (v 14).toInt ∧ (v 14).toInt ≤ 100 := hI.1 14 _ _ rfl
  refine va_calli (va_runV (As := [.int p0]) (rest := []) ⟨hx, hb, hml, hown, hwd⟩ (c_X12_isPart l dC dI g c adK adV v F rc H.size p0 hg hI ) (cwV 1 hwd (gV wk_631 wk_628 wk_629 wk_630 wk_5) rfl rfl rfl (by decide +kernel) ⟨Nat.le_of_ble_eq_true rfl, Nat.le_of_ble_eq_true rfl⟩) ⟨PM.blind, va_recv hK hP (ci := 12) (q0 := 0) rfl rfl, fun U hU hW => ⟨rfl, PM.at hK hE hP hS hU hW⟩⟩ rfl rfl hl.1 rfl (lv_room (Nat.le_of_ble_eq_true rfl)) dX12_least_2 ⟨Nat.le_of_ble_eq_true rfl, Nat.le_of_ble_eq_true rfl⟩) hS (fun q _ h => (freeM hS) q h) (freeM hS) (fun r11399 u t H1 locs ht hvm hw hB hz1 hk1 hS => ?_)
  unfold BM at hB
  rw [ht] at hB
  have hP : va_P (dC, dI) classes (wM g c v F rc) H1 := hB
  replace hw : (r11399.toInt = 1 ∧ 0 ≤ p0.toInt ∧ p0.toInt < (v 14).toInt) ∨ (r11399.toInt = 0 ∧ (p0.toInt < 0 ∨ (v 14).toInt ≤ p0.toInt)) := hw
  have hw_r11399 := hw
  clear hw
  clear hz1
  generalize H1 = H at hP hS ⊢
  refine lv_if_eq (tgt := 15) hx hb dX12_least_5 (by decide) (fun c11400 => ?_) (fun c11400 => ?_)
  · skip
    have t11401 := cv_eq (a := r11399.toInt) rfl (b := 0) (by decide) c11400
    refine lv_iconst (v := (-1)) hx hb dX12_least_15 (by decide) ?_
    have hP9 : va_P (dC, dI) classes (wM g c v F rc) H := hP
    exact W.iret (v := (-1)) hx hb hr (fun t ht hW => ⟨⟨(-1), (v, F, rc), rfl, ⟨hI, rfl, (fun _ _ => rfl), hF, trivial⟩, (by show va_P _ _ _ t.heap; rw [ht]; exact hP9)⟩, hS.F ht⟩) hS.2.2 dX12_least_16
  · skip
    have t11402 := cv_ne (a := r11399.toInt) rfl (b := 0) (by decide) c11400
    refine lv_iload_n hx hb dX12_least_8 rfl (lv_at hl 2 rfl) ?_
    refine va_calli (va_runS (As := [.int p1]) (rest := []) ⟨hx, hb, hml, hown, hwd⟩ (c_X12_isDay l dC dI g c adK adV v F rc H.size p1 hg hI ) (va_cwS 1 hwd (gT wk_556 wk_554 wk_555 wk_5) rfl rfl rfl (by decide +kernel) ⟨Nat.le_of_ble_eq_true rfl, Nat.le_of_ble_eq_true rfl⟩) ⟨PM.blind, fun U hU hW => ⟨rfl, PM.at hK hE hP hS hU hW⟩⟩ rfl rfl hl.1 rfl (lv_room (Nat.le_of_ble_eq_true rfl)) dX12_least_9 ⟨Nat.le_of_ble_eq_true rfl, Nat.le_of_ble_eq_true rfl⟩) hS (fun q _ h => (freeM hS) q h) (freeM hS) (fun r11403 u t H1 locs ht hvm hw hB hz1 hk1 hS => ?_)
    unfold BM at hB
    rw [ht] at hB
    have hP : va_P (dC, dI) classes (wM g c v F rc) H1 := hB
    have hw_r11403 : (r11403.toInt = 1 ∧ 0 ≤ p1.toInt ∧ p1.toInt ≤ 9999) ∨ (r11403.toInt = 0 ∧ (p1.toInt < 0 ∨ 9999 < p1.toInt)) := hw
    clear hw
    clear hz1
    generalize H1 = H at hP hS ⊢
    refine lv_if_ne (tgt := 17) hx hb dX12_least_12 (by decide) (fun c11404 => ?_) (fun c11404 => ?_)
    · skip
      have t11405 := cv_ne (a := r11403.toInt) rfl (b := 0) (by decide) c11404
      refine lv_bipush (v := (-2)) hx hb dX12_least_17 (by decide) ?_
      refine lv_istore_n (lv' := [(3, .int (-2)), (0, .ref (g 0)), (1, .int p0), (2, .int p1)]) hx hb dX12_least_19 rfl hl (by decide) rfl (fun ls hl => ?_)
      refine lv_lconst (v := 0) hx hb dX12_least_20 (by decide) ?_
      refine lv_lstore (lv' := [(4, .long 0), (3, .int (-2)), (0, .ref (g 0)), (1, .int p0), (2, .int p1)]) hx hb dX12_least_21 hl (by decide) rfl (fun ls hl => ?_)
      refine lv_iconst (v := 0) hx hb dX12_least_23 (by decide) ?_
      refine lv_istore (lv' := [(6, .int 0), (4, .long 0), (3, .int (-2)), (0, .ref (g 0)), (1, .int p0), (2, .int p1)]) hx hb dX12_least_24 hl (by decide) rfl (fun ls hl => ?_)
      have lp11406 : ∀ (n : Nat) (x6_lp11406 : Int32) (x4_lp11406 : Int64) (x3_lp11406 : Int32) (v_lp11406 : Nat → Int32) (F_lp11406 : Nat → Nat → Int32) (H : Heap) (locs : List Loc) (ls : Array Slot), (0 ≤ x6_lp11406.toInt) → (2147483648 - x6_lp11406.toInt ≤ (n : Int)) → (∀ k, k ∉ ([] : List Nat) → v_lp11406 k = v k) → IM v_lp11406 F_lp11406 → (∀ k, k ∉ ([30, 31] : List Nat) → F_lp11406 k = F k) → va_P (dC, dI) classes (wM g c v_lp11406 F_lp11406 rc) H → va_S (AM g s.heap.size) s.heap H locs → lv_has ls 9 [(6, .int x6_lp11406), (4, .long x4_lp11406), (3, .int x3_lp11406), (0, .ref (g 0)), (1, .int p0), (2, .int p1)] → W p l e (headSpec (Cond.code yX12_least cX12_least 9 (some .int) :: wA) ({ frames := 5, cells := 0, slots := 0, locals := 200 })).room s m ([.ref (g 0), .int p0, .int p1] : List Value).toArray below meth c0 H locs 0 0 (MQ below (va_Qi (fun (r : Int32) (u : StM) => IM u.1 u.2.1 ∧ u.2.2 = rc ∧ (∀ k, k ∉ ([] : List Nat) → u.1 k = v k) ∧ (∀ k, k ∉ ([30, 31] : List Nat) → u.2.1 k = F k) ∧ True) (BM dC dI g c) (AM g s.heap.size)) ([.ref (g 0), .int p0, .int p1] : List Value).toArray s 0 0 (AM g s.heap.size)) (F0 m 26 ls []) := by
        intro n
        induction n with
        | zero =>
          intro x6_lp11406 x4_lp11406 x3_lp11406 v_lp11406 F_lp11406 H locs ls t11407 hm hf_lp11406 hI hF hP hS hl
          exfalso
          have := i32_rng x6_lp11406
          have := i32_rng x3_lp11406
          have hI1 := hI.1
          omega
        | succ n ih_lp11406 =>
          intro x6_lp11406 x4_lp11406 x3_lp11406 v_lp11406 F_lp11406 H locs ls t11407 hm hf_lp11406 hI hF hP hS hl
          have rx6_lp11406 := i32_rng x6_lp11406
          have rx3_lp11406 := i32_rng x3_lp11406
          refine lv_iload hx hb dX12_least_26 (lv_at hl 0 rfl) ?_
          refine lv_iconst (v := 3) hx hb dX12_least_28 (by decide) ?_
          refine lv_icmp_ge (tgt := 97) hx hb dX12_least_29 (by decide) (fun c11408 => ?_) (fun c11408 => ?_)
          · skip
            have t11409 := cv_le (a := 3) (by decide) (b := x6_lp11406.toInt) rfl c11408
            refine lv_iload_n hx hb dX12_least_97 rfl (lv_at hl 2 rfl) ?_
            have hP9 : va_P (dC, dI) classes (wM g c v_lp11406 F_lp11406 rc) H := hP
            exact W.iret (v := x3_lp11406) hx hb hr (fun t ht hW => ⟨⟨x3_lp11406, (v_lp11406, F_lp11406, rc), rfl, ⟨hI, rfl, (frC (by decide) hf_lp11406 (fun _ _ => rfl)), hF, trivial⟩, (by show va_P _ _ _ t.heap; rw [ht]; exact hP9)⟩, hS.F ht⟩) hS.2.2 dX12_least_98
          · skip
            have t11410 := cv_nle (a := 3) (by decide) (b := x6_lp11406.toInt) rfl c11408
            refine lv_aload_n hx hb dX12_least_32 rfl (lv_at hl 3 rfl) ?_
            refine lv_iload_n hx hb dX12_least_33 rfl (lv_at hl 4 rfl) ?_
            refine lv_iload hx hb dX12_least_34 (lv_at hl 0 rfl) ?_
            have hby1 : F_lp11406 1 = F 1 := hF 1 (by decide)
            have hby11 : F_lp11406 11 = F 11 := hF 11 (by decide)
            refine va_calli (va_runV (As := [.int p0, .int x6_lp11406]) (rest := []) ⟨hx, hb, hml, hown, hwd⟩ (c_X12_limitOf l dC dI g c adK adV v_lp11406 F_lp11406 rc H.size p0 x6_lp11406 hg hI (by omega) (by omega)) (cwV 2 hwd (gV wk_489 wk_486 wk_487 wk_488 wk_5) rfl rfl rfl (by decide +kernel) ⟨Nat.le_of_ble_eq_true rfl, Nat.le_of_ble_eq_true rfl⟩) ⟨PM.blind, va_recv hK hP (ci := 12) (q0 := 0) rfl rfl, fun U hU hW => ⟨rfl, PM.at hK hE hP hS hU hW⟩⟩ rfl rfl hl.1 rfl (lv_room (Nat.le_of_ble_eq_true rfl)) dX12_least_36 ⟨Nat.le_of_ble_eq_true rfl, Nat.le_of_ble_eq_true rfl⟩) hS (fun q _ h => (freeM hS) q h) (freeM hS) (fun r11411 u t H1 locs ht hvm hw hB hz1 hk1 hS => ?_)
            unfold BM at hB
            rw [ht] at hB
            have hP : va_P (dC, dI) classes (wM g c v_lp11406 F_lp11406 rc) H1 := hB
            replace hw : r11411.toInt = (F_lp11406 1 (limJ (F_lp11406 11) p0 x6_lp11406)).toInt := hw
            rw [hby1] at hw
            rw [hby11] at hw
            have hw_r11411 := hw
            clear hw
            clear hz1
            generalize H1 = H at hP hS ⊢
            refine lv_if_ne (tgt := 45) hx hb dX12_least_39 (by decide) (fun c11412 => ?_) (fun c11412 => ?_)
            · skip
              have t11413 := cv_ne (a := r11411.toInt) rfl (b := 0) (by decide) c11412
              refine lv_ldc2 (v := 10000) hx hb hown (hwd _ wk_781) dX12_least_45 ?_
              refine lv_aload_n hx hb dX12_least_48 rfl (lv_at hl 3 rfl) ?_
              refine lv_iload_n hx hb dX12_least_49 rfl (lv_at hl 4 rfl) ?_
              refine lv_iload hx hb dX12_least_50 (lv_at hl 0 rfl) ?_
              refine lv_iload_n hx hb dX12_least_52 rfl (lv_at hl 5 rfl) ?_
              refine va_calli (va_runV (As := [.int p0, .int x6_lp11406, .int p1]) (rest := [.long 10000]) ⟨hx, hb, hml, hown, hwd⟩ (c_X12_leftOf l dC dI g c adK adV v_lp11406 F_lp11406 rc H.size p0 x6_lp11406 p1 hg hI (by omega) (by omega) (JL.to hL (show v_lp11406 31 = v 31 from hf_lp11406 31 (by decide)) (hF 28 (by decide)) (hF 29 (by decide)) (hF 27 (by decide)))) (cwV 3 hwd (gV wk_493 wk_490 wk_491 wk_492 wk_5) rfl rfl rfl (by decide +kernel) ⟨Nat.le_of_ble_eq_true rfl, Nat.le_of_ble_eq_true rfl⟩) ⟨PM.blind, va_recv hK hP (ci := 12) (q0 := 0) rfl rfl, fun U hU hW => ⟨rfl, PM.at hK hE hP hS hU hW⟩⟩ rfl rfl hl.1 rfl (lv_room (Nat.le_of_ble_eq_true rfl)) dX12_least_53 ⟨Nat.le_of_ble_eq_true rfl, Nat.le_of_ble_eq_true rfl⟩) hS (fun q _ h => (freeM hS) q h) (freeM hS) (fun r11414 u t H1 locs ht hvm hw hB hz1 hk1 hS => ?_)
              unfold BM at hB
              rw [ht] at hB
              obtain ⟨v11415, F11416, rc9⟩ := u
              obtain ⟨hI, hrc, hf11417, hG11418, hw⟩ := hw
              dsimp only at hI hrc hB hf11417 hG11418 hw
              have hF := frCF (by decide) hG11418 hF
              rw [hrc] at hB
              have hP : va_P (dC, dI) classes (wM g c v11415 F11416 rc) H1 := hB
              clear hz1
              generalize H1 = H at hP hS ⊢
              have rr_r11414 := i32_rng r11414
              refine lv_i2l hx hb dX12_least_56 rfl ?_
              refine lv_topl (fun z11419 e11420 => ?_)
              refine lv_lmul hx hb dX12_least_57 ?_
              refine lv_topl (fun z11421 e11422 => ?_)
              refine lv_aload_n hx hb dX12_least_58 rfl (lv_at hl 3 rfl) ?_
              refine lv_iload_n hx hb dX12_least_59 rfl (lv_at hl 4 rfl) ?_
              refine lv_iload hx hb dX12_least_60 (lv_at hl 0 rfl) ?_
              have hby1 : F11416 1 = F 1 := hF 1 (by decide)
              have hby11 : F11416 11 = F 11 := hF 11 (by decide)
              refine va_calli (va_runV (As := [.int p0, .int x6_lp11406]) (rest := [.long z11421]) ⟨hx, hb, hml, hown, hwd⟩ (c_X12_limitOf l dC dI g c adK adV v11415 F11416 rc H.size p0 x6_lp11406 hg hI (by omega) (by omega)) (cwV 2 hwd (gV wk_489 wk_486 wk_487 wk_488 wk_5) rfl rfl rfl (by decide +kernel) ⟨Nat.le_of_ble_eq_true rfl, Nat.le_of_ble_eq_true rfl⟩) ⟨PM.blind, va_recv hK hP (ci := 12) (q0 := 0) rfl rfl, fun U hU hW => ⟨rfl, PM.at hK hE hP hS hU hW⟩⟩ rfl rfl hl.1 rfl (lv_room (Nat.le_of_ble_eq_true rfl)) dX12_least_62 ⟨Nat.le_of_ble_eq_true rfl, Nat.le_of_ble_eq_true rfl⟩) hS (fun q _ h => (freeM hS) q h) (freeM hS) (fun r11423 u t H1 locs ht hvm hw hB hz1 hk1 hS => ?_)
              unfold BM at hB
              rw [ht] at hB
              have hP : va_P (dC, dI) classes (wM g c v11415 F11416 rc) H1 := hB
              replace hw : r11423.toInt = (F11416 1 (limJ (F11416 11) p0 x6_lp11406)).toInt := hw
              rw [hby1] at hw
              rw [hby11] at hw
              have hw_r11423 := hw
              clear hw
              clear hz1
              generalize H1 = H at hP hS ⊢
              refine lv_i2l hx hb dX12_least_65 rfl ?_
              refine lv_topl (fun z11424 e11425 => ?_)
              refine lv_ldiv hx hb dX12_least_66 (nz64 e11425 (a := r11423.toInt) rfl (by omega)) ?_
              refine lv_topl (fun z11426 e11427 => ?_)
              refine lv_lstore (lv' := [(7, .long z11426), (6, .int x6_lp11406), (4, .long x4_lp11406), (3, .int x3_lp11406), (0, .ref (g 0)), (1, .int p0), (2, .int p1)]) hx hb dX12_least_67 hl (by decide) rfl (fun ls hl => ?_)
              refine lv_iload_n hx hb dX12_least_69 rfl (lv_at hl 3 rfl) ?_
              refine lv_if_lt (tgt := 84) hx hb dX12_least_70 (by decide) (fun c11428 => ?_) (fun c11428 => ?_)
              · skip
                have t11429 := cv_lt (a := x3_lp11406.toInt) rfl (b := 0) (by decide) c11428
                refine lv_iload hx hb dX12_least_84 (lv_at hl 1 rfl) ?_
                refine lv_istore_n (lv' := [(3, .int x6_lp11406), (7, .long z11426), (6, .int x6_lp11406), (4, .long x4_lp11406), (0, .ref (g 0)), (1, .int p0), (2, .int p1)]) hx hb dX12_least_86 rfl hl (by decide) rfl (fun ls hl => ?_)
                refine lv_lload hx hb dX12_least_87 (lv_at hl 1 rfl) ?_
                refine lv_lstore (lv' := [(4, .long z11426), (3, .int x6_lp11406), (7, .long z11426), (6, .int x6_lp11406), (0, .ref (g 0)), (1, .int p0), (2, .int p1)]) hx hb dX12_least_89 hl (by decide) rfl (fun ls hl => ?_)
                obtain ⟨z11430, e11431⟩ : ∃ y : Int32, y = x6_lp11406 + 1 := ⟨_, rfl⟩
                try (have t11432 := tadd e11431 rfl (b := 1) (by decide) (by omega))
                refine lv_iinc (v := z11430) (lv' := [(6, .int z11430), (4, .long z11426), (3, .int x6_lp11406), (7, .long z11426), (0, .ref (g 0)), (1, .int p0), (2, .int p1)]) hx hb dX12_least_91 hl (k := 3) rfl (by rw [e11431]; rfl) (by decide) rfl (fun ls hl => ?_)
                refine lv_goto (tgt := 26) hx hb dX12_least_94 (by decide) ?_
                exact ih_lp11406 z11430 z11426 x6_lp11406 v11415 F11416 _ _ _ (by omega) (by omega) (frC (by decide) hf11417 hf_lp11406) hI hF hP hS (lv_sub hl [0, 1, 2, 4, 5, 6] rfl)
              · skip
                have t11433 := cv_nlt (a := x3_lp11406.toInt) rfl (b := 0) (by decide) c11428
                refine lv_lload hx hb dX12_least_73 (lv_at hl 0 rfl) ?_
                refine lv_lload hx hb dX12_least_75 (lv_at hl 2 rfl) ?_
                refine W.lcmp hx hb dX12_least_77 ?_
                refine lv_topi (fun z11434 e11435 => ?_)
                refine lv_if_lt (tgt := 84) hx hb dX12_least_78 (by decide) (fun c11436 => ?_) (fun c11436 => ?_)
                · skip
                  have t11437 := cv_lt (a := z11434.toInt) rfl (b := 0) (by decide) c11436
                  refine lv_iload hx hb dX12_least_84 (lv_at hl 1 rfl) ?_
                  refine lv_istore_n (lv' := [(3, .int x6_lp11406), (7, .long z11426), (6, .int x6_lp11406), (4, .long x4_lp11406), (0, .ref (g 0)), (1, .int p0), (2, .int p1)]) hx hb dX12_least_86 rfl hl (by decide) rfl (fun ls hl => ?_)
                  refine lv_lload hx hb dX12_least_87 (lv_at hl 1 rfl) ?_
                  refine lv_lstore (lv' := [(4, .long z11426), (3, .int x6_lp11406), (7, .long z11426), (6, .int x6_lp11406), (0, .ref (g 0)), (1, .int p0), (2, .int p1)]) hx hb dX12_least_89 hl (by decide) rfl (fun ls hl => ?_)
                  obtain ⟨z11438, e11439⟩ : ∃ y : Int32, y = x6_lp11406 + 1 := ⟨_, rfl⟩
                  try (have t11440 := tadd e11439 rfl (b := 1) (by decide) (by omega))
                  refine lv_iinc (v := z11438) (lv' := [(6, .int z11438), (4, .long z11426), (3, .int x6_lp11406), (7, .long z11426), (0, .ref (g 0)), (1, .int p0), (2, .int p1)]) hx hb dX12_least_91 hl (k := 3) rfl (by rw [e11439]; rfl) (by decide) rfl (fun ls hl => ?_)
                  refine lv_goto (tgt := 26) hx hb dX12_least_94 (by decide) ?_
                  exact ih_lp11406 z11438 z11426 x6_lp11406 v11415 F11416 _ _ _ (by omega) (by omega) (frC (by decide) hf11417 hf_lp11406) hI hF hP hS (lv_sub hl [0, 1, 2, 4, 5, 6] rfl)
                · skip
                  have t11441 := cv_nlt (a := z11434.toInt) rfl (b := 0) (by decide) c11436
                  refine lv_goto (tgt := 91) hx hb dX12_least_81 (by decide) ?_
                  obtain ⟨z11442, e11443⟩ : ∃ y : Int32, y = x6_lp11406 + 1 := ⟨_, rfl⟩
                  try (have t11444 := tadd e11443 rfl (b := 1) (by decide) (by omega))
                  refine lv_iinc (v := z11442) (lv' := [(6, .int z11442), (7, .long z11426), (4, .long x4_lp11406), (3, .int x3_lp11406), (0, .ref (g 0)), (1, .int p0), (2, .int p1)]) hx hb dX12_least_91 hl (k := 1) rfl (by rw [e11443]; rfl) (by decide) rfl (fun ls hl => ?_)
                  refine lv_goto (tgt := 26) hx hb dX12_least_94 (by decide) ?_
                  exact ih_lp11406 z11442 x4_lp11406 x3_lp11406 v11415 F11416 _ _ _ (by omega) (by omega) (frC (by decide) hf11417 hf_lp11406) hI hF hP hS (lv_sub hl [0, 2, 3, 4, 5, 6] rfl)
            · skip
              have t11445 := cv_eq (a := r11411.toInt) rfl (b := 0) (by decide) c11412
              refine lv_goto (tgt := 91) hx hb dX12_least_42 (by decide) ?_
              obtain ⟨z11446, e11447⟩ : ∃ y : Int32, y = x6_lp11406 + 1 := ⟨_, rfl⟩
              try (have t11448 := tadd e11447 rfl (b := 1) (by decide) (by omega))
              refine lv_iinc (v := z11446) (lv' := [(6, .int z11446), (4, .long x4_lp11406), (3, .int x3_lp11406), (0, .ref (g 0)), (1, .int p0), (2, .int p1)]) hx hb dX12_least_91 hl (k := 0) rfl (by rw [e11447]; rfl) (by decide) rfl (fun ls hl => ?_)
              refine lv_goto (tgt := 26) hx hb dX12_least_94 (by decide) ?_
              exact ih_lp11406 z11446 x4_lp11406 x3_lp11406 v_lp11406 F_lp11406 _ _ _ (by omega) (by omega) hf_lp11406 hI hF hP hS (lv_sub hl [0, 1, 2, 3, 4, 5] rfl)
      obtain ⟨n9, hn9⟩ : ∃ n : Nat, 2147483648 - 0 ≤ (n : Int) := ⟨((2147483648 - 0 : Int)).toNat, by omega⟩
      exact lp11406 n9 0 0 (-2) v F H _ ls (by have : (0 : Int32).toInt = 0 := (by decide); have : ((-2) : Int32).toInt = (-2) := (by decide); omega) (by have : (0 : Int32).toInt = 0 := (by decide); have : ((-2) : Int32).toInt = (-2) := (by decide); omega) (fun _ _ => rfl) hI hF hP hS hl
    · skip
      have t11449 := cv_eq (a := r11403.toInt) rfl (b := 0) (by decide) c11404
      refine lv_iconst (v := (-1)) hx hb dX12_least_15 (by decide) ?_
      have hP9 : va_P (dC, dI) classes (wM g c v F rc) H := hP
      exact W.iret (v := (-1)) hx hb hr (fun t ht hW => ⟨⟨(-1), (v, F, rc), rfl, ⟨hI, rfl, (fun _ _ => rfl), hF, trivial⟩, (by show va_P _ _ _ t.heap; rw [ht]; exact hP9)⟩, hS.F ht⟩) hS.2.2 dX12_least_16
set_option maxHeartbeats 8000000 in
set_option maxRecDepth 100000 in
theorem c_X12_halfOf (l : Launch) (dC : Nat → ClassId) (dI : Nat → Nat → Nat) (g : Nat → Nat) (c : Nat → ClassId) (adK adV : Nat → Nat) (v : Nat → Int32) (F : Nat → Nat → Int32) (rc sz : Nat) (p0 : Int32) (p1 : Int32) (hg : injM g) (hI : IM v F) (hL : JL (v 31) (F 28) (F 29) (F 27)) : Met l yX12_halfOf (Cond.code yX12_halfOf cX12_halfOf 7 (some .int) :: wA) ({ frames := 5, cells := 0, slots := 0, locals := 200 }) (va_Pc [.ref (g 0), .int p0, .int p1] (PM dC dI g c adK adV v F rc sz)) (va_Qi (fun (r : Int32) (u : StM) => IM u.1 u.2.1 ∧ u.2.2 = rc ∧ (∀ k, k ∉ ([] : List Nat) → u.1 k = v k) ∧ (∀ k, k ∉ ([30, 31] : List Nat) → u.2.1 k = F k) ∧ True) (BM dC dI g c) (AM g sz)) 0 0 (AM g sz) := by
  refine Met.ofW (cc := cX12_halfOf) (maxL := 7) (ret := (some .int)) (by decide) rfl ?_
  intro p e s m args below meth c0 s₁ B hml hv
  obtain ⟨rfl, hsz, hP, hK, hE⟩ := hv
  have hx := B.exec
  have hb := B.bytes
  have hr := B.returns
  have hts := atoms_spec (ws := Cond.code yX12_halfOf cX12_halfOf 7 (some .int) :: wA) B.pre
  have hwd : ∀ w ∈ wA, w.before _ s = true := fun w h => hts w (List.mem_cons_of_mem _ h)
  have hown : s.vm.findClass RX12 = some m.cls := findClass_of_methodNamed B.named
  have hlocks := B.notSynchronized
  subst hsz
  have hl := lv_entry ([.ref (g 0), .int p0, .int p1]) (n := 7) (Nat.le_of_ble_eq_true rfl)
  rw [lg_entry_eq]
  generalize (lg_sl ([.ref (g 0), .int p0, .int p1]) ++ List.replicate (7 - (lg_sl ([.ref (g 0), .int p0, .int p1])).length) Slot.unset).toArray = ls at hl ⊢
  have hl : lv_has ls 7 [(0, .ref (g 0)), (1, .int p0), (2, .int p1)] := hl
  obtain ⟨H, eH⟩ : ∃ z, z = s.heap := ⟨_, rfl⟩
  have hP : va_P (dC, dI) classes (wM g c v F rc) H := by rw [eH]; exact hP
  have hS : va_S (AM g s.heap.size) s.heap H [] := by rw [eH]; exact va_S.rf
  refine my_heap eH ?_
  have hF : ∀ k, k ∉ ([30, 31] : List Nat) → F k = F k := fun _ _ => rfl
  have rp0 := i32_rng p0
  have rp1 := i32_rng p1
  have hb31 : 0 ≤ (v 31).toInt ∧ (v 31).toInt ≤ 10 := hI.1 31 _ _ rfl
  refine lv_lconst (v := 0) hx hb dX12_halfOf_0 (by decide) ?_
  refine lv_lstore_n (lv' := [(3, .long 0), (0, .ref (g 0)), (1, .int p0), (2, .int p1)]) hx hb dX12_halfOf_1 rfl hl (by decide) rfl (fun ls hl => ?_)
  refine lv_iconst (v := 0) hx hb dX12_halfOf_2 (by decide) ?_
  refine lv_istore (lv' := [(5, .int 0), (3, .long 0), (0, .ref (g 0)), (1, .int p0), (2, .int p1)]) hx hb dX12_halfOf_3 hl (by decide) rfl (fun ls hl => ?_)
  have lp11522 : ∀ (n : Nat) (x5_lp11522 : Int32) (x3_lp11522 : Int64) (v_lp11522 : Nat → Int32) (F_lp11522 : Nat → Nat → Int32) (H : Heap) (locs : List Loc) (ls : Array Slot), (0 ≤ x5_lp11522.toInt) → (2147483648 - x5_lp11522.toInt ≤ (n : Int)) → (∀ k, k ∉ ([] : List Nat) → v_lp11522 k = v k) → IM v_lp11522 F_lp11522 → (∀ k, k ∉ ([30, 31] : List Nat) → F_lp11522 k = F k) → va_P (dC, dI) classes (wM g c v_lp11522 F_lp11522 rc) H → va_S (AM g s.heap.size) s.heap H locs → lv_has ls 7 [(5, .int x5_lp11522), (3, .long x3_lp11522), (0, .ref (g 0)), (1, .int p0), (2, .int p1)] → W p l e (headSpec (Cond.code yX12_halfOf cX12_halfOf 7 (some .int) :: wA) ({ frames := 5, cells := 0, slots := 0, locals := 200 })).room s m ([.ref (g 0), .int p0, .int p1] : List Value).toArray below meth c0 H locs 0 0 (MQ below (va_Qi (fun (r : Int32) (u : StM) => IM u.1 u.2.1 ∧ u.2.2 = rc ∧ (∀ k, k ∉ ([] : List Nat) → u.1 k = v k) ∧ (∀ k, k ∉ ([30, 31] : List Nat) → u.2.1 k = F k) ∧ True) (BM dC dI g c) (AM g s.heap.size)) ([.ref (g 0), .int p0, .int p1] : List Value).toArray s 0 0 (AM g s.heap.size)) (F0 m 5 ls []) := by
    intro n
    induction n with
    | zero =>
      intro x5_lp11522 x3_lp11522 v_lp11522 F_lp11522 H locs ls t11523 hm hf_lp11522 hI hF hP hS hl
      exfalso
      have := i32_rng x5_lp11522
      have hI1 := hI.1
      omega
    | succ n ih_lp11522 =>
      intro x5_lp11522 x3_lp11522 v_lp11522 F_lp11522 H locs ls t11523 hm hf_lp11522 hI hF hP hS hl
      have rx5_lp11522 := i32_rng x5_lp11522
      refine lv_iload hx hb dX12_halfOf_5 (lv_at hl 0 rfl) ?_
      refine lv_aload_n hx hb dX12_halfOf_7 rfl (lv_at hl 2 rfl) ?_
      refine va_get (D := (dC, dI)) (ci := 12) (v := .int (v_lp11522 14)) (C := RX12) (T := TX12) (N := 63) hx hb hwd inA_X12 hown hK hP 0 rfl rfl 14 (by decide) (hwd _ wk_318) (fun _ h9 => h9) rfl dX12_halfOf_8 ?_
      refine my_top (v := v 14) (hf_lp11522 14 (by decide)) ?_
      have t11524 : 0 ≤ (v 14).toInt ∧ (v 14).toInt ≤ 100 := by have h9 := hI.1 14 _ _ rfl; rw [show v_lp11522 14 = v 14 from hf_lp11522 14 (by decide)] at h9; exact h9
      refine lv_icmp_ge (tgt := 99) hx hb dX12_halfOf_11 (by decide) (fun c11525 => ?_) (fun c11525 => ?_)
      · skip
        have t11526 := cv_le (a := (v 14).toInt) rfl (b := x5_lp11522.toInt) rfl c11525
        refine lv_lload_n hx hb dX12_halfOf_99 rfl (lv_at hl 1 rfl) ?_
        refine lv_ldc2 (v := 1999999999) hx hb hown (hwd _ wk_1379) dX12_halfOf_100 ?_
        refine W.lcmp hx hb dX12_halfOf_103 ?_
        refine lv_topi (fun z11527 e11528 => ?_)
        refine lv_if_le (tgt := 113) hx hb dX12_halfOf_104 (by decide) (fun c11529 => ?_) (fun c11529 => ?_)
        · skip
          have t11530 := cv_le (a := z11527.toInt) rfl (b := 0) (by decide) c11529
          refine lv_lload_n hx hb dX12_halfOf_113 rfl (lv_at hl 1 rfl) ?_
          refine lv_ldc2 (v := (-1999999999)) hx hb hown (hwd _ wk_1381) dX12_halfOf_114 ?_
          refine W.lcmp hx hb dX12_halfOf_117 ?_
          refine lv_topi (fun z11531 e11532 => ?_)
          refine lv_if_ge (tgt := 127) hx hb dX12_halfOf_118 (by decide) (fun c11533 => ?_) (fun c11533 => ?_)
          · skip
            have t11534 := cv_le (a := 0) (by decide) (b := z11531.toInt) rfl c11533
            refine lv_lload_n hx hb dX12_halfOf_127 rfl (lv_at hl 1 rfl) ?_
            refine lv_l2i hx hb dX12_halfOf_128 rfl ?_
            refine lv_topi (fun z11535 e11536 => ?_)
            have hP9 : va_P (dC, dI) classes (wM g c v_lp11522 F_lp11522 rc) H := hP
            exact W.iret (v := z11535) hx hb hr (fun t ht hW => ⟨⟨z11535, (v_lp11522, F_lp11522, rc), rfl, ⟨hI, rfl, (frC (by decide) hf_lp11522 (fun _ _ => rfl)), hF, trivial⟩, (by show va_P _ _ _ t.heap; rw [ht]; exact hP9)⟩, hS.F ht⟩) hS.2.2 dX12_halfOf_129
          · skip
            have t11537 := cv_nle (a := 0) (by decide) (b := z11531.toInt) rfl c11533
            refine lv_ldcw (v := (-1999999999)) hx hb hown (hwd _ wk_1382) dX12_halfOf_121 ?_
            refine lv_goto (tgt := 129) hx hb dX12_halfOf_124 (by decide) ?_
            have hP9 : va_P (dC, dI) classes (wM g c v_lp11522 F_lp11522 rc) H := hP
            exact W.iret (v := (-1999999999)) hx hb hr (fun t ht hW => ⟨⟨(-1999999999), (v_lp11522, F_lp11522, rc), rfl, ⟨hI, rfl, (frC (by decide) hf_lp11522 (fun _ _ => rfl)), hF, trivial⟩, (by show va_P _ _ _ t.heap; rw [ht]; exact hP9)⟩, hS.F ht⟩) hS.2.2 dX12_halfOf_129
        · skip
          have t11538 := cv_nle (a := z11527.toInt) rfl (b := 0) (by decide) c11529
          refine lv_ldcw (v := 1999999999) hx hb hown (hwd _ wk_1380) dX12_halfOf_107 ?_
          refine lv_goto (tgt := 129) hx hb dX12_halfOf_110 (by decide) ?_
          have hP9 : va_P (dC, dI) classes (wM g c v_lp11522 F_lp11522 rc) H := hP
          exact W.iret (v := 1999999999) hx hb hr (fun t ht hW => ⟨⟨1999999999, (v_lp11522, F_lp11522, rc), rfl, ⟨hI, rfl, (frC (by decide) hf_lp11522 (fun _ _ => rfl)), hF, trivial⟩, (by show va_P _ _ _ t.heap; rw [ht]; exact hP9)⟩, hS.F ht⟩) hS.2.2 dX12_halfOf_129
      · skip
        have t11539 := cv_nle (a := (v 14).toInt) rfl (b := x5_lp11522.toInt) rfl c11525
        refine lv_iconst (v := 0) hx hb dX12_halfOf_14 (by decide) ?_
        refine lv_istore (lv' := [(6, .int 0), (5, .int x5_lp11522), (3, .long x3_lp11522), (0, .ref (g 0)), (1, .int p0), (2, .int p1)]) hx hb dX12_halfOf_15 hl (by decide) rfl (fun ls hl => ?_)
        have lp11540 : ∀ (n : Nat) (x6_lp11540 : Int32) (x3_lp11540 : Int64) (v_lp11540 : Nat → Int32) (F_lp11540 : Nat → Nat → Int32) (H : Heap) (locs : List Loc) (ls : Array Slot), (0 ≤ x6_lp11540.toInt) → (2147483648 - x6_lp11540.toInt ≤ (n : Int)) → (∀ k, k ∉ ([] : List Nat) → v_lp11540 k = v_lp11522 k) → IM v_lp11540 F_lp11540 → (∀ k, k ∉ ([30, 31] : List Nat) → F_lp11540 k = F k) → va_P (dC, dI) classes (wM g c v_lp11540 F_lp11540 rc) H → va_S (AM g s.heap.size) s.heap H locs → lv_has ls 7 [(6, .int x6_lp11540), (5, .int x5_lp11522), (3, .long x3_lp11540), (0, .ref (g 0)), (1, .int p0), (2, .int p1)] → W p l e (headSpec (Cond.code yX12_halfOf cX12_halfOf 7 (some .int) :: wA) ({ frames := 5, cells := 0, slots := 0, locals := 200 })).room s m ([.ref (g 0), .int p0, .int p1] : List Value).toArray below meth c0 H locs 0 0 (MQ below (va_Qi (fun (r : Int32) (u : StM) => IM u.1 u.2.1 ∧ u.2.2 = rc ∧ (∀ k, k ∉ ([] : List Nat) → u.1 k = v k) ∧ (∀ k, k ∉ ([30, 31] : List Nat) → u.2.1 k = F k) ∧ True) (BM dC dI g c) (AM g s.heap.size)) ([.ref (g 0), .int p0, .int p1] : List Value).toArray s 0 0 (AM g s.heap.size)) (F0 m 17 ls []) := by
          intro n
          induction n with
          | zero =>
            intro x6_lp11540 x3_lp11540 v_lp11540 F_lp11540 H locs ls t11541 hm hf_lp11540 hI hF hP hS hl
            exfalso
            have := i32_rng x6_lp11540
            have hI1 := hI.1
            omega
          | succ n ih_lp11540 =>
            intro x6_lp11540 x3_lp11540 v_lp11540 F_lp11540 H locs ls t11541 hm hf_lp11540 hI hF hP hS hl
            have rx6_lp11540 := i32_rng x6_lp11540
            refine lv_iload hx hb dX12_halfOf_17 (lv_at hl 0 rfl) ?_
            refine lv_iconst (v := 3) hx hb dX12_halfOf_19 (by decide) ?_
            refine lv_icmp_ge (tgt := 93) hx hb dX12_halfOf_20 (by decide) (fun c11542 => ?_) (fun c11542 => ?_)
            · skip
              have t11543 := cv_le (a := 3) (by decide) (b := x6_lp11540.toInt) rfl c11542
              obtain ⟨z11544, e11545⟩ : ∃ y : Int32, y = x5_lp11522 + 1 := ⟨_, rfl⟩
              try (have t11546 := tadd e11545 rfl (b := 1) (by decide) (by omega))
              refine lv_iinc (v := z11544) (lv' := [(5, .int z11544), (6, .int x6_lp11540), (3, .long x3_lp11540), (0, .ref (g 0)), (1, .int p0), (2, .int p1)]) hx hb dX12_halfOf_93 hl (k := 1) rfl (by rw [e11545]; rfl) (by decide) rfl (fun ls hl => ?_)
              refine lv_goto (tgt := 5) hx hb dX12_halfOf_96 (by decide) ?_
              exact ih_lp11522 z11544 x3_lp11540 v_lp11540 F_lp11540 _ _ _ (by omega) (by omega) (frC (by decide) hf_lp11540 hf_lp11522) hI hF hP hS (lv_sub hl [0, 2, 3, 4, 5] rfl)
            · skip
              have t11547 := cv_nle (a := 3) (by decide) (b := x6_lp11540.toInt) rfl c11542
              refine lv_aload_n hx hb dX12_halfOf_23 rfl (lv_at hl 3 rfl) ?_
              refine va_get (D := (dC, dI)) (ci := 12) (v := .ref (g 13)) (C := RX12) (T := TX12) (N := 63) hx hb hwd inA_X12 hown hK hP 0 rfl rfl 17 (by decide) (hwd _ wk_194) (fun _ h9 => h9) rfl dX12_halfOf_24 ?_
              refine lv_iload hx hb dX12_halfOf_27 (lv_at hl 1 rfl) ?_
              refine va_iald hx hb hK hP 13 12 rfl rfl (i := x5_lp11522) (vin (a := x5_lp11522.toInt) rfl (by omega)) dX12_halfOf_29 ?_
              refine lv_topi (fun z11548 e11549 => ?_)
              have t11550 : 0 ≤ z11548.toInt ∧ z11548.toInt ≤ 12 := by rw [e11549]; exact hI.2 13 _ _ rfl _
              have e11549 : z11548 = F 13 (x5_lp11522 : Int32).toNatClampNeg := e11549.trans (congrFun (hF 13 (by decide)) _)
              refine lv_iload_n hx hb dX12_halfOf_30 rfl (lv_at hl 4 rfl) ?_
              refine lv_icmp_ne (tgt := 87) hx hb dX12_halfOf_31 (by decide) (fun c11551 => ?_) (fun c11551 => ?_)
              · skip
                have t11552 := cv_ne (a := z11548.toInt) rfl (b := p0.toInt) rfl c11551
                obtain ⟨z11553, e11554⟩ : ∃ y : Int32, y = x6_lp11540 + 1 := ⟨_, rfl⟩
                try (have t11555 := tadd e11554 rfl (b := 1) (by decide) (by omega))
                refine lv_iinc (v := z11553) (lv' := [(6, .int z11553), (5, .int x5_lp11522), (3, .long x3_lp11540), (0, .ref (g 0)), (1, .int p0), (2, .int p1)]) hx hb dX12_halfOf_87 hl (k := 0) rfl (by rw [e11554]; rfl) (by decide) rfl (fun ls hl => ?_)
                refine lv_goto (tgt := 17) hx hb dX12_halfOf_90 (by decide) ?_
                exact ih_lp11540 z11553 x3_lp11540 v_lp11540 F_lp11540 _ _ _ (by omega) (by omega) hf_lp11540 hI hF hP hS (lv_sub hl [0, 1, 2, 3, 4, 5] rfl)
              · skip
                have t11556 := cv_eq (a := z11548.toInt) rfl (b := p0.toInt) rfl c11551
                refine lv_aload_n hx hb dX12_halfOf_34 rfl (lv_at hl 3 rfl) ?_
                refine lv_iload hx hb dX12_halfOf_35 (lv_at hl 1 rfl) ?_
                refine lv_iload hx hb dX12_halfOf_37 (lv_at hl 0 rfl) ?_
                have hby1 : F_lp11540 1 = F 1 := hF 1 (by decide)
                have hby11 : F_lp11540 11 = F 11 := hF 11 (by decide)
                refine va_calli (va_runV (As := [.int x5_lp11522, .int x6_lp11540]) (rest := []) ⟨hx, hb, hml, hown, hwd⟩ (c_X12_limitOf l dC dI g c adK adV v_lp11540 F_lp11540 rc H.size x5_lp11522 x6_lp11540 hg hI (by omega) (by omega)) (cwV 2 hwd (gV wk_489 wk_486 wk_487 wk_488 wk_5) rfl rfl rfl (by decide +kernel) ⟨Nat.le_of_ble_eq_true rfl, Nat.le_of_ble_eq_true rfl⟩) ⟨PM.blind, va_recv hK hP (ci := 12) (q0 := 0) rfl rfl, fun U hU hW => ⟨rfl, PM.at hK hE hP hS hU hW⟩⟩ rfl rfl hl.1 rfl (lv_room (Nat.le_of_ble_eq_true rfl)) dX12_halfOf_39 ⟨Nat.le_of_ble_eq_true rfl, Nat.le_of_ble_eq_true rfl⟩) hS (fun q _ h => (freeM hS) q h) (freeM hS) (fun r11557 u t H1 locs ht hvm hw hB hz1 hk1 hS => ?_)
                unfold BM at hB
                rw [ht] at hB
                have hP : va_P (dC, dI) classes (wM g c v_lp11540 F_lp11540 rc) H1 := hB
                replace hw : r11557.toInt = (F_lp11540 1 (limJ (F_lp11540 11) x5_lp11522 x6_lp11540)).toInt := hw
                rw [hby1] at hw
                rw [hby11] at hw
                have hw_r11557 := hw
                clear hw
                clear hz1
                generalize H1 = H at hP hS ⊢
                refine lv_if_le (tgt := 87) hx hb dX12_halfOf_42 (by decide) (fun c11558 => ?_) (fun c11558 => ?_)
                · skip
                  have t11559 := cv_le (a := r11557.toInt) rfl (b := 0) (by decide) c11558
                  obtain ⟨z11560, e11561⟩ : ∃ y : Int32, y = x6_lp11540 + 1 := ⟨_, rfl⟩
                  try (have t11562 := tadd e11561 rfl (b := 1) (by decide) (by omega))
                  refine lv_iinc (v := z11560) (lv' := [(6, .int z11560), (5, .int x5_lp11522), (3, .long x3_lp11540), (0, .ref (g 0)), (1, .int p0), (2, .int p1)]) hx hb dX12_halfOf_87 hl (k := 0) rfl (by rw [e11561]; rfl) (by decide) rfl (fun ls hl => ?_)
                  refine lv_goto (tgt := 17) hx hb dX12_halfOf_90 (by decide) ?_
                  exact ih_lp11540 z11560 x3_lp11540 v_lp11540 F_lp11540 _ _ _ (by omega) (by omega) hf_lp11540 hI hF hP hS (lv_sub hl [0, 1, 2, 3, 4, 5] rfl)
                · skip
                  have t11563 := cv_nle (a := r11557.toInt) rfl (b := 0) (by decide) c11558
                  refine lv_lload_n hx hb dX12_halfOf_45 rfl (lv_at hl 2 rfl) ?_
                  refine lv_aload_n hx hb dX12_halfOf_46 rfl (lv_at hl 3 rfl) ?_
                  refine lv_iload hx hb dX12_halfOf_47 (lv_at hl 1 rfl) ?_
                  refine lv_iload hx hb dX12_halfOf_49 (lv_at hl 0 rfl) ?_
                  refine lv_iload_n hx hb dX12_halfOf_51 rfl (lv_at hl 5 rfl) ?_
                  refine va_calli (va_runV (As := [.int x5_lp11522, .int x6_lp11540, .int p1]) (rest := [.long x3_lp11540]) ⟨hx, hb, hml, hown, hwd⟩ (c_X12_leftOf l dC dI g c adK adV v_lp11540 F_lp11540 rc H.size x5_lp11522 x6_lp11540 p1 hg hI (by omega) (by omega) (JL.to hL (show v_lp11540 31 = v 31 from (hf_lp11540 31 (by decide)).trans (hf_lp11522 31 (by decide))) (hF 28 (by decide)) (hF 29 (by decide)) (hF 27 (by decide)))) (cwV 3 hwd (gV wk_493 wk_490 wk_491 wk_492 wk_5) rfl rfl rfl (by decide +kernel) ⟨Nat.le_of_ble_eq_true rfl, Nat.le_of_ble_eq_true rfl⟩) ⟨PM.blind, va_recv hK hP (ci := 12) (q0 := 0) rfl rfl, fun U hU hW => ⟨rfl, PM.at hK hE hP hS hU hW⟩⟩ rfl rfl hl.1 rfl (lv_room (Nat.le_of_ble_eq_true rfl)) dX12_halfOf_52 ⟨Nat.le_of_ble_eq_true rfl, Nat.le_of_ble_eq_true rfl⟩) hS (fun q _ h => (freeM hS) q h) (freeM hS) (fun r11564 u t H1 locs ht hvm hw hB hz1 hk1 hS => ?_)
                  unfold BM at hB
                  rw [ht] at hB
                  obtain ⟨v11565, F11566, rc9⟩ := u
                  obtain ⟨hI, hrc, hf11567, hG11568, hw⟩ := hw
                  dsimp only at hI hrc hB hf11567 hG11568 hw
                  have hF := frCF (by decide) hG11568 hF
                  rw [hrc] at hB
                  have hP : va_P (dC, dI) classes (wM g c v11565 F11566 rc) H1 := hB
                  clear hz1
                  generalize H1 = H at hP hS ⊢
                  have rr_r11564 := i32_rng r11564
                  refine lv_aload_n hx hb dX12_halfOf_55 rfl (lv_at hl 3 rfl) ?_
                  refine lv_iload hx hb dX12_halfOf_56 (lv_at hl 1 rfl) ?_
                  refine lv_iload hx hb dX12_halfOf_58 (lv_at hl 0 rfl) ?_
                  have hby1 : F11566 1 = F 1 := hF 1 (by decide)
                  have hby11 : F11566 11 = F 11 := hF 11 (by decide)
                  refine va_calli (va_runV (As := [.int x5_lp11522, .int x6_lp11540]) (rest := [.int r11564, .long x3_lp11540]) ⟨hx, hb, hml, hown, hwd⟩ (c_X12_limitOf l dC dI g c adK adV v11565 F11566 rc H.size x5_lp11522 x6_lp11540 hg hI (by omega) (by omega)) (cwV 2 hwd (gV wk_489 wk_486 wk_487 wk_488 wk_5) rfl rfl rfl (by decide +kernel) ⟨Nat.le_of_ble_eq_true rfl, Nat.le_of_ble_eq_true rfl⟩) ⟨PM.blind, va_recv hK hP (ci := 12) (q0 := 0) rfl rfl, fun U hU hW => ⟨rfl, PM.at hK hE hP hS hU hW⟩⟩ rfl rfl hl.1 rfl (lv_room (Nat.le_of_ble_eq_true rfl)) dX12_halfOf_60 ⟨Nat.le_of_ble_eq_true rfl, Nat.le_of_ble_eq_true rfl⟩) hS (fun q _ h => (freeM hS) q h) (freeM hS) (fun r11569 u t H1 locs ht hvm hw hB hz1 hk1 hS => ?_)
                  unfold BM at hB
                  rw [ht] at hB
                  have hP : va_P (dC, dI) classes (wM g c v11565 F11566 rc) H1 := hB
                  replace hw : r11569.toInt = (F11566 1 (limJ (F11566 11) x5_lp11522 x6_lp11540)).toInt := hw
                  rw [hby1] at hw
                  rw [hby11] at hw
                  have hw_r11569 := hw
                  clear hw
                  clear hz1
                  generalize H1 = H at hP hS ⊢
                  refine lv_iconst (v := 2) hx hb dX12_halfOf_63 (by decide) ?_
                  refine lv_idiv hx hb dX12_halfOf_64 (by decide) ?_
                  refine lv_topi (fun z11570 e11571 => ?_)
                  refine lv_isub hx hb dX12_halfOf_65 ?_
                  refine lv_topi (fun z11573 e11574 => ?_)
                  try (have t11575 := tsub e11574 (a := r11564.toInt) rfl (b := z11570.toInt) rfl (by omega))
                  refine lv_i2l hx hb dX12_halfOf_66 rfl ?_
                  refine lv_topl (fun z11576 e11577 => ?_)
                  refine lv_aload_n hx hb dX12_halfOf_67 rfl (lv_at hl 3 rfl) ?_
                  refine va_get (D := (dC, dI)) (ci := 12) (v := .ref (g 2)) (C := RX12) (T := TX12) (N := 63) hx hb hwd inA_X12 hown hK hP 0 rfl rfl 4 (by decide) (hwd _ wk_183) (fun _ h9 => h9) rfl dX12_halfOf_68 ?_
                  refine lv_aload_n hx hb dX12_halfOf_71 rfl (lv_at hl 3 rfl) ?_
                  refine va_get (D := (dC, dI)) (ci := 12) (v := .ref (g 11)) (C := RX12) (T := TX12) (N := 63) hx hb hwd inA_X12 hown hK hP 0 rfl rfl 15 (by decide) (hwd _ wk_192) (fun _ h9 => h9) rfl dX12_halfOf_72 ?_
                  refine lv_iload hx hb dX12_halfOf_75 (lv_at hl 1 rfl) ?_
                  refine va_iald hx hb hK hP 11 10 rfl rfl (i := x5_lp11522) (vin (a := x5_lp11522.toInt) rfl (by omega)) dX12_halfOf_77 ?_
                  refine lv_topi (fun z11578 e11579 => ?_)
                  have t11580 : 0 ≤ z11578.toInt ∧ z11578.toInt ≤ 9 := by rw [e11579]; exact hI.2 11 _ _ rfl _
                  have e11579 : z11578 = F 11 (x5_lp11522 : Int32).toNatClampNeg := e11579.trans (congrFun (hF 11 (by decide)) _)
                  refine va_iald hx hb hK hP 2 1 rfl rfl (i := z11578) (vin (a := z11578.toInt) rfl (by omega)) dX12_halfOf_78 ?_
                  refine lv_topi (fun z11581 e11582 => ?_)
                  have e11582 : z11581 = F 2 (z11578 : Int32).toNatClampNeg := e11582.trans (congrFun (hF 2 (by decide)) _)
                  refine lv_i2l hx hb dX12_halfOf_79 rfl ?_
                  refine lv_topl (fun z11583 e11584 => ?_)
                  refine lv_lmul hx hb dX12_halfOf_80 ?_
                  refine lv_topl (fun z11585 e11586 => ?_)
                  refine lv_ldc2 (v := 100) hx hb hown (hwd _ wk_495) dX12_halfOf_81 ?_
                  refine lv_ldiv hx hb dX12_halfOf_84 (by decide) ?_
                  refine lv_topl (fun z11587 e11588 => ?_)
                  refine lv_ladd hx hb dX12_halfOf_85 ?_
                  refine lv_topl (fun z11589 e11590 => ?_)
                  refine lv_lstore_n (lv' := [(3, .long z11589), (6, .int x6_lp11540), (5, .int x5_lp11522), (0, .ref (g 0)), (1, .int p0), (2, .int p1)]) hx hb dX12_halfOf_86 rfl hl (by decide) rfl (fun ls hl => ?_)
                  obtain ⟨z11591, e11592⟩ : ∃ y : Int32, y = x6_lp11540 + 1 := ⟨_, rfl⟩
                  try (have t11593 := tadd e11592 rfl (b := 1) (by decide) (by omega))
                  refine lv_iinc (v := z11591) (lv' := [(6, .int z11591), (3, .long z11589), (5, .int x5_lp11522), (0, .ref (g 0)), (1, .int p0), (2, .int p1)]) hx hb dX12_halfOf_87 hl (k := 1) rfl (by rw [e11592]; rfl) (by decide) rfl (fun ls hl => ?_)
                  refine lv_goto (tgt := 17) hx hb dX12_halfOf_90 (by decide) ?_
                  exact ih_lp11540 z11591 z11589 v11565 F11566 _ _ _ (by omega) (by omega) (frC (by decide) hf11567 hf_lp11540) hI hF hP hS (lv_sub hl [0, 2, 1, 3, 4, 5] rfl)
        obtain ⟨n9, hn9⟩ : ∃ n : Nat, 2147483648 - 0 ≤ (n : Int) := ⟨((2147483648 - 0 : Int)).toNat, by omega⟩
        exact lp11540 n9 0 x3_lp11522 v_lp11522 F_lp11522 H _ ls (by have : (0 : Int32).toInt = 0 := (by decide); omega) (by have : (0 : Int32).toInt = 0 := (by decide); omega) (fun _ _ => rfl) hI hF hP hS hl
  obtain ⟨n9, hn9⟩ : ∃ n : Nat, 2147483648 - 0 ≤ (n : Int) := ⟨((2147483648 - 0 : Int)).toNat, by omega⟩
  exact lp11522 n9 0 0 v F H _ ls (by have : (0 : Int32).toInt = 0 := (by decide); omega) (by have : (0 : Int32).toInt = 0 := (by decide); omega) (fun _ _ => rfl) hI hF hP hS hl
set_option maxHeartbeats 8000000 in
set_option maxRecDepth 100000 in
theorem c_X12_half (l : Launch) (dC : Nat → ClassId) (dI : Nat → Nat → Nat) (g : Nat → Nat) (c : Nat → ClassId) (adK adV : Nat → Nat) (v : Nat → Int32) (F : Nat → Nat → Int32) (rc sz : Nat) (p0 : Int32) (p1 : Int32) (hg : injM g) (hI : IM v F) (hL : JL (v 31) (F 28) (F 29) (F 27)) : Met l yX12_half (Cond.code yX12_half cX12_half 3 (some .int) :: wA) ({ frames := 6, cells := 0, slots := 0, locals := 240 }) (va_Pc [.ref (g 0), .int p0, .int p1] (PM dC dI g c adK adV v F rc sz)) (va_Qi (fun (r : Int32) (u : StM) => IM u.1 u.2.1 ∧ u.2.2 = rc ∧ (∀ k, k ∉ ([] : List Nat) → u.1 k = v k) ∧ (∀ k, k ∉ ([30, 31] : List Nat) → u.2.1 k = F k) ∧ True) (BM dC dI g c) (AM g sz)) 0 0 (AM g sz) := by
  refine Met.ofW (cc := cX12_half) (maxL := 3) (ret := (some .int)) (by decide) rfl ?_
  intro p e s m args below meth c0 s₁ B hml hv
  obtain ⟨rfl, hsz, hP, hK, hE⟩ := hv
  have hx := B.exec
  have hb := B.bytes
  have hr := B.returns
  have hts := atoms_spec (ws := Cond.code yX12_half cX12_half 3 (some .int) :: wA) B.pre
  have hwd : ∀ w ∈ wA, w.before _ s = true := fun w h => hts w (List.mem_cons_of_mem _ h)
  have hown : s.vm.findClass RX12 = some m.cls := findClass_of_methodNamed B.named
  have hlocks := B.notSynchronized
  subst hsz
  have hl := lv_entry ([.ref (g 0), .int p0, .int p1]) (n := 3) (Nat.le_of_ble_eq_true rfl)
  rw [lg_entry_eq]
  generalize (lg_sl ([.ref (g 0), .int p0, .int p1]) ++ List.replicate (3 - (lg_sl ([.ref (g 0), .int p0, .int p1])).length) Slot.unset).toArray = ls at hl ⊢
  have hl : lv_has ls 3 [(0, .ref (g 0)), (1, .int p0), (2, .int p1)] := hl
  obtain ⟨H, eH⟩ : ∃ z, z = s.heap := ⟨_, rfl⟩
  have hP : va_P (dC, dI) classes (wM g c v F rc) H := by rw [eH]; exact hP
  have hS : va_S (AM g s.heap.size) s.heap H [] := by rw [eH]; exact va_S.rf
  refine my_heap eH ?_
  have hF : ∀ k, k ∉ ([30, 31] : List Nat) → F k = F k := fun _ _ => rfl
  have rp0 := i32_rng p0
  have rp1 := i32_rng p1
  have hb31 : 0 ≤ (v 31).toInt ∧ (v 31).toInt ≤ 10 := hI.1 31 _ _ rfl
  refine lv_aload_n hx hb dX12_half_0 rfl (lv_at hl 0 rfl) ?_
  refine lv_iload_n hx hb dX12_half_1 rfl (lv_at hl 1 rfl) ?_
  have t11608 : 0 ≤ (v 6).toInt ∧ (v 6).toInt ≤ 10 := hI.1 6 _ _ rfl
  refine va_calli (va_runV (As := [.int p0]) (rest := []) ⟨hx, hb, hml, hown, hwd⟩ (c_X12_isPlane l dC dI g c adK adV v F rc H.size p0 hg hI ) (cwV 1 hwd (gV wk_305 wk_302 wk_303 wk_304 wk_5) rfl rfl rfl (by decide +kernel) ⟨Nat.le_of_ble_eq_true rfl, Nat.le_of_ble_eq_true rfl⟩) ⟨PM.blind, va_recv hK hP (ci := 12) (q0 := 0) rfl rfl, fun U hU hW => ⟨rfl, PM.at hK hE hP hS hU hW⟩⟩ rfl rfl hl.1 rfl (lv_room (Nat.le_of_ble_eq_true rfl)) dX12_half_2 ⟨Nat.le_of_ble_eq_true rfl, Nat.le_of_ble_eq_true rfl⟩) hS (fun q _ h => (freeM hS) q h) (freeM hS) (fun r11609 u t H1 locs ht hvm hw hB hz1 hk1 hS => ?_)
  unfold BM at hB
  rw [ht] at hB
  have hP : va_P (dC, dI) classes (wM g c v F rc) H1 := hB
  replace hw : (r11609.toInt = 1 ∧ 0 ≤ p0.toInt ∧ p0.toInt < (v 6).toInt) ∨ (r11609.toInt = 0 ∧ (p0.toInt < 0 ∨ (v 6).toInt ≤ p0.toInt)) := hw
  have hw_r11609 := hw
  clear hw
  clear hz1
  generalize H1 = H at hP hS ⊢
  refine lv_if_eq (tgt := 24) hx hb dX12_half_5 (by decide) (fun c11610 => ?_) (fun c11610 => ?_)
  · skip
    have t11611 := cv_eq (a := r11609.toInt) rfl (b := 0) (by decide) c11610
    refine lv_ldc (v := (-2000000000)) hx hb hown (hwd _ wk_542) dX12_half_24 ?_
    have hP9 : va_P (dC, dI) classes (wM g c v F rc) H := hP
    exact W.iret (v := (-2000000000)) hx hb hr (fun t ht hW => ⟨⟨(-2000000000), (v, F, rc), rfl, ⟨hI, rfl, (fun _ _ => rfl), hF, trivial⟩, (by show va_P _ _ _ t.heap; rw [ht]; exact hP9)⟩, hS.F ht⟩) hS.2.2 dX12_half_26
  · skip
    have t11612 := cv_ne (a := r11609.toInt) rfl (b := 0) (by decide) c11610
    refine lv_iload_n hx hb dX12_half_8 rfl (lv_at hl 2 rfl) ?_
    refine va_calli (va_runS (As := [.int p1]) (rest := []) ⟨hx, hb, hml, hown, hwd⟩ (c_X12_isDay l dC dI g c adK adV v F rc H.size p1 hg hI ) (va_cwS 1 hwd (gT wk_556 wk_554 wk_555 wk_5) rfl rfl rfl (by decide +kernel) ⟨Nat.le_of_ble_eq_true rfl, Nat.le_of_ble_eq_true rfl⟩) ⟨PM.blind, fun U hU hW => ⟨rfl, PM.at hK hE hP hS hU hW⟩⟩ rfl rfl hl.1 rfl (lv_room (Nat.le_of_ble_eq_true rfl)) dX12_half_9 ⟨Nat.le_of_ble_eq_true rfl, Nat.le_of_ble_eq_true rfl⟩) hS (fun q _ h => (freeM hS) q h) (freeM hS) (fun r11613 u t H1 locs ht hvm hw hB hz1 hk1 hS => ?_)
    unfold BM at hB
    rw [ht] at hB
    have hP : va_P (dC, dI) classes (wM g c v F rc) H1 := hB
    have hw_r11613 : (r11613.toInt = 1 ∧ 0 ≤ p1.toInt ∧ p1.toInt ≤ 9999) ∨ (r11613.toInt = 0 ∧ (p1.toInt < 0 ∨ 9999 < p1.toInt)) := hw
    clear hw
    clear hz1
    generalize H1 = H at hP hS ⊢
    refine lv_if_eq (tgt := 24) hx hb dX12_half_12 (by decide) (fun c11614 => ?_) (fun c11614 => ?_)
    · skip
      have t11615 := cv_eq (a := r11613.toInt) rfl (b := 0) (by decide) c11614
      refine lv_ldc (v := (-2000000000)) hx hb hown (hwd _ wk_542) dX12_half_24 ?_
      have hP9 : va_P (dC, dI) classes (wM g c v F rc) H := hP
      exact W.iret (v := (-2000000000)) hx hb hr (fun t ht hW => ⟨⟨(-2000000000), (v, F, rc), rfl, ⟨hI, rfl, (fun _ _ => rfl), hF, trivial⟩, (by show va_P _ _ _ t.heap; rw [ht]; exact hP9)⟩, hS.F ht⟩) hS.2.2 dX12_half_26
    · skip
      have t11616 := cv_ne (a := r11613.toInt) rfl (b := 0) (by decide) c11614
      refine lv_aload_n hx hb dX12_half_15 rfl (lv_at hl 0 rfl) ?_
      refine lv_iload_n hx hb dX12_half_16 rfl (lv_at hl 1 rfl) ?_
      refine lv_iload_n hx hb dX12_half_17 rfl (lv_at hl 2 rfl) ?_
      refine va_calli (va_runV (As := [.int p0, .int p1]) (rest := []) ⟨hx, hb, hml, hown, hwd⟩ (c_X12_halfOf l dC dI g c adK adV v F rc H.size p0 p1 hg hI (JL.to hL (show v 31 = v 31 from rfl) rfl rfl rfl)) (cwV 2 hwd (gV wk_1378 wk_1375 wk_1376 wk_1377 wk_5) rfl rfl rfl (by decide +kernel) ⟨Nat.le_of_ble_eq_true rfl, Nat.le_of_ble_eq_true rfl⟩) ⟨PM.blind, va_recv hK hP (ci := 12) (q0 := 0) rfl rfl, fun U hU hW => ⟨rfl, PM.at hK hE hP hS hU hW⟩⟩ rfl rfl hl.1 rfl (lv_room (Nat.le_of_ble_eq_true rfl)) dX12_half_18 ⟨Nat.le_of_ble_eq_true rfl, Nat.le_of_ble_eq_true rfl⟩) hS (fun q _ h => (freeM hS) q h) (freeM hS) (fun r11617 u t H1 locs ht hvm hw hB hz1 hk1 hS => ?_)
      unfold BM at hB
      rw [ht] at hB
      obtain ⟨v11618, F11619, rc9⟩ := u
      obtain ⟨hI, hrc, hf11620, hG11621, hw⟩ := hw
      dsimp only at hI hrc hB hf11620 hG11621 hw
      have hF := frCF (by decide) hG11621 hF
      rw [hrc] at hB
      have hP : va_P (dC, dI) classes (wM g c v11618 F11619 rc) H1 := hB
      clear hz1
      generalize H1 = H at hP hS ⊢
      have rr_r11617 := i32_rng r11617
      refine lv_goto (tgt := 26) hx hb dX12_half_21 (by decide) ?_
      have hP9 : va_P (dC, dI) classes (wM g c v11618 F11619 rc) H := hP
      exact W.iret (v := r11617) hx hb hr (fun t ht hW => ⟨⟨r11617, (v11618, F11619, rc), rfl, ⟨hI, rfl, (frC (by decide) hf11620 (fun _ _ => rfl)), hF, trivial⟩, (by show va_P _ _ _ t.heap; rw [ht]; exact hP9)⟩, hS.F ht⟩) hS.2.2 dX12_half_26
