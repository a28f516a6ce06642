def limJ (K : Nat → Int32) (i m : Int32) : Nat := (3 * K i.toNatClampNeg + m).toNatClampNeg
set_option maxHeartbeats 8000000 in
set_option maxRecDepth 100000 in
theorem c_X12_lostBy (l : Launch) (dC : Nat → ClassId) (dI : Nat → Nat → Nat) (g : Nat → Nat) (c : Nat → ClassId) (adK adV : Nat → Nat) (v : Nat → Int32) (F : Nat → Nat → Int32) (rc sz : Nat) (p0 : Int32) (p1 : Int32) (hg : injM g) (hI : IM v F) (h0 : 0 ≤ p0.toInt ∧ p0.toInt ≤ 499) (hL : JL (v 31) (F 28) (F 29) (F 27)) : Met l yX12_lostBy (Cond.code yX12_lostBy cX12_lostBy 6 (some .int) :: wA) ({ frames := 3, cells := 0, slots := 0, locals := 120 }) (va_Pc [.ref (g 0), .int p0, .int p1] (PM dC dI g c adK adV v F rc sz)) (va_Qi (fun (r : Int32) (u : StM) => IM u.1 u.2.1 ∧ u.2.2 = rc ∧ (∀ k, k ∉ ([] : List Nat) → u.1 k = v k) ∧ (∀ k, k ∉ ([30, 31] : List Nat) → u.2.1 k = F k) ∧ 0 ≤ r.toInt ∧ r.toInt ≤ 100) (BM dC dI g c) (AM g sz)) 0 0 (AM g sz) := by
  refine Met.ofW (cc := cX12_lostBy) (maxL := 6) (ret := (some .int)) (by decide) rfl ?_
  intro p e s m args below meth c0 s₁ B hml hv
  obtain ⟨rfl, hsz, hP, hK, hE⟩ := hv
  have hx := B.exec
  have hb := B.bytes
  have hr := B.returns
  have hts := atoms_spec (ws := Cond.code yX12_lostBy cX12_lostBy 6 (some .int) :: wA) B.pre
  have hwd : ∀ w ∈ wA, w.before _ s = true := fun w h => hts w (List.mem_cons_of_mem _ h)
  have hown : s.vm.findClass RX12 = some m.cls := findClass_of_methodNamed B.named
  have hlocks := B.notSynchronized
  subst hsz
  have hl := lv_entry ([.ref (g 0), .int p0, .int p1]) (n := 6) (Nat.le_of_ble_eq_true rfl)
  rw [lg_entry_eq]
  generalize (lg_sl ([.ref (g 0), .int p0, .int p1]) ++ List.replicate (6 - (lg_sl ([.ref (g 0), .int p0, .int p1])).length) Slot.unset).toArray = ls at hl ⊢
  have hl : lv_has ls 6 [(0, .ref (g 0)), (1, .int p0), (2, .int p1)] := hl
  obtain ⟨H, eH⟩ : ∃ z, z = s.heap := ⟨_, rfl⟩
  have hP : va_P (dC, dI) classes (wM g c v F rc) H := by rw [eH]; exact hP
  have hS : va_S (AM g s.heap.size) s.heap H [] := by rw [eH]; exact va_S.rf
  refine my_heap eH ?_
  have hF : ∀ k, k ∉ ([30, 31] : List Nat) → F k = F k := fun _ _ => rfl
  have rp0 := i32_rng p0
  have rp1 := i32_rng p1
  have hb31 : 0 ≤ (v 31).toInt ∧ (v 31).toInt ≤ 10 := hI.1 31 _ _ rfl
  refine lv_aload_n hx hb dX12_lostBy_0 rfl (lv_at hl 0 rfl) ?_
  refine va_get (D := (dC, dI)) (ci := 12) (v := .int (v 31)) (C := RX12) (T := TX12) (N := 63) hx hb hwd inA_X12 hown hK hP 0 rfl rfl 31 (by decide) (hwd _ wk_505) (fun _ h9 => h9) rfl dX12_lostBy_1 ?_
  have t13140 : 0 ≤ (v 31).toInt ∧ (v 31).toInt ≤ 10 := hI.1 31 _ _ rfl
  refine lv_iconst (v := 1) hx hb dX12_lostBy_4 (by decide) ?_
  refine lv_isub hx hb dX12_lostBy_5 ?_
  refine lv_topi (fun z13141 e13142 => ?_)
  try (have t13143 := tsub e13142 (a := (v 31).toInt) rfl (b := 1) (by decide) (by omega))
  refine lv_istore_n (lv' := [(3, .int z13141), (0, .ref (g 0)), (1, .int p0), (2, .int p1)]) hx hb dX12_lostBy_6 rfl hl (by decide) rfl (fun ls hl => ?_)
  have lp13144 : ∀ (n : Nat) (x3_lp13144 : Int32) (v_lp13144 : Nat → Int32) (F_lp13144 : Nat → Nat → Int32) (H : Heap) (locs : List Loc) (ls : Array Slot), (-1 ≤ x3_lp13144.toInt) → (x3_lp13144.toInt ≤ (v 31).toInt - 1) → (x3_lp13144.toInt + 2 ≤ (n : Int)) → (∀ k, k ∉ ([] : List Nat) → v_lp13144 k = v k) → IM v_lp13144 F_lp13144 → (∀ k, k ∉ ([30, 31] : List Nat) → F_lp13144 k = F k) → va_P (dC, dI) classes (wM g c v_lp13144 F_lp13144 rc) H → va_S (AM g s.heap.size) s.heap H locs → lv_has ls 6 [(3, .int x3_lp13144), (0, .ref (g 0)), (1, .int p0), (2, .int p1)] → W p l e (headSpec (Cond.code yX12_lostBy cX12_lostBy 6 (some .int) :: wA) ({ frames := 3, cells := 0, slots := 0, locals := 120 })).room s m ([.ref (g 0), .int p0, .int p1] : List Value).toArray below meth c0 H locs 0 0 (MQ below (va_Qi (fun (r : Int32) (u : StM) => IM u.1 u.2.1 ∧ u.2.2 = rc ∧ (∀ k, k ∉ ([] : List Nat) → u.1 k = v k) ∧ (∀ k, k ∉ ([30, 31] : List Nat) → u.2.1 k = F k) ∧ 0 ≤ r.toInt ∧ r.toInt ≤ 100) (BM dC dI g c) (AM g s.heap.size)) ([.ref (g 0), .int p0, .int p1] : List Value).toArray s 0 0 (AM g s.heap.size)) (F0 m 7 ls []) := by
    intro n
    induction n with
    | zero =>
      intro x3_lp13144 v_lp13144 F_lp13144 H locs ls t13145 t13146 hm hf_lp13144 hI hF hP hS hl
      exfalso
      have := i32_rng x3_lp13144
      have hI1 := hI.1
      omega
    | succ n ih_lp13144 =>
      intro x3_lp13144 v_lp13144 F_lp13144 H locs ls t13145 t13146 hm hf_lp13144 hI hF hP hS hl
      have rx3_lp13144 := i32_rng x3_lp13144
      refine lv_iload_n hx hb dX12_lostBy_7 rfl (lv_at hl 0 rfl) ?_
      refine lv_if_lt (tgt := 42) hx hb dX12_lostBy_8 (by decide) (fun c13147 => ?_) (fun c13147 => ?_)
      · skip
        have t13148 := cv_lt (a := x3_lp13144.toInt) rfl (b := 0) (by decide) c13147
        refine lv_iload_n hx hb dX12_lostBy_42 rfl (lv_at hl 0 rfl) ?_
        refine lv_if_ge (tgt := 48) hx hb dX12_lostBy_43 (by decide) (fun c13149 => ?_) (fun c13149 => ?_)
        · skip
          have t13150 := cv_le (a := 0) (by decide) (b := x3_lp13144.toInt) rfl c13149
          refine lv_iconst (v := 0) hx hb dX12_lostBy_48 (by decide) ?_
          refine lv_istore (lv' := [(4, .int 0), (3, .int x3_lp13144), (0, .ref (g 0)), (1, .int p0), (2, .int p1)]) hx hb dX12_lostBy_49 hl (by decide) rfl (fun ls hl => ?_)
          refine lv_iconst (v := 0) hx hb dX12_lostBy_51 (by decide) ?_
          refine lv_istore (lv' := [(5, .int 0), (4, .int 0), (3, .int x3_lp13144), (0, .ref (g 0)), (1, .int p0), (2, .int p1)]) hx hb dX12_lostBy_52 hl (by decide) rfl (fun ls hl => ?_)
          have lp13151 : ∀ (n : Nat) (x5_lp13151 : Int32) (x4_lp13151 : Int32) (v_lp13151 : Nat → Int32) (F_lp13151 : Nat → Nat → Int32) (H : Heap) (locs : List Loc) (ls : Array Slot), (0 ≤ x5_lp13151.toInt) → (2147483648 - x5_lp13151.toInt ≤ (n : Int)) → (∀ k, k ∉ ([] : List Nat) → v_lp13151 k = v_lp13144 k) → IM v_lp13151 F_lp13151 → (∀ k, k ∉ ([30, 31] : List Nat) → F_lp13151 k = F k) → va_P (dC, dI) classes (wM g c v_lp13151 F_lp13151 rc) H → va_S (AM g s.heap.size) s.heap H locs → lv_has ls 6 [(5, .int x5_lp13151), (4, .int x4_lp13151), (3, .int x3_lp13144), (0, .ref (g 0)), (1, .int p0), (2, .int p1)] → W p l e (headSpec (Cond.code yX12_lostBy cX12_lostBy 6 (some .int) :: wA) ({ frames := 3, cells := 0, slots := 0, locals := 120 })).room s m ([.ref (g 0), .int p0, .int p1] : List Value).toArray below meth c0 H locs 0 0 (MQ below (va_Qi (fun (r : Int32) (u : StM) => IM u.1 u.2.1 ∧ u.2.2 = rc ∧ (∀ k, k ∉ ([] : List Nat) → u.1 k = v k) ∧ (∀ k, k ∉ ([30, 31] : List Nat) → u.2.1 k = F k) ∧ 0 ≤ r.toInt ∧ r.toInt ≤ 100) (BM dC dI g c) (AM g s.heap.size)) ([.ref (g 0), .int p0, .int p1] : List Value).toArray s 0 0 (AM g s.heap.size)) (F0 m 54 ls []) := by
            intro n
            induction n with
            | zero =>
              intro x5_lp13151 x4_lp13151 v_lp13151 F_lp13151 H locs ls t13152 hm hf_lp13151 hI hF hP hS hl
              exfalso
              have := i32_rng x5_lp13151
              have := i32_rng x4_lp13151
              have hI1 := hI.1
              omega
            | succ n ih_lp13151 =>
              intro x5_lp13151 x4_lp13151 v_lp13151 F_lp13151 H locs ls t13152 hm hf_lp13151 hI hF hP hS hl
              have rx5_lp13151 := i32_rng x5_lp13151
              have rx4_lp13151 := i32_rng x4_lp13151
              refine lv_iload hx hb dX12_lostBy_54 (lv_at hl 0 rfl) ?_
              refine lv_aload_n hx hb dX12_lostBy_56 rfl (lv_at hl 3 rfl) ?_
              refine va_get (D := (dC, dI)) (ci := 12) (v := .int (v_lp13151 19)) (C := RX12) (T := TX12) (N := 63) hx hb hwd inA_X12 hown hK hP 0 rfl rfl 19 (by decide) (hwd _ wk_494) (fun _ h9 => h9) rfl dX12_lostBy_57 ?_
              refine my_top (v := v 19) ((hf_lp13151 19 (by decide)).trans (hf_lp13144 19 (by decide))) ?_
              have t13153 : 0 ≤ (v 19).toInt ∧ (v 19).toInt ≤ 500 := by have h9 := hI.1 19 _ _ rfl; rw [show v_lp13151 19 = v 19 from (hf_lp13151 19 (by decide)).trans (hf_lp13144 19 (by decide))] at h9; exact h9
              refine lv_icmp_ge (tgt := 152) hx hb dX12_lostBy_60 (by decide) (fun c13154 => ?_) (fun c13154 => ?_)
              · skip
                have t13155 := cv_le (a := (v 19).toInt) rfl (b := x5_lp13151.toInt) rfl c13154
                refine lv_aload_n hx hb dX12_lostBy_152 rfl (lv_at hl 3 rfl) ?_
                refine va_get (D := (dC, dI)) (ci := 12) (v := .ref (g 31)) (C := RX12) (T := TX12) (N := 63) hx hb hwd inA_X12 hown hK hP 0 rfl rfl 44 (by decide) (hwd _ wk_213) (fun _ h9 => h9) rfl dX12_lostBy_153 ?_
                refine lv_iconst (v := 0) hx hb dX12_lostBy_156 (by decide) ?_
                refine lv_aload_n hx hb dX12_lostBy_157 rfl (lv_at hl 3 rfl) ?_
                refine va_get (D := (dC, dI)) (ci := 12) (v := .ref (g 18)) (C := RX12) (T := TX12) (N := 63) hx hb hwd inA_X12 hown hK hP 0 rfl rfl 23 (by decide) (hwd _ wk_199) (fun _ h9 => h9) rfl dX12_lostBy_158 ?_
                refine lv_iload_n hx hb dX12_lostBy_161 rfl (lv_at hl 4 rfl) ?_
                refine va_iald hx hb hK hP 18 17 rfl rfl (i := p0) (vin (a := p0.toInt) rfl (by omega)) dX12_lostBy_162 ?_
                refine lv_topi (fun z13156 e13157 => ?_)
                have e13157 : z13156 = F 18 (p0 : Int32).toNatClampNeg := e13157.trans (congrFun (hF 18 (by decide)) _)
                refine lv_aload_n hx hb dX12_lostBy_163 rfl (lv_at hl 3 rfl) ?_
                refine va_get (D := (dC, dI)) (ci := 12) (v := .ref (g 17)) (C := RX12) (T := TX12) (N := 63) hx hb hwd inA_X12 hown hK hP 0 rfl rfl 22 (by decide) (hwd _ wk_198) (fun _ h9 => h9) rfl dX12_lostBy_164 ?_
                refine lv_iload_n hx hb dX12_lostBy_167 rfl (lv_at hl 4 rfl) ?_
                refine va_iald hx hb hK hP 17 16 rfl rfl (i := p0) (vin (a := p0.toInt) rfl (by omega)) dX12_lostBy_168 ?_
                refine lv_topi (fun z13158 e13159 => ?_)
                have e13159 : z13158 = F 17 (p0 : Int32).toNatClampNeg := e13159.trans (congrFun (hF 17 (by decide)) _)
                refine lv_isub hx hb dX12_lostBy_169 ?_
                refine lv_topi (fun z13160 e13161 => ?_)
                try (have t13162 := tsub e13161 (a := z13156.toInt) rfl (b := z13158.toInt) rfl (by omega))
                refine va_iast hx hb hK hP (DM hg) hS 31 30 rfl rfl (i := 0) (x := z13160) (vin (a := 0) (by decide) (by omega)) dX12_lostBy_170 (fun H locs hP _ hS => ?_)
                have hP := va_P_eq (sM_31 g c _ _ _ _) hP
                have hI := IM.store0 hI 31 (0 : Int32).toNatClampNeg z13160 rfl
                have hF := frUF (k := 31) (f := upd (F_lp13151 31) (0 : Int32).toNatClampNeg z13160) (by decide) hF
                have hP : va_P (dC, dI) classes (wM g c v_lp13151 (va_up F_lp13151 31 (upd (F_lp13151 31) (0 : Int32).toNatClampNeg z13160)) rc) H := hP
                generalize (va_up F_lp13151 31 (upd (F_lp13151 31) (0 : Int32).toNatClampNeg z13160)) = F13163 at hP hI hF
                refine lv_aload_n hx hb dX12_lostBy_171 rfl (lv_at hl 3 rfl) ?_
                refine va_get (D := (dC, dI)) (ci := 12) (v := .ref (g 31)) (C := RX12) (T := TX12) (N := 63) hx hb hwd inA_X12 hown hK hP 0 rfl rfl 44 (by decide) (hwd _ wk_213) (fun _ h9 => h9) rfl dX12_lostBy_172 ?_
                refine lv_iconst (v := 1) hx hb dX12_lostBy_175 (by decide) ?_
                refine lv_aload_n hx hb dX12_lostBy_176 rfl (lv_at hl 3 rfl) ?_
                refine va_get (D := (dC, dI)) (ci := 12) (v := .ref (g 20)) (C := RX12) (T := TX12) (N := 63) hx hb hwd inA_X12 hown hK hP 0 rfl rfl 25 (by decide) (hwd _ wk_201) (fun _ h9 => h9) rfl dX12_lostBy_177 ?_
                refine lv_iload_n hx hb dX12_lostBy_180 rfl (lv_at hl 4 rfl) ?_
                refine va_iald hx hb hK hP 20 19 rfl rfl (i := p0) (vin (a := p0.toInt) rfl (by omega)) dX12_lostBy_181 ?_
                refine lv_topi (fun z13164 e13165 => ?_)
                have e13165 : z13164 = F 20 (p0 : Int32).toNatClampNeg := e13165.trans (congrFun (hF 20 (by decide)) _)
                refine lv_aload_n hx hb dX12_lostBy_182 rfl (lv_at hl 3 rfl) ?_
                refine va_get (D := (dC, dI)) (ci := 12) (v := .ref (g 19)) (C := RX12) (T := TX12) (N := 63) hx hb hwd inA_X12 hown hK hP 0 rfl rfl 24 (by decide) (hwd _ wk_200) (fun _ h9 => h9) rfl dX12_lostBy_183 ?_
                refine lv_iload_n hx hb dX12_lostBy_186 rfl (lv_at hl 4 rfl) ?_
                refine va_iald hx hb hK hP 19 18 rfl rfl (i := p0) (vin (a := p0.toInt) rfl (by omega)) dX12_lostBy_187 ?_
                refine lv_topi (fun z13166 e13167 => ?_)
                have e13167 : z13166 = F 19 (p0 : Int32).toNatClampNeg := e13167.trans (congrFun (hF 19 (by decide)) _)
                refine lv_isub hx hb dX12_lostBy_188 ?_
                refine lv_topi (fun z13168 e13169 => ?_)
                try (have t13170 := tsub e13169 (a := z13164.toInt) rfl (b := z13166.toInt) rfl (by omega))
                refine va_iast hx hb hK hP (DM hg) hS 31 30 rfl rfl (i := 1) (x := z13168) (vin (a := 1) (by decide) (by omega)) dX12_lostBy_189 (fun H locs hP _ hS => ?_)
                have hP := va_P_eq (sM_31 g c _ _ _ _) hP
                have hI := IM.store0 hI 31 (1 : Int32).toNatClampNeg z13168 rfl
                have hF := frUF (k := 31) (f := upd (F13163 31) (1 : Int32).toNatClampNeg z13168) (by decide) hF
                have hP : va_P (dC, dI) classes (wM g c v_lp13151 (va_up F13163 31 (upd (F13163 31) (1 : Int32).toNatClampNeg z13168)) rc) H := hP
                generalize (va_up F13163 31 (upd (F13163 31) (1 : Int32).toNatClampNeg z13168)) = F13171 at hP hI hF
                refine lv_aload_n hx hb dX12_lostBy_190 rfl (lv_at hl 3 rfl) ?_
                refine va_get (D := (dC, dI)) (ci := 12) (v := .ref (g 31)) (C := RX12) (T := TX12) (N := 63) hx hb hwd inA_X12 hown hK hP 0 rfl rfl 44 (by decide) (hwd _ wk_213) (fun _ h9 => h9) rfl dX12_lostBy_191 ?_
                refine lv_iconst (v := 2) hx hb dX12_lostBy_194 (by decide) ?_
                refine lv_aload_n hx hb dX12_lostBy_195 rfl (lv_at hl 3 rfl) ?_
                refine va_get (D := (dC, dI)) (ci := 12) (v := .ref (g 22)) (C := RX12) (T := TX12) (N := 63) hx hb hwd inA_X12 hown hK hP 0 rfl rfl 27 (by decide) (hwd _ wk_203) (fun _ h9 => h9) rfl dX12_lostBy_196 ?_
                refine lv_iload_n hx hb dX12_lostBy_199 rfl (lv_at hl 4 rfl) ?_
                refine va_iald hx hb hK hP 22 21 rfl rfl (i := p0) (vin (a := p0.toInt) rfl (by omega)) dX12_lostBy_200 ?_
                refine lv_topi (fun z13172 e13173 => ?_)
                have e13173 : z13172 = F 22 (p0 : Int32).toNatClampNeg := e13173.trans (congrFun (hF 22 (by decide)) _)
                refine lv_aload_n hx hb dX12_lostBy_201 rfl (lv_at hl 3 rfl) ?_
                refine va_get (D := (dC, dI)) (ci := 12) (v := .ref (g 21)) (C := RX12) (T := TX12) (N := 63) hx hb hwd inA_X12 hown hK hP 0 rfl rfl 26 (by decide) (hwd _ wk_202) (fun _ h9 => h9) rfl dX12_lostBy_202 ?_
                refine lv_iload_n hx hb dX12_lostBy_205 rfl (lv_at hl 4 rfl) ?_
                refine va_iald hx hb hK hP 21 20 rfl rfl (i := p0) (vin (a := p0.toInt) rfl (by omega)) dX12_lostBy_206 ?_
                refine lv_topi (fun z13174 e13175 => ?_)
                have e13175 : z13174 = F 21 (p0 : Int32).toNatClampNeg := e13175.trans (congrFun (hF 21 (by decide)) _)
                refine lv_isub hx hb dX12_lostBy_207 ?_
                refine lv_topi (fun z13176 e13177 => ?_)
                try (have t13178 := tsub e13177 (a := z13172.toInt) rfl (b := z13174.toInt) rfl (by omega))
                refine va_iast hx hb hK hP (DM hg) hS 31 30 rfl rfl (i := 2) (x := z13176) (vin (a := 2) (by decide) (by omega)) dX12_lostBy_208 (fun H locs hP _ hS => ?_)
                have hP := va_P_eq (sM_31 g c _ _ _ _) hP
                have hI := IM.store0 hI 31 (2 : Int32).toNatClampNeg z13176 rfl
                have hF := frUF (k := 31) (f := upd (F13171 31) (2 : Int32).toNatClampNeg z13176) (by decide) hF
                have hP : va_P (dC, dI) classes (wM g c v_lp13151 (va_up F13171 31 (upd (F13171 31) (2 : Int32).toNatClampNeg z13176)) rc) H := hP
                generalize (va_up F13171 31 (upd (F13171 31) (2 : Int32).toNatClampNeg z13176)) = F13179 at hP hI hF
                refine lv_aload_n hx hb dX12_lostBy_209 rfl (lv_at hl 3 rfl) ?_
                refine va_get (D := (dC, dI)) (ci := 12) (v := .ref (g 31)) (C := RX12) (T := TX12) (N := 63) hx hb hwd inA_X12 hown hK hP 0 rfl rfl 44 (by decide) (hwd _ wk_213) (fun _ h9 => h9) rfl dX12_lostBy_210 ?_
                refine lv_iconst (v := 3) hx hb dX12_lostBy_213 (by decide) ?_
                refine lv_aload_n hx hb dX12_lostBy_214 rfl (lv_at hl 3 rfl) ?_
                refine va_get (D := (dC, dI)) (ci := 12) (v := .ref (g 16)) (C := RX12) (T := TX12) (N := 63) hx hb hwd inA_X12 hown hK hP 0 rfl rfl 21 (by decide) (hwd _ wk_197) (fun _ h9 => h9) rfl dX12_lostBy_215 ?_
                refine lv_iload_n hx hb dX12_lostBy_218 rfl (lv_at hl 4 rfl) ?_
                refine va_iald hx hb hK hP 16 15 rfl rfl (i := p0) (vin (a := p0.toInt) rfl (by omega)) dX12_lostBy_219 ?_
                refine lv_topi (fun z13180 e13181 => ?_)
                have t13182 : 0 ≤ z13180.toInt ∧ z13180.toInt ≤ 11 := by rw [e13181]; exact hI.2 16 _ _ rfl _
                have e13181 : z13180 = F 16 (p0 : Int32).toNatClampNeg := e13181.trans (congrFun (hF 16 (by decide)) _)
                refine va_iast hx hb hK hP (DM hg) hS 31 30 rfl rfl (i := 3) (x := z13180) (vin (a := 3) (by decide) (by omega)) dX12_lostBy_220 (fun H locs hP _ hS => ?_)
                have hP := va_P_eq (sM_31 g c _ _ _ _) hP
                have hI := IM.store0 hI 31 (3 : Int32).toNatClampNeg z13180 rfl
                have hF := frUF (k := 31) (f := upd (F13179 31) (3 : Int32).toNatClampNeg z13180) (by decide) hF
                have hP : va_P (dC, dI) classes (wM g c v_lp13151 (va_up F13179 31 (upd (F13179 31) (3 : Int32).toNatClampNeg z13180)) rc) H := hP
                generalize (va_up F13179 31 (upd (F13179 31) (3 : Int32).toNatClampNeg z13180)) = F13183 at hP hI hF
                refine lv_aload_n hx hb dX12_lostBy_221 rfl (lv_at hl 3 rfl) ?_
                refine va_get (D := (dC, dI)) (ci := 12) (v := .ref (g 31)) (C := RX12) (T := TX12) (N := 63) hx hb hwd inA_X12 hown hK hP 0 rfl rfl 44 (by decide) (hwd _ wk_213) (fun _ h9 => h9) rfl dX12_lostBy_222 ?_
                refine lv_iconst (v := 4) hx hb dX12_lostBy_225 (by decide) ?_
                refine lv_aload_n hx hb dX12_lostBy_226 rfl (lv_at hl 3 rfl) ?_
                refine va_get (D := (dC, dI)) (ci := 12) (v := .ref (g 11)) (C := RX12) (T := TX12) (N := 63) hx hb hwd inA_X12 hown hK hP 0 rfl rfl 15 (by decide) (hwd _ wk_192) (fun _ h9 => h9) rfl dX12_lostBy_227 ?_
                refine lv_aload_n hx hb dX12_lostBy_230 rfl (lv_at hl 3 rfl) ?_
                refine va_get (D := (dC, dI)) (ci := 12) (v := .ref (g 15)) (C := RX12) (T := TX12) (N := 63) hx hb hwd inA_X12 hown hK hP 0 rfl rfl 20 (by decide) (hwd _ wk_196) (fun _ h9 => h9) rfl dX12_lostBy_231 ?_
                refine lv_iload_n hx hb dX12_lostBy_234 rfl (lv_at hl 4 rfl) ?_
                refine va_iald hx hb hK hP 15 14 rfl rfl (i := p0) (vin (a := p0.toInt) rfl (by omega)) dX12_lostBy_235 ?_
                refine lv_topi (fun z13184 e13185 => ?_)
                have t13186 : 0 ≤ z13184.toInt ∧ z13184.toInt ≤ 99 := by rw [e13185]; exact hI.2 15 _ _ rfl _
                have e13185 : z13184 = F 15 (p0 : Int32).toNatClampNeg := e13185.trans (congrFun (hF 15 (by decide)) _)
                refine va_iald hx hb hK hP 11 10 rfl rfl (i := z13184) (vin (a := z13184.toInt) rfl (by omega)) dX12_lostBy_236 ?_
                refine lv_topi (fun z13187 e13188 => ?_)
                have t13189 : 0 ≤ z13187.toInt ∧ z13187.toInt ≤ 9 := by rw [e13188]; exact hI.2 11 _ _ rfl _
                have e13188 : z13187 = F 11 (z13184 : Int32).toNatClampNeg := e13188.trans (congrFun (hF 11 (by decide)) _)
                refine va_iast hx hb hK hP (DM hg) hS 31 30 rfl rfl (i := 4) (x := z13187) (vin (a := 4) (by decide) (by omega)) dX12_lostBy_237 (fun H locs hP _ hS => ?_)
                have hP := va_P_eq (sM_31 g c _ _ _ _) hP
                have hI := IM.store0 hI 31 (4 : Int32).toNatClampNeg z13187 rfl
                have hF := frUF (k := 31) (f := upd (F13183 31) (4 : Int32).toNatClampNeg z13187) (by decide) hF
                have hP : va_P (dC, dI) classes (wM g c v_lp13151 (va_up F13183 31 (upd (F13183 31) (4 : Int32).toNatClampNeg z13187)) rc) H := hP
                generalize (va_up F13183 31 (upd (F13183 31) (4 : Int32).toNatClampNeg z13187)) = F13190 at hP hI hF
                refine lv_aload_n hx hb dX12_lostBy_238 rfl (lv_at hl 3 rfl) ?_
                refine va_get (D := (dC, dI)) (ci := 12) (v := .ref (g 31)) (C := RX12) (T := TX12) (N := 63) hx hb hwd inA_X12 hown hK hP 0 rfl rfl 44 (by decide) (hwd _ wk_213) (fun _ h9 => h9) rfl dX12_lostBy_239 ?_
                refine lv_iconst (v := 5) hx hb dX12_lostBy_242 (by decide) ?_
                refine lv_iload hx hb dX12_lostBy_243 (lv_at hl 1 rfl) ?_
                refine va_iast hx hb hK hP (DM hg) hS 31 30 rfl rfl (i := 5) (x := x4_lp13151) (vin (a := 5) (by decide) (by omega)) dX12_lostBy_245 (fun H locs hP _ hS => ?_)
                have hP := va_P_eq (sM_31 g c _ _ _ _) hP
                have hI := IM.store0 hI 31 (5 : Int32).toNatClampNeg x4_lp13151 rfl
                have hF := frUF (k := 31) (f := upd (F13190 31) (5 : Int32).toNatClampNeg x4_lp13151) (by decide) hF
                have hP : va_P (dC, dI) classes (wM g c v_lp13151 (va_up F13190 31 (upd (F13190 31) (5 : Int32).toNatClampNeg x4_lp13151)) rc) H := hP
                generalize (va_up F13190 31 (upd (F13190 31) (5 : Int32).toNatClampNeg x4_lp13151)) = F13191 at hP hI hF
                refine lv_aload_n hx hb dX12_lostBy_246 rfl (lv_at hl 3 rfl) ?_
                refine lv_iload_n hx hb dX12_lostBy_247 rfl (lv_at hl 2 rfl) ?_
                refine va_calli (va_runV (As := [.int x3_lp13144]) (rest := []) ⟨hx, hb, hml, hown, hwd⟩ (c_X12_works l dC dI g c adK adV v_lp13151 F13191 rc H.size x3_lp13144 hg hI (by omega) (JL.at' (JL.to hL rfl (hF 28 (by decide)) (hF 29 (by decide)) (hF 27 (by decide))) (i := x3_lp13144) (by omega) (by omega))) (cwV 1 hwd (gV wk_513 wk_510 wk_511 wk_512 wk_5) rfl rfl rfl (by decide +kernel) ⟨Nat.le_of_ble_eq_true rfl, Nat.le_of_ble_eq_true rfl⟩) ⟨PM.blind, va_recv hK hP (ci := 12) (q0 := 0) rfl rfl, fun U hU hW => ⟨rfl, PM.at hK hE hP hS hU hW⟩⟩ rfl rfl hl.1 rfl (lv_room (Nat.le_of_ble_eq_true rfl)) dX12_lostBy_248 ⟨Nat.le_of_ble_eq_true rfl, Nat.le_of_ble_eq_true rfl⟩) hS (fun q _ h => (freeM hS) q h) (freeM hS) (fun r13192 u t H1 locs ht hvm hw hB hz1 hk1 hS => ?_)
                unfold BM at hB
                rw [ht] at hB
                obtain ⟨v13193, F13194, rc9⟩ := u
                obtain ⟨hI, hrc, hf13195, hG13196, hw⟩ := hw
                dsimp only at hI hrc hB hf13195 hG13196 hw
                have hF := frCF (by decide) hG13196 hF
                rw [hrc] at hB
                have hP : va_P (dC, dI) classes (wM g c v13193 F13194 rc) H1 := hB
                clear hz1
                generalize H1 = H at hP hS ⊢
                have rr_r13192 := i32_rng r13192
                refine lv_istore (lv' := [(5, .int r13192), (4, .int x4_lp13151), (3, .int x3_lp13144), (0, .ref (g 0)), (1, .int p0), (2, .int p1)]) hx hb dX12_lostBy_251 hl (by decide) rfl (fun ls hl => ?_)
                refine lv_iload hx hb dX12_lostBy_253 (lv_at hl 0 rfl) ?_
                refine lv_if_ge (tgt := 262) hx hb dX12_lostBy_255 (by decide) (fun c13197 => ?_) (fun c13197 => ?_)
                · skip
                  have t13198 := cv_le (a := 0) (by decide) (b := r13192.toInt) rfl c13197
                  refine lv_iload hx hb dX12_lostBy_262 (lv_at hl 0 rfl) ?_
                  refine lv_bipush (v := 100) hx hb dX12_lostBy_264 (by decide) ?_
                  refine lv_icmp_le (tgt := 274) hx hb dX12_lostBy_266 (by decide) (fun c13199 => ?_) (fun c13199 => ?_)
                  · skip
                    have t13200 := cv_le (a := r13192.toInt) rfl (b := 100) (by decide) c13199
                    refine lv_iload hx hb dX12_lostBy_274 (lv_at hl 0 rfl) ?_
                    have hP9 : va_P (dC, dI) classes (wM g c v13193 F13194 rc) H := hP
                    exact W.iret (v := r13192) hx hb hr (fun t ht hW => ⟨⟨r13192, (v13193, F13194, rc), rfl, ⟨hI, rfl, (frC (by decide) hf13195 (frC (by decide) hf_lp13151 (frC (by decide) hf_lp13144 (fun _ _ => rfl)))), hF, by omega⟩, (by show va_P _ _ _ t.heap; rw [ht]; exact hP9)⟩, hS.F ht⟩) hS.2.2 dX12_lostBy_276
                  · skip
                    have t13201 := cv_nle (a := r13192.toInt) rfl (b := 100) (by decide) c13199
                    refine lv_bipush (v := 100) hx hb dX12_lostBy_269 (by decide) ?_
                    refine lv_goto (tgt := 276) hx hb dX12_lostBy_271 (by decide) ?_
                    have hP9 : va_P (dC, dI) classes (wM g c v13193 F13194 rc) H := hP
                    exact W.iret (v := 100) hx hb hr (fun t ht hW => ⟨⟨100, (v13193, F13194, rc), rfl, ⟨hI, rfl, (frC (by decide) hf13195 (frC (by decide) hf_lp13151 (frC (by decide) hf_lp13144 (fun _ _ => rfl)))), hF, by have : (100 : Int32).toInt = 100 := (by decide); omega⟩, (by show va_P _ _ _ t.heap; rw [ht]; exact hP9)⟩, hS.F ht⟩) hS.2.2 dX12_lostBy_276
                · skip
                  have t13202 := cv_nle (a := 0) (by decide) (b := r13192.toInt) rfl c13197
                  refine lv_iconst (v := 0) hx hb dX12_lostBy_258 (by decide) ?_
                  refine lv_goto (tgt := 276) hx hb dX12_lostBy_259 (by decide) ?_
                  have hP9 : va_P (dC, dI) classes (wM g c v13193 F13194 rc) H := hP
                  exact W.iret (v := 0) hx hb hr (fun t ht hW => ⟨⟨0, (v13193, F13194, rc), rfl, ⟨hI, rfl, (frC (by decide) hf13195 (frC (by decide) hf_lp13151 (frC (by decide) hf_lp13144 (fun _ _ => rfl)))), hF, by have : (0 : Int32).toInt = 0 := (by decide); omega⟩, (by show va_P _ _ _ t.heap; rw [ht]; exact hP9)⟩, hS.F ht⟩) hS.2.2 dX12_lostBy_276
              · skip
                have t13203 := cv_nle (a := (v 19).toInt) rfl (b := x5_lp13151.toInt) rfl c13154
                refine lv_iload hx hb dX12_lostBy_63 (lv_at hl 1 rfl) ?_
                refine lv_iload hx hb dX12_lostBy_65 (lv_at hl 0 rfl) ?_
                refine lv_iload_n hx hb dX12_lostBy_67 rfl (lv_at hl 4 rfl) ?_
                refine lv_icmp_eq (tgt := 142) hx hb dX12_lostBy_68 (by decide) (fun c13204 => ?_) (fun c13204 => ?_)
                · skip
                  have t13205 := cv_eq (a := x5_lp13151.toInt) rfl (b := p0.toInt) rfl c13204
                  refine lv_iconst (v := 0) hx hb dX12_lostBy_142 (by decide) ?_
                  refine lv_iadd hx hb dX12_lostBy_143 ?_
                  refine lv_topi (fun z13206 e13207 => ?_)
                  try (have t13208 := tadd e13207 (a := x4_lp13151.toInt) rfl (b := 0) (by decide) (by omega))
                  refine lv_istore (lv' := [(4, .int z13206), (5, .int x5_lp13151), (3, .int x3_lp13144), (0, .ref (g 0)), (1, .int p0), (2, .int p1)]) hx hb dX12_lostBy_144 hl (by decide) rfl (fun ls hl => ?_)
                  obtain ⟨z13209, e13210⟩ : ∃ y : Int32, y = x5_lp13151 + 1 := ⟨_, rfl⟩
                  try (have t13211 := tadd e13210 rfl (b := 1) (by decide) (by omega))
                  refine lv_iinc (v := z13209) (lv' := [(5, .int z13209), (4, .int z13206), (3, .int x3_lp13144), (0, .ref (g 0)), (1, .int p0), (2, .int p1)]) hx hb dX12_lostBy_146 hl (k := 1) rfl (by rw [e13210]; rfl) (by decide) rfl (fun ls hl => ?_)
                  refine lv_goto (tgt := 54) hx hb dX12_lostBy_149 (by decide) ?_
                  exact ih_lp13151 z13209 z13206 v_lp13151 F_lp13151 _ _ _ (by omega) (by omega) hf_lp13151 hI hF hP hS (lv_sub hl [0, 1, 2, 3, 4, 5] rfl)
                · skip
                  have t13212 := cv_ne (a := x5_lp13151.toInt) rfl (b := p0.toInt) rfl c13204
                  refine lv_aload_n hx hb dX12_lostBy_71 rfl (lv_at hl 3 rfl) ?_
                  refine va_get (D := (dC, dI)) (ci := 12) (v := .ref (g 15)) (C := RX12) (T := TX12) (N := 63) hx hb hwd inA_X12 hown hK hP 0 rfl rfl 20 (by decide) (hwd _ wk_196) (fun _ h9 => h9) rfl dX12_lostBy_72 ?_
                  refine lv_iload hx hb dX12_lostBy_75 (lv_at hl 0 rfl) ?_
                  refine va_iald hx hb hK hP 15 14 rfl rfl (i := x5_lp13151) (vin (a := x5_lp13151.toInt) rfl (by omega)) dX12_lostBy_77 ?_
                  refine lv_topi (fun z13213 e13214 => ?_)
                  have t13215 : 0 ≤ z13213.toInt ∧ z13213.toInt ≤ 99 := by rw [e13214]; exact hI.2 15 _ _ rfl _
                  have e13214 : z13213 = F 15 (x5_lp13151 : Int32).toNatClampNeg := e13214.trans (congrFun (hF 15 (by decide)) _)
                  refine lv_aload_n hx hb dX12_lostBy_78 rfl (lv_at hl 3 rfl) ?_
                  refine va_get (D := (dC, dI)) (ci := 12) (v := .ref (g 15)) (C := RX12) (T := TX12) (N := 63) hx hb hwd inA_X12 hown hK hP 0 rfl rfl 20 (by decide) (hwd _ wk_196) (fun _ h9 => h9) rfl dX12_lostBy_79 ?_
                  refine lv_iload_n hx hb dX12_lostBy_82 rfl (lv_at hl 4 rfl) ?_
                  refine va_iald hx hb hK hP 15 14 rfl rfl (i := p0) (vin (a := p0.toInt) rfl (by omega)) dX12_lostBy_83 ?_
                  refine lv_topi (fun z13216 e13217 => ?_)
                  have t13218 : 0 ≤ z13216.toInt ∧ z13216.toInt ≤ 99 := by rw [e13217]; exact hI.2 15 _ _ rfl _
                  have e13217 : z13216 = F 15 (p0 : Int32).toNatClampNeg := e13217.trans (congrFun (hF 15 (by decide)) _)
                  refine lv_icmp_ne (tgt := 142) hx hb dX12_lostBy_84 (by decide) (fun c13219 => ?_) (fun c13219 => ?_)
                  · skip
                    have t13220 := cv_ne (a := z13213.toInt) rfl (b := z13216.toInt) rfl c13219
                    refine lv_iconst (v := 0) hx hb dX12_lostBy_142 (by decide) ?_
                    refine lv_iadd hx hb dX12_lostBy_143 ?_
                    refine lv_topi (fun z13221 e13222 => ?_)
                    try (have t13223 := tadd e13222 (a := x4_lp13151.toInt) rfl (b := 0) (by decide) (by omega))
                    refine lv_istore (lv' := [(4, .int z13221), (5, .int x5_lp13151), (3, .int x3_lp13144), (0, .ref (g 0)), (1, .int p0), (2, .int p1)]) hx hb dX12_lostBy_144 hl (by decide) rfl (fun ls hl => ?_)
                    obtain ⟨z13224, e13225⟩ : ∃ y : Int32, y = x5_lp13151 + 1 := ⟨_, rfl⟩
                    try (have t13226 := tadd e13225 rfl (b := 1) (by decide) (by omega))
                    refine lv_iinc (v := z13224) (lv' := [(5, .int z13224), (4, .int z13221), (3, .int x3_lp13144), (0, .ref (g 0)), (1, .int p0), (2, .int p1)]) hx hb dX12_lostBy_146 hl (k := 1) rfl (by rw [e13225]; rfl) (by decide) rfl (fun ls hl => ?_)
                    refine lv_goto (tgt := 54) hx hb dX12_lostBy_149 (by decide) ?_
                    exact ih_lp13151 z13224 z13221 v_lp13151 F_lp13151 _ _ _ (by omega) (by omega) hf_lp13151 hI hF hP hS (lv_sub hl [0, 1, 2, 3, 4, 5] rfl)
                  · skip
                    have t13227 := cv_eq (a := z13213.toInt) rfl (b := z13216.toInt) rfl c13219
                    refine lv_aload_n hx hb dX12_lostBy_87 rfl (lv_at hl 3 rfl) ?_
                    refine lv_iload hx hb dX12_lostBy_88 (lv_at hl 0 rfl) ?_
                    refine va_calli (va_runV (As := [.int x5_lp13151]) (rest := [.int x4_lp13151]) ⟨hx, hb, hml, hown, hwd⟩ (c_X12_isGap l dC dI g c adK adV v_lp13151 F_lp13151 rc H.size x5_lp13151 hg hI (by omega)) (cwV 1 hwd (gV wk_499 wk_496 wk_497 wk_498 wk_5) rfl rfl rfl (by decide +kernel) ⟨Nat.le_of_ble_eq_true rfl, Nat.le_of_ble_eq_true rfl⟩) ⟨PM.blind, va_recv hK hP (ci := 12) (q0 := 0) rfl rfl, fun U hU hW => ⟨rfl, PM.at hK hE hP hS hU hW⟩⟩ rfl rfl hl.1 rfl (lv_room (Nat.le_of_ble_eq_true rfl)) dX12_lostBy_90 ⟨Nat.le_of_ble_eq_true rfl, Nat.le_of_ble_eq_true rfl⟩) hS (fun q _ h => (freeM hS) q h) (freeM hS) (fun r13228 u t H1 locs ht hvm hw hB hz1 hk1 hS => ?_)
                    unfold BM at hB
                    rw [ht] at hB
                    have hP : va_P (dC, dI) classes (wM g c v_lp13151 F_lp13151 rc) H1 := hB
                    have hw_r13228 : 0 ≤ r13228.toInt ∧ r13228.toInt ≤ 1 := hw
                    clear hw
                    clear hz1
                    generalize H1 = H at hP hS ⊢
                    refine lv_if_eq (tgt := 142) hx hb dX12_lostBy_93 (by decide) (fun c13229 => ?_) (fun c13229 => ?_)
                    · skip
                      have t13230 := cv_eq (a := r13228.toInt) rfl (b := 0) (by decide) c13229
                      refine lv_iconst (v := 0) hx hb dX12_lostBy_142 (by decide) ?_
                      refine lv_iadd hx hb dX12_lostBy_143 ?_
                      refine lv_topi (fun z13231 e13232 => ?_)
                      try (have t13233 := tadd e13232 (a := x4_lp13151.toInt) rfl (b := 0) (by decide) (by omega))
                      refine lv_istore (lv' := [(4, .int z13231), (5, .int x5_lp13151), (3, .int x3_lp13144), (0, .ref (g 0)), (1, .int p0), (2, .int p1)]) hx hb dX12_lostBy_144 hl (by decide) rfl (fun ls hl => ?_)
                      obtain ⟨z13234, e13235⟩ : ∃ y : Int32, y = x5_lp13151 + 1 := ⟨_, rfl⟩
                      try (have t13236 := tadd e13235 rfl (b := 1) (by decide) (by omega))
                      refine lv_iinc (v := z13234) (lv' := [(5, .int z13234), (4, .int z13231), (3, .int x3_lp13144), (0, .ref (g 0)), (1, .int p0), (2, .int p1)]) hx hb dX12_lostBy_146 hl (k := 1) rfl (by rw [e13235]; rfl) (by decide) rfl (fun ls hl => ?_)
                      refine lv_goto (tgt := 54) hx hb dX12_lostBy_149 (by decide) ?_
                      exact ih_lp13151 z13234 z13231 v_lp13151 F_lp13151 _ _ _ (by omega) (by omega) hf_lp13151 hI hF hP hS (lv_sub hl [0, 1, 2, 3, 4, 5] rfl)
                    · skip
                      have t13237 := cv_ne (a := r13228.toInt) rfl (b := 0) (by decide) c13229
                      refine lv_aload_n hx hb dX12_lostBy_96 rfl (lv_at hl 3 rfl) ?_
                      refine va_get (D := (dC, dI)) (ci := 12) (v := .ref (g 18)) (C := RX12) (T := TX12) (N := 63) hx hb hwd inA_X12 hown hK hP 0 rfl rfl 23 (by decide) (hwd _ wk_199) (fun _ h9 => h9) rfl dX12_lostBy_97 ?_
                      refine lv_iload hx hb dX12_lostBy_100 (lv_at hl 0 rfl) ?_
                      refine va_iald hx hb hK hP 18 17 rfl rfl (i := x5_lp13151) (vin (a := x5_lp13151.toInt) rfl (by omega)) dX12_lostBy_102 ?_
                      refine lv_topi (fun z13238 e13239 => ?_)
                      have e13239 : z13238 = F 18 (x5_lp13151 : Int32).toNatClampNeg := e13239.trans (congrFun (hF 18 (by decide)) _)
                      refine lv_aload_n hx hb dX12_lostBy_103 rfl (lv_at hl 3 rfl) ?_
                      refine va_get (D := (dC, dI)) (ci := 12) (v := .ref (g 18)) (C := RX12) (T := TX12) (N := 63) hx hb hwd inA_X12 hown hK hP 0 rfl rfl 23 (by decide) (hwd _ wk_199) (fun _ h9 => h9) rfl dX12_lostBy_104 ?_
                      refine lv_iload_n hx hb dX12_lostBy_107 rfl (lv_at hl 4 rfl) ?_
                      refine va_iald hx hb hK hP 18 17 rfl rfl (i := p0) (vin (a := p0.toInt) rfl (by omega)) dX12_lostBy_108 ?_
                      refine lv_topi (fun z13240 e13241 => ?_)
                      have e13241 : z13240 = F 18 (p0 : Int32).toNatClampNeg := e13241.trans (congrFun (hF 18 (by decide)) _)
                      refine lv_icmp_lt (tgt := 138) hx hb dX12_lostBy_109 (by decide) (fun c13242 => ?_) (fun c13242 => ?_)
                      · skip
                        have t13243 := cv_lt (a := z13238.toInt) rfl (b := z13240.toInt) rfl c13242
                        refine lv_iconst (v := 1) hx hb dX12_lostBy_138 (by decide) ?_
                        refine lv_goto (tgt := 143) hx hb dX12_lostBy_139 (by decide) ?_
                        refine lv_iadd hx hb dX12_lostBy_143 ?_
                        refine lv_topi (fun z13244 e13245 => ?_)
                        try (have t13246 := tadd e13245 (a := x4_lp13151.toInt) rfl (b := 1) (by decide) (by omega))
                        refine lv_istore (lv' := [(4, .int z13244), (5, .int x5_lp13151), (3, .int x3_lp13144), (0, .ref (g 0)), (1, .int p0), (2, .int p1)]) hx hb dX12_lostBy_144 hl (by decide) rfl (fun ls hl => ?_)
                        obtain ⟨z13247, e13248⟩ : ∃ y : Int32, y = x5_lp13151 + 1 := ⟨_, rfl⟩
                        try (have t13249 := tadd e13248 rfl (b := 1) (by decide) (by omega))
                        refine lv_iinc (v := z13247) (lv' := [(5, .int z13247), (4, .int z13244), (3, .int x3_lp13144), (0, .ref (g 0)), (1, .int p0), (2, .int p1)]) hx hb dX12_lostBy_146 hl (k := 1) rfl (by rw [e13248]; rfl) (by decide) rfl (fun ls hl => ?_)
                        refine lv_goto (tgt := 54) hx hb dX12_lostBy_149 (by decide) ?_
                        exact ih_lp13151 z13247 z13244 v_lp13151 F_lp13151 _ _ _ (by omega) (by omega) hf_lp13151 hI hF hP hS (lv_sub hl [0, 1, 2, 3, 4, 5] rfl)
                      · skip
                        have t13250 := cv_nlt (a := z13238.toInt) rfl (b := z13240.toInt) rfl c13242
                        refine lv_aload_n hx hb dX12_lostBy_112 rfl (lv_at hl 3 rfl) ?_
                        refine va_get (D := (dC, dI)) (ci := 12) (v := .ref (g 18)) (C := RX12) (T := TX12) (N := 63) hx hb hwd inA_X12 hown hK hP 0 rfl rfl 23 (by decide) (hwd _ wk_199) (fun _ h9 => h9) rfl dX12_lostBy_113 ?_
                        refine lv_iload hx hb dX12_lostBy_116 (lv_at hl 0 rfl) ?_
                        refine va_iald hx hb hK hP 18 17 rfl rfl (i := x5_lp13151) (vin (a := x5_lp13151.toInt) rfl (by omega)) dX12_lostBy_118 ?_
                        refine lv_topi (fun z13251 e13252 => ?_)
                        have e13252 : z13251 = F 18 (x5_lp13151 : Int32).toNatClampNeg := e13252.trans (congrFun (hF 18 (by decide)) _)
                        refine lv_aload_n hx hb dX12_lostBy_119 rfl (lv_at hl 3 rfl) ?_
                        refine va_get (D := (dC, dI)) (ci := 12) (v := .ref (g 18)) (C := RX12) (T := TX12) (N := 63) hx hb hwd inA_X12 hown hK hP 0 rfl rfl 23 (by decide) (hwd _ wk_199) (fun _ h9 => h9) rfl dX12_lostBy_120 ?_
                        refine lv_iload_n hx hb dX12_lostBy_123 rfl (lv_at hl 4 rfl) ?_
                        refine va_iald hx hb hK hP 18 17 rfl rfl (i := p0) (vin (a := p0.toInt) rfl (by omega)) dX12_lostBy_124 ?_
                        refine lv_topi (fun z13253 e13254 => ?_)
                        have e13254 : z13253 = F 18 (p0 : Int32).toNatClampNeg := e13254.trans (congrFun (hF 18 (by decide)) _)
                        refine lv_icmp_ne (tgt := 142) hx hb dX12_lostBy_125 (by decide) (fun c13255 => ?_) (fun c13255 => ?_)
                        · skip
                          have t13256 := cv_ne (a := z13251.toInt) rfl (b := z13253.toInt) rfl c13255
                          refine lv_iconst (v := 0) hx hb dX12_lostBy_142 (by decide) ?_
                          refine lv_iadd hx hb dX12_lostBy_143 ?_
                          refine lv_topi (fun z13257 e13258 => ?_)
                          try (have t13259 := tadd e13258 (a := x4_lp13151.toInt) rfl (b := 0) (by decide) (by omega))
                          refine lv_istore (lv' := [(4, .int z13257), (5, .int x5_lp13151), (3, .int x3_lp13144), (0, .ref (g 0)), (1, .int p0), (2, .int p1)]) hx hb dX12_lostBy_144 hl (by decide) rfl (fun ls hl => ?_)
                          obtain ⟨z13260, e13261⟩ : ∃ y : Int32, y = x5_lp13151 + 1 := ⟨_, rfl⟩
                          try (have t13262 := tadd e13261 rfl (b := 1) (by decide) (by omega))
                          refine lv_iinc (v := z13260) (lv' := [(5, .int z13260), (4, .int z13257), (3, .int x3_lp13144), (0, .ref (g 0)), (1, .int p0), (2, .int p1)]) hx hb dX12_lostBy_146 hl (k := 1) rfl (by rw [e13261]; rfl) (by decide) rfl (fun ls hl => ?_)
                          refine lv_goto (tgt := 54) hx hb dX12_lostBy_149 (by decide) ?_
                          exact ih_lp13151 z13260 z13257 v_lp13151 F_lp13151 _ _ _ (by omega) (by omega) hf_lp13151 hI hF hP hS (lv_sub hl [0, 1, 2, 3, 4, 5] rfl)
                        · skip
                          have t13263 := cv_eq (a := z13251.toInt) rfl (b := z13253.toInt) rfl c13255
                          refine lv_aload_n hx hb dX12_lostBy_128 rfl (lv_at hl 3 rfl) ?_
                          refine lv_iload hx hb dX12_lostBy_129 (lv_at hl 0 rfl) ?_
                          refine lv_iload_n hx hb dX12_lostBy_131 rfl (lv_at hl 4 rfl) ?_
                          refine va_calli (va_runV (As := [.int x5_lp13151, .int p0]) (rest := [.int x4_lp13151]) ⟨hx, hb, hml, hown, hwd⟩ (c_X12_isAhead l dC dI g c adK adV v_lp13151 F_lp13151 rc H.size x5_lp13151 p0 hg hI (by omega) (by omega)) (cwV 2 hwd (gV wk_509 wk_506 wk_507 wk_508 wk_5) rfl rfl rfl (by decide +kernel) ⟨Nat.le_of_ble_eq_true rfl, Nat.le_of_ble_eq_true rfl⟩) ⟨PM.blind, va_recv hK hP (ci := 12) (q0 := 0) rfl rfl, fun U hU hW => ⟨rfl, PM.at hK hE hP hS hU hW⟩⟩ rfl rfl hl.1 rfl (lv_room (Nat.le_of_ble_eq_true rfl)) dX12_lostBy_132 ⟨Nat.le_of_ble_eq_true rfl, Nat.le_of_ble_eq_true rfl⟩) hS (fun q _ h => (freeM hS) q h) (freeM hS) (fun r13264 u t H1 locs ht hvm hw hB hz1 hk1 hS => ?_)
                          unfold BM at hB
                          rw [ht] at hB
                          have hP : va_P (dC, dI) classes (wM g c v_lp13151 F_lp13151 rc) H1 := hB
                          replace hw : (r13264.toInt = 1 ∧ ((F_lp13151 17 x5_lp13151.toNatClampNeg).toInt < (F_lp13151 17 p0.toNatClampNeg).toInt ∨ ((F_lp13151 17 x5_lp13151.toNatClampNeg).toInt = (F_lp13151 17 p0.toNatClampNeg).toInt ∧ x5_lp13151.toInt < p0.toInt))) ∨ (r13264.toInt = 0 ∧ ¬ ((F_lp13151 17 x5_lp13151.toNatClampNeg).toInt < (F_lp13151 17 p0.toNatClampNeg).toInt ∨ ((F_lp13151 17 x5_lp13151.toNatClampNeg).toInt = (F_lp13151 17 p0.toNatClampNeg).toInt ∧ x5_lp13151.toInt < p0.toInt))) := hw
                          have hw_r13264 := hw
                          clear hw
                          clear hz1
                          generalize H1 = H at hP hS ⊢
                          refine lv_if_eq (tgt := 142) hx hb dX12_lostBy_135 (by decide) (fun c13265 => ?_) (fun c13265 => ?_)
                          · skip
                            have t13266 := cv_eq (a := r13264.toInt) rfl (b := 0) (by decide) c13265
                            refine lv_iconst (v := 0) hx hb dX12_lostBy_142 (by decide) ?_
                            refine lv_iadd hx hb dX12_lostBy_143 ?_
                            refine lv_topi (fun z13267 e13268 => ?_)
                            try (have t13269 := tadd e13268 (a := x4_lp13151.toInt) rfl (b := 0) (by decide) (by omega))
                            refine lv_istore (lv' := [(4, .int z13267), (5, .int x5_lp13151), (3, .int x3_lp13144), (0, .ref (g 0)), (1, .int p0), (2, .int p1)]) hx hb dX12_lostBy_144 hl (by decide) rfl (fun ls hl => ?_)
                            obtain ⟨z13270, e13271⟩ : ∃ y : Int32, y = x5_lp13151 + 1 := ⟨_, rfl⟩
                            try (have t13272 := tadd e13271 rfl (b := 1) (by decide) (by omega))
                            refine lv_iinc (v := z13270) (lv' := [(5, .int z13270), (4, .int z13267), (3, .int x3_lp13144), (0, .ref (g 0)), (1, .int p0), (2, .int p1)]) hx hb dX12_lostBy_146 hl (k := 1) rfl (by rw [e13271]; rfl) (by decide) rfl (fun ls hl => ?_)
                            refine lv_goto (tgt := 54) hx hb dX12_lostBy_149 (by decide) ?_
                            exact ih_lp13151 z13270 z13267 v_lp13151 F_lp13151 _ _ _ (by omega) (by omega) hf_lp13151 hI hF hP hS (lv_sub hl [0, 1, 2, 3, 4, 5] rfl)
                          · skip
                            have t13273 := cv_ne (a := r13264.toInt) rfl (b := 0) (by decide) c13265
                            refine lv_iconst (v := 1) hx hb dX12_lostBy_138 (by decide) ?_
                            refine lv_goto (tgt := 143) hx hb dX12_lostBy_139 (by decide) ?_
                            refine lv_iadd hx hb dX12_lostBy_143 ?_
                            refine lv_topi (fun z13274 e13275 => ?_)
                            try (have t13276 := tadd e13275 (a := x4_lp13151.toInt) rfl (b := 1) (by decide) (by omega))
                            refine lv_istore (lv' := [(4, .int z13274), (5, .int x5_lp13151), (3, .int x3_lp13144), (0, .ref (g 0)), (1, .int p0), (2, .int p1)]) hx hb dX12_lostBy_144 hl (by decide) rfl (fun ls hl => ?_)
                            obtain ⟨z13277, e13278⟩ : ∃ y : Int32, y = x5_lp13151 + 1 := ⟨_, rfl⟩
                            try (have t13279 := tadd e13278 rfl (b := 1) (by decide) (by omega))
                            refine lv_iinc (v := z13277) (lv' := [(5, .int z13277), (4, .int z13274), (3, .int x3_lp13144), (0, .ref (g 0)), (1, .int p0), (2, .int p1)]) hx hb dX12_lostBy_146 hl (k := 1) rfl (by rw [e13278]; rfl) (by decide) rfl (fun ls hl => ?_)
                            refine lv_goto (tgt := 54) hx hb dX12_lostBy_149 (by decide) ?_
                            exact ih_lp13151 z13277 z13274 v_lp13151 F_lp13151 _ _ _ (by omega) (by omega) hf_lp13151 hI hF hP hS (lv_sub hl [0, 1, 2, 3, 4, 5] rfl)
          obtain ⟨n9, hn9⟩ : ∃ n : Nat, 2147483648 - 0 ≤ (n : Int) := ⟨((2147483648 - 0 : Int)).toNat, by omega⟩
          exact lp13151 n9 0 0 v_lp13144 F_lp13144 H _ ls (by have : (0 : Int32).toInt = 0 := (by decide); have : (0 : Int32).toInt = 0 := (by decide); omega) (by have : (0 : Int32).toInt = 0 := (by decide); have : (0 : Int32).toInt = 0 := (by decide); omega) (fun _ _ => rfl) hI hF hP hS hl
        · skip
          have t13280 := cv_nle (a := 0) (by decide) (b := x3_lp13144.toInt) rfl c13149
          refine lv_iconst (v := 0) hx hb dX12_lostBy_46 (by decide) ?_
          have hP9 : va_P (dC, dI) classes (wM g c v_lp13144 F_lp13144 rc) H := hP
          exact W.iret (v := 0) hx hb hr (fun t ht hW => ⟨⟨0, (v_lp13144, F_lp13144, rc), rfl, ⟨hI, rfl, (frC (by decide) hf_lp13144 (fun _ _ => rfl)), hF, by have : (0 : Int32).toInt = 0 := (by decide); omega⟩, (by show va_P _ _ _ t.heap; rw [ht]; exact hP9)⟩, hS.F ht⟩) hS.2.2 dX12_lostBy_47
      · skip
        have t13281 := cv_nlt (a := x3_lp13144.toInt) rfl (b := 0) (by decide) c13147
        refine lv_aload_n hx hb dX12_lostBy_11 rfl (lv_at hl 1 rfl) ?_
        refine va_get (D := (dC, dI)) (ci := 12) (v := .ref (g 25)) (C := RX12) (T := TX12) (N := 63) hx hb hwd inA_X12 hown hK hP 0 rfl rfl 32 (by decide) (hwd _ wk_207) (fun _ h9 => h9) rfl dX12_lostBy_12 ?_
        refine lv_iload_n hx hb dX12_lostBy_15 rfl (lv_at hl 0 rfl) ?_
        refine va_iald hx hb hK hP 25 24 rfl rfl (i := x3_lp13144) (vin (a := x3_lp13144.toInt) rfl (by omega)) dX12_lostBy_16 ?_
        refine lv_topi (fun z13282 e13283 => ?_)
        have e13283 : z13282 = F 25 (x3_lp13144 : Int32).toNatClampNeg := e13283.trans (congrFun (hF 25 (by decide)) _)
        refine lv_iload_n hx hb dX12_lostBy_17 rfl (lv_at hl 3 rfl) ?_
        refine lv_icmp_gt (tgt := 36) hx hb dX12_lostBy_18 (by decide) (fun c13284 => ?_) (fun c13284 => ?_)
        · skip
          have t13285 := cv_lt (a := p1.toInt) rfl (b := z13282.toInt) rfl c13284
          obtain ⟨z13286, e13287⟩ : ∃ y : Int32, y = x3_lp13144 + (-1) := ⟨_, rfl⟩
          try (have t13288 := tadd e13287 rfl (b := (-1)) (by decide) (by omega))
          refine lv_iinc (v := z13286) (lv' := [(3, .int z13286), (0, .ref (g 0)), (1, .int p0), (2, .int p1)]) hx hb dX12_lostBy_36 hl (k := 0) rfl (by rw [e13287]; rfl) (by decide) rfl (fun ls hl => ?_)
          refine lv_goto (tgt := 7) hx hb dX12_lostBy_39 (by decide) ?_
          exact ih_lp13144 z13286 v_lp13144 F_lp13144 _ _ _ (by omega) (by omega) (by omega) hf_lp13144 hI hF hP hS (lv_sub hl [0, 1, 2, 3] rfl)
        · skip
          have t13289 := cv_nlt (a := p1.toInt) rfl (b := z13282.toInt) rfl c13284
          refine lv_aload_n hx hb dX12_lostBy_21 rfl (lv_at hl 1 rfl) ?_
          refine va_get (D := (dC, dI)) (ci := 12) (v := .ref (g 26)) (C := RX12) (T := TX12) (N := 63) hx hb hwd inA_X12 hown hK hP 0 rfl rfl 33 (by decide) (hwd _ wk_208) (fun _ h9 => h9) rfl dX12_lostBy_22 ?_
          refine lv_iload_n hx hb dX12_lostBy_25 rfl (lv_at hl 0 rfl) ?_
          refine va_iald hx hb hK hP 26 25 rfl rfl (i := x3_lp13144) (vin (a := x3_lp13144.toInt) rfl (by omega)) dX12_lostBy_26 ?_
          refine lv_topi (fun z13290 e13291 => ?_)
          have e13291 : z13290 = F 26 (x3_lp13144 : Int32).toNatClampNeg := e13291.trans (congrFun (hF 26 (by decide)) _)
          refine lv_aload_n hx hb dX12_lostBy_27 rfl (lv_at hl 1 rfl) ?_
          refine va_get (D := (dC, dI)) (ci := 12) (v := .ref (g 18)) (C := RX12) (T := TX12) (N := 63) hx hb hwd inA_X12 hown hK hP 0 rfl rfl 23 (by decide) (hwd _ wk_199) (fun _ h9 => h9) rfl dX12_lostBy_28 ?_
          refine lv_iload_n hx hb dX12_lostBy_31 rfl (lv_at hl 2 rfl) ?_
          refine va_iald hx hb hK hP 18 17 rfl rfl (i := p0) (vin (a := p0.toInt) rfl (by omega)) dX12_lostBy_32 ?_
          refine lv_topi (fun z13292 e13293 => ?_)
          have e13293 : z13292 = F 18 (p0 : Int32).toNatClampNeg := e13293.trans (congrFun (hF 18 (by decide)) _)
          refine lv_icmp_le (tgt := 42) hx hb dX12_lostBy_33 (by decide) (fun c13294 => ?_) (fun c13294 => ?_)
          · skip
            have t13295 := cv_le (a := z13290.toInt) rfl (b := z13292.toInt) rfl c13294
            refine lv_iload_n hx hb dX12_lostBy_42 rfl (lv_at hl 0 rfl) ?_
            refine lv_if_ge (tgt := 48) hx hb dX12_lostBy_43 (by decide) (fun c13296 => ?_) (fun c13296 => ?_)
            · skip
              have t13297 := cv_le (a := 0) (by decide) (b := x3_lp13144.toInt) rfl c13296
              refine lv_iconst (v := 0) hx hb dX12_lostBy_48 (by decide) ?_
              refine lv_istore (lv' := [(4, .int 0), (3, .int x3_lp13144), (0, .ref (g 0)), (1, .int p0), (2, .int p1)]) hx hb dX12_lostBy_49 hl (by decide) rfl (fun ls hl => ?_)
              refine lv_iconst (v := 0) hx hb dX12_lostBy_51 (by decide) ?_
              refine lv_istore (lv' := [(5, .int 0), (4, .int 0), (3, .int x3_lp13144), (0, .ref (g 0)), (1, .int p0), (2, .int p1)]) hx hb dX12_lostBy_52 hl (by decide) rfl (fun ls hl => ?_)
              have lp13298 : ∀ (n : Nat) (x5_lp13298 : Int32) (x4_lp13298 : Int32) (v_lp13298 : Nat → Int32) (F_lp13298 : Nat → Nat → Int32) (H : Heap) (locs : List Loc) (ls : Array Slot), (0 ≤ x5_lp13298.toInt) → (2147483648 - x5_lp13298.toInt ≤ (n : Int)) → (∀ k, k ∉ ([] : List Nat) → v_lp13298 k = v_lp13144 k) → IM v_lp13298 F_lp13298 → (∀ k, k ∉ ([30, 31] : List Nat) → F_lp13298 k = F k) → va_P (dC, dI) classes (wM g c v_lp13298 F_lp13298 rc) H → va_S (AM g s.heap.size) s.heap H locs → lv_has ls 6 [(5, .int x5_lp13298), (4, .int x4_lp13298), (3, .int x3_lp13144), (0, .ref (g 0)), (1, .int p0), (2, .int p1)] → W p l e (headSpec (Cond.code yX12_lostBy cX12_lostBy 6 (some .int) :: wA) ({ frames := 3, cells := 0, slots := 0, locals := 120 })).room s m ([.ref (g 0), .int p0, .int p1] : List Value).toArray below meth c0 H locs 0 0 (MQ below (va_Qi (fun (r : Int32) (u : StM) => IM u.1 u.2.1 ∧ u.2.2 = rc ∧ (∀ k, k ∉ ([] : List Nat) → u.1 k = v k) ∧ (∀ k, k ∉ ([30, 31] : List Nat) → u.2.1 k = F k) ∧ 0 ≤ r.toInt ∧ r.toInt ≤ 100) (BM dC dI g c) (AM g s.heap.size)) ([.ref (g 0), .int p0, .int p1] : List Value).toArray s 0 0 (AM g s.heap.size)) (F0 m 54 ls []) := by
                intro n
                induction n with
                | zero =>
                  intro x5_lp13298 x4_lp13298 v_lp13298 F_lp13298 H locs ls t13299 hm hf_lp13298 hI hF hP hS hl
                  exfalso
                  have := i32_rng x5_lp13298
                  have := i32_rng x4_lp13298
                  have hI1 := hI.1
                  omega
                | succ n ih_lp13298 =>
                  intro x5_lp13298 x4_lp13298 v_lp13298 F_lp13298 H locs ls t13299 hm hf_lp13298 hI hF hP hS hl
                  have rx5_lp13298 := i32_rng x5_lp13298
                  have rx4_lp13298 := i32_rng x4_lp13298
                  refine lv_iload hx hb dX12_lostBy_54 (lv_at hl 0 rfl) ?_
                  refine lv_aload_n hx hb dX12_lostBy_56 rfl (lv_at hl 3 rfl) ?_
                  refine va_get (D := (dC, dI)) (ci := 12) (v := .int (v_lp13298 19)) (C := RX12) (T := TX12) (N := 63) hx hb hwd inA_X12 hown hK hP 0 rfl rfl 19 (by decide) (hwd _ wk_494) (fun _ h9 => h9) rfl dX12_lostBy_57 ?_
                  refine my_top (v := v 19) ((hf_lp13298 19 (by decide)).trans (hf_lp13144 19 (by decide))) ?_
                  have t13300 : 0 ≤ (v 19).toInt ∧ (v 19).toInt ≤ 500 := by have h9 := hI.1 19 _ _ rfl; rw [show v_lp13298 19 = v 19 from (hf_lp13298 19 (by decide)).trans (hf_lp13144 19 (by decide))] at h9; exact h9
                  refine lv_icmp_ge (tgt := 152) hx hb dX12_lostBy_60 (by decide) (fun c13301 => ?_) (fun c13301 => ?_)
                  · skip
                    have t13302 := cv_le (a := (v 19).toInt) rfl (b := x5_lp13298.toInt) rfl c13301
                    refine lv_aload_n hx hb dX12_lostBy_152 rfl (lv_at hl 3 rfl) ?_
                    refine va_get (D := (dC, dI)) (ci := 12) (v := .ref (g 31)) (C := RX12) (T := TX12) (N := 63) hx hb hwd inA_X12 hown hK hP 0 rfl rfl 44 (by decide) (hwd _ wk_213) (fun _ h9 => h9) rfl dX12_lostBy_153 ?_
                    refine lv_iconst (v := 0) hx hb dX12_lostBy_156 (by decide) ?_
                    refine lv_aload_n hx hb dX12_lostBy_157 rfl (lv_at hl 3 rfl) ?_
                    refine va_get (D := (dC, dI)) (ci := 12) (v := .ref (g 18)) (C := RX12) (T := TX12) (N := 63) hx hb hwd inA_X12 hown hK hP 0 rfl rfl 23 (by decide) (hwd _ wk_199) (fun _ h9 => h9) rfl dX12_lostBy_158 ?_
                    refine lv_iload_n hx hb dX12_lostBy_161 rfl (lv_at hl 4 rfl) ?_
                    refine va_iald hx hb hK hP 18 17 rfl rfl (i := p0) (vin (a := p0.toInt) rfl (by omega)) dX12_lostBy_162 ?_
                    refine lv_topi (fun z13303 e13304 => ?_)
                    have e13304 : z13303 = F 18 (p0 : Int32).toNatClampNeg := e13304.trans (congrFun (hF 18 (by decide)) _)
                    refine lv_aload_n hx hb dX12_lostBy_163 rfl (lv_at hl 3 rfl) ?_
                    refine va_get (D := (dC, dI)) (ci := 12) (v := .ref (g 17)) (C := RX12) (T := TX12) (N := 63) hx hb hwd inA_X12 hown hK hP 0 rfl rfl 22 (by decide) (hwd _ wk_198) (fun _ h9 => h9) rfl dX12_lostBy_164 ?_
                    refine lv_iload_n hx hb dX12_lostBy_167 rfl (lv_at hl 4 rfl) ?_
                    refine va_iald hx hb hK hP 17 16 rfl rfl (i := p0) (vin (a := p0.toInt) rfl (by omega)) dX12_lostBy_168 ?_
                    refine lv_topi (fun z13305 e13306 => ?_)
                    have e13306 : z13305 = F 17 (p0 : Int32).toNatClampNeg := e13306.trans (congrFun (hF 17 (by decide)) _)
                    refine lv_isub hx hb dX12_lostBy_169 ?_
                    refine lv_topi (fun z13307 e13308 => ?_)
                    try (have t13309 := tsub e13308 (a := z13303.toInt) rfl (b := z13305.toInt) rfl (by omega))
                    refine va_iast hx hb hK hP (DM hg) hS 31 30 rfl rfl (i := 0) (x := z13307) (vin (a := 0) (by decide) (by omega)) dX12_lostBy_170 (fun H locs hP _ hS => ?_)
                    have hP := va_P_eq (sM_31 g c _ _ _ _) hP
                    have hI := IM.store0 hI 31 (0 : Int32).toNatClampNeg z13307 rfl
                    have hF := frUF (k := 31) (f := upd (F_lp13298 31) (0 : Int32).toNatClampNeg z13307) (by decide) hF
                    have hP : va_P (dC, dI) classes (wM g c v_lp13298 (va_up F_lp13298 31 (upd (F_lp13298 31) (0 : Int32).toNatClampNeg z13307)) rc) H := hP
                    generalize (va_up F_lp13298 31 (upd (F_lp13298 31) (0 : Int32).toNatClampNeg z13307)) = F13310 at hP hI hF
                    refine lv_aload_n hx hb dX12_lostBy_171 rfl (lv_at hl 3 rfl) ?_
                    refine va_get (D := (dC, dI)) (ci := 12) (v := .ref (g 31)) (C := RX12) (T := TX12) (N := 63) hx hb hwd inA_X12 hown hK hP 0 rfl rfl 44 (by decide) (hwd _ wk_213) (fun _ h9 => h9) rfl dX12_lostBy_172 ?_
                    refine lv_iconst (v := 1) hx hb dX12_lostBy_175 (by decide) ?_
                    refine lv_aload_n hx hb dX12_lostBy_176 rfl (lv_at hl 3 rfl) ?_
                    refine va_get (D := (dC, dI)) (ci := 12) (v := .ref (g 20)) (C := RX12) (T := TX12) (N := 63) hx hb hwd inA_X12 hown hK hP 0 rfl rfl 25 (by decide) (hwd _ wk_201) (fun _ h9 => h9) rfl dX12_lostBy_177 ?_
                    refine lv_iload_n hx hb dX12_lostBy_180 rfl (lv_at hl 4 rfl) ?_
                    refine va_iald hx hb hK hP 20 19 rfl rfl (i := p0) (vin (a := p0.toInt) rfl (by omega)) dX12_lostBy_181 ?_
                    refine lv_topi (fun z13311 e13312 => ?_)
                    have e13312 : z13311 = F 20 (p0 : Int32).toNatClampNeg := e13312.trans (congrFun (hF 20 (by decide)) _)
                    refine lv_aload_n hx hb dX12_lostBy_182 rfl (lv_at hl 3 rfl) ?_
                    refine va_get (D := (dC, dI)) (ci := 12) (v := .ref (g 19)) (C := RX12) (T := TX12) (N := 63) hx hb hwd inA_X12 hown hK hP 0 rfl rfl 24 (by decide) (hwd _ wk_200) (fun _ h9 => h9) rfl dX12_lostBy_183 ?_
                    refine lv_iload_n hx hb dX12_lostBy_186 rfl (lv_at hl 4 rfl) ?_
                    refine va_iald hx hb hK hP 19 18 rfl rfl (i := p0) (vin (a := p0.toInt) rfl (by omega)) dX12_lostBy_187 ?_
                    refine lv_topi (fun z13313 e13314 => ?_)
                    have e13314 : z13313 = F 19 (p0 : Int32).toNatClampNeg := e13314.trans (congrFun (hF 19 (by decide)) _)
                    refine lv_isub hx hb dX12_lostBy_188 ?_
                    refine lv_topi (fun z13315 e13316 => ?_)
                    try (have t13317 := tsub e13316 (a := z13311.toInt) rfl (b := z13313.toInt) rfl (by omega))
                    refine va_iast hx hb hK hP (DM hg) hS 31 30 rfl rfl (i := 1) (x := z13315) (vin (a := 1) (by decide) (by omega)) dX12_lostBy_189 (fun H locs hP _ hS => ?_)
                    have hP := va_P_eq (sM_31 g c _ _ _ _) hP
                    have hI := IM.store0 hI 31 (1 : Int32).toNatClampNeg z13315 rfl
                    have hF := frUF (k := 31) (f := upd (F13310 31) (1 : Int32).toNatClampNeg z13315) (by decide) hF
                    have hP : va_P (dC, dI) classes (wM g c v_lp13298 (va_up F13310 31 (upd (F13310 31) (1 : Int32).toNatClampNeg z13315)) rc) H := hP
                    generalize (va_up F13310 31 (upd (F13310 31) (1 : Int32).toNatClampNeg z13315)) = F13318 at hP hI hF
                    refine lv_aload_n hx hb dX12_lostBy_190 rfl (lv_at hl 3 rfl) ?_
                    refine va_get (D := (dC, dI)) (ci := 12) (v := .ref (g 31)) (C := RX12) (T := TX12) (N := 63) hx hb hwd inA_X12 hown hK hP 0 rfl rfl 44 (by decide) (hwd _ wk_213) (fun _ h9 => h9) rfl dX12_lostBy_191 ?_
                    refine lv_iconst (v := 2) hx hb dX12_lostBy_194 (by decide) ?_
                    refine lv_aload_n hx hb dX12_lostBy_195 rfl (lv_at hl 3 rfl) ?_
                    refine va_get (D := (dC, dI)) (ci := 12) (v := .ref (g 22)) (C := RX12) (T := TX12) (N := 63) hx hb hwd inA_X12 hown hK hP 0 rfl rfl 27 (by decide) (hwd _ wk_203) (fun _ h9 => h9) rfl dX12_lostBy_196 ?_
                    refine lv_iload_n hx hb dX12_lostBy_199 rfl (lv_at hl 4 rfl) ?_
                    refine va_iald hx hb hK hP 22 21 rfl rfl (i := p0) (vin (a := p0.toInt) rfl (by omega)) dX12_lostBy_200 ?_
                    refine lv_topi (fun z13319 e13320 => ?_)
                    have e13320 : z13319 = F 22 (p0 : Int32).toNatClampNeg := e13320.trans (congrFun (hF 22 (by decide)) _)
                    refine lv_aload_n hx hb dX12_lostBy_201 rfl (lv_at hl 3 rfl) ?_
                    refine va_get (D := (dC, dI)) (ci := 12) (v := .ref (g 21)) (C := RX12) (T := TX12) (N := 63) hx hb hwd inA_X12 hown hK hP 0 rfl rfl 26 (by decide) (hwd _ wk_202) (fun _ h9 => h9) rfl dX12_lostBy_202 ?_
                    refine lv_iload_n hx hb dX12_lostBy_205 rfl (lv_at hl 4 rfl) ?_
                    refine va_iald hx hb hK hP 21 20 rfl rfl (i := p0) (vin (a := p0.toInt) rfl (by omega)) dX12_lostBy_206 ?_
                    refine lv_topi (fun z13321 e13322 => ?_)
                    have e13322 : z13321 = F 21 (p0 : Int32).toNatClampNeg := e13322.trans (congrFun (hF 21 (by decide)) _)
                    refine lv_isub hx hb dX12_lostBy_207 ?_
                    refine lv_topi (fun z13323 e13324 => ?_)
                    try (have t13325 := tsub e13324 (a := z13319.toInt) rfl (b := z13321.toInt) rfl (by omega))
                    refine va_iast hx hb hK hP (DM hg) hS 31 30 rfl rfl (i := 2) (x := z13323) (vin (a := 2) (by decide) (by omega)) dX12_lostBy_208 (fun H locs hP _ hS => ?_)
                    have hP := va_P_eq (sM_31 g c _ _ _ _) hP
                    have hI := IM.store0 hI 31 (2 : Int32).toNatClampNeg z13323 rfl
                    have hF := frUF (k := 31) (f := upd (F13318 31) (2 : Int32).toNatClampNeg z13323) (by decide) hF
                    have hP : va_P (dC, dI) classes (wM g c v_lp13298 (va_up F13318 31 (upd (F13318 31) (2 : Int32).toNatClampNeg z13323)) rc) H := hP
                    generalize (va_up F13318 31 (upd (F13318 31) (2 : Int32).toNatClampNeg z13323)) = F13326 at hP hI hF
                    refine lv_aload_n hx hb dX12_lostBy_209 rfl (lv_at hl 3 rfl) ?_
                    refine va_get (D := (dC, dI)) (ci := 12) (v := .ref (g 31)) (C := RX12) (T := TX12) (N := 63) hx hb hwd inA_X12 hown hK hP 0 rfl rfl 44 (by decide) (hwd _ wk_213) (fun _ h9 => h9) rfl dX12_lostBy_210 ?_
                    refine lv_iconst (v := 3) hx hb dX12_lostBy_213 (by decide) ?_
                    refine lv_aload_n hx hb dX12_lostBy_214 rfl (lv_at hl 3 rfl) ?_
                    refine va_get (D := (dC, dI)) (ci := 12) (v := .ref (g 16)) (C := RX12) (T := TX12) (N := 63) hx hb hwd inA_X12 hown hK hP 0 rfl rfl 21 (by decide) (hwd _ wk_197) (fun _ h9 => h9) rfl dX12_lostBy_215 ?_
                    refine lv_iload_n hx hb dX12_lostBy_218 rfl (lv_at hl 4 rfl) ?_
                    refine va_iald hx hb hK hP 16 15 rfl rfl (i := p0) (vin (a := p0.toInt) rfl (by omega)) dX12_lostBy_219 ?_
                    refine lv_topi (fun z13327 e13328 => ?_)
                    have t13329 : 0 ≤ z13327.toInt ∧ z13327.toInt ≤ 11 := by rw [e13328]; exact hI.2 16 _ _ rfl _
                    have e13328 : z13327 = F 16 (p0 : Int32).toNatClampNeg := e13328.trans (congrFun (hF 16 (by decide)) _)
                    refine va_iast hx hb hK hP (DM hg) hS 31 30 rfl rfl (i := 3) (x := z13327) (vin (a := 3) (by decide) (by omega)) dX12_lostBy_220 (fun H locs hP _ hS => ?_)
                    have hP := va_P_eq (sM_31 g c _ _ _ _) hP
                    have hI := IM.store0 hI 31 (3 : Int32).toNatClampNeg z13327 rfl
                    have hF := frUF (k := 31) (f := upd (F13326 31) (3 : Int32).toNatClampNeg z13327) (by decide) hF
                    have hP : va_P (dC, dI) classes (wM g c v_lp13298 (va_up F13326 31 (upd (F13326 31) (3 : Int32).toNatClampNeg z13327)) rc) H := hP
                    generalize (va_up F13326 31 (upd (F13326 31) (3 : Int32).toNatClampNeg z13327)) = F13330 at hP hI hF
                    refine lv_aload_n hx hb dX12_lostBy_221 rfl (lv_at hl 3 rfl) ?_
                    refine va_get (D := (dC, dI)) (ci := 12) (v := .ref (g 31)) (C := RX12) (T := TX12) (N := 63) hx hb hwd inA_X12 hown hK hP 0 rfl rfl 44 (by decide) (hwd _ wk_213) (fun _ h9 => h9) rfl dX12_lostBy_222 ?_
                    refine lv_iconst (v := 4) hx hb dX12_lostBy_225 (by decide) ?_
                    refine lv_aload_n hx hb dX12_lostBy_226 rfl (lv_at hl 3 rfl) ?_
                    refine va_get (D := (dC, dI)) (ci := 12) (v := .ref (g 11)) (C := RX12) (T := TX12) (N := 63) hx hb hwd inA_X12 hown hK hP 0 rfl rfl 15 (by decide) (hwd _ wk_192) (fun _ h9 => h9) rfl dX12_lostBy_227 ?_
                    refine lv_aload_n hx hb dX12_lostBy_230 rfl (lv_at hl 3 rfl) ?_
                    refine va_get (D := (dC, dI)) (ci := 12) (v := .ref (g 15)) (C := RX12) (T := TX12) (N := 63) hx hb hwd inA_X12 hown hK hP 0 rfl rfl 20 (by decide) (hwd _ wk_196) (fun _ h9 => h9) rfl dX12_lostBy_231 ?_
                    refine lv_iload_n hx hb dX12_lostBy_234 rfl (lv_at hl 4 rfl) ?_
                    refine va_iald hx hb hK hP 15 14 rfl rfl (i := p0) (vin (a := p0.toInt) rfl (by omega)) dX12_lostBy_235 ?_
                    refine lv_topi (fun z13331 e13332 => ?_)
                    have t13333 : 0 ≤ z13331.toInt ∧ z13331.toInt ≤ 99 := by rw [e13332]; exact hI.2 15 _ _ rfl _
                    have e13332 : z13331 = F 15 (p0 : Int32).toNatClampNeg := e13332.trans (congrFun (hF 15 (by decide)) _)
                    refine va_iald hx hb hK hP 11 10 rfl rfl (i := z13331) (vin (a := z13331.toInt) rfl (by omega)) dX12_lostBy_236 ?_
                    refine lv_topi (fun z13334 e13335 => ?_)
                    have t13336 : 0 ≤ z13334.toInt ∧ z13334.toInt ≤ 9 := by rw [e13335]; exact hI.2 11 _ _ rfl _
                    have e13335 : z13334 = F 11 (z13331 : Int32).toNatClampNeg := e13335.trans (congrFun (hF 11 (by decide)) _)
                    refine va_iast hx hb hK hP (DM hg) hS 31 30 rfl rfl (i := 4) (x := z13334) (vin (a := 4) (by decide) (by omega)) dX12_lostBy_237 (fun H locs hP _ hS => ?_)
                    have hP := va_P_eq (sM_31 g c _ _ _ _) hP
                    have hI := IM.store0 hI 31 (4 : Int32).toNatClampNeg z13334 rfl
                    have hF := frUF (k := 31) (f := upd (F13330 31) (4 : Int32).toNatClampNeg z13334) (by decide) hF
                    have hP : va_P (dC, dI) classes (wM g c v_lp13298 (va_up F13330 31 (upd (F13330 31) (4 : Int32).toNatClampNeg z13334)) rc) H := hP
                    generalize (va_up F13330 31 (upd (F13330 31) (4 : Int32).toNatClampNeg z13334)) = F13337 at hP hI hF
                    refine lv_aload_n hx hb dX12_lostBy_238 rfl (lv_at hl 3 rfl) ?_
                    refine va_get (D := (dC, dI)) (ci := 12) (v := .ref (g 31)) (C := RX12) (T := TX12) (N := 63) hx hb hwd inA_X12 hown hK hP 0 rfl rfl 44 (by decide) (hwd _ wk_213) (fun _ h9 => h9) rfl dX12_lostBy_239 ?_
                    refine lv_iconst (v := 5) hx hb dX12_lostBy_242 (by decide) ?_
                    refine lv_iload hx hb dX12_lostBy_243 (lv_at hl 1 rfl) ?_
                    refine va_iast hx hb hK hP (DM hg) hS 31 30 rfl rfl (i := 5) (x := x4_lp13298) (vin (a := 5) (by decide) (by omega)) dX12_lostBy_245 (fun H locs hP _ hS => ?_)
                    have hP := va_P_eq (sM_31 g c _ _ _ _) hP
                    have hI := IM.store0 hI 31 (5 : Int32).toNatClampNeg x4_lp13298 rfl
                    have hF := frUF (k := 31) (f := upd (F13337 31) (5 : Int32).toNatClampNeg x4_lp13298) (by decide) hF
                    have hP : va_P (dC, dI) classes (wM g c v_lp13298 (va_up F13337 31 (upd (F13337 31) (5 : Int32).toNatClampNeg x4_lp13298)) rc) H := hP
                    generalize (va_up F13337 31 (upd (F13337 31) (5 : Int32).toNatClampNeg x4_lp13298)) = F13338 at hP hI hF
                    refine lv_aload_n hx hb dX12_lostBy_246 rfl (lv_at hl 3 rfl) ?_
                    refine lv_iload_n hx hb dX12_lostBy_247 rfl (lv_at hl 2 rfl) ?_
                    refine va_calli (va_runV (As := [.int x3_lp13144]) (rest := []) ⟨hx, hb, hml, hown, hwd⟩ (c_X12_works l dC dI g c adK adV v_lp13298 F13338 rc H.size x3_lp13144 hg hI (by omega) (JL.at' (JL.to hL rfl (hF 28 (by decide)) (hF 29 (by decide)) (hF 27 (by decide))) (i := x3_lp13144) (by omega) (by omega))) (cwV 1 hwd (gV wk_513 wk_510 wk_511 wk_512 wk_5) rfl rfl rfl (by decide +kernel) ⟨Nat.le_of_ble_eq_true rfl, Nat.le_of_ble_eq_true rfl⟩) ⟨PM.blind, va_recv hK hP (ci := 12) (q0 := 0) rfl rfl, fun U hU hW => ⟨rfl, PM.at hK hE hP hS hU hW⟩⟩ rfl rfl hl.1 rfl (lv_room (Nat.le_of_ble_eq_true rfl)) dX12_lostBy_248 ⟨Nat.le_of_ble_eq_true rfl, Nat.le_of_ble_eq_true rfl⟩) hS (fun q _ h => (freeM hS) q h) (freeM hS) (fun r13339 u t H1 locs ht hvm hw hB hz1 hk1 hS => ?_)
                    unfold BM at hB
                    rw [ht] at hB
                    obtain ⟨v13340, F13341, rc9⟩ := u
                    obtain ⟨hI, hrc, hf13342, hG13343, hw⟩ := hw
                    dsimp only at hI hrc hB hf13342 hG13343 hw
                    have hF := frCF (by decide) hG13343 hF
                    rw [hrc] at hB
                    have hP : va_P (dC, dI) classes (wM g c v13340 F13341 rc) H1 := hB
                    clear hz1
                    generalize H1 = H at hP hS ⊢
                    have rr_r13339 := i32_rng r13339
                    refine lv_istore (lv' := [(5, .int r13339), (4, .int x4_lp13298), (3, .int x3_lp13144), (0, .ref (g 0)), (1, .int p0), (2, .int p1)]) hx hb dX12_lostBy_251 hl (by decide) rfl (fun ls hl => ?_)
                    refine lv_iload hx hb dX12_lostBy_253 (lv_at hl 0 rfl) ?_
                    refine lv_if_ge (tgt := 262) hx hb dX12_lostBy_255 (by decide) (fun c13344 => ?_) (fun c13344 => ?_)
                    · skip
                      have t13345 := cv_le (a := 0) (by decide) (b := r13339.toInt) rfl c13344
                      refine lv_iload hx hb dX12_lostBy_262 (lv_at hl 0 rfl) ?_
                      refine lv_bipush (v := 100) hx hb dX12_lostBy_264 (by decide) ?_
                      refine lv_icmp_le (tgt := 274) hx hb dX12_lostBy_266 (by decide) (fun c13346 => ?_) (fun c13346 => ?_)
                      · skip
                        have t13347 := cv_le (a := r13339.toInt) rfl (b := 100) (by decide) c13346
                        refine lv_iload hx hb dX12_lostBy_274 (lv_at hl 0 rfl) ?_
                        have hP9 : va_P (dC, dI) classes (wM g c v13340 F13341 rc) H := hP
                        exact W.iret (v := r13339) hx hb hr (fun t ht hW => ⟨⟨r13339, (v13340, F13341, rc), rfl, ⟨hI, rfl, (frC (by decide) hf13342 (frC (by decide) hf_lp13298 (frC (by decide) hf_lp13144 (fun _ _ => rfl)))), hF, by omega⟩, (by show va_P _ _ _ t.heap; rw [ht]; exact hP9)⟩, hS.F ht⟩) hS.2.2 dX12_lostBy_276
                      · skip
                        have t13348 := cv_nle (a := r13339.toInt) rfl (b := 100) (by decide) c13346
                        refine lv_bipush (v := 100) hx hb dX12_lostBy_269 (by decide) ?_
                        refine lv_goto (tgt := 276) hx hb dX12_lostBy_271 (by decide) ?_
                        have hP9 : va_P (dC, dI) classes (wM g c v13340 F13341 rc) H := hP
                        exact W.iret (v := 100) hx hb hr (fun t ht hW => ⟨⟨100, (v13340, F13341, rc), rfl, ⟨hI, rfl, (frC (by decide) hf13342 (frC (by decide) hf_lp13298 (frC (by decide) hf_lp13144 (fun _ _ => rfl)))), hF, by have : (100 : Int32).toInt = 100 := (by decide); omega⟩, (by show va_P _ _ _ t.heap; rw [ht]; exact hP9)⟩, hS.F ht⟩) hS.2.2 dX12_lostBy_276
                    · skip
                      have t13349 := cv_nle (a := 0) (by decide) (b := r13339.toInt) rfl c13344
                      refine lv_iconst (v := 0) hx hb dX12_lostBy_258 (by decide) ?_
                      refine lv_goto (tgt := 276) hx hb dX12_lostBy_259 (by decide) ?_
                      have hP9 : va_P (dC, dI) classes (wM g c v13340 F13341 rc) H := hP
                      exact W.iret (v := 0) hx hb hr (fun t ht hW => ⟨⟨0, (v13340, F13341, rc), rfl, ⟨hI, rfl, (frC (by decide) hf13342 (frC (by decide) hf_lp13298 (frC (by decide) hf_lp13144 (fun _ _ => rfl)))), hF, by have : (0 : Int32).toInt = 0 := (by decide); omega⟩, (by show va_P _ _ _ t.heap; rw [ht]; exact hP9)⟩, hS.F ht⟩) hS.2.2 dX12_lostBy_276
                  · skip
                    have t13350 := cv_nle (a := (v 19).toInt) rfl (b := x5_lp13298.toInt) rfl c13301
                    refine lv_iload hx hb dX12_lostBy_63 (lv_at hl 1 rfl) ?_
                    refine lv_iload hx hb dX12_lostBy_65 (lv_at hl 0 rfl) ?_
                    refine lv_iload_n hx hb dX12_lostBy_67 rfl (lv_at hl 4 rfl) ?_
                    refine lv_icmp_eq (tgt := 142) hx hb dX12_lostBy_68 (by decide) (fun c13351 => ?_) (fun c13351 => ?_)
                    · skip
                      have t13352 := cv_eq (a := x5_lp13298.toInt) rfl (b := p0.toInt) rfl c13351
                      refine lv_iconst (v := 0) hx hb dX12_lostBy_142 (by decide) ?_
                      refine lv_iadd hx hb dX12_lostBy_143 ?_
                      refine lv_topi (fun z13353 e13354 => ?_)
                      try (have t13355 := tadd e13354 (a := x4_lp13298.toInt) rfl (b := 0) (by decide) (by omega))
                      refine lv_istore (lv' := [(4, .int z13353), (5, .int x5_lp13298), (3, .int x3_lp13144), (0, .ref (g 0)), (1, .int p0), (2, .int p1)]) hx hb dX12_lostBy_144 hl (by decide) rfl (fun ls hl => ?_)
                      obtain ⟨z13356, e13357⟩ : ∃ y : Int32, y = x5_lp13298 + 1 := ⟨_, rfl⟩
                      try (have t13358 := tadd e13357 rfl (b := 1) (by decide) (by omega))
                      refine lv_iinc (v := z13356) (lv' := [(5, .int z13356), (4, .int z13353), (3, .int x3_lp13144), (0, .ref (g 0)), (1, .int p0), (2, .int p1)]) hx hb dX12_lostBy_146 hl (k := 1) rfl (by rw [e13357]; rfl) (by decide) rfl (fun ls hl => ?_)
                      refine lv_goto (tgt := 54) hx hb dX12_lostBy_149 (by decide) ?_
                      exact ih_lp13298 z13356 z13353 v_lp13298 F_lp13298 _ _ _ (by omega) (by omega) hf_lp13298 hI hF hP hS (lv_sub hl [0, 1, 2, 3, 4, 5] rfl)
                    · skip
                      have t13359 := cv_ne (a := x5_lp13298.toInt) rfl (b := p0.toInt) rfl c13351
                      refine lv_aload_n hx hb dX12_lostBy_71 rfl (lv_at hl 3 rfl) ?_
                      refine va_get (D := (dC, dI)) (ci := 12) (v := .ref (g 15)) (C := RX12) (T := TX12) (N := 63) hx hb hwd inA_X12 hown hK hP 0 rfl rfl 20 (by decide) (hwd _ wk_196) (fun _ h9 => h9) rfl dX12_lostBy_72 ?_
                      refine lv_iload hx hb dX12_lostBy_75 (lv_at hl 0 rfl) ?_
                      refine va_iald hx hb hK hP 15 14 rfl rfl (i := x5_lp13298) (vin (a := x5_lp13298.toInt) rfl (by omega)) dX12_lostBy_77 ?_
                      refine lv_topi (fun z13360 e13361 => ?_)
                      have t13362 : 0 ≤ z13360.toInt ∧ z13360.toInt ≤ 99 := by rw [e13361]; exact hI.2 15 _ _ rfl _
                      have e13361 : z13360 = F 15 (x5_lp13298 : Int32).toNatClampNeg := e13361.trans (congrFun (hF 15 (by decide)) _)
                      refine lv_aload_n hx hb dX12_lostBy_78 rfl (lv_at hl 3 rfl) ?_
                      refine va_get (D := (dC, dI)) (ci := 12) (v := .ref (g 15)) (C := RX12) (T := TX12) (N := 63) hx hb hwd inA_X12 hown hK hP 0 rfl rfl 20 (by decide) (hwd _ wk_196) (fun _ h9 => h9) rfl dX12_lostBy_79 ?_
                      refine lv_iload_n hx hb dX12_lostBy_82 rfl (lv_at hl 4 rfl) ?_
                      refine va_iald hx hb hK hP 15 14 rfl rfl (i := p0) (vin (a := p0.toInt) rfl (by omega)) dX12_lostBy_83 ?_
                      refine lv_topi (fun z13363 e13364 => ?_)
                      have t13365 : 0 ≤ z13363.toInt ∧ z13363.toInt ≤ 99 := by rw [e13364]; exact hI.2 15 _ _ rfl _
                      have e13364 : z13363 = F 15 (p0 : Int32).toNatClampNeg := e13364.trans (congrFun (hF 15 (by decide)) _)
                      refine lv_icmp_ne (tgt := 142) hx hb dX12_lostBy_84 (by decide) (fun c13366 => ?_) (fun c13366 => ?_)
                      · skip
                        have t13367 := cv_ne (a := z13360.toInt) rfl (b := z13363.toInt) rfl c13366
                        refine lv_iconst (v := 0) hx hb dX12_lostBy_142 (by decide) ?_
                        refine lv_iadd hx hb dX12_lostBy_143 ?_
                        refine lv_topi (fun z13368 e13369 => ?_)
                        try (have t13370 := tadd e13369 (a := x4_lp13298.toInt) rfl (b := 0) (by decide) (by omega))
                        refine lv_istore (lv' := [(4, .int z13368), (5, .int x5_lp13298), (3, .int x3_lp13144), (0, .ref (g 0)), (1, .int p0), (2, .int p1)]) hx hb dX12_lostBy_144 hl (by decide) rfl (fun ls hl => ?_)
                        obtain ⟨z13371, e13372⟩ : ∃ y : Int32, y = x5_lp13298 + 1 := ⟨_, rfl⟩
                        try (have t13373 := tadd e13372 rfl (b := 1) (by decide) (by omega))
                        refine lv_iinc (v := z13371) (lv' := [(5, .int z13371), (4, .int z13368), (3, .int x3_lp13144), (0, .ref (g 0)), (1, .int p0), (2, .int p1)]) hx hb dX12_lostBy_146 hl (k := 1) rfl (by rw [e13372]; rfl) (by decide) rfl (fun ls hl => ?_)
                        refine lv_goto (tgt := 54) hx hb dX12_lostBy_149 (by decide) ?_
                        exact ih_lp13298 z13371 z13368 v_lp13298 F_lp13298 _ _ _ (by omega) (by omega) hf_lp13298 hI hF hP hS (lv_sub hl [0, 1, 2, 3, 4, 5] rfl)
                      · skip
                        have t13374 := cv_eq (a := z13360.toInt) rfl (b := z13363.toInt) rfl c13366
                        refine lv_aload_n hx hb dX12_lostBy_87 rfl (lv_at hl 3 rfl) ?_
                        refine lv_iload hx hb dX12_lostBy_88 (lv_at hl 0 rfl) ?_
                        refine va_calli (va_runV (As := [.int x5_lp13298]) (rest := [.int x4_lp13298]) ⟨hx, hb, hml, hown, hwd⟩ (c_X12_isGap l dC dI g c adK adV v_lp13298 F_lp13298 rc H.size x5_lp13298 hg hI (by omega)) (cwV 1 hwd (gV wk_499 wk_496 wk_497 wk_498 wk_5) rfl rfl rfl (by decide +kernel) ⟨Nat.le_of_ble_eq_true rfl, Nat.le_of_ble_eq_true rfl⟩) ⟨PM.blind, va_recv hK hP (ci := 12) (q0 := 0) rfl rfl, fun U hU hW => ⟨rfl, PM.at hK hE hP hS hU hW⟩⟩ rfl rfl hl.1 rfl (lv_room (Nat.le_of_ble_eq_true rfl)) dX12_lostBy_90 ⟨Nat.le_of_ble_eq_true rfl, Nat.le_of_ble_eq_true rfl⟩) hS (fun q _ h => (freeM hS) q h) (freeM hS) (fun r13375 u t H1 locs ht hvm hw hB hz1 hk1 hS => ?_)
                        unfold BM at hB
                        rw [ht] at hB
                        have hP : va_P (dC, dI) classes (wM g c v_lp13298 F_lp13298 rc) H1 := hB
                        have hw_r13375 : 0 ≤ r13375.toInt ∧ r13375.toInt ≤ 1 := hw
                        clear hw
                        clear hz1
                        generalize H1 = H at hP hS ⊢
                        refine lv_if_eq (tgt := 142) hx hb dX12_lostBy_93 (by decide) (fun c13376 => ?_) (fun c13376 => ?_)
                        · skip
                          have t13377 := cv_eq (a := r13375.toInt) rfl (b := 0) (by decide) c13376
                          refine lv_iconst (v := 0) hx hb dX12_lostBy_142 (by decide) ?_
                          refine lv_iadd hx hb dX12_lostBy_143 ?_
                          refine lv_topi (fun z13378 e13379 => ?_)
                          try (have t13380 := tadd e13379 (a := x4_lp13298.toInt) rfl (b := 0) (by decide) (by omega))
                          refine lv_istore (lv' := [(4, .int z13378), (5, .int x5_lp13298), (3, .int x3_lp13144), (0, .ref (g 0)), (1, .int p0), (2, .int p1)]) hx hb dX12_lostBy_144 hl (by decide) rfl (fun ls hl => ?_)
                          obtain ⟨z13381, e13382⟩ : ∃ y : Int32, y = x5_lp13298 + 1 := ⟨_, rfl⟩
                          try (have t13383 := tadd e13382 rfl (b := 1) (by decide) (by omega))
                          refine lv_iinc (v := z13381) (lv' := [(5, .int z13381), (4, .int z13378), (3, .int x3_lp13144), (0, .ref (g 0)), (1, .int p0), (2, .int p1)]) hx hb dX12_lostBy_146 hl (k := 1) rfl (by rw [e13382]; rfl) (by decide) rfl (fun ls hl => ?_)
                          refine lv_goto (tgt := 54) hx hb dX12_lostBy_149 (by decide) ?_
                          exact ih_lp13298 z13381 z13378 v_lp13298 F_lp13298 _ _ _ (by omega) (by omega) hf_lp13298 hI hF hP hS (lv_sub hl [0, 1, 2, 3, 4, 5] rfl)
                        · skip
                          have t13384 := cv_ne (a := r13375.toInt) rfl (b := 0) (by decide) c13376
                          refine lv_aload_n hx hb dX12_lostBy_96 rfl (lv_at hl 3 rfl) ?_
                          refine va_get (D := (dC, dI)) (ci := 12) (v := .ref (g 18)) (C := RX12) (T := TX12) (N := 63) hx hb hwd inA_X12 hown hK hP 0 rfl rfl 23 (by decide) (hwd _ wk_199) (fun _ h9 => h9) rfl dX12_lostBy_97 ?_
                          refine lv_iload hx hb dX12_lostBy_100 (lv_at hl 0 rfl) ?_
                          refine va_iald hx hb hK hP 18 17 rfl rfl (i := x5_lp13298) (vin (a := x5_lp13298.toInt) rfl (by omega)) dX12_lostBy_102 ?_
                          refine lv_topi (fun z13385 e13386 => ?_)
                          have e13386 : z13385 = F 18 (x5_lp13298 : Int32).toNatClampNeg := e13386.trans (congrFun (hF 18 (by decide)) _)
                          refine lv_aload_n hx hb dX12_lostBy_103 rfl (lv_at hl 3 rfl) ?_
                          refine va_get (D := (dC, dI)) (ci := 12) (v := .ref (g 18)) (C := RX12) (T := TX12) (N := 63) hx hb hwd inA_X12 hown hK hP 0 rfl rfl 23 (by decide) (hwd _ wk_199) (fun _ h9 => h9) rfl dX12_lostBy_104 ?_
                          refine lv_iload_n hx hb dX12_lostBy_107 rfl (lv_at hl 4 rfl) ?_
                          refine va_iald hx hb hK hP 18 17 rfl rfl (i := p0) (vin (a := p0.toInt) rfl (by omega)) dX12_lostBy_108 ?_
                          refine lv_topi (fun z13387 e13388 => ?_)
                          have e13388 : z13387 = F 18 (p0 : Int32).toNatClampNeg := e13388.trans (congrFun (hF 18 (by decide)) _)
                          refine lv_icmp_lt (tgt := 138) hx hb dX12_lostBy_109 (by decide) (fun c13389 => ?_) (fun c13389 => ?_)
                          · skip
                            have t13390 := cv_lt (a := z13385.toInt) rfl (b := z13387.toInt) rfl c13389
                            refine lv_iconst (v := 1) hx hb dX12_lostBy_138 (by decide) ?_
                            refine lv_goto (tgt := 143) hx hb dX12_lostBy_139 (by decide) ?_
                            refine lv_iadd hx hb dX12_lostBy_143 ?_
                            refine lv_topi (fun z13391 e13392 => ?_)
                            try (have t13393 := tadd e13392 (a := x4_lp13298.toInt) rfl (b := 1) (by decide) (by omega))
                            refine lv_istore (lv' := [(4, .int z13391), (5, .int x5_lp13298), (3, .int x3_lp13144), (0, .ref (g 0)), (1, .int p0), (2, .int p1)]) hx hb dX12_lostBy_144 hl (by decide) rfl (fun ls hl => ?_)
                            obtain ⟨z13394, e13395⟩ : ∃ y : Int32, y = x5_lp13298 + 1 := ⟨_, rfl⟩
                            try (have t13396 := tadd e13395 rfl (b := 1) (by decide) (by omega))
                            refine lv_iinc (v := z13394) (lv' := [(5, .int z13394), (4, .int z13391), (3, .int x3_lp13144), (0, .ref (g 0)), (1, .int p0), (2, .int p1)]) hx hb dX12_lostBy_146 hl (k := 1) rfl (by rw [e13395]; rfl) (by decide) rfl (fun ls hl => ?_)
                            refine lv_goto (tgt := 54) hx hb dX12_lostBy_149 (by decide) ?_
                            exact ih_lp13298 z13394 z13391 v_lp13298 F_lp13298 _ _ _ (by omega) (by omega) hf_lp13298 hI hF hP hS (lv_sub hl [0, 1, 2, 3, 4, 5] rfl)
                          · skip
                            have t13397 := cv_nlt (a := z13385.toInt) rfl (b := z13387.toInt) rfl c13389
                            refine lv_aload_n hx hb dX12_lostBy_112 rfl (lv_at hl 3 rfl) ?_
                            refine va_get (D := (dC, dI)) (ci := 12) (v := .ref (g 18)) (C := RX12) (T := TX12) (N := 63) hx hb hwd inA_X12 hown hK hP 0 rfl rfl 23 (by decide) (hwd _ wk_199) (fun _ h9 => h9) rfl dX12_lostBy_113 ?_
                            refine lv_iload hx hb dX12_lostBy_116 (lv_at hl 0 rfl) ?_
                            refine va_iald hx hb hK hP 18 17 rfl rfl (i := x5_lp13298) (vin (a := x5_lp13298.toInt) rfl (by omega)) dX12_lostBy_118 ?_
                            refine lv_topi (fun z13398 e13399 => ?_)
                            have e13399 : z13398 = F 18 (x5_lp13298 : Int32).toNatClampNeg := e13399.trans (congrFun (hF 18 (by decide)) _)
                            refine lv_aload_n hx hb dX12_lostBy_119 rfl (lv_at hl 3 rfl) ?_
                            refine va_get (D := (dC, dI)) (ci := 12) (v := .ref (g 18)) (C := RX12) (T := TX12) (N := 63) hx hb hwd inA_X12 hown hK hP 0 rfl rfl 23 (by decide) (hwd _ wk_199) (fun _ h9 => h9) rfl dX12_lostBy_120 ?_
                            refine lv_iload_n hx hb dX12_lostBy_123 rfl (lv_at hl 4 rfl) ?_
                            refine va_iald hx hb hK hP 18 17 rfl rfl (i := p0) (vin (a := p0.toInt) rfl (by omega)) dX12_lostBy_124 ?_
                            refine lv_topi (fun z13400 e13401 => ?_)
                            have e13401 : z13400 = F 18 (p0 : Int32).toNatClampNeg := e13401.trans (congrFun (hF 18 (by decide)) _)
                            refine lv_icmp_ne (tgt := 142) hx hb dX12_lostBy_125 (by decide) (fun c13402 => ?_) (fun c13402 => ?_)
                            · skip
                              have t13403 := cv_ne (a := z13398.toInt) rfl (b := z13400.toInt) rfl c13402
                              refine lv_iconst (v := 0) hx hb dX12_lostBy_142 (by decide) ?_
                              refine lv_iadd hx hb dX12_lostBy_143 ?_
                              refine lv_topi (fun z13404 e13405 => ?_)
                              try (have t13406 := tadd e13405 (a := x4_lp13298.toInt) rfl (b := 0) (by decide) (by omega))
                              refine lv_istore (lv' := [(4, .int z13404), (5, .int x5_lp13298), (3, .int x3_lp13144), (0, .ref (g 0)), (1, .int p0), (2, .int p1)]) hx hb dX12_lostBy_144 hl (by decide) rfl (fun ls hl => ?_)
                              obtain ⟨z13407, e13408⟩ : ∃ y : Int32, y = x5_lp13298 + 1 := ⟨_, rfl⟩
                              try (have t13409 := tadd e13408 rfl (b := 1) (by decide) (by omega))
                              refine lv_iinc (v := z13407) (lv' := [(5, .int z13407), (4, .int z13404), (3, .int x3_lp13144), (0, .ref (g 0)), (1, .int p0), (2, .int p1)]) hx hb dX12_lostBy_146 hl (k := 1) rfl (by rw [e13408]; rfl) (by decide) rfl (fun ls hl => ?_)
                              refine lv_goto (tgt := 54) hx hb dX12_lostBy_149 (by decide) ?_
                              exact ih_lp13298 z13407 z13404 v_lp13298 F_lp13298 _ _ _ (by omega) (by omega) hf_lp13298 hI hF hP hS (lv_sub hl [0, 1, 2, 3, 4, 5] rfl)
                            · skip
                              have t13410 := cv_eq (a := z13398.toInt) rfl (b := z13400.toInt) rfl c13402
                              refine lv_aload_n hx hb dX12_lostBy_128 rfl (lv_at hl 3 rfl) ?_
                              refine lv_iload hx hb dX12_lostBy_129 (lv_at hl 0 rfl) ?_
                              refine lv_iload_n hx hb dX12_lostBy_131 rfl (lv_at hl 4 rfl) ?_
                              refine va_calli (va_runV (As := [.int x5_lp13298, .int p0]) (rest := [.int x4_lp13298]) ⟨hx, hb, hml, hown, hwd⟩ (c_X12_isAhead l dC dI g c adK adV v_lp13298 F_lp13298 rc H.size x5_lp13298 p0 hg hI (by omega) (by omega)) (cwV 2 hwd (gV wk_509 wk_506 wk_507 wk_508 wk_5) rfl rfl rfl (by decide +kernel) ⟨Nat.le_of_ble_eq_true rfl, Nat.le_of_ble_eq_true rfl⟩) ⟨PM.blind, va_recv hK hP (ci := 12) (q0 := 0) rfl rfl, fun U hU hW => ⟨rfl, PM.at hK hE hP hS hU hW⟩⟩ rfl rfl hl.1 rfl (lv_room (Nat.le_of_ble_eq_true rfl)) dX12_lostBy_132 ⟨Nat.le_of_ble_eq_true rfl, Nat.le_of_ble_eq_true rfl⟩) hS (fun q _ h => (freeM hS) q h) (freeM hS) (fun r13411 u t H1 locs ht hvm hw hB hz1 hk1 hS => ?_)
                              unfold BM at hB
                              rw [ht] at hB
                              have hP : va_P (dC, dI) classes (wM g c v_lp13298 F_lp13298 rc) H1 := hB
                              replace hw : (r13411.toInt = 1 ∧ ((F_lp13298 17 x5_lp13298.toNatClampNeg).toInt < (F_lp13298 17 p0.toNatClampNeg).toInt ∨ ((F_lp13298 17 x5_lp13298.toNatClampNeg).toInt = (F_lp13298 17 p0.toNatClampNeg).toInt ∧ x5_lp13298.toInt < p0.toInt))) ∨ (r13411.toInt = 0 ∧ ¬ ((F_lp13298 17 x5_lp13298.toNatClampNeg).toInt < (F_lp13298 17 p0.toNatClampNeg).toInt ∨ ((F_lp13298 17 x5_lp13298.toNatClampNeg).toInt = (F_lp13298 17 p0.toNatClampNeg).toInt ∧ x5_lp13298.toInt < p0.toInt))) := hw
                              have hw_r13411 := hw
                              clear hw
                              clear hz1
                              generalize H1 = H at hP hS ⊢
                              refine lv_if_eq (tgt := 142) hx hb dX12_lostBy_135 (by decide) (fun c13412 => ?_) (fun c13412 => ?_)
                              · skip
                                have t13413 := cv_eq (a := r13411.toInt) rfl (b := 0) (by decide) c13412
                                refine lv_iconst (v := 0) hx hb dX12_lostBy_142 (by decide) ?_
                                refine lv_iadd hx hb dX12_lostBy_143 ?_
                                refine lv_topi (fun z13414 e13415 => ?_)
                                try (have t13416 := tadd e13415 (a := x4_lp13298.toInt) rfl (b := 0) (by decide) (by omega))
                                refine lv_istore (lv' := [(4, .int z13414), (5, .int x5_lp13298), (3, .int x3_lp13144), (0, .ref (g 0)), (1, .int p0), (2, .int p1)]) hx hb dX12_lostBy_144 hl (by decide) rfl (fun ls hl => ?_)
                                obtain ⟨z13417, e13418⟩ : ∃ y : Int32, y = x5_lp13298 + 1 := ⟨_, rfl⟩
                                try (have t13419 := tadd e13418 rfl (b := 1) (by decide) (by omega))
                                refine lv_iinc (v := z13417) (lv' := [(5, .int z13417), (4, .int z13414), (3, .int x3_lp13144), (0, .ref (g 0)), (1, .int p0), (2, .int p1)]) hx hb dX12_lostBy_146 hl (k := 1) rfl (by rw [e13418]; rfl) (by decide) rfl (fun ls hl => ?_)
                                refine lv_goto (tgt := 54) hx hb dX12_lostBy_149 (by decide) ?_
                                exact ih_lp13298 z13417 z13414 v_lp13298 F_lp13298 _ _ _ (by omega) (by omega) hf_lp13298 hI hF hP hS (lv_sub hl [0, 1, 2, 3, 4, 5] rfl)
                              · skip
                                have t13420 := cv_ne (a := r13411.toInt) rfl (b := 0) (by decide) c13412
                                refine lv_iconst (v := 1) hx hb dX12_lostBy_138 (by decide) ?_
                                refine lv_goto (tgt := 143) hx hb dX12_lostBy_139 (by decide) ?_
                                refine lv_iadd hx hb dX12_lostBy_143 ?_
                                refine lv_topi (fun z13421 e13422 => ?_)
                                try (have t13423 := tadd e13422 (a := x4_lp13298.toInt) rfl (b := 1) (by decide) (by omega))
                                refine lv_istore (lv' := [(4, .int z13421), (5, .int x5_lp13298), (3, .int x3_lp13144), (0, .ref (g 0)), (1, .int p0), (2, .int p1)]) hx hb dX12_lostBy_144 hl (by decide) rfl (fun ls hl => ?_)
                                obtain ⟨z13424, e13425⟩ : ∃ y : Int32, y = x5_lp13298 + 1 := ⟨_, rfl⟩
                                try (have t13426 := tadd e13425 rfl (b := 1) (by decide) (by omega))
                                refine lv_iinc (v := z13424) (lv' := [(5, .int z13424), (4, .int z13421), (3, .int x3_lp13144), (0, .ref (g 0)), (1, .int p0), (2, .int p1)]) hx hb dX12_lostBy_146 hl (k := 1) rfl (by rw [e13425]; rfl) (by decide) rfl (fun ls hl => ?_)
                                refine lv_goto (tgt := 54) hx hb dX12_lostBy_149 (by decide) ?_
                                exact ih_lp13298 z13424 z13421 v_lp13298 F_lp13298 _ _ _ (by omega) (by omega) hf_lp13298 hI hF hP hS (lv_sub hl [0, 1, 2, 3, 4, 5] rfl)
              obtain ⟨n9, hn9⟩ : ∃ n : Nat, 2147483648 - 0 ≤ (n : Int) := ⟨((2147483648 - 0 : Int)).toNat, by omega⟩
              exact lp13298 n9 0 0 v_lp13144 F_lp13144 H _ ls (by have : (0 : Int32).toInt = 0 := (by decide); have : (0 : Int32).toInt = 0 := (by decide); omega) (by have : (0 : Int32).toInt = 0 := (by decide); have : (0 : Int32).toInt = 0 := (by decide); omega) (fun _ _ => rfl) hI hF hP hS hl
            · skip
              have t13427 := cv_nle (a := 0) (by decide) (b := x3_lp13144.toInt) rfl c13296
              refine lv_iconst (v := 0) hx hb dX12_lostBy_46 (by decide) ?_
              have hP9 : va_P (dC, dI) classes (wM g c v_lp13144 F_lp13144 rc) H := hP
              exact W.iret (v := 0) hx hb hr (fun t ht hW => ⟨⟨0, (v_lp13144, F_lp13144, rc), rfl, ⟨hI, rfl, (frC (by decide) hf_lp13144 (fun _ _ => rfl)), hF, by have : (0 : Int32).toInt = 0 := (by decide); omega⟩, (by show va_P _ _ _ t.heap; rw [ht]; exact hP9)⟩, hS.F ht⟩) hS.2.2 dX12_lostBy_47
          · skip
            have t13428 := cv_nle (a := z13290.toInt) rfl (b := z13292.toInt) rfl c13294
            obtain ⟨z13429, e13430⟩ : ∃ y : Int32, y = x3_lp13144 + (-1) := ⟨_, rfl⟩
            try (have t13431 := tadd e13430 rfl (b := (-1)) (by decide) (by omega))
            refine lv_iinc (v := z13429) (lv' := [(3, .int z13429), (0, .ref (g 0)), (1, .int p0), (2, .int p1)]) hx hb dX12_lostBy_36 hl (k := 0) rfl (by rw [e13430]; rfl) (by decide) rfl (fun ls hl => ?_)
            refine lv_goto (tgt := 7) hx hb dX12_lostBy_39 (by decide) ?_
            exact ih_lp13144 z13429 v_lp13144 F_lp13144 _ _ _ (by omega) (by omega) (by omega) hf_lp13144 hI hF hP hS (lv_sub hl [0, 1, 2, 3] rfl)
  obtain ⟨n9, hn9⟩ : ∃ n : Nat, z13141.toInt + 2 ≤ (n : Int) := ⟨((z13141.toInt + 2 : Int)).toNat, by omega⟩
  exact lp13144 n9 z13141 v F H _ ls (by omega) (by omega) (by omega) (fun _ _ => rfl) hI hF hP hS hl
set_option maxHeartbeats 8000000 in
set_option maxRecDepth 100000 in
theorem c_X12_limitOf (l : Launch) (dC : Nat → ClassId) (dI : Nat → Nat → Nat) (g : Nat → Nat) (c : Nat → ClassId) (adK adV : Nat → Nat) (v : Nat → Int32) (F : Nat → Nat → Int32) (rc sz : Nat) (p0 : Int32) (p1 : Int32) (hg : injM g) (hI : IM v F) (h0 : 0 ≤ p0.toInt ∧ p0.toInt ≤ 99) (h1 : 0 ≤ p1.toInt ∧ p1.toInt ≤ 2) : Met l yX12_limitOf (Cond.code yX12_limitOf cX12_limitOf 3 (some .int) :: wA) ({ frames := 1, cells := 0, slots := 0, locals := 40 }) (va_Pc [.ref (g 0), .int p0, .int p1] (PM dC dI g c adK adV v F rc sz)) (va_Qi (fun (r : Int32) (u : Unit) => r.toInt = (F 1 (limJ (F 11) p0 p1)).toInt) (fun (_ : Unit) => BM dC dI g c (v, F, rc)) (AM g sz)) 0 0 (AM g sz) := by
  refine Met.ofW (cc := cX12_limitOf) (maxL := 3) (ret := (some .int)) (by decide) rfl ?_
  intro p e s m args below meth c0 s₁ B hml hv
  obtain ⟨rfl, hsz, hP, hK, hE⟩ := hv
  have hx := B.exec
  have hb := B.bytes
  have hr := B.returns
  have hts := atoms_spec (ws := Cond.code yX12_limitOf cX12_limitOf 3 (some .int) :: wA) B.pre
  have hwd : ∀ w ∈ wA, w.before _ s = true := fun w h => hts w (List.mem_cons_of_mem _ h)
  have hown : s.vm.findClass RX12 = some m.cls := findClass_of_methodNamed B.named
  have hlocks := B.notSynchronized
  subst hsz
  have hl := lv_entry ([.ref (g 0), .int p0, .int p1]) (n := 3) (Nat.le_of_ble_eq_true rfl)
  rw [lg_entry_eq]
  generalize (lg_sl ([.ref (g 0), .int p0, .int p1]) ++ List.replicate (3 - (lg_sl ([.ref (g 0), .int p0, .int p1])).length) Slot.unset).toArray = ls at hl ⊢
  have hl : lv_has ls 3 [(0, .ref (g 0)), (1, .int p0), (2, .int p1)] := hl
  obtain ⟨H, eH⟩ : ∃ z, z = s.heap := ⟨_, rfl⟩
  have hP : va_P (dC, dI) classes (wM g c v F rc) H := by rw [eH]; exact hP
  have hS : va_S (AM g s.heap.size) s.heap H [] := by rw [eH]; exact va_S.rf
  refine my_heap eH ?_
  have rp0 := i32_rng p0
  have rp1 := i32_rng p1
  refine lv_aload_n hx hb dX12_limitOf_0 rfl (lv_at hl 0 rfl) ?_
  refine va_get (D := (dC, dI)) (ci := 12) (v := .ref (g 1)) (C := RX12) (T := TX12) (N := 63) hx hb hwd inA_X12 hown hK hP 0 rfl rfl 3 (by decide) (hwd _ wk_182) (fun _ h9 => h9) rfl dX12_limitOf_1 ?_
  refine lv_iconst (v := 3) hx hb dX12_limitOf_4 (by decide) ?_
  refine lv_aload_n hx hb dX12_limitOf_5 rfl (lv_at hl 0 rfl) ?_
  refine va_get (D := (dC, dI)) (ci := 12) (v := .ref (g 11)) (C := RX12) (T := TX12) (N := 63) hx hb hwd inA_X12 hown hK hP 0 rfl rfl 15 (by decide) (hwd _ wk_192) (fun _ h9 => h9) rfl dX12_limitOf_6 ?_
  refine lv_iload_n hx hb dX12_limitOf_9 rfl (lv_at hl 1 rfl) ?_
  refine va_iald hx hb hK hP 11 10 rfl rfl (i := p0) (vin (a := p0.toInt) rfl (by omega)) dX12_limitOf_10 ?_
  refine lv_topi (fun z13432 e13433 => ?_)
  have t13434 : 0 ≤ z13432.toInt ∧ z13432.toInt ≤ 9 := by rw [e13433]; exact hI.2 11 _ _ rfl _
  have tzz13432 : z13432.toInt = (F 11 (p0 : Int32).toNatClampNeg).toInt := congrArg Int32.toInt e13433
  refine lv_imul hx hb dX12_limitOf_11 ?_
  refine lv_topi (fun z13435 e13436 => ?_)
  try (have t13437 := tmul e13436 (a := 3) (by decide) (b := z13432.toInt) rfl (by omega))
  refine lv_iload_n hx hb dX12_limitOf_12 rfl (lv_at hl 2 rfl) ?_
  refine lv_iadd hx hb dX12_limitOf_13 ?_
  refine lv_topi (fun z13438 e13439 => ?_)
  try (have t13440 := tadd e13439 (a := z13435.toInt) rfl (b := p1.toInt) rfl (by omega))
  refine va_iald hx hb hK hP 1 0 rfl rfl (i := z13438) (vin (a := z13438.toInt) rfl (by omega)) dX12_limitOf_14 ?_
  refine lv_topi (fun z13441 e13442 => ?_)
  have tzz13441 : z13441.toInt = (F 1 (z13438 : Int32).toNatClampNeg).toInt := congrArg Int32.toInt e13442
  have hP9 : va_P (dC, dI) classes (wM g c v F rc) H := hP
  exact W.iret (v := z13441) hx hb hr (fun t ht hW => ⟨⟨z13441, (), rfl, (by simp only [limJ, e13433, e13436, e13439, e13442]), (by show va_P _ _ _ t.heap; rw [ht]; exact hP9)⟩, hS.F ht⟩) hS.2.2 dX12_limitOf_15
set_option maxHeartbeats 8000000 in
set_option maxRecDepth 100000 in
theorem c_X12_leftOf (l : Launch) (dC : Nat → ClassId) (dI : Nat → Nat → Nat) (g : Nat → Nat) (c : Nat → ClassId) (adK adV : Nat → Nat) (v : Nat → Int32) (F : Nat → Nat → Int32) (rc sz : Nat) (p0 : Int32) (p1 : Int32) (p2 : Int32) (hg : injM g) (hI : IM v F) (h0 : 0 ≤ p0.toInt ∧ p0.toInt ≤ 99) (h1 : 0 ≤ p1.toInt ∧ p1.toInt ≤ 2) (hL : JL (v 31) (F 28) (F 29) (F 27)) : Met l yX12_leftOf (Cond.code yX12_leftOf cX12_leftOf 6 (some .int) :: wA) ({ frames := 4, cells := 0, slots := 0, locals := 160 }) (va_Pc [.ref (g 0), .int p0, .int p1, .int p2] (PM dC dI g c adK adV v F rc sz)) (va_Qi (fun (r : Int32) (u : StM) => IM u.1 u.2.1 ∧ u.2.2 = rc ∧ (∀ k, k ∉ ([] : List Nat) → u.1 k = v k) ∧ (∀ k, k ∉ ([30, 31] : List Nat) → u.2.1 k = F k) ∧ True) (BM dC dI g c) (AM g sz)) 0 0 (AM g sz) := by
  refine Met.ofW (cc := cX12_leftOf) (maxL := 6) (ret := (some .int)) (by decide) rfl ?_
  intro p e s m args below meth c0 s₁ B hml hv
  obtain ⟨rfl, hsz, hP, hK, hE⟩ := hv
  have hx := B.exec
  have hb := B.bytes
  have hr := B.returns
  have hts := atoms_spec (ws := Cond.code yX12_leftOf cX12_leftOf 6 (some .int) :: wA) B.pre
  have hwd : ∀ w ∈ wA, w.before _ s = true := fun w h => hts w (List.mem_cons_of_mem _ h)
  have hown : s.vm.findClass RX12 = some m.cls := findClass_of_methodNamed B.named
  have hlocks := B.notSynchronized
  subst hsz
  have hl := lv_entry ([.ref (g 0), .int p0, .int p1, .int p2]) (n := 6) (Nat.le_of_ble_eq_true rfl)
  rw [lg_entry_eq]
  generalize (lg_sl ([.ref (g 0), .int p0, .int p1, .int p2]) ++ List.replicate (6 - (lg_sl ([.ref (g 0), .int p0, .int p1, .int p2])).length) Slot.unset).toArray = ls at hl ⊢
  have hl : lv_has ls 6 [(0, .ref (g 0)), (1, .int p0), (2, .int p1), (3, .int p2)] := hl
  obtain ⟨H, eH⟩ : ∃ z, z = s.heap := ⟨_, rfl⟩
  have hP : va_P (dC, dI) classes (wM g c v F rc) H := by rw [eH]; exact hP
  have hS : va_S (AM g s.heap.size) s.heap H [] := by rw [eH]; exact va_S.rf
  refine my_heap eH ?_
  have hF : ∀ k, k ∉ ([30, 31] : List Nat) → F k = F k := fun _ _ => rfl
  have rp0 := i32_rng p0
  have rp1 := i32_rng p1
  have rp2 := i32_rng p2
  have hb31 : 0 ≤ (v 31).toInt ∧ (v 31).toInt ≤ 10 := hI.1 31 _ _ rfl
  refine lv_aload_n hx hb dX12_leftOf_0 rfl (lv_at hl 0 rfl) ?_
  refine lv_iload_n hx hb dX12_leftOf_1 rfl (lv_at hl 1 rfl) ?_
  refine lv_iload_n hx hb dX12_leftOf_2 rfl (lv_at hl 2 rfl) ?_
  refine va_calli (va_runV (As := [.int p0, .int p1]) (rest := []) ⟨hx, hb, hml, hown, hwd⟩ (c_X12_limitOf l dC dI g c adK adV v F rc H.size p0 p1 hg hI (by omega) (by omega)) (cwV 2 hwd (gV wk_489 wk_486 wk_487 wk_488 wk_5) rfl rfl rfl (by decide +kernel) ⟨Nat.le_of_ble_eq_true rfl, Nat.le_of_ble_eq_true rfl⟩) ⟨PM.blind, va_recv hK hP (ci := 12) (q0 := 0) rfl rfl, fun U hU hW => ⟨rfl, PM.at hK hE hP hS hU hW⟩⟩ rfl rfl hl.1 rfl (lv_room (Nat.le_of_ble_eq_true rfl)) dX12_leftOf_3 ⟨Nat.le_of_ble_eq_true rfl, Nat.le_of_ble_eq_true rfl⟩) hS (fun q _ h => (freeM hS) q h) (freeM hS) (fun r13499 u t H1 locs ht hvm hw hB hz1 hk1 hS => ?_)
  unfold BM at hB
  rw [ht] at hB
  have hP : va_P (dC, dI) classes (wM g c v F rc) H1 := hB
  replace hw : r13499.toInt = (F 1 (limJ (F 11) p0 p1)).toInt := hw
  have hw_r13499 := hw
  clear hw
  clear hz1
  generalize H1 = H at hP hS ⊢
  refine lv_aload_n hx hb dX12_leftOf_6 rfl (lv_at hl 0 rfl) ?_
  refine va_get (D := (dC, dI)) (ci := 12) (v := .ref (g 14)) (C := RX12) (T := TX12) (N := 63) hx hb hwd inA_X12 hown hK hP 0 rfl rfl 18 (by decide) (hwd _ wk_195) (fun _ h9 => h9) rfl dX12_leftOf_7 ?_
  refine lv_iconst (v := 3) hx hb dX12_leftOf_10 (by decide) ?_
  refine lv_iload_n hx hb dX12_leftOf_11 rfl (lv_at hl 1 rfl) ?_
  refine lv_imul hx hb dX12_leftOf_12 ?_
  refine lv_topi (fun z13500 e13501 => ?_)
  try (have t13502 := tmul e13501 (a := 3) (by decide) (b := p0.toInt) rfl (by omega))
  refine lv_iload_n hx hb dX12_leftOf_13 rfl (lv_at hl 2 rfl) ?_
  refine lv_iadd hx hb dX12_leftOf_14 ?_
  refine lv_topi (fun z13503 e13504 => ?_)
  try (have t13505 := tadd e13504 (a := z13500.toInt) rfl (b := p1.toInt) rfl (by omega))
  refine va_iald hx hb hK hP 14 13 rfl rfl (i := z13503) (vin (a := z13503.toInt) rfl (by omega)) dX12_leftOf_15 ?_
  refine lv_topi (fun z13506 e13507 => ?_)
  refine lv_isub hx hb dX12_leftOf_16 ?_
  refine lv_topi (fun z13508 e13509 => ?_)
  try (have t13510 := tsub e13509 (a := r13499.toInt) rfl (b := z13506.toInt) rfl (by omega))
  refine lv_istore (lv' := [(4, .int z13508), (0, .ref (g 0)), (1, .int p0), (2, .int p1), (3, .int p2)]) hx hb dX12_leftOf_17 hl (by decide) rfl (fun ls hl => ?_)
  refine lv_iconst (v := 0) hx hb dX12_leftOf_19 (by decide) ?_
  refine lv_istore (lv' := [(5, .int 0), (4, .int z13508), (0, .ref (g 0)), (1, .int p0), (2, .int p1), (3, .int p2)]) hx hb dX12_leftOf_20 hl (by decide) rfl (fun ls hl => ?_)
  have lp13511 : ∀ (n : Nat) (x5_lp13511 : Int32) (x4_lp13511 : Int32) (v_lp13511 : Nat → Int32) (F_lp13511 : Nat → Nat → Int32) (H : Heap) (locs : List Loc) (ls : Array Slot), (0 ≤ x5_lp13511.toInt) → (2147483648 - x5_lp13511.toInt ≤ (n : Int)) → (∀ k, k ∉ ([] : List Nat) → v_lp13511 k = v k) → IM v_lp13511 F_lp13511 → (∀ k, k ∉ ([30, 31] : List Nat) → F_lp13511 k = F k) → va_P (dC, dI) classes (wM g c v_lp13511 F_lp13511 rc) H → va_S (AM g s.heap.size) s.heap H locs → lv_has ls 6 [(5, .int x5_lp13511), (4, .int x4_lp13511), (0, .ref (g 0)), (1, .int p0), (2, .int p1), (3, .int p2)] → W p l e (headSpec (Cond.code yX12_leftOf cX12_leftOf 6 (some .int) :: wA) ({ frames := 4, cells := 0, slots := 0, locals := 160 })).room s m ([.ref (g 0), .int p0, .int p1, .int p2] : List Value).toArray below meth c0 H locs 0 0 (MQ below (va_Qi (fun (r : Int32) (u : StM) => IM u.1 u.2.1 ∧ u.2.2 = rc ∧ (∀ k, k ∉ ([] : List Nat) → u.1 k = v k) ∧ (∀ k, k ∉ ([30, 31] : List Nat) → u.2.1 k = F k) ∧ True) (BM dC dI g c) (AM g s.heap.size)) ([.ref (g 0), .int p0, .int p1, .int p2] : List Value).toArray s 0 0 (AM g s.heap.size)) (F0 m 22 ls []) := by
    intro n
    induction n with
    | zero =>
      intro x5_lp13511 x4_lp13511 v_lp13511 F_lp13511 H locs ls t13512 hm hf_lp13511 hI hF hP hS hl
      exfalso
      have := i32_rng x5_lp13511
      have := i32_rng x4_lp13511
      have hI1 := hI.1
      omega
    | succ n ih_lp13511 =>
      intro x5_lp13511 x4_lp13511 v_lp13511 F_lp13511 H locs ls t13512 hm hf_lp13511 hI hF hP hS hl
      have rx5_lp13511 := i32_rng x5_lp13511
      have rx4_lp13511 := i32_rng x4_lp13511
      refine lv_iload hx hb dX12_leftOf_22 (lv_at hl 0 rfl) ?_
      refine lv_aload_n hx hb dX12_leftOf_24 rfl (lv_at hl 2 rfl) ?_
      refine va_get (D := (dC, dI)) (ci := 12) (v := .int (v_lp13511 19)) (C := RX12) (T := TX12) (N := 63) hx hb hwd inA_X12 hown hK hP 0 rfl rfl 19 (by decide) (hwd _ wk_494) (fun _ h9 => h9) rfl dX12_leftOf_25 ?_
      refine my_top (v := v 19) (hf_lp13511 19 (by decide)) ?_
      have t13513 : 0 ≤ (v 19).toInt ∧ (v 19).toInt ≤ 500 := by have h9 := hI.1 19 _ _ rfl; rw [show v_lp13511 19 = v 19 from hf_lp13511 19 (by decide)] at h9; exact h9
      refine lv_icmp_ge (tgt := 83) hx hb dX12_leftOf_28 (by decide) (fun c13514 => ?_) (fun c13514 => ?_)
      · skip
        have t13515 := cv_le (a := (v 19).toInt) rfl (b := x5_lp13511.toInt) rfl c13514
        refine lv_iload hx hb dX12_leftOf_83 (lv_at hl 1 rfl) ?_
        have hP9 : va_P (dC, dI) classes (wM g c v_lp13511 F_lp13511 rc) H := hP
        exact W.iret (v := x4_lp13511) hx hb hr (fun t ht hW => ⟨⟨x4_lp13511, (v_lp13511, F_lp13511, rc), rfl, ⟨hI, rfl, (frC (by decide) hf_lp13511 (fun _ _ => rfl)), hF, trivial⟩, (by show va_P _ _ _ t.heap; rw [ht]; exact hP9)⟩, hS.F ht⟩) hS.2.2 dX12_leftOf_85
      · skip
        have t13516 := cv_nle (a := (v 19).toInt) rfl (b := x5_lp13511.toInt) rfl c13514
        refine lv_aload_n hx hb dX12_leftOf_31 rfl (lv_at hl 2 rfl) ?_
        refine va_get (D := (dC, dI)) (ci := 12) (v := .ref (g 15)) (C := RX12) (T := TX12) (N := 63) hx hb hwd inA_X12 hown hK hP 0 rfl rfl 20 (by decide) (hwd _ wk_196) (fun _ h9 => h9) rfl dX12_leftOf_32 ?_
        refine lv_iload hx hb dX12_leftOf_35 (lv_at hl 0 rfl) ?_
        refine va_iald hx hb hK hP 15 14 rfl rfl (i := x5_lp13511) (vin (a := x5_lp13511.toInt) rfl (by omega)) dX12_leftOf_37 ?_
        refine lv_topi (fun z13517 e13518 => ?_)
        have t13519 : 0 ≤ z13517.toInt ∧ z13517.toInt ≤ 99 := by rw [e13518]; exact hI.2 15 _ _ rfl _
        have e13518 : z13517 = F 15 (x5_lp13511 : Int32).toNatClampNeg := e13518.trans (congrFun (hF 15 (by decide)) _)
        refine lv_iload_n hx hb dX12_leftOf_38 rfl (lv_at hl 3 rfl) ?_
        refine lv_icmp_ne (tgt := 77) hx hb dX12_leftOf_39 (by decide) (fun c13520 => ?_) (fun c13520 => ?_)
        · skip
          have t13521 := cv_ne (a := z13517.toInt) rfl (b := p0.toInt) rfl c13520
          obtain ⟨z13522, e13523⟩ : ∃ y : Int32, y = x5_lp13511 + 1 := ⟨_, rfl⟩
          try (have t13524 := tadd e13523 rfl (b := 1) (by decide) (by omega))
          refine lv_iinc (v := z13522) (lv' := [(5, .int z13522), (4, .int x4_lp13511), (0, .ref (g 0)), (1, .int p0), (2, .int p1), (3, .int p2)]) hx hb dX12_leftOf_77 hl (k := 0) rfl (by rw [e13523]; rfl) (by decide) rfl (fun ls hl => ?_)
          refine lv_goto (tgt := 22) hx hb dX12_leftOf_80 (by decide) ?_
          exact ih_lp13511 z13522 x4_lp13511 v_lp13511 F_lp13511 _ _ _ (by omega) (by omega) hf_lp13511 hI hF hP hS (lv_sub hl [0, 1, 2, 3, 4, 5] rfl)
        · skip
          have t13525 := cv_eq (a := z13517.toInt) rfl (b := p0.toInt) rfl c13520
          refine lv_aload_n hx hb dX12_leftOf_42 rfl (lv_at hl 2 rfl) ?_
          refine lv_iload hx hb dX12_leftOf_43 (lv_at hl 0 rfl) ?_
          refine va_calli (va_runV (As := [.int x5_lp13511]) (rest := []) ⟨hx, hb, hml, hown, hwd⟩ (c_X12_isGap l dC dI g c adK adV v_lp13511 F_lp13511 rc H.size x5_lp13511 hg hI (by omega)) (cwV 1 hwd (gV wk_499 wk_496 wk_497 wk_498 wk_5) rfl rfl rfl (by decide +kernel) ⟨Nat.le_of_ble_eq_true rfl, Nat.le_of_ble_eq_true rfl⟩) ⟨PM.blind, va_recv hK hP (ci := 12) (q0 := 0) rfl rfl, fun U hU hW => ⟨rfl, PM.at hK hE hP hS hU hW⟩⟩ rfl rfl hl.1 rfl (lv_room (Nat.le_of_ble_eq_true rfl)) dX12_leftOf_45 ⟨Nat.le_of_ble_eq_true rfl, Nat.le_of_ble_eq_true rfl⟩) hS (fun q _ h => (freeM hS) q h) (freeM hS) (fun r13526 u t H1 locs ht hvm hw hB hz1 hk1 hS => ?_)
          unfold BM at hB
          rw [ht] at hB
          have hP : va_P (dC, dI) classes (wM g c v_lp13511 F_lp13511 rc) H1 := hB
          have hw_r13526 : 0 ≤ r13526.toInt ∧ r13526.toInt ≤ 1 := hw
          clear hw
          clear hz1
          generalize H1 = H at hP hS ⊢
          refine lv_if_eq (tgt := 77) hx hb dX12_leftOf_48 (by decide) (fun c13527 => ?_) (fun c13527 => ?_)
          · skip
            have t13528 := cv_eq (a := r13526.toInt) rfl (b := 0) (by decide) c13527
            obtain ⟨z13529, e13530⟩ : ∃ y : Int32, y = x5_lp13511 + 1 := ⟨_, rfl⟩
            try (have t13531 := tadd e13530 rfl (b := 1) (by decide) (by omega))
            refine lv_iinc (v := z13529) (lv' := [(5, .int z13529), (4, .int x4_lp13511), (0, .ref (g 0)), (1, .int p0), (2, .int p1), (3, .int p2)]) hx hb dX12_leftOf_77 hl (k := 0) rfl (by rw [e13530]; rfl) (by decide) rfl (fun ls hl => ?_)
            refine lv_goto (tgt := 22) hx hb dX12_leftOf_80 (by decide) ?_
            exact ih_lp13511 z13529 x4_lp13511 v_lp13511 F_lp13511 _ _ _ (by omega) (by omega) hf_lp13511 hI hF hP hS (lv_sub hl [0, 1, 2, 3, 4, 5] rfl)
          · skip
            have t13532 := cv_ne (a := r13526.toInt) rfl (b := 0) (by decide) c13527
            refine lv_iload hx hb dX12_leftOf_51 (lv_at hl 1 rfl) ?_
            refine lv_aload_n hx hb dX12_leftOf_53 rfl (lv_at hl 2 rfl) ?_
            refine lv_iload_n hx hb dX12_leftOf_54 rfl (lv_at hl 3 rfl) ?_
            refine lv_iload_n hx hb dX12_leftOf_55 rfl (lv_at hl 4 rfl) ?_
            refine va_calli (va_runV (As := [.int p0, .int p1]) (rest := [.int x4_lp13511]) ⟨hx, hb, hml, hown, hwd⟩ (c_X12_limitOf l dC dI g c adK adV v_lp13511 F_lp13511 rc H.size p0 p1 hg hI (by omega) (by omega)) (cwV 2 hwd (gV wk_489 wk_486 wk_487 wk_488 wk_5) rfl rfl rfl (by decide +kernel) ⟨Nat.le_of_ble_eq_true rfl, Nat.le_of_ble_eq_true rfl⟩) ⟨PM.blind, va_recv hK hP (ci := 12) (q0 := 0) rfl rfl, fun U hU hW => ⟨rfl, PM.at hK hE hP hS hU hW⟩⟩ rfl rfl hl.1 rfl (lv_room (Nat.le_of_ble_eq_true rfl)) dX12_leftOf_56 ⟨Nat.le_of_ble_eq_true rfl, Nat.le_of_ble_eq_true rfl⟩) hS (fun q _ h => (freeM hS) q h) (freeM hS) (fun r13533 u t H1 locs ht hvm hw hB hz1 hk1 hS => ?_)
            unfold BM at hB
            rw [ht] at hB
            have hP : va_P (dC, dI) classes (wM g c v_lp13511 F_lp13511 rc) H1 := hB
            replace hw : r13533.toInt = (F_lp13511 1 (limJ (F_lp13511 11) p0 p1)).toInt := hw
            rw [hF 1 (by decide)] at hw
            rw [hF 11 (by decide)] at hw
            have hw_r13533 := hw
            clear hw
            clear hz1
            generalize H1 = H at hP hS ⊢
            refine lv_i2l hx hb dX12_leftOf_59 rfl ?_
            refine lv_topl (fun z13534 e13535 => ?_)
            refine lv_aload_n hx hb dX12_leftOf_60 rfl (lv_at hl 2 rfl) ?_
            refine lv_iload hx hb dX12_leftOf_61 (lv_at hl 0 rfl) ?_
            refine lv_iload_n hx hb dX12_leftOf_63 rfl (lv_at hl 5 rfl) ?_
            refine va_calli (va_runV (As := [.int x5_lp13511, .int p2]) (rest := [.long z13534, .int x4_lp13511]) ⟨hx, hb, hml, hown, hwd⟩ (c_X12_lostBy l dC dI g c adK adV v_lp13511 F_lp13511 rc H.size x5_lp13511 p2 hg hI (by omega) (JL.to hL (show v_lp13511 31 = v 31 from hf_lp13511 31 (by decide)) (hF 28 (by decide)) (hF 29 (by decide)) (hF 27 (by decide)))) (cwV 2 hwd (gV wk_504 wk_501 wk_502 wk_503 wk_5) rfl rfl rfl (by decide +kernel) ⟨Nat.le_of_ble_eq_true rfl, Nat.le_of_ble_eq_true rfl⟩) ⟨PM.blind, va_recv hK hP (ci := 12) (q0 := 0) rfl rfl, fun U hU hW => ⟨rfl, PM.at hK hE hP hS hU hW⟩⟩ rfl rfl hl.1 rfl (lv_room (Nat.le_of_ble_eq_true rfl)) dX12_leftOf_64 ⟨Nat.le_of_ble_eq_true rfl, Nat.le_of_ble_eq_true rfl⟩) hS (fun q _ h => (freeM hS) q h) (freeM hS) (fun r13536 u t H1 locs ht hvm hw hB hz1 hk1 hS => ?_)
            unfold BM at hB
            rw [ht] at hB
            obtain ⟨v13537, F13538, rc9⟩ := u
            obtain ⟨hI, hrc, hf13539, hG13540, hw⟩ := hw
            dsimp only at hI hrc hB hf13539 hG13540 hw
            have hF := frCF (by decide) hG13540 hF
            rw [hrc] at hB
            have hP : va_P (dC, dI) classes (wM g c v13537 F13538 rc) H1 := hB
            have hw_r13536 : 0 ≤ r13536.toInt ∧ r13536.toInt ≤ 100 := hw
            clear hw
            clear hz1
            generalize H1 = H at hP hS ⊢
            refine lv_i2l hx hb dX12_leftOf_67 rfl ?_
            refine lv_topl (fun z13541 e13542 => ?_)
            refine lv_lmul hx hb dX12_leftOf_68 ?_
            refine lv_topl (fun z13543 e13544 => ?_)
            refine lv_ldc2 (v := 100) hx hb hown (hwd _ wk_495) dX12_leftOf_69 ?_
            refine lv_ldiv hx hb dX12_leftOf_72 (by decide) ?_
            refine lv_topl (fun z13545 e13546 => ?_)
            refine lv_l2i hx hb dX12_leftOf_73 rfl ?_
            refine lv_topi (fun z13547 e13548 => ?_)
            refine lv_isub hx hb dX12_leftOf_74 ?_
            refine lv_topi (fun z13549 e13550 => ?_)
            try (have t13551 := tsub e13550 (a := x4_lp13511.toInt) rfl (b := z13547.toInt) rfl (by omega))
            refine lv_istore (lv' := [(4, .int z13549), (5, .int x5_lp13511), (0, .ref (g 0)), (1, .int p0), (2, .int p1), (3, .int p2)]) hx hb dX12_leftOf_75 hl (by decide) rfl (fun ls hl => ?_)
            obtain ⟨z13552, e13553⟩ : ∃ y : Int32, y = x5_lp13511 + 1 := ⟨_, rfl⟩
            try (have t13554 := tadd e13553 rfl (b := 1) (by decide) (by omega))
            refine lv_iinc (v := z13552) (lv' := [(5, .int z13552), (4, .int z13549), (0, .ref (g 0)), (1, .int p0), (2, .int p1), (3, .int p2)]) hx hb dX12_leftOf_77 hl (k := 1) rfl (by rw [e13553]; rfl) (by decide) rfl (fun ls hl => ?_)
            refine lv_goto (tgt := 22) hx hb dX12_leftOf_80 (by decide) ?_
            exact ih_lp13511 z13552 z13549 v13537 F13538 _ _ _ (by omega) (by omega) (frC (by decide) hf13539 hf_lp13511) hI hF hP hS (lv_sub hl [0, 1, 2, 3, 4, 5] rfl)
  obtain ⟨n9, hn9⟩ : ∃ n : Nat, 2147483648 - 0 ≤ (n : Int) := ⟨((2147483648 - 0 : Int)).toNat, by omega⟩
  exact lp13511 n9 0 z13508 v F H _ ls (by have : (0 : Int32).toInt = 0 := (by decide); omega) (by have : (0 : Int32).toInt = 0 := (by decide); omega) (fun _ _ => rfl) hI hF hP hS hl
set_option maxHeartbeats 8000000 in
set_option maxRecDepth 100000 in
theorem c_X12_left (l : Launch) (dC : Nat → ClassId) (dI : Nat → Nat → Nat) (g : Nat → Nat) (c : Nat → ClassId) (adK adV : Nat → Nat) (v : Nat → Int32) (F : Nat → Nat → Int32) (rc sz : Nat) (p0 : Int32) (p1 : Int32) (p2 : Int32) (hg : injM g) (hI : IM v F) (hL : JL (v 31) (F 28) (F 29) (F 27)) : Met l yX12_left (Cond.code yX12_left cX12_left 4 (some .int) :: wA) ({ frames := 5, cells := 0, slots := 0, locals := 200 }) (va_Pc [.ref (g 0), .int p0, .int p1, .int p2] (PM dC dI g c adK adV v F rc sz)) (va_Qi (fun (r : Int32) (u : StM) => IM u.1 u.2.1 ∧ u.2.2 = rc ∧ (∀ k, k ∉ ([] : List Nat) → u.1 k = v k) ∧ (∀ k, k ∉ ([30, 31] : List Nat) → u.2.1 k = F k) ∧ True) (BM dC dI g c) (AM g sz)) 0 0 (AM g sz) := by
  refine Met.ofW (cc := cX12_left) (maxL := 4) (ret := (some .int)) (by decide) rfl ?_
  intro p e s m args below meth c0 s₁ B hml hv
  obtain ⟨rfl, hsz, hP, hK, hE⟩ := hv
  have hx := B.exec
  have hb := B.bytes
  have hr := B.returns
  have hts := atoms_spec (ws := Cond.code yX12_left cX12_left 4 (some .int) :: wA) B.pre
  have hwd : ∀ w ∈ wA, w.before _ s = true := fun w h => hts w (List.mem_cons_of_mem _ h)
  have hown : s.vm.findClass RX12 = some m.cls := findClass_of_methodNamed B.named
  have hlocks := B.notSynchronized
  subst hsz
  have hl := lv_entry ([.ref (g 0), .int p0, .int p1, .int p2]) (n := 4) (Nat.le_of_ble_eq_true rfl)
  rw [lg_entry_eq]
  generalize (lg_sl ([.ref (g 0), .int p0, .int p1, .int p2]) ++ List.replicate (4 - (lg_sl ([.ref (g 0), .int p0, .int p1, .int p2])).length) Slot.unset).toArray = ls at hl ⊢
  have hl : lv_has ls 4 [(0, .ref (g 0)), (1, .int p0), (2, .int p1), (3, .int p2)] := hl
  obtain ⟨H, eH⟩ : ∃ z, z = s.heap := ⟨_, rfl⟩
  have hP : va_P (dC, dI) classes (wM g c v F rc) H := by rw [eH]; exact hP
  have hS : va_S (AM g s.heap.size) s.heap H [] := by rw [eH]; exact va_S.rf
  refine my_heap eH ?_
  have hF : ∀ k, k ∉ ([30, 31] : List Nat) → F k = F k := fun _ _ => rfl
  have rp0 := i32_rng p0
  have rp1 := i32_rng p1
  have rp2 := i32_rng p2
  have hb31 : 0 ≤ (v 31).toInt ∧ (v 31).toInt ≤ 10 := hI.1 31 _ _ rfl
  refine lv_aload_n hx hb dX12_left_0 rfl (lv_at hl 0 rfl) ?_
  refine lv_iload_n hx hb dX12_left_1 rfl (lv_at hl 1 rfl) ?_
  have t13579 : 0 ≤ (v 14).toInt ∧ (v 14).toInt ≤ 100 := hI.1 14 _ _ rfl
  refine va_calli (va_runV (As := [.int p0]) (rest := []) ⟨hx, hb, hml, hown, hwd⟩ (c_X12_isPart l dC dI g c adK adV v F rc H.size p0 hg hI ) (cwV 1 hwd (gV wk_631 wk_628 wk_629 wk_630 wk_5) rfl rfl rfl (by decide +kernel) ⟨Nat.le_of_ble_eq_true rfl, Nat.le_of_ble_eq_true rfl⟩) ⟨PM.blind, va_recv hK hP (ci := 12) (q0 := 0) rfl rfl, fun U hU hW => ⟨rfl, PM.at hK hE hP hS hU hW⟩⟩ rfl rfl hl.1 rfl (lv_room (Nat.le_of_ble_eq_true rfl)) dX12_left_2 ⟨Nat.le_of_ble_eq_true rfl, Nat.le_of_ble_eq_true rfl⟩) hS (fun q _ h => (freeM hS) q h) (freeM hS) (fun r13580 u t H1 locs ht hvm hw hB hz1 hk1 hS => ?_)
  unfold BM at hB
  rw [ht] at hB
  have hP : va_P (dC, dI) classes (wM g c v F rc) H1 := hB
  replace hw : (r13580.toInt = 1 ∧ 0 ≤ p0.toInt ∧ p0.toInt < (v 14).toInt) ∨ (r13580.toInt = 0 ∧ (p0.toInt < 0 ∨ (v 14).toInt ≤ p0.toInt)) := hw
  have hw_r13580 := hw
  clear hw
  clear hz1
  generalize H1 = H at hP hS ⊢
  refine lv_if_eq (tgt := 43) hx hb dX12_left_5 (by decide) (fun c13581 => ?_) (fun c13581 => ?_)
  · skip
    have t13582 := cv_eq (a := r13580.toInt) rfl (b := 0) (by decide) c13581
    refine lv_ldc (v := (-2000000000)) hx hb hown (hwd _ wk_542) dX12_left_43 ?_
    have hP9 : va_P (dC, dI) classes (wM g c v F rc) H := hP
    exact W.iret (v := (-2000000000)) hx hb hr (fun t ht hW => ⟨⟨(-2000000000), (v, F, rc), rfl, ⟨hI, rfl, (fun _ _ => rfl), hF, trivial⟩, (by show va_P _ _ _ t.heap; rw [ht]; exact hP9)⟩, hS.F ht⟩) hS.2.2 dX12_left_45
  · skip
    have t13583 := cv_ne (a := r13580.toInt) rfl (b := 0) (by decide) c13581
    refine lv_iload_n hx hb dX12_left_8 rfl (lv_at hl 2 rfl) ?_
    refine lv_iconst (v := 0) hx hb dX12_left_9 (by decide) ?_
    refine lv_iconst (v := 2) hx hb dX12_left_10 (by decide) ?_
    refine va_calli (va_runS (As := [.int p1, .int 0, .int 2]) (rest := []) ⟨hx, hb, hml, hown, hwd⟩ (c_X12_in l dC dI g c adK adV v F rc H.size p1 0 2 hg hI ) (va_cwS 3 hwd (gT wk_254 wk_252 wk_253 wk_5) rfl rfl rfl (by decide +kernel) ⟨Nat.le_of_ble_eq_true rfl, Nat.le_of_ble_eq_true rfl⟩) ⟨PM.blind, fun U hU hW => ⟨rfl, PM.at hK hE hP hS hU hW⟩⟩ rfl rfl hl.1 rfl (lv_room (Nat.le_of_ble_eq_true rfl)) dX12_left_11 ⟨Nat.le_of_ble_eq_true rfl, Nat.le_of_ble_eq_true rfl⟩) hS (fun q _ h => (freeM hS) q h) (freeM hS) (fun r13584 u t H1 locs ht hvm hw hB hz1 hk1 hS => ?_)
    unfold BM at hB
    rw [ht] at hB
    have hP : va_P (dC, dI) classes (wM g c v F rc) H1 := hB
    have hw_r13584 : (r13584.toInt = 1 ∧ (0 : Int32).toInt ≤ p1.toInt ∧ p1.toInt ≤ (2 : Int32).toInt) ∨ (r13584.toInt = 0 ∧ (p1.toInt < (0 : Int32).toInt ∨ (2 : Int32).toInt < p1.toInt)) := hw
    clear hw
    have k13585 : (0 : Int32).toInt = 0 := by decide
    have k13586 : (2 : Int32).toInt = 2 := by decide
    clear hz1
    generalize H1 = H at hP hS ⊢
    refine lv_if_eq (tgt := 43) hx hb dX12_left_14 (by decide) (fun c13587 => ?_) (fun c13587 => ?_)
    · skip
      have t13588 := cv_eq (a := r13584.toInt) rfl (b := 0) (by decide) c13587
      refine lv_ldc (v := (-2000000000)) hx hb hown (hwd _ wk_542) dX12_left_43 ?_
      have hP9 : va_P (dC, dI) classes (wM g c v F rc) H := hP
      exact W.iret (v := (-2000000000)) hx hb hr (fun t ht hW => ⟨⟨(-2000000000), (v, F, rc), rfl, ⟨hI, rfl, (fun _ _ => rfl), hF, trivial⟩, (by show va_P _ _ _ t.heap; rw [ht]; exact hP9)⟩, hS.F ht⟩) hS.2.2 dX12_left_45
    · skip
      have t13589 := cv_ne (a := r13584.toInt) rfl (b := 0) (by decide) c13587
      refine lv_iload_n hx hb dX12_left_17 rfl (lv_at hl 3 rfl) ?_
      refine va_calli (va_runS (As := [.int p2]) (rest := []) ⟨hx, hb, hml, hown, hwd⟩ (c_X12_isDay l dC dI g c adK adV v F rc H.size p2 hg hI ) (va_cwS 1 hwd (gT wk_556 wk_554 wk_555 wk_5) rfl rfl rfl (by decide +kernel) ⟨Nat.le_of_ble_eq_true rfl, Nat.le_of_ble_eq_true rfl⟩) ⟨PM.blind, fun U hU hW => ⟨rfl, PM.at hK hE hP hS hU hW⟩⟩ rfl rfl hl.1 rfl (lv_room (Nat.le_of_ble_eq_true rfl)) dX12_left_18 ⟨Nat.le_of_ble_eq_true rfl, Nat.le_of_ble_eq_true rfl⟩) hS (fun q _ h => (freeM hS) q h) (freeM hS) (fun r13590 u t H1 locs ht hvm hw hB hz1 hk1 hS => ?_)
      unfold BM at hB
      rw [ht] at hB
      have hP : va_P (dC, dI) classes (wM g c v F rc) H1 := hB
      have hw_r13590 : (r13590.toInt = 1 ∧ 0 ≤ p2.toInt ∧ p2.toInt ≤ 9999) ∨ (r13590.toInt = 0 ∧ (p2.toInt < 0 ∨ 9999 < p2.toInt)) := hw
      clear hw
      clear hz1
      generalize H1 = H at hP hS ⊢
      refine lv_if_eq (tgt := 43) hx hb dX12_left_21 (by decide) (fun c13591 => ?_) (fun c13591 => ?_)
      · skip
        have t13592 := cv_eq (a := r13590.toInt) rfl (b := 0) (by decide) c13591
        refine lv_ldc (v := (-2000000000)) hx hb hown (hwd _ wk_542) dX12_left_43 ?_
        have hP9 : va_P (dC, dI) classes (wM g c v F rc) H := hP
        exact W.iret (v := (-2000000000)) hx hb hr (fun t ht hW => ⟨⟨(-2000000000), (v, F, rc), rfl, ⟨hI, rfl, (fun _ _ => rfl), hF, trivial⟩, (by show va_P _ _ _ t.heap; rw [ht]; exact hP9)⟩, hS.F ht⟩) hS.2.2 dX12_left_45
      · skip
        have t13593 := cv_ne (a := r13590.toInt) rfl (b := 0) (by decide) c13591
        refine lv_aload_n hx hb dX12_left_24 rfl (lv_at hl 0 rfl) ?_
        refine lv_iload_n hx hb dX12_left_25 rfl (lv_at hl 1 rfl) ?_
        refine lv_iload_n hx hb dX12_left_26 rfl (lv_at hl 2 rfl) ?_
        refine va_calli (va_runV (As := [.int p0, .int p1]) (rest := []) ⟨hx, hb, hml, hown, hwd⟩ (c_X12_limitOf l dC dI g c adK adV v F rc H.size p0 p1 hg hI (by omega) (by omega)) (cwV 2 hwd (gV wk_489 wk_486 wk_487 wk_488 wk_5) rfl rfl rfl (by decide +kernel) ⟨Nat.le_of_ble_eq_true rfl, Nat.le_of_ble_eq_true rfl⟩) ⟨PM.blind, va_recv hK hP (ci := 12) (q0 := 0) rfl rfl, fun U hU hW => ⟨rfl, PM.at hK hE hP hS hU hW⟩⟩ rfl rfl hl.1 rfl (lv_room (Nat.le_of_ble_eq_true rfl)) dX12_left_27 ⟨Nat.le_of_ble_eq_true rfl, Nat.le_of_ble_eq_true rfl⟩) hS (fun q _ h => (freeM hS) q h) (freeM hS) (fun r13594 u t H1 locs ht hvm hw hB hz1 hk1 hS => ?_)
        unfold BM at hB
        rw [ht] at hB
        have hP : va_P (dC, dI) classes (wM g c v F rc) H1 := hB
        replace hw : r13594.toInt = (F 1 (limJ (F 11) p0 p1)).toInt := hw
        have hw_r13594 := hw
        clear hw
        clear hz1
        generalize H1 = H at hP hS ⊢
        refine lv_if_le (tgt := 43) hx hb dX12_left_30 (by decide) (fun c13595 => ?_) (fun c13595 => ?_)
        · skip
          have t13596 := cv_le (a := r13594.toInt) rfl (b := 0) (by decide) c13595
          refine lv_ldc (v := (-2000000000)) hx hb hown (hwd _ wk_542) dX12_left_43 ?_
          have hP9 : va_P (dC, dI) classes (wM g c v F rc) H := hP
          exact W.iret (v := (-2000000000)) hx hb hr (fun t ht hW => ⟨⟨(-2000000000), (v, F, rc), rfl, ⟨hI, rfl, (fun _ _ => rfl), hF, trivial⟩, (by show va_P _ _ _ t.heap; rw [ht]; exact hP9)⟩, hS.F ht⟩) hS.2.2 dX12_left_45
        · skip
          have t13597 := cv_nle (a := r13594.toInt) rfl (b := 0) (by decide) c13595
          refine lv_aload_n hx hb dX12_left_33 rfl (lv_at hl 0 rfl) ?_
          refine lv_iload_n hx hb dX12_left_34 rfl (lv_at hl 1 rfl) ?_
          refine lv_iload_n hx hb dX12_left_35 rfl (lv_at hl 2 rfl) ?_
          refine lv_iload_n hx hb dX12_left_36 rfl (lv_at hl 3 rfl) ?_
          refine va_calli (va_runV (As := [.int p0, .int p1, .int p2]) (rest := []) ⟨hx, hb, hml, hown, hwd⟩ (c_X12_leftOf l dC dI g c adK adV v F rc H.size p0 p1 p2 hg hI (by omega) (by omega) (JL.to hL (show v 31 = v 31 from rfl) rfl rfl rfl)) (cwV 3 hwd (gV wk_493 wk_490 wk_491 wk_492 wk_5) rfl rfl rfl (by decide +kernel) ⟨Nat.le_of_ble_eq_true rfl, Nat.le_of_ble_eq_true rfl⟩) ⟨PM.blind, va_recv hK hP (ci := 12) (q0 := 0) rfl rfl, fun U hU hW => ⟨rfl, PM.at hK hE hP hS hU hW⟩⟩ rfl rfl hl.1 rfl (lv_room (Nat.le_of_ble_eq_true rfl)) dX12_left_37 ⟨Nat.le_of_ble_eq_true rfl, Nat.le_of_ble_eq_true rfl⟩) hS (fun q _ h => (freeM hS) q h) (freeM hS) (fun r13598 u t H1 locs ht hvm hw hB hz1 hk1 hS => ?_)
          unfold BM at hB
          rw [ht] at hB
          obtain ⟨v13599, F13600, rc9⟩ := u
          obtain ⟨hI, hrc, hf13601, hG13602, hw⟩ := hw
          dsimp only at hI hrc hB hf13601 hG13602 hw
          have hF := frCF (by decide) hG13602 hF
          rw [hrc] at hB
          have hP : va_P (dC, dI) classes (wM g c v13599 F13600 rc) H1 := hB
          clear hz1
          generalize H1 = H at hP hS ⊢
          have rr_r13598 := i32_rng r13598
          refine lv_goto (tgt := 45) hx hb dX12_left_40 (by decide) ?_
          have hP9 : va_P (dC, dI) classes (wM g c v13599 F13600 rc) H := hP
          exact W.iret (v := r13598) hx hb hr (fun t ht hW => ⟨⟨r13598, (v13599, F13600, rc), rfl, ⟨hI, rfl, (frC (by decide) hf13601 (fun _ _ => rfl)), hF, trivial⟩, (by show va_P _ _ _ t.heap; rw [ht]; exact hP9)⟩, hS.F ht⟩) hS.2.2 dX12_left_45
set_option maxHeartbeats 8000000 in
set_option maxRecDepth 100000 in
theorem c_X12_lost (l : Launch) (dC : Nat → ClassId) (dI : Nat → Nat → Nat) (g : Nat → Nat) (c : Nat → ClassId) (adK adV : Nat → Nat) (v : Nat → Int32) (F : Nat → Nat → Int32) (rc sz : Nat) (p0 : Int32) (p1 : Int32) (p2 : Int32) (hg : injM g) (hI : IM v F) (hL : JL (v 31) (F 28) (F 29) (F 27)) : Met l yX12_lost (Cond.code yX12_lost cX12_lost 5 (some .int) :: wA) ({ frames := 4, cells := 0, slots := 0, locals := 160 }) (va_Pc [.ref (g 0), .int p0, .int p1, .int p2] (PM dC dI g c adK adV v F rc sz)) (va_Qi (fun (r : Int32) (u : StM) => IM u.1 u.2.1 ∧ u.2.2 = rc ∧ (∀ k, k ∉ ([] : List Nat) → u.1 k = v k) ∧ (∀ k, k ∉ ([30, 31] : List Nat) → u.2.1 k = F k) ∧ True) (BM dC dI g c) (AM g sz)) 0 0 (AM g sz) := by
  refine Met.ofW (cc := cX12_lost) (maxL := 5) (ret := (some .int)) (by decide) rfl ?_
  intro p e s m args below meth c0 s₁ B hml hv
  obtain ⟨rfl, hsz, hP, hK, hE⟩ := hv
  have hx := B.exec
  have hb := B.bytes
  have hr := B.returns
  have hts := atoms_spec (ws := Cond.code yX12_lost cX12_lost 5 (some .int) :: wA) B.pre
  have hwd : ∀ w ∈ wA, w.before _ s = true := fun w h => hts w (List.mem_cons_of_mem _ h)
  have hown : s.vm.findClass RX12 = some m.cls := findClass_of_methodNamed B.named
  have hlocks := B.notSynchronized
  subst hsz
  have hl := lv_entry ([.ref (g 0), .int p0, .int p1, .int p2]) (n := 5) (Nat.le_of_ble_eq_true rfl)
  rw [lg_entry_eq]
  generalize (lg_sl ([.ref (g 0), .int p0, .int p1, .int p2]) ++ List.replicate (5 - (lg_sl ([.ref (g 0), .int p0, .int p1, .int p2])).length) Slot.unset).toArray = ls at hl ⊢
  have hl : lv_has ls 5 [(0, .ref (g 0)), (1, .int p0), (2, .int p1), (3, .int p2)] := hl
  obtain ⟨H, eH⟩ : ∃ z, z = s.heap := ⟨_, rfl⟩
  have hP : va_P (dC, dI) classes (wM g c v F rc) H := by rw [eH]; exact hP
  have hS : va_S (AM g s.heap.size) s.heap H [] := by rw [eH]; exact va_S.rf
  refine my_heap eH ?_
  have hF : ∀ k, k ∉ ([30, 31] : List Nat) → F k = F k := fun _ _ => rfl
  have rp0 := i32_rng p0
  have rp1 := i32_rng p1
  have rp2 := i32_rng p2
  have hb31 : 0 ≤ (v 31).toInt ∧ (v 31).toInt ≤ 10 := hI.1 31 _ _ rfl
  refine lv_aload_n hx hb dX12_lost_0 rfl (lv_at hl 0 rfl) ?_
  refine lv_iload_n hx hb dX12_lost_1 rfl (lv_at hl 1 rfl) ?_
  have t13626 : 0 ≤ (v 14).toInt ∧ (v 14).toInt ≤ 100 := hI.1 14 _ _ rfl
  refine va_calli (va_runV (As := [.int p0]) (rest := []) ⟨hx, hb, hml, hown, hwd⟩ (c_X12_isPart l dC dI g c adK adV v F rc H.size p0 hg hI ) (cwV 1 hwd (gV wk_631 wk_628 wk_629 wk_630 wk_5) rfl rfl rfl (by decide +kernel) ⟨Nat.le_of_ble_eq_true rfl, Nat.le_of_ble_eq_true rfl⟩) ⟨PM.blind, va_recv hK hP (ci := 12) (q0 := 0) rfl rfl, fun U hU hW => ⟨rfl, PM.at hK hE hP hS hU hW⟩⟩ rfl rfl hl.1 rfl (lv_room (Nat.le_of_ble_eq_true rfl)) dX12_lost_2 ⟨Nat.le_of_ble_eq_true rfl, Nat.le_of_ble_eq_true rfl⟩) hS (fun q _ h => (freeM hS) q h) (freeM hS) (fun r13627 u t H1 locs ht hvm hw hB hz1 hk1 hS => ?_)
  unfold BM at hB
  rw [ht] at hB
  have hP : va_P (dC, dI) classes (wM g c v F rc) H1 := hB
  replace hw : (r13627.toInt = 1 ∧ 0 ≤ p0.toInt ∧ p0.toInt < (v 14).toInt) ∨ (r13627.toInt = 0 ∧ (p0.toInt < 0 ∨ (v 14).toInt ≤ p0.toInt)) := hw
  have hw_r13627 := hw
  clear hw
  clear hz1
  generalize H1 = H at hP hS ⊢
  refine lv_if_eq (tgt := 15) hx hb dX12_lost_5 (by decide) (fun c13628 => ?_) (fun c13628 => ?_)
  · skip
    have t13629 := cv_eq (a := r13627.toInt) rfl (b := 0) (by decide) c13628
    refine lv_iconst (v := (-1)) hx hb dX12_lost_15 (by decide) ?_
    have hP9 : va_P (dC, dI) classes (wM g c v F rc) H := hP
    exact W.iret (v := (-1)) hx hb hr (fun t ht hW => ⟨⟨(-1), (v, F, rc), rfl, ⟨hI, rfl, (fun _ _ => rfl), hF, trivial⟩, (by show va_P _ _ _ t.heap; rw [ht]; exact hP9)⟩, hS.F ht⟩) hS.2.2 dX12_lost_16
  · skip
    have t13630 := cv_ne (a := r13627.toInt) rfl (b := 0) (by decide) c13628
    refine lv_iload_n hx hb dX12_lost_8 rfl (lv_at hl 3 rfl) ?_
    refine va_calli (va_runS (As := [.int p2]) (rest := []) ⟨hx, hb, hml, hown, hwd⟩ (c_X12_isDay l dC dI g c adK adV v F rc H.size p2 hg hI ) (va_cwS 1 hwd (gT wk_556 wk_554 wk_555 wk_5) rfl rfl rfl (by decide +kernel) ⟨Nat.le_of_ble_eq_true rfl, Nat.le_of_ble_eq_true rfl⟩) ⟨PM.blind, fun U hU hW => ⟨rfl, PM.at hK hE hP hS hU hW⟩⟩ rfl rfl hl.1 rfl (lv_room (Nat.le_of_ble_eq_true rfl)) dX12_lost_9 ⟨Nat.le_of_ble_eq_true rfl, Nat.le_of_ble_eq_true rfl⟩) hS (fun q _ h => (freeM hS) q h) (freeM hS) (fun r13631 u t H1 locs ht hvm hw hB hz1 hk1 hS => ?_)
    unfold BM at hB
    rw [ht] at hB
    have hP : va_P (dC, dI) classes (wM g c v F rc) H1 := hB
    have hw_r13631 : (r13631.toInt = 1 ∧ 0 ≤ p2.toInt ∧ p2.toInt ≤ 9999) ∨ (r13631.toInt = 0 ∧ (p2.toInt < 0 ∨ 9999 < p2.toInt)) := hw
    clear hw
    clear hz1
    generalize H1 = H at hP hS ⊢
    refine lv_if_ne (tgt := 17) hx hb dX12_lost_12 (by decide) (fun c13632 => ?_) (fun c13632 => ?_)
    · skip
      have t13633 := cv_ne (a := r13631.toInt) rfl (b := 0) (by decide) c13632
      refine lv_aload_n hx hb dX12_lost_17 rfl (lv_at hl 0 rfl) ?_
      refine lv_iload_n hx hb dX12_lost_18 rfl (lv_at hl 1 rfl) ?_
      refine lv_iload_n hx hb dX12_lost_19 rfl (lv_at hl 2 rfl) ?_
      have t13634 : 0 ≤ (v 19).toInt ∧ (v 19).toInt ≤ 500 := hI.1 19 _ _ rfl
      refine va_calli (va_runV (As := [.int p0, .int p1]) (rest := []) ⟨hx, hb, hml, hown, hwd⟩ (c_X12_stayOf l dC dI g c adK adV v F rc H.size p0 p1 hg hI ) (cwV 2 hwd (gV wk_744 wk_741 wk_742 wk_743 wk_5) rfl rfl rfl (by decide +kernel) ⟨Nat.le_of_ble_eq_true rfl, Nat.le_of_ble_eq_true rfl⟩) ⟨PM.blind, va_recv hK hP (ci := 12) (q0 := 0) rfl rfl, fun U hU hW => ⟨rfl, PM.at hK hE hP hS hU hW⟩⟩ rfl rfl hl.1 rfl (lv_room (Nat.le_of_ble_eq_true rfl)) dX12_lost_20 ⟨Nat.le_of_ble_eq_true rfl, Nat.le_of_ble_eq_true rfl⟩) hS (fun q _ h => (freeM hS) q h) (freeM hS) (fun r13635 u t H1 locs ht hvm hw hB hz1 hk1 hS => ?_)
      unfold BM at hB
      rw [ht] at hB
      have hP : va_P (dC, dI) classes (wM g c v F rc) H1 := hB
      replace hw : ((0 ≤ r13635.toInt ∧ r13635.toInt < (v 19).toInt) ∧ (F 15 r13635.toNatClampNeg).toInt = p0.toInt ∧ (cnt (ahP (F 15) (F 17) p0.toInt r13635.toNatClampNeg) (v 19).toNatClampNeg : Int) = p1.toInt) ∨ (r13635.toInt = -1 ∧ ∀ s : Nat, (s : Int) < (v 19).toInt → ((F 15 s).toInt = p0.toInt → (cnt (ahP (F 15) (F 17) p0.toInt s) (v 19).toNatClampNeg : Int) ≠ p1.toInt)) := hw
      have hw_r13635 := hw
      clear hw
      clear hz1
      generalize H1 = H at hP hS ⊢
      refine lv_istore (lv' := [(4, .int r13635), (0, .ref (g 0)), (1, .int p0), (2, .int p1), (3, .int p2)]) hx hb dX12_lost_23 hl (by decide) rfl (fun ls hl => ?_)
      refine lv_iload hx hb dX12_lost_25 (lv_at hl 0 rfl) ?_
      refine lv_if_ge (tgt := 32) hx hb dX12_lost_27 (by decide) (fun c13636 => ?_) (fun c13636 => ?_)
      · skip
        have t13637 := cv_le (a := 0) (by decide) (b := r13635.toInt) rfl c13636
        refine lv_aload_n hx hb dX12_lost_32 rfl (lv_at hl 1 rfl) ?_
        refine lv_iload hx hb dX12_lost_33 (lv_at hl 0 rfl) ?_
        refine va_calli (va_runV (As := [.int r13635]) (rest := []) ⟨hx, hb, hml, hown, hwd⟩ (c_X12_isGap l dC dI g c adK adV v F rc H.size r13635 hg hI (by omega)) (cwV 1 hwd (gV wk_499 wk_496 wk_497 wk_498 wk_5) rfl rfl rfl (by decide +kernel) ⟨Nat.le_of_ble_eq_true rfl, Nat.le_of_ble_eq_true rfl⟩) ⟨PM.blind, va_recv hK hP (ci := 12) (q0 := 0) rfl rfl, fun U hU hW => ⟨rfl, PM.at hK hE hP hS hU hW⟩⟩ rfl rfl hl.1 rfl (lv_room (Nat.le_of_ble_eq_true rfl)) dX12_lost_35 ⟨Nat.le_of_ble_eq_true rfl, Nat.le_of_ble_eq_true rfl⟩) hS (fun q _ h => (freeM hS) q h) (freeM hS) (fun r13638 u t H1 locs ht hvm hw hB hz1 hk1 hS => ?_)
        unfold BM at hB
        rw [ht] at hB
        have hP : va_P (dC, dI) classes (wM g c v F rc) H1 := hB
        have hw_r13638 : 0 ≤ r13638.toInt ∧ r13638.toInt ≤ 1 := hw
        clear hw
        clear hz1
        generalize H1 = H at hP hS ⊢
        refine lv_if_eq (tgt := 51) hx hb dX12_lost_38 (by decide) (fun c13639 => ?_) (fun c13639 => ?_)
        · skip
          have t13640 := cv_eq (a := r13638.toInt) rfl (b := 0) (by decide) c13639
          refine lv_bipush (v := (-2)) hx hb dX12_lost_51 (by decide) ?_
          have hP9 : va_P (dC, dI) classes (wM g c v F rc) H := hP
          exact W.iret (v := (-2)) hx hb hr (fun t ht hW => ⟨⟨(-2), (v, F, rc), rfl, ⟨hI, rfl, (fun _ _ => rfl), hF, trivial⟩, (by show va_P _ _ _ t.heap; rw [ht]; exact hP9)⟩, hS.F ht⟩) hS.2.2 dX12_lost_53
        · skip
          have t13641 := cv_ne (a := r13638.toInt) rfl (b := 0) (by decide) c13639
          refine lv_aload_n hx hb dX12_lost_41 rfl (lv_at hl 1 rfl) ?_
          refine lv_iload hx hb dX12_lost_42 (lv_at hl 0 rfl) ?_
          refine lv_iload_n hx hb dX12_lost_44 rfl (lv_at hl 4 rfl) ?_
          refine va_calli (va_runV (As := [.int r13635, .int p2]) (rest := []) ⟨hx, hb, hml, hown, hwd⟩ (c_X12_lostBy l dC dI g c adK adV v F rc H.size r13635 p2 hg hI (by omega) (JL.to hL (show v 31 = v 31 from rfl) rfl rfl rfl)) (cwV 2 hwd (gV wk_504 wk_501 wk_502 wk_503 wk_5) rfl rfl rfl (by decide +kernel) ⟨Nat.le_of_ble_eq_true rfl, Nat.le_of_ble_eq_true rfl⟩) ⟨PM.blind, va_recv hK hP (ci := 12) (q0 := 0) rfl rfl, fun U hU hW => ⟨rfl, PM.at hK hE hP hS hU hW⟩⟩ rfl rfl hl.1 rfl (lv_room (Nat.le_of_ble_eq_true rfl)) dX12_lost_45 ⟨Nat.le_of_ble_eq_true rfl, Nat.le_of_ble_eq_true rfl⟩) hS (fun q _ h => (freeM hS) q h) (freeM hS) (fun r13642 u t H1 locs ht hvm hw hB hz1 hk1 hS => ?_)
          unfold BM at hB
          rw [ht] at hB
          obtain ⟨v13643, F13644, rc9⟩ := u
          obtain ⟨hI, hrc, hf13645, hG13646, hw⟩ := hw
          dsimp only at hI hrc hB hf13645 hG13646 hw
          have hF := frCF (by decide) hG13646 hF
          rw [hrc] at hB
          have hP : va_P (dC, dI) classes (wM g c v13643 F13644 rc) H1 := hB
          have hw_r13642 : 0 ≤ r13642.toInt ∧ r13642.toInt ≤ 100 := hw
          clear hw
          clear hz1
          generalize H1 = H at hP hS ⊢
          refine lv_goto (tgt := 53) hx hb dX12_lost_48 (by decide) ?_
          have hP9 : va_P (dC, dI) classes (wM g c v13643 F13644 rc) H := hP
          exact W.iret (v := r13642) hx hb hr (fun t ht hW => ⟨⟨r13642, (v13643, F13644, rc), rfl, ⟨hI, rfl, (frC (by decide) hf13645 (fun _ _ => rfl)), hF, trivial⟩, (by show va_P _ _ _ t.heap; rw [ht]; exact hP9)⟩, hS.F ht⟩) hS.2.2 dX12_lost_53
      · skip
        have t13647 := cv_nle (a := 0) (by decide) (b := r13635.toInt) rfl c13636
        refine lv_iconst (v := (-1)) hx hb dX12_lost_30 (by decide) ?_
        have hP9 : va_P (dC, dI) classes (wM g c v F rc) H := hP
        exact W.iret (v := (-1)) hx hb hr (fun t ht hW => ⟨⟨(-1), (v, F, rc), rfl, ⟨hI, rfl, (fun _ _ => rfl), hF, trivial⟩, (by show va_P _ _ _ t.heap; rw [ht]; exact hP9)⟩, hS.F ht⟩) hS.2.2 dX12_lost_31
    · skip
      have t13648 := cv_eq (a := r13631.toInt) rfl (b := 0) (by decide) c13632
      refine lv_iconst (v := (-1)) hx hb dX12_lost_15 (by decide) ?_
      have hP9 : va_P (dC, dI) classes (wM g c v F rc) H := hP
      exact W.iret (v := (-1)) hx hb hr (fun t ht hW => ⟨⟨(-1), (v, F, rc), rfl, ⟨hI, rfl, (fun _ _ => rfl), hF, trivial⟩, (by show va_P _ _ _ t.heap; rw [ht]; exact hP9)⟩, hS.F ht⟩) hS.2.2 dX12_lost_16
set_option maxHeartbeats 8000000 in
set_option maxRecDepth 100000 in
theorem c_X12_least (l : Launch) (dC : Nat → ClassId) (dI : Nat → Nat → Nat) (g : Nat → Nat) (c : Nat → ClassId) (adK adV : Nat → Nat) (v : Nat → Int32) (F : Nat → Nat → Int32) (rc sz : Nat) (p0 : Int32) (p1 : Int32) (hg : injM g) (hI : IM v F) (hL : JL (v 31) (F 28) (F 29) (F 27)) : Met l yX12_least (Cond.code yX12_least cX12_least 9 (some .int) :: wA) ({ frames := 5, cells := 0, slots := 0, locals := 200 }) (va_Pc [.ref (g 0), .int p0, .int p1] (PM dC dI g c adK adV v F rc sz)) (va_Qi (fun (r : Int32) (u : StM) => IM u.1 u.2.1 ∧ u.2.2 = rc ∧ (∀ k, k ∉ ([] : List Nat) → u.1 k = v k) ∧ (∀ k, k ∉ ([30, 31] : List Nat) → u.2.1 k = F k) ∧ True) (BM dC dI g c) (AM g sz)) 0 0 (AM g sz) := by
  refine Met.ofW (cc := cX12_least) (maxL := 9) (ret := (some .int)) (by decide) rfl ?_
  intro p e s m args below meth c0 s₁ B hml hv
  obtain ⟨rfl, hsz, hP, hK, hE⟩ := hv
  have hx := B.exec
  have hb := B.bytes
  have hr := B.returns
  have hts := atoms_spec (ws := Cond.code yX12_least cX12_least 9 (some .int) :: wA) B.pre
  have hwd : ∀ w ∈ wA, w.before _ s = true := fun w h => hts w (List.mem_cons_of_mem _ h)
  have hown : s.vm.findClass RX12 = some m.cls := findClass_of_methodNamed B.named
  have hlocks := B.notSynchronized
  subst hsz
  have hl := lv_entry ([.ref (g 0), .int p0, .int p1]) (n := 9) (Nat.le_of_ble_eq_true rfl)
  rw [lg_entry_eq]
  generalize (lg_sl ([.ref (g 0), .int p0, .int p1]) ++ List.replicate (9 - (lg_sl ([.ref (g 0), .int p0, .int p1])).length) Slot.unset).toArray = ls at hl ⊢
  have hl : lv_has ls 9 [(0, .ref (g 0)), (1, .int p0), (2, .int p1)] := hl
  obtain ⟨H, eH⟩ : ∃ z, z = s.heap := ⟨_, rfl⟩
  have hP : va_P (dC, dI) classes (wM g c v F rc) H := by rw [eH]; exact hP
  have hS : va_S (AM g s.heap.size) s.heap H [] := by rw [eH]; exact va_S.rf
  refine my_heap eH ?_
  have hF : ∀ k, k ∉ ([30, 31] : List Nat) → F k = F k := fun _ _ => rfl
  have rp0 := i32_rng p0
  have rp1 := i32_rng p1
  have hb31 : 0 ≤ (v 31).toInt ∧ (v 31).toInt ≤ 10 := hI.1 31 _ _ rfl
  refine lv_aload_n hx hb dX12_least_0 rfl (lv_at hl 0 rfl) ?_
  refine lv_iload_n hx hb dX12_least_1 rfl (lv_at hl 1 rfl) ?_
  have t13701 : 0 ≤ (v 14).toInt ∧ (v 14).toInt ≤ 100 := hI.1 14 _ _ rfl
  refine va_calli (va_runV (As := [.int p0]) (rest := []) ⟨hx, hb, hml, hown, hwd⟩ (c_X12_isPart l dC dI g c adK adV v F rc H.size p0 hg hI ) (cwV 1 hwd (gV wk_631 wk_628 wk_629 wk_630 wk_5) rfl rfl rfl (by decide +kernel) ⟨Nat.le_of_ble_eq_true rfl, Nat.le_of_ble_eq_true rfl⟩) ⟨PM.blind, va_recv hK hP (ci := 12) (q0 := 0) rfl rfl, fun U hU hW => ⟨rfl, PM.at hK hE hP hS hU hW⟩⟩ rfl rfl hl.1 rfl (lv_room (Nat.le_of_ble_eq_true rfl)) dX12_least_2 ⟨Nat.le_of_ble_eq_true rfl, Nat.le_of_ble_eq_true rfl⟩) hS (fun q _ h => (freeM hS) q h) (freeM hS) (fun r13702 u t H1 locs ht hvm hw hB hz1 hk1 hS => ?_)
  unfold BM at hB
  rw [ht] at hB
  have hP : va_P (dC, dI) classes (wM g c v F rc) H1 := hB
  replace hw : (r13702.toInt = 1 ∧ 0 ≤ p0.toInt ∧ p0.toInt < (v 14).toInt) ∨ (r13702.toInt = 0 ∧ (p0.toInt < 0 ∨ (v 14).toInt ≤ p0.toInt)) := hw
  have hw_r13702 := hw
  clear hw
  clear hz1
  generalize H1 = H at hP hS ⊢
  refine lv_if_eq (tgt := 15) hx hb dX12_least_5 (by decide) (fun c13703 => ?_) (fun c13703 => ?_)
  · skip
    have t13704 := cv_eq (a := r13702.toInt) rfl (b := 0) (by decide) c13703
    refine lv_iconst (v := (-1)) hx hb dX12_least_15 (by decide) ?_
    have hP9 : va_P (dC, dI) classes (wM g c v F rc) H := hP
    exact W.iret (v := (-1)) hx hb hr (fun t ht hW => ⟨⟨(-1), (v, F, rc), rfl, ⟨hI, rfl, (fun _ _ => rfl), hF, trivial⟩, (by show va_P _ _ _ t.heap; rw [ht]; exact hP9)⟩, hS.F ht⟩) hS.2.2 dX12_least_16
  · skip
    have t13705 := cv_ne (a := r13702.toInt) rfl (b := 0) (by decide) c13703
    refine lv_iload_n hx hb dX12_least_8 rfl (lv_at hl 2 rfl) ?_
    refine va_calli (va_runS (As := [.int p1]) (rest := []) ⟨hx, hb, hml, hown, hwd⟩ (c_X12_isDay l dC dI g c adK adV v F rc H.size p1 hg hI ) (va_cwS 1 hwd (gT wk_556 wk_554 wk_555 wk_5) rfl rfl rfl (by decide +kernel) ⟨Nat.le_of_ble_eq_true rfl, Nat.le_of_ble_eq_true rfl⟩) ⟨PM.blind, fun U hU hW => ⟨rfl, PM.at hK hE hP hS hU hW⟩⟩ rfl rfl hl.1 rfl (lv_room (Nat.le_of_ble_eq_true rfl)) dX12_least_9 ⟨Nat.le_of_ble_eq_true rfl, Nat.le_of_ble_eq_true rfl⟩) hS (fun q _ h => (freeM hS) q h) (freeM hS) (fun r13706 u t H1 locs ht hvm hw hB hz1 hk1 hS => ?_)
    unfold BM at hB
    rw [ht] at hB
    have hP : va_P (dC, dI) classes (wM g c v F rc) H1 := hB
    have hw_r13706 : (r13706.toInt = 1 ∧ 0 ≤ p1.toInt ∧ p1.toInt ≤ 9999) ∨ (r13706.toInt = 0 ∧ (p1.toInt < 0 ∨ 9999 < p1.toInt)) := hw
    clear hw
    clear hz1
    generalize H1 = H at hP hS ⊢
    refine lv_if_ne (tgt := 17) hx hb dX12_least_12 (by decide) (fun c13707 => ?_) (fun c13707 => ?_)
    · skip
      have t13708 := cv_ne (a := r13706.toInt) rfl (b := 0) (by decide) c13707
      refine lv_bipush (v := (-2)) hx hb dX12_least_17 (by decide) ?_
      refine lv_istore_n (lv' := [(3, .int (-2)), (0, .ref (g 0)), (1, .int p0), (2, .int p1)]) hx hb dX12_least_19 rfl hl (by decide) rfl (fun ls hl => ?_)
      refine lv_lconst (v := 0) hx hb dX12_least_20 (by decide) ?_
      refine lv_lstore (lv' := [(4, .long 0), (3, .int (-2)), (0, .ref (g 0)), (1, .int p0), (2, .int p1)]) hx hb dX12_least_21 hl (by decide) rfl (fun ls hl => ?_)
      refine lv_iconst (v := 0) hx hb dX12_least_23 (by decide) ?_
      refine lv_istore (lv' := [(6, .int 0), (4, .long 0), (3, .int (-2)), (0, .ref (g 0)), (1, .int p0), (2, .int p1)]) hx hb dX12_least_24 hl (by decide) rfl (fun ls hl => ?_)
      have lp13709 : ∀ (n : Nat) (x6_lp13709 : Int32) (x4_lp13709 : Int64) (x3_lp13709 : Int32) (v_lp13709 : Nat → Int32) (F_lp13709 : Nat → Nat → Int32) (H : Heap) (locs : List Loc) (ls : Array Slot), (0 ≤ x6_lp13709.toInt) → (2147483648 - x6_lp13709.toInt ≤ (n : Int)) → (∀ k, k ∉ ([] : List Nat) → v_lp13709 k = v k) → IM v_lp13709 F_lp13709 → (∀ k, k ∉ ([30, 31] : List Nat) → F_lp13709 k = F k) → va_P (dC, dI) classes (wM g c v_lp13709 F_lp13709 rc) H → va_S (AM g s.heap.size) s.heap H locs → lv_has ls 9 [(6, .int x6_lp13709), (4, .long x4_lp13709), (3, .int x3_lp13709), (0, .ref (g 0)), (1, .int p0), (2, .int p1)] → W p l e (headSpec (Cond.code yX12_least cX12_least 9 (some .int) :: wA) ({ frames := 5, cells := 0, slots := 0, locals := 200 })).room s m ([.ref (g 0), .int p0, .int p1] : List Value).toArray below meth c0 H locs 0 0 (MQ below (va_Qi (fun (r : Int32) (u : StM) => IM u.1 u.2.1 ∧ u.2.2 = rc ∧ (∀ k, k ∉ ([] : List Nat) → u.1 k = v k) ∧ (∀ k, k ∉ ([30, 31] : List Nat) → u.2.1 k = F k) ∧ True) (BM dC dI g c) (AM g s.heap.size)) ([.ref (g 0), .int p0, .int p1] : List Value).toArray s 0 0 (AM g s.heap.size)) (F0 m 26 ls []) := by
        intro n
        induction n with
        | zero =>
          intro x6_lp13709 x4_lp13709 x3_lp13709 v_lp13709 F_lp13709 H locs ls t13710 hm hf_lp13709 hI hF hP hS hl
          exfalso
          have := i32_rng x6_lp13709
          have := i32_rng x3_lp13709
          have hI1 := hI.1
          omega
        | succ n ih_lp13709 =>
          intro x6_lp13709 x4_lp13709 x3_lp13709 v_lp13709 F_lp13709 H locs ls t13710 hm hf_lp13709 hI hF hP hS hl
          have rx6_lp13709 := i32_rng x6_lp13709
          have rx3_lp13709 := i32_rng x3_lp13709
          refine lv_iload hx hb dX12_least_26 (lv_at hl 0 rfl) ?_
          refine lv_iconst (v := 3) hx hb dX12_least_28 (by decide) ?_
          refine lv_icmp_ge (tgt := 97) hx hb dX12_least_29 (by decide) (fun c13711 => ?_) (fun c13711 => ?_)
          · skip
            have t13712 := cv_le (a := 3) (by decide) (b := x6_lp13709.toInt) rfl c13711
            refine lv_iload_n hx hb dX12_least_97 rfl (lv_at hl 2 rfl) ?_
            have hP9 : va_P (dC, dI) classes (wM g c v_lp13709 F_lp13709 rc) H := hP
            exact W.iret (v := x3_lp13709) hx hb hr (fun t ht hW => ⟨⟨x3_lp13709, (v_lp13709, F_lp13709, rc), rfl, ⟨hI, rfl, (frC (by decide) hf_lp13709 (fun _ _ => rfl)), hF, trivial⟩, (by show va_P _ _ _ t.heap; rw [ht]; exact hP9)⟩, hS.F ht⟩) hS.2.2 dX12_least_98
          · skip
            have t13713 := cv_nle (a := 3) (by decide) (b := x6_lp13709.toInt) rfl c13711
            refine lv_aload_n hx hb dX12_least_32 rfl (lv_at hl 3 rfl) ?_
            refine lv_iload_n hx hb dX12_least_33 rfl (lv_at hl 4 rfl) ?_
            refine lv_iload hx hb dX12_least_34 (lv_at hl 0 rfl) ?_
            refine va_calli (va_runV (As := [.int p0, .int x6_lp13709]) (rest := []) ⟨hx, hb, hml, hown, hwd⟩ (c_X12_limitOf l dC dI g c adK adV v_lp13709 F_lp13709 rc H.size p0 x6_lp13709 hg hI (by omega) (by omega)) (cwV 2 hwd (gV wk_489 wk_486 wk_487 wk_488 wk_5) rfl rfl rfl (by decide +kernel) ⟨Nat.le_of_ble_eq_true rfl, Nat.le_of_ble_eq_true rfl⟩) ⟨PM.blind, va_recv hK hP (ci := 12) (q0 := 0) rfl rfl, fun U hU hW => ⟨rfl, PM.at hK hE hP hS hU hW⟩⟩ rfl rfl hl.1 rfl (lv_room (Nat.le_of_ble_eq_true rfl)) dX12_least_36 ⟨Nat.le_of_ble_eq_true rfl, Nat.le_of_ble_eq_true rfl⟩) hS (fun q _ h => (freeM hS) q h) (freeM hS) (fun r13714 u t H1 locs ht hvm hw hB hz1 hk1 hS => ?_)
            unfold BM at hB
            rw [ht] at hB
            have hP : va_P (dC, dI) classes (wM g c v_lp13709 F_lp13709 rc) H1 := hB
            replace hw : r13714.toInt = (F_lp13709 1 (limJ (F_lp13709 11) p0 x6_lp13709)).toInt := hw
            rw [hF 1 (by decide)] at hw
            rw [hF 11 (by decide)] at hw
            have hw_r13714 := hw
            clear hw
            clear hz1
            generalize H1 = H at hP hS ⊢
            refine lv_if_ne (tgt := 45) hx hb dX12_least_39 (by decide) (fun c13715 => ?_) (fun c13715 => ?_)
            · skip
              have t13716 := cv_ne (a := r13714.toInt) rfl (b := 0) (by decide) c13715
              refine lv_ldc2 (v := 10000) hx hb hown (hwd _ wk_781) dX12_least_45 ?_
              refine lv_aload_n hx hb dX12_least_48 rfl (lv_at hl 3 rfl) ?_
              refine lv_iload_n hx hb dX12_least_49 rfl (lv_at hl 4 rfl) ?_
              refine lv_iload hx hb dX12_least_50 (lv_at hl 0 rfl) ?_
              refine lv_iload_n hx hb dX12_least_52 rfl (lv_at hl 5 rfl) ?_
              refine va_calli (va_runV (As := [.int p0, .int x6_lp13709, .int p1]) (rest := [.long 10000]) ⟨hx, hb, hml, hown, hwd⟩ (c_X12_leftOf l dC dI g c adK adV v_lp13709 F_lp13709 rc H.size p0 x6_lp13709 p1 hg hI (by omega) (by omega) (JL.to hL (show v_lp13709 31 = v 31 from hf_lp13709 31 (by decide)) (hF 28 (by decide)) (hF 29 (by decide)) (hF 27 (by decide)))) (cwV 3 hwd (gV wk_493 wk_490 wk_491 wk_492 wk_5) rfl rfl rfl (by decide +kernel) ⟨Nat.le_of_ble_eq_true rfl, Nat.le_of_ble_eq_true rfl⟩) ⟨PM.blind, va_recv hK hP (ci := 12) (q0 := 0) rfl rfl, fun U hU hW => ⟨rfl, PM.at hK hE hP hS hU hW⟩⟩ rfl rfl hl.1 rfl (lv_room (Nat.le_of_ble_eq_true rfl)) dX12_least_53 ⟨Nat.le_of_ble_eq_true rfl, Nat.le_of_ble_eq_true rfl⟩) hS (fun q _ h => (freeM hS) q h) (freeM hS) (fun r13717 u t H1 locs ht hvm hw hB hz1 hk1 hS => ?_)
              unfold BM at hB
              rw [ht] at hB
              obtain ⟨v13718, F13719, rc9⟩ := u
              obtain ⟨hI, hrc, hf13720, hG13721, hw⟩ := hw
              dsimp only at hI hrc hB hf13720 hG13721 hw
              have hF := frCF (by decide) hG13721 hF
              rw [hrc] at hB
              have hP : va_P (dC, dI) classes (wM g c v13718 F13719 rc) H1 := hB
              clear hz1
              generalize H1 = H at hP hS ⊢
              have rr_r13717 := i32_rng r13717
              refine lv_i2l hx hb dX12_least_56 rfl ?_
              refine lv_topl (fun z13722 e13723 => ?_)
              refine lv_lmul hx hb dX12_least_57 ?_
              refine lv_topl (fun z13724 e13725 => ?_)
              refine lv_aload_n hx hb dX12_least_58 rfl (lv_at hl 3 rfl) ?_
              refine lv_iload_n hx hb dX12_least_59 rfl (lv_at hl 4 rfl) ?_
              refine lv_iload hx hb dX12_least_60 (lv_at hl 0 rfl) ?_
              refine va_calli (va_runV (As := [.int p0, .int x6_lp13709]) (rest := [.long z13724]) ⟨hx, hb, hml, hown, hwd⟩ (c_X12_limitOf l dC dI g c adK adV v13718 F13719 rc H.size p0 x6_lp13709 hg hI (by omega) (by omega)) (cwV 2 hwd (gV wk_489 wk_486 wk_487 wk_488 wk_5) rfl rfl rfl (by decide +kernel) ⟨Nat.le_of_ble_eq_true rfl, Nat.le_of_ble_eq_true rfl⟩) ⟨PM.blind, va_recv hK hP (ci := 12) (q0 := 0) rfl rfl, fun U hU hW => ⟨rfl, PM.at hK hE hP hS hU hW⟩⟩ rfl rfl hl.1 rfl (lv_room (Nat.le_of_ble_eq_true rfl)) dX12_least_62 ⟨Nat.le_of_ble_eq_true rfl, Nat.le_of_ble_eq_true rfl⟩) hS (fun q _ h => (freeM hS) q h) (freeM hS) (fun r13726 u t H1 locs ht hvm hw hB hz1 hk1 hS => ?_)
              unfold BM at hB
              rw [ht] at hB
              have hP : va_P (dC, dI) classes (wM g c v13718 F13719 rc) H1 := hB
              replace hw : r13726.toInt = (F13719 1 (limJ (F13719 11) p0 x6_lp13709)).toInt := hw
              rw [hF 1 (by decide)] at hw
              rw [hF 11 (by decide)] at hw
              have hw_r13726 := hw
              clear hw
              clear hz1
              generalize H1 = H at hP hS ⊢
              refine lv_i2l hx hb dX12_least_65 rfl ?_
              refine lv_topl (fun z13727 e13728 => ?_)
              refine lv_ldiv hx hb dX12_least_66 (nz64 e13728 (a := r13726.toInt) rfl (by omega)) ?_
              refine lv_topl (fun z13729 e13730 => ?_)
              refine lv_lstore (lv' := [(7, .long z13729), (6, .int x6_lp13709), (4, .long x4_lp13709), (3, .int x3_lp13709), (0, .ref (g 0)), (1, .int p0), (2, .int p1)]) hx hb dX12_least_67 hl (by decide) rfl (fun ls hl => ?_)
              refine lv_iload_n hx hb dX12_least_69 rfl (lv_at hl 3 rfl) ?_
              refine lv_if_lt (tgt := 84) hx hb dX12_least_70 (by decide) (fun c13731 => ?_) (fun c13731 => ?_)
              · skip
                have t13732 := cv_lt (a := x3_lp13709.toInt) rfl (b := 0) (by decide) c13731
                refine lv_iload hx hb dX12_least_84 (lv_at hl 1 rfl) ?_
                refine lv_istore_n (lv' := [(3, .int x6_lp13709), (7, .long z13729), (6, .int x6_lp13709), (4, .long x4_lp13709), (0, .ref (g 0)), (1, .int p0), (2, .int p1)]) hx hb dX12_least_86 rfl hl (by decide) rfl (fun ls hl => ?_)
                refine lv_lload hx hb dX12_least_87 (lv_at hl 1 rfl) ?_
                refine lv_lstore (lv' := [(4, .long z13729), (3, .int x6_lp13709), (7, .long z13729), (6, .int x6_lp13709), (0, .ref (g 0)), (1, .int p0), (2, .int p1)]) hx hb dX12_least_89 hl (by decide) rfl (fun ls hl => ?_)
                obtain ⟨z13733, e13734⟩ : ∃ y : Int32, y = x6_lp13709 + 1 := ⟨_, rfl⟩
                try (have t13735 := tadd e13734 rfl (b := 1) (by decide) (by omega))
                refine lv_iinc (v := z13733) (lv' := [(6, .int z13733), (4, .long z13729), (3, .int x6_lp13709), (7, .long z13729), (0, .ref (g 0)), (1, .int p0), (2, .int p1)]) hx hb dX12_least_91 hl (k := 3) rfl (by rw [e13734]; rfl) (by decide) rfl (fun ls hl => ?_)
                refine lv_goto (tgt := 26) hx hb dX12_least_94 (by decide) ?_
                exact ih_lp13709 z13733 z13729 x6_lp13709 v13718 F13719 _ _ _ (by omega) (by omega) (frC (by decide) hf13720 hf_lp13709) hI hF hP hS (lv_sub hl [0, 1, 2, 4, 5, 6] rfl)
              · skip
                have t13736 := cv_nlt (a := x3_lp13709.toInt) rfl (b := 0) (by decide) c13731
                refine lv_lload hx hb dX12_least_73 (lv_at hl 0 rfl) ?_
                refine lv_lload hx hb dX12_least_75 (lv_at hl 2 rfl) ?_
                refine W.lcmp hx hb dX12_least_77 ?_
                refine lv_topi (fun z13737 e13738 => ?_)
                refine lv_if_lt (tgt := 84) hx hb dX12_least_78 (by decide) (fun c13739 => ?_) (fun c13739 => ?_)
                · skip
                  have t13740 := cv_lt (a := z13737.toInt) rfl (b := 0) (by decide) c13739
                  refine lv_iload hx hb dX12_least_84 (lv_at hl 1 rfl) ?_
                  refine lv_istore_n (lv' := [(3, .int x6_lp13709), (7, .long z13729), (6, .int x6_lp13709), (4, .long x4_lp13709), (0, .ref (g 0)), (1, .int p0), (2, .int p1)]) hx hb dX12_least_86 rfl hl (by decide) rfl (fun ls hl => ?_)
                  refine lv_lload hx hb dX12_least_87 (lv_at hl 1 rfl) ?_
                  refine lv_lstore (lv' := [(4, .long z13729), (3, .int x6_lp13709), (7, .long z13729), (6, .int x6_lp13709), (0, .ref (g 0)), (1, .int p0), (2, .int p1)]) hx hb dX12_least_89 hl (by decide) rfl (fun ls hl => ?_)
                  obtain ⟨z13741, e13742⟩ : ∃ y : Int32, y = x6_lp13709 + 1 := ⟨_, rfl⟩
                  try (have t13743 := tadd e13742 rfl (b := 1) (by decide) (by omega))
                  refine lv_iinc (v := z13741) (lv' := [(6, .int z13741), (4, .long z13729), (3, .int x6_lp13709), (7, .long z13729), (0, .ref (g 0)), (1, .int p0), (2, .int p1)]) hx hb dX12_least_91 hl (k := 3) rfl (by rw [e13742]; rfl) (by decide) rfl (fun ls hl => ?_)
                  refine lv_goto (tgt := 26) hx hb dX12_least_94 (by decide) ?_
                  exact ih_lp13709 z13741 z13729 x6_lp13709 v13718 F13719 _ _ _ (by omega) (by omega) (frC (by decide) hf13720 hf_lp13709) hI hF hP hS (lv_sub hl [0, 1, 2, 4, 5, 6] rfl)
                · skip
                  have t13744 := cv_nlt (a := z13737.toInt) rfl (b := 0) (by decide) c13739
                  refine lv_goto (tgt := 91) hx hb dX12_least_81 (by decide) ?_
                  obtain ⟨z13745, e13746⟩ : ∃ y : Int32, y = x6_lp13709 + 1 := ⟨_, rfl⟩
                  try (have t13747 := tadd e13746 rfl (b := 1) (by decide) (by omega))
                  refine lv_iinc (v := z13745) (lv' := [(6, .int z13745), (7, .long z13729), (4, .long x4_lp13709), (3, .int x3_lp13709), (0, .ref (g 0)), (1, .int p0), (2, .int p1)]) hx hb dX12_least_91 hl (k := 1) rfl (by rw [e13746]; rfl) (by decide) rfl (fun ls hl => ?_)
                  refine lv_goto (tgt := 26) hx hb dX12_least_94 (by decide) ?_
                  exact ih_lp13709 z13745 x4_lp13709 x3_lp13709 v13718 F13719 _ _ _ (by omega) (by omega) (frC (by decide) hf13720 hf_lp13709) hI hF hP hS (lv_sub hl [0, 2, 3, 4, 5, 6] rfl)
            · skip
              have t13748 := cv_eq (a := r13714.toInt) rfl (b := 0) (by decide) c13715
              refine lv_goto (tgt := 91) hx hb dX12_least_42 (by decide) ?_
              obtain ⟨z13749, e13750⟩ : ∃ y : Int32, y = x6_lp13709 + 1 := ⟨_, rfl⟩
              try (have t13751 := tadd e13750 rfl (b := 1) (by decide) (by omega))
              refine lv_iinc (v := z13749) (lv' := [(6, .int z13749), (4, .long x4_lp13709), (3, .int x3_lp13709), (0, .ref (g 0)), (1, .int p0), (2, .int p1)]) hx hb dX12_least_91 hl (k := 0) rfl (by rw [e13750]; rfl) (by decide) rfl (fun ls hl => ?_)
              refine lv_goto (tgt := 26) hx hb dX12_least_94 (by decide) ?_
              exact ih_lp13709 z13749 x4_lp13709 x3_lp13709 v_lp13709 F_lp13709 _ _ _ (by omega) (by omega) hf_lp13709 hI hF hP hS (lv_sub hl [0, 1, 2, 3, 4, 5] rfl)
      obtain ⟨n9, hn9⟩ : ∃ n : Nat, 2147483648 - 0 ≤ (n : Int) := ⟨((2147483648 - 0 : Int)).toNat, by omega⟩
      exact lp13709 n9 0 0 (-2) v F H _ ls (by have : (0 : Int32).toInt = 0 := (by decide); have : ((-2) : Int32).toInt = (-2) := (by decide); omega) (by have : (0 : Int32).toInt = 0 := (by decide); have : ((-2) : Int32).toInt = (-2) := (by decide); omega) (fun _ _ => rfl) hI hF hP hS hl
    · skip
      have t13752 := cv_eq (a := r13706.toInt) rfl (b := 0) (by decide) c13707
      refine lv_iconst (v := (-1)) hx hb dX12_least_15 (by decide) ?_
      have hP9 : va_P (dC, dI) classes (wM g c v F rc) H := hP
      exact W.iret (v := (-1)) hx hb hr (fun t ht hW => ⟨⟨(-1), (v, F, rc), rfl, ⟨hI, rfl, (fun _ _ => rfl), hF, trivial⟩, (by show va_P _ _ _ t.heap; rw [ht]; exact hP9)⟩, hS.F ht⟩) hS.2.2 dX12_least_16
set_option maxHeartbeats 8000000 in
set_option maxRecDepth 100000 in
theorem c_X12_halfOf (l : Launch) (dC : Nat → ClassId) (dI : Nat → Nat → Nat) (g : Nat → Nat) (c : Nat → ClassId) (adK adV : Nat → Nat) (v : Nat → Int32) (F : Nat → Nat → Int32) (rc sz : Nat) (p0 : Int32) (p1 : Int32) (hg : injM g) (hI : IM v F) (hL : JL (v 31) (F 28) (F 29) (F 27)) : Met l yX12_halfOf (Cond.code yX12_halfOf cX12_halfOf 7 (some .int) :: wA) ({ frames := 5, cells := 0, slots := 0, locals := 200 }) (va_Pc [.ref (g 0), .int p0, .int p1] (PM dC dI g c adK adV v F rc sz)) (va_Qi (fun (r : Int32) (u : StM) => IM u.1 u.2.1 ∧ u.2.2 = rc ∧ (∀ k, k ∉ ([] : List Nat) → u.1 k = v k) ∧ (∀ k, k ∉ ([30, 31] : List Nat) → u.2.1 k = F k) ∧ True) (BM dC dI g c) (AM g sz)) 0 0 (AM g sz) := by
  refine Met.ofW (cc := cX12_halfOf) (maxL := 7) (ret := (some .int)) (by decide) rfl ?_
  intro p e s m args below meth c0 s₁ B hml hv
  obtain ⟨rfl, hsz, hP, hK, hE⟩ := hv
  have hx := B.exec
  have hb := B.bytes
  have hr := B.returns
  have hts := atoms_spec (ws := Cond.code yX12_halfOf cX12_halfOf 7 (some .int) :: wA) B.pre
  have hwd : ∀ w ∈ wA, w.before _ s = true := fun w h => hts w (List.mem_cons_of_mem _ h)
  have hown : s.vm.findClass RX12 = some m.cls := findClass_of_methodNamed B.named
  have hlocks := B.notSynchronized
  subst hsz
  have hl := lv_entry ([.ref (g 0), .int p0, .int p1]) (n := 7) (Nat.le_of_ble_eq_true rfl)
  rw [lg_entry_eq]
  generalize (lg_sl ([.ref (g 0), .int p0, .int p1]) ++ List.replicate (7 - (lg_sl ([.ref (g 0), .int p0, .int p1])).length) Slot.unset).toArray = ls at hl ⊢
  have hl : lv_has ls 7 [(0, .ref (g 0)), (1, .int p0), (2, .int p1)] := hl
  obtain ⟨H, eH⟩ : ∃ z, z = s.heap := ⟨_, rfl⟩
  have hP : va_P (dC, dI) classes (wM g c v F rc) H := by rw [eH]; exact hP
  have hS : va_S (AM g s.heap.size) s.heap H [] := by rw [eH]; exact va_S.rf
  refine my_heap eH ?_
  have hF : ∀ k, k ∉ ([30, 31] : List Nat) → F k = F k := fun _ _ => rfl
  have rp0 := i32_rng p0
  have rp1 := i32_rng p1
  have hb31 : 0 ≤ (v 31).toInt ∧ (v 31).toInt ≤ 10 := hI.1 31 _ _ rfl
  refine lv_lconst (v := 0) hx hb dX12_halfOf_0 (by decide) ?_
  refine lv_lstore_n (lv' := [(3, .long 0), (0, .ref (g 0)), (1, .int p0), (2, .int p1)]) hx hb dX12_halfOf_1 rfl hl (by decide) rfl (fun ls hl => ?_)
  refine lv_iconst (v := 0) hx hb dX12_halfOf_2 (by decide) ?_
  refine lv_istore (lv' := [(5, .int 0), (3, .long 0), (0, .ref (g 0)), (1, .int p0), (2, .int p1)]) hx hb dX12_halfOf_3 hl (by decide) rfl (fun ls hl => ?_)
  have lp13825 : ∀ (n : Nat) (x5_lp13825 : Int32) (x3_lp13825 : Int64) (v_lp13825 : Nat → Int32) (F_lp13825 : Nat → Nat → Int32) (H : Heap) (locs : List Loc) (ls : Array Slot), (0 ≤ x5_lp13825.toInt) → (2147483648 - x5_lp13825.toInt ≤ (n : Int)) → (∀ k, k ∉ ([] : List Nat) → v_lp13825 k = v k) → IM v_lp13825 F_lp13825 → (∀ k, k ∉ ([30, 31] : List Nat) → F_lp13825 k = F k) → va_P (dC, dI) classes (wM g c v_lp13825 F_lp13825 rc) H → va_S (AM g s.heap.size) s.heap H locs → lv_has ls 7 [(5, .int x5_lp13825), (3, .long x3_lp13825), (0, .ref (g 0)), (1, .int p0), (2, .int p1)] → W p l e (headSpec (Cond.code yX12_halfOf cX12_halfOf 7 (some .int) :: wA) ({ frames := 5, cells := 0, slots := 0, locals := 200 })).room s m ([.ref (g 0), .int p0, .int p1] : List Value).toArray below meth c0 H locs 0 0 (MQ below (va_Qi (fun (r : Int32) (u : StM) => IM u.1 u.2.1 ∧ u.2.2 = rc ∧ (∀ k, k ∉ ([] : List Nat) → u.1 k = v k) ∧ (∀ k, k ∉ ([30, 31] : List Nat) → u.2.1 k = F k) ∧ True) (BM dC dI g c) (AM g s.heap.size)) ([.ref (g 0), .int p0, .int p1] : List Value).toArray s 0 0 (AM g s.heap.size)) (F0 m 5 ls []) := by
    intro n
    induction n with
    | zero =>
      intro x5_lp13825 x3_lp13825 v_lp13825 F_lp13825 H locs ls t13826 hm hf_lp13825 hI hF hP hS hl
      exfalso
      have := i32_rng x5_lp13825
      have hI1 := hI.1
      omega
    | succ n ih_lp13825 =>
      intro x5_lp13825 x3_lp13825 v_lp13825 F_lp13825 H locs ls t13826 hm hf_lp13825 hI hF hP hS hl
      have rx5_lp13825 := i32_rng x5_lp13825
      refine lv_iload hx hb dX12_halfOf_5 (lv_at hl 0 rfl) ?_
      refine lv_aload_n hx hb dX12_halfOf_7 rfl (lv_at hl 2 rfl) ?_
      refine va_get (D := (dC, dI)) (ci := 12) (v := .int (v_lp13825 14)) (C := RX12) (T := TX12) (N := 63) hx hb hwd inA_X12 hown hK hP 0 rfl rfl 14 (by decide) (hwd _ wk_318) (fun _ h9 => h9) rfl dX12_halfOf_8 ?_
      refine my_top (v := v 14) (hf_lp13825 14 (by decide)) ?_
      have t13827 : 0 ≤ (v 14).toInt ∧ (v 14).toInt ≤ 100 := by have h9 := hI.1 14 _ _ rfl; rw [show v_lp13825 14 = v 14 from hf_lp13825 14 (by decide)] at h9; exact h9
      refine lv_icmp_ge (tgt := 99) hx hb dX12_halfOf_11 (by decide) (fun c13828 => ?_) (fun c13828 => ?_)
      · skip
        have t13829 := cv_le (a := (v 14).toInt) rfl (b := x5_lp13825.toInt) rfl c13828
        refine lv_lload_n hx hb dX12_halfOf_99 rfl (lv_at hl 1 rfl) ?_
        refine lv_ldc2 (v := 1999999999) hx hb hown (hwd _ wk_1379) dX12_halfOf_100 ?_
        refine W.lcmp hx hb dX12_halfOf_103 ?_
        refine lv_topi (fun z13830 e13831 => ?_)
        refine lv_if_le (tgt := 113) hx hb dX12_halfOf_104 (by decide) (fun c13832 => ?_) (fun c13832 => ?_)
        · skip
          have t13833 := cv_le (a := z13830.toInt) rfl (b := 0) (by decide) c13832
          refine lv_lload_n hx hb dX12_halfOf_113 rfl (lv_at hl 1 rfl) ?_
          refine lv_ldc2 (v := (-1999999999)) hx hb hown (hwd _ wk_1381) dX12_halfOf_114 ?_
          refine W.lcmp hx hb dX12_halfOf_117 ?_
          refine lv_topi (fun z13834 e13835 => ?_)
          refine lv_if_ge (tgt := 127) hx hb dX12_halfOf_118 (by decide) (fun c13836 => ?_) (fun c13836 => ?_)
          · skip
            have t13837 := cv_le (a := 0) (by decide) (b := z13834.toInt) rfl c13836
            refine lv_lload_n hx hb dX12_halfOf_127 rfl (lv_at hl 1 rfl) ?_
            refine lv_l2i hx hb dX12_halfOf_128 rfl ?_
            refine lv_topi (fun z13838 e13839 => ?_)
            have hP9 : va_P (dC, dI) classes (wM g c v_lp13825 F_lp13825 rc) H := hP
            exact W.iret (v := z13838) hx hb hr (fun t ht hW => ⟨⟨z13838, (v_lp13825, F_lp13825, rc), rfl, ⟨hI, rfl, (frC (by decide) hf_lp13825 (fun _ _ => rfl)), hF, trivial⟩, (by show va_P _ _ _ t.heap; rw [ht]; exact hP9)⟩, hS.F ht⟩) hS.2.2 dX12_halfOf_129
          · skip
            have t13840 := cv_nle (a := 0) (by decide) (b := z13834.toInt) rfl c13836
            refine lv_ldcw (v := (-1999999999)) hx hb hown (hwd _ wk_1382) dX12_halfOf_121 ?_
            refine lv_goto (tgt := 129) hx hb dX12_halfOf_124 (by decide) ?_
            have hP9 : va_P (dC, dI) classes (wM g c v_lp13825 F_lp13825 rc) H := hP
            exact W.iret (v := (-1999999999)) hx hb hr (fun t ht hW => ⟨⟨(-1999999999), (v_lp13825, F_lp13825, rc), rfl, ⟨hI, rfl, (frC (by decide) hf_lp13825 (fun _ _ => rfl)), hF, trivial⟩, (by show va_P _ _ _ t.heap; rw [ht]; exact hP9)⟩, hS.F ht⟩) hS.2.2 dX12_halfOf_129
        · skip
          have t13841 := cv_nle (a := z13830.toInt) rfl (b := 0) (by decide) c13832
          refine lv_ldcw (v := 1999999999) hx hb hown (hwd _ wk_1380) dX12_halfOf_107 ?_
          refine lv_goto (tgt := 129) hx hb dX12_halfOf_110 (by decide) ?_
          have hP9 : va_P (dC, dI) classes (wM g c v_lp13825 F_lp13825 rc) H := hP
          exact W.iret (v := 1999999999) hx hb hr (fun t ht hW => ⟨⟨1999999999, (v_lp13825, F_lp13825, rc), rfl, ⟨hI, rfl, (frC (by decide) hf_lp13825 (fun _ _ => rfl)), hF, trivial⟩, (by show va_P _ _ _ t.heap; rw [ht]; exact hP9)⟩, hS.F ht⟩) hS.2.2 dX12_halfOf_129
      · skip
        have t13842 := cv_nle (a := (v 14).toInt) rfl (b := x5_lp13825.toInt) rfl c13828
        refine lv_iconst (v := 0) hx hb dX12_halfOf_14 (by decide) ?_
        refine lv_istore (lv' := [(6, .int 0), (5, .int x5_lp13825), (3, .long x3_lp13825), (0, .ref (g 0)), (1, .int p0), (2, .int p1)]) hx hb dX12_halfOf_15 hl (by decide) rfl (fun ls hl => ?_)
        have lp13843 : ∀ (n : Nat) (x6_lp13843 : Int32) (x3_lp13843 : Int64) (v_lp13843 : Nat → Int32) (F_lp13843 : Nat → Nat → Int32) (H : Heap) (locs : List Loc) (ls : Array Slot), (0 ≤ x6_lp13843.toInt) → (2147483648 - x6_lp13843.toInt ≤ (n : Int)) → (∀ k, k ∉ ([] : List Nat) → v_lp13843 k = v_lp13825 k) → IM v_lp13843 F_lp13843 → (∀ k, k ∉ ([30, 31] : List Nat) → F_lp13843 k = F k) → va_P (dC, dI) classes (wM g c v_lp13843 F_lp13843 rc) H → va_S (AM g s.heap.size) s.heap H locs → lv_has ls 7 [(6, .int x6_lp13843), (5, .int x5_lp13825), (3, .long x3_lp13843), (0, .ref (g 0)), (1, .int p0), (2, .int p1)] → W p l e (headSpec (Cond.code yX12_halfOf cX12_halfOf 7 (some .int) :: wA) ({ frames := 5, cells := 0, slots := 0, locals := 200 })).room s m ([.ref (g 0), .int p0, .int p1] : List Value).toArray below meth c0 H locs 0 0 (MQ below (va_Qi (fun (r : Int32) (u : StM) => IM u.1 u.2.1 ∧ u.2.2 = rc ∧ (∀ k, k ∉ ([] : List Nat) → u.1 k = v k) ∧ (∀ k, k ∉ ([30, 31] : List Nat) → u.2.1 k = F k) ∧ True) (BM dC dI g c) (AM g s.heap.size)) ([.ref (g 0), .int p0, .int p1] : List Value).toArray s 0 0 (AM g s.heap.size)) (F0 m 17 ls []) := by
          intro n
          induction n with
          | zero =>
            intro x6_lp13843 x3_lp13843 v_lp13843 F_lp13843 H locs ls t13844 hm hf_lp13843 hI hF hP hS hl
            exfalso
            have := i32_rng x6_lp13843
            have hI1 := hI.1
            omega
          | succ n ih_lp13843 =>
            intro x6_lp13843 x3_lp13843 v_lp13843 F_lp13843 H locs ls t13844 hm hf_lp13843 hI hF hP hS hl
            have rx6_lp13843 := i32_rng x6_lp13843
            refine lv_iload hx hb dX12_halfOf_17 (lv_at hl 0 rfl) ?_
            refine lv_iconst (v := 3) hx hb dX12_halfOf_19 (by decide) ?_
            refine lv_icmp_ge (tgt := 93) hx hb dX12_halfOf_20 (by decide) (fun c13845 => ?_) (fun c13845 => ?_)
            · skip
              have t13846 := cv_le (a := 3) (by decide) (b := x6_lp13843.toInt) rfl c13845
              obtain ⟨z13847, e13848⟩ : ∃ y : Int32, y = x5_lp13825 + 1 := ⟨_, rfl⟩
              try (have t13849 := tadd e13848 rfl (b := 1) (by decide) (by omega))
              refine lv_iinc (v := z13847) (lv' := [(5, .int z13847), (6, .int x6_lp13843), (3, .long x3_lp13843), (0, .ref (g 0)), (1, .int p0), (2, .int p1)]) hx hb dX12_halfOf_93 hl (k := 1) rfl (by rw [e13848]; rfl) (by decide) rfl (fun ls hl => ?_)
              refine lv_goto (tgt := 5) hx hb dX12_halfOf_96 (by decide) ?_
              exact ih_lp13825 z13847 x3_lp13843 v_lp13843 F_lp13843 _ _ _ (by omega) (by omega) (frC (by decide) hf_lp13843 hf_lp13825) hI hF hP hS (lv_sub hl [0, 2, 3, 4, 5] rfl)
            · skip
              have t13850 := cv_nle (a := 3) (by decide) (b := x6_lp13843.toInt) rfl c13845
              refine lv_aload_n hx hb dX12_halfOf_23 rfl (lv_at hl 3 rfl) ?_
              refine va_get (D := (dC, dI)) (ci := 12) (v := .ref (g 13)) (C := RX12) (T := TX12) (N := 63) hx hb hwd inA_X12 hown hK hP 0 rfl rfl 17 (by decide) (hwd _ wk_194) (fun _ h9 => h9) rfl dX12_halfOf_24 ?_
              refine lv_iload hx hb dX12_halfOf_27 (lv_at hl 1 rfl) ?_
              refine va_iald hx hb hK hP 13 12 rfl rfl (i := x5_lp13825) (vin (a := x5_lp13825.toInt) rfl (by omega)) dX12_halfOf_29 ?_
              refine lv_topi (fun z13851 e13852 => ?_)
              have t13853 : 0 ≤ z13851.toInt ∧ z13851.toInt ≤ 12 := by rw [e13852]; exact hI.2 13 _ _ rfl _
              have e13852 : z13851 = F 13 (x5_lp13825 : Int32).toNatClampNeg := e13852.trans (congrFun (hF 13 (by decide)) _)
              refine lv_iload_n hx hb dX12_halfOf_30 rfl (lv_at hl 4 rfl) ?_
              refine lv_icmp_ne (tgt := 87) hx hb dX12_halfOf_31 (by decide) (fun c13854 => ?_) (fun c13854 => ?_)
              · skip
                have t13855 := cv_ne (a := z13851.toInt) rfl (b := p0.toInt) rfl c13854
                obtain ⟨z13856, e13857⟩ : ∃ y : Int32, y = x6_lp13843 + 1 := ⟨_, rfl⟩
                try (have t13858 := tadd e13857 rfl (b := 1) (by decide) (by omega))
                refine lv_iinc (v := z13856) (lv' := [(6, .int z13856), (5, .int x5_lp13825), (3, .long x3_lp13843), (0, .ref (g 0)), (1, .int p0), (2, .int p1)]) hx hb dX12_halfOf_87 hl (k := 0) rfl (by rw [e13857]; rfl) (by decide) rfl (fun ls hl => ?_)
                refine lv_goto (tgt := 17) hx hb dX12_halfOf_90 (by decide) ?_
                exact ih_lp13843 z13856 x3_lp13843 v_lp13843 F_lp13843 _ _ _ (by omega) (by omega) hf_lp13843 hI hF hP hS (lv_sub hl [0, 1, 2, 3, 4, 5] rfl)
              · skip
                have t13859 := cv_eq (a := z13851.toInt) rfl (b := p0.toInt) rfl c13854
                refine lv_aload_n hx hb dX12_halfOf_34 rfl (lv_at hl 3 rfl) ?_
                refine lv_iload hx hb dX12_halfOf_35 (lv_at hl 1 rfl) ?_
                refine lv_iload hx hb dX12_halfOf_37 (lv_at hl 0 rfl) ?_
                refine va_calli (va_runV (As := [.int x5_lp13825, .int x6_lp13843]) (rest := []) ⟨hx, hb, hml, hown, hwd⟩ (c_X12_limitOf l dC dI g c adK adV v_lp13843 F_lp13843 rc H.size x5_lp13825 x6_lp13843 hg hI (by omega) (by omega)) (cwV 2 hwd (gV wk_489 wk_486 wk_487 wk_488 wk_5) rfl rfl rfl (by decide +kernel) ⟨Nat.le_of_ble_eq_true rfl, Nat.le_of_ble_eq_true rfl⟩) ⟨PM.blind, va_recv hK hP (ci := 12) (q0 := 0) rfl rfl, fun U hU hW => ⟨rfl, PM.at hK hE hP hS hU hW⟩⟩ rfl rfl hl.1 rfl (lv_room (Nat.le_of_ble_eq_true rfl)) dX12_halfOf_39 ⟨Nat.le_of_ble_eq_true rfl, Nat.le_of_ble_eq_true rfl⟩) hS (fun q _ h => (freeM hS) q h) (freeM hS) (fun r13860 u t H1 locs ht hvm hw hB hz1 hk1 hS => ?_)
                unfold BM at hB
                rw [ht] at hB
                have hP : va_P (dC, dI) classes (wM g c v_lp13843 F_lp13843 rc) H1 := hB
                replace hw : r13860.toInt = (F_lp13843 1 (limJ (F_lp13843 11) x5_lp13825 x6_lp13843)).toInt := hw
                rw [hF 1 (by decide)] at hw
                rw [hF 11 (by decide)] at hw
                have hw_r13860 := hw
                clear hw
                clear hz1
                generalize H1 = H at hP hS ⊢
                refine lv_if_le (tgt := 87) hx hb dX12_halfOf_42 (by decide) (fun c13861 => ?_) (fun c13861 => ?_)
                · skip
                  have t13862 := cv_le (a := r13860.toInt) rfl (b := 0) (by decide) c13861
                  obtain ⟨z13863, e13864⟩ : ∃ y : Int32, y = x6_lp13843 + 1 := ⟨_, rfl⟩
                  try (have t13865 := tadd e13864 rfl (b := 1) (by decide) (by omega))
                  refine lv_iinc (v := z13863) (lv' := [(6, .int z13863), (5, .int x5_lp13825), (3, .long x3_lp13843), (0, .ref (g 0)), (1, .int p0), (2, .int p1)]) hx hb dX12_halfOf_87 hl (k := 0) rfl (by rw [e13864]; rfl) (by decide) rfl (fun ls hl => ?_)
                  refine lv_goto (tgt := 17) hx hb dX12_halfOf_90 (by decide) ?_
                  exact ih_lp13843 z13863 x3_lp13843 v_lp13843 F_lp13843 _ _ _ (by omega) (by omega) hf_lp13843 hI hF hP hS (lv_sub hl [0, 1, 2, 3, 4, 5] rfl)
                · skip
                  have t13866 := cv_nle (a := r13860.toInt) rfl (b := 0) (by decide) c13861
                  refine lv_lload_n hx hb dX12_halfOf_45 rfl (lv_at hl 2 rfl) ?_
                  refine lv_aload_n hx hb dX12_halfOf_46 rfl (lv_at hl 3 rfl) ?_
                  refine lv_iload hx hb dX12_halfOf_47 (lv_at hl 1 rfl) ?_
                  refine lv_iload hx hb dX12_halfOf_49 (lv_at hl 0 rfl) ?_
                  refine lv_iload_n hx hb dX12_halfOf_51 rfl (lv_at hl 5 rfl) ?_
                  refine va_calli (va_runV (As := [.int x5_lp13825, .int x6_lp13843, .int p1]) (rest := [.long x3_lp13843]) ⟨hx, hb, hml, hown, hwd⟩ (c_X12_leftOf l dC dI g c adK adV v_lp13843 F_lp13843 rc H.size x5_lp13825 x6_lp13843 p1 hg hI (by omega) (by omega) (JL.to hL (show v_lp13843 31 = v 31 from (hf_lp13843 31 (by decide)).trans (hf_lp13825 31 (by decide))) (hF 28 (by decide)) (hF 29 (by decide)) (hF 27 (by decide)))) (cwV 3 hwd (gV wk_493 wk_490 wk_491 wk_492 wk_5) rfl rfl rfl (by decide +kernel) ⟨Nat.le_of_ble_eq_true rfl, Nat.le_of_ble_eq_true rfl⟩) ⟨PM.blind, va_recv hK hP (ci := 12) (q0 := 0) rfl rfl, fun U hU hW => ⟨rfl, PM.at hK hE hP hS hU hW⟩⟩ rfl rfl hl.1 rfl (lv_room (Nat.le_of_ble_eq_true rfl)) dX12_halfOf_52 ⟨Nat.le_of_ble_eq_true rfl, Nat.le_of_ble_eq_true rfl⟩) hS (fun q _ h => (freeM hS) q h) (freeM hS) (fun r13867 u t H1 locs ht hvm hw hB hz1 hk1 hS => ?_)
                  unfold BM at hB
                  rw [ht] at hB
                  obtain ⟨v13868, F13869, rc9⟩ := u
                  obtain ⟨hI, hrc, hf13870, hG13871, hw⟩ := hw
                  dsimp only at hI hrc hB hf13870 hG13871 hw
                  have hF := frCF (by decide) hG13871 hF
                  rw [hrc] at hB
                  have hP : va_P (dC, dI) classes (wM g c v13868 F13869 rc) H1 := hB
                  clear hz1
                  generalize H1 = H at hP hS ⊢
                  have rr_r13867 := i32_rng r13867
                  refine lv_aload_n hx hb dX12_halfOf_55 rfl (lv_at hl 3 rfl) ?_
                  refine lv_iload hx hb dX12_halfOf_56 (lv_at hl 1 rfl) ?_
                  refine lv_iload hx hb dX12_halfOf_58 (lv_at hl 0 rfl) ?_
                  refine va_calli (va_runV (As := [.int x5_lp13825, .int x6_lp13843]) (rest := [.int r13867, .long x3_lp13843]) ⟨hx, hb, hml, hown, hwd⟩ (c_X12_limitOf l dC dI g c adK adV v13868 F13869 rc H.size x5_lp13825 x6_lp13843 hg hI (by omega) (by omega)) (cwV 2 hwd (gV wk_489 wk_486 wk_487 wk_488 wk_5) rfl rfl rfl (by decide +kernel) ⟨Nat.le_of_ble_eq_true rfl, Nat.le_of_ble_eq_true rfl⟩) ⟨PM.blind, va_recv hK hP (ci := 12) (q0 := 0) rfl rfl, fun U hU hW => ⟨rfl, PM.at hK hE hP hS hU hW⟩⟩ rfl rfl hl.1 rfl (lv_room (Nat.le_of_ble_eq_true rfl)) dX12_halfOf_60 ⟨Nat.le_of_ble_eq_true rfl, Nat.le_of_ble_eq_true rfl⟩) hS (fun q _ h => (freeM hS) q h) (freeM hS) (fun r13872 u t H1 locs ht hvm hw hB hz1 hk1 hS => ?_)
                  unfold BM at hB
                  rw [ht] at hB
                  have hP : va_P (dC, dI) classes (wM g c v13868 F13869 rc) H1 := hB
                  replace hw : r13872.toInt = (F13869 1 (limJ (F13869 11) x5_lp13825 x6_lp13843)).toInt := hw
                  rw [hF 1 (by decide)] at hw
                  rw [hF 11 (by decide)] at hw
                  have hw_r13872 := hw
                  clear hw
                  clear hz1
                  generalize H1 = H at hP hS ⊢
                  refine lv_iconst (v := 2) hx hb dX12_halfOf_63 (by decide) ?_
                  refine lv_idiv hx hb dX12_halfOf_64 (by decide) ?_
                  refine lv_topi (fun z13873 e13874 => ?_)
                  refine lv_isub hx hb dX12_halfOf_65 ?_
                  refine lv_topi (fun z13876 e13877 => ?_)
                  try (have t13878 := tsub e13877 (a := r13867.toInt) rfl (b := z13873.toInt) rfl (by omega))
                  refine lv_i2l hx hb dX12_halfOf_66 rfl ?_
                  refine lv_topl (fun z13879 e13880 => ?_)
                  refine lv_aload_n hx hb dX12_halfOf_67 rfl (lv_at hl 3 rfl) ?_
                  refine va_get (D := (dC, dI)) (ci := 12) (v := .ref (g 2)) (C := RX12) (T := TX12) (N := 63) hx hb hwd inA_X12 hown hK hP 0 rfl rfl 4 (by decide) (hwd _ wk_183) (fun _ h9 => h9) rfl dX12_halfOf_68 ?_
                  refine lv_aload_n hx hb dX12_halfOf_71 rfl (lv_at hl 3 rfl) ?_
                  refine va_get (D := (dC, dI)) (ci := 12) (v := .ref (g 11)) (C := RX12) (T := TX12) (N := 63) hx hb hwd inA_X12 hown hK hP 0 rfl rfl 15 (by decide) (hwd _ wk_192) (fun _ h9 => h9) rfl dX12_halfOf_72 ?_
                  refine lv_iload hx hb dX12_halfOf_75 (lv_at hl 1 rfl) ?_
                  refine va_iald hx hb hK hP 11 10 rfl rfl (i := x5_lp13825) (vin (a := x5_lp13825.toInt) rfl (by omega)) dX12_halfOf_77 ?_
                  refine lv_topi (fun z13881 e13882 => ?_)
                  have t13883 : 0 ≤ z13881.toInt ∧ z13881.toInt ≤ 9 := by rw [e13882]; exact hI.2 11 _ _ rfl _
                  have e13882 : z13881 = F 11 (x5_lp13825 : Int32).toNatClampNeg := e13882.trans (congrFun (hF 11 (by decide)) _)
                  refine va_iald hx hb hK hP 2 1 rfl rfl (i := z13881) (vin (a := z13881.toInt) rfl (by omega)) dX12_halfOf_78 ?_
                  refine lv_topi (fun z13884 e13885 => ?_)
                  have e13885 : z13884 = F 2 (z13881 : Int32).toNatClampNeg := e13885.trans (congrFun (hF 2 (by decide)) _)
                  refine lv_i2l hx hb dX12_halfOf_79 rfl ?_
                  refine lv_topl (fun z13886 e13887 => ?_)
                  refine lv_lmul hx hb dX12_halfOf_80 ?_
                  refine lv_topl (fun z13888 e13889 => ?_)
                  refine lv_ldc2 (v := 100) hx hb hown (hwd _ wk_495) dX12_halfOf_81 ?_
                  refine lv_ldiv hx hb dX12_halfOf_84 (by decide) ?_
                  refine lv_topl (fun z13890 e13891 => ?_)
                  refine lv_ladd hx hb dX12_halfOf_85 ?_
                  refine lv_topl (fun z13892 e13893 => ?_)
                  refine lv_lstore_n (lv' := [(3, .long z13892), (6, .int x6_lp13843), (5, .int x5_lp13825), (0, .ref (g 0)), (1, .int p0), (2, .int p1)]) hx hb dX12_halfOf_86 rfl hl (by decide) rfl (fun ls hl => ?_)
                  obtain ⟨z13894, e13895⟩ : ∃ y : Int32, y = x6_lp13843 + 1 := ⟨_, rfl⟩
                  try (have t13896 := tadd e13895 rfl (b := 1) (by decide) (by omega))
                  refine lv_iinc (v := z13894) (lv' := [(6, .int z13894), (3, .long z13892), (5, .int x5_lp13825), (0, .ref (g 0)), (1, .int p0), (2, .int p1)]) hx hb dX12_halfOf_87 hl (k := 1) rfl (by rw [e13895]; rfl) (by decide) rfl (fun ls hl => ?_)
                  refine lv_goto (tgt := 17) hx hb dX12_halfOf_90 (by decide) ?_
                  exact ih_lp13843 z13894 z13892 v13868 F13869 _ _ _ (by omega) (by omega) (frC (by decide) hf13870 hf_lp13843) hI hF hP hS (lv_sub hl [0, 2, 1, 3, 4, 5] rfl)
        obtain ⟨n9, hn9⟩ : ∃ n : Nat, 2147483648 - 0 ≤ (n : Int) := ⟨((2147483648 - 0 : Int)).toNat, by omega⟩
        exact lp13843 n9 0 x3_lp13825 v_lp13825 F_lp13825 H _ ls (by have : (0 : Int32).toInt = 0 := (by decide); omega) (by have : (0 : Int32).toInt = 0 := (by decide); omega) (fun _ _ => rfl) hI hF hP hS hl
  obtain ⟨n9, hn9⟩ : ∃ n : Nat, 2147483648 - 0 ≤ (n : Int) := ⟨((2147483648 - 0 : Int)).toNat, by omega⟩
  exact lp13825 n9 0 0 v F H _ ls (by have : (0 : Int32).toInt = 0 := (by decide); omega) (by have : (0 : Int32).toInt = 0 := (by decide); omega) (fun _ _ => rfl) hI hF hP hS hl
set_option maxHeartbeats 8000000 in
set_option maxRecDepth 100000 in
theorem c_X12_half (l : Launch) (dC : Nat → ClassId) (dI : Nat → Nat → Nat) (g : Nat → Nat) (c : Nat → ClassId) (adK adV : Nat → Nat) (v : Nat → Int32) (F : Nat → Nat → Int32) (rc sz : Nat) (p0 : Int32) (p1 : Int32) (hg : injM g) (hI : IM v F) (hL : JL (v 31) (F 28) (F 29) (F 27)) : Met l yX12_half (Cond.code yX12_half cX12_half 3 (some .int) :: wA) ({ frames := 6, cells := 0, slots := 0, locals := 240 }) (va_Pc [.ref (g 0), .int p0, .int p1] (PM dC dI g c adK adV v F rc sz)) (va_Qi (fun (r : Int32) (u : StM) => IM u.1 u.2.1 ∧ u.2.2 = rc ∧ (∀ k, k ∉ ([] : List Nat) → u.1 k = v k) ∧ (∀ k, k ∉ ([30, 31] : List Nat) → u.2.1 k = F k) ∧ True) (BM dC dI g c) (AM g sz)) 0 0 (AM g sz) := by
  refine Met.ofW (cc := cX12_half) (maxL := 3) (ret := (some .int)) (by decide) rfl ?_
  intro p e s m args below meth c0 s₁ B hml hv
  obtain ⟨rfl, hsz, hP, hK, hE⟩ := hv
  have hx := B.exec
  have hb := B.bytes
  have hr := B.returns
  have hts := atoms_spec (ws := Cond.code yX12_half cX12_half 3 (some .int) :: wA) B.pre
  have hwd : ∀ w ∈ wA, w.before _ s = true := fun w h => hts w (List.mem_cons_of_mem _ h)
  have hown : s.vm.findClass RX12 = some m.cls := findClass_of_methodNamed B.named
  have hlocks := B.notSynchronized
  subst hsz
  have hl := lv_entry ([.ref (g 0), .int p0, .int p1]) (n := 3) (Nat.le_of_ble_eq_true rfl)
  rw [lg_entry_eq]
  generalize (lg_sl ([.ref (g 0), .int p0, .int p1]) ++ List.replicate (3 - (lg_sl ([.ref (g 0), .int p0, .int p1])).length) Slot.unset).toArray = ls at hl ⊢
  have hl : lv_has ls 3 [(0, .ref (g 0)), (1, .int p0), (2, .int p1)] := hl
  obtain ⟨H, eH⟩ : ∃ z, z = s.heap := ⟨_, rfl⟩
  have hP : va_P (dC, dI) classes (wM g c v F rc) H := by rw [eH]; exact hP
  have hS : va_S (AM g s.heap.size) s.heap H [] := by rw [eH]; exact va_S.rf
  refine my_heap eH ?_
  have hF : ∀ k, k ∉ ([30, 31] : List Nat) → F k = F k := fun _ _ => rfl
  have rp0 := i32_rng p0
  have rp1 := i32_rng p1
  have hb31 : 0 ≤ (v 31).toInt ∧ (v 31).toInt ≤ 10 := hI.1 31 _ _ rfl
  refine lv_aload_n hx hb dX12_half_0 rfl (lv_at hl 0 rfl) ?_
  refine lv_iload_n hx hb dX12_half_1 rfl (lv_at hl 1 rfl) ?_
  have t13911 : 0 ≤ (v 6).toInt ∧ (v 6).toInt ≤ 10 := hI.1 6 _ _ rfl
  refine va_calli (va_runV (As := [.int p0]) (rest := []) ⟨hx, hb, hml, hown, hwd⟩ (c_X12_isPlane l dC dI g c adK adV v F rc H.size p0 hg hI ) (cwV 1 hwd (gV wk_305 wk_302 wk_303 wk_304 wk_5) rfl rfl rfl (by decide +kernel) ⟨Nat.le_of_ble_eq_true rfl, Nat.le_of_ble_eq_true rfl⟩) ⟨PM.blind, va_recv hK hP (ci := 12) (q0 := 0) rfl rfl, fun U hU hW => ⟨rfl, PM.at hK hE hP hS hU hW⟩⟩ rfl rfl hl.1 rfl (lv_room (Nat.le_of_ble_eq_true rfl)) dX12_half_2 ⟨Nat.le_of_ble_eq_true rfl, Nat.le_of_ble_eq_true rfl⟩) hS (fun q _ h => (freeM hS) q h) (freeM hS) (fun r13912 u t H1 locs ht hvm hw hB hz1 hk1 hS => ?_)
  unfold BM at hB
  rw [ht] at hB
  have hP : va_P (dC, dI) classes (wM g c v F rc) H1 := hB
  replace hw : (r13912.toInt = 1 ∧ 0 ≤ p0.toInt ∧ p0.toInt < (v 6).toInt) ∨ (r13912.toInt = 0 ∧ (p0.toInt < 0 ∨ (v 6).toInt ≤ p0.toInt)) := hw
  have hw_r13912 := hw
  clear hw
  clear hz1
  generalize H1 = H at hP hS ⊢
  refine lv_if_eq (tgt := 24) hx hb dX12_half_5 (by decide) (fun c13913 => ?_) (fun c13913 => ?_)
  · skip
    have t13914 := cv_eq (a := r13912.toInt) rfl (b := 0) (by decide) c13913
    refine lv_ldc (v := (-2000000000)) hx hb hown (hwd _ wk_542) dX12_half_24 ?_
    have hP9 : va_P (dC, dI) classes (wM g c v F rc) H := hP
    exact W.iret (v := (-2000000000)) hx hb hr (fun t ht hW => ⟨⟨(-2000000000), (v, F, rc), rfl, ⟨hI, rfl, (fun _ _ => rfl), hF, trivial⟩, (by show va_P _ _ _ t.heap; rw [ht]; exact hP9)⟩, hS.F ht⟩) hS.2.2 dX12_half_26
  · skip
    have t13915 := cv_ne (a := r13912.toInt) rfl (b := 0) (by decide) c13913
    refine lv_iload_n hx hb dX12_half_8 rfl (lv_at hl 2 rfl) ?_
    refine va_calli (va_runS (As := [.int p1]) (rest := []) ⟨hx, hb, hml, hown, hwd⟩ (c_X12_isDay l dC dI g c adK adV v F rc H.size p1 hg hI ) (va_cwS 1 hwd (gT wk_556 wk_554 wk_555 wk_5) rfl rfl rfl (by decide +kernel) ⟨Nat.le_of_ble_eq_true rfl, Nat.le_of_ble_eq_true rfl⟩) ⟨PM.blind, fun U hU hW => ⟨rfl, PM.at hK hE hP hS hU hW⟩⟩ rfl rfl hl.1 rfl (lv_room (Nat.le_of_ble_eq_true rfl)) dX12_half_9 ⟨Nat.le_of_ble_eq_true rfl, Nat.le_of_ble_eq_true rfl⟩) hS (fun q _ h => (freeM hS) q h) (freeM hS) (fun r13916 u t H1 locs ht hvm hw hB hz1 hk1 hS => ?_)
    unfold BM at hB
    rw [ht] at hB
    have hP : va_P (dC, dI) classes (wM g c v F rc) H1 := hB
    have hw_r13916 : (r13916.toInt = 1 ∧ 0 ≤ p1.toInt ∧ p1.toInt ≤ 9999) ∨ (r13916.toInt = 0 ∧ (p1.toInt < 0 ∨ 9999 < p1.toInt)) := hw
    clear hw
    clear hz1
    generalize H1 = H at hP hS ⊢
    refine lv_if_eq (tgt := 24) hx hb dX12_half_12 (by decide) (fun c13917 => ?_) (fun c13917 => ?_)
    · skip
      have t13918 := cv_eq (a := r13916.toInt) rfl (b := 0) (by decide) c13917
      refine lv_ldc (v := (-2000000000)) hx hb hown (hwd _ wk_542) dX12_half_24 ?_
      have hP9 : va_P (dC, dI) classes (wM g c v F rc) H := hP
      exact W.iret (v := (-2000000000)) hx hb hr (fun t ht hW => ⟨⟨(-2000000000), (v, F, rc), rfl, ⟨hI, rfl, (fun _ _ => rfl), hF, trivial⟩, (by show va_P _ _ _ t.heap; rw [ht]; exact hP9)⟩, hS.F ht⟩) hS.2.2 dX12_half_26
    · skip
      have t13919 := cv_ne (a := r13916.toInt) rfl (b := 0) (by decide) c13917
      refine lv_aload_n hx hb dX12_half_15 rfl (lv_at hl 0 rfl) ?_
      refine lv_iload_n hx hb dX12_half_16 rfl (lv_at hl 1 rfl) ?_
      refine lv_iload_n hx hb dX12_half_17 rfl (lv_at hl 2 rfl) ?_
      refine va_calli (va_runV (As := [.int p0, .int p1]) (rest := []) ⟨hx, hb, hml, hown, hwd⟩ (c_X12_halfOf l dC dI g c adK adV v F rc H.size p0 p1 hg hI (JL.to hL (show v 31 = v 31 from rfl) rfl rfl rfl)) (cwV 2 hwd (gV wk_1378 wk_1375 wk_1376 wk_1377 wk_5) rfl rfl rfl (by decide +kernel) ⟨Nat.le_of_ble_eq_true rfl, Nat.le_of_ble_eq_true rfl⟩) ⟨PM.blind, va_recv hK hP (ci := 12) (q0 := 0) rfl rfl, fun U hU hW => ⟨rfl, PM.at hK hE hP hS hU hW⟩⟩ rfl rfl hl.1 rfl (lv_room (Nat.le_of_ble_eq_true rfl)) dX12_half_18 ⟨Nat.le_of_ble_eq_true rfl, Nat.le_of_ble_eq_true rfl⟩) hS (fun q _ h => (freeM hS) q h) (freeM hS) (fun r13920 u t H1 locs ht hvm hw hB hz1 hk1 hS => ?_)
      unfold BM at hB
      rw [ht] at hB
      obtain ⟨v13921, F13922, rc9⟩ := u
      obtain ⟨hI, hrc, hf13923, hG13924, hw⟩ := hw
      dsimp only at hI hrc hB hf13923 hG13924 hw
      have hF := frCF (by decide) hG13924 hF
      rw [hrc] at hB
      have hP : va_P (dC, dI) classes (wM g c v13921 F13922 rc) H1 := hB
      clear hz1
      generalize H1 = H at hP hS ⊢
      have rr_r13920 := i32_rng r13920
      refine lv_goto (tgt := 26) hx hb dX12_half_21 (by decide) ?_
      have hP9 : va_P (dC, dI) classes (wM g c v13921 F13922 rc) H := hP
      exact W.iret (v := r13920) hx hb hr (fun t ht hW => ⟨⟨r13920, (v13921, F13922, rc), rfl, ⟨hI, rfl, (frC (by decide) hf13923 (fun _ _ => rfl)), hF, trivial⟩, (by show va_P _ _ _ t.heap; rw [ht]; exact hP9)⟩, hS.F ht⟩) hS.2.2 dX12_half_26
