set_option maxHeartbeats 8000000 in
set_option maxRecDepth 100000 in
theorem c_X2_add (l : Launch) (dC : Nat → ClassId) (dI : Nat → Nat → Nat) (g : Nat → Nat) (c : Nat → ClassId) (adK adV : Nat → Nat) (v : Nat → Int32) (F : Nat → Nat → Int32) (rc sz : Nat) (p0 : Int32) (p1 : Int32) (p2 : Int32) (p3 : Int32) (hg : injX g) (hI : IX v F) : Met l yX2_add (Cond.code yX2_add cX2_add 5 (some .int) :: wA) ({ frames := 1, cells := 0, slots := 0, locals := 40 }) (va_Pc [.ref (g 1), .int p0, .int p1, .int p2, .int p3] (PX dC dI g c adK adV v F rc sz)) (va_Qi (fun (r : Int32) (u : StX) => IX u.1 u.2.1 ∧ ((10 ≤ (v 20).toInt ∧ r.toInt = -3 ∧ alX u.1 u.2.1 = alX v F) ∨ ((v 20).toInt < 10 ∧ r = v 20 ∧ alX u.1 u.2.1 = alXS0 (alX v F) (v 20 + 1))) ∧ u.2.2 = rc ∧ (∀ k, k ∉ ([20] : List Nat) → u.1 k = v k) ∧ True) (BX dC dI g c) (AX g sz)) 0 0 (AX g sz) := by
  refine Met.ofW (cc := cX2_add) (maxL := 5) (ret := (some .int)) (by decide) rfl ?_
  intro p e s m args below meth c0 s₁ B hml hv
  obtain ⟨rfl, hsz, hP, hK, hE⟩ := hv
  have hx := B.exec
  have hb := B.bytes
  have hr := B.returns
  have hts := atoms_spec (ws := Cond.code yX2_add cX2_add 5 (some .int) :: wA) B.pre
  have hwd : ∀ w ∈ wA, w.before _ s = true := fun w h => hts w (List.mem_cons_of_mem _ h)
  have hown : s.vm.findClass RX2 = some m.cls := findClass_of_methodNamed B.named
  have hlocks := B.notSynchronized
  subst hsz
  have hl := lv_entry ([.ref (g 1), .int p0, .int p1, .int p2, .int p3]) (n := 5) (Nat.le_of_ble_eq_true rfl)
  rw [lg_entry_eq]
  generalize (lg_sl ([.ref (g 1), .int p0, .int p1, .int p2, .int p3]) ++ List.replicate (5 - (lg_sl ([.ref (g 1), .int p0, .int p1, .int p2, .int p3])).length) Slot.unset).toArray = ls at hl ⊢
  have hl : lv_has ls 5 [(0, .ref (g 1)), (1, .int p0), (2, .int p1), (3, .int p2), (4, .int p3)] := hl
  obtain ⟨H, eH⟩ : ∃ z, z = s.heap := ⟨_, rfl⟩
  have hP : va_P (dC, dI) classes (wX g c v F rc) H := by rw [eH]; exact hP
  have hS : va_S (AX g s.heap.size) s.heap H [] := by rw [eH]; exact va_S.rf
  refine my_heap eH ?_
  have hal : alX v F = alX v F := rfl
  have rp0 := i32_rng p0
  have rp1 := i32_rng p1
  have rp2 := i32_rng p2
  have rp3 := i32_rng p3
  refine lv_aload_n hx hb dX2_add_0 rfl (lv_at hl 0 rfl) ?_
  refine va_get (D := (dC, dI)) (ci := 2) (v := .int (v 20)) (C := RX2) (T := TX2) (N := 4) hx hb hwd inA_X2 hown hK hP 1 rfl rfl 0 (by decide) (hwd _ wk_244) (fun _ h9 => h9) rfl dX2_add_1 ?_
  have t3154 : 0 ≤ (v 20).toInt ∧ (v 20).toInt ≤ 10 := hI.1 20 _ _ rfl
  refine lv_bipush (v := 10) hx hb dX2_add_4 (by decide) ?_
  refine lv_icmp_lt (tgt := 12) hx hb dX2_add_6 (by decide) (fun c3155 => ?_) (fun c3155 => ?_)
  · skip
    have t3156 := cv_lt (a := (v 20).toInt) rfl (b := 10) (by decide) c3155
    refine lv_aload_n hx hb dX2_add_12 rfl (lv_at hl 0 rfl) ?_
    refine va_get (D := (dC, dI)) (ci := 2) (v := .ref (g 12)) (C := RX2) (T := TX2) (N := 4) hx hb hwd inA_X2 hown hK hP 1 rfl rfl 1 (by decide) (hwd _ wk_62) (fun _ h9 => h9) rfl dX2_add_13 ?_
    refine lv_aload_n hx hb dX2_add_16 rfl (lv_at hl 0 rfl) ?_
    refine va_get (D := (dC, dI)) (ci := 2) (v := .int (v 20)) (C := RX2) (T := TX2) (N := 4) hx hb hwd inA_X2 hown hK hP 1 rfl rfl 0 (by decide) (hwd _ wk_244) (fun _ h9 => h9) rfl dX2_add_17 ?_
    have t3157 : 0 ≤ (v 20).toInt ∧ (v 20).toInt ≤ 10 := hI.1 20 _ _ rfl
    refine lv_iconst (v := 3) hx hb dX2_add_20 (by decide) ?_
    refine lv_imul hx hb dX2_add_21 ?_
    refine lv_topi (fun z3158 e3159 => ?_)
    try (have t3160 := tmul e3159 (a := (v 20).toInt) rfl (b := 3) (by decide) (by omega))
    refine lv_iconst (v := 0) hx hb dX2_add_22 (by decide) ?_
    refine lv_iadd hx hb dX2_add_23 ?_
    refine lv_topi (fun z3161 e3162 => ?_)
    try (have t3163 := tadd e3162 (a := z3158.toInt) rfl (b := 0) (by decide) (by omega))
    refine lv_iload_n hx hb dX2_add_24 rfl (lv_at hl 1 rfl) ?_
    refine va_iast hx hb hK hP (DX hg) hS 12 0 rfl rfl (i := z3161) (x := p0) (vin (a := z3161.toInt) rfl (by omega)) dX2_add_25 (fun H locs hP _ hS => ?_)
    have hP := va_P_eq (sX_12 g c _ _ _ _) hP
    have hI := IX.store0 hI 12 (z3161 : Int32).toNatClampNeg p0 rfl
    have hal := (alX_F _ _ 12 (upd (F 12) (z3161 : Int32).toNatClampNeg p0) (by decide) (by decide)).trans hal
    have hP : va_P (dC, dI) classes (wX g c v (va_up F 12 (upd (F 12) (z3161 : Int32).toNatClampNeg p0)) rc) H := hP
    generalize (va_up F 12 (upd (F 12) (z3161 : Int32).toNatClampNeg p0)) = F3164 at hP hI hal
    refine lv_aload_n hx hb dX2_add_26 rfl (lv_at hl 0 rfl) ?_
    refine va_get (D := (dC, dI)) (ci := 2) (v := .ref (g 12)) (C := RX2) (T := TX2) (N := 4) hx hb hwd inA_X2 hown hK hP 1 rfl rfl 1 (by decide) (hwd _ wk_62) (fun _ h9 => h9) rfl dX2_add_27 ?_
    refine lv_aload_n hx hb dX2_add_30 rfl (lv_at hl 0 rfl) ?_
    refine va_get (D := (dC, dI)) (ci := 2) (v := .int (v 20)) (C := RX2) (T := TX2) (N := 4) hx hb hwd inA_X2 hown hK hP 1 rfl rfl 0 (by decide) (hwd _ wk_244) (fun _ h9 => h9) rfl dX2_add_31 ?_
    have t3165 : 0 ≤ (v 20).toInt ∧ (v 20).toInt ≤ 10 := hI.1 20 _ _ rfl
    refine lv_iconst (v := 3) hx hb dX2_add_34 (by decide) ?_
    refine lv_imul hx hb dX2_add_35 ?_
    refine lv_topi (fun z3166 e3167 => ?_)
    try (have t3168 := tmul e3167 (a := (v 20).toInt) rfl (b := 3) (by decide) (by omega))
    refine lv_iconst (v := 1) hx hb dX2_add_36 (by decide) ?_
    refine lv_iadd hx hb dX2_add_37 ?_
    refine lv_topi (fun z3169 e3170 => ?_)
    try (have t3171 := tadd e3170 (a := z3166.toInt) rfl (b := 1) (by decide) (by omega))
    refine lv_iload_n hx hb dX2_add_38 rfl (lv_at hl 2 rfl) ?_
    refine va_iast hx hb hK hP (DX hg) hS 12 0 rfl rfl (i := z3169) (x := p1) (vin (a := z3169.toInt) rfl (by omega)) dX2_add_39 (fun H locs hP _ hS => ?_)
    have hP := va_P_eq (sX_12 g c _ _ _ _) hP
    have hI := IX.store0 hI 12 (z3169 : Int32).toNatClampNeg p1 rfl
    have hal := (alX_F _ _ 12 (upd (F3164 12) (z3169 : Int32).toNatClampNeg p1) (by decide) (by decide)).trans hal
    have hP : va_P (dC, dI) classes (wX g c v (va_up F3164 12 (upd (F3164 12) (z3169 : Int32).toNatClampNeg p1)) rc) H := hP
    generalize (va_up F3164 12 (upd (F3164 12) (z3169 : Int32).toNatClampNeg p1)) = F3172 at hP hI hal
    refine lv_aload_n hx hb dX2_add_40 rfl (lv_at hl 0 rfl) ?_
    refine va_get (D := (dC, dI)) (ci := 2) (v := .ref (g 12)) (C := RX2) (T := TX2) (N := 4) hx hb hwd inA_X2 hown hK hP 1 rfl rfl 1 (by decide) (hwd _ wk_62) (fun _ h9 => h9) rfl dX2_add_41 ?_
    refine lv_aload_n hx hb dX2_add_44 rfl (lv_at hl 0 rfl) ?_
    refine va_get (D := (dC, dI)) (ci := 2) (v := .int (v 20)) (C := RX2) (T := TX2) (N := 4) hx hb hwd inA_X2 hown hK hP 1 rfl rfl 0 (by decide) (hwd _ wk_244) (fun _ h9 => h9) rfl dX2_add_45 ?_
    have t3173 : 0 ≤ (v 20).toInt ∧ (v 20).toInt ≤ 10 := hI.1 20 _ _ rfl
    refine lv_iconst (v := 3) hx hb dX2_add_48 (by decide) ?_
    refine lv_imul hx hb dX2_add_49 ?_
    refine lv_topi (fun z3174 e3175 => ?_)
    try (have t3176 := tmul e3175 (a := (v 20).toInt) rfl (b := 3) (by decide) (by omega))
    refine lv_iconst (v := 2) hx hb dX2_add_50 (by decide) ?_
    refine lv_iadd hx hb dX2_add_51 ?_
    refine lv_topi (fun z3177 e3178 => ?_)
    try (have t3179 := tadd e3178 (a := z3174.toInt) rfl (b := 2) (by decide) (by omega))
    refine lv_iload_n hx hb dX2_add_52 rfl (lv_at hl 3 rfl) ?_
    refine va_iast hx hb hK hP (DX hg) hS 12 0 rfl rfl (i := z3177) (x := p2) (vin (a := z3177.toInt) rfl (by omega)) dX2_add_53 (fun H locs hP _ hS => ?_)
    have hP := va_P_eq (sX_12 g c _ _ _ _) hP
    have hI := IX.store0 hI 12 (z3177 : Int32).toNatClampNeg p2 rfl
    have hal := (alX_F _ _ 12 (upd (F3172 12) (z3177 : Int32).toNatClampNeg p2) (by decide) (by decide)).trans hal
    have hP : va_P (dC, dI) classes (wX g c v (va_up F3172 12 (upd (F3172 12) (z3177 : Int32).toNatClampNeg p2)) rc) H := hP
    generalize (va_up F3172 12 (upd (F3172 12) (z3177 : Int32).toNatClampNeg p2)) = F3180 at hP hI hal
    refine lv_aload_n hx hb dX2_add_54 rfl (lv_at hl 0 rfl) ?_
    refine va_get (D := (dC, dI)) (ci := 2) (v := .ref (g 13)) (C := RX2) (T := TX2) (N := 4) hx hb hwd inA_X2 hown hK hP 1 rfl rfl 2 (by decide) (hwd _ wk_63) (fun _ h9 => h9) rfl dX2_add_55 ?_
    refine lv_aload_n hx hb dX2_add_58 rfl (lv_at hl 0 rfl) ?_
    refine va_get (D := (dC, dI)) (ci := 2) (v := .int (v 20)) (C := RX2) (T := TX2) (N := 4) hx hb hwd inA_X2 hown hK hP 1 rfl rfl 0 (by decide) (hwd _ wk_244) (fun _ h9 => h9) rfl dX2_add_59 ?_
    have t3181 : 0 ≤ (v 20).toInt ∧ (v 20).toInt ≤ 10 := hI.1 20 _ _ rfl
    refine lv_iload hx hb dX2_add_62 (lv_at hl 4 rfl) ?_
    refine lv_sipush (v := 1000) hx hb dX2_add_64 (by decide) ?_
    refine lv_idiv hx hb dX2_add_67 (by decide) ?_
    refine lv_topi (fun z3182 e3183 => ?_)
    refine va_iast hx hb hK hP (DX hg) hS 13 1 rfl rfl (i := (v 20)) (x := z3182) (vin (a := (v 20).toInt) rfl (by omega)) dX2_add_68 (fun H locs hP _ hS => ?_)
    have hP := va_P_eq (sX_13 g c _ _ _ _) hP
    have hI := IX.store0 hI 13 (v 20 : Int32).toNatClampNeg z3182 rfl
    have hal := (alX_F _ _ 13 (upd (F3180 13) (v 20 : Int32).toNatClampNeg z3182) (by decide) (by decide)).trans hal
    have hP : va_P (dC, dI) classes (wX g c v (va_up F3180 13 (upd (F3180 13) (v 20 : Int32).toNatClampNeg z3182)) rc) H := hP
    generalize (va_up F3180 13 (upd (F3180 13) (v 20 : Int32).toNatClampNeg z3182)) = F3185 at hP hI hal
    refine lv_aload_n hx hb dX2_add_69 rfl (lv_at hl 0 rfl) ?_
    refine va_get (D := (dC, dI)) (ci := 2) (v := .ref (g 14)) (C := RX2) (T := TX2) (N := 4) hx hb hwd inA_X2 hown hK hP 1 rfl rfl 3 (by decide) (hwd _ wk_64) (fun _ h9 => h9) rfl dX2_add_70 ?_
    refine lv_aload_n hx hb dX2_add_73 rfl (lv_at hl 0 rfl) ?_
    refine va_get (D := (dC, dI)) (ci := 2) (v := .int (v 20)) (C := RX2) (T := TX2) (N := 4) hx hb hwd inA_X2 hown hK hP 1 rfl rfl 0 (by decide) (hwd _ wk_244) (fun _ h9 => h9) rfl dX2_add_74 ?_
    have t3186 : 0 ≤ (v 20).toInt ∧ (v 20).toInt ≤ 10 := hI.1 20 _ _ rfl
    refine lv_iload hx hb dX2_add_77 (lv_at hl 4 rfl) ?_
    refine lv_sipush (v := 1000) hx hb dX2_add_79 (by decide) ?_
    refine lv_irem hx hb dX2_add_82 (by decide) ?_
    refine lv_topi (fun z3187 e3188 => ?_)
    refine va_iast hx hb hK hP (DX hg) hS 14 2 rfl rfl (i := (v 20)) (x := z3187) (vin (a := (v 20).toInt) rfl (by omega)) dX2_add_83 (fun H locs hP _ hS => ?_)
    have hP := va_P_eq (sX_14 g c _ _ _ _) hP
    have hI := IX.store0 hI 14 (v 20 : Int32).toNatClampNeg z3187 rfl
    have hal := (alX_F _ _ 14 (upd (F3185 14) (v 20 : Int32).toNatClampNeg z3187) (by decide) (by decide)).trans hal
    have hP : va_P (dC, dI) classes (wX g c v (va_up F3185 14 (upd (F3185 14) (v 20 : Int32).toNatClampNeg z3187)) rc) H := hP
    generalize (va_up F3185 14 (upd (F3185 14) (v 20 : Int32).toNatClampNeg z3187)) = F3190 at hP hI hal
    refine lv_aload_n hx hb dX2_add_84 rfl (lv_at hl 0 rfl) ?_
    refine lv_dup hx hb dX2_add_85 rfl ?_
    refine va_get (D := (dC, dI)) (ci := 2) (v := .int (v 20)) (C := RX2) (T := TX2) (N := 4) hx hb hwd inA_X2 hown hK hP 1 rfl rfl 0 (by decide) (hwd _ wk_244) (fun _ h9 => h9) rfl dX2_add_86 ?_
    have t3191 : 0 ≤ (v 20).toInt ∧ (v 20).toInt ≤ 10 := hI.1 20 _ _ rfl
    refine lv_dup_x1 hx hb dX2_add_89 rfl rfl ?_
    refine lv_iconst (v := 1) hx hb dX2_add_90 (by decide) ?_
    refine lv_iadd hx hb dX2_add_91 ?_
    refine lv_topi (fun z3192 e3193 => ?_)
    try (have t3194 := tadd e3193 (a := (v 20).toInt) rfl (b := 1) (by decide) (by omega))
    refine va_put (D := (dC, dI)) (ci := 2) (v := .int z3192) (ty := .int) (C := RX2) (T := TX2) (N := 4) (fs := fsX_1 g v rc) hx hb hwd inA_X2 tyX2 tyX2_ok nmX2 hown hK hP (DX hg) hS 1 rfl rfl 0 (by decide) (hwd _ wk_244) (fun _ h9 => h9) rfl (by decide +kernel) rfl rfl (Nat.le_of_ble_eq_true rfl) dX2_add_92 (fun H locs hP _ hS => ?_)
    have hP := va_P_eq (pX_20 g c _ _ _ _) hP
    have hI := IX.put hI 20 z3192 rfl (by omega)
    have hal := (alX_s0 _ _ z3192).trans (congrArg (fun t => alXS0 t z3192) hal)
    have hP9 : va_P (dC, dI) classes (wX g c (va_up v 20 z3192) F3190 rc) H := hP
    exact W.iret (v := v 20) hx hb hr (fun t ht hW => ⟨⟨(v 20), ((va_up v 20 z3192), F3190, rc), rfl, ⟨hI, (Or.inr ⟨by omega, rfl, hal.trans (by rw [e3193])⟩), rfl, (frU (by decide) (fun _ _ => rfl)), trivial⟩, (by show va_P _ _ _ t.heap; rw [ht]; exact hP9)⟩, hS.F ht⟩) hS.2.2 dX2_add_95
  · skip
    have t3195 := cv_nlt (a := (v 20).toInt) rfl (b := 10) (by decide) c3155
    refine lv_bipush (v := (-3)) hx hb dX2_add_9 (by decide) ?_
    have hP9 : va_P (dC, dI) classes (wX g c v F rc) H := hP
    exact W.iret (v := (-3)) hx hb hr (fun t ht hW => ⟨⟨(-3), (v, F, rc), rfl, ⟨hI, (Or.inl ⟨by omega, by decide, hal⟩), rfl, (fun _ _ => rfl), trivial⟩, (by show va_P _ _ _ t.heap; rw [ht]; exact hP9)⟩, hS.F ht⟩) hS.2.2 dX2_add_11
set_option maxHeartbeats 8000000 in
set_option maxRecDepth 100000 in
theorem c_X8_add (l : Launch) (dC : Nat → ClassId) (dI : Nat → Nat → Nat) (g : Nat → Nat) (c : Nat → ClassId) (adK adV : Nat → Nat) (v : Nat → Int32) (F : Nat → Nat → Int32) (rc sz : Nat) (p0 : Int32) (hg : injX g) (hI : IX v F) : Met l yX8_add (Cond.code yX8_add cX8_add 2 (some .int) :: wA) ({ frames := 1, cells := 0, slots := 0, locals := 40 }) (va_Pc [.ref (g 2), .int p0] (PX dC dI g c adK adV v F rc sz)) (va_Qi (fun (r : Int32) (u : StX) => IX u.1 u.2.1 ∧ ((10 ≤ (v 40).toInt ∧ r.toInt = -3 ∧ alX u.1 u.2.1 = alX v F) ∨ ((v 40).toInt < 10 ∧ r = v 40 ∧ alX u.1 u.2.1 = alXS1 (alX v F) (v 40 + 1))) ∧ u.2.2 = rc ∧ (∀ k, k ∉ ([40] : List Nat) → u.1 k = v k) ∧ True) (BX dC dI g c) (AX g sz)) 0 0 (AX g sz) := by
  refine Met.ofW (cc := cX8_add) (maxL := 2) (ret := (some .int)) (by decide) rfl ?_
  intro p e s m args below meth c0 s₁ B hml hv
  obtain ⟨rfl, hsz, hP, hK, hE⟩ := hv
  have hx := B.exec
  have hb := B.bytes
  have hr := B.returns
  have hts := atoms_spec (ws := Cond.code yX8_add cX8_add 2 (some .int) :: wA) B.pre
  have hwd : ∀ w ∈ wA, w.before _ s = true := fun w h => hts w (List.mem_cons_of_mem _ h)
  have hown : s.vm.findClass RX8 = some m.cls := findClass_of_methodNamed B.named
  have hlocks := B.notSynchronized
  subst hsz
  have hl := lv_entry ([.ref (g 2), .int p0]) (n := 2) (Nat.le_of_ble_eq_true rfl)
  rw [lg_entry_eq]
  generalize (lg_sl ([.ref (g 2), .int p0]) ++ List.replicate (2 - (lg_sl ([.ref (g 2), .int p0])).length) Slot.unset).toArray = ls at hl ⊢
  have hl : lv_has ls 2 [(0, .ref (g 2)), (1, .int p0)] := hl
  obtain ⟨H, eH⟩ : ∃ z, z = s.heap := ⟨_, rfl⟩
  have hP : va_P (dC, dI) classes (wX g c v F rc) H := by rw [eH]; exact hP
  have hS : va_S (AX g s.heap.size) s.heap H [] := by rw [eH]; exact va_S.rf
  refine my_heap eH ?_
  have hal : alX v F = alX v F := rfl
  have rp0 := i32_rng p0
  refine lv_aload_n hx hb dX8_add_0 rfl (lv_at hl 0 rfl) ?_
  refine va_get (D := (dC, dI)) (ci := 8) (v := .int (v 40)) (C := RX8) (T := TX8) (N := 10) hx hb hwd inA_X8 hown hK hP 2 rfl rfl 0 (by decide) (hwd _ wk_263) (fun _ h9 => h9) rfl dX8_add_1 ?_
  have t3196 : 0 ≤ (v 40).toInt ∧ (v 40).toInt ≤ 10 := hI.1 40 _ _ rfl
  refine lv_bipush (v := 10) hx hb dX8_add_4 (by decide) ?_
  refine lv_icmp_lt (tgt := 12) hx hb dX8_add_6 (by decide) (fun c3197 => ?_) (fun c3197 => ?_)
  · skip
    have t3198 := cv_lt (a := (v 40).toInt) rfl (b := 10) (by decide) c3197
    refine lv_aload_n hx hb dX8_add_12 rfl (lv_at hl 0 rfl) ?_
    refine va_get (D := (dC, dI)) (ci := 8) (v := .ref (g 15)) (C := RX8) (T := TX8) (N := 10) hx hb hwd inA_X8 hown hK hP 2 rfl rfl 1 (by decide) (hwd _ wk_68) (fun _ h9 => h9) rfl dX8_add_13 ?_
    refine lv_aload_n hx hb dX8_add_16 rfl (lv_at hl 0 rfl) ?_
    refine va_get (D := (dC, dI)) (ci := 8) (v := .int (v 40)) (C := RX8) (T := TX8) (N := 10) hx hb hwd inA_X8 hown hK hP 2 rfl rfl 0 (by decide) (hwd _ wk_263) (fun _ h9 => h9) rfl dX8_add_17 ?_
    have t3199 : 0 ≤ (v 40).toInt ∧ (v 40).toInt ≤ 10 := hI.1 40 _ _ rfl
    refine lv_iload_n hx hb dX8_add_20 rfl (lv_at hl 1 rfl) ?_
    refine va_iast hx hb hK hP (DX hg) hS 15 3 rfl rfl (i := (v 40)) (x := p0) (vin (a := (v 40).toInt) rfl (by omega)) dX8_add_21 (fun H locs hP _ hS => ?_)
    have hP := va_P_eq (sX_15 g c _ _ _ _) hP
    have hI := IX.store0 hI 15 (v 40 : Int32).toNatClampNeg p0 rfl
    have hal := (alX_F _ _ 15 (upd (F 15) (v 40 : Int32).toNatClampNeg p0) (by decide) (by decide)).trans hal
    have hP : va_P (dC, dI) classes (wX g c v (va_up F 15 (upd (F 15) (v 40 : Int32).toNatClampNeg p0)) rc) H := hP
    generalize (va_up F 15 (upd (F 15) (v 40 : Int32).toNatClampNeg p0)) = F3200 at hP hI hal
    refine lv_aload_n hx hb dX8_add_22 rfl (lv_at hl 0 rfl) ?_
    refine va_get (D := (dC, dI)) (ci := 8) (v := .ref (g 18)) (C := RX8) (T := TX8) (N := 10) hx hb hwd inA_X8 hown hK hP 2 rfl rfl 4 (by decide) (hwd _ wk_71) (fun _ h9 => h9) rfl dX8_add_23 ?_
    refine lv_aload_n hx hb dX8_add_26 rfl (lv_at hl 0 rfl) ?_
    refine va_get (D := (dC, dI)) (ci := 8) (v := .int (v 40)) (C := RX8) (T := TX8) (N := 10) hx hb hwd inA_X8 hown hK hP 2 rfl rfl 0 (by decide) (hwd _ wk_263) (fun _ h9 => h9) rfl dX8_add_27 ?_
    have t3201 : 0 ≤ (v 40).toInt ∧ (v 40).toInt ≤ 10 := hI.1 40 _ _ rfl
    refine lv_iconst (v := (-1)) hx hb dX8_add_30 (by decide) ?_
    refine va_iast hx hb hK hP (DX hg) hS 18 6 rfl rfl (i := (v 40)) (x := (-1)) (vin (a := (v 40).toInt) rfl (by omega)) dX8_add_31 (fun H locs hP _ hS => ?_)
    have hP := va_P_eq (sX_18 g c _ _ _ _) hP
    have hI := IX.store0 hI 18 (v 40 : Int32).toNatClampNeg (-1) rfl
    have hal := (alX_F _ _ 18 (upd (F3200 18) (v 40 : Int32).toNatClampNeg (-1)) (by decide) (by decide)).trans hal
    have hP : va_P (dC, dI) classes (wX g c v (va_up F3200 18 (upd (F3200 18) (v 40 : Int32).toNatClampNeg (-1))) rc) H := hP
    generalize (va_up F3200 18 (upd (F3200 18) (v 40 : Int32).toNatClampNeg (-1))) = F3202 at hP hI hal
    refine lv_aload_n hx hb dX8_add_32 rfl (lv_at hl 0 rfl) ?_
    refine va_get (D := (dC, dI)) (ci := 8) (v := .ref (g 19)) (C := RX8) (T := TX8) (N := 10) hx hb hwd inA_X8 hown hK hP 2 rfl rfl 5 (by decide) (hwd _ wk_72) (fun _ h9 => h9) rfl dX8_add_33 ?_
    refine lv_aload_n hx hb dX8_add_36 rfl (lv_at hl 0 rfl) ?_
    refine va_get (D := (dC, dI)) (ci := 8) (v := .int (v 40)) (C := RX8) (T := TX8) (N := 10) hx hb hwd inA_X8 hown hK hP 2 rfl rfl 0 (by decide) (hwd _ wk_263) (fun _ h9 => h9) rfl dX8_add_37 ?_
    have t3203 : 0 ≤ (v 40).toInt ∧ (v 40).toInt ≤ 10 := hI.1 40 _ _ rfl
    refine lv_iconst (v := (-1)) hx hb dX8_add_40 (by decide) ?_
    refine va_iast hx hb hK hP (DX hg) hS 19 7 rfl rfl (i := (v 40)) (x := (-1)) (vin (a := (v 40).toInt) rfl (by omega)) dX8_add_41 (fun H locs hP _ hS => ?_)
    have hP := va_P_eq (sX_19 g c _ _ _ _) hP
    have hI := IX.store0 hI 19 (v 40 : Int32).toNatClampNeg (-1) rfl
    have hal := (alX_F _ _ 19 (upd (F3202 19) (v 40 : Int32).toNatClampNeg (-1)) (by decide) (by decide)).trans hal
    have hP : va_P (dC, dI) classes (wX g c v (va_up F3202 19 (upd (F3202 19) (v 40 : Int32).toNatClampNeg (-1))) rc) H := hP
    generalize (va_up F3202 19 (upd (F3202 19) (v 40 : Int32).toNatClampNeg (-1))) = F3204 at hP hI hal
    refine lv_aload_n hx hb dX8_add_42 rfl (lv_at hl 0 rfl) ?_
    refine lv_dup hx hb dX8_add_43 rfl ?_
    refine va_get (D := (dC, dI)) (ci := 8) (v := .int (v 40)) (C := RX8) (T := TX8) (N := 10) hx hb hwd inA_X8 hown hK hP 2 rfl rfl 0 (by decide) (hwd _ wk_263) (fun _ h9 => h9) rfl dX8_add_44 ?_
    have t3205 : 0 ≤ (v 40).toInt ∧ (v 40).toInt ≤ 10 := hI.1 40 _ _ rfl
    refine lv_dup_x1 hx hb dX8_add_47 rfl rfl ?_
    refine lv_iconst (v := 1) hx hb dX8_add_48 (by decide) ?_
    refine lv_iadd hx hb dX8_add_49 ?_
    refine lv_topi (fun z3206 e3207 => ?_)
    try (have t3208 := tadd e3207 (a := (v 40).toInt) rfl (b := 1) (by decide) (by omega))
    refine va_put (D := (dC, dI)) (ci := 8) (v := .int z3206) (ty := .int) (C := RX8) (T := TX8) (N := 10) (fs := fsX_2 g v rc) hx hb hwd inA_X8 tyX8 tyX8_ok nmX8 hown hK hP (DX hg) hS 2 rfl rfl 0 (by decide) (hwd _ wk_263) (fun _ h9 => h9) rfl (by decide +kernel) rfl rfl (Nat.le_of_ble_eq_true rfl) dX8_add_50 (fun H locs hP _ hS => ?_)
    have hP := va_P_eq (pX_40 g c _ _ _ _) hP
    have hI := IX.put hI 40 z3206 rfl (by omega)
    have hal := (alX_s1 _ _ z3206).trans (congrArg (fun t => alXS1 t z3206) hal)
    have hP9 : va_P (dC, dI) classes (wX g c (va_up v 40 z3206) F3204 rc) H := hP
    exact W.iret (v := v 40) hx hb hr (fun t ht hW => ⟨⟨(v 40), ((va_up v 40 z3206), F3204, rc), rfl, ⟨hI, (Or.inr ⟨by omega, rfl, hal.trans (by rw [e3207])⟩), rfl, (frU (by decide) (fun _ _ => rfl)), trivial⟩, (by show va_P _ _ _ t.heap; rw [ht]; exact hP9)⟩, hS.F ht⟩) hS.2.2 dX8_add_53
  · skip
    have t3209 := cv_nlt (a := (v 40).toInt) rfl (b := 10) (by decide) c3197
    refine lv_bipush (v := (-3)) hx hb dX8_add_9 (by decide) ?_
    have hP9 : va_P (dC, dI) classes (wX g c v F rc) H := hP
    exact W.iret (v := (-3)) hx hb hr (fun t ht hW => ⟨⟨(-3), (v, F, rc), rfl, ⟨hI, (Or.inl ⟨by omega, by decide, hal⟩), rfl, (fun _ _ => rfl), trivial⟩, (by show va_P _ _ _ t.heap; rw [ht]; exact hP9)⟩, hS.F ht⟩) hS.2.2 dX8_add_11
set_option maxHeartbeats 8000000 in
set_option maxRecDepth 100000 in
theorem c_X6_add (l : Launch) (dC : Nat → ClassId) (dI : Nat → Nat → Nat) (g : Nat → Nat) (c : Nat → ClassId) (adK adV : Nat → Nat) (v : Nat → Int32) (F : Nat → Nat → Int32) (rc sz : Nat) (p0 : Int32) (p1 : Int32) (hg : injX g) (hI : IX v F) (h0 : 0 ≤ p0.toInt ∧ p0.toInt ≤ 9) : Met l yX6_add (Cond.code yX6_add cX6_add 3 (some .int) :: wA) ({ frames := 1, cells := 0, slots := 0, locals := 40 }) (va_Pc [.ref (g 8), .int p0, .int p1] (PX dC dI g c adK adV v F rc sz)) (va_Qi (fun (r : Int32) (u : StX) => IX u.1 u.2.1 ∧ ((20 ≤ (v 161).toInt ∧ r.toInt = -3 ∧ alX u.1 u.2.1 = alX v F) ∨ ((v 161).toInt < 20 ∧ r = v 161 ∧ alX u.1 u.2.1 = alXS3 (alX v F) (v 161 + 1))) ∧ u.2.2 = rc ∧ (∀ k, k ∉ ([161] : List Nat) → u.1 k = v k) ∧ True) (BX dC dI g c) (AX g sz)) 0 0 (AX g sz) := by
  refine Met.ofW (cc := cX6_add) (maxL := 3) (ret := (some .int)) (by decide) rfl ?_
  intro p e s m args below meth c0 s₁ B hml hv
  obtain ⟨rfl, hsz, hP, hK, hE⟩ := hv
  have hx := B.exec
  have hb := B.bytes
  have hr := B.returns
  have hts := atoms_spec (ws := Cond.code yX6_add cX6_add 3 (some .int) :: wA) B.pre
  have hwd : ∀ w ∈ wA, w.before _ s = true := fun w h => hts w (List.mem_cons_of_mem _ h)
  have hown : s.vm.findClass RX6 = some m.cls := findClass_of_methodNamed B.named
  have hlocks := B.notSynchronized
  subst hsz
  have hl := lv_entry ([.ref (g 8), .int p0, .int p1]) (n := 3) (Nat.le_of_ble_eq_true rfl)
  rw [lg_entry_eq]
  generalize (lg_sl ([.ref (g 8), .int p0, .int p1]) ++ List.replicate (3 - (lg_sl ([.ref (g 8), .int p0, .int p1])).length) Slot.unset).toArray = ls at hl ⊢
  have hl : lv_has ls 3 [(0, .ref (g 8)), (1, .int p0), (2, .int p1)] := hl
  obtain ⟨H, eH⟩ : ∃ z, z = s.heap := ⟨_, rfl⟩
  have hP : va_P (dC, dI) classes (wX g c v F rc) H := by rw [eH]; exact hP
  have hS : va_S (AX g s.heap.size) s.heap H [] := by rw [eH]; exact va_S.rf
  refine my_heap eH ?_
  have hal : alX v F = alX v F := rfl
  have rp0 := i32_rng p0
  have rp1 := i32_rng p1
  refine lv_aload_n hx hb dX6_add_0 rfl (lv_at hl 0 rfl) ?_
  refine va_get (D := (dC, dI)) (ci := 6) (v := .int (v 161)) (C := RX6) (T := TX6) (N := 5) hx hb hwd inA_X6 hown hK hP 8 rfl rfl 1 (by decide) (hwd _ wk_432) (fun _ h9 => h9) rfl dX6_add_1 ?_
  have t3210 : 0 ≤ (v 161).toInt ∧ (v 161).toInt ≤ 20 := hI.1 161 _ _ rfl
  refine lv_bipush (v := 20) hx hb dX6_add_4 (by decide) ?_
  refine lv_icmp_lt (tgt := 12) hx hb dX6_add_6 (by decide) (fun c3211 => ?_) (fun c3211 => ?_)
  · skip
    have t3212 := cv_lt (a := (v 161).toInt) rfl (b := 20) (by decide) c3211
    refine lv_aload_n hx hb dX6_add_12 rfl (lv_at hl 0 rfl) ?_
    refine va_get (D := (dC, dI)) (ci := 6) (v := .ref (g 55)) (C := RX6) (T := TX6) (N := 5) hx hb hwd inA_X6 hown hK hP 8 rfl rfl 2 (by decide) (hwd _ wk_124) (fun _ h9 => h9) rfl dX6_add_13 ?_
    refine lv_aload_n hx hb dX6_add_16 rfl (lv_at hl 0 rfl) ?_
    refine va_get (D := (dC, dI)) (ci := 6) (v := .int (v 161)) (C := RX6) (T := TX6) (N := 5) hx hb hwd inA_X6 hown hK hP 8 rfl rfl 1 (by decide) (hwd _ wk_432) (fun _ h9 => h9) rfl dX6_add_17 ?_
    have t3213 : 0 ≤ (v 161).toInt ∧ (v 161).toInt ≤ 20 := hI.1 161 _ _ rfl
    refine lv_iload_n hx hb dX6_add_20 rfl (lv_at hl 1 rfl) ?_
    refine va_iast hx hb hK hP (DX hg) hS 55 43 rfl rfl (i := (v 161)) (x := p0) (vin (a := (v 161).toInt) rfl (by omega)) dX6_add_21 (fun H locs hP _ hS => ?_)
    have hP := va_P_eq (sX_55 g c _ _ _ _) hP
    have hI := IX.store hI 55 (v 161 : Int32).toNatClampNeg p0 rfl (by omega)
    have hal := (alX_F _ _ 55 (upd (F 55) (v 161 : Int32).toNatClampNeg p0) (by decide) (by decide)).trans hal
    have hP : va_P (dC, dI) classes (wX g c v (va_up F 55 (upd (F 55) (v 161 : Int32).toNatClampNeg p0)) rc) H := hP
    generalize (va_up F 55 (upd (F 55) (v 161 : Int32).toNatClampNeg p0)) = F3214 at hP hI hal
    refine lv_aload_n hx hb dX6_add_22 rfl (lv_at hl 0 rfl) ?_
    refine va_get (D := (dC, dI)) (ci := 6) (v := .ref (g 56)) (C := RX6) (T := TX6) (N := 5) hx hb hwd inA_X6 hown hK hP 8 rfl rfl 3 (by decide) (hwd _ wk_125) (fun _ h9 => h9) rfl dX6_add_23 ?_
    refine lv_aload_n hx hb dX6_add_26 rfl (lv_at hl 0 rfl) ?_
    refine va_get (D := (dC, dI)) (ci := 6) (v := .int (v 161)) (C := RX6) (T := TX6) (N := 5) hx hb hwd inA_X6 hown hK hP 8 rfl rfl 1 (by decide) (hwd _ wk_432) (fun _ h9 => h9) rfl dX6_add_27 ?_
    have t3215 : 0 ≤ (v 161).toInt ∧ (v 161).toInt ≤ 20 := hI.1 161 _ _ rfl
    refine lv_iload_n hx hb dX6_add_30 rfl (lv_at hl 2 rfl) ?_
    refine va_iast hx hb hK hP (DX hg) hS 56 44 rfl rfl (i := (v 161)) (x := p1) (vin (a := (v 161).toInt) rfl (by omega)) dX6_add_31 (fun H locs hP _ hS => ?_)
    have hP := va_P_eq (sX_56 g c _ _ _ _) hP
    have hI := IX.store0 hI 56 (v 161 : Int32).toNatClampNeg p1 rfl
    have hal := (alX_F _ _ 56 (upd (F3214 56) (v 161 : Int32).toNatClampNeg p1) (by decide) (by decide)).trans hal
    have hP : va_P (dC, dI) classes (wX g c v (va_up F3214 56 (upd (F3214 56) (v 161 : Int32).toNatClampNeg p1)) rc) H := hP
    generalize (va_up F3214 56 (upd (F3214 56) (v 161 : Int32).toNatClampNeg p1)) = F3216 at hP hI hal
    refine lv_aload_n hx hb dX6_add_32 rfl (lv_at hl 0 rfl) ?_
    refine lv_dup hx hb dX6_add_33 rfl ?_
    refine va_get (D := (dC, dI)) (ci := 6) (v := .int (v 161)) (C := RX6) (T := TX6) (N := 5) hx hb hwd inA_X6 hown hK hP 8 rfl rfl 1 (by decide) (hwd _ wk_432) (fun _ h9 => h9) rfl dX6_add_34 ?_
    have t3217 : 0 ≤ (v 161).toInt ∧ (v 161).toInt ≤ 20 := hI.1 161 _ _ rfl
    refine lv_dup_x1 hx hb dX6_add_37 rfl rfl ?_
    refine lv_iconst (v := 1) hx hb dX6_add_38 (by decide) ?_
    refine lv_iadd hx hb dX6_add_39 ?_
    refine lv_topi (fun z3218 e3219 => ?_)
    try (have t3220 := tadd e3219 (a := (v 161).toInt) rfl (b := 1) (by decide) (by omega))
    refine va_put (D := (dC, dI)) (ci := 6) (v := .int z3218) (ty := .int) (C := RX6) (T := TX6) (N := 5) (fs := fsX_8 g v rc) hx hb hwd inA_X6 tyX6 tyX6_ok nmX6 hown hK hP (DX hg) hS 8 rfl rfl 1 (by decide) (hwd _ wk_432) (fun _ h9 => h9) rfl (by decide +kernel) rfl rfl (Nat.le_of_ble_eq_true rfl) dX6_add_40 (fun H locs hP _ hS => ?_)
    have hP := va_P_eq (pX_161 g c _ _ _ _) hP
    have hI := IX.put hI 161 z3218 rfl (by omega)
    have hal := (alX_s3 _ _ z3218).trans (congrArg (fun t => alXS3 t z3218) hal)
    have hP9 : va_P (dC, dI) classes (wX g c (va_up v 161 z3218) F3216 rc) H := hP
    exact W.iret (v := v 161) hx hb hr (fun t ht hW => ⟨⟨(v 161), ((va_up v 161 z3218), F3216, rc), rfl, ⟨hI, (Or.inr ⟨by omega, rfl, hal.trans (by rw [e3219])⟩), rfl, (frU (by decide) (fun _ _ => rfl)), trivial⟩, (by show va_P _ _ _ t.heap; rw [ht]; exact hP9)⟩, hS.F ht⟩) hS.2.2 dX6_add_43
  · skip
    have t3221 := cv_nlt (a := (v 161).toInt) rfl (b := 20) (by decide) c3211
    refine lv_bipush (v := (-3)) hx hb dX6_add_9 (by decide) ?_
    have hP9 : va_P (dC, dI) classes (wX g c v F rc) H := hP
    exact W.iret (v := (-3)) hx hb hr (fun t ht hW => ⟨⟨(-3), (v, F, rc), rfl, ⟨hI, (Or.inl ⟨by omega, by decide, hal⟩), rfl, (fun _ _ => rfl), trivial⟩, (by show va_P _ _ _ t.heap; rw [ht]; exact hP9)⟩, hS.F ht⟩) hS.2.2 dX6_add_11
