set_option maxHeartbeats 8000000 in
set_option maxRecDepth 100000 in
theorem c_J6_bitCount_0f7a4 (l : Launch) (dC : Nat → ClassId) (dI : Nat → Nat → Nat) (g : Nat → Nat) (c : Nat → ClassId) (adK adV : Nat → Nat) (v : Nat → Int32) (F : Nat → Nat → Int32) (rc sz : Nat) (p0 : Int32) (hg : injX g) (hI : IX v F) : Met l yJ6_bitCount_0f7a4 (Cond.code yJ6_bitCount_0f7a4 cJ6_bitCount_0f7a4 1 (some .int) :: wA) ({ frames := 1, cells := 0, slots := 0, locals := 40 }) (va_Pc [.int p0] (PX dC dI g c adK adV v F rc sz)) (va_Qi (fun (r : Int32) (u : Unit) => True) (fun (_ : Unit) => BX dC dI g c (v, F, rc)) (AX g sz)) 0 0 (AX g sz) := by
  refine Met.ofW (cc := cJ6_bitCount_0f7a4) (maxL := 1) (ret := (some .int)) (by decide) rfl ?_
  intro p e s m args below meth c0 s₁ B hml hv
  obtain ⟨rfl, hsz, hP, hK, hE⟩ := hv
  have hx := B.exec
  have hb := B.bytes
  have hr := B.returns
  have hts := atoms_spec (ws := Cond.code yJ6_bitCount_0f7a4 cJ6_bitCount_0f7a4 1 (some .int) :: wA) B.pre
  have hwd : ∀ w ∈ wA, w.before _ s = true := fun w h => hts w (List.mem_cons_of_mem _ h)
  have hown : s.vm.findClass RJ6 = some m.cls := findClass_of_methodNamed B.named
  have hlocks := B.notSynchronized
  subst hsz
  have hl := lv_entry ([.int p0]) (n := 1) (Nat.le_of_ble_eq_true rfl)
  rw [lg_entry_eq]
  generalize (lg_sl ([.int p0]) ++ List.replicate (1 - (lg_sl ([.int p0])).length) Slot.unset).toArray = ls at hl ⊢
  have hl : lv_has ls 1 [(0, .int p0)] := hl
  obtain ⟨H, eH⟩ : ∃ z, z = s.heap := ⟨_, rfl⟩
  have hP : va_P (dC, dI) classes (wX g c v F rc) H := by rw [eH]; exact hP
  have hS : va_S (AX g s.heap.size) s.heap H [] := by rw [eH]; exact va_S.rf
  refine my_heap eH ?_
  have rp0 := i32_rng p0
  refine lv_iload_n hx hb dJ6_bitCount_0f7a4_0 rfl (lv_at hl 0 rfl) ?_
  refine lv_iload_n hx hb dJ6_bitCount_0f7a4_1 rfl (lv_at hl 0 rfl) ?_
  refine lv_iconst (v := 1) hx hb dJ6_bitCount_0f7a4_2 (by decide) ?_
  refine lv_iushr hx hb dJ6_bitCount_0f7a4_3 rfl ?_
  refine lv_topi (fun z3008 e3009 => ?_)
  refine lv_ldcw (v := 1431655765) hx hb hown (hwd _ wk_1288) dJ6_bitCount_0f7a4_4 ?_
  refine lv_iand hx hb dJ6_bitCount_0f7a4_7 ?_
  refine lv_topi (fun z3011 e3012 => ?_)
  refine lv_isub hx hb dJ6_bitCount_0f7a4_8 ?_
  refine lv_topi (fun z3014 e3015 => ?_)
  try (have t3016 := tsub e3015 (a := p0.toInt) rfl (b := z3011.toInt) rfl (by omega))
  refine lv_istore_n (lv' := [(0, .int z3014)]) hx hb dJ6_bitCount_0f7a4_9 rfl hl (by decide) rfl (fun ls hl => ?_)
  refine lv_iload_n hx hb dJ6_bitCount_0f7a4_10 rfl (lv_at hl 0 rfl) ?_
  refine lv_ldcw (v := 858993459) hx hb hown (hwd _ wk_1289) dJ6_bitCount_0f7a4_11 ?_
  refine lv_iand hx hb dJ6_bitCount_0f7a4_14 ?_
  refine lv_topi (fun z3017 e3018 => ?_)
  refine lv_iload_n hx hb dJ6_bitCount_0f7a4_15 rfl (lv_at hl 0 rfl) ?_
  refine lv_iconst (v := 2) hx hb dJ6_bitCount_0f7a4_16 (by decide) ?_
  refine lv_iushr hx hb dJ6_bitCount_0f7a4_17 rfl ?_
  refine lv_topi (fun z3020 e3021 => ?_)
  refine lv_ldcw (v := 858993459) hx hb hown (hwd _ wk_1289) dJ6_bitCount_0f7a4_18 ?_
  refine lv_iand hx hb dJ6_bitCount_0f7a4_21 ?_
  refine lv_topi (fun z3023 e3024 => ?_)
  refine lv_iadd hx hb dJ6_bitCount_0f7a4_22 ?_
  refine lv_topi (fun z3026 e3027 => ?_)
  try (have t3028 := tadd e3027 (a := z3017.toInt) rfl (b := z3023.toInt) rfl (by omega))
  refine lv_istore_n (lv' := [(0, .int z3026)]) hx hb dJ6_bitCount_0f7a4_23 rfl hl (by decide) rfl (fun ls hl => ?_)
  refine lv_iload_n hx hb dJ6_bitCount_0f7a4_24 rfl (lv_at hl 0 rfl) ?_
  refine lv_iload_n hx hb dJ6_bitCount_0f7a4_25 rfl (lv_at hl 0 rfl) ?_
  refine lv_iconst (v := 4) hx hb dJ6_bitCount_0f7a4_26 (by decide) ?_
  refine lv_iushr hx hb dJ6_bitCount_0f7a4_27 rfl ?_
  refine lv_topi (fun z3029 e3030 => ?_)
  refine lv_iadd hx hb dJ6_bitCount_0f7a4_28 ?_
  refine lv_topi (fun z3032 e3033 => ?_)
  try (have t3034 := tadd e3033 (a := z3026.toInt) rfl (b := z3029.toInt) rfl (by omega))
  refine lv_ldcw (v := 252645135) hx hb hown (hwd _ wk_1290) dJ6_bitCount_0f7a4_29 ?_
  refine lv_iand hx hb dJ6_bitCount_0f7a4_32 ?_
  refine lv_topi (fun z3035 e3036 => ?_)
  refine lv_istore_n (lv' := [(0, .int z3035)]) hx hb dJ6_bitCount_0f7a4_33 rfl hl (by decide) rfl (fun ls hl => ?_)
  refine lv_iload_n hx hb dJ6_bitCount_0f7a4_34 rfl (lv_at hl 0 rfl) ?_
  refine lv_iload_n hx hb dJ6_bitCount_0f7a4_35 rfl (lv_at hl 0 rfl) ?_
  refine lv_bipush (v := 8) hx hb dJ6_bitCount_0f7a4_36 (by decide) ?_
  refine lv_iushr hx hb dJ6_bitCount_0f7a4_38 rfl ?_
  refine lv_topi (fun z3038 e3039 => ?_)
  refine lv_iadd hx hb dJ6_bitCount_0f7a4_39 ?_
  refine lv_topi (fun z3041 e3042 => ?_)
  try (have t3043 := tadd e3042 (a := z3035.toInt) rfl (b := z3038.toInt) rfl (by omega))
  refine lv_istore_n (lv' := [(0, .int z3041)]) hx hb dJ6_bitCount_0f7a4_40 rfl hl (by decide) rfl (fun ls hl => ?_)
  refine lv_iload_n hx hb dJ6_bitCount_0f7a4_41 rfl (lv_at hl 0 rfl) ?_
  refine lv_iload_n hx hb dJ6_bitCount_0f7a4_42 rfl (lv_at hl 0 rfl) ?_
  refine lv_bipush (v := 16) hx hb dJ6_bitCount_0f7a4_43 (by decide) ?_
  refine lv_iushr hx hb dJ6_bitCount_0f7a4_45 rfl ?_
  refine lv_topi (fun z3044 e3045 => ?_)
  refine lv_iadd hx hb dJ6_bitCount_0f7a4_46 ?_
  refine lv_topi (fun z3047 e3048 => ?_)
  try (have t3049 := tadd e3048 (a := z3041.toInt) rfl (b := z3044.toInt) rfl (by omega))
  refine lv_istore_n (lv' := [(0, .int z3047)]) hx hb dJ6_bitCount_0f7a4_47 rfl hl (by decide) rfl (fun ls hl => ?_)
  refine lv_iload_n hx hb dJ6_bitCount_0f7a4_48 rfl (lv_at hl 0 rfl) ?_
  refine lv_bipush (v := 63) hx hb dJ6_bitCount_0f7a4_49 (by decide) ?_
  refine lv_iand hx hb dJ6_bitCount_0f7a4_51 ?_
  refine lv_topi (fun z3050 e3051 => ?_)
  have hP9 : va_P (dC, dI) classes (wX g c v F rc) H := hP
  exact W.iret (v := z3050) hx hb hr (fun t ht hW => ⟨⟨z3050, (), rfl, trivial, (by show va_P _ _ _ t.heap; rw [ht]; exact hP9)⟩, hS.F ht⟩) hS.2.2 dJ6_bitCount_0f7a4_52
set_option maxHeartbeats 8000000 in
set_option maxRecDepth 100000 in
theorem c_X1_choose (l : Launch) (dC : Nat → ClassId) (dI : Nat → Nat → Nat) (g : Nat → Nat) (c : Nat → ClassId) (adK adV : Nat → Nat) (v : Nat → Int32) (F : Nat → Nat → Int32) (rc sz : Nat) (p0 : Int32) (p1 : Int32) (p2 : Int32) (hg : injX g) (hI : IX v F) (h0 : 0 ≤ p0.toInt ∧ p0.toInt ≤ 9) : Met l yX1_choose (Cond.code yX1_choose cX1_choose 11 (some .int) :: wA) ({ frames := 7, cells := 0, slots := 0, locals := 280 }) (va_Pc [.ref (g 11), .int p0, .int p1, .int p2] (PX dC dI g c adK adV v F rc sz)) (va_Qi (fun (r : Int32) (u : StX) => IX u.1 u.2.1 ∧ alX u.1 u.2.1 = alX v F ∧ u.2.2 = rc ∧ (∀ k, k ∉ ([229, 232] : List Nat) → u.1 k = v k) ∧ True) (BX dC dI g c) (AX g sz)) 0 0 (AX g sz) := by
  refine Met.ofW (cc := cX1_choose) (maxL := 11) (ret := (some .int)) (by decide) rfl ?_
  intro p e s m args below meth c0 s₁ B hml hv
  obtain ⟨rfl, hsz, hP, hK, hE⟩ := hv
  have hx := B.exec
  have hb := B.bytes
  have hr := B.returns
  have hts := atoms_spec (ws := Cond.code yX1_choose cX1_choose 11 (some .int) :: wA) B.pre
  have hwd : ∀ w ∈ wA, w.before _ s = true := fun w h => hts w (List.mem_cons_of_mem _ h)
  have hown : s.vm.findClass RX1 = some m.cls := findClass_of_methodNamed B.named
  have hlocks := B.notSynchronized
  subst hsz
  have hl := lv_entry ([.ref (g 11), .int p0, .int p1, .int p2]) (n := 11) (Nat.le_of_ble_eq_true rfl)
  rw [lg_entry_eq]
  generalize (lg_sl ([.ref (g 11), .int p0, .int p1, .int p2]) ++ List.replicate (11 - (lg_sl ([.ref (g 11), .int p0, .int p1, .int p2])).length) Slot.unset).toArray = ls at hl ⊢
  have hl : lv_has ls 11 [(0, .ref (g 11)), (1, .int p0), (2, .int p1), (3, .int p2)] := hl
  obtain ⟨H, eH⟩ : ∃ z, z = s.heap := ⟨_, rfl⟩
  have hP : va_P (dC, dI) classes (wX g c v F rc) H := by rw [eH]; exact hP
  have hS : va_S (AX g s.heap.size) s.heap H [] := by rw [eH]; exact va_S.rf
  refine my_heap eH ?_
  have hal : alX v F = alX v F := rfl
  have rp0 := i32_rng p0
  have rp1 := i32_rng p1
  have rp2 := i32_rng p2
  refine lv_aload_n hx hb dX1_choose_0 rfl (lv_at hl 0 rfl) ?_
  refine va_get (D := (dC, dI)) (ci := 1) (v := .int (v 229)) (C := RX1) (T := TX1) (N := 13) hx hb hwd inA_X1 hown hK hP 11 rfl rfl 9 (by decide) (hwd _ wk_1151) (fun _ h9 => h9) rfl dX1_choose_1 ?_
  have t3053 : 0 ≤ (v 229).toInt ∧ (v 229).toInt ≤ 100 := hI.1 229 _ _ rfl
  refine lv_istore (lv' := [(4, .int (v 229)), (0, .ref (g 11)), (1, .int p0), (2, .int p1), (3, .int p2)]) hx hb dX1_choose_4 hl (by decide) rfl (fun ls hl => ?_)
  refine lv_iload_n hx hb dX1_choose_6 rfl (lv_at hl 3 rfl) ?_
  refine lv_aload_n hx hb dX1_choose_7 rfl (lv_at hl 1 rfl) ?_
  refine va_get (D := (dC, dI)) (ci := 1) (v := .int (v 231)) (C := RX1) (T := TX1) (N := 13) hx hb hwd inA_X1 hown hK hP 11 rfl rfl 11 (by decide) (hwd _ wk_1277) (fun _ h9 => h9) rfl dX1_choose_8 ?_
  have t3054 : 0 ≤ (v 231).toInt ∧ (v 231).toInt ≤ 8 := hI.1 231 _ _ rfl
  refine va_mmin hx hb (by rw [hml]; exact hl.1.symm) hown (hwd _ wk_1282) (hwd _ wk_391) (hwd _ wk_392) (hwd _ wk_393) (Nat.le_of_ble_eq_true rfl) (Nat.le_of_ble_eq_true rfl) (Nat.le_of_ble_eq_true rfl) (Nat.le_of_ble_eq_true rfl) dX1_choose_11 ?_
  refine lv_topi (fun z3055 e3056 => ?_)
  have t3057 := tmin e3056 (a := p1.toInt) rfl (b := (v 231).toInt) rfl
  refine lv_istore (lv' := [(5, .int z3055), (4, .int (v 229)), (0, .ref (g 11)), (1, .int p0), (2, .int p1), (3, .int p2)]) hx hb dX1_choose_14 hl (by decide) rfl (fun ls hl => ?_)
  refine lv_iconst (v := 0) hx hb dX1_choose_16 (by decide) ?_
  refine lv_istore (lv' := [(6, .int 0), (5, .int z3055), (4, .int (v 229)), (0, .ref (g 11)), (1, .int p0), (2, .int p1), (3, .int p2)]) hx hb dX1_choose_17 hl (by decide) rfl (fun ls hl => ?_)
  refine lv_iconst (v := 0) hx hb dX1_choose_19 (by decide) ?_
  refine lv_istore (lv' := [(7, .int 0), (6, .int 0), (5, .int z3055), (4, .int (v 229)), (0, .ref (g 11)), (1, .int p0), (2, .int p1), (3, .int p2)]) hx hb dX1_choose_20 hl (by decide) rfl (fun ls hl => ?_)
  refine lv_iconst (v := 1) hx hb dX1_choose_22 (by decide) ?_
  refine lv_istore (lv' := [(8, .int 1), (7, .int 0), (6, .int 0), (5, .int z3055), (4, .int (v 229)), (0, .ref (g 11)), (1, .int p0), (2, .int p1), (3, .int p2)]) hx hb dX1_choose_23 hl (by decide) rfl (fun ls hl => ?_)
  have lp3058 : ∀ (n : Nat) (x8_lp3058 : Int32) (x7_lp3058 : Int32) (x6_lp3058 : Int32) (v_lp3058 : Nat → Int32) (F_lp3058 : Nat → Nat → Int32) (H : Heap) (locs : List Loc) (ls : Array Slot), (0 ≤ x8_lp3058.toInt) → (2147483648 - x8_lp3058.toInt ≤ (n : Int)) → (∀ k, k ∉ ([229, 232] : List Nat) → v_lp3058 k = v k) → IX v_lp3058 F_lp3058 → alX v_lp3058 F_lp3058 = alX v F → va_P (dC, dI) classes (wX g c v_lp3058 F_lp3058 rc) H → va_S (AX g s.heap.size) s.heap H locs → lv_has ls 11 [(8, .int x8_lp3058), (7, .int x7_lp3058), (6, .int x6_lp3058), (5, .int z3055), (4, .int (v 229)), (0, .ref (g 11)), (1, .int p0), (2, .int p1), (3, .int p2)] → W p l e (headSpec (Cond.code yX1_choose cX1_choose 11 (some .int) :: wA) ({ frames := 7, cells := 0, slots := 0, locals := 280 })).room s m ([.ref (g 11), .int p0, .int p1, .int p2] : List Value).toArray below meth c0 H locs 0 0 (MQ below (va_Qi (fun (r : Int32) (u : StX) => IX u.1 u.2.1 ∧ alX u.1 u.2.1 = alX v F ∧ u.2.2 = rc ∧ (∀ k, k ∉ ([229, 232] : List Nat) → u.1 k = v k) ∧ True) (BX dC dI g c) (AX g s.heap.size)) ([.ref (g 11), .int p0, .int p1, .int p2] : List Value).toArray s 0 0 (AX g s.heap.size)) (F0 m 25 ls []) := by
    intro n
    induction n with
    | zero =>
      intro x8_lp3058 x7_lp3058 x6_lp3058 v_lp3058 F_lp3058 H locs ls t3059 hm hf_lp3058 hI hal hP hS hl
      exfalso
      have := i32_rng x8_lp3058
      have := i32_rng x7_lp3058
      have := i32_rng x6_lp3058
      have hI1 := hI.1
      omega
    | succ n ih_lp3058 =>
      intro x8_lp3058 x7_lp3058 x6_lp3058 v_lp3058 F_lp3058 H locs ls t3059 hm hf_lp3058 hI hal hP hS hl
      have rx8_lp3058 := i32_rng x8_lp3058
      have rx7_lp3058 := i32_rng x7_lp3058
      have rx6_lp3058 := i32_rng x6_lp3058
      refine lv_iload hx hb dX1_choose_25 (lv_at hl 0 rfl) ?_
      refine lv_iconst (v := 1) hx hb dX1_choose_27 (by decide) ?_
      refine lv_aload_n hx hb dX1_choose_28 rfl (lv_at hl 5 rfl) ?_
      refine va_get (D := (dC, dI)) (ci := 1) (v := .int (v_lp3058 231)) (C := RX1) (T := TX1) (N := 13) hx hb hwd inA_X1 hown hK hP 11 rfl rfl 11 (by decide) (hwd _ wk_1277) (fun _ h9 => h9) rfl dX1_choose_29 ?_
      refine my_top (v := v 231) (hf_lp3058 231 (by decide)) ?_
      have t3060 : 0 ≤ (v 231).toInt ∧ (v 231).toInt ≤ 8 := by have h9 := hI.1 231 _ _ rfl; rw [show v_lp3058 231 = v 231 from hf_lp3058 231 (by decide)] at h9; exact h9
      refine lv_ishl hx hb dX1_choose_32 ?_
      refine lv_topi (fun z3061 e3062 => ?_)
      have rr_z3061 := i32_rng z3061
      refine lv_icmp_ge (tgt := 125) hx hb dX1_choose_33 (by decide) (fun c3064 => ?_) (fun c3064 => ?_)
      · skip
        have t3065 := cv_le (a := z3061.toInt) rfl (b := x8_lp3058.toInt) rfl c3064
        refine lv_iload hx hb dX1_choose_125 (lv_at hl 2 rfl) ?_
        have hP9 : va_P (dC, dI) classes (wX g c v_lp3058 F_lp3058 rc) H := hP
        exact W.iret (v := x6_lp3058) hx hb hr (fun t ht hW => ⟨⟨x6_lp3058, (v_lp3058, F_lp3058, rc), rfl, ⟨hI, hal, rfl, (frC (by decide) hf_lp3058 (fun _ _ => rfl)), trivial⟩, (by show va_P _ _ _ t.heap; rw [ht]; exact hP9)⟩, hS.F ht⟩) hS.2.2 dX1_choose_127
      · skip
        have t3066 := cv_nle (a := z3061.toInt) rfl (b := x8_lp3058.toInt) rfl c3064
        refine lv_iload hx hb dX1_choose_36 (lv_at hl 0 rfl) ?_
        refine va_calli (va_runS (As := [.int x8_lp3058]) (rest := []) ⟨hx, hb, hml, hown, hwd⟩ (c_J6_bitCount_0f7a4 l dC dI g c adK adV v_lp3058 F_lp3058 rc H.size x8_lp3058 hg hI ) (va_cwS 1 hwd (gT wk_1287 wk_1284 wk_1285 wk_1286) rfl rfl rfl (by decide +kernel) ⟨Nat.le_of_ble_eq_true rfl, Nat.le_of_ble_eq_true rfl⟩) ⟨PX.blind, fun U hU hW => ⟨rfl, PX.at hK hE hP hS hU hW⟩⟩ rfl rfl hl.1 rfl (lv_room (Nat.le_of_ble_eq_true rfl)) dX1_choose_38 ⟨Nat.le_of_ble_eq_true rfl, Nat.le_of_ble_eq_true rfl⟩) hS (fun q _ h => (freeX hS) q h) (freeX hS) (fun r3067 u t H1 locs ht hvm hw hB hz1 hk1 hS => ?_)
        unfold BX at hB
        rw [ht] at hB
        have hP : va_P (dC, dI) classes (wX g c v_lp3058 F_lp3058 rc) H1 := hB
        generalize H1 = H at hP hS ⊢
        have rr_r3067 := i32_rng r3067
        refine lv_iload hx hb dX1_choose_41 (lv_at hl 3 rfl) ?_
        refine lv_icmp_ne (tgt := 119) hx hb dX1_choose_43 (by decide) (fun c3068 => ?_) (fun c3068 => ?_)
        · skip
          have t3069 := cv_ne (a := r3067.toInt) rfl (b := z3055.toInt) rfl c3068
          obtain ⟨z3070, e3071⟩ : ∃ y : Int32, y = x8_lp3058 + 1 := ⟨_, rfl⟩
          try (have t3072 := tadd e3071 rfl (b := 1) (by decide) (by omega))
          refine lv_iinc (v := z3070) (lv' := [(8, .int z3070), (7, .int x7_lp3058), (6, .int x6_lp3058), (5, .int z3055), (4, .int (v 229)), (0, .ref (g 11)), (1, .int p0), (2, .int p1), (3, .int p2)]) hx hb dX1_choose_119 hl (k := 0) rfl (by rw [e3071]; rfl) (by decide) rfl (fun ls hl => ?_)
          refine lv_goto (tgt := 25) hx hb dX1_choose_122 (by decide) ?_
          exact ih_lp3058 z3070 x7_lp3058 x6_lp3058 v_lp3058 F_lp3058 _ _ _ (by omega) (by omega) hf_lp3058 hI hal hP hS (lv_sub hl [0, 1, 2, 3, 4, 5, 6, 7, 8] rfl)
        · skip
          have t3073 := cv_eq (a := r3067.toInt) rfl (b := z3055.toInt) rfl c3068
          refine lv_aload_n hx hb dX1_choose_46 rfl (lv_at hl 5 rfl) ?_
          refine lv_iload hx hb dX1_choose_47 (lv_at hl 4 rfl) ?_
          refine va_put (D := (dC, dI)) (ci := 1) (v := .int (v 229)) (ty := .int) (C := RX1) (T := TX1) (N := 13) (fs := fsX_11 g v_lp3058 rc) hx hb hwd inA_X1 tyX1 tyX1_ok nmX1 hown hK hP (DX hg) hS 11 rfl rfl 9 (by decide) (hwd _ wk_1151) (fun _ h9 => h9) rfl (by decide +kernel) rfl rfl (Nat.le_of_ble_eq_true rfl) dX1_choose_49 (fun H locs hP _ hS => ?_)
          have hP := va_P_eq (pX_229 g c _ _ _ _) hP
          have hI := IX.put hI 229 (v 229) rfl (by omega)
          have hal := (alX_v _ _ 229 (v 229) (by decide) (by decide) (by decide) (by decide)).trans hal
          refine lv_aload_n hx hb dX1_choose_52 rfl (lv_at hl 5 rfl) ?_
          refine lv_iload hx hb dX1_choose_53 (lv_at hl 0 rfl) ?_
          refine va_callv (va_runV (As := [.int x8_lp3058]) (rest := []) ⟨hx, hb, hml, hown, hwd⟩ (c_X1_judgeOfRow l dC dI g c adK adV (va_up v_lp3058 229 (v 229)) F_lp3058 rc H.size x8_lp3058 hg hI ) (cwV 1 hwd (gV wk_1294 wk_1291 wk_1292 wk_1293 wk_54) rfl rfl rfl (by decide +kernel) ⟨Nat.le_of_ble_eq_true rfl, Nat.le_of_ble_eq_true rfl⟩) ⟨PX.blind, va_recv hK hP (ci := 1) (q0 := 11) rfl rfl, fun U hU hW => ⟨rfl, PX.at hK hE hP hS hU hW⟩⟩ rfl rfl hl.1 rfl (lv_room (Nat.le_of_ble_eq_true rfl)) dX1_choose_55 ⟨Nat.le_of_ble_eq_true rfl, Nat.le_of_ble_eq_true rfl⟩) hS (fun q _ h => (freeX hS) q h) (freeX hS) (fun u t H1 locs ht hvm hw hB hz1 hk1 hS => ?_)
          unfold BX at hB
          rw [ht] at hB
          obtain ⟨v3075, F3076, rc9⟩ := u
          obtain ⟨hI, hal9, hrc, hf3077, hw⟩ := hw
          dsimp only at hI hal9 hrc hB hf3077 hw
          rw [hrc] at hB
          have hal := hal9.trans hal
          have hP : va_P (dC, dI) classes (wX g c v3075 F3076 rc) H1 := hB
          generalize H1 = H at hP hS ⊢
          refine lv_aload_n hx hb dX1_choose_58 rfl (lv_at hl 5 rfl) ?_
          refine lv_iload_n hx hb dX1_choose_59 rfl (lv_at hl 6 rfl) ?_
          refine lv_iload_n hx hb dX1_choose_60 rfl (lv_at hl 8 rfl) ?_
          refine va_calli (va_runV (As := [.int p0, .int p2]) (rest := []) ⟨hx, hb, hml, hown, hwd⟩ (c_X1_priceOf l dC dI g c adK adV v3075 F3076 rc H.size p0 p2 hg hI (by omega)) (cwV 2 hwd (gV wk_1225 wk_1295 wk_1223 wk_1224 wk_54) rfl rfl rfl (by decide +kernel) ⟨Nat.le_of_ble_eq_true rfl, Nat.le_of_ble_eq_true rfl⟩) ⟨PX.blind, va_recv hK hP (ci := 1) (q0 := 11) rfl rfl, fun U hU hW => ⟨rfl, PX.at hK hE hP hS hU hW⟩⟩ rfl rfl hl.1 rfl (lv_room (Nat.le_of_ble_eq_true rfl)) dX1_choose_61 ⟨Nat.le_of_ble_eq_true rfl, Nat.le_of_ble_eq_true rfl⟩) hS (fun q _ h => (freeX hS) q h) (freeX hS) (fun r3078 u t H1 locs ht hvm hw hB hz1 hk1 hS => ?_)
          unfold BX at hB
          rw [ht] at hB
          have hP : va_P (dC, dI) classes (wX g c v3075 F3076 rc) H1 := hB
          generalize H1 = H at hP hS ⊢
          have rr_r3078 := i32_rng r3078
          refine lv_istore (lv' := [(9, .int r3078), (8, .int x8_lp3058), (7, .int x7_lp3058), (6, .int x6_lp3058), (5, .int z3055), (4, .int (v 229)), (0, .ref (g 11)), (1, .int p0), (2, .int p1), (3, .int p2)]) hx hb dX1_choose_64 hl (by decide) rfl (fun ls hl => ?_)
          refine lv_aload_n hx hb dX1_choose_66 rfl (lv_at hl 6 rfl) ?_
          refine lv_iload hx hb dX1_choose_67 (lv_at hl 1 rfl) ?_
          refine lv_iload_n hx hb dX1_choose_69 rfl (lv_at hl 7 rfl) ?_
          refine va_calli (va_runV (As := [.int x8_lp3058, .int p0]) (rest := []) ⟨hx, hb, hml, hown, hwd⟩ (c_X1_countNotOn l dC dI g c adK adV v3075 F3076 rc H.size x8_lp3058 p0 hg hI ) (cwV 2 hwd (gV wk_1299 wk_1296 wk_1297 wk_1298 wk_54) rfl rfl rfl (by decide +kernel) ⟨Nat.le_of_ble_eq_true rfl, Nat.le_of_ble_eq_true rfl⟩) ⟨PX.blind, va_recv hK hP (ci := 1) (q0 := 11) rfl rfl, fun U hU hW => ⟨rfl, PX.at hK hE hP hS hU hW⟩⟩ rfl rfl hl.1 rfl (lv_room (Nat.le_of_ble_eq_true rfl)) dX1_choose_70 ⟨Nat.le_of_ble_eq_true rfl, Nat.le_of_ble_eq_true rfl⟩) hS (fun q _ h => (freeX hS) q h) (freeX hS) (fun r3079 u t H1 locs ht hvm hw hB hz1 hk1 hS => ?_)
          unfold BX at hB
          rw [ht] at hB
          have hP : va_P (dC, dI) classes (wX g c v3075 F3076 rc) H1 := hB
          generalize H1 = H at hP hS ⊢
          have rr_r3079 := i32_rng r3079
          refine lv_istore (lv' := [(10, .int r3079), (9, .int r3078), (8, .int x8_lp3058), (7, .int x7_lp3058), (6, .int x6_lp3058), (5, .int z3055), (4, .int (v 229)), (0, .ref (g 11)), (1, .int p0), (2, .int p1), (3, .int p2)]) hx hb dX1_choose_73 hl (by decide) rfl (fun ls hl => ?_)
          refine lv_iload hx hb dX1_choose_75 (lv_at hl 4 rfl) ?_
          refine lv_if_eq (tgt := 105) hx hb dX1_choose_77 (by decide) (fun c3080 => ?_) (fun c3080 => ?_)
          · skip
            have t3081 := cv_eq (a := x6_lp3058.toInt) rfl (b := 0) (by decide) c3080
            refine lv_iload hx hb dX1_choose_105 (lv_at hl 2 rfl) ?_
            refine lv_istore (lv' := [(6, .int x8_lp3058), (10, .int r3079), (9, .int r3078), (8, .int x8_lp3058), (7, .int x7_lp3058), (5, .int z3055), (4, .int (v 229)), (0, .ref (g 11)), (1, .int p0), (2, .int p1), (3, .int p2)]) hx hb dX1_choose_107 hl (by decide) rfl (fun ls hl => ?_)
            refine lv_iload hx hb dX1_choose_109 (lv_at hl 1 rfl) ?_
            refine lv_istore (lv' := [(7, .int r3079), (6, .int x8_lp3058), (10, .int r3079), (9, .int r3078), (8, .int x8_lp3058), (5, .int z3055), (4, .int (v 229)), (0, .ref (g 11)), (1, .int p0), (2, .int p1), (3, .int p2)]) hx hb dX1_choose_111 hl (by decide) rfl (fun ls hl => ?_)
            refine lv_aload_n hx hb dX1_choose_113 rfl (lv_at hl 7 rfl) ?_
            refine lv_iload hx hb dX1_choose_114 (lv_at hl 3 rfl) ?_
            refine va_put (D := (dC, dI)) (ci := 1) (v := .int r3078) (ty := .int) (C := RX1) (T := TX1) (N := 13) (fs := fsX_11 g v3075 rc) hx hb hwd inA_X1 tyX1 tyX1_ok nmX1 hown hK hP (DX hg) hS 11 rfl rfl 12 (by decide) (hwd _ wk_1283) (fun _ h9 => h9) rfl (by decide +kernel) rfl rfl (Nat.le_of_ble_eq_true rfl) dX1_choose_116 (fun H locs hP _ hS => ?_)
            have hP := va_P_eq (pX_232 g c _ _ _ _) hP
            have hI := IX.put0 hI 232 r3078 rfl
            have hal := (alX_v _ _ 232 r3078 (by decide) (by decide) (by decide) (by decide)).trans hal
            obtain ⟨z3082, e3083⟩ : ∃ y : Int32, y = x8_lp3058 + 1 := ⟨_, rfl⟩
            try (have t3084 := tadd e3083 rfl (b := 1) (by decide) (by omega))
            refine lv_iinc (v := z3082) (lv' := [(8, .int z3082), (7, .int r3079), (6, .int x8_lp3058), (10, .int r3079), (9, .int r3078), (5, .int z3055), (4, .int (v 229)), (0, .ref (g 11)), (1, .int p0), (2, .int p1), (3, .int p2)]) hx hb dX1_choose_119 hl (k := 4) rfl (by rw [e3083]; rfl) (by decide) rfl (fun ls hl => ?_)
            refine lv_goto (tgt := 25) hx hb dX1_choose_122 (by decide) ?_
            exact ih_lp3058 z3082 r3079 x8_lp3058 (va_up v3075 232 r3078) F3076 _ _ _ (by omega) (by omega) (frU (by decide) (frC (by decide) hf3077 (frU (by decide) hf_lp3058))) hI hal hP hS (lv_sub hl [0, 1, 2, 5, 6, 7, 8, 9, 10] rfl)
          · skip
            have t3085 := cv_ne (a := x6_lp3058.toInt) rfl (b := 0) (by decide) c3080
            refine lv_iload hx hb dX1_choose_80 (lv_at hl 1 rfl) ?_
            refine lv_aload_n hx hb dX1_choose_82 rfl (lv_at hl 7 rfl) ?_
            refine va_get (D := (dC, dI)) (ci := 1) (v := .int (v3075 232)) (C := RX1) (T := TX1) (N := 13) hx hb hwd inA_X1 hown hK hP 11 rfl rfl 12 (by decide) (hwd _ wk_1283) (fun _ h9 => h9) rfl dX1_choose_83 ?_
            refine my_top (v := v_lp3058 232) (hf3077 232 (by decide)) ?_
            refine lv_icmp_lt (tgt := 105) hx hb dX1_choose_86 (by decide) (fun c3086 => ?_) (fun c3086 => ?_)
            · skip
              have t3087 := cv_lt (a := r3078.toInt) rfl (b := (v_lp3058 232).toInt) rfl c3086
              refine lv_iload hx hb dX1_choose_105 (lv_at hl 2 rfl) ?_
              refine lv_istore (lv' := [(6, .int x8_lp3058), (10, .int r3079), (9, .int r3078), (8, .int x8_lp3058), (7, .int x7_lp3058), (5, .int z3055), (4, .int (v 229)), (0, .ref (g 11)), (1, .int p0), (2, .int p1), (3, .int p2)]) hx hb dX1_choose_107 hl (by decide) rfl (fun ls hl => ?_)
              refine lv_iload hx hb dX1_choose_109 (lv_at hl 1 rfl) ?_
              refine lv_istore (lv' := [(7, .int r3079), (6, .int x8_lp3058), (10, .int r3079), (9, .int r3078), (8, .int x8_lp3058), (5, .int z3055), (4, .int (v 229)), (0, .ref (g 11)), (1, .int p0), (2, .int p1), (3, .int p2)]) hx hb dX1_choose_111 hl (by decide) rfl (fun ls hl => ?_)
              refine lv_aload_n hx hb dX1_choose_113 rfl (lv_at hl 7 rfl) ?_
              refine lv_iload hx hb dX1_choose_114 (lv_at hl 3 rfl) ?_
              refine va_put (D := (dC, dI)) (ci := 1) (v := .int r3078) (ty := .int) (C := RX1) (T := TX1) (N := 13) (fs := fsX_11 g v3075 rc) hx hb hwd inA_X1 tyX1 tyX1_ok nmX1 hown hK hP (DX hg) hS 11 rfl rfl 12 (by decide) (hwd _ wk_1283) (fun _ h9 => h9) rfl (by decide +kernel) rfl rfl (Nat.le_of_ble_eq_true rfl) dX1_choose_116 (fun H locs hP _ hS => ?_)
              have hP := va_P_eq (pX_232 g c _ _ _ _) hP
              have hI := IX.put0 hI 232 r3078 rfl
              have hal := (alX_v _ _ 232 r3078 (by decide) (by decide) (by decide) (by decide)).trans hal
              obtain ⟨z3088, e3089⟩ : ∃ y : Int32, y = x8_lp3058 + 1 := ⟨_, rfl⟩
              try (have t3090 := tadd e3089 rfl (b := 1) (by decide) (by omega))
              refine lv_iinc (v := z3088) (lv' := [(8, .int z3088), (7, .int r3079), (6, .int x8_lp3058), (10, .int r3079), (9, .int r3078), (5, .int z3055), (4, .int (v 229)), (0, .ref (g 11)), (1, .int p0), (2, .int p1), (3, .int p2)]) hx hb dX1_choose_119 hl (k := 4) rfl (by rw [e3089]; rfl) (by decide) rfl (fun ls hl => ?_)
              refine lv_goto (tgt := 25) hx hb dX1_choose_122 (by decide) ?_
              exact ih_lp3058 z3088 r3079 x8_lp3058 (va_up v3075 232 r3078) F3076 _ _ _ (by omega) (by omega) (frU (by decide) (frC (by decide) hf3077 (frU (by decide) hf_lp3058))) hI hal hP hS (lv_sub hl [0, 1, 2, 5, 6, 7, 8, 9, 10] rfl)
            · skip
              have t3091 := cv_nlt (a := r3078.toInt) rfl (b := (v_lp3058 232).toInt) rfl c3086
              refine lv_iload hx hb dX1_choose_89 (lv_at hl 1 rfl) ?_
              refine lv_aload_n hx hb dX1_choose_91 rfl (lv_at hl 7 rfl) ?_
              refine va_get (D := (dC, dI)) (ci := 1) (v := .int (v3075 232)) (C := RX1) (T := TX1) (N := 13) hx hb hwd inA_X1 hown hK hP 11 rfl rfl 12 (by decide) (hwd _ wk_1283) (fun _ h9 => h9) rfl dX1_choose_92 ?_
              refine my_top (v := v_lp3058 232) (hf3077 232 (by decide)) ?_
              refine lv_icmp_ne (tgt := 119) hx hb dX1_choose_95 (by decide) (fun c3092 => ?_) (fun c3092 => ?_)
              · skip
                have t3093 := cv_ne (a := r3078.toInt) rfl (b := (v_lp3058 232).toInt) rfl c3092
                obtain ⟨z3094, e3095⟩ : ∃ y : Int32, y = x8_lp3058 + 1 := ⟨_, rfl⟩
                try (have t3096 := tadd e3095 rfl (b := 1) (by decide) (by omega))
                refine lv_iinc (v := z3094) (lv' := [(8, .int z3094), (10, .int r3079), (9, .int r3078), (7, .int x7_lp3058), (6, .int x6_lp3058), (5, .int z3055), (4, .int (v 229)), (0, .ref (g 11)), (1, .int p0), (2, .int p1), (3, .int p2)]) hx hb dX1_choose_119 hl (k := 2) rfl (by rw [e3095]; rfl) (by decide) rfl (fun ls hl => ?_)
                refine lv_goto (tgt := 25) hx hb dX1_choose_122 (by decide) ?_
                exact ih_lp3058 z3094 x7_lp3058 x6_lp3058 v3075 F3076 _ _ _ (by omega) (by omega) (frC (by decide) hf3077 (frU (by decide) hf_lp3058)) hI hal hP hS (lv_sub hl [0, 3, 4, 5, 6, 7, 8, 9, 10] rfl)
              · skip
                have t3097 := cv_eq (a := r3078.toInt) rfl (b := (v_lp3058 232).toInt) rfl c3092
                refine lv_iload hx hb dX1_choose_98 (lv_at hl 0 rfl) ?_
                refine lv_iload hx hb dX1_choose_100 (lv_at hl 3 rfl) ?_
                refine lv_icmp_ge (tgt := 119) hx hb dX1_choose_102 (by decide) (fun c3098 => ?_) (fun c3098 => ?_)
                · skip
                  have t3099 := cv_le (a := x7_lp3058.toInt) rfl (b := r3079.toInt) rfl c3098
                  obtain ⟨z3100, e3101⟩ : ∃ y : Int32, y = x8_lp3058 + 1 := ⟨_, rfl⟩
                  try (have t3102 := tadd e3101 rfl (b := 1) (by decide) (by omega))
                  refine lv_iinc (v := z3100) (lv' := [(8, .int z3100), (10, .int r3079), (9, .int r3078), (7, .int x7_lp3058), (6, .int x6_lp3058), (5, .int z3055), (4, .int (v 229)), (0, .ref (g 11)), (1, .int p0), (2, .int p1), (3, .int p2)]) hx hb dX1_choose_119 hl (k := 2) rfl (by rw [e3101]; rfl) (by decide) rfl (fun ls hl => ?_)
                  refine lv_goto (tgt := 25) hx hb dX1_choose_122 (by decide) ?_
                  exact ih_lp3058 z3100 x7_lp3058 x6_lp3058 v3075 F3076 _ _ _ (by omega) (by omega) (frC (by decide) hf3077 (frU (by decide) hf_lp3058)) hI hal hP hS (lv_sub hl [0, 3, 4, 5, 6, 7, 8, 9, 10] rfl)
                · skip
                  have t3103 := cv_nle (a := x7_lp3058.toInt) rfl (b := r3079.toInt) rfl c3098
                  refine lv_iload hx hb dX1_choose_105 (lv_at hl 2 rfl) ?_
                  refine lv_istore (lv' := [(6, .int x8_lp3058), (10, .int r3079), (9, .int r3078), (8, .int x8_lp3058), (7, .int x7_lp3058), (5, .int z3055), (4, .int (v 229)), (0, .ref (g 11)), (1, .int p0), (2, .int p1), (3, .int p2)]) hx hb dX1_choose_107 hl (by decide) rfl (fun ls hl => ?_)
                  refine lv_iload hx hb dX1_choose_109 (lv_at hl 1 rfl) ?_
                  refine lv_istore (lv' := [(7, .int r3079), (6, .int x8_lp3058), (10, .int r3079), (9, .int r3078), (8, .int x8_lp3058), (5, .int z3055), (4, .int (v 229)), (0, .ref (g 11)), (1, .int p0), (2, .int p1), (3, .int p2)]) hx hb dX1_choose_111 hl (by decide) rfl (fun ls hl => ?_)
                  refine lv_aload_n hx hb dX1_choose_113 rfl (lv_at hl 7 rfl) ?_
                  refine lv_iload hx hb dX1_choose_114 (lv_at hl 3 rfl) ?_
                  refine va_put (D := (dC, dI)) (ci := 1) (v := .int r3078) (ty := .int) (C := RX1) (T := TX1) (N := 13) (fs := fsX_11 g v3075 rc) hx hb hwd inA_X1 tyX1 tyX1_ok nmX1 hown hK hP (DX hg) hS 11 rfl rfl 12 (by decide) (hwd _ wk_1283) (fun _ h9 => h9) rfl (by decide +kernel) rfl rfl (Nat.le_of_ble_eq_true rfl) dX1_choose_116 (fun H locs hP _ hS => ?_)
                  have hP := va_P_eq (pX_232 g c _ _ _ _) hP
                  have hI := IX.put0 hI 232 r3078 rfl
                  have hal := (alX_v _ _ 232 r3078 (by decide) (by decide) (by decide) (by decide)).trans hal
                  obtain ⟨z3104, e3105⟩ : ∃ y : Int32, y = x8_lp3058 + 1 := ⟨_, rfl⟩
                  try (have t3106 := tadd e3105 rfl (b := 1) (by decide) (by omega))
                  refine lv_iinc (v := z3104) (lv' := [(8, .int z3104), (7, .int r3079), (6, .int x8_lp3058), (10, .int r3079), (9, .int r3078), (5, .int z3055), (4, .int (v 229)), (0, .ref (g 11)), (1, .int p0), (2, .int p1), (3, .int p2)]) hx hb dX1_choose_119 hl (k := 4) rfl (by rw [e3105]; rfl) (by decide) rfl (fun ls hl => ?_)
                  refine lv_goto (tgt := 25) hx hb dX1_choose_122 (by decide) ?_
                  exact ih_lp3058 z3104 r3079 x8_lp3058 (va_up v3075 232 r3078) F3076 _ _ _ (by omega) (by omega) (frU (by decide) (frC (by decide) hf3077 (frU (by decide) hf_lp3058))) hI hal hP hS (lv_sub hl [0, 1, 2, 5, 6, 7, 8, 9, 10] rfl)
  obtain ⟨n9, hn9⟩ : ∃ n : Nat, 2147483648 - 1 ≤ (n : Int) := ⟨((2147483648 - 1 : Int)).toNat, by omega⟩
  exact lp3058 n9 1 0 0 v F H _ ls (by have : (1 : Int32).toInt = 1 := (by decide); have : (0 : Int32).toInt = 0 := (by decide); have : (0 : Int32).toInt = 0 := (by decide); omega) (by have : (1 : Int32).toInt = 1 := (by decide); have : (0 : Int32).toInt = 0 := (by decide); have : (0 : Int32).toInt = 0 := (by decide); omega) (fun _ _ => rfl) hI hal hP hS hl
