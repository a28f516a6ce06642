set_option maxHeartbeats 8000000 in
set_option maxRecDepth 100000 in
theorem c_X12_groundedBy (l : Launch) (dC : Nat → ClassId) (dI : Nat → Nat → Nat) (g : Nat → Nat) (c : Nat → ClassId) (adK adV : Nat → Nat) (v : Nat → Int32) (F : Nat → Nat → Int32) (rc sz : Nat) (p0 : Int32) (p1 : Int32) (hg : injM g) (hI : IM v F) (h0 : 0 ≤ p0.toInt ∧ p0.toInt ≤ 9) (hL : JL (v 31) (F 28) (F 29) (F 27)) : Met l yX12_groundedBy (Cond.code yX12_groundedBy cX12_groundedBy 5 (some .int) :: wA) ({ frames := 5, cells := 0, slots := 0, locals := 200 }) (va_Pc [.ref (g 0), .int p0, .int p1] (PM dC dI g c adK adV v F rc sz)) (va_Qi (fun (r : Int32) (u : StM) => IM u.1 u.2.1 ∧ u.2.2 = rc ∧ (∀ k, k ∉ ([] : List Nat) → u.1 k = v k) ∧ (∀ k, k ∉ ([30, 31] : List Nat) → u.2.1 k = F k) ∧ True) (BM dC dI g c) (AM g sz)) 0 0 (AM g sz) := by
  refine Met.ofW (cc := cX12_groundedBy) (maxL := 5) (ret := (some .int)) (by decide) rfl ?_
  intro p e s m args below meth c0 s₁ B hml hv
  obtain ⟨rfl, hsz, hP, hK, hE⟩ := hv
  have hx := B.exec
  have hb := B.bytes
  have hr := B.returns
  have hts := atoms_spec (ws := Cond.code yX12_groundedBy cX12_groundedBy 5 (some .int) :: wA) B.pre
  have hwd : ∀ w ∈ wA, w.before _ s = true := fun w h => hts w (List.mem_cons_of_mem _ h)
  have hown : s.vm.findClass RX12 = some m.cls := findClass_of_methodNamed B.named
  have hlocks := B.notSynchronized
  subst hsz
  have hl := lv_entry ([.ref (g 0), .int p0, .int p1]) (n := 5) (Nat.le_of_ble_eq_true rfl)
  rw [lg_entry_eq]
  generalize (lg_sl ([.ref (g 0), .int p0, .int p1]) ++ List.replicate (5 - (lg_sl ([.ref (g 0), .int p0, .int p1])).length) Slot.unset).toArray = ls at hl ⊢
  have hl : lv_has ls 5 [(0, .ref (g 0)), (1, .int p0), (2, .int p1)] := hl
  obtain ⟨H, eH⟩ : ∃ z, z = s.heap := ⟨_, rfl⟩
  have hP : va_P (dC, dI) classes (wM g c v F rc) H := by rw [eH]; exact hP
  have hS : va_S (AM g s.heap.size) s.heap H [] := by rw [eH]; exact va_S.rf
  refine my_heap eH ?_
  have hF : ∀ k, k ∉ ([30, 31] : List Nat) → F k = F k := fun _ _ => rfl
  have rp0 := i32_rng p0
  have rp1 := i32_rng p1
  have hb31 : 0 ≤ (v 31).toInt ∧ (v 31).toInt ≤ 10 := hI.1 31 _ _ rfl
  refine lv_iconst (v := 0) hx hb dX12_groundedBy_0 (by decide) ?_
  refine lv_istore_n (lv' := [(3, .int 0), (0, .ref (g 0)), (1, .int p0), (2, .int p1)]) hx hb dX12_groundedBy_1 rfl hl (by decide) rfl (fun ls hl => ?_)
  have lp14023 : ∀ (n : Nat) (x3_lp14023 : Int32) (v_lp14023 : Nat → Int32) (F_lp14023 : Nat → Nat → Int32) (H : Heap) (locs : List Loc) (ls : Array Slot), (0 ≤ x3_lp14023.toInt) → (2147483648 - x3_lp14023.toInt ≤ (n : Int)) → (∀ k, k ∉ ([] : List Nat) → v_lp14023 k = v k) → IM v_lp14023 F_lp14023 → (∀ k, k ∉ ([30, 31] : List Nat) → F_lp14023 k = F k) → va_P (dC, dI) classes (wM g c v_lp14023 F_lp14023 rc) H → va_S (AM g s.heap.size) s.heap H locs → lv_has ls 5 [(3, .int x3_lp14023), (0, .ref (g 0)), (1, .int p0), (2, .int p1)] → W p l e (headSpec (Cond.code yX12_groundedBy cX12_groundedBy 5 (some .int) :: wA) ({ frames := 5, cells := 0, slots := 0, locals := 200 })).room s m ([.ref (g 0), .int p0, .int p1] : List Value).toArray below meth c0 H locs 0 0 (MQ below (va_Qi (fun (r : Int32) (u : StM) => IM u.1 u.2.1 ∧ u.2.2 = rc ∧ (∀ k, k ∉ ([] : List Nat) → u.1 k = v k) ∧ (∀ k, k ∉ ([30, 31] : List Nat) → u.2.1 k = F k) ∧ True) (BM dC dI g c) (AM g s.heap.size)) ([.ref (g 0), .int p0, .int p1] : List Value).toArray s 0 0 (AM g s.heap.size)) (F0 m 2 ls []) := by
    intro n
    induction n with
    | zero =>
      intro x3_lp14023 v_lp14023 F_lp14023 H locs ls t14024 hm hf_lp14023 hI hF hP hS hl
      exfalso
      have := i32_rng x3_lp14023
      have hI1 := hI.1
      omega
    | succ n ih_lp14023 =>
      intro x3_lp14023 v_lp14023 F_lp14023 H locs ls t14024 hm hf_lp14023 hI hF hP hS hl
      have rx3_lp14023 := i32_rng x3_lp14023
      refine lv_iload_n hx hb dX12_groundedBy_2 rfl (lv_at hl 0 rfl) ?_
      refine lv_aload_n hx hb dX12_groundedBy_3 rfl (lv_at hl 1 rfl) ?_
      refine va_get (D := (dC, dI)) (ci := 12) (v := .int (v_lp14023 2)) (C := RX12) (T := TX12) (N := 63) hx hb hwd inA_X12 hown hK hP 0 rfl rfl 2 (by decide) (hwd _ wk_251) (fun _ h9 => h9) rfl dX12_groundedBy_4 ?_
      refine my_top (v := v 2) (hf_lp14023 2 (by decide)) ?_
      have t14025 : 0 ≤ (v 2).toInt ∧ (v 2).toInt ≤ 10 := by have h9 := hI.1 2 _ _ rfl; rw [show v_lp14023 2 = v 2 from hf_lp14023 2 (by decide)] at h9; exact h9
      refine lv_icmp_ge (tgt := 38) hx hb dX12_groundedBy_7 (by decide) (fun c14026 => ?_) (fun c14026 => ?_)
      · skip
        have t14027 := cv_le (a := (v 2).toInt) rfl (b := x3_lp14023.toInt) rfl c14026
        refine lv_iconst (v := 0) hx hb dX12_groundedBy_38 (by decide) ?_
        refine lv_istore_n (lv' := [(3, .int 0), (0, .ref (g 0)), (1, .int p0), (2, .int p1)]) hx hb dX12_groundedBy_39 rfl hl (by decide) rfl (fun ls hl => ?_)
        have lp14028 : ∀ (n : Nat) (x3_lp14028 : Int32) (v_lp14028 : Nat → Int32) (F_lp14028 : Nat → Nat → Int32) (H : Heap) (locs : List Loc) (ls : Array Slot), (0 ≤ x3_lp14028.toInt) → (2147483648 - x3_lp14028.toInt ≤ (n : Int)) → (∀ k, k ∉ ([] : List Nat) → v_lp14028 k = v_lp14023 k) → IM v_lp14028 F_lp14028 → (∀ k, k ∉ ([30, 31] : List Nat) → F_lp14028 k = F k) → va_P (dC, dI) classes (wM g c v_lp14028 F_lp14028 rc) H → va_S (AM g s.heap.size) s.heap H locs → lv_has ls 5 [(3, .int x3_lp14028), (0, .ref (g 0)), (1, .int p0), (2, .int p1)] → W p l e (headSpec (Cond.code yX12_groundedBy cX12_groundedBy 5 (some .int) :: wA) ({ frames := 5, cells := 0, slots := 0, locals := 200 })).room s m ([.ref (g 0), .int p0, .int p1] : List Value).toArray below meth c0 H locs 0 0 (MQ below (va_Qi (fun (r : Int32) (u : StM) => IM u.1 u.2.1 ∧ u.2.2 = rc ∧ (∀ k, k ∉ ([] : List Nat) → u.1 k = v k) ∧ (∀ k, k ∉ ([30, 31] : List Nat) → u.2.1 k = F k) ∧ True) (BM dC dI g c) (AM g s.heap.size)) ([.ref (g 0), .int p0, .int p1] : List Value).toArray s 0 0 (AM g s.heap.size)) (F0 m 40 ls []) := by
          intro n
          induction n with
          | zero =>
            intro x3_lp14028 v_lp14028 F_lp14028 H locs ls t14029 hm hf_lp14028 hI hF hP hS hl
            exfalso
            have := i32_rng x3_lp14028
            have hI1 := hI.1
            omega
          | succ n ih_lp14028 =>
            intro x3_lp14028 v_lp14028 F_lp14028 H locs ls t14029 hm hf_lp14028 hI hF hP hS hl
            have rx3_lp14028 := i32_rng x3_lp14028
            refine lv_iload_n hx hb dX12_groundedBy_40 rfl (lv_at hl 0 rfl) ?_
            refine lv_aload_n hx hb dX12_groundedBy_41 rfl (lv_at hl 1 rfl) ?_
            refine va_get (D := (dC, dI)) (ci := 12) (v := .int (v_lp14028 14)) (C := RX12) (T := TX12) (N := 63) hx hb hwd inA_X12 hown hK hP 0 rfl rfl 14 (by decide) (hwd _ wk_318) (fun _ h9 => h9) rfl dX12_groundedBy_42 ?_
            refine my_top (v := v 14) ((hf_lp14028 14 (by decide)).trans (hf_lp14023 14 (by decide))) ?_
            have t14030 : 0 ≤ (v 14).toInt ∧ (v 14).toInt ≤ 100 := by have h9 := hI.1 14 _ _ rfl; rw [show v_lp14028 14 = v 14 from (hf_lp14028 14 (by decide)).trans (hf_lp14023 14 (by decide))] at h9; exact h9
            refine lv_icmp_ge (tgt := 102) hx hb dX12_groundedBy_45 (by decide) (fun c14031 => ?_) (fun c14031 => ?_)
            · skip
              have t14032 := cv_le (a := (v 14).toInt) rfl (b := x3_lp14028.toInt) rfl c14031
              refine lv_iconst (v := 0) hx hb dX12_groundedBy_102 (by decide) ?_
              refine lv_istore_n (lv' := [(3, .int 0), (0, .ref (g 0)), (1, .int p0), (2, .int p1)]) hx hb dX12_groundedBy_103 rfl hl (by decide) rfl (fun ls hl => ?_)
              have lp14033 : ∀ (n : Nat) (x3_lp14033 : Int32) (v_lp14033 : Nat → Int32) (F_lp14033 : Nat → Nat → Int32) (H : Heap) (locs : List Loc) (ls : Array Slot), (0 ≤ x3_lp14033.toInt) → (2147483648 - x3_lp14033.toInt ≤ (n : Int)) → (∀ k, k ∉ ([] : List Nat) → v_lp14033 k = v_lp14028 k) → IM v_lp14033 F_lp14033 → (∀ k, k ∉ ([30, 31] : List Nat) → F_lp14033 k = F k) → va_P (dC, dI) classes (wM g c v_lp14033 F_lp14033 rc) H → va_S (AM g s.heap.size) s.heap H locs → lv_has ls 5 [(3, .int x3_lp14033), (0, .ref (g 0)), (1, .int p0), (2, .int p1)] → W p l e (headSpec (Cond.code yX12_groundedBy cX12_groundedBy 5 (some .int) :: wA) ({ frames := 5, cells := 0, slots := 0, locals := 200 })).room s m ([.ref (g 0), .int p0, .int p1] : List Value).toArray below meth c0 H locs 0 0 (MQ below (va_Qi (fun (r : Int32) (u : StM) => IM u.1 u.2.1 ∧ u.2.2 = rc ∧ (∀ k, k ∉ ([] : List Nat) → u.1 k = v k) ∧ (∀ k, k ∉ ([30, 31] : List Nat) → u.2.1 k = F k) ∧ True) (BM dC dI g c) (AM g s.heap.size)) ([.ref (g 0), .int p0, .int p1] : List Value).toArray s 0 0 (AM g s.heap.size)) (F0 m 104 ls []) := by
                intro n
                induction n with
                | zero =>
                  intro x3_lp14033 v_lp14033 F_lp14033 H locs ls t14034 hm hf_lp14033 hI hF hP hS hl
                  exfalso
                  have := i32_rng x3_lp14033
                  have hI1 := hI.1
                  omega
                | succ n ih_lp14033 =>
                  intro x3_lp14033 v_lp14033 F_lp14033 H locs ls t14034 hm hf_lp14033 hI hF hP hS hl
                  have rx3_lp14033 := i32_rng x3_lp14033
                  refine lv_iload_n hx hb dX12_groundedBy_104 rfl (lv_at hl 0 rfl) ?_
                  refine lv_aload_n hx hb dX12_groundedBy_105 rfl (lv_at hl 1 rfl) ?_
                  refine va_get (D := (dC, dI)) (ci := 12) (v := .int (v_lp14033 45)) (C := RX12) (T := TX12) (N := 63) hx hb hwd inA_X12 hown hK hP 0 rfl rfl 45 (by decide) (hwd _ wk_485) (fun _ h9 => h9) rfl dX12_groundedBy_106 ?_
                  refine my_top (v := v 45) ((hf_lp14033 45 (by decide)).trans ((hf_lp14028 45 (by decide)).trans (hf_lp14023 45 (by decide)))) ?_
                  have t14035 : 0 ≤ (v 45).toInt ∧ (v 45).toInt ≤ 20 := by have h9 := hI.1 45 _ _ rfl; rw [show v_lp14033 45 = v 45 from (hf_lp14033 45 (by decide)).trans ((hf_lp14028 45 (by decide)).trans (hf_lp14023 45 (by decide)))] at h9; exact h9
                  refine lv_icmp_ge (tgt := 156) hx hb dX12_groundedBy_109 (by decide) (fun c14036 => ?_) (fun c14036 => ?_)
                  · skip
                    have t14037 := cv_le (a := (v 45).toInt) rfl (b := x3_lp14033.toInt) rfl c14036
                    refine lv_iconst (v := 0) hx hb dX12_groundedBy_156 (by decide) ?_
                    have hP9 : va_P (dC, dI) classes (wM g c v_lp14033 F_lp14033 rc) H := hP
                    exact W.iret (v := 0) hx hb hr (fun t ht hW => ⟨⟨0, (v_lp14033, F_lp14033, rc), rfl, ⟨hI, rfl, (frC (by decide) hf_lp14033 (frC (by decide) hf_lp14028 (frC (by decide) hf_lp14023 (fun _ _ => rfl)))), hF, trivial⟩, (by show va_P _ _ _ t.heap; rw [ht]; exact hP9)⟩, hS.F ht⟩) hS.2.2 dX12_groundedBy_157
                  · skip
                    have t14038 := cv_nle (a := (v 45).toInt) rfl (b := x3_lp14033.toInt) rfl c14036
                    refine lv_aload_n hx hb dX12_groundedBy_112 rfl (lv_at hl 1 rfl) ?_
                    refine lv_iload_n hx hb dX12_groundedBy_113 rfl (lv_at hl 0 rfl) ?_
                    refine lv_iload_n hx hb dX12_groundedBy_114 rfl (lv_at hl 2 rfl) ?_
                    refine va_calli (va_runV (As := [.int x3_lp14033, .int p0]) (rest := []) ⟨hx, hb, hml, hown, hwd⟩ (c_X12_asks l dC dI g c adK adV v_lp14033 F_lp14033 rc H.size x3_lp14033 p0 hg hI (by omega) (by omega)) (cwV 2 hwd (gV wk_520 wk_517 wk_518 wk_519 wk_5) rfl rfl rfl (by decide +kernel) ⟨Nat.le_of_ble_eq_true rfl, Nat.le_of_ble_eq_true rfl⟩) ⟨PM.blind, va_recv hK hP (ci := 12) (q0 := 0) rfl rfl, fun U hU hW => ⟨rfl, PM.at hK hE hP hS hU hW⟩⟩ rfl rfl hl.1 rfl (lv_room (Nat.le_of_ble_eq_true rfl)) dX12_groundedBy_115 ⟨Nat.le_of_ble_eq_true rfl, Nat.le_of_ble_eq_true rfl⟩) hS (fun q _ h => (freeM hS) q h) (freeM hS) (fun r14039 u t H1 locs ht hvm hw hB hz1 hk1 hS => ?_)
                    unfold BM at hB
                    rw [ht] at hB
                    have hP : va_P (dC, dI) classes (wM g c v_lp14033 F_lp14033 rc) H1 := hB
                    have hw_r14039 : 0 ≤ r14039.toInt ∧ r14039.toInt ≤ 1 := hw
                    clear hw
                    clear hz1
                    generalize H1 = H at hP hS ⊢
                    refine lv_if_eq (tgt := 150) hx hb dX12_groundedBy_118 (by decide) (fun c14040 => ?_) (fun c14040 => ?_)
                    · skip
                      have t14041 := cv_eq (a := r14039.toInt) rfl (b := 0) (by decide) c14040
                      obtain ⟨z14042, e14043⟩ : ∃ y : Int32, y = x3_lp14033 + 1 := ⟨_, rfl⟩
                      try (have t14044 := tadd e14043 rfl (b := 1) (by decide) (by omega))
                      refine lv_iinc (v := z14042) (lv' := [(3, .int z14042), (0, .ref (g 0)), (1, .int p0), (2, .int p1)]) hx hb dX12_groundedBy_150 hl (k := 0) rfl (by rw [e14043]; rfl) (by decide) rfl (fun ls hl => ?_)
                      refine lv_goto (tgt := 104) hx hb dX12_groundedBy_153 (by decide) ?_
                      exact ih_lp14033 z14042 v_lp14033 F_lp14033 _ _ _ (by omega) (by omega) hf_lp14033 hI hF hP hS (lv_sub hl [0, 1, 2, 3] rfl)
                    · skip
                      have t14045 := cv_ne (a := r14039.toInt) rfl (b := 0) (by decide) c14040
                      refine lv_aload_n hx hb dX12_groundedBy_121 rfl (lv_at hl 1 rfl) ?_
                      refine va_get (D := (dC, dI)) (ci := 12) (v := .ref (g 34)) (C := RX12) (T := TX12) (N := 63) hx hb hwd inA_X12 hown hK hP 0 rfl rfl 48 (by decide) (hwd _ wk_216) (fun _ h9 => h9) rfl dX12_groundedBy_122 ?_
                      refine lv_bipush (v := 10) hx hb dX12_groundedBy_125 (by decide) ?_
                      refine lv_iload_n hx hb dX12_groundedBy_127 rfl (lv_at hl 0 rfl) ?_
                      refine lv_imul hx hb dX12_groundedBy_128 ?_
                      refine lv_topi (fun z14046 e14047 => ?_)
                      try (have t14048 := tmul e14047 (a := 10) (by decide) (b := x3_lp14033.toInt) rfl (by omega))
                      refine lv_iload_n hx hb dX12_groundedBy_129 rfl (lv_at hl 2 rfl) ?_
                      refine lv_iadd hx hb dX12_groundedBy_130 ?_
                      refine lv_topi (fun z14049 e14050 => ?_)
                      try (have t14051 := tadd e14050 (a := z14046.toInt) rfl (b := p0.toInt) rfl (by omega))
                      refine va_zald hx hb hK hP 34 33 rfl rfl (i := z14049) (vin (a := z14049.toInt) rfl (by omega)) dX12_groundedBy_131 ?_
                      refine lv_topi (fun z14052 e14053 => ?_)
                      have e14053 : z14052 = F 34 (z14049 : Int32).toNatClampNeg := e14053.trans (congrFun (hF 34 (by decide)) _)
                      refine lv_if_ne (tgt := 150) hx hb dX12_groundedBy_132 (by decide) (fun c14054 => ?_) (fun c14054 => ?_)
                      · skip
                        have t14055 := cv_ne (a := z14052.toInt) rfl (b := 0) (by decide) c14054
                        obtain ⟨z14056, e14057⟩ : ∃ y : Int32, y = x3_lp14033 + 1 := ⟨_, rfl⟩
                        try (have t14058 := tadd e14057 rfl (b := 1) (by decide) (by omega))
                        refine lv_iinc (v := z14056) (lv' := [(3, .int z14056), (0, .ref (g 0)), (1, .int p0), (2, .int p1)]) hx hb dX12_groundedBy_150 hl (k := 0) rfl (by rw [e14057]; rfl) (by decide) rfl (fun ls hl => ?_)
                        refine lv_goto (tgt := 104) hx hb dX12_groundedBy_153 (by decide) ?_
                        exact ih_lp14033 z14056 v_lp14033 F_lp14033 _ _ _ (by omega) (by omega) hf_lp14033 hI hF hP hS (lv_sub hl [0, 1, 2, 3] rfl)
                      · skip
                        have t14059 := cv_eq (a := z14052.toInt) rfl (b := 0) (by decide) c14054
                        refine lv_aload_n hx hb dX12_groundedBy_135 rfl (lv_at hl 1 rfl) ?_
                        refine va_get (D := (dC, dI)) (ci := 12) (v := .ref (g 33)) (C := RX12) (T := TX12) (N := 63) hx hb hwd inA_X12 hown hK hP 0 rfl rfl 47 (by decide) (hwd _ wk_215) (fun _ h9 => h9) rfl dX12_groundedBy_136 ?_
                        refine lv_iload_n hx hb dX12_groundedBy_139 rfl (lv_at hl 0 rfl) ?_
                        refine va_iald hx hb hK hP 33 32 rfl rfl (i := x3_lp14033) (vin (a := x3_lp14033.toInt) rfl (by omega)) dX12_groundedBy_140 ?_
                        refine lv_topi (fun z14060 e14061 => ?_)
                        have e14061 : z14060 = F 33 (x3_lp14033 : Int32).toNatClampNeg := e14061.trans (congrFun (hF 33 (by decide)) _)
                        refine lv_aload_n hx hb dX12_groundedBy_141 rfl (lv_at hl 1 rfl) ?_
                        refine va_get (D := (dC, dI)) (ci := 12) (v := .int (v_lp14033 1)) (C := RX12) (T := TX12) (N := 63) hx hb hwd inA_X12 hown hK hP 0 rfl rfl 1 (by decide) (hwd _ wk_332) (fun _ h9 => h9) rfl dX12_groundedBy_142 ?_
                        refine my_top (v := v 1) ((hf_lp14033 1 (by decide)).trans ((hf_lp14028 1 (by decide)).trans (hf_lp14023 1 (by decide)))) ?_
                        have t14062 : 0 ≤ (v 1).toInt ∧ (v 1).toInt ≤ 9999 := by have h9 := hI.1 1 _ _ rfl; rw [show v_lp14033 1 = v 1 from (hf_lp14033 1 (by decide)).trans ((hf_lp14028 1 (by decide)).trans (hf_lp14023 1 (by decide)))] at h9; exact h9
                        refine lv_icmp_ge (tgt := 150) hx hb dX12_groundedBy_145 (by decide) (fun c14063 => ?_) (fun c14063 => ?_)
                        · skip
                          have t14064 := cv_le (a := (v 1).toInt) rfl (b := z14060.toInt) rfl c14063
                          obtain ⟨z14065, e14066⟩ : ∃ y : Int32, y = x3_lp14033 + 1 := ⟨_, rfl⟩
                          try (have t14067 := tadd e14066 rfl (b := 1) (by decide) (by omega))
                          refine lv_iinc (v := z14065) (lv' := [(3, .int z14065), (0, .ref (g 0)), (1, .int p0), (2, .int p1)]) hx hb dX12_groundedBy_150 hl (k := 0) rfl (by rw [e14066]; rfl) (by decide) rfl (fun ls hl => ?_)
                          refine lv_goto (tgt := 104) hx hb dX12_groundedBy_153 (by decide) ?_
                          exact ih_lp14033 z14065 v_lp14033 F_lp14033 _ _ _ (by omega) (by omega) hf_lp14033 hI hF hP hS (lv_sub hl [0, 1, 2, 3] rfl)
                        · skip
                          have t14068 := cv_nle (a := (v 1).toInt) rfl (b := z14060.toInt) rfl c14063
                          refine lv_iconst (v := 3) hx hb dX12_groundedBy_148 (by decide) ?_
                          have hP9 : va_P (dC, dI) classes (wM g c v_lp14033 F_lp14033 rc) H := hP
                          exact W.iret (v := 3) hx hb hr (fun t ht hW => ⟨⟨3, (v_lp14033, F_lp14033, rc), rfl, ⟨hI, rfl, (frC (by decide) hf_lp14033 (frC (by decide) hf_lp14028 (frC (by decide) hf_lp14023 (fun _ _ => rfl)))), hF, trivial⟩, (by show va_P _ _ _ t.heap; rw [ht]; exact hP9)⟩, hS.F ht⟩) hS.2.2 dX12_groundedBy_149
              obtain ⟨n9, hn9⟩ : ∃ n : Nat, 2147483648 - 0 ≤ (n : Int) := ⟨((2147483648 - 0 : Int)).toNat, by omega⟩
              exact lp14033 n9 0 v_lp14028 F_lp14028 H _ ls (by have : (0 : Int32).toInt = 0 := (by decide); omega) (by have : (0 : Int32).toInt = 0 := (by decide); omega) (fun _ _ => rfl) hI hF hP hS hl
            · skip
              have t14069 := cv_nle (a := (v 14).toInt) rfl (b := x3_lp14028.toInt) rfl c14031
              refine lv_iconst (v := 0) hx hb dX12_groundedBy_48 (by decide) ?_
              refine lv_istore (lv' := [(4, .int 0), (3, .int x3_lp14028), (0, .ref (g 0)), (1, .int p0), (2, .int p1)]) hx hb dX12_groundedBy_49 hl (by decide) rfl (fun ls hl => ?_)
              have lp14070 : ∀ (n : Nat) (x4_lp14070 : Int32) (v_lp14070 : Nat → Int32) (F_lp14070 : Nat → Nat → Int32) (H : Heap) (locs : List Loc) (ls : Array Slot), (0 ≤ x4_lp14070.toInt) → (2147483648 - x4_lp14070.toInt ≤ (n : Int)) → (∀ k, k ∉ ([] : List Nat) → v_lp14070 k = v_lp14028 k) → IM v_lp14070 F_lp14070 → (∀ k, k ∉ ([30, 31] : List Nat) → F_lp14070 k = F k) → va_P (dC, dI) classes (wM g c v_lp14070 F_lp14070 rc) H → va_S (AM g s.heap.size) s.heap H locs → lv_has ls 5 [(4, .int x4_lp14070), (3, .int x3_lp14028), (0, .ref (g 0)), (1, .int p0), (2, .int p1)] → W p l e (headSpec (Cond.code yX12_groundedBy cX12_groundedBy 5 (some .int) :: wA) ({ frames := 5, cells := 0, slots := 0, locals := 200 })).room s m ([.ref (g 0), .int p0, .int p1] : List Value).toArray below meth c0 H locs 0 0 (MQ below (va_Qi (fun (r : Int32) (u : StM) => IM u.1 u.2.1 ∧ u.2.2 = rc ∧ (∀ k, k ∉ ([] : List Nat) → u.1 k = v k) ∧ (∀ k, k ∉ ([30, 31] : List Nat) → u.2.1 k = F k) ∧ True) (BM dC dI g c) (AM g s.heap.size)) ([.ref (g 0), .int p0, .int p1] : List Value).toArray s 0 0 (AM g s.heap.size)) (F0 m 51 ls []) := by
                intro n
                induction n with
                | zero =>
                  intro x4_lp14070 v_lp14070 F_lp14070 H locs ls t14071 hm hf_lp14070 hI hF hP hS hl
                  exfalso
                  have := i32_rng x4_lp14070
                  have hI1 := hI.1
                  omega
                | succ n ih_lp14070 =>
                  intro x4_lp14070 v_lp14070 F_lp14070 H locs ls t14071 hm hf_lp14070 hI hF hP hS hl
                  have rx4_lp14070 := i32_rng x4_lp14070
                  refine lv_iload hx hb dX12_groundedBy_51 (lv_at hl 0 rfl) ?_
                  refine lv_iconst (v := 3) hx hb dX12_groundedBy_53 (by decide) ?_
                  refine lv_icmp_ge (tgt := 96) hx hb dX12_groundedBy_54 (by decide) (fun c14072 => ?_) (fun c14072 => ?_)
                  · skip
                    have t14073 := cv_le (a := 3) (by decide) (b := x4_lp14070.toInt) rfl c14072
                    obtain ⟨z14074, e14075⟩ : ∃ y : Int32, y = x3_lp14028 + 1 := ⟨_, rfl⟩
                    try (have t14076 := tadd e14075 rfl (b := 1) (by decide) (by omega))
                    refine lv_iinc (v := z14074) (lv' := [(3, .int z14074), (4, .int x4_lp14070), (0, .ref (g 0)), (1, .int p0), (2, .int p1)]) hx hb dX12_groundedBy_96 hl (k := 1) rfl (by rw [e14075]; rfl) (by decide) rfl (fun ls hl => ?_)
                    refine lv_goto (tgt := 40) hx hb dX12_groundedBy_99 (by decide) ?_
                    exact ih_lp14028 z14074 v_lp14070 F_lp14070 _ _ _ (by omega) (by omega) (frC (by decide) hf_lp14070 hf_lp14028) hI hF hP hS (lv_sub hl [0, 2, 3, 4] rfl)
                  · skip
                    have t14077 := cv_nle (a := 3) (by decide) (b := x4_lp14070.toInt) rfl c14072
                    refine lv_aload_n hx hb dX12_groundedBy_57 rfl (lv_at hl 2 rfl) ?_
                    refine va_get (D := (dC, dI)) (ci := 12) (v := .ref (g 13)) (C := RX12) (T := TX12) (N := 63) hx hb hwd inA_X12 hown hK hP 0 rfl rfl 17 (by decide) (hwd _ wk_194) (fun _ h9 => h9) rfl dX12_groundedBy_58 ?_
                    refine lv_iload_n hx hb dX12_groundedBy_61 rfl (lv_at hl 1 rfl) ?_
                    refine va_iald hx hb hK hP 13 12 rfl rfl (i := x3_lp14028) (vin (a := x3_lp14028.toInt) rfl (by omega)) dX12_groundedBy_62 ?_
                    refine lv_topi (fun z14078 e14079 => ?_)
                    have t14080 : 0 ≤ z14078.toInt ∧ z14078.toInt ≤ 12 := by rw [e14079]; exact hI.2 13 _ _ rfl _
                    have e14079 : z14078 = F 13 (x3_lp14028 : Int32).toNatClampNeg := e14079.trans (congrFun (hF 13 (by decide)) _)
                    refine lv_iload_n hx hb dX12_groundedBy_63 rfl (lv_at hl 3 rfl) ?_
                    refine lv_icmp_ne (tgt := 90) hx hb dX12_groundedBy_64 (by decide) (fun c14081 => ?_) (fun c14081 => ?_)
                    · skip
                      have t14082 := cv_ne (a := z14078.toInt) rfl (b := p0.toInt) rfl c14081
                      obtain ⟨z14083, e14084⟩ : ∃ y : Int32, y = x4_lp14070 + 1 := ⟨_, rfl⟩
                      try (have t14085 := tadd e14084 rfl (b := 1) (by decide) (by omega))
                      refine lv_iinc (v := z14083) (lv' := [(4, .int z14083), (3, .int x3_lp14028), (0, .ref (g 0)), (1, .int p0), (2, .int p1)]) hx hb dX12_groundedBy_90 hl (k := 0) rfl (by rw [e14084]; rfl) (by decide) rfl (fun ls hl => ?_)
                      refine lv_goto (tgt := 51) hx hb dX12_groundedBy_93 (by decide) ?_
                      exact ih_lp14070 z14083 v_lp14070 F_lp14070 _ _ _ (by omega) (by omega) hf_lp14070 hI hF hP hS (lv_sub hl [0, 1, 2, 3, 4] rfl)
                    · skip
                      have t14086 := cv_eq (a := z14078.toInt) rfl (b := p0.toInt) rfl c14081
                      refine lv_aload_n hx hb dX12_groundedBy_67 rfl (lv_at hl 2 rfl) ?_
                      refine lv_iload_n hx hb dX12_groundedBy_68 rfl (lv_at hl 1 rfl) ?_
                      refine lv_iload hx hb dX12_groundedBy_69 (lv_at hl 0 rfl) ?_
                      refine va_calli (va_runV (As := [.int x3_lp14028, .int x4_lp14070]) (rest := []) ⟨hx, hb, hml, hown, hwd⟩ (c_X12_limitOf l dC dI g c adK adV v_lp14070 F_lp14070 rc H.size x3_lp14028 x4_lp14070 hg hI (by omega) (by omega)) (cwV 2 hwd (gV wk_489 wk_486 wk_487 wk_488 wk_5) rfl rfl rfl (by decide +kernel) ⟨Nat.le_of_ble_eq_true rfl, Nat.le_of_ble_eq_true rfl⟩) ⟨PM.blind, va_recv hK hP (ci := 12) (q0 := 0) rfl rfl, fun U hU hW => ⟨rfl, PM.at hK hE hP hS hU hW⟩⟩ rfl rfl hl.1 rfl (lv_room (Nat.le_of_ble_eq_true rfl)) dX12_groundedBy_71 ⟨Nat.le_of_ble_eq_true rfl, Nat.le_of_ble_eq_true rfl⟩) hS (fun q _ h => (freeM hS) q h) (freeM hS) (fun r14087 u t H1 locs ht hvm hw hB hz1 hk1 hS => ?_)
                      unfold BM at hB
                      rw [ht] at hB
                      have hP : va_P (dC, dI) classes (wM g c v_lp14070 F_lp14070 rc) H1 := hB
                      replace hw : r14087.toInt = (F_lp14070 1 (limJ (F_lp14070 11) x3_lp14028 x4_lp14070)).toInt := hw
                      rw [hF 1 (by decide)] at hw
                      rw [hF 11 (by decide)] at hw
                      have hw_r14087 := hw
                      clear hw
                      clear hz1
                      generalize H1 = H at hP hS ⊢
                      refine lv_if_le (tgt := 90) hx hb dX12_groundedBy_74 (by decide) (fun c14088 => ?_) (fun c14088 => ?_)
                      · skip
                        have t14089 := cv_le (a := r14087.toInt) rfl (b := 0) (by decide) c14088
                        obtain ⟨z14090, e14091⟩ : ∃ y : Int32, y = x4_lp14070 + 1 := ⟨_, rfl⟩
                        try (have t14092 := tadd e14091 rfl (b := 1) (by decide) (by omega))
                        refine lv_iinc (v := z14090) (lv' := [(4, .int z14090), (3, .int x3_lp14028), (0, .ref (g 0)), (1, .int p0), (2, .int p1)]) hx hb dX12_groundedBy_90 hl (k := 0) rfl (by rw [e14091]; rfl) (by decide) rfl (fun ls hl => ?_)
                        refine lv_goto (tgt := 51) hx hb dX12_groundedBy_93 (by decide) ?_
                        exact ih_lp14070 z14090 v_lp14070 F_lp14070 _ _ _ (by omega) (by omega) hf_lp14070 hI hF hP hS (lv_sub hl [0, 1, 2, 3, 4] rfl)
                      · skip
                        have t14093 := cv_nle (a := r14087.toInt) rfl (b := 0) (by decide) c14088
                        refine lv_aload_n hx hb dX12_groundedBy_77 rfl (lv_at hl 2 rfl) ?_
                        refine lv_iload_n hx hb dX12_groundedBy_78 rfl (lv_at hl 1 rfl) ?_
                        refine lv_iload hx hb dX12_groundedBy_79 (lv_at hl 0 rfl) ?_
                        refine lv_iload_n hx hb dX12_groundedBy_81 rfl (lv_at hl 4 rfl) ?_
                        refine va_calli (va_runV (As := [.int x3_lp14028, .int x4_lp14070, .int p1]) (rest := []) ⟨hx, hb, hml, hown, hwd⟩ (c_X12_leftOf l dC dI g c adK adV v_lp14070 F_lp14070 rc H.size x3_lp14028 x4_lp14070 p1 hg hI (by omega) (by omega) (JL.to hL (show v_lp14070 31 = v 31 from (hf_lp14070 31 (by decide)).trans ((hf_lp14028 31 (by decide)).trans (hf_lp14023 31 (by decide)))) (hF 28 (by decide)) (hF 29 (by decide)) (hF 27 (by decide)))) (cwV 3 hwd (gV wk_493 wk_490 wk_491 wk_492 wk_5) rfl rfl rfl (by decide +kernel) ⟨Nat.le_of_ble_eq_true rfl, Nat.le_of_ble_eq_true rfl⟩) ⟨PM.blind, va_recv hK hP (ci := 12) (q0 := 0) rfl rfl, fun U hU hW => ⟨rfl, PM.at hK hE hP hS hU hW⟩⟩ rfl rfl hl.1 rfl (lv_room (Nat.le_of_ble_eq_true rfl)) dX12_groundedBy_82 ⟨Nat.le_of_ble_eq_true rfl, Nat.le_of_ble_eq_true rfl⟩) hS (fun q _ h => (freeM hS) q h) (freeM hS) (fun r14094 u t H1 locs ht hvm hw hB hz1 hk1 hS => ?_)
                        unfold BM at hB
                        rw [ht] at hB
                        obtain ⟨v14095, F14096, rc9⟩ := u
                        obtain ⟨hI, hrc, hf14097, hG14098, hw⟩ := hw
                        dsimp only at hI hrc hB hf14097 hG14098 hw
                        have hF := frCF (by decide) hG14098 hF
                        rw [hrc] at hB
                        have hP : va_P (dC, dI) classes (wM g c v14095 F14096 rc) H1 := hB
                        clear hz1
                        generalize H1 = H at hP hS ⊢
                        have rr_r14094 := i32_rng r14094
                        refine lv_if_ge (tgt := 90) hx hb dX12_groundedBy_85 (by decide) (fun c14099 => ?_) (fun c14099 => ?_)
                        · skip
                          have t14100 := cv_le (a := 0) (by decide) (b := r14094.toInt) rfl c14099
                          obtain ⟨z14101, e14102⟩ : ∃ y : Int32, y = x4_lp14070 + 1 := ⟨_, rfl⟩
                          try (have t14103 := tadd e14102 rfl (b := 1) (by decide) (by omega))
                          refine lv_iinc (v := z14101) (lv' := [(4, .int z14101), (3, .int x3_lp14028), (0, .ref (g 0)), (1, .int p0), (2, .int p1)]) hx hb dX12_groundedBy_90 hl (k := 0) rfl (by rw [e14102]; rfl) (by decide) rfl (fun ls hl => ?_)
                          refine lv_goto (tgt := 51) hx hb dX12_groundedBy_93 (by decide) ?_
                          exact ih_lp14070 z14101 v14095 F14096 _ _ _ (by omega) (by omega) (frC (by decide) hf14097 hf_lp14070) hI hF hP hS (lv_sub hl [0, 1, 2, 3, 4] rfl)
                        · skip
                          have t14104 := cv_nle (a := 0) (by decide) (b := r14094.toInt) rfl c14099
                          refine lv_iconst (v := 2) hx hb dX12_groundedBy_88 (by decide) ?_
                          have hP9 : va_P (dC, dI) classes (wM g c v14095 F14096 rc) H := hP
                          exact W.iret (v := 2) hx hb hr (fun t ht hW => ⟨⟨2, (v14095, F14096, rc), rfl, ⟨hI, rfl, (frC (by decide) hf14097 (frC (by decide) hf_lp14070 (frC (by decide) hf_lp14028 (frC (by decide) hf_lp14023 (fun _ _ => rfl))))), hF, trivial⟩, (by show va_P _ _ _ t.heap; rw [ht]; exact hP9)⟩, hS.F ht⟩) hS.2.2 dX12_groundedBy_89
              obtain ⟨n9, hn9⟩ : ∃ n : Nat, 2147483648 - 0 ≤ (n : Int) := ⟨((2147483648 - 0 : Int)).toNat, by omega⟩
              exact lp14070 n9 0 v_lp14028 F_lp14028 H _ ls (by have : (0 : Int32).toInt = 0 := (by decide); omega) (by have : (0 : Int32).toInt = 0 := (by decide); omega) (fun _ _ => rfl) hI hF hP hS hl
        obtain ⟨n9, hn9⟩ : ∃ n : Nat, 2147483648 - 0 ≤ (n : Int) := ⟨((2147483648 - 0 : Int)).toNat, by omega⟩
        exact lp14028 n9 0 v_lp14023 F_lp14023 H _ ls (by have : (0 : Int32).toInt = 0 := (by decide); omega) (by have : (0 : Int32).toInt = 0 := (by decide); omega) (fun _ _ => rfl) hI hF hP hS hl
      · skip
        have t14105 := cv_nle (a := (v 2).toInt) rfl (b := x3_lp14023.toInt) rfl c14026
        refine lv_aload_n hx hb dX12_groundedBy_10 rfl (lv_at hl 1 rfl) ?_
        refine lv_iload_n hx hb dX12_groundedBy_11 rfl (lv_at hl 2 rfl) ?_
        refine lv_iload_n hx hb dX12_groundedBy_12 rfl (lv_at hl 0 rfl) ?_
        refine va_calli (va_runV (As := [.int p0, .int x3_lp14023]) (rest := []) ⟨hx, hb, hml, hown, hwd⟩ (c_X12_onIt l dC dI g c adK adV v_lp14023 F_lp14023 rc H.size p0 x3_lp14023 hg hI ) (cwV 2 hwd (gV wk_317 wk_314 wk_315 wk_316 wk_5) rfl rfl rfl (by decide +kernel) ⟨Nat.le_of_ble_eq_true rfl, Nat.le_of_ble_eq_true rfl⟩) ⟨PM.blind, va_recv hK hP (ci := 12) (q0 := 0) rfl rfl, fun U hU hW => ⟨rfl, PM.at hK hE hP hS hU hW⟩⟩ rfl rfl hl.1 rfl (lv_room (Nat.le_of_ble_eq_true rfl)) dX12_groundedBy_13 ⟨Nat.le_of_ble_eq_true rfl, Nat.le_of_ble_eq_true rfl⟩) hS (fun q _ h => (freeM hS) q h) (freeM hS) (fun r14106 u t H1 locs ht hvm hw hB hz1 hk1 hS => ?_)
        unfold BM at hB
        rw [ht] at hB
        have hP : va_P (dC, dI) classes (wM g c v_lp14023 F_lp14023 rc) H1 := hB
        clear hz1
        generalize H1 = H at hP hS ⊢
        have rr_r14106 := i32_rng r14106
        refine lv_aload_n hx hb dX12_groundedBy_16 rfl (lv_at hl 1 rfl) ?_
        refine va_get (D := (dC, dI)) (ci := 12) (v := .ref (g 9)) (C := RX12) (T := TX12) (N := 63) hx hb hwd inA_X12 hown hK hP 0 rfl rfl 12 (by decide) (hwd _ wk_190) (fun _ h9 => h9) rfl dX12_groundedBy_17 ?_
        refine lv_bipush (v := 10) hx hb dX12_groundedBy_20 (by decide) ?_
        refine lv_iload_n hx hb dX12_groundedBy_22 rfl (lv_at hl 2 rfl) ?_
        refine lv_imul hx hb dX12_groundedBy_23 ?_
        refine lv_topi (fun z14107 e14108 => ?_)
        try (have t14109 := tmul e14108 (a := 10) (by decide) (b := p0.toInt) rfl (by omega))
        refine lv_iload_n hx hb dX12_groundedBy_24 rfl (lv_at hl 0 rfl) ?_
        refine lv_iadd hx hb dX12_groundedBy_25 ?_
        refine lv_topi (fun z14110 e14111 => ?_)
        try (have t14112 := tadd e14111 (a := z14107.toInt) rfl (b := x3_lp14023.toInt) rfl (by omega))
        refine va_iald hx hb hK hP 9 8 rfl rfl (i := z14110) (vin (a := z14110.toInt) rfl (by omega)) dX12_groundedBy_26 ?_
        refine lv_topi (fun z14113 e14114 => ?_)
        have e14114 : z14113 = F 9 (z14110 : Int32).toNatClampNeg := e14114.trans (congrFun (hF 9 (by decide)) _)
        refine lv_icmp_ge (tgt := 32) hx hb dX12_groundedBy_27 (by decide) (fun c14115 => ?_) (fun c14115 => ?_)
        · skip
          have t14116 := cv_le (a := z14113.toInt) rfl (b := r14106.toInt) rfl c14115
          obtain ⟨z14117, e14118⟩ : ∃ y : Int32, y = x3_lp14023 + 1 := ⟨_, rfl⟩
          try (have t14119 := tadd e14118 rfl (b := 1) (by decide) (by omega))
          refine lv_iinc (v := z14117) (lv' := [(3, .int z14117), (0, .ref (g 0)), (1, .int p0), (2, .int p1)]) hx hb dX12_groundedBy_32 hl (k := 0) rfl (by rw [e14118]; rfl) (by decide) rfl (fun ls hl => ?_)
          refine lv_goto (tgt := 2) hx hb dX12_groundedBy_35 (by decide) ?_
          exact ih_lp14023 z14117 v_lp14023 F_lp14023 _ _ _ (by omega) (by omega) hf_lp14023 hI hF hP hS (lv_sub hl [0, 1, 2, 3] rfl)
        · skip
          have t14120 := cv_nle (a := z14113.toInt) rfl (b := r14106.toInt) rfl c14115
          refine lv_iconst (v := 1) hx hb dX12_groundedBy_30 (by decide) ?_
          have hP9 : va_P (dC, dI) classes (wM g c v_lp14023 F_lp14023 rc) H := hP
          exact W.iret (v := 1) hx hb hr (fun t ht hW => ⟨⟨1, (v_lp14023, F_lp14023, rc), rfl, ⟨hI, rfl, (frC (by decide) hf_lp14023 (fun _ _ => rfl)), hF, trivial⟩, (by show va_P _ _ _ t.heap; rw [ht]; exact hP9)⟩, hS.F ht⟩) hS.2.2 dX12_groundedBy_31
  obtain ⟨n9, hn9⟩ : ∃ n : Nat, 2147483648 - 0 ≤ (n : Int) := ⟨((2147483648 - 0 : Int)).toNat, by omega⟩
  exact lp14023 n9 0 v F H _ ls (by have : (0 : Int32).toInt = 0 := (by decide); omega) (by have : (0 : Int32).toInt = 0 := (by decide); omega) (fun _ _ => rfl) hI hF hP hS hl
set_option maxHeartbeats 8000000 in
set_option maxRecDepth 100000 in
theorem c_X12_grounded (l : Launch) (dC : Nat → ClassId) (dI : Nat → Nat → Nat) (g : Nat → Nat) (c : Nat → ClassId) (adK adV : Nat → Nat) (v : Nat → Int32) (F : Nat → Nat → Int32) (rc sz : Nat) (p0 : Int32) (p1 : Int32) (hg : injM g) (hI : IM v F) (hL : JL (v 31) (F 28) (F 29) (F 27)) : Met l yX12_grounded (Cond.code yX12_grounded cX12_grounded 3 (some .int) :: wA) ({ frames := 6, cells := 0, slots := 0, locals := 240 }) (va_Pc [.ref (g 0), .int p0, .int p1] (PM dC dI g c adK adV v F rc sz)) (va_Qi (fun (r : Int32) (u : StM) => IM u.1 u.2.1 ∧ u.2.2 = rc ∧ (∀ k, k ∉ ([] : List Nat) → u.1 k = v k) ∧ (∀ k, k ∉ ([30, 31] : List Nat) → u.2.1 k = F k) ∧ True) (BM dC dI g c) (AM g sz)) 0 0 (AM g sz) := by
  refine Met.ofW (cc := cX12_grounded) (maxL := 3) (ret := (some .int)) (by decide) rfl ?_
  intro p e s m args below meth c0 s₁ B hml hv
  obtain ⟨rfl, hsz, hP, hK, hE⟩ := hv
  have hx := B.exec
  have hb := B.bytes
  have hr := B.returns
  have hts := atoms_spec (ws := Cond.code yX12_grounded cX12_grounded 3 (some .int) :: wA) B.pre
  have hwd : ∀ w ∈ wA, w.before _ s = true := fun w h => hts w (List.mem_cons_of_mem _ h)
  have hown : s.vm.findClass RX12 = some m.cls := findClass_of_methodNamed B.named
  have hlocks := B.notSynchronized
  subst hsz
  have hl := lv_entry ([.ref (g 0), .int p0, .int p1]) (n := 3) (Nat.le_of_ble_eq_true rfl)
  rw [lg_entry_eq]
  generalize (lg_sl ([.ref (g 0), .int p0, .int p1]) ++ List.replicate (3 - (lg_sl ([.ref (g 0), .int p0, .int p1])).length) Slot.unset).toArray = ls at hl ⊢
  have hl : lv_has ls 3 [(0, .ref (g 0)), (1, .int p0), (2, .int p1)] := hl
  obtain ⟨H, eH⟩ : ∃ z, z = s.heap := ⟨_, rfl⟩
  have hP : va_P (dC, dI) classes (wM g c v F rc) H := by rw [eH]; exact hP
  have hS : va_S (AM g s.heap.size) s.heap H [] := by rw [eH]; exact va_S.rf
  refine my_heap eH ?_
  have hF : ∀ k, k ∉ ([30, 31] : List Nat) → F k = F k := fun _ _ => rfl
  have rp0 := i32_rng p0
  have rp1 := i32_rng p1
  have hb31 : 0 ≤ (v 31).toInt ∧ (v 31).toInt ≤ 10 := hI.1 31 _ _ rfl
  refine lv_aload_n hx hb dX12_grounded_0 rfl (lv_at hl 0 rfl) ?_
  refine lv_iload_n hx hb dX12_grounded_1 rfl (lv_at hl 1 rfl) ?_
  have t14135 : 0 ≤ (v 6).toInt ∧ (v 6).toInt ≤ 10 := hI.1 6 _ _ rfl
  refine va_calli (va_runV (As := [.int p0]) (rest := []) ⟨hx, hb, hml, hown, hwd⟩ (c_X12_isPlane l dC dI g c adK adV v F rc H.size p0 hg hI ) (cwV 1 hwd (gV wk_305 wk_302 wk_303 wk_304 wk_5) rfl rfl rfl (by decide +kernel) ⟨Nat.le_of_ble_eq_true rfl, Nat.le_of_ble_eq_true rfl⟩) ⟨PM.blind, va_recv hK hP (ci := 12) (q0 := 0) rfl rfl, fun U hU hW => ⟨rfl, PM.at hK hE hP hS hU hW⟩⟩ rfl rfl hl.1 rfl (lv_room (Nat.le_of_ble_eq_true rfl)) dX12_grounded_2 ⟨Nat.le_of_ble_eq_true rfl, Nat.le_of_ble_eq_true rfl⟩) hS (fun q _ h => (freeM hS) q h) (freeM hS) (fun r14136 u t H1 locs ht hvm hw hB hz1 hk1 hS => ?_)
  unfold BM at hB
  rw [ht] at hB
  have hP : va_P (dC, dI) classes (wM g c v F rc) H1 := hB
  replace hw : (r14136.toInt = 1 ∧ 0 ≤ p0.toInt ∧ p0.toInt < (v 6).toInt) ∨ (r14136.toInt = 0 ∧ (p0.toInt < 0 ∨ (v 6).toInt ≤ p0.toInt)) := hw
  have hw_r14136 := hw
  clear hw
  clear hz1
  generalize H1 = H at hP hS ⊢
  refine lv_if_eq (tgt := 24) hx hb dX12_grounded_5 (by decide) (fun c14137 => ?_) (fun c14137 => ?_)
  · skip
    have t14138 := cv_eq (a := r14136.toInt) rfl (b := 0) (by decide) c14137
    refine lv_iconst (v := (-1)) hx hb dX12_grounded_24 (by decide) ?_
    have hP9 : va_P (dC, dI) classes (wM g c v F rc) H := hP
    exact W.iret (v := (-1)) hx hb hr (fun t ht hW => ⟨⟨(-1), (v, F, rc), rfl, ⟨hI, rfl, (fun _ _ => rfl), hF, trivial⟩, (by show va_P _ _ _ t.heap; rw [ht]; exact hP9)⟩, hS.F ht⟩) hS.2.2 dX12_grounded_25
  · skip
    have t14139 := cv_ne (a := r14136.toInt) rfl (b := 0) (by decide) c14137
    refine lv_iload_n hx hb dX12_grounded_8 rfl (lv_at hl 2 rfl) ?_
    refine va_calli (va_runS (As := [.int p1]) (rest := []) ⟨hx, hb, hml, hown, hwd⟩ (c_X12_isDay l dC dI g c adK adV v F rc H.size p1 hg hI ) (va_cwS 1 hwd (gT wk_556 wk_554 wk_555 wk_5) rfl rfl rfl (by decide +kernel) ⟨Nat.le_of_ble_eq_true rfl, Nat.le_of_ble_eq_true rfl⟩) ⟨PM.blind, fun U hU hW => ⟨rfl, PM.at hK hE hP hS hU hW⟩⟩ rfl rfl hl.1 rfl (lv_room (Nat.le_of_ble_eq_true rfl)) dX12_grounded_9 ⟨Nat.le_of_ble_eq_true rfl, Nat.le_of_ble_eq_true rfl⟩) hS (fun q _ h => (freeM hS) q h) (freeM hS) (fun r14140 u t H1 locs ht hvm hw hB hz1 hk1 hS => ?_)
    unfold BM at hB
    rw [ht] at hB
    have hP : va_P (dC, dI) classes (wM g c v F rc) H1 := hB
    have hw_r14140 : (r14140.toInt = 1 ∧ 0 ≤ p1.toInt ∧ p1.toInt ≤ 9999) ∨ (r14140.toInt = 0 ∧ (p1.toInt < 0 ∨ 9999 < p1.toInt)) := hw
    clear hw
    clear hz1
    generalize H1 = H at hP hS ⊢
    refine lv_if_eq (tgt := 24) hx hb dX12_grounded_12 (by decide) (fun c14141 => ?_) (fun c14141 => ?_)
    · skip
      have t14142 := cv_eq (a := r14140.toInt) rfl (b := 0) (by decide) c14141
      refine lv_iconst (v := (-1)) hx hb dX12_grounded_24 (by decide) ?_
      have hP9 : va_P (dC, dI) classes (wM g c v F rc) H := hP
      exact W.iret (v := (-1)) hx hb hr (fun t ht hW => ⟨⟨(-1), (v, F, rc), rfl, ⟨hI, rfl, (fun _ _ => rfl), hF, trivial⟩, (by show va_P _ _ _ t.heap; rw [ht]; exact hP9)⟩, hS.F ht⟩) hS.2.2 dX12_grounded_25
    · skip
      have t14143 := cv_ne (a := r14140.toInt) rfl (b := 0) (by decide) c14141
      refine lv_aload_n hx hb dX12_grounded_15 rfl (lv_at hl 0 rfl) ?_
      refine lv_iload_n hx hb dX12_grounded_16 rfl (lv_at hl 1 rfl) ?_
      refine lv_iload_n hx hb dX12_grounded_17 rfl (lv_at hl 2 rfl) ?_
      refine va_calli (va_runV (As := [.int p0, .int p1]) (rest := []) ⟨hx, hb, hml, hown, hwd⟩ (c_X12_groundedBy l dC dI g c adK adV v F rc H.size p0 p1 hg hI (by omega) (JL.to hL (show v 31 = v 31 from rfl) rfl rfl rfl)) (cwV 2 hwd (gV wk_484 wk_481 wk_482 wk_483 wk_5) rfl rfl rfl (by decide +kernel) ⟨Nat.le_of_ble_eq_true rfl, Nat.le_of_ble_eq_true rfl⟩) ⟨PM.blind, va_recv hK hP (ci := 12) (q0 := 0) rfl rfl, fun U hU hW => ⟨rfl, PM.at hK hE hP hS hU hW⟩⟩ rfl rfl hl.1 rfl (lv_room (Nat.le_of_ble_eq_true rfl)) dX12_grounded_18 ⟨Nat.le_of_ble_eq_true rfl, Nat.le_of_ble_eq_true rfl⟩) hS (fun q _ h => (freeM hS) q h) (freeM hS) (fun r14144 u t H1 locs ht hvm hw hB hz1 hk1 hS => ?_)
      unfold BM at hB
      rw [ht] at hB
      obtain ⟨v14145, F14146, rc9⟩ := u
      obtain ⟨hI, hrc, hf14147, hG14148, hw⟩ := hw
      dsimp only at hI hrc hB hf14147 hG14148 hw
      have hF := frCF (by decide) hG14148 hF
      rw [hrc] at hB
      have hP : va_P (dC, dI) classes (wM g c v14145 F14146 rc) H1 := hB
      clear hz1
      generalize H1 = H at hP hS ⊢
      have rr_r14144 := i32_rng r14144
      refine lv_goto (tgt := 25) hx hb dX12_grounded_21 (by decide) ?_
      have hP9 : va_P (dC, dI) classes (wM g c v14145 F14146 rc) H := hP
      exact W.iret (v := r14144) hx hb hr (fun t ht hW => ⟨⟨r14144, (v14145, F14146, rc), rfl, ⟨hI, rfl, (frC (by decide) hf14147 (fun _ _ => rfl)), hF, trivial⟩, (by show va_P _ _ _ t.heap; rw [ht]; exact hP9)⟩, hS.F ht⟩) hS.2.2 dX12_grounded_25
set_option maxHeartbeats 8000000 in
set_option maxRecDepth 100000 in
theorem c_X12_insure (l : Launch) (dC : Nat → ClassId) (dI : Nat → Nat → Nat) (g : Nat → Nat) (c : Nat → ClassId) (adK adV : Nat → Nat) (v : Nat → Int32) (F : Nat → Nat → Int32) (rc sz : Nat) (p0 : Int32) (hg : injM g) (hI : IM v F) (hL : JL (v 31) (F 28) (F 29) (F 27)) : Met l yX12_insure (Cond.code yX12_insure cX12_insure 3 (some .int) :: wA) ({ frames := 6, cells := 0, slots := 0, locals := 240 }) (va_Pc [.ref (g 0), .int p0] (PM dC dI g c adK adV v F rc sz)) (va_Qi (fun (r : Int32) (u : StM) => IM u.1 u.2.1 ∧ u.2.2 = rc ∧ (∀ k, k ∉ ([] : List Nat) → u.1 k = v k) ∧ (∀ k, k ∉ ([30, 31] : List Nat) → u.2.1 k = F k) ∧ True) (BM dC dI g c) (AM g sz)) 0 0 (AM g sz) := by
  refine Met.ofW (cc := cX12_insure) (maxL := 3) (ret := (some .int)) (by decide) rfl ?_
  intro p e s m args below meth c0 s₁ B hml hv
  obtain ⟨rfl, hsz, hP, hK, hE⟩ := hv
  have hx := B.exec
  have hb := B.bytes
  have hr := B.returns
  have hts := atoms_spec (ws := Cond.code yX12_insure cX12_insure 3 (some .int) :: wA) B.pre
  have hwd : ∀ w ∈ wA, w.before _ s = true := fun w h => hts w (List.mem_cons_of_mem _ h)
  have hown : s.vm.findClass RX12 = some m.cls := findClass_of_methodNamed B.named
  have hlocks := B.notSynchronized
  subst hsz
  have hl := lv_entry ([.ref (g 0), .int p0]) (n := 3) (Nat.le_of_ble_eq_true rfl)
  rw [lg_entry_eq]
  generalize (lg_sl ([.ref (g 0), .int p0]) ++ List.replicate (3 - (lg_sl ([.ref (g 0), .int p0])).length) Slot.unset).toArray = ls at hl ⊢
  have hl : lv_has ls 3 [(0, .ref (g 0)), (1, .int p0)] := hl
  obtain ⟨H, eH⟩ : ∃ z, z = s.heap := ⟨_, rfl⟩
  have hP : va_P (dC, dI) classes (wM g c v F rc) H := by rw [eH]; exact hP
  have hS : va_S (AM g s.heap.size) s.heap H [] := by rw [eH]; exact va_S.rf
  refine my_heap eH ?_
  have hF : ∀ k, k ∉ ([30, 31] : List Nat) → F k = F k := fun _ _ => rfl
  have rp0 := i32_rng p0
  have hb31 : 0 ≤ (v 31).toInt ∧ (v 31).toInt ≤ 10 := hI.1 31 _ _ rfl
  refine lv_aload_n hx hb dX12_insure_0 rfl (lv_at hl 0 rfl) ?_
  refine lv_iload_n hx hb dX12_insure_1 rfl (lv_at hl 1 rfl) ?_
  have t14192 : 0 ≤ (v 6).toInt ∧ (v 6).toInt ≤ 10 := hI.1 6 _ _ rfl
  refine va_calli (va_runV (As := [.int p0]) (rest := []) ⟨hx, hb, hml, hown, hwd⟩ (c_X12_isPlane l dC dI g c adK adV v F rc H.size p0 hg hI ) (cwV 1 hwd (gV wk_305 wk_302 wk_303 wk_304 wk_5) rfl rfl rfl (by decide +kernel) ⟨Nat.le_of_ble_eq_true rfl, Nat.le_of_ble_eq_true rfl⟩) ⟨PM.blind, va_recv hK hP (ci := 12) (q0 := 0) rfl rfl, fun U hU hW => ⟨rfl, PM.at hK hE hP hS hU hW⟩⟩ rfl rfl hl.1 rfl (lv_room (Nat.le_of_ble_eq_true rfl)) dX12_insure_2 ⟨Nat.le_of_ble_eq_true rfl, Nat.le_of_ble_eq_true rfl⟩) hS (fun q _ h => (freeM hS) q h) (freeM hS) (fun r14193 u t H1 locs ht hvm hw hB hz1 hk1 hS => ?_)
  unfold BM at hB
  rw [ht] at hB
  have hP : va_P (dC, dI) classes (wM g c v F rc) H1 := hB
  replace hw : (r14193.toInt = 1 ∧ 0 ≤ p0.toInt ∧ p0.toInt < (v 6).toInt) ∨ (r14193.toInt = 0 ∧ (p0.toInt < 0 ∨ (v 6).toInt ≤ p0.toInt)) := hw
  have hw_r14193 := hw
  clear hw
  clear hz1
  generalize H1 = H at hP hS ⊢
  refine lv_if_ne (tgt := 10) hx hb dX12_insure_5 (by decide) (fun c14194 => ?_) (fun c14194 => ?_)
  · skip
    have t14195 := cv_ne (a := r14193.toInt) rfl (b := 0) (by decide) c14194
    refine lv_aload_n hx hb dX12_insure_10 rfl (lv_at hl 0 rfl) ?_
    refine lv_iload_n hx hb dX12_insure_11 rfl (lv_at hl 1 rfl) ?_
    refine lv_aload_n hx hb dX12_insure_12 rfl (lv_at hl 0 rfl) ?_
    refine va_get (D := (dC, dI)) (ci := 12) (v := .int (v 1)) (C := RX12) (T := TX12) (N := 63) hx hb hwd inA_X12 hown hK hP 0 rfl rfl 1 (by decide) (hwd _ wk_332) (fun _ h9 => h9) rfl dX12_insure_13 ?_
    have t14196 : 0 ≤ (v 1).toInt ∧ (v 1).toInt ≤ 9999 := hI.1 1 _ _ rfl
    refine va_calli (va_runV (As := [.int p0, .int (v 1)]) (rest := []) ⟨hx, hb, hml, hown, hwd⟩ (c_X12_groundedBy l dC dI g c adK adV v F rc H.size p0 (v 1) hg hI (by omega) (JL.to hL (show v 31 = v 31 from rfl) rfl rfl rfl)) (cwV 2 hwd (gV wk_484 wk_481 wk_482 wk_483 wk_5) rfl rfl rfl (by decide +kernel) ⟨Nat.le_of_ble_eq_true rfl, Nat.le_of_ble_eq_true rfl⟩) ⟨PM.blind, va_recv hK hP (ci := 12) (q0 := 0) rfl rfl, fun U hU hW => ⟨rfl, PM.at hK hE hP hS hU hW⟩⟩ rfl rfl hl.1 rfl (lv_room (Nat.le_of_ble_eq_true rfl)) dX12_insure_16 ⟨Nat.le_of_ble_eq_true rfl, Nat.le_of_ble_eq_true rfl⟩) hS (fun q _ h => (freeM hS) q h) (freeM hS) (fun r14197 u t H1 locs ht hvm hw hB hz1 hk1 hS => ?_)
    unfold BM at hB
    rw [ht] at hB
    obtain ⟨v14198, F14199, rc9⟩ := u
    obtain ⟨hI, hrc, hf14200, hG14201, hw⟩ := hw
    dsimp only at hI hrc hB hf14200 hG14201 hw
    have hF := frCF (by decide) hG14201 hF
    rw [hrc] at hB
    have hP : va_P (dC, dI) classes (wM g c v14198 F14199 rc) H1 := hB
    clear hz1
    generalize H1 = H at hP hS ⊢
    have rr_r14197 := i32_rng r14197
    refine lv_if_eq (tgt := 24) hx hb dX12_insure_19 (by decide) (fun c14202 => ?_) (fun c14202 => ?_)
    · skip
      have t14203 := cv_eq (a := r14197.toInt) rfl (b := 0) (by decide) c14202
      refine lv_aload_n hx hb dX12_insure_24 rfl (lv_at hl 0 rfl) ?_
      refine lv_iload_n hx hb dX12_insure_25 rfl (lv_at hl 1 rfl) ?_
      refine lv_aload_n hx hb dX12_insure_26 rfl (lv_at hl 0 rfl) ?_
      refine va_get (D := (dC, dI)) (ci := 12) (v := .int (v14198 1)) (C := RX12) (T := TX12) (N := 63) hx hb hwd inA_X12 hown hK hP 0 rfl rfl 1 (by decide) (hwd _ wk_332) (fun _ h9 => h9) rfl dX12_insure_27 ?_
      refine my_top (v := v 1) (hf14200 1 (by decide)) ?_
      have t14204 : 0 ≤ (v 1).toInt ∧ (v 1).toInt ≤ 9999 := by have h9 := hI.1 1 _ _ rfl; rw [show v14198 1 = v 1 from hf14200 1 (by decide)] at h9; exact h9
      refine va_calli (va_runV (As := [.int p0, .int (v 1)]) (rest := []) ⟨hx, hb, hml, hown, hwd⟩ (c_X12_halfOf l dC dI g c adK adV v14198 F14199 rc H.size p0 (v 1) hg hI (JL.to hL (show v14198 31 = v 31 from hf14200 31 (by decide)) (hF 28 (by decide)) (hF 29 (by decide)) (hF 27 (by decide)))) (cwV 2 hwd (gV wk_1378 wk_1375 wk_1376 wk_1377 wk_5) rfl rfl rfl (by decide +kernel) ⟨Nat.le_of_ble_eq_true rfl, Nat.le_of_ble_eq_true rfl⟩) ⟨PM.blind, va_recv hK hP (ci := 12) (q0 := 0) rfl rfl, fun U hU hW => ⟨rfl, PM.at hK hE hP hS hU hW⟩⟩ rfl rfl hl.1 rfl (lv_room (Nat.le_of_ble_eq_true rfl)) dX12_insure_30 ⟨Nat.le_of_ble_eq_true rfl, Nat.le_of_ble_eq_true rfl⟩) hS (fun q _ h => (freeM hS) q h) (freeM hS) (fun r14205 u t H1 locs ht hvm hw hB hz1 hk1 hS => ?_)
      unfold BM at hB
      rw [ht] at hB
      obtain ⟨v14206, F14207, rc9⟩ := u
      obtain ⟨hI, hrc, hf14208, hG14209, hw⟩ := hw
      dsimp only at hI hrc hB hf14208 hG14209 hw
      have hF := frCF (by decide) hG14209 hF
      rw [hrc] at hB
      have hP : va_P (dC, dI) classes (wM g c v14206 F14207 rc) H1 := hB
      clear hz1
      generalize H1 = H at hP hS ⊢
      have rr_r14205 := i32_rng r14205
      refine lv_istore_n (lv' := [(2, .int r14205), (0, .ref (g 0)), (1, .int p0)]) hx hb dX12_insure_33 rfl hl (by decide) rfl (fun ls hl => ?_)
      refine lv_aload_n hx hb dX12_insure_34 rfl (lv_at hl 1 rfl) ?_
      refine va_get (D := (dC, dI)) (ci := 12) (v := .ref (g 4)) (C := RX12) (T := TX12) (N := 63) hx hb hwd inA_X12 hown hK hP 0 rfl rfl 7 (by decide) (hwd _ wk_185) (fun _ h9 => h9) rfl dX12_insure_35 ?_
      refine lv_iload_n hx hb dX12_insure_38 rfl (lv_at hl 2 rfl) ?_
      refine va_iald hx hb hK hP 4 3 rfl rfl (i := p0) (vin (a := p0.toInt) rfl (by omega)) dX12_insure_39 ?_
      refine lv_topi (fun z14210 e14211 => ?_)
      have e14211 : z14210 = F 4 (p0 : Int32).toNatClampNeg := e14211.trans (congrFun (hF 4 (by decide)) _)
      refine lv_iload_n hx hb dX12_insure_40 rfl (lv_at hl 0 rfl) ?_
      refine lv_if_ge (tgt := 48) hx hb dX12_insure_41 (by decide) (fun c14212 => ?_) (fun c14212 => ?_)
      · skip
        have t14213 := cv_le (a := 0) (by decide) (b := r14205.toInt) rfl c14212
        refine lv_iload_n hx hb dX12_insure_48 rfl (lv_at hl 0 rfl) ?_
        refine lv_iadd hx hb dX12_insure_49 ?_
        refine lv_topi (fun z14214 e14215 => ?_)
        try (have t14216 := tadd e14215 (a := z14210.toInt) rfl (b := r14205.toInt) rfl (by omega))
        refine lv_sipush (v := 999) hx hb dX12_insure_50 (by decide) ?_
        refine lv_iadd hx hb dX12_insure_53 ?_
        refine lv_topi (fun z14217 e14218 => ?_)
        try (have t14219 := tadd e14218 (a := z14214.toInt) rfl (b := 999) (by decide) (by omega))
        refine lv_sipush (v := 1000) hx hb dX12_insure_54 (by decide) ?_
        refine lv_idiv hx hb dX12_insure_57 (by decide) ?_
        refine lv_topi (fun z14220 e14221 => ?_)
        have hP9 : va_P (dC, dI) classes (wM g c v14206 F14207 rc) H := hP
        exact W.iret (v := z14220) hx hb hr (fun t ht hW => ⟨⟨z14220, (v14206, F14207, rc), rfl, ⟨hI, rfl, (frC (by decide) hf14208 (frC (by decide) hf14200 (fun _ _ => rfl))), hF, trivial⟩, (by show va_P _ _ _ t.heap; rw [ht]; exact hP9)⟩, hS.F ht⟩) hS.2.2 dX12_insure_58
      · skip
        have t14223 := cv_nle (a := 0) (by decide) (b := r14205.toInt) rfl c14212
        refine lv_iconst (v := 0) hx hb dX12_insure_44 (by decide) ?_
        refine lv_goto (tgt := 49) hx hb dX12_insure_45 (by decide) ?_
        refine lv_iadd hx hb dX12_insure_49 ?_
        refine lv_topi (fun z14224 e14225 => ?_)
        try (have t14226 := tadd e14225 (a := z14210.toInt) rfl (b := 0) (by decide) (by omega))
        refine lv_sipush (v := 999) hx hb dX12_insure_50 (by decide) ?_
        refine lv_iadd hx hb dX12_insure_53 ?_
        refine lv_topi (fun z14227 e14228 => ?_)
        try (have t14229 := tadd e14228 (a := z14224.toInt) rfl (b := 999) (by decide) (by omega))
        refine lv_sipush (v := 1000) hx hb dX12_insure_54 (by decide) ?_
        refine lv_idiv hx hb dX12_insure_57 (by decide) ?_
        refine lv_topi (fun z14230 e14231 => ?_)
        have hP9 : va_P (dC, dI) classes (wM g c v14206 F14207 rc) H := hP
        exact W.iret (v := z14230) hx hb hr (fun t ht hW => ⟨⟨z14230, (v14206, F14207, rc), rfl, ⟨hI, rfl, (frC (by decide) hf14208 (frC (by decide) hf14200 (fun _ _ => rfl))), hF, trivial⟩, (by show va_P _ _ _ t.heap; rw [ht]; exact hP9)⟩, hS.F ht⟩) hS.2.2 dX12_insure_58
    · skip
      have t14233 := cv_ne (a := r14197.toInt) rfl (b := 0) (by decide) c14202
      refine lv_iconst (v := 0) hx hb dX12_insure_22 (by decide) ?_
      have hP9 : va_P (dC, dI) classes (wM g c v14198 F14199 rc) H := hP
      exact W.iret (v := 0) hx hb hr (fun t ht hW => ⟨⟨0, (v14198, F14199, rc), rfl, ⟨hI, rfl, (frC (by decide) hf14200 (fun _ _ => rfl)), hF, trivial⟩, (by show va_P _ _ _ t.heap; rw [ht]; exact hP9)⟩, hS.F ht⟩) hS.2.2 dX12_insure_23
  · skip
    have t14234 := cv_eq (a := r14193.toInt) rfl (b := 0) (by decide) c14194
    refine lv_iconst (v := (-1)) hx hb dX12_insure_8 (by decide) ?_
    have hP9 : va_P (dC, dI) classes (wM g c v F rc) H := hP
    exact W.iret (v := (-1)) hx hb hr (fun t ht hW => ⟨⟨(-1), (v, F, rc), rfl, ⟨hI, rfl, (fun _ _ => rfl), hF, trivial⟩, (by show va_P _ _ _ t.heap; rw [ht]; exact hP9)⟩, hS.F ht⟩) hS.2.2 dX12_insure_9
set_option maxHeartbeats 8000000 in
set_option maxRecDepth 100000 in
theorem c_X12_fly (l : Launch) (dC : Nat → ClassId) (dI : Nat → Nat → Nat) (g : Nat → Nat) (c : Nat → ClassId) (adK adV : Nat → Nat) (v : Nat → Int32) (F : Nat → Nat → Int32) (rc sz : Nat) (p0 : Int32) (p1 : Int32) (p2 : Int32) (hg : injM g) (hI : IM v F) (hL : JL (v 31) (F 28) (F 29) (F 27)) : Met l yX12_fly (Cond.code yX12_fly cX12_fly 6 (some .int) :: wA) ({ frames := 6, cells := 0, slots := 0, locals := 240 }) (va_Pc [.ref (g 0), .int p0, .int p1, .int p2] (PM dC dI g c adK adV v F rc sz)) (va_Qi (fun (r : Int32) (u : StM) => IM u.1 u.2.1 ∧ u.2.2 = rc ∧ (∀ k, k ∉ ([] : List Nat) → u.1 k = v k) ∧ (∀ k, k ∉ ([5, 6, 10, 14, 30, 31] : List Nat) → u.2.1 k = F k) ∧ True) (BM dC dI g c) (AM g sz)) 0 0 (AM g sz) := by
  refine Met.ofW (cc := cX12_fly) (maxL := 6) (ret := (some .int)) (by decide) rfl ?_
  intro p e s m args below meth c0 s₁ B hml hv
  obtain ⟨rfl, hsz, hP, hK, hE⟩ := hv
  have hx := B.exec
  have hb := B.bytes
  have hr := B.returns
  have hts := atoms_spec (ws := Cond.code yX12_fly cX12_fly 6 (some .int) :: wA) B.pre
  have hwd : ∀ w ∈ wA, w.before _ s = true := fun w h => hts w (List.mem_cons_of_mem _ h)
  have hown : s.vm.findClass RX12 = some m.cls := findClass_of_methodNamed B.named
  have hlocks := B.notSynchronized
  subst hsz
  have hl := lv_entry ([.ref (g 0), .int p0, .int p1, .int p2]) (n := 6) (Nat.le_of_ble_eq_true rfl)
  rw [lg_entry_eq]
  generalize (lg_sl ([.ref (g 0), .int p0, .int p1, .int p2]) ++ List.replicate (6 - (lg_sl ([.ref (g 0), .int p0, .int p1, .int p2])).length) Slot.unset).toArray = ls at hl ⊢
  have hl : lv_has ls 6 [(0, .ref (g 0)), (1, .int p0), (2, .int p1), (3, .int p2)] := hl
  obtain ⟨H, eH⟩ : ∃ z, z = s.heap := ⟨_, rfl⟩
  have hP : va_P (dC, dI) classes (wM g c v F rc) H := by rw [eH]; exact hP
  have hS : va_S (AM g s.heap.size) s.heap H [] := by rw [eH]; exact va_S.rf
  refine my_heap eH ?_
  have hF : ∀ k, k ∉ ([5, 6, 10, 14, 30, 31] : List Nat) → F k = F k := fun _ _ => rfl
  have rp0 := i32_rng p0
  have rp1 := i32_rng p1
  have rp2 := i32_rng p2
  have hb31 : 0 ≤ (v 31).toInt ∧ (v 31).toInt ≤ 10 := hI.1 31 _ _ rfl
  refine lv_aload_n hx hb dX12_fly_0 rfl (lv_at hl 0 rfl) ?_
  refine lv_iload_n hx hb dX12_fly_1 rfl (lv_at hl 1 rfl) ?_
  have t14404 : 0 ≤ (v 6).toInt ∧ (v 6).toInt ≤ 10 := hI.1 6 _ _ rfl
  refine va_calli (va_runV (As := [.int p0]) (rest := []) ⟨hx, hb, hml, hown, hwd⟩ (c_X12_isPlane l dC dI g c adK adV v F rc H.size p0 hg hI ) (cwV 1 hwd (gV wk_305 wk_302 wk_303 wk_304 wk_5) rfl rfl rfl (by decide +kernel) ⟨Nat.le_of_ble_eq_true rfl, Nat.le_of_ble_eq_true rfl⟩) ⟨PM.blind, va_recv hK hP (ci := 12) (q0 := 0) rfl rfl, fun U hU hW => ⟨rfl, PM.at hK hE hP hS hU hW⟩⟩ rfl rfl hl.1 rfl (lv_room (Nat.le_of_ble_eq_true rfl)) dX12_fly_2 ⟨Nat.le_of_ble_eq_true rfl, Nat.le_of_ble_eq_true rfl⟩) hS (fun q _ h => (freeM hS) q h) (freeM hS) (fun r14405 u t H1 locs ht hvm hw hB hz1 hk1 hS => ?_)
  unfold BM at hB
  rw [ht] at hB
  have hP : va_P (dC, dI) classes (wM g c v F rc) H1 := hB
  replace hw : (r14405.toInt = 1 ∧ 0 ≤ p0.toInt ∧ p0.toInt < (v 6).toInt) ∨ (r14405.toInt = 0 ∧ (p0.toInt < 0 ∨ (v 6).toInt ≤ p0.toInt)) := hw
  have hw_r14405 := hw
  clear hw
  clear hz1
  generalize H1 = H at hP hS ⊢
  refine lv_if_eq (tgt := 30) hx hb dX12_fly_5 (by decide) (fun c14406 => ?_) (fun c14406 => ?_)
  · skip
    have t14407 := cv_eq (a := r14405.toInt) rfl (b := 0) (by decide) c14406
    refine lv_iconst (v := (-1)) hx hb dX12_fly_30 (by decide) ?_
    have hP9 : va_P (dC, dI) classes (wM g c v F rc) H := hP
    exact W.iret (v := (-1)) hx hb hr (fun t ht hW => ⟨⟨(-1), (v, F, rc), rfl, ⟨hI, rfl, (fun _ _ => rfl), hF, trivial⟩, (by show va_P _ _ _ t.heap; rw [ht]; exact hP9)⟩, hS.F ht⟩) hS.2.2 dX12_fly_31
  · skip
    have t14408 := cv_ne (a := r14405.toInt) rfl (b := 0) (by decide) c14406
    refine lv_iload_n hx hb dX12_fly_8 rfl (lv_at hl 2 rfl) ?_
    refine lv_iconst (v := 1) hx hb dX12_fly_9 (by decide) ?_
    refine lv_sipush (v := 999) hx hb dX12_fly_10 (by decide) ?_
    refine va_calli (va_runS (As := [.int p1, .int 1, .int 999]) (rest := []) ⟨hx, hb, hml, hown, hwd⟩ (c_X12_in l dC dI g c adK adV v F rc H.size p1 1 999 hg hI ) (va_cwS 3 hwd (gT wk_254 wk_252 wk_253 wk_5) rfl rfl rfl (by decide +kernel) ⟨Nat.le_of_ble_eq_true rfl, Nat.le_of_ble_eq_true rfl⟩) ⟨PM.blind, fun U hU hW => ⟨rfl, PM.at hK hE hP hS hU hW⟩⟩ rfl rfl hl.1 rfl (lv_room (Nat.le_of_ble_eq_true rfl)) dX12_fly_13 ⟨Nat.le_of_ble_eq_true rfl, Nat.le_of_ble_eq_true rfl⟩) hS (fun q _ h => (freeM hS) q h) (freeM hS) (fun r14409 u t H1 locs ht hvm hw hB hz1 hk1 hS => ?_)
    unfold BM at hB
    rw [ht] at hB
    have hP : va_P (dC, dI) classes (wM g c v F rc) H1 := hB
    have hw_r14409 : (r14409.toInt = 1 ∧ (1 : Int32).toInt ≤ p1.toInt ∧ p1.toInt ≤ (999 : Int32).toInt) ∨ (r14409.toInt = 0 ∧ (p1.toInt < (1 : Int32).toInt ∨ (999 : Int32).toInt < p1.toInt)) := hw
    clear hw
    have k14410 : (1 : Int32).toInt = 1 := by decide
    have k14411 : (999 : Int32).toInt = 999 := by decide
    clear hz1
    generalize H1 = H at hP hS ⊢
    refine lv_if_eq (tgt := 30) hx hb dX12_fly_16 (by decide) (fun c14412 => ?_) (fun c14412 => ?_)
    · skip
      have t14413 := cv_eq (a := r14409.toInt) rfl (b := 0) (by decide) c14412
      refine lv_iconst (v := (-1)) hx hb dX12_fly_30 (by decide) ?_
      have hP9 : va_P (dC, dI) classes (wM g c v F rc) H := hP
      exact W.iret (v := (-1)) hx hb hr (fun t ht hW => ⟨⟨(-1), (v, F, rc), rfl, ⟨hI, rfl, (fun _ _ => rfl), hF, trivial⟩, (by show va_P _ _ _ t.heap; rw [ht]; exact hP9)⟩, hS.F ht⟩) hS.2.2 dX12_fly_31
    · skip
      have t14414 := cv_ne (a := r14409.toInt) rfl (b := 0) (by decide) c14412
      refine lv_iload_n hx hb dX12_fly_19 rfl (lv_at hl 3 rfl) ?_
      refine lv_iconst (v := 0) hx hb dX12_fly_20 (by decide) ?_
      refine lv_sipush (v := 999) hx hb dX12_fly_21 (by decide) ?_
      refine va_calli (va_runS (As := [.int p2, .int 0, .int 999]) (rest := []) ⟨hx, hb, hml, hown, hwd⟩ (c_X12_in l dC dI g c adK adV v F rc H.size p2 0 999 hg hI ) (va_cwS 3 hwd (gT wk_254 wk_252 wk_253 wk_5) rfl rfl rfl (by decide +kernel) ⟨Nat.le_of_ble_eq_true rfl, Nat.le_of_ble_eq_true rfl⟩) ⟨PM.blind, fun U hU hW => ⟨rfl, PM.at hK hE hP hS hU hW⟩⟩ rfl rfl hl.1 rfl (lv_room (Nat.le_of_ble_eq_true rfl)) dX12_fly_24 ⟨Nat.le_of_ble_eq_true rfl, Nat.le_of_ble_eq_true rfl⟩) hS (fun q _ h => (freeM hS) q h) (freeM hS) (fun r14415 u t H1 locs ht hvm hw hB hz1 hk1 hS => ?_)
      unfold BM at hB
      rw [ht] at hB
      have hP : va_P (dC, dI) classes (wM g c v F rc) H1 := hB
      have hw_r14415 : (r14415.toInt = 1 ∧ (0 : Int32).toInt ≤ p2.toInt ∧ p2.toInt ≤ (999 : Int32).toInt) ∨ (r14415.toInt = 0 ∧ (p2.toInt < (0 : Int32).toInt ∨ (999 : Int32).toInt < p2.toInt)) := hw
      clear hw
      have k14416 : (0 : Int32).toInt = 0 := by decide
      have k14417 : (999 : Int32).toInt = 999 := by decide
      clear hz1
      generalize H1 = H at hP hS ⊢
      refine lv_if_ne (tgt := 32) hx hb dX12_fly_27 (by decide) (fun c14418 => ?_) (fun c14418 => ?_)
      · skip
        have t14419 := cv_ne (a := r14415.toInt) rfl (b := 0) (by decide) c14418
        refine lv_aload_n hx hb dX12_fly_32 rfl (lv_at hl 0 rfl) ?_
        refine lv_iload_n hx hb dX12_fly_33 rfl (lv_at hl 1 rfl) ?_
        refine va_calli (va_runV (As := [.int p0]) (rest := []) ⟨hx, hb, hml, hown, hwd⟩ (c_X12_isReturned l dC dI g c adK adV v F rc H.size p0 hg hI (by omega)) (cwV 1 hwd (gV wk_313 wk_310 wk_311 wk_312 wk_5) rfl rfl rfl (by decide +kernel) ⟨Nat.le_of_ble_eq_true rfl, Nat.le_of_ble_eq_true rfl⟩) ⟨PM.blind, va_recv hK hP (ci := 12) (q0 := 0) rfl rfl, fun U hU hW => ⟨rfl, PM.at hK hE hP hS hU hW⟩⟩ rfl rfl hl.1 rfl (lv_room (Nat.le_of_ble_eq_true rfl)) dX12_fly_34 ⟨Nat.le_of_ble_eq_true rfl, Nat.le_of_ble_eq_true rfl⟩) hS (fun q _ h => (freeM hS) q h) (freeM hS) (fun r14420 u t H1 locs ht hvm hw hB hz1 hk1 hS => ?_)
        unfold BM at hB
        rw [ht] at hB
        have hP : va_P (dC, dI) classes (wM g c v F rc) H1 := hB
        have hw_r14420 : 0 ≤ r14420.toInt ∧ r14420.toInt ≤ 1 := hw
        clear hw
        clear hz1
        generalize H1 = H at hP hS ⊢
        refine lv_if_ne (tgt := 78) hx hb dX12_fly_37 (by decide) (fun c14421 => ?_) (fun c14421 => ?_)
        · skip
          have t14422 := cv_ne (a := r14420.toInt) rfl (b := 0) (by decide) c14421
          refine lv_bipush (v := (-2)) hx hb dX12_fly_78 (by decide) ?_
          have hP9 : va_P (dC, dI) classes (wM g c v F rc) H := hP
          exact W.iret (v := (-2)) hx hb hr (fun t ht hW => ⟨⟨(-2), (v, F, rc), rfl, ⟨hI, rfl, (fun _ _ => rfl), hF, trivial⟩, (by show va_P _ _ _ t.heap; rw [ht]; exact hP9)⟩, hS.F ht⟩) hS.2.2 dX12_fly_80
        · skip
          have t14423 := cv_eq (a := r14420.toInt) rfl (b := 0) (by decide) c14421
          refine lv_aload_n hx hb dX12_fly_40 rfl (lv_at hl 0 rfl) ?_
          refine lv_iload_n hx hb dX12_fly_41 rfl (lv_at hl 1 rfl) ?_
          refine lv_aload_n hx hb dX12_fly_42 rfl (lv_at hl 0 rfl) ?_
          refine va_get (D := (dC, dI)) (ci := 12) (v := .int (v 1)) (C := RX12) (T := TX12) (N := 63) hx hb hwd inA_X12 hown hK hP 0 rfl rfl 1 (by decide) (hwd _ wk_332) (fun _ h9 => h9) rfl dX12_fly_43 ?_
          have t14424 : 0 ≤ (v 1).toInt ∧ (v 1).toInt ≤ 9999 := hI.1 1 _ _ rfl
          refine va_calli (va_runV (As := [.int p0, .int (v 1)]) (rest := []) ⟨hx, hb, hml, hown, hwd⟩ (c_X12_groundedBy l dC dI g c adK adV v F rc H.size p0 (v 1) hg hI (by omega) (JL.to hL (show v 31 = v 31 from rfl) rfl rfl rfl)) (cwV 2 hwd (gV wk_484 wk_481 wk_482 wk_483 wk_5) rfl rfl rfl (by decide +kernel) ⟨Nat.le_of_ble_eq_true rfl, Nat.le_of_ble_eq_true rfl⟩) ⟨PM.blind, va_recv hK hP (ci := 12) (q0 := 0) rfl rfl, fun U hU hW => ⟨rfl, PM.at hK hE hP hS hU hW⟩⟩ rfl rfl hl.1 rfl (lv_room (Nat.le_of_ble_eq_true rfl)) dX12_fly_46 ⟨Nat.le_of_ble_eq_true rfl, Nat.le_of_ble_eq_true rfl⟩) hS (fun q _ h => (freeM hS) q h) (freeM hS) (fun r14425 u t H1 locs ht hvm hw hB hz1 hk1 hS => ?_)
          unfold BM at hB
          rw [ht] at hB
          obtain ⟨v14426, F14427, rc9⟩ := u
          obtain ⟨hI, hrc, hf14428, hG14429, hw⟩ := hw
          dsimp only at hI hrc hB hf14428 hG14429 hw
          have hF := frCF (by decide) hG14429 hF
          rw [hrc] at hB
          have hP : va_P (dC, dI) classes (wM g c v14426 F14427 rc) H1 := hB
          clear hz1
          generalize H1 = H at hP hS ⊢
          have rr_r14425 := i32_rng r14425
          refine lv_if_ne (tgt := 78) hx hb dX12_fly_49 (by decide) (fun c14430 => ?_) (fun c14430 => ?_)
          · skip
            have t14431 := cv_ne (a := r14425.toInt) rfl (b := 0) (by decide) c14430
            refine lv_bipush (v := (-2)) hx hb dX12_fly_78 (by decide) ?_
            have hP9 : va_P (dC, dI) classes (wM g c v14426 F14427 rc) H := hP
            exact W.iret (v := (-2)) hx hb hr (fun t ht hW => ⟨⟨(-2), (v14426, F14427, rc), rfl, ⟨hI, rfl, (frC (by decide) hf14428 (fun _ _ => rfl)), hF, trivial⟩, (by show va_P _ _ _ t.heap; rw [ht]; exact hP9)⟩, hS.F ht⟩) hS.2.2 dX12_fly_80
          · skip
            have t14432 := cv_eq (a := r14425.toInt) rfl (b := 0) (by decide) c14430
            refine lv_aload_n hx hb dX12_fly_52 rfl (lv_at hl 0 rfl) ?_
            refine va_get (D := (dC, dI)) (ci := 12) (v := .ref (g 5)) (C := RX12) (T := TX12) (N := 63) hx hb hwd inA_X12 hown hK hP 0 rfl rfl 8 (by decide) (hwd _ wk_186) (fun _ h9 => h9) rfl dX12_fly_53 ?_
            refine lv_iload_n hx hb dX12_fly_56 rfl (lv_at hl 1 rfl) ?_
            refine va_iald hx hb hK hP 5 4 rfl rfl (i := p0) (vin (a := p0.toInt) rfl (by omega)) dX12_fly_57 ?_
            refine lv_topi (fun z14433 e14434 => ?_)
            refine lv_iload_n hx hb dX12_fly_58 rfl (lv_at hl 2 rfl) ?_
            refine lv_iadd hx hb dX12_fly_59 ?_
            refine lv_topi (fun z14435 e14436 => ?_)
            try (have t14437 := tadd e14436 (a := z14433.toInt) rfl (b := p1.toInt) rfl (by omega))
            refine lv_ldc (v := 999999) hx hb hown (hwd _ wk_250) dX12_fly_60 ?_
            refine lv_icmp_gt (tgt := 78) hx hb dX12_fly_62 (by decide) (fun c14438 => ?_) (fun c14438 => ?_)
            · skip
              have t14439 := cv_lt (a := 999999) (by decide) (b := z14435.toInt) rfl c14438
              refine lv_bipush (v := (-2)) hx hb dX12_fly_78 (by decide) ?_
              have hP9 : va_P (dC, dI) classes (wM g c v14426 F14427 rc) H := hP
              exact W.iret (v := (-2)) hx hb hr (fun t ht hW => ⟨⟨(-2), (v14426, F14427, rc), rfl, ⟨hI, rfl, (frC (by decide) hf14428 (fun _ _ => rfl)), hF, trivial⟩, (by show va_P _ _ _ t.heap; rw [ht]; exact hP9)⟩, hS.F ht⟩) hS.2.2 dX12_fly_80
            · skip
              have t14440 := cv_nlt (a := 999999) (by decide) (b := z14435.toInt) rfl c14438
              refine lv_aload_n hx hb dX12_fly_65 rfl (lv_at hl 0 rfl) ?_
              refine va_get (D := (dC, dI)) (ci := 12) (v := .ref (g 6)) (C := RX12) (T := TX12) (N := 63) hx hb hwd inA_X12 hown hK hP 0 rfl rfl 9 (by decide) (hwd _ wk_187) (fun _ h9 => h9) rfl dX12_fly_66 ?_
              refine lv_iload_n hx hb dX12_fly_69 rfl (lv_at hl 1 rfl) ?_
              refine va_iald hx hb hK hP 6 5 rfl rfl (i := p0) (vin (a := p0.toInt) rfl (by omega)) dX12_fly_70 ?_
              refine lv_topi (fun z14441 e14442 => ?_)
              refine lv_iload_n hx hb dX12_fly_71 rfl (lv_at hl 3 rfl) ?_
              refine lv_iadd hx hb dX12_fly_72 ?_
              refine lv_topi (fun z14443 e14444 => ?_)
              try (have t14445 := tadd e14444 (a := z14441.toInt) rfl (b := p2.toInt) rfl (by omega))
              refine lv_ldc (v := 999999) hx hb hown (hwd _ wk_250) dX12_fly_73 ?_
              refine lv_icmp_le (tgt := 81) hx hb dX12_fly_75 (by decide) (fun c14446 => ?_) (fun c14446 => ?_)
              · skip
                have t14447 := cv_le (a := z14443.toInt) rfl (b := 999999) (by decide) c14446
                refine lv_iconst (v := 0) hx hb dX12_fly_81 (by decide) ?_
                refine lv_istore (lv' := [(4, .int 0), (0, .ref (g 0)), (1, .int p0), (2, .int p1), (3, .int p2)]) hx hb dX12_fly_82 hl (by decide) rfl (fun ls hl => ?_)
                have lp14448 : ∀ (n : Nat) (x4_lp14448 : Int32) (v_lp14448 : Nat → Int32) (F_lp14448 : Nat → Nat → Int32) (H : Heap) (locs : List Loc) (ls : Array Slot), (0 ≤ x4_lp14448.toInt) → (2147483648 - x4_lp14448.toInt ≤ (n : Int)) → (∀ k, k ∉ ([] : List Nat) → v_lp14448 k = v14426 k) → IM v_lp14448 F_lp14448 → (∀ k, k ∉ ([5, 6, 10, 14, 30, 31] : List Nat) → F_lp14448 k = F k) → va_P (dC, dI) classes (wM g c v_lp14448 F_lp14448 rc) H → va_S (AM g s.heap.size) s.heap H locs → lv_has ls 6 [(4, .int x4_lp14448), (0, .ref (g 0)), (1, .int p0), (2, .int p1), (3, .int p2)] → W p l e (headSpec (Cond.code yX12_fly cX12_fly 6 (some .int) :: wA) ({ frames := 6, cells := 0, slots := 0, locals := 240 })).room s m ([.ref (g 0), .int p0, .int p1, .int p2] : List Value).toArray below meth c0 H locs 0 0 (MQ below (va_Qi (fun (r : Int32) (u : StM) => IM u.1 u.2.1 ∧ u.2.2 = rc ∧ (∀ k, k ∉ ([] : List Nat) → u.1 k = v k) ∧ (∀ k, k ∉ ([5, 6, 10, 14, 30, 31] : List Nat) → u.2.1 k = F k) ∧ True) (BM dC dI g c) (AM g s.heap.size)) ([.ref (g 0), .int p0, .int p1, .int p2] : List Value).toArray s 0 0 (AM g s.heap.size)) (F0 m 84 ls []) := by
                  intro n
                  induction n with
                  | zero =>
                    intro x4_lp14448 v_lp14448 F_lp14448 H locs ls t14449 hm hf_lp14448 hI hF hP hS hl
                    exfalso
                    have := i32_rng x4_lp14448
                    have hI1 := hI.1
                    omega
                  | succ n ih_lp14448 =>
                    intro x4_lp14448 v_lp14448 F_lp14448 H locs ls t14449 hm hf_lp14448 hI hF hP hS hl
                    have rx4_lp14448 := i32_rng x4_lp14448
                    refine lv_iload hx hb dX12_fly_84 (lv_at hl 0 rfl) ?_
                    refine lv_aload_n hx hb dX12_fly_86 rfl (lv_at hl 1 rfl) ?_
                    refine va_get (D := (dC, dI)) (ci := 12) (v := .int (v_lp14448 14)) (C := RX12) (T := TX12) (N := 63) hx hb hwd inA_X12 hown hK hP 0 rfl rfl 14 (by decide) (hwd _ wk_318) (fun _ h9 => h9) rfl dX12_fly_87 ?_
                    refine my_top (v := v 14) ((hf_lp14448 14 (by decide)).trans (hf14428 14 (by decide))) ?_
                    have t14450 : 0 ≤ (v 14).toInt ∧ (v 14).toInt ≤ 100 := by have h9 := hI.1 14 _ _ rfl; rw [show v_lp14448 14 = v 14 from (hf_lp14448 14 (by decide)).trans (hf14428 14 (by decide))] at h9; exact h9
                    refine lv_icmp_ge (tgt := 147) hx hb dX12_fly_90 (by decide) (fun c14451 => ?_) (fun c14451 => ?_)
                    · skip
                      have t14452 := cv_le (a := (v 14).toInt) rfl (b := x4_lp14448.toInt) rfl c14451
                      refine lv_aload_n hx hb dX12_fly_147 rfl (lv_at hl 1 rfl) ?_
                      refine va_get (D := (dC, dI)) (ci := 12) (v := .ref (g 5)) (C := RX12) (T := TX12) (N := 63) hx hb hwd inA_X12 hown hK hP 0 rfl rfl 8 (by decide) (hwd _ wk_186) (fun _ h9 => h9) rfl dX12_fly_148 ?_
                      refine lv_iload_n hx hb dX12_fly_151 rfl (lv_at hl 2 rfl) ?_
                      refine lv_dup2_11 hx hb dX12_fly_152 rfl rfl ?_
                      refine va_iald hx hb hK hP 5 4 rfl rfl (i := p0) (vin (a := p0.toInt) rfl (by omega)) dX12_fly_153 ?_
                      refine lv_topi (fun z14453 e14454 => ?_)
                      refine lv_iload_n hx hb dX12_fly_154 rfl (lv_at hl 3 rfl) ?_
                      refine lv_iadd hx hb dX12_fly_155 ?_
                      refine lv_topi (fun z14455 e14456 => ?_)
                      try (have t14457 := tadd e14456 (a := z14453.toInt) rfl (b := p1.toInt) rfl (by omega))
                      refine va_iast hx hb hK hP (DM hg) hS 5 4 rfl rfl (i := p0) (x := z14455) (vin (a := p0.toInt) rfl (by omega)) dX12_fly_156 (fun H locs hP _ hS => ?_)
                      have hP := va_P_eq (sM_5 g c _ _ _ _) hP
                      have hI := IM.store0 hI 5 (p0 : Int32).toNatClampNeg z14455 rfl
                      have hF := frUF (k := 5) (f := upd (F_lp14448 5) (p0 : Int32).toNatClampNeg z14455) (by decide) hF
                      have hP : va_P (dC, dI) classes (wM g c v_lp14448 (va_up F_lp14448 5 (upd (F_lp14448 5) (p0 : Int32).toNatClampNeg z14455)) rc) H := hP
                      generalize (va_up F_lp14448 5 (upd (F_lp14448 5) (p0 : Int32).toNatClampNeg z14455)) = F14458 at hP hI hF
                      refine lv_aload_n hx hb dX12_fly_157 rfl (lv_at hl 1 rfl) ?_
                      refine va_get (D := (dC, dI)) (ci := 12) (v := .ref (g 6)) (C := RX12) (T := TX12) (N := 63) hx hb hwd inA_X12 hown hK hP 0 rfl rfl 9 (by decide) (hwd _ wk_187) (fun _ h9 => h9) rfl dX12_fly_158 ?_
                      refine lv_iload_n hx hb dX12_fly_161 rfl (lv_at hl 2 rfl) ?_
                      refine lv_dup2_11 hx hb dX12_fly_162 rfl rfl ?_
                      refine va_iald hx hb hK hP 6 5 rfl rfl (i := p0) (vin (a := p0.toInt) rfl (by omega)) dX12_fly_163 ?_
                      refine lv_topi (fun z14459 e14460 => ?_)
                      refine lv_iload_n hx hb dX12_fly_164 rfl (lv_at hl 4 rfl) ?_
                      refine lv_iadd hx hb dX12_fly_165 ?_
                      refine lv_topi (fun z14461 e14462 => ?_)
                      try (have t14463 := tadd e14462 (a := z14459.toInt) rfl (b := p2.toInt) rfl (by omega))
                      refine va_iast hx hb hK hP (DM hg) hS 6 5 rfl rfl (i := p0) (x := z14461) (vin (a := p0.toInt) rfl (by omega)) dX12_fly_166 (fun H locs hP _ hS => ?_)
                      have hP := va_P_eq (sM_6 g c _ _ _ _) hP
                      have hI := IM.store0 hI 6 (p0 : Int32).toNatClampNeg z14461 rfl
                      have hF := frUF (k := 6) (f := upd (F14458 6) (p0 : Int32).toNatClampNeg z14461) (by decide) hF
                      have hP : va_P (dC, dI) classes (wM g c v_lp14448 (va_up F14458 6 (upd (F14458 6) (p0 : Int32).toNatClampNeg z14461)) rc) H := hP
                      generalize (va_up F14458 6 (upd (F14458 6) (p0 : Int32).toNatClampNeg z14461)) = F14464 at hP hI hF
                      refine lv_iconst (v := 0) hx hb dX12_fly_167 (by decide) ?_
                      refine lv_istore (lv' := [(4, .int 0), (0, .ref (g 0)), (1, .int p0), (2, .int p1), (3, .int p2)]) hx hb dX12_fly_168 hl (by decide) rfl (fun ls hl => ?_)
                      have lp14465 : ∀ (n : Nat) (x4_lp14465 : Int32) (v_lp14465 : Nat → Int32) (F_lp14465 : Nat → Nat → Int32) (H : Heap) (locs : List Loc) (ls : Array Slot), (0 ≤ x4_lp14465.toInt) → (2147483648 - x4_lp14465.toInt ≤ (n : Int)) → (∀ k, k ∉ ([] : List Nat) → v_lp14465 k = v_lp14448 k) → IM v_lp14465 F_lp14465 → (∀ k, k ∉ ([5, 6, 10, 14, 30, 31] : List Nat) → F_lp14465 k = F k) → va_P (dC, dI) classes (wM g c v_lp14465 F_lp14465 rc) H → va_S (AM g s.heap.size) s.heap H locs → lv_has ls 6 [(4, .int x4_lp14465), (0, .ref (g 0)), (1, .int p0), (2, .int p1), (3, .int p2)] → W p l e (headSpec (Cond.code yX12_fly cX12_fly 6 (some .int) :: wA) ({ frames := 6, cells := 0, slots := 0, locals := 240 })).room s m ([.ref (g 0), .int p0, .int p1, .int p2] : List Value).toArray below meth c0 H locs 0 0 (MQ below (va_Qi (fun (r : Int32) (u : StM) => IM u.1 u.2.1 ∧ u.2.2 = rc ∧ (∀ k, k ∉ ([] : List Nat) → u.1 k = v k) ∧ (∀ k, k ∉ ([5, 6, 10, 14, 30, 31] : List Nat) → u.2.1 k = F k) ∧ True) (BM dC dI g c) (AM g s.heap.size)) ([.ref (g 0), .int p0, .int p1, .int p2] : List Value).toArray s 0 0 (AM g s.heap.size)) (F0 m 170 ls []) := by
                        intro n
                        induction n with
                        | zero =>
                          intro x4_lp14465 v_lp14465 F_lp14465 H locs ls t14466 hm hf_lp14465 hI hF hP hS hl
                          exfalso
                          have := i32_rng x4_lp14465
                          have hI1 := hI.1
                          omega
                        | succ n ih_lp14465 =>
                          intro x4_lp14465 v_lp14465 F_lp14465 H locs ls t14466 hm hf_lp14465 hI hF hP hS hl
                          have rx4_lp14465 := i32_rng x4_lp14465
                          refine lv_iload hx hb dX12_fly_170 (lv_at hl 0 rfl) ?_
                          refine lv_aload_n hx hb dX12_fly_172 rfl (lv_at hl 1 rfl) ?_
                          refine va_get (D := (dC, dI)) (ci := 12) (v := .int (v_lp14465 14)) (C := RX12) (T := TX12) (N := 63) hx hb hwd inA_X12 hown hK hP 0 rfl rfl 14 (by decide) (hwd _ wk_318) (fun _ h9 => h9) rfl dX12_fly_173 ?_
                          refine my_top (v := v 14) ((hf_lp14465 14 (by decide)).trans ((hf_lp14448 14 (by decide)).trans (hf14428 14 (by decide)))) ?_
                          have t14467 : 0 ≤ (v 14).toInt ∧ (v 14).toInt ≤ 100 := by have h9 := hI.1 14 _ _ rfl; rw [show v_lp14465 14 = v 14 from (hf_lp14465 14 (by decide)).trans ((hf_lp14448 14 (by decide)).trans (hf14428 14 (by decide)))] at h9; exact h9
                          refine lv_icmp_ge (tgt := 275) hx hb dX12_fly_176 (by decide) (fun c14468 => ?_) (fun c14468 => ?_)
                          · skip
                            have t14469 := cv_le (a := (v 14).toInt) rfl (b := x4_lp14465.toInt) rfl c14468
                            refine lv_aload_n hx hb dX12_fly_275 rfl (lv_at hl 1 rfl) ?_
                            refine va_get (D := (dC, dI)) (ci := 12) (v := .ref (g 5)) (C := RX12) (T := TX12) (N := 63) hx hb hwd inA_X12 hown hK hP 0 rfl rfl 8 (by decide) (hwd _ wk_186) (fun _ h9 => h9) rfl dX12_fly_276 ?_
                            refine lv_iload_n hx hb dX12_fly_279 rfl (lv_at hl 2 rfl) ?_
                            refine va_iald hx hb hK hP 5 4 rfl rfl (i := p0) (vin (a := p0.toInt) rfl (by omega)) dX12_fly_280 ?_
                            refine lv_topi (fun z14470 e14471 => ?_)
                            have hP9 : va_P (dC, dI) classes (wM g c v_lp14465 F_lp14465 rc) H := hP
                            exact W.iret (v := z14470) hx hb hr (fun t ht hW => ⟨⟨z14470, (v_lp14465, F_lp14465, rc), rfl, ⟨hI, rfl, (frC (by decide) hf_lp14465 (frC (by decide) hf_lp14448 (frC (by decide) hf14428 (fun _ _ => rfl)))), hF, trivial⟩, (by show va_P _ _ _ t.heap; rw [ht]; exact hP9)⟩, hS.F ht⟩) hS.2.2 dX12_fly_281
                          · skip
                            have t14472 := cv_nle (a := (v 14).toInt) rfl (b := x4_lp14465.toInt) rfl c14468
                            refine lv_aload_n hx hb dX12_fly_179 rfl (lv_at hl 1 rfl) ?_
                            refine va_get (D := (dC, dI)) (ci := 12) (v := .ref (g 13)) (C := RX12) (T := TX12) (N := 63) hx hb hwd inA_X12 hown hK hP 0 rfl rfl 17 (by decide) (hwd _ wk_194) (fun _ h9 => h9) rfl dX12_fly_180 ?_
                            refine lv_iload hx hb dX12_fly_183 (lv_at hl 0 rfl) ?_
                            refine va_iald hx hb hK hP 13 12 rfl rfl (i := x4_lp14465) (vin (a := x4_lp14465.toInt) rfl (by omega)) dX12_fly_185 ?_
                            refine lv_topi (fun z14473 e14474 => ?_)
                            have t14475 : 0 ≤ z14473.toInt ∧ z14473.toInt ≤ 12 := by rw [e14474]; exact hI.2 13 _ _ rfl _
                            have e14474 : z14473 = F 13 (x4_lp14465 : Int32).toNatClampNeg := e14474.trans (congrFun (hF 13 (by decide)) _)
                            refine lv_iload_n hx hb dX12_fly_186 rfl (lv_at hl 2 rfl) ?_
                            refine lv_icmp_eq (tgt := 193) hx hb dX12_fly_187 (by decide) (fun c14476 => ?_) (fun c14476 => ?_)
                            · skip
                              have t14477 := cv_eq (a := z14473.toInt) rfl (b := p0.toInt) rfl c14476
                              refine lv_aload_n hx hb dX12_fly_193 rfl (lv_at hl 1 rfl) ?_
                              refine va_get (D := (dC, dI)) (ci := 12) (v := .ref (g 14)) (C := RX12) (T := TX12) (N := 63) hx hb hwd inA_X12 hown hK hP 0 rfl rfl 18 (by decide) (hwd _ wk_195) (fun _ h9 => h9) rfl dX12_fly_194 ?_
                              refine lv_iconst (v := 3) hx hb dX12_fly_197 (by decide) ?_
                              refine lv_iload hx hb dX12_fly_198 (lv_at hl 0 rfl) ?_
                              refine lv_imul hx hb dX12_fly_200 ?_
                              refine lv_topi (fun z14478 e14479 => ?_)
                              try (have t14480 := tmul e14479 (a := 3) (by decide) (b := x4_lp14465.toInt) rfl (by omega))
                              refine lv_dup2_11 hx hb dX12_fly_201 rfl rfl ?_
                              refine va_iald hx hb hK hP 14 13 rfl rfl (i := z14478) (vin (a := z14478.toInt) rfl (by omega)) dX12_fly_202 ?_
                              refine lv_topi (fun z14481 e14482 => ?_)
                              refine lv_iload_n hx hb dX12_fly_203 rfl (lv_at hl 3 rfl) ?_
                              refine lv_iadd hx hb dX12_fly_204 ?_
                              refine lv_topi (fun z14483 e14484 => ?_)
                              try (have t14485 := tadd e14484 (a := z14481.toInt) rfl (b := p1.toInt) rfl (by omega))
                              refine va_iast hx hb hK hP (DM hg) hS 14 13 rfl rfl (i := z14478) (x := z14483) (vin (a := z14478.toInt) rfl (by omega)) dX12_fly_205 (fun H locs hP _ hS => ?_)
                              have hP := va_P_eq (sM_14 g c _ _ _ _) hP
                              have hI := IM.store0 hI 14 (z14478 : Int32).toNatClampNeg z14483 rfl
                              have hF := frUF (k := 14) (f := upd (F_lp14465 14) (z14478 : Int32).toNatClampNeg z14483) (by decide) hF
                              have hP : va_P (dC, dI) classes (wM g c v_lp14465 (va_up F_lp14465 14 (upd (F_lp14465 14) (z14478 : Int32).toNatClampNeg z14483)) rc) H := hP
                              generalize (va_up F_lp14465 14 (upd (F_lp14465 14) (z14478 : Int32).toNatClampNeg z14483)) = F14486 at hP hI hF
                              refine lv_aload_n hx hb dX12_fly_206 rfl (lv_at hl 1 rfl) ?_
                              refine va_get (D := (dC, dI)) (ci := 12) (v := .ref (g 14)) (C := RX12) (T := TX12) (N := 63) hx hb hwd inA_X12 hown hK hP 0 rfl rfl 18 (by decide) (hwd _ wk_195) (fun _ h9 => h9) rfl dX12_fly_207 ?_
                              refine lv_iconst (v := 3) hx hb dX12_fly_210 (by decide) ?_
                              refine lv_iload hx hb dX12_fly_211 (lv_at hl 0 rfl) ?_
                              refine lv_imul hx hb dX12_fly_213 ?_
                              refine lv_topi (fun z14487 e14488 => ?_)
                              try (have t14489 := tmul e14488 (a := 3) (by decide) (b := x4_lp14465.toInt) rfl (by omega))
                              refine lv_iconst (v := 1) hx hb dX12_fly_214 (by decide) ?_
                              refine lv_iadd hx hb dX12_fly_215 ?_
                              refine lv_topi (fun z14490 e14491 => ?_)
                              try (have t14492 := tadd e14491 (a := z14487.toInt) rfl (b := 1) (by decide) (by omega))
                              refine lv_dup2_11 hx hb dX12_fly_216 rfl rfl ?_
                              refine va_iald hx hb hK hP 14 13 rfl rfl (i := z14490) (vin (a := z14490.toInt) rfl (by omega)) dX12_fly_217 ?_
                              refine lv_topi (fun z14493 e14494 => ?_)
                              refine lv_iload_n hx hb dX12_fly_218 rfl (lv_at hl 4 rfl) ?_
                              refine lv_iadd hx hb dX12_fly_219 ?_
                              refine lv_topi (fun z14495 e14496 => ?_)
                              try (have t14497 := tadd e14496 (a := z14493.toInt) rfl (b := p2.toInt) rfl (by omega))
                              refine va_iast hx hb hK hP (DM hg) hS 14 13 rfl rfl (i := z14490) (x := z14495) (vin (a := z14490.toInt) rfl (by omega)) dX12_fly_220 (fun H locs hP _ hS => ?_)
                              have hP := va_P_eq (sM_14 g c _ _ _ _) hP
                              have hI := IM.store0 hI 14 (z14490 : Int32).toNatClampNeg z14495 rfl
                              have hF := frUF (k := 14) (f := upd (F14486 14) (z14490 : Int32).toNatClampNeg z14495) (by decide) hF
                              have hP : va_P (dC, dI) classes (wM g c v_lp14465 (va_up F14486 14 (upd (F14486 14) (z14490 : Int32).toNatClampNeg z14495)) rc) H := hP
                              generalize (va_up F14486 14 (upd (F14486 14) (z14490 : Int32).toNatClampNeg z14495)) = F14498 at hP hI hF
                              refine lv_bipush (v := 10) hx hb dX12_fly_221 (by decide) ?_
                              refine lv_iload_n hx hb dX12_fly_223 rfl (lv_at hl 2 rfl) ?_
                              refine lv_imul hx hb dX12_fly_224 ?_
                              refine lv_topi (fun z14499 e14500 => ?_)
                              try (have t14501 := tmul e14500 (a := 10) (by decide) (b := p0.toInt) rfl (by omega))
                              refine lv_aload_n hx hb dX12_fly_225 rfl (lv_at hl 1 rfl) ?_
                              refine va_get (D := (dC, dI)) (ci := 12) (v := .ref (g 11)) (C := RX12) (T := TX12) (N := 63) hx hb hwd inA_X12 hown hK hP 0 rfl rfl 15 (by decide) (hwd _ wk_192) (fun _ h9 => h9) rfl dX12_fly_226 ?_
                              refine lv_iload hx hb dX12_fly_229 (lv_at hl 0 rfl) ?_
                              refine va_iald hx hb hK hP 11 10 rfl rfl (i := x4_lp14465) (vin (a := x4_lp14465.toInt) rfl (by omega)) dX12_fly_231 ?_
                              refine lv_topi (fun z14502 e14503 => ?_)
                              have t14504 : 0 ≤ z14502.toInt ∧ z14502.toInt ≤ 9 := by rw [e14503]; exact hI.2 11 _ _ rfl _
                              have e14503 : z14502 = F 11 (x4_lp14465 : Int32).toNatClampNeg := e14503.trans (congrFun (hF 11 (by decide)) _)
                              refine lv_iadd hx hb dX12_fly_232 ?_
                              refine lv_topi (fun z14505 e14506 => ?_)
                              try (have t14507 := tadd e14506 (a := z14499.toInt) rfl (b := z14502.toInt) rfl (by omega))
                              refine lv_istore (lv' := [(5, .int z14505), (4, .int x4_lp14465), (0, .ref (g 0)), (1, .int p0), (2, .int p1), (3, .int p2)]) hx hb dX12_fly_233 hl (by decide) rfl (fun ls hl => ?_)
                              refine lv_aload_n hx hb dX12_fly_235 rfl (lv_at hl 2 rfl) ?_
                              refine va_get (D := (dC, dI)) (ci := 12) (v := .ref (g 10)) (C := RX12) (T := TX12) (N := 63) hx hb hwd inA_X12 hown hK hP 0 rfl rfl 13 (by decide) (hwd _ wk_191) (fun _ h9 => h9) rfl dX12_fly_236 ?_
                              refine lv_iload hx hb dX12_fly_239 (lv_at hl 0 rfl) ?_
                              refine lv_aload_n hx hb dX12_fly_241 rfl (lv_at hl 2 rfl) ?_
                              refine va_get (D := (dC, dI)) (ci := 12) (v := .ref (g 10)) (C := RX12) (T := TX12) (N := 63) hx hb hwd inA_X12 hown hK hP 0 rfl rfl 13 (by decide) (hwd _ wk_191) (fun _ h9 => h9) rfl dX12_fly_242 ?_
                              refine lv_iload hx hb dX12_fly_245 (lv_at hl 0 rfl) ?_
                              refine va_iald hx hb hK hP 10 9 rfl rfl (i := z14505) (vin (a := z14505.toInt) rfl (by omega)) dX12_fly_247 ?_
                              refine lv_topi (fun z14508 e14509 => ?_)
                              refine lv_i2l hx hb dX12_fly_248 rfl ?_
                              refine lv_topl (fun z14510 e14511 => ?_)
                              refine lv_iload_n hx hb dX12_fly_249 rfl (lv_at hl 4 rfl) ?_
                              refine lv_aload_n hx hb dX12_fly_250 rfl (lv_at hl 2 rfl) ?_
                              refine va_get (D := (dC, dI)) (ci := 12) (v := .ref (g 3)) (C := RX12) (T := TX12) (N := 63) hx hb hwd inA_X12 hown hK hP 0 rfl rfl 5 (by decide) (hwd _ wk_184) (fun _ h9 => h9) rfl dX12_fly_251 ?_
                              refine lv_aload_n hx hb dX12_fly_254 rfl (lv_at hl 2 rfl) ?_
                              refine va_get (D := (dC, dI)) (ci := 12) (v := .ref (g 11)) (C := RX12) (T := TX12) (N := 63) hx hb hwd inA_X12 hown hK hP 0 rfl rfl 15 (by decide) (hwd _ wk_192) (fun _ h9 => h9) rfl dX12_fly_255 ?_
                              refine lv_iload hx hb dX12_fly_258 (lv_at hl 1 rfl) ?_
                              refine va_iald hx hb hK hP 11 10 rfl rfl (i := x4_lp14465) (vin (a := x4_lp14465.toInt) rfl (by omega)) dX12_fly_260 ?_
                              refine lv_topi (fun z14512 e14513 => ?_)
                              have t14514 : 0 ≤ z14512.toInt ∧ z14512.toInt ≤ 9 := by rw [e14513]; exact hI.2 11 _ _ rfl _
                              have e14513 : z14512 = F 11 (x4_lp14465 : Int32).toNatClampNeg := e14513.trans (congrFun (hF 11 (by decide)) _)
                              refine va_iald hx hb hK hP 3 2 rfl rfl (i := z14512) (vin (a := z14512.toInt) rfl (by omega)) dX12_fly_261 ?_
                              refine lv_topi (fun z14515 e14516 => ?_)
                              have e14516 : z14515 = F 3 (z14512 : Int32).toNatClampNeg := e14516.trans (congrFun (hF 3 (by decide)) _)
                              refine lv_imul hx hb dX12_fly_262 ?_
                              refine lv_topi (fun z14517 e14518 => ?_)
                              try (have t14519 := tmul e14518 (a := p1.toInt) rfl (b := z14515.toInt) rfl (by omega))
                              refine lv_i2l hx hb dX12_fly_263 rfl ?_
                              refine lv_topl (fun z14520 e14521 => ?_)
                              refine lv_ladd hx hb dX12_fly_264 ?_
                              refine lv_topl (fun z14522 e14523 => ?_)
                              refine va_calli (va_runS (As := [.long z14522]) (rest := [.int z14505, .ref (g 10)]) ⟨hx, hb, hml, hown, hwd⟩ (c_X12_held l dC dI g c adK adV v_lp14465 F14498 rc H.size z14522 hg hI ) (va_cwS 1 hwd (gT wk_523 wk_521 wk_522 wk_5) rfl rfl rfl (by decide +kernel) ⟨Nat.le_of_ble_eq_true rfl, Nat.le_of_ble_eq_true rfl⟩) ⟨PM.blind, fun U hU hW => ⟨rfl, PM.at hK hE hP hS hU hW⟩⟩ rfl rfl hl.1 rfl (lv_room (Nat.le_of_ble_eq_true rfl)) dX12_fly_265 ⟨Nat.le_of_ble_eq_true rfl, Nat.le_of_ble_eq_true rfl⟩) hS (fun q _ h => (freeM hS) q h) (freeM hS) (fun r14524 u t H1 locs ht hvm hw hB hz1 hk1 hS => ?_)
                              unfold BM at hB
                              rw [ht] at hB
                              have hP : va_P (dC, dI) classes (wM g c v_lp14465 F14498 rc) H1 := hB
                              clear hz1
                              generalize H1 = H at hP hS ⊢
                              have rr_r14524 := i32_rng r14524
                              refine va_iast hx hb hK hP (DM hg) hS 10 9 rfl rfl (i := z14505) (x := r14524) (vin (a := z14505.toInt) rfl (by omega)) dX12_fly_268 (fun H locs hP _ hS => ?_)
                              have hP := va_P_eq (sM_10 g c _ _ _ _) hP
                              have hI := IM.store0 hI 10 (z14505 : Int32).toNatClampNeg r14524 rfl
                              have hF := frUF (k := 10) (f := upd (F14498 10) (z14505 : Int32).toNatClampNeg r14524) (by decide) hF
                              have hP : va_P (dC, dI) classes (wM g c v_lp14465 (va_up F14498 10 (upd (F14498 10) (z14505 : Int32).toNatClampNeg r14524)) rc) H := hP
                              generalize (va_up F14498 10 (upd (F14498 10) (z14505 : Int32).toNatClampNeg r14524)) = F14525 at hP hI hF
                              obtain ⟨z14526, e14527⟩ : ∃ y : Int32, y = x4_lp14465 + 1 := ⟨_, rfl⟩
                              try (have t14528 := tadd e14527 rfl (b := 1) (by decide) (by omega))
                              refine lv_iinc (v := z14526) (lv' := [(4, .int z14526), (5, .int z14505), (0, .ref (g 0)), (1, .int p0), (2, .int p1), (3, .int p2)]) hx hb dX12_fly_269 hl (k := 1) rfl (by rw [e14527]; rfl) (by decide) rfl (fun ls hl => ?_)
                              refine lv_goto (tgt := 170) hx hb dX12_fly_272 (by decide) ?_
                              exact ih_lp14465 z14526 v_lp14465 F14525 _ _ _ (by omega) (by omega) hf_lp14465 hI hF hP hS (lv_sub hl [0, 2, 3, 4, 5] rfl)
                            · skip
                              have t14529 := cv_ne (a := z14473.toInt) rfl (b := p0.toInt) rfl c14476
                              refine lv_goto (tgt := 269) hx hb dX12_fly_190 (by decide) ?_
                              obtain ⟨z14530, e14531⟩ : ∃ y : Int32, y = x4_lp14465 + 1 := ⟨_, rfl⟩
                              try (have t14532 := tadd e14531 rfl (b := 1) (by decide) (by omega))
                              refine lv_iinc (v := z14530) (lv' := [(4, .int z14530), (0, .ref (g 0)), (1, .int p0), (2, .int p1), (3, .int p2)]) hx hb dX12_fly_269 hl (k := 0) rfl (by rw [e14531]; rfl) (by decide) rfl (fun ls hl => ?_)
                              refine lv_goto (tgt := 170) hx hb dX12_fly_272 (by decide) ?_
                              exact ih_lp14465 z14530 v_lp14465 F_lp14465 _ _ _ (by omega) (by omega) hf_lp14465 hI hF hP hS (lv_sub hl [0, 1, 2, 3, 4] rfl)
                      obtain ⟨n9, hn9⟩ : ∃ n : Nat, 2147483648 - 0 ≤ (n : Int) := ⟨((2147483648 - 0 : Int)).toNat, by omega⟩
                      exact lp14465 n9 0 v_lp14448 F14464 H _ ls (by have : (0 : Int32).toInt = 0 := (by decide); omega) (by have : (0 : Int32).toInt = 0 := (by decide); omega) (fun _ _ => rfl) hI hF hP hS hl
                    · skip
                      have t14533 := cv_nle (a := (v 14).toInt) rfl (b := x4_lp14448.toInt) rfl c14451
                      refine lv_aload_n hx hb dX12_fly_93 rfl (lv_at hl 1 rfl) ?_
                      refine va_get (D := (dC, dI)) (ci := 12) (v := .ref (g 13)) (C := RX12) (T := TX12) (N := 63) hx hb hwd inA_X12 hown hK hP 0 rfl rfl 17 (by decide) (hwd _ wk_194) (fun _ h9 => h9) rfl dX12_fly_94 ?_
                      refine lv_iload hx hb dX12_fly_97 (lv_at hl 0 rfl) ?_
                      refine va_iald hx hb hK hP 13 12 rfl rfl (i := x4_lp14448) (vin (a := x4_lp14448.toInt) rfl (by omega)) dX12_fly_99 ?_
                      refine lv_topi (fun z14534 e14535 => ?_)
                      have t14536 : 0 ≤ z14534.toInt ∧ z14534.toInt ≤ 12 := by rw [e14535]; exact hI.2 13 _ _ rfl _
                      have e14535 : z14534 = F 13 (x4_lp14448 : Int32).toNatClampNeg := e14535.trans (congrFun (hF 13 (by decide)) _)
                      refine lv_iload_n hx hb dX12_fly_100 rfl (lv_at hl 2 rfl) ?_
                      refine lv_icmp_ne (tgt := 141) hx hb dX12_fly_101 (by decide) (fun c14537 => ?_) (fun c14537 => ?_)
                      · skip
                        have t14538 := cv_ne (a := z14534.toInt) rfl (b := p0.toInt) rfl c14537
                        obtain ⟨z14539, e14540⟩ : ∃ y : Int32, y = x4_lp14448 + 1 := ⟨_, rfl⟩
                        try (have t14541 := tadd e14540 rfl (b := 1) (by decide) (by omega))
                        refine lv_iinc (v := z14539) (lv' := [(4, .int z14539), (0, .ref (g 0)), (1, .int p0), (2, .int p1), (3, .int p2)]) hx hb dX12_fly_141 hl (k := 0) rfl (by rw [e14540]; rfl) (by decide) rfl (fun ls hl => ?_)
                        refine lv_goto (tgt := 84) hx hb dX12_fly_144 (by decide) ?_
                        exact ih_lp14448 z14539 v_lp14448 F_lp14448 _ _ _ (by omega) (by omega) hf_lp14448 hI hF hP hS (lv_sub hl [0, 1, 2, 3, 4] rfl)
                      · skip
                        have t14542 := cv_eq (a := z14534.toInt) rfl (b := p0.toInt) rfl c14537
                        refine lv_aload_n hx hb dX12_fly_104 rfl (lv_at hl 1 rfl) ?_
                        refine va_get (D := (dC, dI)) (ci := 12) (v := .ref (g 14)) (C := RX12) (T := TX12) (N := 63) hx hb hwd inA_X12 hown hK hP 0 rfl rfl 18 (by decide) (hwd _ wk_195) (fun _ h9 => h9) rfl dX12_fly_105 ?_
                        refine lv_iconst (v := 3) hx hb dX12_fly_108 (by decide) ?_
                        refine lv_iload hx hb dX12_fly_109 (lv_at hl 0 rfl) ?_
                        refine lv_imul hx hb dX12_fly_111 ?_
                        refine lv_topi (fun z14543 e14544 => ?_)
                        try (have t14545 := tmul e14544 (a := 3) (by decide) (b := x4_lp14448.toInt) rfl (by omega))
                        refine va_iald hx hb hK hP 14 13 rfl rfl (i := z14543) (vin (a := z14543.toInt) rfl (by omega)) dX12_fly_112 ?_
                        refine lv_topi (fun z14546 e14547 => ?_)
                        refine lv_iload_n hx hb dX12_fly_113 rfl (lv_at hl 3 rfl) ?_
                        refine lv_iadd hx hb dX12_fly_114 ?_
                        refine lv_topi (fun z14548 e14549 => ?_)
                        try (have t14550 := tadd e14549 (a := z14546.toInt) rfl (b := p1.toInt) rfl (by omega))
                        refine lv_ldc (v := 999999) hx hb hown (hwd _ wk_250) dX12_fly_115 ?_
                        refine lv_icmp_gt (tgt := 138) hx hb dX12_fly_117 (by decide) (fun c14551 => ?_) (fun c14551 => ?_)
                        · skip
                          have t14552 := cv_lt (a := 999999) (by decide) (b := z14548.toInt) rfl c14551
                          refine lv_bipush (v := (-2)) hx hb dX12_fly_138 (by decide) ?_
                          have hP9 : va_P (dC, dI) classes (wM g c v_lp14448 F_lp14448 rc) H := hP
                          exact W.iret (v := (-2)) hx hb hr (fun t ht hW => ⟨⟨(-2), (v_lp14448, F_lp14448, rc), rfl, ⟨hI, rfl, (frC (by decide) hf_lp14448 (frC (by decide) hf14428 (fun _ _ => rfl))), hF, trivial⟩, (by show va_P _ _ _ t.heap; rw [ht]; exact hP9)⟩, hS.F ht⟩) hS.2.2 dX12_fly_140
                        · skip
                          have t14553 := cv_nlt (a := 999999) (by decide) (b := z14548.toInt) rfl c14551
                          refine lv_aload_n hx hb dX12_fly_120 rfl (lv_at hl 1 rfl) ?_
                          refine va_get (D := (dC, dI)) (ci := 12) (v := .ref (g 14)) (C := RX12) (T := TX12) (N := 63) hx hb hwd inA_X12 hown hK hP 0 rfl rfl 18 (by decide) (hwd _ wk_195) (fun _ h9 => h9) rfl dX12_fly_121 ?_
                          refine lv_iconst (v := 3) hx hb dX12_fly_124 (by decide) ?_
                          refine lv_iload hx hb dX12_fly_125 (lv_at hl 0 rfl) ?_
                          refine lv_imul hx hb dX12_fly_127 ?_
                          refine lv_topi (fun z14554 e14555 => ?_)
                          try (have t14556 := tmul e14555 (a := 3) (by decide) (b := x4_lp14448.toInt) rfl (by omega))
                          refine lv_iconst (v := 1) hx hb dX12_fly_128 (by decide) ?_
                          refine lv_iadd hx hb dX12_fly_129 ?_
                          refine lv_topi (fun z14557 e14558 => ?_)
                          try (have t14559 := tadd e14558 (a := z14554.toInt) rfl (b := 1) (by decide) (by omega))
                          refine va_iald hx hb hK hP 14 13 rfl rfl (i := z14557) (vin (a := z14557.toInt) rfl (by omega)) dX12_fly_130 ?_
                          refine lv_topi (fun z14560 e14561 => ?_)
                          refine lv_iload_n hx hb dX12_fly_131 rfl (lv_at hl 4 rfl) ?_
                          refine lv_iadd hx hb dX12_fly_132 ?_
                          refine lv_topi (fun z14562 e14563 => ?_)
                          try (have t14564 := tadd e14563 (a := z14560.toInt) rfl (b := p2.toInt) rfl (by omega))
                          refine lv_ldc (v := 999999) hx hb hown (hwd _ wk_250) dX12_fly_133 ?_
                          refine lv_icmp_le (tgt := 141) hx hb dX12_fly_135 (by decide) (fun c14565 => ?_) (fun c14565 => ?_)
                          · skip
                            have t14566 := cv_le (a := z14562.toInt) rfl (b := 999999) (by decide) c14565
                            obtain ⟨z14567, e14568⟩ : ∃ y : Int32, y = x4_lp14448 + 1 := ⟨_, rfl⟩
                            try (have t14569 := tadd e14568 rfl (b := 1) (by decide) (by omega))
                            refine lv_iinc (v := z14567) (lv' := [(4, .int z14567), (0, .ref (g 0)), (1, .int p0), (2, .int p1), (3, .int p2)]) hx hb dX12_fly_141 hl (k := 0) rfl (by rw [e14568]; rfl) (by decide) rfl (fun ls hl => ?_)
                            refine lv_goto (tgt := 84) hx hb dX12_fly_144 (by decide) ?_
                            exact ih_lp14448 z14567 v_lp14448 F_lp14448 _ _ _ (by omega) (by omega) hf_lp14448 hI hF hP hS (lv_sub hl [0, 1, 2, 3, 4] rfl)
                          · skip
                            have t14570 := cv_nle (a := z14562.toInt) rfl (b := 999999) (by decide) c14565
                            refine lv_bipush (v := (-2)) hx hb dX12_fly_138 (by decide) ?_
                            have hP9 : va_P (dC, dI) classes (wM g c v_lp14448 F_lp14448 rc) H := hP
                            exact W.iret (v := (-2)) hx hb hr (fun t ht hW => ⟨⟨(-2), (v_lp14448, F_lp14448, rc), rfl, ⟨hI, rfl, (frC (by decide) hf_lp14448 (frC (by decide) hf14428 (fun _ _ => rfl))), hF, trivial⟩, (by show va_P _ _ _ t.heap; rw [ht]; exact hP9)⟩, hS.F ht⟩) hS.2.2 dX12_fly_140
                obtain ⟨n9, hn9⟩ : ∃ n : Nat, 2147483648 - 0 ≤ (n : Int) := ⟨((2147483648 - 0 : Int)).toNat, by omega⟩
                exact lp14448 n9 0 v14426 F14427 H _ ls (by have : (0 : Int32).toInt = 0 := (by decide); omega) (by have : (0 : Int32).toInt = 0 := (by decide); omega) (fun _ _ => rfl) hI hF hP hS hl
              · skip
                have t14571 := cv_nle (a := z14443.toInt) rfl (b := 999999) (by decide) c14446
                refine lv_bipush (v := (-2)) hx hb dX12_fly_78 (by decide) ?_
                have hP9 : va_P (dC, dI) classes (wM g c v14426 F14427 rc) H := hP
                exact W.iret (v := (-2)) hx hb hr (fun t ht hW => ⟨⟨(-2), (v14426, F14427, rc), rfl, ⟨hI, rfl, (frC (by decide) hf14428 (fun _ _ => rfl)), hF, trivial⟩, (by show va_P _ _ _ t.heap; rw [ht]; exact hP9)⟩, hS.F ht⟩) hS.2.2 dX12_fly_80
      · skip
        have t14572 := cv_eq (a := r14415.toInt) rfl (b := 0) (by decide) c14418
        refine lv_iconst (v := (-1)) hx hb dX12_fly_30 (by decide) ?_
        have hP9 : va_P (dC, dI) classes (wM g c v F rc) H := hP
        exact W.iret (v := (-1)) hx hb hr (fun t ht hW => ⟨⟨(-1), (v, F, rc), rfl, ⟨hI, rfl, (fun _ _ => rfl), hF, trivial⟩, (by show va_P _ _ _ t.heap; rw [ht]; exact hP9)⟩, hS.F ht⟩) hS.2.2 dX12_fly_31
set_option maxHeartbeats 8000000 in
set_option maxRecDepth 100000 in
theorem c_X12_ofPlane (l : Launch) (dC : Nat → ClassId) (dI : Nat → Nat → Nat) (g : Nat → Nat) (c : Nat → ClassId) (adK adV : Nat → Nat) (v : Nat → Int32) (F : Nat → Nat → Int32) (rc sz : Nat) (p0 : Int32) (p1 : Int32) (hg : injM g) (hI : IM v F) : Met l yX12_ofPlane (Cond.code yX12_ofPlane cX12_ofPlane 5 (some .int) :: wA) ({ frames := 3, cells := 0, slots := 0, locals := 120 }) (va_Pc [.ref (g 0), .int p0, .int p1] (PM dC dI g c adK adV v F rc sz)) (va_Qi (fun (r : Int32) (u : Unit) => True) (fun (_ : Unit) => BM dC dI g c (v, F, rc)) (AM g sz)) 0 0 (AM g sz) := by
  refine Met.ofW (cc := cX12_ofPlane) (maxL := 5) (ret := (some .int)) (by decide) rfl ?_
  intro p e s m args below meth c0 s₁ B hml hv
  obtain ⟨rfl, hsz, hP, hK, hE⟩ := hv
  have hx := B.exec
  have hb := B.bytes
  have hr := B.returns
  have hts := atoms_spec (ws := Cond.code yX12_ofPlane cX12_ofPlane 5 (some .int) :: wA) B.pre
  have hwd : ∀ w ∈ wA, w.before _ s = true := fun w h => hts w (List.mem_cons_of_mem _ h)
  have hown : s.vm.findClass RX12 = some m.cls := findClass_of_methodNamed B.named
  have hlocks := B.notSynchronized
  subst hsz
  have hl := lv_entry ([.ref (g 0), .int p0, .int p1]) (n := 5) (Nat.le_of_ble_eq_true rfl)
  rw [lg_entry_eq]
  generalize (lg_sl ([.ref (g 0), .int p0, .int p1]) ++ List.replicate (5 - (lg_sl ([.ref (g 0), .int p0, .int p1])).length) Slot.unset).toArray = ls at hl ⊢
  have hl : lv_has ls 5 [(0, .ref (g 0)), (1, .int p0), (2, .int p1)] := hl
  obtain ⟨H, eH⟩ : ∃ z, z = s.heap := ⟨_, rfl⟩
  have hP : va_P (dC, dI) classes (wM g c v F rc) H := by rw [eH]; exact hP
  have hS : va_S (AM g s.heap.size) s.heap H [] := by rw [eH]; exact va_S.rf
  refine my_heap eH ?_
  have rp0 := i32_rng p0
  have rp1 := i32_rng p1
  refine lv_aload_n hx hb dX12_ofPlane_0 rfl (lv_at hl 0 rfl) ?_
  refine lv_iload_n hx hb dX12_ofPlane_1 rfl (lv_at hl 1 rfl) ?_
  have t14573 : 0 ≤ (v 6).toInt ∧ (v 6).toInt ≤ 10 := hI.1 6 _ _ rfl
  refine va_calli (va_runV (As := [.int p0]) (rest := []) ⟨hx, hb, hml, hown, hwd⟩ (c_X12_isPlane l dC dI g c adK adV v F rc H.size p0 hg hI ) (cwV 1 hwd (gV wk_305 wk_302 wk_303 wk_304 wk_5) rfl rfl rfl (by decide +kernel) ⟨Nat.le_of_ble_eq_true rfl, Nat.le_of_ble_eq_true rfl⟩) ⟨PM.blind, va_recv hK hP (ci := 12) (q0 := 0) rfl rfl, fun U hU hW => ⟨rfl, PM.at hK hE hP hS hU hW⟩⟩ rfl rfl hl.1 rfl (lv_room (Nat.le_of_ble_eq_true rfl)) dX12_ofPlane_2 ⟨Nat.le_of_ble_eq_true rfl, Nat.le_of_ble_eq_true rfl⟩) hS (fun q _ h => (freeM hS) q h) (freeM hS) (fun r14574 u t H1 locs ht hvm hw hB hz1 hk1 hS => ?_)
  unfold BM at hB
  rw [ht] at hB
  have hP : va_P (dC, dI) classes (wM g c v F rc) H1 := hB
  replace hw : (r14574.toInt = 1 ∧ 0 ≤ p0.toInt ∧ p0.toInt < (v 6).toInt) ∨ (r14574.toInt = 0 ∧ (p0.toInt < 0 ∨ (v 6).toInt ≤ p0.toInt)) := hw
  have hw_r14574 := hw
  clear hw
  clear hz1
  generalize H1 = H at hP hS ⊢
  refine lv_if_ne (tgt := 11) hx hb dX12_ofPlane_5 (by decide) (fun c14575 => ?_) (fun c14575 => ?_)
  · skip
    have t14576 := cv_ne (a := r14574.toInt) rfl (b := 0) (by decide) c14575
    refine lv_iconst (v := 0) hx hb dX12_ofPlane_11 (by decide) ?_
    refine lv_istore_n (lv' := [(3, .int 0), (0, .ref (g 0)), (1, .int p0), (2, .int p1)]) hx hb dX12_ofPlane_12 rfl hl (by decide) rfl (fun ls hl => ?_)
    refine lv_iload_n hx hb dX12_ofPlane_13 rfl (lv_at hl 3 rfl) ?_
    by_cases hlo14577 : p1.toInt < 0
    · refine lv_tableOut (tgt := 166) hx hb dX12_ofPlane_14 (Or.inl hlo14577) (by decide) ?_
      refine lv_ldc (v := (-2000000000)) hx hb hown (hwd _ wk_542) dX12_ofPlane_166 ?_
      have hP9 : va_P (dC, dI) classes (wM g c v F rc) H := hP
      exact W.iret (v := (-2000000000)) hx hb hr (fun t ht hW => ⟨⟨(-2000000000), (), rfl, trivial, (by show va_P _ _ _ t.heap; rw [ht]; exact hP9)⟩, hS.F ht⟩) hS.2.2 dX12_ofPlane_168
    by_cases hhi14578 : 8 < p1.toInt
    · refine lv_tableOut (tgt := 166) hx hb dX12_ofPlane_14 (Or.inr hhi14578) (by decide) ?_
      refine lv_ldc (v := (-2000000000)) hx hb hown (hwd _ wk_542) dX12_ofPlane_166 ?_
      have hP9 : va_P (dC, dI) classes (wM g c v F rc) H := hP
      exact W.iret (v := (-2000000000)) hx hb hr (fun t ht hW => ⟨⟨(-2000000000), (), rfl, trivial, (by show va_P _ _ _ t.heap; rw [ht]; exact hP9)⟩, hS.F ht⟩) hS.2.2 dX12_ofPlane_168
    rcases (show p1.toInt = 0 ∨ p1.toInt = 1 ∨ p1.toInt = 2 ∨ p1.toInt = 3 ∨ p1.toInt = 4 ∨ p1.toInt = 5 ∨ p1.toInt = 6 ∨ p1.toInt = 7 ∨ p1.toInt = 8 by omega) with hk | hk | hk | hk | hk | hk | hk | hk | hk
    · refine lv_tableIn (off := 50) (tgt := 64) hx hb dX12_ofPlane_14 hlo14577 hhi14578 (by rw [hk]; decide) (by decide) ?_
      refine lv_aload_n hx hb dX12_ofPlane_64 rfl (lv_at hl 1 rfl) ?_
      refine va_get (D := (dC, dI)) (ci := 12) (v := .ref (g 5)) (C := RX12) (T := TX12) (N := 63) hx hb hwd inA_X12 hown hK hP 0 rfl rfl 8 (by decide) (hwd _ wk_186) (fun _ h9 => h9) rfl dX12_ofPlane_65 ?_
      refine lv_iload_n hx hb dX12_ofPlane_68 rfl (lv_at hl 2 rfl) ?_
      refine va_iald hx hb hK hP 5 4 rfl rfl (i := p0) (vin (a := p0.toInt) rfl (by omega)) dX12_ofPlane_69 ?_
      refine lv_topi (fun z14579 e14580 => ?_)
      have hP9 : va_P (dC, dI) classes (wM g c v F rc) H := hP
      exact W.iret (v := z14579) hx hb hr (fun t ht hW => ⟨⟨z14579, (), rfl, trivial, (by show va_P _ _ _ t.heap; rw [ht]; exact hP9)⟩, hS.F ht⟩) hS.2.2 dX12_ofPlane_70
    · refine lv_tableIn (off := 57) (tgt := 71) hx hb dX12_ofPlane_14 hlo14577 hhi14578 (by rw [hk]; decide) (by decide) ?_
      refine lv_aload_n hx hb dX12_ofPlane_71 rfl (lv_at hl 1 rfl) ?_
      refine va_get (D := (dC, dI)) (ci := 12) (v := .ref (g 6)) (C := RX12) (T := TX12) (N := 63) hx hb hwd inA_X12 hown hK hP 0 rfl rfl 9 (by decide) (hwd _ wk_187) (fun _ h9 => h9) rfl dX12_ofPlane_72 ?_
      refine lv_iload_n hx hb dX12_ofPlane_75 rfl (lv_at hl 2 rfl) ?_
      refine va_iald hx hb hK hP 6 5 rfl rfl (i := p0) (vin (a := p0.toInt) rfl (by omega)) dX12_ofPlane_76 ?_
      refine lv_topi (fun z14581 e14582 => ?_)
      have hP9 : va_P (dC, dI) classes (wM g c v F rc) H := hP
      exact W.iret (v := z14581) hx hb hr (fun t ht hW => ⟨⟨z14581, (), rfl, trivial, (by show va_P _ _ _ t.heap; rw [ht]; exact hP9)⟩, hS.F ht⟩) hS.2.2 dX12_ofPlane_77
    · refine lv_tableIn (off := 64) (tgt := 78) hx hb dX12_ofPlane_14 hlo14577 hhi14578 (by rw [hk]; decide) (by decide) ?_
      refine lv_aload_n hx hb dX12_ofPlane_78 rfl (lv_at hl 1 rfl) ?_
      refine lv_iload_n hx hb dX12_ofPlane_79 rfl (lv_at hl 2 rfl) ?_
      refine va_calli (va_runV (As := [.int p0]) (rest := []) ⟨hx, hb, hml, hown, hwd⟩ (c_X12_isReturned l dC dI g c adK adV v F rc H.size p0 hg hI (by omega)) (cwV 1 hwd (gV wk_313 wk_310 wk_311 wk_312 wk_5) rfl rfl rfl (by decide +kernel) ⟨Nat.le_of_ble_eq_true rfl, Nat.le_of_ble_eq_true rfl⟩) ⟨PM.blind, va_recv hK hP (ci := 12) (q0 := 0) rfl rfl, fun U hU hW => ⟨rfl, PM.at hK hE hP hS hU hW⟩⟩ rfl rfl hl.1 rfl (lv_room (Nat.le_of_ble_eq_true rfl)) dX12_ofPlane_80 ⟨Nat.le_of_ble_eq_true rfl, Nat.le_of_ble_eq_true rfl⟩) hS (fun q _ h => (freeM hS) q h) (freeM hS) (fun r14583 u t H1 locs ht hvm hw hB hz1 hk1 hS => ?_)
      unfold BM at hB
      rw [ht] at hB
      have hP : va_P (dC, dI) classes (wM g c v F rc) H1 := hB
      have hw_r14583 : 0 ≤ r14583.toInt ∧ r14583.toInt ≤ 1 := hw
      clear hw
      clear hz1
      generalize H1 = H at hP hS ⊢
      refine lv_if_eq (tgt := 90) hx hb dX12_ofPlane_83 (by decide) (fun c14584 => ?_) (fun c14584 => ?_)
      · skip
        have t14585 := cv_eq (a := r14583.toInt) rfl (b := 0) (by decide) c14584
        refine lv_iconst (v := 0) hx hb dX12_ofPlane_90 (by decide) ?_
        have hP9 : va_P (dC, dI) classes (wM g c v F rc) H := hP
        exact W.iret (v := 0) hx hb hr (fun t ht hW => ⟨⟨0, (), rfl, trivial, (by show va_P _ _ _ t.heap; rw [ht]; exact hP9)⟩, hS.F ht⟩) hS.2.2 dX12_ofPlane_91
      · skip
        have t14586 := cv_ne (a := r14583.toInt) rfl (b := 0) (by decide) c14584
        refine lv_iconst (v := 1) hx hb dX12_ofPlane_86 (by decide) ?_
        refine lv_goto (tgt := 91) hx hb dX12_ofPlane_87 (by decide) ?_
        have hP9 : va_P (dC, dI) classes (wM g c v F rc) H := hP
        exact W.iret (v := 1) hx hb hr (fun t ht hW => ⟨⟨1, (), rfl, trivial, (by show va_P _ _ _ t.heap; rw [ht]; exact hP9)⟩, hS.F ht⟩) hS.2.2 dX12_ofPlane_91
    · refine lv_tableIn (off := 78) (tgt := 92) hx hb dX12_ofPlane_14 hlo14577 hhi14578 (by rw [hk]; decide) (by decide) ?_
      refine lv_iconst (v := 0) hx hb dX12_ofPlane_92 (by decide) ?_
      refine lv_istore (lv' := [(4, .int 0), (3, .int 0), (0, .ref (g 0)), (1, .int p0), (2, .int p1)]) hx hb dX12_ofPlane_93 hl (by decide) rfl (fun ls hl => ?_)
      have lp14587 : ∀ (n : Nat) (x4_lp14587 : Int32) (x3_lp14587 : Int32) (H : Heap) (locs : List Loc) (ls : Array Slot), (0 ≤ x4_lp14587.toInt) → (2147483648 - x4_lp14587.toInt ≤ (n : Int)) → va_P (dC, dI) classes (wM g c v F rc) H → va_S (AM g s.heap.size) s.heap H locs → lv_has ls 5 [(4, .int x4_lp14587), (3, .int x3_lp14587), (0, .ref (g 0)), (1, .int p0), (2, .int p1)] → W p l e (headSpec (Cond.code yX12_ofPlane cX12_ofPlane 5 (some .int) :: wA) ({ frames := 3, cells := 0, slots := 0, locals := 120 })).room s m ([.ref (g 0), .int p0, .int p1] : List Value).toArray below meth c0 H locs 0 0 (MQ below (va_Qi (fun (r : Int32) (u : Unit) => True) (fun (_ : Unit) => BM dC dI g c (v, F, rc)) (AM g s.heap.size)) ([.ref (g 0), .int p0, .int p1] : List Value).toArray s 0 0 (AM g s.heap.size)) (F0 m 95 ls []) := by
        intro n
        induction n with
        | zero =>
          intro x4_lp14587 x3_lp14587 H locs ls t14588 hm hP hS hl
          exfalso
          have := i32_rng x4_lp14587
          have := i32_rng x3_lp14587
          omega
        | succ n ih_lp14587 =>
          intro x4_lp14587 x3_lp14587 H locs ls t14588 hm hP hS hl
          have rx4_lp14587 := i32_rng x4_lp14587
          have rx3_lp14587 := i32_rng x3_lp14587
          refine lv_iload hx hb dX12_ofPlane_95 (lv_at hl 0 rfl) ?_
          refine lv_aload_n hx hb dX12_ofPlane_97 rfl (lv_at hl 2 rfl) ?_
          refine va_get (D := (dC, dI)) (ci := 12) (v := .int (v 14)) (C := RX12) (T := TX12) (N := 63) hx hb hwd inA_X12 hown hK hP 0 rfl rfl 14 (by decide) (hwd _ wk_318) (fun _ h9 => h9) rfl dX12_ofPlane_98 ?_
          have t14589 : 0 ≤ (v 14).toInt ∧ (v 14).toInt ≤ 100 := hI.1 14 _ _ rfl
          refine lv_icmp_ge (tgt := 129) hx hb dX12_ofPlane_101 (by decide) (fun c14590 => ?_) (fun c14590 => ?_)
          · skip
            have t14591 := cv_le (a := (v 14).toInt) rfl (b := x4_lp14587.toInt) rfl c14590
            refine lv_iload_n hx hb dX12_ofPlane_129 rfl (lv_at hl 1 rfl) ?_
            have hP9 : va_P (dC, dI) classes (wM g c v F rc) H := hP
            exact W.iret (v := x3_lp14587) hx hb hr (fun t ht hW => ⟨⟨x3_lp14587, (), rfl, trivial, (by show va_P _ _ _ t.heap; rw [ht]; exact hP9)⟩, hS.F ht⟩) hS.2.2 dX12_ofPlane_130
          · skip
            have t14592 := cv_nle (a := (v 14).toInt) rfl (b := x4_lp14587.toInt) rfl c14590
            refine lv_iload_n hx hb dX12_ofPlane_104 rfl (lv_at hl 1 rfl) ?_
            refine lv_aload_n hx hb dX12_ofPlane_105 rfl (lv_at hl 2 rfl) ?_
            refine va_get (D := (dC, dI)) (ci := 12) (v := .ref (g 13)) (C := RX12) (T := TX12) (N := 63) hx hb hwd inA_X12 hown hK hP 0 rfl rfl 17 (by decide) (hwd _ wk_194) (fun _ h9 => h9) rfl dX12_ofPlane_106 ?_
            refine lv_iload hx hb dX12_ofPlane_109 (lv_at hl 0 rfl) ?_
            refine va_iald hx hb hK hP 13 12 rfl rfl (i := x4_lp14587) (vin (a := x4_lp14587.toInt) rfl (by omega)) dX12_ofPlane_111 ?_
            refine lv_topi (fun z14593 e14594 => ?_)
            have t14595 : 0 ≤ z14593.toInt ∧ z14593.toInt ≤ 12 := by rw [e14594]; exact hI.2 13 _ _ rfl _
            refine lv_iload_n hx hb dX12_ofPlane_112 rfl (lv_at hl 3 rfl) ?_
            refine lv_icmp_ne (tgt := 120) hx hb dX12_ofPlane_113 (by decide) (fun c14596 => ?_) (fun c14596 => ?_)
            · skip
              have t14597 := cv_ne (a := z14593.toInt) rfl (b := p0.toInt) rfl c14596
              refine lv_iconst (v := 0) hx hb dX12_ofPlane_120 (by decide) ?_
              refine lv_iadd hx hb dX12_ofPlane_121 ?_
              refine lv_topi (fun z14598 e14599 => ?_)
              try (have t14600 := tadd e14599 (a := x3_lp14587.toInt) rfl (b := 0) (by decide) (by omega))
              refine lv_istore_n (lv' := [(3, .int z14598), (4, .int x4_lp14587), (0, .ref (g 0)), (1, .int p0), (2, .int p1)]) hx hb dX12_ofPlane_122 rfl hl (by decide) rfl (fun ls hl => ?_)
              obtain ⟨z14601, e14602⟩ : ∃ y : Int32, y = x4_lp14587 + 1 := ⟨_, rfl⟩
              try (have t14603 := tadd e14602 rfl (b := 1) (by decide) (by omega))
              refine lv_iinc (v := z14601) (lv' := [(4, .int z14601), (3, .int z14598), (0, .ref (g 0)), (1, .int p0), (2, .int p1)]) hx hb dX12_ofPlane_123 hl (k := 1) rfl (by rw [e14602]; rfl) (by decide) rfl (fun ls hl => ?_)
              refine lv_goto (tgt := 95) hx hb dX12_ofPlane_126 (by decide) ?_
              exact ih_lp14587 z14601 z14598  _ _ _ (by omega) (by omega) hP hS (lv_sub hl [0, 1, 2, 3, 4] rfl)
            · skip
              have t14604 := cv_eq (a := z14593.toInt) rfl (b := p0.toInt) rfl c14596
              refine lv_iconst (v := 1) hx hb dX12_ofPlane_116 (by decide) ?_
              refine lv_goto (tgt := 121) hx hb dX12_ofPlane_117 (by decide) ?_
              refine lv_iadd hx hb dX12_ofPlane_121 ?_
              refine lv_topi (fun z14605 e14606 => ?_)
              try (have t14607 := tadd e14606 (a := x3_lp14587.toInt) rfl (b := 1) (by decide) (by omega))
              refine lv_istore_n (lv' := [(3, .int z14605), (4, .int x4_lp14587), (0, .ref (g 0)), (1, .int p0), (2, .int p1)]) hx hb dX12_ofPlane_122 rfl hl (by decide) rfl (fun ls hl => ?_)
              obtain ⟨z14608, e14609⟩ : ∃ y : Int32, y = x4_lp14587 + 1 := ⟨_, rfl⟩
              try (have t14610 := tadd e14609 rfl (b := 1) (by decide) (by omega))
              refine lv_iinc (v := z14608) (lv' := [(4, .int z14608), (3, .int z14605), (0, .ref (g 0)), (1, .int p0), (2, .int p1)]) hx hb dX12_ofPlane_123 hl (k := 1) rfl (by rw [e14609]; rfl) (by decide) rfl (fun ls hl => ?_)
              refine lv_goto (tgt := 95) hx hb dX12_ofPlane_126 (by decide) ?_
              exact ih_lp14587 z14608 z14605  _ _ _ (by omega) (by omega) hP hS (lv_sub hl [0, 1, 2, 3, 4] rfl)
      obtain ⟨n9, hn9⟩ : ∃ n : Nat, 2147483648 - 0 ≤ (n : Int) := ⟨((2147483648 - 0 : Int)).toNat, by omega⟩
      exact lp14587 n9 0 0  H _ ls (by have : (0 : Int32).toInt = 0 := (by decide); have : (0 : Int32).toInt = 0 := (by decide); omega) (by have : (0 : Int32).toInt = 0 := (by decide); have : (0 : Int32).toInt = 0 := (by decide); omega) hP hS hl
    · refine lv_tableIn (off := 117) (tgt := 131) hx hb dX12_ofPlane_14 hlo14577 hhi14578 (by rw [hk]; decide) (by decide) ?_
      refine lv_aload_n hx hb dX12_ofPlane_131 rfl (lv_at hl 1 rfl) ?_
      refine va_get (D := (dC, dI)) (ci := 12) (v := .ref (g 4)) (C := RX12) (T := TX12) (N := 63) hx hb hwd inA_X12 hown hK hP 0 rfl rfl 7 (by decide) (hwd _ wk_185) (fun _ h9 => h9) rfl dX12_ofPlane_132 ?_
      refine lv_iload_n hx hb dX12_ofPlane_135 rfl (lv_at hl 2 rfl) ?_
      refine va_iald hx hb hK hP 4 3 rfl rfl (i := p0) (vin (a := p0.toInt) rfl (by omega)) dX12_ofPlane_136 ?_
      refine lv_topi (fun z14611 e14612 => ?_)
      have hP9 : va_P (dC, dI) classes (wM g c v F rc) H := hP
      exact W.iret (v := z14611) hx hb hr (fun t ht hW => ⟨⟨z14611, (), rfl, trivial, (by show va_P _ _ _ t.heap; rw [ht]; exact hP9)⟩, hS.F ht⟩) hS.2.2 dX12_ofPlane_137
    · refine lv_tableIn (off := 124) (tgt := 138) hx hb dX12_ofPlane_14 hlo14577 hhi14578 (by rw [hk]; decide) (by decide) ?_
      refine lv_aload_n hx hb dX12_ofPlane_138 rfl (lv_at hl 1 rfl) ?_
      refine va_get (D := (dC, dI)) (ci := 12) (v := .ref (g 7)) (C := RX12) (T := TX12) (N := 63) hx hb hwd inA_X12 hown hK hP 0 rfl rfl 10 (by decide) (hwd _ wk_188) (fun _ h9 => h9) rfl dX12_ofPlane_139 ?_
      refine lv_iload_n hx hb dX12_ofPlane_142 rfl (lv_at hl 2 rfl) ?_
      refine va_iald hx hb hK hP 7 6 rfl rfl (i := p0) (vin (a := p0.toInt) rfl (by omega)) dX12_ofPlane_143 ?_
      refine lv_topi (fun z14613 e14614 => ?_)
      have hP9 : va_P (dC, dI) classes (wM g c v F rc) H := hP
      exact W.iret (v := z14613) hx hb hr (fun t ht hW => ⟨⟨z14613, (), rfl, trivial, (by show va_P _ _ _ t.heap; rw [ht]; exact hP9)⟩, hS.F ht⟩) hS.2.2 dX12_ofPlane_144
    · refine lv_tableIn (off := 131) (tgt := 145) hx hb dX12_ofPlane_14 hlo14577 hhi14578 (by rw [hk]; decide) (by decide) ?_
      refine lv_aload_n hx hb dX12_ofPlane_145 rfl (lv_at hl 1 rfl) ?_
      refine va_get (D := (dC, dI)) (ci := 12) (v := .ref (g 8)) (C := RX12) (T := TX12) (N := 63) hx hb hwd inA_X12 hown hK hP 0 rfl rfl 11 (by decide) (hwd _ wk_189) (fun _ h9 => h9) rfl dX12_ofPlane_146 ?_
      refine lv_iload_n hx hb dX12_ofPlane_149 rfl (lv_at hl 2 rfl) ?_
      refine va_iald hx hb hK hP 8 7 rfl rfl (i := p0) (vin (a := p0.toInt) rfl (by omega)) dX12_ofPlane_150 ?_
      refine lv_topi (fun z14615 e14616 => ?_)
      have hP9 : va_P (dC, dI) classes (wM g c v F rc) H := hP
      exact W.iret (v := z14615) hx hb hr (fun t ht hW => ⟨⟨z14615, (), rfl, trivial, (by show va_P _ _ _ t.heap; rw [ht]; exact hP9)⟩, hS.F ht⟩) hS.2.2 dX12_ofPlane_151
    · refine lv_tableIn (off := 138) (tgt := 152) hx hb dX12_ofPlane_14 hlo14577 hhi14578 (by rw [hk]; decide) (by decide) ?_
      refine lv_aload_n hx hb dX12_ofPlane_152 rfl (lv_at hl 1 rfl) ?_
      refine va_get (D := (dC, dI)) (ci := 12) (v := .ref (g 35)) (C := RX12) (T := TX12) (N := 63) hx hb hwd inA_X12 hown hK hP 0 rfl rfl 49 (by decide) (hwd _ wk_217) (fun _ h9 => h9) rfl dX12_ofPlane_153 ?_
      refine lv_iload_n hx hb dX12_ofPlane_156 rfl (lv_at hl 2 rfl) ?_
      refine va_iald hx hb hK hP 35 34 rfl rfl (i := p0) (vin (a := p0.toInt) rfl (by omega)) dX12_ofPlane_157 ?_
      refine lv_topi (fun z14617 e14618 => ?_)
      have hP9 : va_P (dC, dI) classes (wM g c v F rc) H := hP
      exact W.iret (v := z14617) hx hb hr (fun t ht hW => ⟨⟨z14617, (), rfl, trivial, (by show va_P _ _ _ t.heap; rw [ht]; exact hP9)⟩, hS.F ht⟩) hS.2.2 dX12_ofPlane_158
    · refine lv_tableIn (off := 145) (tgt := 159) hx hb dX12_ofPlane_14 hlo14577 hhi14578 (by rw [hk]; decide) (by decide) ?_
      refine lv_aload_n hx hb dX12_ofPlane_159 rfl (lv_at hl 1 rfl) ?_
      refine va_get (D := (dC, dI)) (ci := 12) (v := .ref (g 36)) (C := RX12) (T := TX12) (N := 63) hx hb hwd inA_X12 hown hK hP 0 rfl rfl 50 (by decide) (hwd _ wk_218) (fun _ h9 => h9) rfl dX12_ofPlane_160 ?_
      refine lv_iload_n hx hb dX12_ofPlane_163 rfl (lv_at hl 2 rfl) ?_
      refine va_iald hx hb hK hP 36 35 rfl rfl (i := p0) (vin (a := p0.toInt) rfl (by omega)) dX12_ofPlane_164 ?_
      refine lv_topi (fun z14619 e14620 => ?_)
      have hP9 : va_P (dC, dI) classes (wM g c v F rc) H := hP
      exact W.iret (v := z14619) hx hb hr (fun t ht hW => ⟨⟨z14619, (), rfl, trivial, (by show va_P _ _ _ t.heap; rw [ht]; exact hP9)⟩, hS.F ht⟩) hS.2.2 dX12_ofPlane_165
  · skip
    have t14621 := cv_eq (a := r14574.toInt) rfl (b := 0) (by decide) c14575
    refine lv_ldc (v := (-2000000000)) hx hb hown (hwd _ wk_542) dX12_ofPlane_8 ?_
    have hP9 : va_P (dC, dI) classes (wM g c v F rc) H := hP
    exact W.iret (v := (-2000000000)) hx hb hr (fun t ht hW => ⟨⟨(-2000000000), (), rfl, trivial, (by show va_P _ _ _ t.heap; rw [ht]; exact hP9)⟩, hS.F ht⟩) hS.2.2 dX12_ofPlane_10
