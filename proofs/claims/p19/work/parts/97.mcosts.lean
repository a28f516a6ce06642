set_option maxHeartbeats 8000000 in
set_option maxRecDepth 100000 in
theorem c_X12_lacksOf (l : Launch) (dC : Nat → ClassId) (dI : Nat → Nat → Nat) (g : Nat → Nat) (c : Nat → ClassId) (adK adV : Nat → Nat) (v : Nat → Int32) (F : Nat → Nat → Int32) (rc sz : Nat) (p0 : Int32) (p1 : Int32) (p2 : Int32) (p3 : Int32) (hg : injM g) (hI : IM v F) (h0 : 0 ≤ p0.toInt ∧ p0.toInt ≤ 9) (h1 : 0 ≤ p1.toInt ∧ p1.toInt ≤ 30) (hL : JL (v 31) (F 28) (F 29) (F 27)) : Met l yX12_lacksOf (Cond.code yX12_lacksOf cX12_lacksOf 11 (some .int) :: wA) ({ frames := 5, cells := 0, slots := 0, locals := 200 }) (va_Pc [.ref (g 0), .int p0, .int p1, .int p2, .int p3] (PM dC dI g c adK adV v F rc sz)) (va_Qi (fun (r : Int32) (u : StM) => IM u.1 u.2.1 ∧ u.2.2 = rc ∧ (∀ k, k ∉ ([] : List Nat) → u.1 k = v k) ∧ (∀ k, k ∉ ([30, 31] : List Nat) → u.2.1 k = F k) ∧ True) (BM dC dI g c) (AM g sz)) 0 0 (AM g sz) := by
  refine Met.ofW (cc := cX12_lacksOf) (maxL := 11) (ret := (some .int)) (by decide) rfl ?_
  intro p e s m args below meth c0 s₁ B hml hv
  obtain ⟨rfl, hsz, hP, hK, hE⟩ := hv
  have hx := B.exec
  have hb := B.bytes
  have hr := B.returns
  have hts := atoms_spec (ws := Cond.code yX12_lacksOf cX12_lacksOf 11 (some .int) :: wA) B.pre
  have hwd : ∀ w ∈ wA, w.before _ s = true := fun w h => hts w (List.mem_cons_of_mem _ h)
  have hown : s.vm.findClass RX12 = some m.cls := findClass_of_methodNamed B.named
  have hlocks := B.notSynchronized
  subst hsz
  have hl := lv_entry ([.ref (g 0), .int p0, .int p1, .int p2, .int p3]) (n := 11) (Nat.le_of_ble_eq_true rfl)
  rw [lg_entry_eq]
  generalize (lg_sl ([.ref (g 0), .int p0, .int p1, .int p2, .int p3]) ++ List.replicate (11 - (lg_sl ([.ref (g 0), .int p0, .int p1, .int p2, .int p3])).length) Slot.unset).toArray = ls at hl ⊢
  have hl : lv_has ls 11 [(0, .ref (g 0)), (1, .int p0), (2, .int p1), (3, .int p2), (4, .int p3)] := hl
  obtain ⟨H, eH⟩ : ∃ z, z = s.heap := ⟨_, rfl⟩
  have hP : va_P (dC, dI) classes (wM g c v F rc) H := by rw [eH]; exact hP
  have hS : va_S (AM g s.heap.size) s.heap H [] := by rw [eH]; exact va_S.rf
  refine my_heap eH ?_
  have hF : ∀ k, k ∉ ([30, 31] : List Nat) → F k = F k := fun _ _ => rfl
  have rp0 := i32_rng p0
  have rp1 := i32_rng p1
  have rp2 := i32_rng p2
  have rp3 := i32_rng p3
  have hb31 : 0 ≤ (v 31).toInt ∧ (v 31).toInt ≤ 10 := hI.1 31 _ _ rfl
  refine lv_bipush (v := 32) hx hb dX12_lacksOf_0 (by decide) ?_
  refine lv_iload_n hx hb dX12_lacksOf_2 rfl (lv_at hl 1 rfl) ?_
  refine lv_imul hx hb dX12_lacksOf_3 ?_
  refine lv_topi (fun z13033 e13034 => ?_)
  try (have t13035 := tmul e13034 (a := 32) (by decide) (b := p0.toInt) rfl (by omega))
  refine lv_iload_n hx hb dX12_lacksOf_4 rfl (lv_at hl 2 rfl) ?_
  refine lv_iadd hx hb dX12_lacksOf_5 ?_
  refine lv_topi (fun z13036 e13037 => ?_)
  try (have t13038 := tadd e13037 (a := z13033.toInt) rfl (b := p1.toInt) rfl (by omega))
  refine lv_istore (lv' := [(5, .int z13036), (0, .ref (g 0)), (1, .int p0), (2, .int p1), (3, .int p2), (4, .int p3)]) hx hb dX12_lacksOf_6 hl (by decide) rfl (fun ls hl => ?_)
  refine lv_aload_n hx hb dX12_lacksOf_8 rfl (lv_at hl 1 rfl) ?_
  refine va_get (D := (dC, dI)) (ci := 12) (v := .ref (g 38)) (C := RX12) (T := TX12) (N := 63) hx hb hwd inA_X12 hown hK hP 0 rfl rfl 52 (by decide) (hwd _ wk_220) (fun _ h9 => h9) rfl dX12_lacksOf_9 ?_
  refine lv_iload hx hb dX12_lacksOf_12 (lv_at hl 0 rfl) ?_
  refine va_iald hx hb hK hP 38 37 rfl rfl (i := z13036) (vin (a := z13036.toInt) rfl (by omega)) dX12_lacksOf_14 ?_
  refine lv_topi (fun z13039 e13040 => ?_)
  refine lv_istore (lv' := [(6, .int z13039), (5, .int z13036), (0, .ref (g 0)), (1, .int p0), (2, .int p1), (3, .int p2), (4, .int p3)]) hx hb dX12_lacksOf_15 hl (by decide) rfl (fun ls hl => ?_)
  refine lv_iconst (v := 0) hx hb dX12_lacksOf_17 (by decide) ?_
  refine lv_istore (lv' := [(7, .int 0), (6, .int z13039), (5, .int z13036), (0, .ref (g 0)), (1, .int p0), (2, .int p1), (3, .int p2), (4, .int p3)]) hx hb dX12_lacksOf_18 hl (by decide) rfl (fun ls hl => ?_)
  refine lv_iload hx hb dX12_lacksOf_20 (lv_at hl 1 rfl) ?_
  by_cases hlo13041 : z13039.toInt < 100
  · refine lv_tableOut (tgt := 431) hx hb dX12_lacksOf_22 (Or.inl hlo13041) (by decide) ?_
    refine lv_aload_n hx hb dX12_lacksOf_431 rfl (lv_at hl 3 rfl) ?_
    refine lv_iload_n hx hb dX12_lacksOf_432 rfl (lv_at hl 4 rfl) ?_
    refine lv_iload_n hx hb dX12_lacksOf_433 rfl (lv_at hl 6 rfl) ?_
    refine va_calli (va_runV (As := [.int p0, .int p2]) (rest := []) ⟨hx, hb, hml, hown, hwd⟩ (c_X12_late l dC dI g c adK adV v F rc H.size p0 p2 hg hI (by omega)) (cwV 2 hwd (gV wk_1213 wk_1210 wk_1211 wk_1212 wk_5) rfl rfl rfl (by decide +kernel) ⟨Nat.le_of_ble_eq_true rfl, Nat.le_of_ble_eq_true rfl⟩) ⟨PM.blind, va_recv hK hP (ci := 12) (q0 := 0) rfl rfl, fun U hU hW => ⟨rfl, PM.at hK hE hP hS hU hW⟩⟩ rfl rfl hl.1 rfl (lv_room (Nat.le_of_ble_eq_true rfl)) dX12_lacksOf_434 ⟨Nat.le_of_ble_eq_true rfl, Nat.le_of_ble_eq_true rfl⟩) hS (fun q _ h => (freeM hS) q h) (freeM hS) (fun r13043 u t H1 locs ht hvm hw hB hz1 hk1 hS => ?_)
    unfold BM at hB
    rw [ht] at hB
    have hP : va_P (dC, dI) classes (wM g c v F rc) H1 := hB
    clear hz1
    generalize H1 = H at hP hS ⊢
    have rr_r13043 := i32_rng r13043
    have hP9 : va_P (dC, dI) classes (wM g c v F rc) H := hP
    exact W.iret (v := r13043) hx hb hr (fun t ht hW => ⟨⟨r13043, (v, F, rc), rfl, ⟨hI, rfl, (fun _ _ => rfl), hF, trivial⟩, (by show va_P _ _ _ t.heap; rw [ht]; exact hP9)⟩, hS.F ht⟩) hS.2.2 dX12_lacksOf_437
  by_cases hhi13042 : 111 < z13039.toInt
  · refine lv_tableOut (tgt := 431) hx hb dX12_lacksOf_22 (Or.inr hhi13042) (by decide) ?_
    refine lv_aload_n hx hb dX12_lacksOf_431 rfl (lv_at hl 3 rfl) ?_
    refine lv_iload_n hx hb dX12_lacksOf_432 rfl (lv_at hl 4 rfl) ?_
    refine lv_iload_n hx hb dX12_lacksOf_433 rfl (lv_at hl 6 rfl) ?_
    refine va_calli (va_runV (As := [.int p0, .int p2]) (rest := []) ⟨hx, hb, hml, hown, hwd⟩ (c_X12_late l dC dI g c adK adV v F rc H.size p0 p2 hg hI (by omega)) (cwV 2 hwd (gV wk_1213 wk_1210 wk_1211 wk_1212 wk_5) rfl rfl rfl (by decide +kernel) ⟨Nat.le_of_ble_eq_true rfl, Nat.le_of_ble_eq_true rfl⟩) ⟨PM.blind, va_recv hK hP (ci := 12) (q0 := 0) rfl rfl, fun U hU hW => ⟨rfl, PM.at hK hE hP hS hU hW⟩⟩ rfl rfl hl.1 rfl (lv_room (Nat.le_of_ble_eq_true rfl)) dX12_lacksOf_434 ⟨Nat.le_of_ble_eq_true rfl, Nat.le_of_ble_eq_true rfl⟩) hS (fun q _ h => (freeM hS) q h) (freeM hS) (fun r13044 u t H1 locs ht hvm hw hB hz1 hk1 hS => ?_)
    unfold BM at hB
    rw [ht] at hB
    have hP : va_P (dC, dI) classes (wM g c v F rc) H1 := hB
    clear hz1
    generalize H1 = H at hP hS ⊢
    have rr_r13044 := i32_rng r13044
    have hP9 : va_P (dC, dI) classes (wM g c v F rc) H := hP
    exact W.iret (v := r13044) hx hb hr (fun t ht hW => ⟨⟨r13044, (v, F, rc), rfl, ⟨hI, rfl, (fun _ _ => rfl), hF, trivial⟩, (by show va_P _ _ _ t.heap; rw [ht]; exact hP9)⟩, hS.F ht⟩) hS.2.2 dX12_lacksOf_437
  rcases (show z13039.toInt = 100 ∨ z13039.toInt = 101 ∨ z13039.toInt = 102 ∨ z13039.toInt = 103 ∨ z13039.toInt = 104 ∨ z13039.toInt = 105 ∨ z13039.toInt = 106 ∨ z13039.toInt = 107 ∨ z13039.toInt = 108 ∨ z13039.toInt = 109 ∨ z13039.toInt = 110 ∨ z13039.toInt = 111 by omega) with hk | hk | hk | hk | hk | hk | hk | hk | hk | hk | hk | hk
  · refine lv_tableIn (off := 62) (tgt := 84) hx hb dX12_lacksOf_22 hlo13041 hhi13042 (by rw [hk]; decide) (by decide) ?_
    refine lv_iload hx hb dX12_lacksOf_84 (lv_at hl 1 rfl) ?_
    refine lv_bipush (v := 104) hx hb dX12_lacksOf_86 (by decide) ?_
    refine lv_icmp_ne (tgt := 95) hx hb dX12_lacksOf_88 (by decide) (fun c13045 => ?_) (fun c13045 => ?_)
    · skip
      have t13046 := cv_ne (a := z13039.toInt) rfl (b := 104) (by decide) c13045
      refine lv_iload hx hb dX12_lacksOf_95 (lv_at hl 1 rfl) ?_
      refine lv_bipush (v := 108) hx hb dX12_lacksOf_97 (by decide) ?_
      refine lv_icmp_ne (tgt := 106) hx hb dX12_lacksOf_99 (by decide) (fun c13047 => ?_) (fun c13047 => ?_)
      · skip
        have t13048 := cv_ne (a := z13039.toInt) rfl (b := 108) (by decide) c13047
        refine lv_iconst (v := 2) hx hb dX12_lacksOf_106 (by decide) ?_
        refine lv_istore (lv' := [(8, .int 2), (7, .int 0), (6, .int z13039), (5, .int z13036), (0, .ref (g 0)), (1, .int p0), (2, .int p1), (3, .int p2), (4, .int p3)]) hx hb dX12_lacksOf_107 hl (by decide) rfl (fun ls hl => ?_)
        refine lv_iconst (v := 0) hx hb dX12_lacksOf_109 (by decide) ?_
        refine lv_istore (lv' := [(9, .int 0), (8, .int 2), (7, .int 0), (6, .int z13039), (5, .int z13036), (0, .ref (g 0)), (1, .int p0), (2, .int p1), (3, .int p2), (4, .int p3)]) hx hb dX12_lacksOf_110 hl (by decide) rfl (fun ls hl => ?_)
        have lp13049 : ∀ (n : Nat) (x9_lp13049 : Int32) (x7_lp13049 : Int32) (v_lp13049 : Nat → Int32) (F_lp13049 : Nat → Nat → Int32) (H : Heap) (locs : List Loc) (ls : Array Slot), (0 ≤ x9_lp13049.toInt) → (2147483648 - x9_lp13049.toInt ≤ (n : Int)) → (∀ k, k ∉ ([] : List Nat) → v_lp13049 k = v k) → IM v_lp13049 F_lp13049 → (∀ k, k ∉ ([30, 31] : List Nat) → F_lp13049 k = F k) → va_P (dC, dI) classes (wM g c v_lp13049 F_lp13049 rc) H → va_S (AM g s.heap.size) s.heap H locs → lv_has ls 11 [(9, .int x9_lp13049), (8, .int 2), (7, .int x7_lp13049), (6, .int z13039), (5, .int z13036), (0, .ref (g 0)), (1, .int p0), (2, .int p1), (3, .int p2), (4, .int p3)] → W p l e (headSpec (Cond.code yX12_lacksOf cX12_lacksOf 11 (some .int) :: wA) ({ frames := 5, cells := 0, slots := 0, locals := 200 })).room s m ([.ref (g 0), .int p0, .int p1, .int p2, .int p3] : List Value).toArray below meth c0 H locs 0 0 (MQ below (va_Qi (fun (r : Int32) (u : StM) => IM u.1 u.2.1 ∧ u.2.2 = rc ∧ (∀ k, k ∉ ([] : List Nat) → u.1 k = v k) ∧ (∀ k, k ∉ ([30, 31] : List Nat) → u.2.1 k = F k) ∧ True) (BM dC dI g c) (AM g s.heap.size)) ([.ref (g 0), .int p0, .int p1, .int p2, .int p3] : List Value).toArray s 0 0 (AM g s.heap.size)) (F0 m 112 ls []) := by
          intro n
          induction n with
          | zero =>
            intro x9_lp13049 x7_lp13049 v_lp13049 F_lp13049 H locs ls t13050 hm hf_lp13049 hI hF hP hS hl
            exfalso
            have := i32_rng x9_lp13049
            have := i32_rng x7_lp13049
            have hI1 := hI.1
            omega
          | succ n ih_lp13049 =>
            intro x9_lp13049 x7_lp13049 v_lp13049 F_lp13049 H locs ls t13050 hm hf_lp13049 hI hF hP hS hl
            have rx9_lp13049 := i32_rng x9_lp13049
            have rx7_lp13049 := i32_rng x7_lp13049
            refine lv_iload hx hb dX12_lacksOf_112 (lv_at hl 0 rfl) ?_
            refine lv_aload_n hx hb dX12_lacksOf_114 rfl (lv_at hl 5 rfl) ?_
            refine va_get (D := (dC, dI)) (ci := 12) (v := .int (v_lp13049 14)) (C := RX12) (T := TX12) (N := 63) hx hb hwd inA_X12 hown hK hP 0 rfl rfl 14 (by decide) (hwd _ wk_318) (fun _ h9 => h9) rfl dX12_lacksOf_115 ?_
            refine my_top (v := v 14) (hf_lp13049 14 (by decide)) ?_
            have t13051 : 0 ≤ (v 14).toInt ∧ (v 14).toInt ≤ 100 := by have h9 := hI.1 14 _ _ rfl; rw [show v_lp13049 14 = v 14 from hf_lp13049 14 (by decide)] at h9; exact h9
            refine lv_icmp_ge (tgt := 211) hx hb dX12_lacksOf_118 (by decide) (fun c13052 => ?_) (fun c13052 => ?_)
            · skip
              have t13053 := cv_le (a := (v 14).toInt) rfl (b := x9_lp13049.toInt) rfl c13052
              refine lv_iload hx hb dX12_lacksOf_211 (lv_at hl 2 rfl) ?_
              have hP9 : va_P (dC, dI) classes (wM g c v_lp13049 F_lp13049 rc) H := hP
              exact W.iret (v := x7_lp13049) hx hb hr (fun t ht hW => ⟨⟨x7_lp13049, (v_lp13049, F_lp13049, rc), rfl, ⟨hI, rfl, (frC (by decide) hf_lp13049 (fun _ _ => rfl)), hF, trivial⟩, (by show va_P _ _ _ t.heap; rw [ht]; exact hP9)⟩, hS.F ht⟩) hS.2.2 dX12_lacksOf_213
            · skip
              have t13054 := cv_nle (a := (v 14).toInt) rfl (b := x9_lp13049.toInt) rfl c13052
              refine lv_aload_n hx hb dX12_lacksOf_121 rfl (lv_at hl 5 rfl) ?_
              refine va_get (D := (dC, dI)) (ci := 12) (v := .ref (g 42)) (C := RX12) (T := TX12) (N := 63) hx hb hwd inA_X12 hown hK hP 0 rfl rfl 56 (by decide) (hwd _ wk_224) (fun _ h9 => h9) rfl dX12_lacksOf_122 ?_
              refine lv_iload hx hb dX12_lacksOf_125 (lv_at hl 0 rfl) ?_
              refine va_zald hx hb hK hP 42 41 rfl rfl (i := x9_lp13049) (vin (a := x9_lp13049.toInt) rfl (by omega)) dX12_lacksOf_127 ?_
              refine lv_topi (fun z13055 e13056 => ?_)
              have e13056 : z13055 = F 42 (x9_lp13049 : Int32).toNatClampNeg := e13056.trans (congrFun (hF 42 (by decide)) _)
              refine lv_if_eq (tgt := 205) hx hb dX12_lacksOf_128 (by decide) (fun c13057 => ?_) (fun c13057 => ?_)
              · skip
                have t13058 := cv_eq (a := z13055.toInt) rfl (b := 0) (by decide) c13057
                obtain ⟨z13059, e13060⟩ : ∃ y : Int32, y = x9_lp13049 + 1 := ⟨_, rfl⟩
                try (have t13061 := tadd e13060 rfl (b := 1) (by decide) (by omega))
                refine lv_iinc (v := z13059) (lv' := [(9, .int z13059), (8, .int 2), (7, .int x7_lp13049), (6, .int z13039), (5, .int z13036), (0, .ref (g 0)), (1, .int p0), (2, .int p1), (3, .int p2), (4, .int p3)]) hx hb dX12_lacksOf_205 hl (k := 0) rfl (by rw [e13060]; rfl) (by decide) rfl (fun ls hl => ?_)
                refine lv_goto (tgt := 112) hx hb dX12_lacksOf_208 (by decide) ?_
                exact ih_lp13049 z13059 x7_lp13049 v_lp13049 F_lp13049 _ _ _ (by omega) (by omega) hf_lp13049 hI hF hP hS (lv_sub hl [0, 1, 2, 3, 4, 5, 6, 7, 8, 9] rfl)
              · skip
                have t13062 := cv_ne (a := z13055.toInt) rfl (b := 0) (by decide) c13057
                refine lv_aload_n hx hb dX12_lacksOf_131 rfl (lv_at hl 5 rfl) ?_
                refine va_get (D := (dC, dI)) (ci := 12) (v := .ref (g 11)) (C := RX12) (T := TX12) (N := 63) hx hb hwd inA_X12 hown hK hP 0 rfl rfl 15 (by decide) (hwd _ wk_192) (fun _ h9 => h9) rfl dX12_lacksOf_132 ?_
                refine lv_iload hx hb dX12_lacksOf_135 (lv_at hl 0 rfl) ?_
                refine va_iald hx hb hK hP 11 10 rfl rfl (i := x9_lp13049) (vin (a := x9_lp13049.toInt) rfl (by omega)) dX12_lacksOf_137 ?_
                refine lv_topi (fun z13063 e13064 => ?_)
                have t13065 : 0 ≤ z13063.toInt ∧ z13063.toInt ≤ 9 := by rw [e13064]; exact hI.2 11 _ _ rfl _
                have e13064 : z13063 = F 11 (x9_lp13049 : Int32).toNatClampNeg := e13064.trans (congrFun (hF 11 (by decide)) _)
                refine lv_aload_n hx hb dX12_lacksOf_138 rfl (lv_at hl 5 rfl) ?_
                refine va_get (D := (dC, dI)) (ci := 12) (v := .ref (g 39)) (C := RX12) (T := TX12) (N := 63) hx hb hwd inA_X12 hown hK hP 0 rfl rfl 53 (by decide) (hwd _ wk_221) (fun _ h9 => h9) rfl dX12_lacksOf_139 ?_
                refine lv_iload hx hb dX12_lacksOf_142 (lv_at hl 4 rfl) ?_
                refine va_iald hx hb hK hP 39 38 rfl rfl (i := z13036) (vin (a := z13036.toInt) rfl (by omega)) dX12_lacksOf_144 ?_
                refine lv_topi (fun z13066 e13067 => ?_)
                have e13067 : z13066 = F 39 (z13036 : Int32).toNatClampNeg := e13067.trans (congrFun (hF 39 (by decide)) _)
                refine lv_icmp_ne (tgt := 205) hx hb dX12_lacksOf_145 (by decide) (fun c13068 => ?_) (fun c13068 => ?_)
                · skip
                  have t13069 := cv_ne (a := z13063.toInt) rfl (b := z13066.toInt) rfl c13068
                  obtain ⟨z13070, e13071⟩ : ∃ y : Int32, y = x9_lp13049 + 1 := ⟨_, rfl⟩
                  try (have t13072 := tadd e13071 rfl (b := 1) (by decide) (by omega))
                  refine lv_iinc (v := z13070) (lv' := [(9, .int z13070), (8, .int 2), (7, .int x7_lp13049), (6, .int z13039), (5, .int z13036), (0, .ref (g 0)), (1, .int p0), (2, .int p1), (3, .int p2), (4, .int p3)]) hx hb dX12_lacksOf_205 hl (k := 0) rfl (by rw [e13071]; rfl) (by decide) rfl (fun ls hl => ?_)
                  refine lv_goto (tgt := 112) hx hb dX12_lacksOf_208 (by decide) ?_
                  exact ih_lp13049 z13070 x7_lp13049 v_lp13049 F_lp13049 _ _ _ (by omega) (by omega) hf_lp13049 hI hF hP hS (lv_sub hl [0, 1, 2, 3, 4, 5, 6, 7, 8, 9] rfl)
                · skip
                  have t13073 := cv_eq (a := z13063.toInt) rfl (b := z13066.toInt) rfl c13068
                  refine lv_aload_n hx hb dX12_lacksOf_148 rfl (lv_at hl 5 rfl) ?_
                  refine lv_iload hx hb dX12_lacksOf_149 (lv_at hl 0 rfl) ?_
                  refine lv_iload hx hb dX12_lacksOf_151 (lv_at hl 1 rfl) ?_
                  have hby1 : F_lp13049 1 = F 1 := hF 1 (by decide)
                  have hby11 : F_lp13049 11 = F 11 := hF 11 (by decide)
                  refine va_calli (va_runV (As := [.int x9_lp13049, .int 2]) (rest := []) ⟨hx, hb, hml, hown, hwd⟩ (c_X12_limitOf l dC dI g c adK adV v_lp13049 F_lp13049 rc H.size x9_lp13049 2 hg hI (by omega) (by have : (2 : Int32).toInt = 2 := (by decide); omega)) (cwV 2 hwd (gV wk_489 wk_486 wk_487 wk_488 wk_5) rfl rfl rfl (by decide +kernel) ⟨Nat.le_of_ble_eq_true rfl, Nat.le_of_ble_eq_true rfl⟩) ⟨PM.blind, va_recv hK hP (ci := 12) (q0 := 0) rfl rfl, fun U hU hW => ⟨rfl, PM.at hK hE hP hS hU hW⟩⟩ rfl rfl hl.1 rfl (lv_room (Nat.le_of_ble_eq_true rfl)) dX12_lacksOf_153 ⟨Nat.le_of_ble_eq_true rfl, Nat.le_of_ble_eq_true rfl⟩) hS (fun q _ h => (freeM hS) q h) (freeM hS) (fun r13074 u t H1 locs ht hvm hw hB hz1 hk1 hS => ?_)
                  unfold BM at hB
                  rw [ht] at hB
                  have hP : va_P (dC, dI) classes (wM g c v_lp13049 F_lp13049 rc) H1 := hB
                  replace hw : r13074.toInt = (F_lp13049 1 (limJ (F_lp13049 11) x9_lp13049 (2 : Int32))).toInt := hw
                  rw [hby1] at hw
                  rw [hby11] at hw
                  have hw_r13074 := hw
                  clear hw
                  have k13075 : (2 : Int32).toInt = 2 := by decide
                  clear hz1
                  generalize H1 = H at hP hS ⊢
                  refine lv_if_ne (tgt := 162) hx hb dX12_lacksOf_156 (by decide) (fun c13076 => ?_) (fun c13076 => ?_)
                  · skip
                    have t13077 := cv_ne (a := r13074.toInt) rfl (b := 0) (by decide) c13076
                    refine lv_aload_n hx hb dX12_lacksOf_162 rfl (lv_at hl 5 rfl) ?_
                    refine lv_iload hx hb dX12_lacksOf_163 (lv_at hl 0 rfl) ?_
                    refine lv_iload hx hb dX12_lacksOf_165 (lv_at hl 1 rfl) ?_
                    refine lv_iload hx hb dX12_lacksOf_167 (lv_at hl 9 rfl) ?_
                    refine va_calli (va_runV (As := [.int x9_lp13049, .int 2, .int p3]) (rest := []) ⟨hx, hb, hml, hown, hwd⟩ (c_X12_leftOf l dC dI g c adK adV v_lp13049 F_lp13049 rc H.size x9_lp13049 2 p3 hg hI (by omega) (by have : (2 : Int32).toInt = 2 := (by decide); omega) (JL.to hL (show v_lp13049 31 = v 31 from hf_lp13049 31 (by decide)) (hF 28 (by decide)) (hF 29 (by decide)) (hF 27 (by decide)))) (cwV 3 hwd (gV wk_493 wk_490 wk_491 wk_492 wk_5) rfl rfl rfl (by decide +kernel) ⟨Nat.le_of_ble_eq_true rfl, Nat.le_of_ble_eq_true rfl⟩) ⟨PM.blind, va_recv hK hP (ci := 12) (q0 := 0) rfl rfl, fun U hU hW => ⟨rfl, PM.at hK hE hP hS hU hW⟩⟩ rfl rfl hl.1 rfl (lv_room (Nat.le_of_ble_eq_true rfl)) dX12_lacksOf_169 ⟨Nat.le_of_ble_eq_true rfl, Nat.le_of_ble_eq_true rfl⟩) hS (fun q _ h => (freeM hS) q h) (freeM hS) (fun r13078 u t H1 locs ht hvm hw hB hz1 hk1 hS => ?_)
                    unfold BM at hB
                    rw [ht] at hB
                    obtain ⟨v13079, F13080, rc9⟩ := u
                    obtain ⟨hI, hrc, hf13081, hG13082, hw⟩ := hw
                    dsimp only at hI hrc hB hf13081 hG13082 hw
                    have hF := frCF (by decide) hG13082 hF
                    rw [hrc] at hB
                    have hP : va_P (dC, dI) classes (wM g c v13079 F13080 rc) H1 := hB
                    clear hz1
                    generalize H1 = H at hP hS ⊢
                    have rr_r13078 := i32_rng r13078
                    refine lv_istore (lv' := [(10, .int r13078), (9, .int x9_lp13049), (8, .int 2), (7, .int x7_lp13049), (6, .int z13039), (5, .int z13036), (0, .ref (g 0)), (1, .int p0), (2, .int p1), (3, .int p2), (4, .int p3)]) hx hb dX12_lacksOf_172 hl (by decide) rfl (fun ls hl => ?_)
                    refine lv_iload hx hb dX12_lacksOf_174 (lv_at hl 3 rfl) ?_
                    refine lv_iload hx hb dX12_lacksOf_176 (lv_at hl 0 rfl) ?_
                    refine lv_aload_n hx hb dX12_lacksOf_178 rfl (lv_at hl 6 rfl) ?_
                    refine va_get (D := (dC, dI)) (ci := 12) (v := .ref (g 40)) (C := RX12) (T := TX12) (N := 63) hx hb hwd inA_X12 hown hK hP 0 rfl rfl 54 (by decide) (hwd _ wk_222) (fun _ h9 => h9) rfl dX12_lacksOf_179 ?_
                    refine lv_iload hx hb dX12_lacksOf_182 (lv_at hl 5 rfl) ?_
                    refine va_iald hx hb hK hP 40 39 rfl rfl (i := z13036) (vin (a := z13036.toInt) rfl (by omega)) dX12_lacksOf_184 ?_
                    refine lv_topi (fun z13083 e13084 => ?_)
                    have e13084 : z13083 = F 40 (z13036 : Int32).toNatClampNeg := e13084.trans (congrFun (hF 40 (by decide)) _)
                    refine lv_icmp_ge (tgt := 201) hx hb dX12_lacksOf_185 (by decide) (fun c13085 => ?_) (fun c13085 => ?_)
                    · skip
                      have t13086 := cv_le (a := z13083.toInt) rfl (b := r13078.toInt) rfl c13085
                      refine lv_iconst (v := 0) hx hb dX12_lacksOf_201 (by decide) ?_
                      refine lv_iadd hx hb dX12_lacksOf_202 ?_
                      refine lv_topi (fun z13087 e13088 => ?_)
                      try (have t13089 := tadd e13088 (a := x7_lp13049.toInt) rfl (b := 0) (by decide) (by omega))
                      refine lv_istore (lv' := [(7, .int z13087), (10, .int r13078), (9, .int x9_lp13049), (8, .int 2), (6, .int z13039), (5, .int z13036), (0, .ref (g 0)), (1, .int p0), (2, .int p1), (3, .int p2), (4, .int p3)]) hx hb dX12_lacksOf_203 hl (by decide) rfl (fun ls hl => ?_)
                      obtain ⟨z13090, e13091⟩ : ∃ y : Int32, y = x9_lp13049 + 1 := ⟨_, rfl⟩
                      try (have t13092 := tadd e13091 rfl (b := 1) (by decide) (by omega))
                      refine lv_iinc (v := z13090) (lv' := [(9, .int z13090), (7, .int z13087), (10, .int r13078), (8, .int 2), (6, .int z13039), (5, .int z13036), (0, .ref (g 0)), (1, .int p0), (2, .int p1), (3, .int p2), (4, .int p3)]) hx hb dX12_lacksOf_205 hl (k := 2) rfl (by rw [e13091]; rfl) (by decide) rfl (fun ls hl => ?_)
                      refine lv_goto (tgt := 112) hx hb dX12_lacksOf_208 (by decide) ?_
                      exact ih_lp13049 z13090 z13087 v13079 F13080 _ _ _ (by omega) (by omega) (frC (by decide) hf13081 hf_lp13049) hI hF hP hS (lv_sub hl [0, 3, 1, 4, 5, 6, 7, 8, 9, 10] rfl)
                    · skip
                      have t13093 := cv_nle (a := z13083.toInt) rfl (b := r13078.toInt) rfl c13085
                      refine lv_aload_n hx hb dX12_lacksOf_188 rfl (lv_at hl 6 rfl) ?_
                      refine va_get (D := (dC, dI)) (ci := 12) (v := .ref (g 40)) (C := RX12) (T := TX12) (N := 63) hx hb hwd inA_X12 hown hK hP 0 rfl rfl 54 (by decide) (hwd _ wk_222) (fun _ h9 => h9) rfl dX12_lacksOf_189 ?_
                      refine lv_iload hx hb dX12_lacksOf_192 (lv_at hl 5 rfl) ?_
                      refine va_iald hx hb hK hP 40 39 rfl rfl (i := z13036) (vin (a := z13036.toInt) rfl (by omega)) dX12_lacksOf_194 ?_
                      refine lv_topi (fun z13094 e13095 => ?_)
                      have e13095 : z13094 = F 40 (z13036 : Int32).toNatClampNeg := e13095.trans (congrFun (hF 40 (by decide)) _)
                      refine lv_iload hx hb dX12_lacksOf_195 (lv_at hl 0 rfl) ?_
                      refine lv_isub hx hb dX12_lacksOf_197 ?_
                      refine lv_topi (fun z13096 e13097 => ?_)
                      try (have t13098 := tsub e13097 (a := z13094.toInt) rfl (b := r13078.toInt) rfl (by omega))
                      refine lv_goto (tgt := 202) hx hb dX12_lacksOf_198 (by decide) ?_
                      refine lv_iadd hx hb dX12_lacksOf_202 ?_
                      refine lv_topi (fun z13099 e13100 => ?_)
                      try (have t13101 := tadd e13100 (a := x7_lp13049.toInt) rfl (b := z13096.toInt) rfl (by omega))
                      refine lv_istore (lv' := [(7, .int z13099), (10, .int r13078), (9, .int x9_lp13049), (8, .int 2), (6, .int z13039), (5, .int z13036), (0, .ref (g 0)), (1, .int p0), (2, .int p1), (3, .int p2), (4, .int p3)]) hx hb dX12_lacksOf_203 hl (by decide) rfl (fun ls hl => ?_)
                      obtain ⟨z13102, e13103⟩ : ∃ y : Int32, y = x9_lp13049 + 1 := ⟨_, rfl⟩
                      try (have t13104 := tadd e13103 rfl (b := 1) (by decide) (by omega))
                      refine lv_iinc (v := z13102) (lv' := [(9, .int z13102), (7, .int z13099), (10, .int r13078), (8, .int 2), (6, .int z13039), (5, .int z13036), (0, .ref (g 0)), (1, .int p0), (2, .int p1), (3, .int p2), (4, .int p3)]) hx hb dX12_lacksOf_205 hl (k := 2) rfl (by rw [e13103]; rfl) (by decide) rfl (fun ls hl => ?_)
                      refine lv_goto (tgt := 112) hx hb dX12_lacksOf_208 (by decide) ?_
                      exact ih_lp13049 z13102 z13099 v13079 F13080 _ _ _ (by omega) (by omega) (frC (by decide) hf13081 hf_lp13049) hI hF hP hS (lv_sub hl [0, 3, 1, 4, 5, 6, 7, 8, 9, 10] rfl)
                  · skip
                    have t13105 := cv_eq (a := r13074.toInt) rfl (b := 0) (by decide) c13076
                    refine lv_goto (tgt := 205) hx hb dX12_lacksOf_159 (by decide) ?_
                    obtain ⟨z13106, e13107⟩ : ∃ y : Int32, y = x9_lp13049 + 1 := ⟨_, rfl⟩
                    try (have t13108 := tadd e13107 rfl (b := 1) (by decide) (by omega))
                    refine lv_iinc (v := z13106) (lv' := [(9, .int z13106), (8, .int 2), (7, .int x7_lp13049), (6, .int z13039), (5, .int z13036), (0, .ref (g 0)), (1, .int p0), (2, .int p1), (3, .int p2), (4, .int p3)]) hx hb dX12_lacksOf_205 hl (k := 0) rfl (by rw [e13107]; rfl) (by decide) rfl (fun ls hl => ?_)
                    refine lv_goto (tgt := 112) hx hb dX12_lacksOf_208 (by decide) ?_
                    exact ih_lp13049 z13106 x7_lp13049 v_lp13049 F_lp13049 _ _ _ (by omega) (by omega) hf_lp13049 hI hF hP hS (lv_sub hl [0, 1, 2, 3, 4, 5, 6, 7, 8, 9] rfl)
        obtain ⟨n9, hn9⟩ : ∃ n : Nat, 2147483648 - 0 ≤ (n : Int) := ⟨((2147483648 - 0 : Int)).toNat, by omega⟩
        exact lp13049 n9 0 0 v F H _ ls (by have : (0 : Int32).toInt = 0 := (by decide); have : (0 : Int32).toInt = 0 := (by decide); omega) (by have : (0 : Int32).toInt = 0 := (by decide); have : (0 : Int32).toInt = 0 := (by decide); omega) (fun _ _ => rfl) hI hF hP hS hl
      · skip
        have t13109 := cv_eq (a := z13039.toInt) rfl (b := 108) (by decide) c13047
        refine lv_iconst (v := 1) hx hb dX12_lacksOf_102 (by decide) ?_
        refine lv_goto (tgt := 107) hx hb dX12_lacksOf_103 (by decide) ?_
        refine lv_istore (lv' := [(8, .int 1), (7, .int 0), (6, .int z13039), (5, .int z13036), (0, .ref (g 0)), (1, .int p0), (2, .int p1), (3, .int p2), (4, .int p3)]) hx hb dX12_lacksOf_107 hl (by decide) rfl (fun ls hl => ?_)
        refine lv_iconst (v := 0) hx hb dX12_lacksOf_109 (by decide) ?_
        refine lv_istore (lv' := [(9, .int 0), (8, .int 1), (7, .int 0), (6, .int z13039), (5, .int z13036), (0, .ref (g 0)), (1, .int p0), (2, .int p1), (3, .int p2), (4, .int p3)]) hx hb dX12_lacksOf_110 hl (by decide) rfl (fun ls hl => ?_)
        have lp13110 : ∀ (n : Nat) (x9_lp13110 : Int32) (x7_lp13110 : Int32) (v_lp13110 : Nat → Int32) (F_lp13110 : Nat → Nat → Int32) (H : Heap) (locs : List Loc) (ls : Array Slot), (0 ≤ x9_lp13110.toInt) → (2147483648 - x9_lp13110.toInt ≤ (n : Int)) → (∀ k, k ∉ ([] : List Nat) → v_lp13110 k = v k) → IM v_lp13110 F_lp13110 → (∀ k, k ∉ ([30, 31] : List Nat) → F_lp13110 k = F k) → va_P (dC, dI) classes (wM g c v_lp13110 F_lp13110 rc) H → va_S (AM g s.heap.size) s.heap H locs → lv_has ls 11 [(9, .int x9_lp13110), (8, .int 1), (7, .int x7_lp13110), (6, .int z13039), (5, .int z13036), (0, .ref (g 0)), (1, .int p0), (2, .int p1), (3, .int p2), (4, .int p3)] → W p l e (headSpec (Cond.code yX12_lacksOf cX12_lacksOf 11 (some .int) :: wA) ({ frames := 5, cells := 0, slots := 0, locals := 200 })).room s m ([.ref (g 0), .int p0, .int p1, .int p2, .int p3] : List Value).toArray below meth c0 H locs 0 0 (MQ below (va_Qi (fun (r : Int32) (u : StM) => IM u.1 u.2.1 ∧ u.2.2 = rc ∧ (∀ k, k ∉ ([] : List Nat) → u.1 k = v k) ∧ (∀ k, k ∉ ([30, 31] : List Nat) → u.2.1 k = F k) ∧ True) (BM dC dI g c) (AM g s.heap.size)) ([.ref (g 0), .int p0, .int p1, .int p2, .int p3] : List Value).toArray s 0 0 (AM g s.heap.size)) (F0 m 112 ls []) := by
          intro n
          induction n with
          | zero =>
            intro x9_lp13110 x7_lp13110 v_lp13110 F_lp13110 H locs ls t13111 hm hf_lp13110 hI hF hP hS hl
            exfalso
            have := i32_rng x9_lp13110
            have := i32_rng x7_lp13110
            have hI1 := hI.1
            omega
          | succ n ih_lp13110 =>
            intro x9_lp13110 x7_lp13110 v_lp13110 F_lp13110 H locs ls t13111 hm hf_lp13110 hI hF hP hS hl
            have rx9_lp13110 := i32_rng x9_lp13110
            have rx7_lp13110 := i32_rng x7_lp13110
            refine lv_iload hx hb dX12_lacksOf_112 (lv_at hl 0 rfl) ?_
            refine lv_aload_n hx hb dX12_lacksOf_114 rfl (lv_at hl 5 rfl) ?_
            refine va_get (D := (dC, dI)) (ci := 12) (v := .int (v_lp13110 14)) (C := RX12) (T := TX12) (N := 63) hx hb hwd inA_X12 hown hK hP 0 rfl rfl 14 (by decide) (hwd _ wk_318) (fun _ h9 => h9) rfl dX12_lacksOf_115 ?_
            refine my_top (v := v 14) (hf_lp13110 14 (by decide)) ?_
            have t13112 : 0 ≤ (v 14).toInt ∧ (v 14).toInt ≤ 100 := by have h9 := hI.1 14 _ _ rfl; rw [show v_lp13110 14 = v 14 from hf_lp13110 14 (by decide)] at h9; exact h9
            refine lv_icmp_ge (tgt := 211) hx hb dX12_lacksOf_118 (by decide) (fun c13113 => ?_) (fun c13113 => ?_)
            · skip
              have t13114 := cv_le (a := (v 14).toInt) rfl (b := x9_lp13110.toInt) rfl c13113
              refine lv_iload hx hb dX12_lacksOf_211 (lv_at hl 2 rfl) ?_
              have hP9 : va_P (dC, dI) classes (wM g c v_lp13110 F_lp13110 rc) H := hP
              exact W.iret (v := x7_lp13110) hx hb hr (fun t ht hW => ⟨⟨x7_lp13110, (v_lp13110, F_lp13110, rc), rfl, ⟨hI, rfl, (frC (by decide) hf_lp13110 (fun _ _ => rfl)), hF, trivial⟩, (by show va_P _ _ _ t.heap; rw [ht]; exact hP9)⟩, hS.F ht⟩) hS.2.2 dX12_lacksOf_213
            · skip
              have t13115 := cv_nle (a := (v 14).toInt) rfl (b := x9_lp13110.toInt) rfl c13113
              refine lv_aload_n hx hb dX12_lacksOf_121 rfl (lv_at hl 5 rfl) ?_
              refine va_get (D := (dC, dI)) (ci := 12) (v := .ref (g 42)) (C := RX12) (T := TX12) (N := 63) hx hb hwd inA_X12 hown hK hP 0 rfl rfl 56 (by decide) (hwd _ wk_224) (fun _ h9 => h9) rfl dX12_lacksOf_122 ?_
              refine lv_iload hx hb dX12_lacksOf_125 (lv_at hl 0 rfl) ?_
              refine va_zald hx hb hK hP 42 41 rfl rfl (i := x9_lp13110) (vin (a := x9_lp13110.toInt) rfl (by omega)) dX12_lacksOf_127 ?_
              refine lv_topi (fun z13116 e13117 => ?_)
              have e13117 : z13116 = F 42 (x9_lp13110 : Int32).toNatClampNeg := e13117.trans (congrFun (hF 42 (by decide)) _)
              refine lv_if_eq (tgt := 205) hx hb dX12_lacksOf_128 (by decide) (fun c13118 => ?_) (fun c13118 => ?_)
              · skip
                have t13119 := cv_eq (a := z13116.toInt) rfl (b := 0) (by decide) c13118
                obtain ⟨z13120, e13121⟩ : ∃ y : Int32, y = x9_lp13110 + 1 := ⟨_, rfl⟩
                try (have t13122 := tadd e13121 rfl (b := 1) (by decide) (by omega))
                refine lv_iinc (v := z13120) (lv' := [(9, .int z13120), (8, .int 1), (7, .int x7_lp13110), (6, .int z13039), (5, .int z13036), (0, .ref (g 0)), (1, .int p0), (2, .int p1), (3, .int p2), (4, .int p3)]) hx hb dX12_lacksOf_205 hl (k := 0) rfl (by rw [e13121]; rfl) (by decide) rfl (fun ls hl => ?_)
                refine lv_goto (tgt := 112) hx hb dX12_lacksOf_208 (by decide) ?_
                exact ih_lp13110 z13120 x7_lp13110 v_lp13110 F_lp13110 _ _ _ (by omega) (by omega) hf_lp13110 hI hF hP hS (lv_sub hl [0, 1, 2, 3, 4, 5, 6, 7, 8, 9] rfl)
              · skip
                have t13123 := cv_ne (a := z13116.toInt) rfl (b := 0) (by decide) c13118
                refine lv_aload_n hx hb dX12_lacksOf_131 rfl (lv_at hl 5 rfl) ?_
                refine va_get (D := (dC, dI)) (ci := 12) (v := .ref (g 11)) (C := RX12) (T := TX12) (N := 63) hx hb hwd inA_X12 hown hK hP 0 rfl rfl 15 (by decide) (hwd _ wk_192) (fun _ h9 => h9) rfl dX12_lacksOf_132 ?_
                refine lv_iload hx hb dX12_lacksOf_135 (lv_at hl 0 rfl) ?_
                refine va_iald hx hb hK hP 11 10 rfl rfl (i := x9_lp13110) (vin (a := x9_lp13110.toInt) rfl (by omega)) dX12_lacksOf_137 ?_
                refine lv_topi (fun z13124 e13125 => ?_)
                have t13126 : 0 ≤ z13124.toInt ∧ z13124.toInt ≤ 9 := by rw [e13125]; exact hI.2 11 _ _ rfl _
                have e13125 : z13124 = F 11 (x9_lp13110 : Int32).toNatClampNeg := e13125.trans (congrFun (hF 11 (by decide)) _)
                refine lv_aload_n hx hb dX12_lacksOf_138 rfl (lv_at hl 5 rfl) ?_
                refine va_get (D := (dC, dI)) (ci := 12) (v := .ref (g 39)) (C := RX12) (T := TX12) (N := 63) hx hb hwd inA_X12 hown hK hP 0 rfl rfl 53 (by decide) (hwd _ wk_221) (fun _ h9 => h9) rfl dX12_lacksOf_139 ?_
                refine lv_iload hx hb dX12_lacksOf_142 (lv_at hl 4 rfl) ?_
                refine va_iald hx hb hK hP 39 38 rfl rfl (i := z13036) (vin (a := z13036.toInt) rfl (by omega)) dX12_lacksOf_144 ?_
                refine lv_topi (fun z13127 e13128 => ?_)
                have e13128 : z13127 = F 39 (z13036 : Int32).toNatClampNeg := e13128.trans (congrFun (hF 39 (by decide)) _)
                refine lv_icmp_ne (tgt := 205) hx hb dX12_lacksOf_145 (by decide) (fun c13129 => ?_) (fun c13129 => ?_)
                · skip
                  have t13130 := cv_ne (a := z13124.toInt) rfl (b := z13127.toInt) rfl c13129
                  obtain ⟨z13131, e13132⟩ : ∃ y : Int32, y = x9_lp13110 + 1 := ⟨_, rfl⟩
                  try (have t13133 := tadd e13132 rfl (b := 1) (by decide) (by omega))
                  refine lv_iinc (v := z13131) (lv' := [(9, .int z13131), (8, .int 1), (7, .int x7_lp13110), (6, .int z13039), (5, .int z13036), (0, .ref (g 0)), (1, .int p0), (2, .int p1), (3, .int p2), (4, .int p3)]) hx hb dX12_lacksOf_205 hl (k := 0) rfl (by rw [e13132]; rfl) (by decide) rfl (fun ls hl => ?_)
                  refine lv_goto (tgt := 112) hx hb dX12_lacksOf_208 (by decide) ?_
                  exact ih_lp13110 z13131 x7_lp13110 v_lp13110 F_lp13110 _ _ _ (by omega) (by omega) hf_lp13110 hI hF hP hS (lv_sub hl [0, 1, 2, 3, 4, 5, 6, 7, 8, 9] rfl)
                · skip
                  have t13134 := cv_eq (a := z13124.toInt) rfl (b := z13127.toInt) rfl c13129
                  refine lv_aload_n hx hb dX12_lacksOf_148 rfl (lv_at hl 5 rfl) ?_
                  refine lv_iload hx hb dX12_lacksOf_149 (lv_at hl 0 rfl) ?_
                  refine lv_iload hx hb dX12_lacksOf_151 (lv_at hl 1 rfl) ?_
                  have hby1 : F_lp13110 1 = F 1 := hF 1 (by decide)
                  have hby11 : F_lp13110 11 = F 11 := hF 11 (by decide)
                  refine va_calli (va_runV (As := [.int x9_lp13110, .int 1]) (rest := []) ⟨hx, hb, hml, hown, hwd⟩ (c_X12_limitOf l dC dI g c adK adV v_lp13110 F_lp13110 rc H.size x9_lp13110 1 hg hI (by omega) (by have : (1 : Int32).toInt = 1 := (by decide); omega)) (cwV 2 hwd (gV wk_489 wk_486 wk_487 wk_488 wk_5) rfl rfl rfl (by decide +kernel) ⟨Nat.le_of_ble_eq_true rfl, Nat.le_of_ble_eq_true rfl⟩) ⟨PM.blind, va_recv hK hP (ci := 12) (q0 := 0) rfl rfl, fun U hU hW => ⟨rfl, PM.at hK hE hP hS hU hW⟩⟩ rfl rfl hl.1 rfl (lv_room (Nat.le_of_ble_eq_true rfl)) dX12_lacksOf_153 ⟨Nat.le_of_ble_eq_true rfl, Nat.le_of_ble_eq_true rfl⟩) hS (fun q _ h => (freeM hS) q h) (freeM hS) (fun r13135 u t H1 locs ht hvm hw hB hz1 hk1 hS => ?_)
                  unfold BM at hB
                  rw [ht] at hB
                  have hP : va_P (dC, dI) classes (wM g c v_lp13110 F_lp13110 rc) H1 := hB
                  replace hw : r13135.toInt = (F_lp13110 1 (limJ (F_lp13110 11) x9_lp13110 (1 : Int32))).toInt := hw
                  rw [hby1] at hw
                  rw [hby11] at hw
                  have hw_r13135 := hw
                  clear hw
                  have k13136 : (1 : Int32).toInt = 1 := by decide
                  clear hz1
                  generalize H1 = H at hP hS ⊢
                  refine lv_if_ne (tgt := 162) hx hb dX12_lacksOf_156 (by decide) (fun c13137 => ?_) (fun c13137 => ?_)
                  · skip
                    have t13138 := cv_ne (a := r13135.toInt) rfl (b := 0) (by decide) c13137
                    refine lv_aload_n hx hb dX12_lacksOf_162 rfl (lv_at hl 5 rfl) ?_
                    refine lv_iload hx hb dX12_lacksOf_163 (lv_at hl 0 rfl) ?_
                    refine lv_iload hx hb dX12_lacksOf_165 (lv_at hl 1 rfl) ?_
                    refine lv_iload hx hb dX12_lacksOf_167 (lv_at hl 9 rfl) ?_
                    refine va_calli (va_runV (As := [.int x9_lp13110, .int 1, .int p3]) (rest := []) ⟨hx, hb, hml, hown, hwd⟩ (c_X12_leftOf l dC dI g c adK adV v_lp13110 F_lp13110 rc H.size x9_lp13110 1 p3 hg hI (by omega) (by have : (1 : Int32).toInt = 1 := (by decide); omega) (JL.to hL (show v_lp13110 31 = v 31 from hf_lp13110 31 (by decide)) (hF 28 (by decide)) (hF 29 (by decide)) (hF 27 (by decide)))) (cwV 3 hwd (gV wk_493 wk_490 wk_491 wk_492 wk_5) rfl rfl rfl (by decide +kernel) ⟨Nat.le_of_ble_eq_true rfl, Nat.le_of_ble_eq_true rfl⟩) ⟨PM.blind, va_recv hK hP (ci := 12) (q0 := 0) rfl rfl, fun U hU hW => ⟨rfl, PM.at hK hE hP hS hU hW⟩⟩ rfl rfl hl.1 rfl (lv_room (Nat.le_of_ble_eq_true rfl)) dX12_lacksOf_169 ⟨Nat.le_of_ble_eq_true rfl, Nat.le_of_ble_eq_true rfl⟩) hS (fun q _ h => (freeM hS) q h) (freeM hS) (fun r13139 u t H1 locs ht hvm hw hB hz1 hk1 hS => ?_)
                    unfold BM at hB
                    rw [ht] at hB
                    obtain ⟨v13140, F13141, rc9⟩ := u
                    obtain ⟨hI, hrc, hf13142, hG13143, hw⟩ := hw
                    dsimp only at hI hrc hB hf13142 hG13143 hw
                    have hF := frCF (by decide) hG13143 hF
                    rw [hrc] at hB
                    have hP : va_P (dC, dI) classes (wM g c v13140 F13141 rc) H1 := hB
                    clear hz1
                    generalize H1 = H at hP hS ⊢
                    have rr_r13139 := i32_rng r13139
                    refine lv_istore (lv' := [(10, .int r13139), (9, .int x9_lp13110), (8, .int 1), (7, .int x7_lp13110), (6, .int z13039), (5, .int z13036), (0, .ref (g 0)), (1, .int p0), (2, .int p1), (3, .int p2), (4, .int p3)]) hx hb dX12_lacksOf_172 hl (by decide) rfl (fun ls hl => ?_)
                    refine lv_iload hx hb dX12_lacksOf_174 (lv_at hl 3 rfl) ?_
                    refine lv_iload hx hb dX12_lacksOf_176 (lv_at hl 0 rfl) ?_
                    refine lv_aload_n hx hb dX12_lacksOf_178 rfl (lv_at hl 6 rfl) ?_
                    refine va_get (D := (dC, dI)) (ci := 12) (v := .ref (g 40)) (C := RX12) (T := TX12) (N := 63) hx hb hwd inA_X12 hown hK hP 0 rfl rfl 54 (by decide) (hwd _ wk_222) (fun _ h9 => h9) rfl dX12_lacksOf_179 ?_
                    refine lv_iload hx hb dX12_lacksOf_182 (lv_at hl 5 rfl) ?_
                    refine va_iald hx hb hK hP 40 39 rfl rfl (i := z13036) (vin (a := z13036.toInt) rfl (by omega)) dX12_lacksOf_184 ?_
                    refine lv_topi (fun z13144 e13145 => ?_)
                    have e13145 : z13144 = F 40 (z13036 : Int32).toNatClampNeg := e13145.trans (congrFun (hF 40 (by decide)) _)
                    refine lv_icmp_ge (tgt := 201) hx hb dX12_lacksOf_185 (by decide) (fun c13146 => ?_) (fun c13146 => ?_)
                    · skip
                      have t13147 := cv_le (a := z13144.toInt) rfl (b := r13139.toInt) rfl c13146
                      refine lv_iconst (v := 0) hx hb dX12_lacksOf_201 (by decide) ?_
                      refine lv_iadd hx hb dX12_lacksOf_202 ?_
                      refine lv_topi (fun z13148 e13149 => ?_)
                      try (have t13150 := tadd e13149 (a := x7_lp13110.toInt) rfl (b := 0) (by decide) (by omega))
                      refine lv_istore (lv' := [(7, .int z13148), (10, .int r13139), (9, .int x9_lp13110), (8, .int 1), (6, .int z13039), (5, .int z13036), (0, .ref (g 0)), (1, .int p0), (2, .int p1), (3, .int p2), (4, .int p3)]) hx hb dX12_lacksOf_203 hl (by decide) rfl (fun ls hl => ?_)
                      obtain ⟨z13151, e13152⟩ : ∃ y : Int32, y = x9_lp13110 + 1 := ⟨_, rfl⟩
                      try (have t13153 := tadd e13152 rfl (b := 1) (by decide) (by omega))
                      refine lv_iinc (v := z13151) (lv' := [(9, .int z13151), (7, .int z13148), (10, .int r13139), (8, .int 1), (6, .int z13039), (5, .int z13036), (0, .ref (g 0)), (1, .int p0), (2, .int p1), (3, .int p2), (4, .int p3)]) hx hb dX12_lacksOf_205 hl (k := 2) rfl (by rw [e13152]; rfl) (by decide) rfl (fun ls hl => ?_)
                      refine lv_goto (tgt := 112) hx hb dX12_lacksOf_208 (by decide) ?_
                      exact ih_lp13110 z13151 z13148 v13140 F13141 _ _ _ (by omega) (by omega) (frC (by decide) hf13142 hf_lp13110) hI hF hP hS (lv_sub hl [0, 3, 1, 4, 5, 6, 7, 8, 9, 10] rfl)
                    · skip
                      have t13154 := cv_nle (a := z13144.toInt) rfl (b := r13139.toInt) rfl c13146
                      refine lv_aload_n hx hb dX12_lacksOf_188 rfl (lv_at hl 6 rfl) ?_
                      refine va_get (D := (dC, dI)) (ci := 12) (v := .ref (g 40)) (C := RX12) (T := TX12) (N := 63) hx hb hwd inA_X12 hown hK hP 0 rfl rfl 54 (by decide) (hwd _ wk_222) (fun _ h9 => h9) rfl dX12_lacksOf_189 ?_
                      refine lv_iload hx hb dX12_lacksOf_192 (lv_at hl 5 rfl) ?_
                      refine va_iald hx hb hK hP 40 39 rfl rfl (i := z13036) (vin (a := z13036.toInt) rfl (by omega)) dX12_lacksOf_194 ?_
                      refine lv_topi (fun z13155 e13156 => ?_)
                      have e13156 : z13155 = F 40 (z13036 : Int32).toNatClampNeg := e13156.trans (congrFun (hF 40 (by decide)) _)
                      refine lv_iload hx hb dX12_lacksOf_195 (lv_at hl 0 rfl) ?_
                      refine lv_isub hx hb dX12_lacksOf_197 ?_
                      refine lv_topi (fun z13157 e13158 => ?_)
                      try (have t13159 := tsub e13158 (a := z13155.toInt) rfl (b := r13139.toInt) rfl (by omega))
                      refine lv_goto (tgt := 202) hx hb dX12_lacksOf_198 (by decide) ?_
                      refine lv_iadd hx hb dX12_lacksOf_202 ?_
                      refine lv_topi (fun z13160 e13161 => ?_)
                      try (have t13162 := tadd e13161 (a := x7_lp13110.toInt) rfl (b := z13157.toInt) rfl (by omega))
                      refine lv_istore (lv' := [(7, .int z13160), (10, .int r13139), (9, .int x9_lp13110), (8, .int 1), (6, .int z13039), (5, .int z13036), (0, .ref (g 0)), (1, .int p0), (2, .int p1), (3, .int p2), (4, .int p3)]) hx hb dX12_lacksOf_203 hl (by decide) rfl (fun ls hl => ?_)
                      obtain ⟨z13163, e13164⟩ : ∃ y : Int32, y = x9_lp13110 + 1 := ⟨_, rfl⟩
                      try (have t13165 := tadd e13164 rfl (b := 1) (by decide) (by omega))
                      refine lv_iinc (v := z13163) (lv' := [(9, .int z13163), (7, .int z13160), (10, .int r13139), (8, .int 1), (6, .int z13039), (5, .int z13036), (0, .ref (g 0)), (1, .int p0), (2, .int p1), (3, .int p2), (4, .int p3)]) hx hb dX12_lacksOf_205 hl (k := 2) rfl (by rw [e13164]; rfl) (by decide) rfl (fun ls hl => ?_)
                      refine lv_goto (tgt := 112) hx hb dX12_lacksOf_208 (by decide) ?_
                      exact ih_lp13110 z13163 z13160 v13140 F13141 _ _ _ (by omega) (by omega) (frC (by decide) hf13142 hf_lp13110) hI hF hP hS (lv_sub hl [0, 3, 1, 4, 5, 6, 7, 8, 9, 10] rfl)
                  · skip
                    have t13166 := cv_eq (a := r13135.toInt) rfl (b := 0) (by decide) c13137
                    refine lv_goto (tgt := 205) hx hb dX12_lacksOf_159 (by decide) ?_
                    obtain ⟨z13167, e13168⟩ : ∃ y : Int32, y = x9_lp13110 + 1 := ⟨_, rfl⟩
                    try (have t13169 := tadd e13168 rfl (b := 1) (by decide) (by omega))
                    refine lv_iinc (v := z13167) (lv' := [(9, .int z13167), (8, .int 1), (7, .int x7_lp13110), (6, .int z13039), (5, .int z13036), (0, .ref (g 0)), (1, .int p0), (2, .int p1), (3, .int p2), (4, .int p3)]) hx hb dX12_lacksOf_205 hl (k := 0) rfl (by rw [e13168]; rfl) (by decide) rfl (fun ls hl => ?_)
                    refine lv_goto (tgt := 112) hx hb dX12_lacksOf_208 (by decide) ?_
                    exact ih_lp13110 z13167 x7_lp13110 v_lp13110 F_lp13110 _ _ _ (by omega) (by omega) hf_lp13110 hI hF hP hS (lv_sub hl [0, 1, 2, 3, 4, 5, 6, 7, 8, 9] rfl)
        obtain ⟨n9, hn9⟩ : ∃ n : Nat, 2147483648 - 0 ≤ (n : Int) := ⟨((2147483648 - 0 : Int)).toNat, by omega⟩
        exact lp13110 n9 0 0 v F H _ ls (by have : (0 : Int32).toInt = 0 := (by decide); have : (0 : Int32).toInt = 0 := (by decide); omega) (by have : (0 : Int32).toInt = 0 := (by decide); have : (0 : Int32).toInt = 0 := (by decide); omega) (fun _ _ => rfl) hI hF hP hS hl
    · skip
      have t13170 := cv_eq (a := z13039.toInt) rfl (b := 104) (by decide) c13045
      refine lv_iconst (v := 0) hx hb dX12_lacksOf_91 (by decide) ?_
      refine lv_goto (tgt := 107) hx hb dX12_lacksOf_92 (by decide) ?_
      refine lv_istore (lv' := [(8, .int 0), (7, .int 0), (6, .int z13039), (5, .int z13036), (0, .ref (g 0)), (1, .int p0), (2, .int p1), (3, .int p2), (4, .int p3)]) hx hb dX12_lacksOf_107 hl (by decide) rfl (fun ls hl => ?_)
      refine lv_iconst (v := 0) hx hb dX12_lacksOf_109 (by decide) ?_
      refine lv_istore (lv' := [(9, .int 0), (8, .int 0), (7, .int 0), (6, .int z13039), (5, .int z13036), (0, .ref (g 0)), (1, .int p0), (2, .int p1), (3, .int p2), (4, .int p3)]) hx hb dX12_lacksOf_110 hl (by decide) rfl (fun ls hl => ?_)
      have lp13171 : ∀ (n : Nat) (x9_lp13171 : Int32) (x7_lp13171 : Int32) (v_lp13171 : Nat → Int32) (F_lp13171 : Nat → Nat → Int32) (H : Heap) (locs : List Loc) (ls : Array Slot), (0 ≤ x9_lp13171.toInt) → (2147483648 - x9_lp13171.toInt ≤ (n : Int)) → (∀ k, k ∉ ([] : List Nat) → v_lp13171 k = v k) → IM v_lp13171 F_lp13171 → (∀ k, k ∉ ([30, 31] : List Nat) → F_lp13171 k = F k) → va_P (dC, dI) classes (wM g c v_lp13171 F_lp13171 rc) H → va_S (AM g s.heap.size) s.heap H locs → lv_has ls 11 [(9, .int x9_lp13171), (8, .int 0), (7, .int x7_lp13171), (6, .int z13039), (5, .int z13036), (0, .ref (g 0)), (1, .int p0), (2, .int p1), (3, .int p2), (4, .int p3)] → W p l e (headSpec (Cond.code yX12_lacksOf cX12_lacksOf 11 (some .int) :: wA) ({ frames := 5, cells := 0, slots := 0, locals := 200 })).room s m ([.ref (g 0), .int p0, .int p1, .int p2, .int p3] : List Value).toArray below meth c0 H locs 0 0 (MQ below (va_Qi (fun (r : Int32) (u : StM) => IM u.1 u.2.1 ∧ u.2.2 = rc ∧ (∀ k, k ∉ ([] : List Nat) → u.1 k = v k) ∧ (∀ k, k ∉ ([30, 31] : List Nat) → u.2.1 k = F k) ∧ True) (BM dC dI g c) (AM g s.heap.size)) ([.ref (g 0), .int p0, .int p1, .int p2, .int p3] : List Value).toArray s 0 0 (AM g s.heap.size)) (F0 m 112 ls []) := by
        intro n
        induction n with
        | zero =>
          intro x9_lp13171 x7_lp13171 v_lp13171 F_lp13171 H locs ls t13172 hm hf_lp13171 hI hF hP hS hl
          exfalso
          have := i32_rng x9_lp13171
          have := i32_rng x7_lp13171
          have hI1 := hI.1
          omega
        | succ n ih_lp13171 =>
          intro x9_lp13171 x7_lp13171 v_lp13171 F_lp13171 H locs ls t13172 hm hf_lp13171 hI hF hP hS hl
          have rx9_lp13171 := i32_rng x9_lp13171
          have rx7_lp13171 := i32_rng x7_lp13171
          refine lv_iload hx hb dX12_lacksOf_112 (lv_at hl 0 rfl) ?_
          refine lv_aload_n hx hb dX12_lacksOf_114 rfl (lv_at hl 5 rfl) ?_
          refine va_get (D := (dC, dI)) (ci := 12) (v := .int (v_lp13171 14)) (C := RX12) (T := TX12) (N := 63) hx hb hwd inA_X12 hown hK hP 0 rfl rfl 14 (by decide) (hwd _ wk_318) (fun _ h9 => h9) rfl dX12_lacksOf_115 ?_
          refine my_top (v := v 14) (hf_lp13171 14 (by decide)) ?_
          have t13173 : 0 ≤ (v 14).toInt ∧ (v 14).toInt ≤ 100 := by have h9 := hI.1 14 _ _ rfl; rw [show v_lp13171 14 = v 14 from hf_lp13171 14 (by decide)] at h9; exact h9
          refine lv_icmp_ge (tgt := 211) hx hb dX12_lacksOf_118 (by decide) (fun c13174 => ?_) (fun c13174 => ?_)
          · skip
            have t13175 := cv_le (a := (v 14).toInt) rfl (b := x9_lp13171.toInt) rfl c13174
            refine lv_iload hx hb dX12_lacksOf_211 (lv_at hl 2 rfl) ?_
            have hP9 : va_P (dC, dI) classes (wM g c v_lp13171 F_lp13171 rc) H := hP
            exact W.iret (v := x7_lp13171) hx hb hr (fun t ht hW => ⟨⟨x7_lp13171, (v_lp13171, F_lp13171, rc), rfl, ⟨hI, rfl, (frC (by decide) hf_lp13171 (fun _ _ => rfl)), hF, trivial⟩, (by show va_P _ _ _ t.heap; rw [ht]; exact hP9)⟩, hS.F ht⟩) hS.2.2 dX12_lacksOf_213
          · skip
            have t13176 := cv_nle (a := (v 14).toInt) rfl (b := x9_lp13171.toInt) rfl c13174
            refine lv_aload_n hx hb dX12_lacksOf_121 rfl (lv_at hl 5 rfl) ?_
            refine va_get (D := (dC, dI)) (ci := 12) (v := .ref (g 42)) (C := RX12) (T := TX12) (N := 63) hx hb hwd inA_X12 hown hK hP 0 rfl rfl 56 (by decide) (hwd _ wk_224) (fun _ h9 => h9) rfl dX12_lacksOf_122 ?_
            refine lv_iload hx hb dX12_lacksOf_125 (lv_at hl 0 rfl) ?_
            refine va_zald hx hb hK hP 42 41 rfl rfl (i := x9_lp13171) (vin (a := x9_lp13171.toInt) rfl (by omega)) dX12_lacksOf_127 ?_
            refine lv_topi (fun z13177 e13178 => ?_)
            have e13178 : z13177 = F 42 (x9_lp13171 : Int32).toNatClampNeg := e13178.trans (congrFun (hF 42 (by decide)) _)
            refine lv_if_eq (tgt := 205) hx hb dX12_lacksOf_128 (by decide) (fun c13179 => ?_) (fun c13179 => ?_)
            · skip
              have t13180 := cv_eq (a := z13177.toInt) rfl (b := 0) (by decide) c13179
              obtain ⟨z13181, e13182⟩ : ∃ y : Int32, y = x9_lp13171 + 1 := ⟨_, rfl⟩
              try (have t13183 := tadd e13182 rfl (b := 1) (by decide) (by omega))
              refine lv_iinc (v := z13181) (lv' := [(9, .int z13181), (8, .int 0), (7, .int x7_lp13171), (6, .int z13039), (5, .int z13036), (0, .ref (g 0)), (1, .int p0), (2, .int p1), (3, .int p2), (4, .int p3)]) hx hb dX12_lacksOf_205 hl (k := 0) rfl (by rw [e13182]; rfl) (by decide) rfl (fun ls hl => ?_)
              refine lv_goto (tgt := 112) hx hb dX12_lacksOf_208 (by decide) ?_
              exact ih_lp13171 z13181 x7_lp13171 v_lp13171 F_lp13171 _ _ _ (by omega) (by omega) hf_lp13171 hI hF hP hS (lv_sub hl [0, 1, 2, 3, 4, 5, 6, 7, 8, 9] rfl)
            · skip
              have t13184 := cv_ne (a := z13177.toInt) rfl (b := 0) (by decide) c13179
              refine lv_aload_n hx hb dX12_lacksOf_131 rfl (lv_at hl 5 rfl) ?_
              refine va_get (D := (dC, dI)) (ci := 12) (v := .ref (g 11)) (C := RX12) (T := TX12) (N := 63) hx hb hwd inA_X12 hown hK hP 0 rfl rfl 15 (by decide) (hwd _ wk_192) (fun _ h9 => h9) rfl dX12_lacksOf_132 ?_
              refine lv_iload hx hb dX12_lacksOf_135 (lv_at hl 0 rfl) ?_
              refine va_iald hx hb hK hP 11 10 rfl rfl (i := x9_lp13171) (vin (a := x9_lp13171.toInt) rfl (by omega)) dX12_lacksOf_137 ?_
              refine lv_topi (fun z13185 e13186 => ?_)
              have t13187 : 0 ≤ z13185.toInt ∧ z13185.toInt ≤ 9 := by rw [e13186]; exact hI.2 11 _ _ rfl _
              have e13186 : z13185 = F 11 (x9_lp13171 : Int32).toNatClampNeg := e13186.trans (congrFun (hF 11 (by decide)) _)
              refine lv_aload_n hx hb dX12_lacksOf_138 rfl (lv_at hl 5 rfl) ?_
              refine va_get (D := (dC, dI)) (ci := 12) (v := .ref (g 39)) (C := RX12) (T := TX12) (N := 63) hx hb hwd inA_X12 hown hK hP 0 rfl rfl 53 (by decide) (hwd _ wk_221) (fun _ h9 => h9) rfl dX12_lacksOf_139 ?_
              refine lv_iload hx hb dX12_lacksOf_142 (lv_at hl 4 rfl) ?_
              refine va_iald hx hb hK hP 39 38 rfl rfl (i := z13036) (vin (a := z13036.toInt) rfl (by omega)) dX12_lacksOf_144 ?_
              refine lv_topi (fun z13188 e13189 => ?_)
              have e13189 : z13188 = F 39 (z13036 : Int32).toNatClampNeg := e13189.trans (congrFun (hF 39 (by decide)) _)
              refine lv_icmp_ne (tgt := 205) hx hb dX12_lacksOf_145 (by decide) (fun c13190 => ?_) (fun c13190 => ?_)
              · skip
                have t13191 := cv_ne (a := z13185.toInt) rfl (b := z13188.toInt) rfl c13190
                obtain ⟨z13192, e13193⟩ : ∃ y : Int32, y = x9_lp13171 + 1 := ⟨_, rfl⟩
                try (have t13194 := tadd e13193 rfl (b := 1) (by decide) (by omega))
                refine lv_iinc (v := z13192) (lv' := [(9, .int z13192), (8, .int 0), (7, .int x7_lp13171), (6, .int z13039), (5, .int z13036), (0, .ref (g 0)), (1, .int p0), (2, .int p1), (3, .int p2), (4, .int p3)]) hx hb dX12_lacksOf_205 hl (k := 0) rfl (by rw [e13193]; rfl) (by decide) rfl (fun ls hl => ?_)
                refine lv_goto (tgt := 112) hx hb dX12_lacksOf_208 (by decide) ?_
                exact ih_lp13171 z13192 x7_lp13171 v_lp13171 F_lp13171 _ _ _ (by omega) (by omega) hf_lp13171 hI hF hP hS (lv_sub hl [0, 1, 2, 3, 4, 5, 6, 7, 8, 9] rfl)
              · skip
                have t13195 := cv_eq (a := z13185.toInt) rfl (b := z13188.toInt) rfl c13190
                refine lv_aload_n hx hb dX12_lacksOf_148 rfl (lv_at hl 5 rfl) ?_
                refine lv_iload hx hb dX12_lacksOf_149 (lv_at hl 0 rfl) ?_
                refine lv_iload hx hb dX12_lacksOf_151 (lv_at hl 1 rfl) ?_
                have hby1 : F_lp13171 1 = F 1 := hF 1 (by decide)
                have hby11 : F_lp13171 11 = F 11 := hF 11 (by decide)
                refine va_calli (va_runV (As := [.int x9_lp13171, .int 0]) (rest := []) ⟨hx, hb, hml, hown, hwd⟩ (c_X12_limitOf l dC dI g c adK adV v_lp13171 F_lp13171 rc H.size x9_lp13171 0 hg hI (by omega) (by have : (0 : Int32).toInt = 0 := (by decide); omega)) (cwV 2 hwd (gV wk_489 wk_486 wk_487 wk_488 wk_5) rfl rfl rfl (by decide +kernel) ⟨Nat.le_of_ble_eq_true rfl, Nat.le_of_ble_eq_true rfl⟩) ⟨PM.blind, va_recv hK hP (ci := 12) (q0 := 0) rfl rfl, fun U hU hW => ⟨rfl, PM.at hK hE hP hS hU hW⟩⟩ rfl rfl hl.1 rfl (lv_room (Nat.le_of_ble_eq_true rfl)) dX12_lacksOf_153 ⟨Nat.le_of_ble_eq_true rfl, Nat.le_of_ble_eq_true rfl⟩) hS (fun q _ h => (freeM hS) q h) (freeM hS) (fun r13196 u t H1 locs ht hvm hw hB hz1 hk1 hS => ?_)
                unfold BM at hB
                rw [ht] at hB
                have hP : va_P (dC, dI) classes (wM g c v_lp13171 F_lp13171 rc) H1 := hB
                replace hw : r13196.toInt = (F_lp13171 1 (limJ (F_lp13171 11) x9_lp13171 (0 : Int32))).toInt := hw
                rw [hby1] at hw
                rw [hby11] at hw
                have hw_r13196 := hw
                clear hw
                have k13197 : (0 : Int32).toInt = 0 := by decide
                clear hz1
                generalize H1 = H at hP hS ⊢
                refine lv_if_ne (tgt := 162) hx hb dX12_lacksOf_156 (by decide) (fun c13198 => ?_) (fun c13198 => ?_)
                · skip
                  have t13199 := cv_ne (a := r13196.toInt) rfl (b := 0) (by decide) c13198
                  refine lv_aload_n hx hb dX12_lacksOf_162 rfl (lv_at hl 5 rfl) ?_
                  refine lv_iload hx hb dX12_lacksOf_163 (lv_at hl 0 rfl) ?_
                  refine lv_iload hx hb dX12_lacksOf_165 (lv_at hl 1 rfl) ?_
                  refine lv_iload hx hb dX12_lacksOf_167 (lv_at hl 9 rfl) ?_
                  refine va_calli (va_runV (As := [.int x9_lp13171, .int 0, .int p3]) (rest := []) ⟨hx, hb, hml, hown, hwd⟩ (c_X12_leftOf l dC dI g c adK adV v_lp13171 F_lp13171 rc H.size x9_lp13171 0 p3 hg hI (by omega) (by have : (0 : Int32).toInt = 0 := (by decide); omega) (JL.to hL (show v_lp13171 31 = v 31 from hf_lp13171 31 (by decide)) (hF 28 (by decide)) (hF 29 (by decide)) (hF 27 (by decide)))) (cwV 3 hwd (gV wk_493 wk_490 wk_491 wk_492 wk_5) rfl rfl rfl (by decide +kernel) ⟨Nat.le_of_ble_eq_true rfl, Nat.le_of_ble_eq_true rfl⟩) ⟨PM.blind, va_recv hK hP (ci := 12) (q0 := 0) rfl rfl, fun U hU hW => ⟨rfl, PM.at hK hE hP hS hU hW⟩⟩ rfl rfl hl.1 rfl (lv_room (Nat.le_of_ble_eq_true rfl)) dX12_lacksOf_169 ⟨Nat.le_of_ble_eq_true rfl, Nat.le_of_ble_eq_true rfl⟩) hS (fun q _ h => (freeM hS) q h) (freeM hS) (fun r13200 u t H1 locs ht hvm hw hB hz1 hk1 hS => ?_)
                  unfold BM at hB
                  rw [ht] at hB
                  obtain ⟨v13201, F13202, rc9⟩ := u
                  obtain ⟨hI, hrc, hf13203, hG13204, hw⟩ := hw
                  dsimp only at hI hrc hB hf13203 hG13204 hw
                  have hF := frCF (by decide) hG13204 hF
                  rw [hrc] at hB
                  have hP : va_P (dC, dI) classes (wM g c v13201 F13202 rc) H1 := hB
                  clear hz1
                  generalize H1 = H at hP hS ⊢
                  have rr_r13200 := i32_rng r13200
                  refine lv_istore (lv' := [(10, .int r13200), (9, .int x9_lp13171), (8, .int 0), (7, .int x7_lp13171), (6, .int z13039), (5, .int z13036), (0, .ref (g 0)), (1, .int p0), (2, .int p1), (3, .int p2), (4, .int p3)]) hx hb dX12_lacksOf_172 hl (by decide) rfl (fun ls hl => ?_)
                  refine lv_iload hx hb dX12_lacksOf_174 (lv_at hl 3 rfl) ?_
                  refine lv_iload hx hb dX12_lacksOf_176 (lv_at hl 0 rfl) ?_
                  refine lv_aload_n hx hb dX12_lacksOf_178 rfl (lv_at hl 6 rfl) ?_
                  refine va_get (D := (dC, dI)) (ci := 12) (v := .ref (g 40)) (C := RX12) (T := TX12) (N := 63) hx hb hwd inA_X12 hown hK hP 0 rfl rfl 54 (by decide) (hwd _ wk_222) (fun _ h9 => h9) rfl dX12_lacksOf_179 ?_
                  refine lv_iload hx hb dX12_lacksOf_182 (lv_at hl 5 rfl) ?_
                  refine va_iald hx hb hK hP 40 39 rfl rfl (i := z13036) (vin (a := z13036.toInt) rfl (by omega)) dX12_lacksOf_184 ?_
                  refine lv_topi (fun z13205 e13206 => ?_)
                  have e13206 : z13205 = F 40 (z13036 : Int32).toNatClampNeg := e13206.trans (congrFun (hF 40 (by decide)) _)
                  refine lv_icmp_ge (tgt := 201) hx hb dX12_lacksOf_185 (by decide) (fun c13207 => ?_) (fun c13207 => ?_)
                  · skip
                    have t13208 := cv_le (a := z13205.toInt) rfl (b := r13200.toInt) rfl c13207
                    refine lv_iconst (v := 0) hx hb dX12_lacksOf_201 (by decide) ?_
                    refine lv_iadd hx hb dX12_lacksOf_202 ?_
                    refine lv_topi (fun z13209 e13210 => ?_)
                    try (have t13211 := tadd e13210 (a := x7_lp13171.toInt) rfl (b := 0) (by decide) (by omega))
                    refine lv_istore (lv' := [(7, .int z13209), (10, .int r13200), (9, .int x9_lp13171), (8, .int 0), (6, .int z13039), (5, .int z13036), (0, .ref (g 0)), (1, .int p0), (2, .int p1), (3, .int p2), (4, .int p3)]) hx hb dX12_lacksOf_203 hl (by decide) rfl (fun ls hl => ?_)
                    obtain ⟨z13212, e13213⟩ : ∃ y : Int32, y = x9_lp13171 + 1 := ⟨_, rfl⟩
                    try (have t13214 := tadd e13213 rfl (b := 1) (by decide) (by omega))
                    refine lv_iinc (v := z13212) (lv' := [(9, .int z13212), (7, .int z13209), (10, .int r13200), (8, .int 0), (6, .int z13039), (5, .int z13036), (0, .ref (g 0)), (1, .int p0), (2, .int p1), (3, .int p2), (4, .int p3)]) hx hb dX12_lacksOf_205 hl (k := 2) rfl (by rw [e13213]; rfl) (by decide) rfl (fun ls hl => ?_)
                    refine lv_goto (tgt := 112) hx hb dX12_lacksOf_208 (by decide) ?_
                    exact ih_lp13171 z13212 z13209 v13201 F13202 _ _ _ (by omega) (by omega) (frC (by decide) hf13203 hf_lp13171) hI hF hP hS (lv_sub hl [0, 3, 1, 4, 5, 6, 7, 8, 9, 10] rfl)
                  · skip
                    have t13215 := cv_nle (a := z13205.toInt) rfl (b := r13200.toInt) rfl c13207
                    refine lv_aload_n hx hb dX12_lacksOf_188 rfl (lv_at hl 6 rfl) ?_
                    refine va_get (D := (dC, dI)) (ci := 12) (v := .ref (g 40)) (C := RX12) (T := TX12) (N := 63) hx hb hwd inA_X12 hown hK hP 0 rfl rfl 54 (by decide) (hwd _ wk_222) (fun _ h9 => h9) rfl dX12_lacksOf_189 ?_
                    refine lv_iload hx hb dX12_lacksOf_192 (lv_at hl 5 rfl) ?_
                    refine va_iald hx hb hK hP 40 39 rfl rfl (i := z13036) (vin (a := z13036.toInt) rfl (by omega)) dX12_lacksOf_194 ?_
                    refine lv_topi (fun z13216 e13217 => ?_)
                    have e13217 : z13216 = F 40 (z13036 : Int32).toNatClampNeg := e13217.trans (congrFun (hF 40 (by decide)) _)
                    refine lv_iload hx hb dX12_lacksOf_195 (lv_at hl 0 rfl) ?_
                    refine lv_isub hx hb dX12_lacksOf_197 ?_
                    refine lv_topi (fun z13218 e13219 => ?_)
                    try (have t13220 := tsub e13219 (a := z13216.toInt) rfl (b := r13200.toInt) rfl (by omega))
                    refine lv_goto (tgt := 202) hx hb dX12_lacksOf_198 (by decide) ?_
                    refine lv_iadd hx hb dX12_lacksOf_202 ?_
                    refine lv_topi (fun z13221 e13222 => ?_)
                    try (have t13223 := tadd e13222 (a := x7_lp13171.toInt) rfl (b := z13218.toInt) rfl (by omega))
                    refine lv_istore (lv' := [(7, .int z13221), (10, .int r13200), (9, .int x9_lp13171), (8, .int 0), (6, .int z13039), (5, .int z13036), (0, .ref (g 0)), (1, .int p0), (2, .int p1), (3, .int p2), (4, .int p3)]) hx hb dX12_lacksOf_203 hl (by decide) rfl (fun ls hl => ?_)
                    obtain ⟨z13224, e13225⟩ : ∃ y : Int32, y = x9_lp13171 + 1 := ⟨_, rfl⟩
                    try (have t13226 := tadd e13225 rfl (b := 1) (by decide) (by omega))
                    refine lv_iinc (v := z13224) (lv' := [(9, .int z13224), (7, .int z13221), (10, .int r13200), (8, .int 0), (6, .int z13039), (5, .int z13036), (0, .ref (g 0)), (1, .int p0), (2, .int p1), (3, .int p2), (4, .int p3)]) hx hb dX12_lacksOf_205 hl (k := 2) rfl (by rw [e13225]; rfl) (by decide) rfl (fun ls hl => ?_)
                    refine lv_goto (tgt := 112) hx hb dX12_lacksOf_208 (by decide) ?_
                    exact ih_lp13171 z13224 z13221 v13201 F13202 _ _ _ (by omega) (by omega) (frC (by decide) hf13203 hf_lp13171) hI hF hP hS (lv_sub hl [0, 3, 1, 4, 5, 6, 7, 8, 9, 10] rfl)
                · skip
                  have t13227 := cv_eq (a := r13196.toInt) rfl (b := 0) (by decide) c13198
                  refine lv_goto (tgt := 205) hx hb dX12_lacksOf_159 (by decide) ?_
                  obtain ⟨z13228, e13229⟩ : ∃ y : Int32, y = x9_lp13171 + 1 := ⟨_, rfl⟩
                  try (have t13230 := tadd e13229 rfl (b := 1) (by decide) (by omega))
                  refine lv_iinc (v := z13228) (lv' := [(9, .int z13228), (8, .int 0), (7, .int x7_lp13171), (6, .int z13039), (5, .int z13036), (0, .ref (g 0)), (1, .int p0), (2, .int p1), (3, .int p2), (4, .int p3)]) hx hb dX12_lacksOf_205 hl (k := 0) rfl (by rw [e13229]; rfl) (by decide) rfl (fun ls hl => ?_)
                  refine lv_goto (tgt := 112) hx hb dX12_lacksOf_208 (by decide) ?_
                  exact ih_lp13171 z13228 x7_lp13171 v_lp13171 F_lp13171 _ _ _ (by omega) (by omega) hf_lp13171 hI hF hP hS (lv_sub hl [0, 1, 2, 3, 4, 5, 6, 7, 8, 9] rfl)
      obtain ⟨n9, hn9⟩ : ∃ n : Nat, 2147483648 - 0 ≤ (n : Int) := ⟨((2147483648 - 0 : Int)).toNat, by omega⟩
      exact lp13171 n9 0 0 v F H _ ls (by have : (0 : Int32).toInt = 0 := (by decide); have : (0 : Int32).toInt = 0 := (by decide); omega) (by have : (0 : Int32).toInt = 0 := (by decide); have : (0 : Int32).toInt = 0 := (by decide); omega) (fun _ _ => rfl) hI hF hP hS hl
  · refine lv_tableIn (off := 409) (tgt := 431) hx hb dX12_lacksOf_22 hlo13041 hhi13042 (by rw [hk]; decide) (by decide) ?_
    refine lv_aload_n hx hb dX12_lacksOf_431 rfl (lv_at hl 3 rfl) ?_
    refine lv_iload_n hx hb dX12_lacksOf_432 rfl (lv_at hl 4 rfl) ?_
    refine lv_iload_n hx hb dX12_lacksOf_433 rfl (lv_at hl 6 rfl) ?_
    refine va_calli (va_runV (As := [.int p0, .int p2]) (rest := []) ⟨hx, hb, hml, hown, hwd⟩ (c_X12_late l dC dI g c adK adV v F rc H.size p0 p2 hg hI (by omega)) (cwV 2 hwd (gV wk_1213 wk_1210 wk_1211 wk_1212 wk_5) rfl rfl rfl (by decide +kernel) ⟨Nat.le_of_ble_eq_true rfl, Nat.le_of_ble_eq_true rfl⟩) ⟨PM.blind, va_recv hK hP (ci := 12) (q0 := 0) rfl rfl, fun U hU hW => ⟨rfl, PM.at hK hE hP hS hU hW⟩⟩ rfl rfl hl.1 rfl (lv_room (Nat.le_of_ble_eq_true rfl)) dX12_lacksOf_434 ⟨Nat.le_of_ble_eq_true rfl, Nat.le_of_ble_eq_true rfl⟩) hS (fun q _ h => (freeM hS) q h) (freeM hS) (fun r13231 u t H1 locs ht hvm hw hB hz1 hk1 hS => ?_)
    unfold BM at hB
    rw [ht] at hB
    have hP : va_P (dC, dI) classes (wM g c v F rc) H1 := hB
    clear hz1
    generalize H1 = H at hP hS ⊢
    have rr_r13231 := i32_rng r13231
    have hP9 : va_P (dC, dI) classes (wM g c v F rc) H := hP
    exact W.iret (v := r13231) hx hb hr (fun t ht hW => ⟨⟨r13231, (v, F, rc), rfl, ⟨hI, rfl, (fun _ _ => rfl), hF, trivial⟩, (by show va_P _ _ _ t.heap; rw [ht]; exact hP9)⟩, hS.F ht⟩) hS.2.2 dX12_lacksOf_437
  · refine lv_tableIn (off := 409) (tgt := 431) hx hb dX12_lacksOf_22 hlo13041 hhi13042 (by rw [hk]; decide) (by decide) ?_
    refine lv_aload_n hx hb dX12_lacksOf_431 rfl (lv_at hl 3 rfl) ?_
    refine lv_iload_n hx hb dX12_lacksOf_432 rfl (lv_at hl 4 rfl) ?_
    refine lv_iload_n hx hb dX12_lacksOf_433 rfl (lv_at hl 6 rfl) ?_
    refine va_calli (va_runV (As := [.int p0, .int p2]) (rest := []) ⟨hx, hb, hml, hown, hwd⟩ (c_X12_late l dC dI g c adK adV v F rc H.size p0 p2 hg hI (by omega)) (cwV 2 hwd (gV wk_1213 wk_1210 wk_1211 wk_1212 wk_5) rfl rfl rfl (by decide +kernel) ⟨Nat.le_of_ble_eq_true rfl, Nat.le_of_ble_eq_true rfl⟩) ⟨PM.blind, va_recv hK hP (ci := 12) (q0 := 0) rfl rfl, fun U hU hW => ⟨rfl, PM.at hK hE hP hS hU hW⟩⟩ rfl rfl hl.1 rfl (lv_room (Nat.le_of_ble_eq_true rfl)) dX12_lacksOf_434 ⟨Nat.le_of_ble_eq_true rfl, Nat.le_of_ble_eq_true rfl⟩) hS (fun q _ h => (freeM hS) q h) (freeM hS) (fun r13232 u t H1 locs ht hvm hw hB hz1 hk1 hS => ?_)
    unfold BM at hB
    rw [ht] at hB
    have hP : va_P (dC, dI) classes (wM g c v F rc) H1 := hB
    clear hz1
    generalize H1 = H at hP hS ⊢
    have rr_r13232 := i32_rng r13232
    have hP9 : va_P (dC, dI) classes (wM g c v F rc) H := hP
    exact W.iret (v := r13232) hx hb hr (fun t ht hW => ⟨⟨r13232, (v, F, rc), rfl, ⟨hI, rfl, (fun _ _ => rfl), hF, trivial⟩, (by show va_P _ _ _ t.heap; rw [ht]; exact hP9)⟩, hS.F ht⟩) hS.2.2 dX12_lacksOf_437
  · refine lv_tableIn (off := 192) (tgt := 214) hx hb dX12_lacksOf_22 hlo13041 hhi13042 (by rw [hk]; decide) (by decide) ?_
    refine lv_iconst (v := 0) hx hb dX12_lacksOf_214 (by decide) ?_
    refine lv_istore (lv' := [(8, .int 0), (7, .int 0), (6, .int z13039), (5, .int z13036), (0, .ref (g 0)), (1, .int p0), (2, .int p1), (3, .int p2), (4, .int p3)]) hx hb dX12_lacksOf_215 hl (by decide) rfl (fun ls hl => ?_)
    have lp13233 : ∀ (n : Nat) (x8_lp13233 : Int32) (x7_lp13233 : Int32) (v_lp13233 : Nat → Int32) (F_lp13233 : Nat → Nat → Int32) (H : Heap) (locs : List Loc) (ls : Array Slot), (0 ≤ x8_lp13233.toInt) → (2147483648 - x8_lp13233.toInt ≤ (n : Int)) → (∀ k, k ∉ ([] : List Nat) → v_lp13233 k = v k) → IM v_lp13233 F_lp13233 → (∀ k, k ∉ ([30, 31] : List Nat) → F_lp13233 k = F k) → va_P (dC, dI) classes (wM g c v_lp13233 F_lp13233 rc) H → va_S (AM g s.heap.size) s.heap H locs → lv_has ls 11 [(8, .int x8_lp13233), (7, .int x7_lp13233), (6, .int z13039), (5, .int z13036), (0, .ref (g 0)), (1, .int p0), (2, .int p1), (3, .int p2), (4, .int p3)] → W p l e (headSpec (Cond.code yX12_lacksOf cX12_lacksOf 11 (some .int) :: wA) ({ frames := 5, cells := 0, slots := 0, locals := 200 })).room s m ([.ref (g 0), .int p0, .int p1, .int p2, .int p3] : List Value).toArray below meth c0 H locs 0 0 (MQ below (va_Qi (fun (r : Int32) (u : StM) => IM u.1 u.2.1 ∧ u.2.2 = rc ∧ (∀ k, k ∉ ([] : List Nat) → u.1 k = v k) ∧ (∀ k, k ∉ ([30, 31] : List Nat) → u.2.1 k = F k) ∧ True) (BM dC dI g c) (AM g s.heap.size)) ([.ref (g 0), .int p0, .int p1, .int p2, .int p3] : List Value).toArray s 0 0 (AM g s.heap.size)) (F0 m 217 ls []) := by
      intro n
      induction n with
      | zero =>
        intro x8_lp13233 x7_lp13233 v_lp13233 F_lp13233 H locs ls t13234 hm hf_lp13233 hI hF hP hS hl
        exfalso
        have := i32_rng x8_lp13233
        have := i32_rng x7_lp13233
        have hI1 := hI.1
        omega
      | succ n ih_lp13233 =>
        intro x8_lp13233 x7_lp13233 v_lp13233 F_lp13233 H locs ls t13234 hm hf_lp13233 hI hF hP hS hl
        have rx8_lp13233 := i32_rng x8_lp13233
        have rx7_lp13233 := i32_rng x7_lp13233
        refine lv_iload hx hb dX12_lacksOf_217 (lv_at hl 0 rfl) ?_
        refine lv_aload_n hx hb dX12_lacksOf_219 rfl (lv_at hl 4 rfl) ?_
        refine va_get (D := (dC, dI)) (ci := 12) (v := .int (v_lp13233 14)) (C := RX12) (T := TX12) (N := 63) hx hb hwd inA_X12 hown hK hP 0 rfl rfl 14 (by decide) (hwd _ wk_318) (fun _ h9 => h9) rfl dX12_lacksOf_220 ?_
        refine my_top (v := v 14) (hf_lp13233 14 (by decide)) ?_
        have t13235 : 0 ≤ (v 14).toInt ∧ (v 14).toInt ≤ 100 := by have h9 := hI.1 14 _ _ rfl; rw [show v_lp13233 14 = v 14 from hf_lp13233 14 (by decide)] at h9; exact h9
        refine lv_icmp_ge (tgt := 257) hx hb dX12_lacksOf_223 (by decide) (fun c13236 => ?_) (fun c13236 => ?_)
        · skip
          have t13237 := cv_le (a := (v 14).toInt) rfl (b := x8_lp13233.toInt) rfl c13236
          refine lv_iload hx hb dX12_lacksOf_257 (lv_at hl 1 rfl) ?_
          have hP9 : va_P (dC, dI) classes (wM g c v_lp13233 F_lp13233 rc) H := hP
          exact W.iret (v := x7_lp13233) hx hb hr (fun t ht hW => ⟨⟨x7_lp13233, (v_lp13233, F_lp13233, rc), rfl, ⟨hI, rfl, (frC (by decide) hf_lp13233 (fun _ _ => rfl)), hF, trivial⟩, (by show va_P _ _ _ t.heap; rw [ht]; exact hP9)⟩, hS.F ht⟩) hS.2.2 dX12_lacksOf_259
        · skip
          have t13238 := cv_nle (a := (v 14).toInt) rfl (b := x8_lp13233.toInt) rfl c13236
          refine lv_iload hx hb dX12_lacksOf_226 (lv_at hl 1 rfl) ?_
          refine lv_aload_n hx hb dX12_lacksOf_228 rfl (lv_at hl 4 rfl) ?_
          refine va_get (D := (dC, dI)) (ci := 12) (v := .ref (g 42)) (C := RX12) (T := TX12) (N := 63) hx hb hwd inA_X12 hown hK hP 0 rfl rfl 56 (by decide) (hwd _ wk_224) (fun _ h9 => h9) rfl dX12_lacksOf_229 ?_
          refine lv_iload hx hb dX12_lacksOf_232 (lv_at hl 0 rfl) ?_
          refine va_zald hx hb hK hP 42 41 rfl rfl (i := x8_lp13233) (vin (a := x8_lp13233.toInt) rfl (by omega)) dX12_lacksOf_234 ?_
          refine lv_topi (fun z13239 e13240 => ?_)
          have e13240 : z13239 = F 42 (x8_lp13233 : Int32).toNatClampNeg := e13240.trans (congrFun (hF 42 (by decide)) _)
          refine lv_if_eq (tgt := 247) hx hb dX12_lacksOf_235 (by decide) (fun c13241 => ?_) (fun c13241 => ?_)
          · skip
            have t13242 := cv_eq (a := z13239.toInt) rfl (b := 0) (by decide) c13241
            refine lv_iconst (v := 0) hx hb dX12_lacksOf_247 (by decide) ?_
            refine lv_iadd hx hb dX12_lacksOf_248 ?_
            refine lv_topi (fun z13243 e13244 => ?_)
            try (have t13245 := tadd e13244 (a := x7_lp13233.toInt) rfl (b := 0) (by decide) (by omega))
            refine lv_istore (lv' := [(7, .int z13243), (8, .int x8_lp13233), (6, .int z13039), (5, .int z13036), (0, .ref (g 0)), (1, .int p0), (2, .int p1), (3, .int p2), (4, .int p3)]) hx hb dX12_lacksOf_249 hl (by decide) rfl (fun ls hl => ?_)
            obtain ⟨z13246, e13247⟩ : ∃ y : Int32, y = x8_lp13233 + 1 := ⟨_, rfl⟩
            try (have t13248 := tadd e13247 rfl (b := 1) (by decide) (by omega))
            refine lv_iinc (v := z13246) (lv' := [(8, .int z13246), (7, .int z13243), (6, .int z13039), (5, .int z13036), (0, .ref (g 0)), (1, .int p0), (2, .int p1), (3, .int p2), (4, .int p3)]) hx hb dX12_lacksOf_251 hl (k := 1) rfl (by rw [e13247]; rfl) (by decide) rfl (fun ls hl => ?_)
            refine lv_goto (tgt := 217) hx hb dX12_lacksOf_254 (by decide) ?_
            exact ih_lp13233 z13246 z13243 v_lp13233 F_lp13233 _ _ _ (by omega) (by omega) hf_lp13233 hI hF hP hS (lv_sub hl [0, 1, 2, 3, 4, 5, 6, 7, 8] rfl)
          · skip
            have t13249 := cv_ne (a := z13239.toInt) rfl (b := 0) (by decide) c13241
            refine lv_aload_n hx hb dX12_lacksOf_238 rfl (lv_at hl 4 rfl) ?_
            refine lv_iload hx hb dX12_lacksOf_239 (lv_at hl 0 rfl) ?_
            refine va_calli (va_runV (As := [.int x8_lp13233]) (rest := [.int x7_lp13233]) ⟨hx, hb, hml, hown, hwd⟩ (c_X12_gapsOf l dC dI g c adK adV v_lp13233 F_lp13233 rc H.size x8_lp13233 hg hI ) (cwV 1 hwd (gV wk_724 wk_721 wk_722 wk_723 wk_5) rfl rfl rfl (by decide +kernel) ⟨Nat.le_of_ble_eq_true rfl, Nat.le_of_ble_eq_true rfl⟩) ⟨PM.blind, va_recv hK hP (ci := 12) (q0 := 0) rfl rfl, fun U hU hW => ⟨rfl, PM.at hK hE hP hS hU hW⟩⟩ rfl rfl hl.1 rfl (lv_room (Nat.le_of_ble_eq_true rfl)) dX12_lacksOf_241 ⟨Nat.le_of_ble_eq_true rfl, Nat.le_of_ble_eq_true rfl⟩) hS (fun q _ h => (freeM hS) q h) (freeM hS) (fun r13250 u t H1 locs ht hvm hw hB hz1 hk1 hS => ?_)
            unfold BM at hB
            rw [ht] at hB
            have hP : va_P (dC, dI) classes (wM g c v_lp13233 F_lp13233 rc) H1 := hB
            clear hz1
            generalize H1 = H at hP hS ⊢
            have rr_r13250 := i32_rng r13250
            refine lv_goto (tgt := 248) hx hb dX12_lacksOf_244 (by decide) ?_
            refine lv_iadd hx hb dX12_lacksOf_248 ?_
            refine lv_topi (fun z13251 e13252 => ?_)
            try (have t13253 := tadd e13252 (a := x7_lp13233.toInt) rfl (b := r13250.toInt) rfl (by omega))
            refine lv_istore (lv' := [(7, .int z13251), (8, .int x8_lp13233), (6, .int z13039), (5, .int z13036), (0, .ref (g 0)), (1, .int p0), (2, .int p1), (3, .int p2), (4, .int p3)]) hx hb dX12_lacksOf_249 hl (by decide) rfl (fun ls hl => ?_)
            obtain ⟨z13254, e13255⟩ : ∃ y : Int32, y = x8_lp13233 + 1 := ⟨_, rfl⟩
            try (have t13256 := tadd e13255 rfl (b := 1) (by decide) (by omega))
            refine lv_iinc (v := z13254) (lv' := [(8, .int z13254), (7, .int z13251), (6, .int z13039), (5, .int z13036), (0, .ref (g 0)), (1, .int p0), (2, .int p1), (3, .int p2), (4, .int p3)]) hx hb dX12_lacksOf_251 hl (k := 1) rfl (by rw [e13255]; rfl) (by decide) rfl (fun ls hl => ?_)
            refine lv_goto (tgt := 217) hx hb dX12_lacksOf_254 (by decide) ?_
            exact ih_lp13233 z13254 z13251 v_lp13233 F_lp13233 _ _ _ (by omega) (by omega) hf_lp13233 hI hF hP hS (lv_sub hl [0, 1, 2, 3, 4, 5, 6, 7, 8] rfl)
    obtain ⟨n9, hn9⟩ : ∃ n : Nat, 2147483648 - 0 ≤ (n : Int) := ⟨((2147483648 - 0 : Int)).toNat, by omega⟩
    exact lp13233 n9 0 0 v F H _ ls (by have : (0 : Int32).toInt = 0 := (by decide); have : (0 : Int32).toInt = 0 := (by decide); omega) (by have : (0 : Int32).toInt = 0 := (by decide); have : (0 : Int32).toInt = 0 := (by decide); omega) (fun _ _ => rfl) hI hF hP hS hl
  · refine lv_tableIn (off := 62) (tgt := 84) hx hb dX12_lacksOf_22 hlo13041 hhi13042 (by rw [hk]; decide) (by decide) ?_
    refine lv_iload hx hb dX12_lacksOf_84 (lv_at hl 1 rfl) ?_
    refine lv_bipush (v := 104) hx hb dX12_lacksOf_86 (by decide) ?_
    refine lv_icmp_ne (tgt := 95) hx hb dX12_lacksOf_88 (by decide) (fun c13257 => ?_) (fun c13257 => ?_)
    · skip
      have t13258 := cv_ne (a := z13039.toInt) rfl (b := 104) (by decide) c13257
      refine lv_iload hx hb dX12_lacksOf_95 (lv_at hl 1 rfl) ?_
      refine lv_bipush (v := 108) hx hb dX12_lacksOf_97 (by decide) ?_
      refine lv_icmp_ne (tgt := 106) hx hb dX12_lacksOf_99 (by decide) (fun c13259 => ?_) (fun c13259 => ?_)
      · skip
        have t13260 := cv_ne (a := z13039.toInt) rfl (b := 108) (by decide) c13259
        refine lv_iconst (v := 2) hx hb dX12_lacksOf_106 (by decide) ?_
        refine lv_istore (lv' := [(8, .int 2), (7, .int 0), (6, .int z13039), (5, .int z13036), (0, .ref (g 0)), (1, .int p0), (2, .int p1), (3, .int p2), (4, .int p3)]) hx hb dX12_lacksOf_107 hl (by decide) rfl (fun ls hl => ?_)
        refine lv_iconst (v := 0) hx hb dX12_lacksOf_109 (by decide) ?_
        refine lv_istore (lv' := [(9, .int 0), (8, .int 2), (7, .int 0), (6, .int z13039), (5, .int z13036), (0, .ref (g 0)), (1, .int p0), (2, .int p1), (3, .int p2), (4, .int p3)]) hx hb dX12_lacksOf_110 hl (by decide) rfl (fun ls hl => ?_)
        have lp13261 : ∀ (n : Nat) (x9_lp13261 : Int32) (x7_lp13261 : Int32) (v_lp13261 : Nat → Int32) (F_lp13261 : Nat → Nat → Int32) (H : Heap) (locs : List Loc) (ls : Array Slot), (0 ≤ x9_lp13261.toInt) → (2147483648 - x9_lp13261.toInt ≤ (n : Int)) → (∀ k, k ∉ ([] : List Nat) → v_lp13261 k = v k) → IM v_lp13261 F_lp13261 → (∀ k, k ∉ ([30, 31] : List Nat) → F_lp13261 k = F k) → va_P (dC, dI) classes (wM g c v_lp13261 F_lp13261 rc) H → va_S (AM g s.heap.size) s.heap H locs → lv_has ls 11 [(9, .int x9_lp13261), (8, .int 2), (7, .int x7_lp13261), (6, .int z13039), (5, .int z13036), (0, .ref (g 0)), (1, .int p0), (2, .int p1), (3, .int p2), (4, .int p3)] → W p l e (headSpec (Cond.code yX12_lacksOf cX12_lacksOf 11 (some .int) :: wA) ({ frames := 5, cells := 0, slots := 0, locals := 200 })).room s m ([.ref (g 0), .int p0, .int p1, .int p2, .int p3] : List Value).toArray below meth c0 H locs 0 0 (MQ below (va_Qi (fun (r : Int32) (u : StM) => IM u.1 u.2.1 ∧ u.2.2 = rc ∧ (∀ k, k ∉ ([] : List Nat) → u.1 k = v k) ∧ (∀ k, k ∉ ([30, 31] : List Nat) → u.2.1 k = F k) ∧ True) (BM dC dI g c) (AM g s.heap.size)) ([.ref (g 0), .int p0, .int p1, .int p2, .int p3] : List Value).toArray s 0 0 (AM g s.heap.size)) (F0 m 112 ls []) := by
          intro n
          induction n with
          | zero =>
            intro x9_lp13261 x7_lp13261 v_lp13261 F_lp13261 H locs ls t13262 hm hf_lp13261 hI hF hP hS hl
            exfalso
            have := i32_rng x9_lp13261
            have := i32_rng x7_lp13261
            have hI1 := hI.1
            omega
          | succ n ih_lp13261 =>
            intro x9_lp13261 x7_lp13261 v_lp13261 F_lp13261 H locs ls t13262 hm hf_lp13261 hI hF hP hS hl
            have rx9_lp13261 := i32_rng x9_lp13261
            have rx7_lp13261 := i32_rng x7_lp13261
            refine lv_iload hx hb dX12_lacksOf_112 (lv_at hl 0 rfl) ?_
            refine lv_aload_n hx hb dX12_lacksOf_114 rfl (lv_at hl 5 rfl) ?_
            refine va_get (D := (dC, dI)) (ci := 12) (v := .int (v_lp13261 14)) (C := RX12) (T := TX12) (N := 63) hx hb hwd inA_X12 hown hK hP 0 rfl rfl 14 (by decide) (hwd _ wk_318) (fun _ h9 => h9) rfl dX12_lacksOf_115 ?_
            refine my_top (v := v 14) (hf_lp13261 14 (by decide)) ?_
            have t13263 : 0 ≤ (v 14).toInt ∧ (v 14).toInt ≤ 100 := by have h9 := hI.1 14 _ _ rfl; rw [show v_lp13261 14 = v 14 from hf_lp13261 14 (by decide)] at h9; exact h9
            refine lv_icmp_ge (tgt := 211) hx hb dX12_lacksOf_118 (by decide) (fun c13264 => ?_) (fun c13264 => ?_)
            · skip
              have t13265 := cv_le (a := (v 14).toInt) rfl (b := x9_lp13261.toInt) rfl c13264
              refine lv_iload hx hb dX12_lacksOf_211 (lv_at hl 2 rfl) ?_
              have hP9 : va_P (dC, dI) classes (wM g c v_lp13261 F_lp13261 rc) H := hP
              exact W.iret (v := x7_lp13261) hx hb hr (fun t ht hW => ⟨⟨x7_lp13261, (v_lp13261, F_lp13261, rc), rfl, ⟨hI, rfl, (frC (by decide) hf_lp13261 (fun _ _ => rfl)), hF, trivial⟩, (by show va_P _ _ _ t.heap; rw [ht]; exact hP9)⟩, hS.F ht⟩) hS.2.2 dX12_lacksOf_213
            · skip
              have t13266 := cv_nle (a := (v 14).toInt) rfl (b := x9_lp13261.toInt) rfl c13264
              refine lv_aload_n hx hb dX12_lacksOf_121 rfl (lv_at hl 5 rfl) ?_
              refine va_get (D := (dC, dI)) (ci := 12) (v := .ref (g 42)) (C := RX12) (T := TX12) (N := 63) hx hb hwd inA_X12 hown hK hP 0 rfl rfl 56 (by decide) (hwd _ wk_224) (fun _ h9 => h9) rfl dX12_lacksOf_122 ?_
              refine lv_iload hx hb dX12_lacksOf_125 (lv_at hl 0 rfl) ?_
              refine va_zald hx hb hK hP 42 41 rfl rfl (i := x9_lp13261) (vin (a := x9_lp13261.toInt) rfl (by omega)) dX12_lacksOf_127 ?_
              refine lv_topi (fun z13267 e13268 => ?_)
              have e13268 : z13267 = F 42 (x9_lp13261 : Int32).toNatClampNeg := e13268.trans (congrFun (hF 42 (by decide)) _)
              refine lv_if_eq (tgt := 205) hx hb dX12_lacksOf_128 (by decide) (fun c13269 => ?_) (fun c13269 => ?_)
              · skip
                have t13270 := cv_eq (a := z13267.toInt) rfl (b := 0) (by decide) c13269
                obtain ⟨z13271, e13272⟩ : ∃ y : Int32, y = x9_lp13261 + 1 := ⟨_, rfl⟩
                try (have t13273 := tadd e13272 rfl (b := 1) (by decide) (by omega))
                refine lv_iinc (v := z13271) (lv' := [(9, .int z13271), (8, .int 2), (7, .int x7_lp13261), (6, .int z13039), (5, .int z13036), (0, .ref (g 0)), (1, .int p0), (2, .int p1), (3, .int p2), (4, .int p3)]) hx hb dX12_lacksOf_205 hl (k := 0) rfl (by rw [e13272]; rfl) (by decide) rfl (fun ls hl => ?_)
                refine lv_goto (tgt := 112) hx hb dX12_lacksOf_208 (by decide) ?_
                exact ih_lp13261 z13271 x7_lp13261 v_lp13261 F_lp13261 _ _ _ (by omega) (by omega) hf_lp13261 hI hF hP hS (lv_sub hl [0, 1, 2, 3, 4, 5, 6, 7, 8, 9] rfl)
              · skip
                have t13274 := cv_ne (a := z13267.toInt) rfl (b := 0) (by decide) c13269
                refine lv_aload_n hx hb dX12_lacksOf_131 rfl (lv_at hl 5 rfl) ?_
                refine va_get (D := (dC, dI)) (ci := 12) (v := .ref (g 11)) (C := RX12) (T := TX12) (N := 63) hx hb hwd inA_X12 hown hK hP 0 rfl rfl 15 (by decide) (hwd _ wk_192) (fun _ h9 => h9) rfl dX12_lacksOf_132 ?_
                refine lv_iload hx hb dX12_lacksOf_135 (lv_at hl 0 rfl) ?_
                refine va_iald hx hb hK hP 11 10 rfl rfl (i := x9_lp13261) (vin (a := x9_lp13261.toInt) rfl (by omega)) dX12_lacksOf_137 ?_
                refine lv_topi (fun z13275 e13276 => ?_)
                have t13277 : 0 ≤ z13275.toInt ∧ z13275.toInt ≤ 9 := by rw [e13276]; exact hI.2 11 _ _ rfl _
                have e13276 : z13275 = F 11 (x9_lp13261 : Int32).toNatClampNeg := e13276.trans (congrFun (hF 11 (by decide)) _)
                refine lv_aload_n hx hb dX12_lacksOf_138 rfl (lv_at hl 5 rfl) ?_
                refine va_get (D := (dC, dI)) (ci := 12) (v := .ref (g 39)) (C := RX12) (T := TX12) (N := 63) hx hb hwd inA_X12 hown hK hP 0 rfl rfl 53 (by decide) (hwd _ wk_221) (fun _ h9 => h9) rfl dX12_lacksOf_139 ?_
                refine lv_iload hx hb dX12_lacksOf_142 (lv_at hl 4 rfl) ?_
                refine va_iald hx hb hK hP 39 38 rfl rfl (i := z13036) (vin (a := z13036.toInt) rfl (by omega)) dX12_lacksOf_144 ?_
                refine lv_topi (fun z13278 e13279 => ?_)
                have e13279 : z13278 = F 39 (z13036 : Int32).toNatClampNeg := e13279.trans (congrFun (hF 39 (by decide)) _)
                refine lv_icmp_ne (tgt := 205) hx hb dX12_lacksOf_145 (by decide) (fun c13280 => ?_) (fun c13280 => ?_)
                · skip
                  have t13281 := cv_ne (a := z13275.toInt) rfl (b := z13278.toInt) rfl c13280
                  obtain ⟨z13282, e13283⟩ : ∃ y : Int32, y = x9_lp13261 + 1 := ⟨_, rfl⟩
                  try (have t13284 := tadd e13283 rfl (b := 1) (by decide) (by omega))
                  refine lv_iinc (v := z13282) (lv' := [(9, .int z13282), (8, .int 2), (7, .int x7_lp13261), (6, .int z13039), (5, .int z13036), (0, .ref (g 0)), (1, .int p0), (2, .int p1), (3, .int p2), (4, .int p3)]) hx hb dX12_lacksOf_205 hl (k := 0) rfl (by rw [e13283]; rfl) (by decide) rfl (fun ls hl => ?_)
                  refine lv_goto (tgt := 112) hx hb dX12_lacksOf_208 (by decide) ?_
                  exact ih_lp13261 z13282 x7_lp13261 v_lp13261 F_lp13261 _ _ _ (by omega) (by omega) hf_lp13261 hI hF hP hS (lv_sub hl [0, 1, 2, 3, 4, 5, 6, 7, 8, 9] rfl)
                · skip
                  have t13285 := cv_eq (a := z13275.toInt) rfl (b := z13278.toInt) rfl c13280
                  refine lv_aload_n hx hb dX12_lacksOf_148 rfl (lv_at hl 5 rfl) ?_
                  refine lv_iload hx hb dX12_lacksOf_149 (lv_at hl 0 rfl) ?_
                  refine lv_iload hx hb dX12_lacksOf_151 (lv_at hl 1 rfl) ?_
                  have hby1 : F_lp13261 1 = F 1 := hF 1 (by decide)
                  have hby11 : F_lp13261 11 = F 11 := hF 11 (by decide)
                  refine va_calli (va_runV (As := [.int x9_lp13261, .int 2]) (rest := []) ⟨hx, hb, hml, hown, hwd⟩ (c_X12_limitOf l dC dI g c adK adV v_lp13261 F_lp13261 rc H.size x9_lp13261 2 hg hI (by omega) (by have : (2 : Int32).toInt = 2 := (by decide); omega)) (cwV 2 hwd (gV wk_489 wk_486 wk_487 wk_488 wk_5) rfl rfl rfl (by decide +kernel) ⟨Nat.le_of_ble_eq_true rfl, Nat.le_of_ble_eq_true rfl⟩) ⟨PM.blind, va_recv hK hP (ci := 12) (q0 := 0) rfl rfl, fun U hU hW => ⟨rfl, PM.at hK hE hP hS hU hW⟩⟩ rfl rfl hl.1 rfl (lv_room (Nat.le_of_ble_eq_true rfl)) dX12_lacksOf_153 ⟨Nat.le_of_ble_eq_true rfl, Nat.le_of_ble_eq_true rfl⟩) hS (fun q _ h => (freeM hS) q h) (freeM hS) (fun r13286 u t H1 locs ht hvm hw hB hz1 hk1 hS => ?_)
                  unfold BM at hB
                  rw [ht] at hB
                  have hP : va_P (dC, dI) classes (wM g c v_lp13261 F_lp13261 rc) H1 := hB
                  replace hw : r13286.toInt = (F_lp13261 1 (limJ (F_lp13261 11) x9_lp13261 (2 : Int32))).toInt := hw
                  rw [hby1] at hw
                  rw [hby11] at hw
                  have hw_r13286 := hw
                  clear hw
                  have k13287 : (2 : Int32).toInt = 2 := by decide
                  clear hz1
                  generalize H1 = H at hP hS ⊢
                  refine lv_if_ne (tgt := 162) hx hb dX12_lacksOf_156 (by decide) (fun c13288 => ?_) (fun c13288 => ?_)
                  · skip
                    have t13289 := cv_ne (a := r13286.toInt) rfl (b := 0) (by decide) c13288
                    refine lv_aload_n hx hb dX12_lacksOf_162 rfl (lv_at hl 5 rfl) ?_
                    refine lv_iload hx hb dX12_lacksOf_163 (lv_at hl 0 rfl) ?_
                    refine lv_iload hx hb dX12_lacksOf_165 (lv_at hl 1 rfl) ?_
                    refine lv_iload hx hb dX12_lacksOf_167 (lv_at hl 9 rfl) ?_
                    refine va_calli (va_runV (As := [.int x9_lp13261, .int 2, .int p3]) (rest := []) ⟨hx, hb, hml, hown, hwd⟩ (c_X12_leftOf l dC dI g c adK adV v_lp13261 F_lp13261 rc H.size x9_lp13261 2 p3 hg hI (by omega) (by have : (2 : Int32).toInt = 2 := (by decide); omega) (JL.to hL (show v_lp13261 31 = v 31 from hf_lp13261 31 (by decide)) (hF 28 (by decide)) (hF 29 (by decide)) (hF 27 (by decide)))) (cwV 3 hwd (gV wk_493 wk_490 wk_491 wk_492 wk_5) rfl rfl rfl (by decide +kernel) ⟨Nat.le_of_ble_eq_true rfl, Nat.le_of_ble_eq_true rfl⟩) ⟨PM.blind, va_recv hK hP (ci := 12) (q0 := 0) rfl rfl, fun U hU hW => ⟨rfl, PM.at hK hE hP hS hU hW⟩⟩ rfl rfl hl.1 rfl (lv_room (Nat.le_of_ble_eq_true rfl)) dX12_lacksOf_169 ⟨Nat.le_of_ble_eq_true rfl, Nat.le_of_ble_eq_true rfl⟩) hS (fun q _ h => (freeM hS) q h) (freeM hS) (fun r13290 u t H1 locs ht hvm hw hB hz1 hk1 hS => ?_)
                    unfold BM at hB
                    rw [ht] at hB
                    obtain ⟨v13291, F13292, rc9⟩ := u
                    obtain ⟨hI, hrc, hf13293, hG13294, hw⟩ := hw
                    dsimp only at hI hrc hB hf13293 hG13294 hw
                    have hF := frCF (by decide) hG13294 hF
                    rw [hrc] at hB
                    have hP : va_P (dC, dI) classes (wM g c v13291 F13292 rc) H1 := hB
                    clear hz1
                    generalize H1 = H at hP hS ⊢
                    have rr_r13290 := i32_rng r13290
                    refine lv_istore (lv' := [(10, .int r13290), (9, .int x9_lp13261), (8, .int 2), (7, .int x7_lp13261), (6, .int z13039), (5, .int z13036), (0, .ref (g 0)), (1, .int p0), (2, .int p1), (3, .int p2), (4, .int p3)]) hx hb dX12_lacksOf_172 hl (by decide) rfl (fun ls hl => ?_)
                    refine lv_iload hx hb dX12_lacksOf_174 (lv_at hl 3 rfl) ?_
                    refine lv_iload hx hb dX12_lacksOf_176 (lv_at hl 0 rfl) ?_
                    refine lv_aload_n hx hb dX12_lacksOf_178 rfl (lv_at hl 6 rfl) ?_
                    refine va_get (D := (dC, dI)) (ci := 12) (v := .ref (g 40)) (C := RX12) (T := TX12) (N := 63) hx hb hwd inA_X12 hown hK hP 0 rfl rfl 54 (by decide) (hwd _ wk_222) (fun _ h9 => h9) rfl dX12_lacksOf_179 ?_
                    refine lv_iload hx hb dX12_lacksOf_182 (lv_at hl 5 rfl) ?_
                    refine va_iald hx hb hK hP 40 39 rfl rfl (i := z13036) (vin (a := z13036.toInt) rfl (by omega)) dX12_lacksOf_184 ?_
                    refine lv_topi (fun z13295 e13296 => ?_)
                    have e13296 : z13295 = F 40 (z13036 : Int32).toNatClampNeg := e13296.trans (congrFun (hF 40 (by decide)) _)
                    refine lv_icmp_ge (tgt := 201) hx hb dX12_lacksOf_185 (by decide) (fun c13297 => ?_) (fun c13297 => ?_)
                    · skip
                      have t13298 := cv_le (a := z13295.toInt) rfl (b := r13290.toInt) rfl c13297
                      refine lv_iconst (v := 0) hx hb dX12_lacksOf_201 (by decide) ?_
                      refine lv_iadd hx hb dX12_lacksOf_202 ?_
                      refine lv_topi (fun z13299 e13300 => ?_)
                      try (have t13301 := tadd e13300 (a := x7_lp13261.toInt) rfl (b := 0) (by decide) (by omega))
                      refine lv_istore (lv' := [(7, .int z13299), (10, .int r13290), (9, .int x9_lp13261), (8, .int 2), (6, .int z13039), (5, .int z13036), (0, .ref (g 0)), (1, .int p0), (2, .int p1), (3, .int p2), (4, .int p3)]) hx hb dX12_lacksOf_203 hl (by decide) rfl (fun ls hl => ?_)
                      obtain ⟨z13302, e13303⟩ : ∃ y : Int32, y = x9_lp13261 + 1 := ⟨_, rfl⟩
                      try (have t13304 := tadd e13303 rfl (b := 1) (by decide) (by omega))
                      refine lv_iinc (v := z13302) (lv' := [(9, .int z13302), (7, .int z13299), (10, .int r13290), (8, .int 2), (6, .int z13039), (5, .int z13036), (0, .ref (g 0)), (1, .int p0), (2, .int p1), (3, .int p2), (4, .int p3)]) hx hb dX12_lacksOf_205 hl (k := 2) rfl (by rw [e13303]; rfl) (by decide) rfl (fun ls hl => ?_)
                      refine lv_goto (tgt := 112) hx hb dX12_lacksOf_208 (by decide) ?_
                      exact ih_lp13261 z13302 z13299 v13291 F13292 _ _ _ (by omega) (by omega) (frC (by decide) hf13293 hf_lp13261) hI hF hP hS (lv_sub hl [0, 3, 1, 4, 5, 6, 7, 8, 9, 10] rfl)
                    · skip
                      have t13305 := cv_nle (a := z13295.toInt) rfl (b := r13290.toInt) rfl c13297
                      refine lv_aload_n hx hb dX12_lacksOf_188 rfl (lv_at hl 6 rfl) ?_
                      refine va_get (D := (dC, dI)) (ci := 12) (v := .ref (g 40)) (C := RX12) (T := TX12) (N := 63) hx hb hwd inA_X12 hown hK hP 0 rfl rfl 54 (by decide) (hwd _ wk_222) (fun _ h9 => h9) rfl dX12_lacksOf_189 ?_
                      refine lv_iload hx hb dX12_lacksOf_192 (lv_at hl 5 rfl) ?_
                      refine va_iald hx hb hK hP 40 39 rfl rfl (i := z13036) (vin (a := z13036.toInt) rfl (by omega)) dX12_lacksOf_194 ?_
                      refine lv_topi (fun z13306 e13307 => ?_)
                      have e13307 : z13306 = F 40 (z13036 : Int32).toNatClampNeg := e13307.trans (congrFun (hF 40 (by decide)) _)
                      refine lv_iload hx hb dX12_lacksOf_195 (lv_at hl 0 rfl) ?_
                      refine lv_isub hx hb dX12_lacksOf_197 ?_
                      refine lv_topi (fun z13308 e13309 => ?_)
                      try (have t13310 := tsub e13309 (a := z13306.toInt) rfl (b := r13290.toInt) rfl (by omega))
                      refine lv_goto (tgt := 202) hx hb dX12_lacksOf_198 (by decide) ?_
                      refine lv_iadd hx hb dX12_lacksOf_202 ?_
                      refine lv_topi (fun z13311 e13312 => ?_)
                      try (have t13313 := tadd e13312 (a := x7_lp13261.toInt) rfl (b := z13308.toInt) rfl (by omega))
                      refine lv_istore (lv' := [(7, .int z13311), (10, .int r13290), (9, .int x9_lp13261), (8, .int 2), (6, .int z13039), (5, .int z13036), (0, .ref (g 0)), (1, .int p0), (2, .int p1), (3, .int p2), (4, .int p3)]) hx hb dX12_lacksOf_203 hl (by decide) rfl (fun ls hl => ?_)
                      obtain ⟨z13314, e13315⟩ : ∃ y : Int32, y = x9_lp13261 + 1 := ⟨_, rfl⟩
                      try (have t13316 := tadd e13315 rfl (b := 1) (by decide) (by omega))
                      refine lv_iinc (v := z13314) (lv' := [(9, .int z13314), (7, .int z13311), (10, .int r13290), (8, .int 2), (6, .int z13039), (5, .int z13036), (0, .ref (g 0)), (1, .int p0), (2, .int p1), (3, .int p2), (4, .int p3)]) hx hb dX12_lacksOf_205 hl (k := 2) rfl (by rw [e13315]; rfl) (by decide) rfl (fun ls hl => ?_)
                      refine lv_goto (tgt := 112) hx hb dX12_lacksOf_208 (by decide) ?_
                      exact ih_lp13261 z13314 z13311 v13291 F13292 _ _ _ (by omega) (by omega) (frC (by decide) hf13293 hf_lp13261) hI hF hP hS (lv_sub hl [0, 3, 1, 4, 5, 6, 7, 8, 9, 10] rfl)
                  · skip
                    have t13317 := cv_eq (a := r13286.toInt) rfl (b := 0) (by decide) c13288
                    refine lv_goto (tgt := 205) hx hb dX12_lacksOf_159 (by decide) ?_
                    obtain ⟨z13318, e13319⟩ : ∃ y : Int32, y = x9_lp13261 + 1 := ⟨_, rfl⟩
                    try (have t13320 := tadd e13319 rfl (b := 1) (by decide) (by omega))
                    refine lv_iinc (v := z13318) (lv' := [(9, .int z13318), (8, .int 2), (7, .int x7_lp13261), (6, .int z13039), (5, .int z13036), (0, .ref (g 0)), (1, .int p0), (2, .int p1), (3, .int p2), (4, .int p3)]) hx hb dX12_lacksOf_205 hl (k := 0) rfl (by rw [e13319]; rfl) (by decide) rfl (fun ls hl => ?_)
                    refine lv_goto (tgt := 112) hx hb dX12_lacksOf_208 (by decide) ?_
                    exact ih_lp13261 z13318 x7_lp13261 v_lp13261 F_lp13261 _ _ _ (by omega) (by omega) hf_lp13261 hI hF hP hS (lv_sub hl [0, 1, 2, 3, 4, 5, 6, 7, 8, 9] rfl)
        obtain ⟨n9, hn9⟩ : ∃ n : Nat, 2147483648 - 0 ≤ (n : Int) := ⟨((2147483648 - 0 : Int)).toNat, by omega⟩
        exact lp13261 n9 0 0 v F H _ ls (by have : (0 : Int32).toInt = 0 := (by decide); have : (0 : Int32).toInt = 0 := (by decide); omega) (by have : (0 : Int32).toInt = 0 := (by decide); have : (0 : Int32).toInt = 0 := (by decide); omega) (fun _ _ => rfl) hI hF hP hS hl
      · skip
        have t13321 := cv_eq (a := z13039.toInt) rfl (b := 108) (by decide) c13259
        refine lv_iconst (v := 1) hx hb dX12_lacksOf_102 (by decide) ?_
        refine lv_goto (tgt := 107) hx hb dX12_lacksOf_103 (by decide) ?_
        refine lv_istore (lv' := [(8, .int 1), (7, .int 0), (6, .int z13039), (5, .int z13036), (0, .ref (g 0)), (1, .int p0), (2, .int p1), (3, .int p2), (4, .int p3)]) hx hb dX12_lacksOf_107 hl (by decide) rfl (fun ls hl => ?_)
        refine lv_iconst (v := 0) hx hb dX12_lacksOf_109 (by decide) ?_
        refine lv_istore (lv' := [(9, .int 0), (8, .int 1), (7, .int 0), (6, .int z13039), (5, .int z13036), (0, .ref (g 0)), (1, .int p0), (2, .int p1), (3, .int p2), (4, .int p3)]) hx hb dX12_lacksOf_110 hl (by decide) rfl (fun ls hl => ?_)
        have lp13322 : ∀ (n : Nat) (x9_lp13322 : Int32) (x7_lp13322 : Int32) (v_lp13322 : Nat → Int32) (F_lp13322 : Nat → Nat → Int32) (H : Heap) (locs : List Loc) (ls : Array Slot), (0 ≤ x9_lp13322.toInt) → (2147483648 - x9_lp13322.toInt ≤ (n : Int)) → (∀ k, k ∉ ([] : List Nat) → v_lp13322 k = v k) → IM v_lp13322 F_lp13322 → (∀ k, k ∉ ([30, 31] : List Nat) → F_lp13322 k = F k) → va_P (dC, dI) classes (wM g c v_lp13322 F_lp13322 rc) H → va_S (AM g s.heap.size) s.heap H locs → lv_has ls 11 [(9, .int x9_lp13322), (8, .int 1), (7, .int x7_lp13322), (6, .int z13039), (5, .int z13036), (0, .ref (g 0)), (1, .int p0), (2, .int p1), (3, .int p2), (4, .int p3)] → W p l e (headSpec (Cond.code yX12_lacksOf cX12_lacksOf 11 (some .int) :: wA) ({ frames := 5, cells := 0, slots := 0, locals := 200 })).room s m ([.ref (g 0), .int p0, .int p1, .int p2, .int p3] : List Value).toArray below meth c0 H locs 0 0 (MQ below (va_Qi (fun (r : Int32) (u : StM) => IM u.1 u.2.1 ∧ u.2.2 = rc ∧ (∀ k, k ∉ ([] : List Nat) → u.1 k = v k) ∧ (∀ k, k ∉ ([30, 31] : List Nat) → u.2.1 k = F k) ∧ True) (BM dC dI g c) (AM g s.heap.size)) ([.ref (g 0), .int p0, .int p1, .int p2, .int p3] : List Value).toArray s 0 0 (AM g s.heap.size)) (F0 m 112 ls []) := by
          intro n
          induction n with
          | zero =>
            intro x9_lp13322 x7_lp13322 v_lp13322 F_lp13322 H locs ls t13323 hm hf_lp13322 hI hF hP hS hl
            exfalso
            have := i32_rng x9_lp13322
            have := i32_rng x7_lp13322
            have hI1 := hI.1
            omega
          | succ n ih_lp13322 =>
            intro x9_lp13322 x7_lp13322 v_lp13322 F_lp13322 H locs ls t13323 hm hf_lp13322 hI hF hP hS hl
            have rx9_lp13322 := i32_rng x9_lp13322
            have rx7_lp13322 := i32_rng x7_lp13322
            refine lv_iload hx hb dX12_lacksOf_112 (lv_at hl 0 rfl) ?_
            refine lv_aload_n hx hb dX12_lacksOf_114 rfl (lv_at hl 5 rfl) ?_
            refine va_get (D := (dC, dI)) (ci := 12) (v := .int (v_lp13322 14)) (C := RX12) (T := TX12) (N := 63) hx hb hwd inA_X12 hown hK hP 0 rfl rfl 14 (by decide) (hwd _ wk_318) (fun _ h9 => h9) rfl dX12_lacksOf_115 ?_
            refine my_top (v := v 14) (hf_lp13322 14 (by decide)) ?_
            have t13324 : 0 ≤ (v 14).toInt ∧ (v 14).toInt ≤ 100 := by have h9 := hI.1 14 _ _ rfl; rw [show v_lp13322 14 = v 14 from hf_lp13322 14 (by decide)] at h9; exact h9
            refine lv_icmp_ge (tgt := 211) hx hb dX12_lacksOf_118 (by decide) (fun c13325 => ?_) (fun c13325 => ?_)
            · skip
              have t13326 := cv_le (a := (v 14).toInt) rfl (b := x9_lp13322.toInt) rfl c13325
              refine lv_iload hx hb dX12_lacksOf_211 (lv_at hl 2 rfl) ?_
              have hP9 : va_P (dC, dI) classes (wM g c v_lp13322 F_lp13322 rc) H := hP
              exact W.iret (v := x7_lp13322) hx hb hr (fun t ht hW => ⟨⟨x7_lp13322, (v_lp13322, F_lp13322, rc), rfl, ⟨hI, rfl, (frC (by decide) hf_lp13322 (fun _ _ => rfl)), hF, trivial⟩, (by show va_P _ _ _ t.heap; rw [ht]; exact hP9)⟩, hS.F ht⟩) hS.2.2 dX12_lacksOf_213
            · skip
              have t13327 := cv_nle (a := (v 14).toInt) rfl (b := x9_lp13322.toInt) rfl c13325
              refine lv_aload_n hx hb dX12_lacksOf_121 rfl (lv_at hl 5 rfl) ?_
              refine va_get (D := (dC, dI)) (ci := 12) (v := .ref (g 42)) (C := RX12) (T := TX12) (N := 63) hx hb hwd inA_X12 hown hK hP 0 rfl rfl 56 (by decide) (hwd _ wk_224) (fun _ h9 => h9) rfl dX12_lacksOf_122 ?_
              refine lv_iload hx hb dX12_lacksOf_125 (lv_at hl 0 rfl) ?_
              refine va_zald hx hb hK hP 42 41 rfl rfl (i := x9_lp13322) (vin (a := x9_lp13322.toInt) rfl (by omega)) dX12_lacksOf_127 ?_
              refine lv_topi (fun z13328 e13329 => ?_)
              have e13329 : z13328 = F 42 (x9_lp13322 : Int32).toNatClampNeg := e13329.trans (congrFun (hF 42 (by decide)) _)
              refine lv_if_eq (tgt := 205) hx hb dX12_lacksOf_128 (by decide) (fun c13330 => ?_) (fun c13330 => ?_)
              · skip
                have t13331 := cv_eq (a := z13328.toInt) rfl (b := 0) (by decide) c13330
                obtain ⟨z13332, e13333⟩ : ∃ y : Int32, y = x9_lp13322 + 1 := ⟨_, rfl⟩
                try (have t13334 := tadd e13333 rfl (b := 1) (by decide) (by omega))
                refine lv_iinc (v := z13332) (lv' := [(9, .int z13332), (8, .int 1), (7, .int x7_lp13322), (6, .int z13039), (5, .int z13036), (0, .ref (g 0)), (1, .int p0), (2, .int p1), (3, .int p2), (4, .int p3)]) hx hb dX12_lacksOf_205 hl (k := 0) rfl (by rw [e13333]; rfl) (by decide) rfl (fun ls hl => ?_)
                refine lv_goto (tgt := 112) hx hb dX12_lacksOf_208 (by decide) ?_
                exact ih_lp13322 z13332 x7_lp13322 v_lp13322 F_lp13322 _ _ _ (by omega) (by omega) hf_lp13322 hI hF hP hS (lv_sub hl [0, 1, 2, 3, 4, 5, 6, 7, 8, 9] rfl)
              · skip
                have t13335 := cv_ne (a := z13328.toInt) rfl (b := 0) (by decide) c13330
                refine lv_aload_n hx hb dX12_lacksOf_131 rfl (lv_at hl 5 rfl) ?_
                refine va_get (D := (dC, dI)) (ci := 12) (v := .ref (g 11)) (C := RX12) (T := TX12) (N := 63) hx hb hwd inA_X12 hown hK hP 0 rfl rfl 15 (by decide) (hwd _ wk_192) (fun _ h9 => h9) rfl dX12_lacksOf_132 ?_
                refine lv_iload hx hb dX12_lacksOf_135 (lv_at hl 0 rfl) ?_
                refine va_iald hx hb hK hP 11 10 rfl rfl (i := x9_lp13322) (vin (a := x9_lp13322.toInt) rfl (by omega)) dX12_lacksOf_137 ?_
                refine lv_topi (fun z13336 e13337 => ?_)
                have t13338 : 0 ≤ z13336.toInt ∧ z13336.toInt ≤ 9 := by rw [e13337]; exact hI.2 11 _ _ rfl _
                have e13337 : z13336 = F 11 (x9_lp13322 : Int32).toNatClampNeg := e13337.trans (congrFun (hF 11 (by decide)) _)
                refine lv_aload_n hx hb dX12_lacksOf_138 rfl (lv_at hl 5 rfl) ?_
                refine va_get (D := (dC, dI)) (ci := 12) (v := .ref (g 39)) (C := RX12) (T := TX12) (N := 63) hx hb hwd inA_X12 hown hK hP 0 rfl rfl 53 (by decide) (hwd _ wk_221) (fun _ h9 => h9) rfl dX12_lacksOf_139 ?_
                refine lv_iload hx hb dX12_lacksOf_142 (lv_at hl 4 rfl) ?_
                refine va_iald hx hb hK hP 39 38 rfl rfl (i := z13036) (vin (a := z13036.toInt) rfl (by omega)) dX12_lacksOf_144 ?_
                refine lv_topi (fun z13339 e13340 => ?_)
                have e13340 : z13339 = F 39 (z13036 : Int32).toNatClampNeg := e13340.trans (congrFun (hF 39 (by decide)) _)
                refine lv_icmp_ne (tgt := 205) hx hb dX12_lacksOf_145 (by decide) (fun c13341 => ?_) (fun c13341 => ?_)
                · skip
                  have t13342 := cv_ne (a := z13336.toInt) rfl (b := z13339.toInt) rfl c13341
                  obtain ⟨z13343, e13344⟩ : ∃ y : Int32, y = x9_lp13322 + 1 := ⟨_, rfl⟩
                  try (have t13345 := tadd e13344 rfl (b := 1) (by decide) (by omega))
                  refine lv_iinc (v := z13343) (lv' := [(9, .int z13343), (8, .int 1), (7, .int x7_lp13322), (6, .int z13039), (5, .int z13036), (0, .ref (g 0)), (1, .int p0), (2, .int p1), (3, .int p2), (4, .int p3)]) hx hb dX12_lacksOf_205 hl (k := 0) rfl (by rw [e13344]; rfl) (by decide) rfl (fun ls hl => ?_)
                  refine lv_goto (tgt := 112) hx hb dX12_lacksOf_208 (by decide) ?_
                  exact ih_lp13322 z13343 x7_lp13322 v_lp13322 F_lp13322 _ _ _ (by omega) (by omega) hf_lp13322 hI hF hP hS (lv_sub hl [0, 1, 2, 3, 4, 5, 6, 7, 8, 9] rfl)
                · skip
                  have t13346 := cv_eq (a := z13336.toInt) rfl (b := z13339.toInt) rfl c13341
                  refine lv_aload_n hx hb dX12_lacksOf_148 rfl (lv_at hl 5 rfl) ?_
                  refine lv_iload hx hb dX12_lacksOf_149 (lv_at hl 0 rfl) ?_
                  refine lv_iload hx hb dX12_lacksOf_151 (lv_at hl 1 rfl) ?_
                  have hby1 : F_lp13322 1 = F 1 := hF 1 (by decide)
                  have hby11 : F_lp13322 11 = F 11 := hF 11 (by decide)
                  refine va_calli (va_runV (As := [.int x9_lp13322, .int 1]) (rest := []) ⟨hx, hb, hml, hown, hwd⟩ (c_X12_limitOf l dC dI g c adK adV v_lp13322 F_lp13322 rc H.size x9_lp13322 1 hg hI (by omega) (by have : (1 : Int32).toInt = 1 := (by decide); omega)) (cwV 2 hwd (gV wk_489 wk_486 wk_487 wk_488 wk_5) rfl rfl rfl (by decide +kernel) ⟨Nat.le_of_ble_eq_true rfl, Nat.le_of_ble_eq_true rfl⟩) ⟨PM.blind, va_recv hK hP (ci := 12) (q0 := 0) rfl rfl, fun U hU hW => ⟨rfl, PM.at hK hE hP hS hU hW⟩⟩ rfl rfl hl.1 rfl (lv_room (Nat.le_of_ble_eq_true rfl)) dX12_lacksOf_153 ⟨Nat.le_of_ble_eq_true rfl, Nat.le_of_ble_eq_true rfl⟩) hS (fun q _ h => (freeM hS) q h) (freeM hS) (fun r13347 u t H1 locs ht hvm hw hB hz1 hk1 hS => ?_)
                  unfold BM at hB
                  rw [ht] at hB
                  have hP : va_P (dC, dI) classes (wM g c v_lp13322 F_lp13322 rc) H1 := hB
                  replace hw : r13347.toInt = (F_lp13322 1 (limJ (F_lp13322 11) x9_lp13322 (1 : Int32))).toInt := hw
                  rw [hby1] at hw
                  rw [hby11] at hw
                  have hw_r13347 := hw
                  clear hw
                  have k13348 : (1 : Int32).toInt = 1 := by decide
                  clear hz1
                  generalize H1 = H at hP hS ⊢
                  refine lv_if_ne (tgt := 162) hx hb dX12_lacksOf_156 (by decide) (fun c13349 => ?_) (fun c13349 => ?_)
                  · skip
                    have t13350 := cv_ne (a := r13347.toInt) rfl (b := 0) (by decide) c13349
                    refine lv_aload_n hx hb dX12_lacksOf_162 rfl (lv_at hl 5 rfl) ?_
                    refine lv_iload hx hb dX12_lacksOf_163 (lv_at hl 0 rfl) ?_
                    refine lv_iload hx hb dX12_lacksOf_165 (lv_at hl 1 rfl) ?_
                    refine lv_iload hx hb dX12_lacksOf_167 (lv_at hl 9 rfl) ?_
                    refine va_calli (va_runV (As := [.int x9_lp13322, .int 1, .int p3]) (rest := []) ⟨hx, hb, hml, hown, hwd⟩ (c_X12_leftOf l dC dI g c adK adV v_lp13322 F_lp13322 rc H.size x9_lp13322 1 p3 hg hI (by omega) (by have : (1 : Int32).toInt = 1 := (by decide); omega) (JL.to hL (show v_lp13322 31 = v 31 from hf_lp13322 31 (by decide)) (hF 28 (by decide)) (hF 29 (by decide)) (hF 27 (by decide)))) (cwV 3 hwd (gV wk_493 wk_490 wk_491 wk_492 wk_5) rfl rfl rfl (by decide +kernel) ⟨Nat.le_of_ble_eq_true rfl, Nat.le_of_ble_eq_true rfl⟩) ⟨PM.blind, va_recv hK hP (ci := 12) (q0 := 0) rfl rfl, fun U hU hW => ⟨rfl, PM.at hK hE hP hS hU hW⟩⟩ rfl rfl hl.1 rfl (lv_room (Nat.le_of_ble_eq_true rfl)) dX12_lacksOf_169 ⟨Nat.le_of_ble_eq_true rfl, Nat.le_of_ble_eq_true rfl⟩) hS (fun q _ h => (freeM hS) q h) (freeM hS) (fun r13351 u t H1 locs ht hvm hw hB hz1 hk1 hS => ?_)
                    unfold BM at hB
                    rw [ht] at hB
                    obtain ⟨v13352, F13353, rc9⟩ := u
                    obtain ⟨hI, hrc, hf13354, hG13355, hw⟩ := hw
                    dsimp only at hI hrc hB hf13354 hG13355 hw
                    have hF := frCF (by decide) hG13355 hF
                    rw [hrc] at hB
                    have hP : va_P (dC, dI) classes (wM g c v13352 F13353 rc) H1 := hB
                    clear hz1
                    generalize H1 = H at hP hS ⊢
                    have rr_r13351 := i32_rng r13351
                    refine lv_istore (lv' := [(10, .int r13351), (9, .int x9_lp13322), (8, .int 1), (7, .int x7_lp13322), (6, .int z13039), (5, .int z13036), (0, .ref (g 0)), (1, .int p0), (2, .int p1), (3, .int p2), (4, .int p3)]) hx hb dX12_lacksOf_172 hl (by decide) rfl (fun ls hl => ?_)
                    refine lv_iload hx hb dX12_lacksOf_174 (lv_at hl 3 rfl) ?_
                    refine lv_iload hx hb dX12_lacksOf_176 (lv_at hl 0 rfl) ?_
                    refine lv_aload_n hx hb dX12_lacksOf_178 rfl (lv_at hl 6 rfl) ?_
                    refine va_get (D := (dC, dI)) (ci := 12) (v := .ref (g 40)) (C := RX12) (T := TX12) (N := 63) hx hb hwd inA_X12 hown hK hP 0 rfl rfl 54 (by decide) (hwd _ wk_222) (fun _ h9 => h9) rfl dX12_lacksOf_179 ?_
                    refine lv_iload hx hb dX12_lacksOf_182 (lv_at hl 5 rfl) ?_
                    refine va_iald hx hb hK hP 40 39 rfl rfl (i := z13036) (vin (a := z13036.toInt) rfl (by omega)) dX12_lacksOf_184 ?_
                    refine lv_topi (fun z13356 e13357 => ?_)
                    have e13357 : z13356 = F 40 (z13036 : Int32).toNatClampNeg := e13357.trans (congrFun (hF 40 (by decide)) _)
                    refine lv_icmp_ge (tgt := 201) hx hb dX12_lacksOf_185 (by decide) (fun c13358 => ?_) (fun c13358 => ?_)
                    · skip
                      have t13359 := cv_le (a := z13356.toInt) rfl (b := r13351.toInt) rfl c13358
                      refine lv_iconst (v := 0) hx hb dX12_lacksOf_201 (by decide) ?_
                      refine lv_iadd hx hb dX12_lacksOf_202 ?_
                      refine lv_topi (fun z13360 e13361 => ?_)
                      try (have t13362 := tadd e13361 (a := x7_lp13322.toInt) rfl (b := 0) (by decide) (by omega))
                      refine lv_istore (lv' := [(7, .int z13360), (10, .int r13351), (9, .int x9_lp13322), (8, .int 1), (6, .int z13039), (5, .int z13036), (0, .ref (g 0)), (1, .int p0), (2, .int p1), (3, .int p2), (4, .int p3)]) hx hb dX12_lacksOf_203 hl (by decide) rfl (fun ls hl => ?_)
                      obtain ⟨z13363, e13364⟩ : ∃ y : Int32, y = x9_lp13322 + 1 := ⟨_, rfl⟩
                      try (have t13365 := tadd e13364 rfl (b := 1) (by decide) (by omega))
                      refine lv_iinc (v := z13363) (lv' := [(9, .int z13363), (7, .int z13360), (10, .int r13351), (8, .int 1), (6, .int z13039), (5, .int z13036), (0, .ref (g 0)), (1, .int p0), (2, .int p1), (3, .int p2), (4, .int p3)]) hx hb dX12_lacksOf_205 hl (k := 2) rfl (by rw [e13364]; rfl) (by decide) rfl (fun ls hl => ?_)
                      refine lv_goto (tgt := 112) hx hb dX12_lacksOf_208 (by decide) ?_
                      exact ih_lp13322 z13363 z13360 v13352 F13353 _ _ _ (by omega) (by omega) (frC (by decide) hf13354 hf_lp13322) hI hF hP hS (lv_sub hl [0, 3, 1, 4, 5, 6, 7, 8, 9, 10] rfl)
                    · skip
                      have t13366 := cv_nle (a := z13356.toInt) rfl (b := r13351.toInt) rfl c13358
                      refine lv_aload_n hx hb dX12_lacksOf_188 rfl (lv_at hl 6 rfl) ?_
                      refine va_get (D := (dC, dI)) (ci := 12) (v := .ref (g 40)) (C := RX12) (T := TX12) (N := 63) hx hb hwd inA_X12 hown hK hP 0 rfl rfl 54 (by decide) (hwd _ wk_222) (fun _ h9 => h9) rfl dX12_lacksOf_189 ?_
                      refine lv_iload hx hb dX12_lacksOf_192 (lv_at hl 5 rfl) ?_
                      refine va_iald hx hb hK hP 40 39 rfl rfl (i := z13036) (vin (a := z13036.toInt) rfl (by omega)) dX12_lacksOf_194 ?_
                      refine lv_topi (fun z13367 e13368 => ?_)
                      have e13368 : z13367 = F 40 (z13036 : Int32).toNatClampNeg := e13368.trans (congrFun (hF 40 (by decide)) _)
                      refine lv_iload hx hb dX12_lacksOf_195 (lv_at hl 0 rfl) ?_
                      refine lv_isub hx hb dX12_lacksOf_197 ?_
                      refine lv_topi (fun z13369 e13370 => ?_)
                      try (have t13371 := tsub e13370 (a := z13367.toInt) rfl (b := r13351.toInt) rfl (by omega))
                      refine lv_goto (tgt := 202) hx hb dX12_lacksOf_198 (by decide) ?_
                      refine lv_iadd hx hb dX12_lacksOf_202 ?_
                      refine lv_topi (fun z13372 e13373 => ?_)
                      try (have t13374 := tadd e13373 (a := x7_lp13322.toInt) rfl (b := z13369.toInt) rfl (by omega))
                      refine lv_istore (lv' := [(7, .int z13372), (10, .int r13351), (9, .int x9_lp13322), (8, .int 1), (6, .int z13039), (5, .int z13036), (0, .ref (g 0)), (1, .int p0), (2, .int p1), (3, .int p2), (4, .int p3)]) hx hb dX12_lacksOf_203 hl (by decide) rfl (fun ls hl => ?_)
                      obtain ⟨z13375, e13376⟩ : ∃ y : Int32, y = x9_lp13322 + 1 := ⟨_, rfl⟩
                      try (have t13377 := tadd e13376 rfl (b := 1) (by decide) (by omega))
                      refine lv_iinc (v := z13375) (lv' := [(9, .int z13375), (7, .int z13372), (10, .int r13351), (8, .int 1), (6, .int z13039), (5, .int z13036), (0, .ref (g 0)), (1, .int p0), (2, .int p1), (3, .int p2), (4, .int p3)]) hx hb dX12_lacksOf_205 hl (k := 2) rfl (by rw [e13376]; rfl) (by decide) rfl (fun ls hl => ?_)
                      refine lv_goto (tgt := 112) hx hb dX12_lacksOf_208 (by decide) ?_
                      exact ih_lp13322 z13375 z13372 v13352 F13353 _ _ _ (by omega) (by omega) (frC (by decide) hf13354 hf_lp13322) hI hF hP hS (lv_sub hl [0, 3, 1, 4, 5, 6, 7, 8, 9, 10] rfl)
                  · skip
                    have t13378 := cv_eq (a := r13347.toInt) rfl (b := 0) (by decide) c13349
                    refine lv_goto (tgt := 205) hx hb dX12_lacksOf_159 (by decide) ?_
                    obtain ⟨z13379, e13380⟩ : ∃ y : Int32, y = x9_lp13322 + 1 := ⟨_, rfl⟩
                    try (have t13381 := tadd e13380 rfl (b := 1) (by decide) (by omega))
                    refine lv_iinc (v := z13379) (lv' := [(9, .int z13379), (8, .int 1), (7, .int x7_lp13322), (6, .int z13039), (5, .int z13036), (0, .ref (g 0)), (1, .int p0), (2, .int p1), (3, .int p2), (4, .int p3)]) hx hb dX12_lacksOf_205 hl (k := 0) rfl (by rw [e13380]; rfl) (by decide) rfl (fun ls hl => ?_)
                    refine lv_goto (tgt := 112) hx hb dX12_lacksOf_208 (by decide) ?_
                    exact ih_lp13322 z13379 x7_lp13322 v_lp13322 F_lp13322 _ _ _ (by omega) (by omega) hf_lp13322 hI hF hP hS (lv_sub hl [0, 1, 2, 3, 4, 5, 6, 7, 8, 9] rfl)
        obtain ⟨n9, hn9⟩ : ∃ n : Nat, 2147483648 - 0 ≤ (n : Int) := ⟨((2147483648 - 0 : Int)).toNat, by omega⟩
        exact lp13322 n9 0 0 v F H _ ls (by have : (0 : Int32).toInt = 0 := (by decide); have : (0 : Int32).toInt = 0 := (by decide); omega) (by have : (0 : Int32).toInt = 0 := (by decide); have : (0 : Int32).toInt = 0 := (by decide); omega) (fun _ _ => rfl) hI hF hP hS hl
    · skip
      have t13382 := cv_eq (a := z13039.toInt) rfl (b := 104) (by decide) c13257
      refine lv_iconst (v := 0) hx hb dX12_lacksOf_91 (by decide) ?_
      refine lv_goto (tgt := 107) hx hb dX12_lacksOf_92 (by decide) ?_
      refine lv_istore (lv' := [(8, .int 0), (7, .int 0), (6, .int z13039), (5, .int z13036), (0, .ref (g 0)), (1, .int p0), (2, .int p1), (3, .int p2), (4, .int p3)]) hx hb dX12_lacksOf_107 hl (by decide) rfl (fun ls hl => ?_)
      refine lv_iconst (v := 0) hx hb dX12_lacksOf_109 (by decide) ?_
      refine lv_istore (lv' := [(9, .int 0), (8, .int 0), (7, .int 0), (6, .int z13039), (5, .int z13036), (0, .ref (g 0)), (1, .int p0), (2, .int p1), (3, .int p2), (4, .int p3)]) hx hb dX12_lacksOf_110 hl (by decide) rfl (fun ls hl => ?_)
      have lp13383 : ∀ (n : Nat) (x9_lp13383 : Int32) (x7_lp13383 : Int32) (v_lp13383 : Nat → Int32) (F_lp13383 : Nat → Nat → Int32) (H : Heap) (locs : List Loc) (ls : Array Slot), (0 ≤ x9_lp13383.toInt) → (2147483648 - x9_lp13383.toInt ≤ (n : Int)) → (∀ k, k ∉ ([] : List Nat) → v_lp13383 k = v k) → IM v_lp13383 F_lp13383 → (∀ k, k ∉ ([30, 31] : List Nat) → F_lp13383 k = F k) → va_P (dC, dI) classes (wM g c v_lp13383 F_lp13383 rc) H → va_S (AM g s.heap.size) s.heap H locs → lv_has ls 11 [(9, .int x9_lp13383), (8, .int 0), (7, .int x7_lp13383), (6, .int z13039), (5, .int z13036), (0, .ref (g 0)), (1, .int p0), (2, .int p1), (3, .int p2), (4, .int p3)] → W p l e (headSpec (Cond.code yX12_lacksOf cX12_lacksOf 11 (some .int) :: wA) ({ frames := 5, cells := 0, slots := 0, locals := 200 })).room s m ([.ref (g 0), .int p0, .int p1, .int p2, .int p3] : List Value).toArray below meth c0 H locs 0 0 (MQ below (va_Qi (fun (r : Int32) (u : StM) => IM u.1 u.2.1 ∧ u.2.2 = rc ∧ (∀ k, k ∉ ([] : List Nat) → u.1 k = v k) ∧ (∀ k, k ∉ ([30, 31] : List Nat) → u.2.1 k = F k) ∧ True) (BM dC dI g c) (AM g s.heap.size)) ([.ref (g 0), .int p0, .int p1, .int p2, .int p3] : List Value).toArray s 0 0 (AM g s.heap.size)) (F0 m 112 ls []) := by
        intro n
        induction n with
        | zero =>
          intro x9_lp13383 x7_lp13383 v_lp13383 F_lp13383 H locs ls t13384 hm hf_lp13383 hI hF hP hS hl
          exfalso
          have := i32_rng x9_lp13383
          have := i32_rng x7_lp13383
          have hI1 := hI.1
          omega
        | succ n ih_lp13383 =>
          intro x9_lp13383 x7_lp13383 v_lp13383 F_lp13383 H locs ls t13384 hm hf_lp13383 hI hF hP hS hl
          have rx9_lp13383 := i32_rng x9_lp13383
          have rx7_lp13383 := i32_rng x7_lp13383
          refine lv_iload hx hb dX12_lacksOf_112 (lv_at hl 0 rfl) ?_
          refine lv_aload_n hx hb dX12_lacksOf_114 rfl (lv_at hl 5 rfl) ?_
          refine va_get (D := (dC, dI)) (ci := 12) (v := .int (v_lp13383 14)) (C := RX12) (T := TX12) (N := 63) hx hb hwd inA_X12 hown hK hP 0 rfl rfl 14 (by decide) (hwd _ wk_318) (fun _ h9 => h9) rfl dX12_lacksOf_115 ?_
          refine my_top (v := v 14) (hf_lp13383 14 (by decide)) ?_
          have t13385 : 0 ≤ (v 14).toInt ∧ (v 14).toInt ≤ 100 := by have h9 := hI.1 14 _ _ rfl; rw [show v_lp13383 14 = v 14 from hf_lp13383 14 (by decide)] at h9; exact h9
          refine lv_icmp_ge (tgt := 211) hx hb dX12_lacksOf_118 (by decide) (fun c13386 => ?_) (fun c13386 => ?_)
          · skip
            have t13387 := cv_le (a := (v 14).toInt) rfl (b := x9_lp13383.toInt) rfl c13386
            refine lv_iload hx hb dX12_lacksOf_211 (lv_at hl 2 rfl) ?_
            have hP9 : va_P (dC, dI) classes (wM g c v_lp13383 F_lp13383 rc) H := hP
            exact W.iret (v := x7_lp13383) hx hb hr (fun t ht hW => ⟨⟨x7_lp13383, (v_lp13383, F_lp13383, rc), rfl, ⟨hI, rfl, (frC (by decide) hf_lp13383 (fun _ _ => rfl)), hF, trivial⟩, (by show va_P _ _ _ t.heap; rw [ht]; exact hP9)⟩, hS.F ht⟩) hS.2.2 dX12_lacksOf_213
          · skip
            have t13388 := cv_nle (a := (v 14).toInt) rfl (b := x9_lp13383.toInt) rfl c13386
            refine lv_aload_n hx hb dX12_lacksOf_121 rfl (lv_at hl 5 rfl) ?_
            refine va_get (D := (dC, dI)) (ci := 12) (v := .ref (g 42)) (C := RX12) (T := TX12) (N := 63) hx hb hwd inA_X12 hown hK hP 0 rfl rfl 56 (by decide) (hwd _ wk_224) (fun _ h9 => h9) rfl dX12_lacksOf_122 ?_
            refine lv_iload hx hb dX12_lacksOf_125 (lv_at hl 0 rfl) ?_
            refine va_zald hx hb hK hP 42 41 rfl rfl (i := x9_lp13383) (vin (a := x9_lp13383.toInt) rfl (by omega)) dX12_lacksOf_127 ?_
            refine lv_topi (fun z13389 e13390 => ?_)
            have e13390 : z13389 = F 42 (x9_lp13383 : Int32).toNatClampNeg := e13390.trans (congrFun (hF 42 (by decide)) _)
            refine lv_if_eq (tgt := 205) hx hb dX12_lacksOf_128 (by decide) (fun c13391 => ?_) (fun c13391 => ?_)
            · skip
              have t13392 := cv_eq (a := z13389.toInt) rfl (b := 0) (by decide) c13391
              obtain ⟨z13393, e13394⟩ : ∃ y : Int32, y = x9_lp13383 + 1 := ⟨_, rfl⟩
              try (have t13395 := tadd e13394 rfl (b := 1) (by decide) (by omega))
              refine lv_iinc (v := z13393) (lv' := [(9, .int z13393), (8, .int 0), (7, .int x7_lp13383), (6, .int z13039), (5, .int z13036), (0, .ref (g 0)), (1, .int p0), (2, .int p1), (3, .int p2), (4, .int p3)]) hx hb dX12_lacksOf_205 hl (k := 0) rfl (by rw [e13394]; rfl) (by decide) rfl (fun ls hl => ?_)
              refine lv_goto (tgt := 112) hx hb dX12_lacksOf_208 (by decide) ?_
              exact ih_lp13383 z13393 x7_lp13383 v_lp13383 F_lp13383 _ _ _ (by omega) (by omega) hf_lp13383 hI hF hP hS (lv_sub hl [0, 1, 2, 3, 4, 5, 6, 7, 8, 9] rfl)
            · skip
              have t13396 := cv_ne (a := z13389.toInt) rfl (b := 0) (by decide) c13391
              refine lv_aload_n hx hb dX12_lacksOf_131 rfl (lv_at hl 5 rfl) ?_
              refine va_get (D := (dC, dI)) (ci := 12) (v := .ref (g 11)) (C := RX12) (T := TX12) (N := 63) hx hb hwd inA_X12 hown hK hP 0 rfl rfl 15 (by decide) (hwd _ wk_192) (fun _ h9 => h9) rfl dX12_lacksOf_132 ?_
              refine lv_iload hx hb dX12_lacksOf_135 (lv_at hl 0 rfl) ?_
              refine va_iald hx hb hK hP 11 10 rfl rfl (i := x9_lp13383) (vin (a := x9_lp13383.toInt) rfl (by omega)) dX12_lacksOf_137 ?_
              refine lv_topi (fun z13397 e13398 => ?_)
              have t13399 : 0 ≤ z13397.toInt ∧ z13397.toInt ≤ 9 := by rw [e13398]; exact hI.2 11 _ _ rfl _
              have e13398 : z13397 = F 11 (x9_lp13383 : Int32).toNatClampNeg := e13398.trans (congrFun (hF 11 (by decide)) _)
              refine lv_aload_n hx hb dX12_lacksOf_138 rfl (lv_at hl 5 rfl) ?_
              refine va_get (D := (dC, dI)) (ci := 12) (v := .ref (g 39)) (C := RX12) (T := TX12) (N := 63) hx hb hwd inA_X12 hown hK hP 0 rfl rfl 53 (by decide) (hwd _ wk_221) (fun _ h9 => h9) rfl dX12_lacksOf_139 ?_
              refine lv_iload hx hb dX12_lacksOf_142 (lv_at hl 4 rfl) ?_
              refine va_iald hx hb hK hP 39 38 rfl rfl (i := z13036) (vin (a := z13036.toInt) rfl (by omega)) dX12_lacksOf_144 ?_
              refine lv_topi (fun z13400 e13401 => ?_)
              have e13401 : z13400 = F 39 (z13036 : Int32).toNatClampNeg := e13401.trans (congrFun (hF 39 (by decide)) _)
              refine lv_icmp_ne (tgt := 205) hx hb dX12_lacksOf_145 (by decide) (fun c13402 => ?_) (fun c13402 => ?_)
              · skip
                have t13403 := cv_ne (a := z13397.toInt) rfl (b := z13400.toInt) rfl c13402
                obtain ⟨z13404, e13405⟩ : ∃ y : Int32, y = x9_lp13383 + 1 := ⟨_, rfl⟩
                try (have t13406 := tadd e13405 rfl (b := 1) (by decide) (by omega))
                refine lv_iinc (v := z13404) (lv' := [(9, .int z13404), (8, .int 0), (7, .int x7_lp13383), (6, .int z13039), (5, .int z13036), (0, .ref (g 0)), (1, .int p0), (2, .int p1), (3, .int p2), (4, .int p3)]) hx hb dX12_lacksOf_205 hl (k := 0) rfl (by rw [e13405]; rfl) (by decide) rfl (fun ls hl => ?_)
                refine lv_goto (tgt := 112) hx hb dX12_lacksOf_208 (by decide) ?_
                exact ih_lp13383 z13404 x7_lp13383 v_lp13383 F_lp13383 _ _ _ (by omega) (by omega) hf_lp13383 hI hF hP hS (lv_sub hl [0, 1, 2, 3, 4, 5, 6, 7, 8, 9] rfl)
              · skip
                have t13407 := cv_eq (a := z13397.toInt) rfl (b := z13400.toInt) rfl c13402
                refine lv_aload_n hx hb dX12_lacksOf_148 rfl (lv_at hl 5 rfl) ?_
                refine lv_iload hx hb dX12_lacksOf_149 (lv_at hl 0 rfl) ?_
                refine lv_iload hx hb dX12_lacksOf_151 (lv_at hl 1 rfl) ?_
                have hby1 : F_lp13383 1 = F 1 := hF 1 (by decide)
                have hby11 : F_lp13383 11 = F 11 := hF 11 (by decide)
                refine va_calli (va_runV (As := [.int x9_lp13383, .int 0]) (rest := []) ⟨hx, hb, hml, hown, hwd⟩ (c_X12_limitOf l dC dI g c adK adV v_lp13383 F_lp13383 rc H.size x9_lp13383 0 hg hI (by omega) (by have : (0 : Int32).toInt = 0 := (by decide); omega)) (cwV 2 hwd (gV wk_489 wk_486 wk_487 wk_488 wk_5) rfl rfl rfl (by decide +kernel) ⟨Nat.le_of_ble_eq_true rfl, Nat.le_of_ble_eq_true rfl⟩) ⟨PM.blind, va_recv hK hP (ci := 12) (q0 := 0) rfl rfl, fun U hU hW => ⟨rfl, PM.at hK hE hP hS hU hW⟩⟩ rfl rfl hl.1 rfl (lv_room (Nat.le_of_ble_eq_true rfl)) dX12_lacksOf_153 ⟨Nat.le_of_ble_eq_true rfl, Nat.le_of_ble_eq_true rfl⟩) hS (fun q _ h => (freeM hS) q h) (freeM hS) (fun r13408 u t H1 locs ht hvm hw hB hz1 hk1 hS => ?_)
                unfold BM at hB
                rw [ht] at hB
                have hP : va_P (dC, dI) classes (wM g c v_lp13383 F_lp13383 rc) H1 := hB
                replace hw : r13408.toInt = (F_lp13383 1 (limJ (F_lp13383 11) x9_lp13383 (0 : Int32))).toInt := hw
                rw [hby1] at hw
                rw [hby11] at hw
                have hw_r13408 := hw
                clear hw
                have k13409 : (0 : Int32).toInt = 0 := by decide
                clear hz1
                generalize H1 = H at hP hS ⊢
                refine lv_if_ne (tgt := 162) hx hb dX12_lacksOf_156 (by decide) (fun c13410 => ?_) (fun c13410 => ?_)
                · skip
                  have t13411 := cv_ne (a := r13408.toInt) rfl (b := 0) (by decide) c13410
                  refine lv_aload_n hx hb dX12_lacksOf_162 rfl (lv_at hl 5 rfl) ?_
                  refine lv_iload hx hb dX12_lacksOf_163 (lv_at hl 0 rfl) ?_
                  refine lv_iload hx hb dX12_lacksOf_165 (lv_at hl 1 rfl) ?_
                  refine lv_iload hx hb dX12_lacksOf_167 (lv_at hl 9 rfl) ?_
                  refine va_calli (va_runV (As := [.int x9_lp13383, .int 0, .int p3]) (rest := []) ⟨hx, hb, hml, hown, hwd⟩ (c_X12_leftOf l dC dI g c adK adV v_lp13383 F_lp13383 rc H.size x9_lp13383 0 p3 hg hI (by omega) (by have : (0 : Int32).toInt = 0 := (by decide); omega) (JL.to hL (show v_lp13383 31 = v 31 from hf_lp13383 31 (by decide)) (hF 28 (by decide)) (hF 29 (by decide)) (hF 27 (by decide)))) (cwV 3 hwd (gV wk_493 wk_490 wk_491 wk_492 wk_5) rfl rfl rfl (by decide +kernel) ⟨Nat.le_of_ble_eq_true rfl, Nat.le_of_ble_eq_true rfl⟩) ⟨PM.blind, va_recv hK hP (ci := 12) (q0 := 0) rfl rfl, fun U hU hW => ⟨rfl, PM.at hK hE hP hS hU hW⟩⟩ rfl rfl hl.1 rfl (lv_room (Nat.le_of_ble_eq_true rfl)) dX12_lacksOf_169 ⟨Nat.le_of_ble_eq_true rfl, Nat.le_of_ble_eq_true rfl⟩) hS (fun q _ h => (freeM hS) q h) (freeM hS) (fun r13412 u t H1 locs ht hvm hw hB hz1 hk1 hS => ?_)
                  unfold BM at hB
                  rw [ht] at hB
                  obtain ⟨v13413, F13414, rc9⟩ := u
                  obtain ⟨hI, hrc, hf13415, hG13416, hw⟩ := hw
                  dsimp only at hI hrc hB hf13415 hG13416 hw
                  have hF := frCF (by decide) hG13416 hF
                  rw [hrc] at hB
                  have hP : va_P (dC, dI) classes (wM g c v13413 F13414 rc) H1 := hB
                  clear hz1
                  generalize H1 = H at hP hS ⊢
                  have rr_r13412 := i32_rng r13412
                  refine lv_istore (lv' := [(10, .int r13412), (9, .int x9_lp13383), (8, .int 0), (7, .int x7_lp13383), (6, .int z13039), (5, .int z13036), (0, .ref (g 0)), (1, .int p0), (2, .int p1), (3, .int p2), (4, .int p3)]) hx hb dX12_lacksOf_172 hl (by decide) rfl (fun ls hl => ?_)
                  refine lv_iload hx hb dX12_lacksOf_174 (lv_at hl 3 rfl) ?_
                  refine lv_iload hx hb dX12_lacksOf_176 (lv_at hl 0 rfl) ?_
                  refine lv_aload_n hx hb dX12_lacksOf_178 rfl (lv_at hl 6 rfl) ?_
                  refine va_get (D := (dC, dI)) (ci := 12) (v := .ref (g 40)) (C := RX12) (T := TX12) (N := 63) hx hb hwd inA_X12 hown hK hP 0 rfl rfl 54 (by decide) (hwd _ wk_222) (fun _ h9 => h9) rfl dX12_lacksOf_179 ?_
                  refine lv_iload hx hb dX12_lacksOf_182 (lv_at hl 5 rfl) ?_
                  refine va_iald hx hb hK hP 40 39 rfl rfl (i := z13036) (vin (a := z13036.toInt) rfl (by omega)) dX12_lacksOf_184 ?_
                  refine lv_topi (fun z13417 e13418 => ?_)
                  have e13418 : z13417 = F 40 (z13036 : Int32).toNatClampNeg := e13418.trans (congrFun (hF 40 (by decide)) _)
                  refine lv_icmp_ge (tgt := 201) hx hb dX12_lacksOf_185 (by decide) (fun c13419 => ?_) (fun c13419 => ?_)
                  · skip
                    have t13420 := cv_le (a := z13417.toInt) rfl (b := r13412.toInt) rfl c13419
                    refine lv_iconst (v := 0) hx hb dX12_lacksOf_201 (by decide) ?_
                    refine lv_iadd hx hb dX12_lacksOf_202 ?_
                    refine lv_topi (fun z13421 e13422 => ?_)
                    try (have t13423 := tadd e13422 (a := x7_lp13383.toInt) rfl (b := 0) (by decide) (by omega))
                    refine lv_istore (lv' := [(7, .int z13421), (10, .int r13412), (9, .int x9_lp13383), (8, .int 0), (6, .int z13039), (5, .int z13036), (0, .ref (g 0)), (1, .int p0), (2, .int p1), (3, .int p2), (4, .int p3)]) hx hb dX12_lacksOf_203 hl (by decide) rfl (fun ls hl => ?_)
                    obtain ⟨z13424, e13425⟩ : ∃ y : Int32, y = x9_lp13383 + 1 := ⟨_, rfl⟩
                    try (have t13426 := tadd e13425 rfl (b := 1) (by decide) (by omega))
                    refine lv_iinc (v := z13424) (lv' := [(9, .int z13424), (7, .int z13421), (10, .int r13412), (8, .int 0), (6, .int z13039), (5, .int z13036), (0, .ref (g 0)), (1, .int p0), (2, .int p1), (3, .int p2), (4, .int p3)]) hx hb dX12_lacksOf_205 hl (k := 2) rfl (by rw [e13425]; rfl) (by decide) rfl (fun ls hl => ?_)
                    refine lv_goto (tgt := 112) hx hb dX12_lacksOf_208 (by decide) ?_
                    exact ih_lp13383 z13424 z13421 v13413 F13414 _ _ _ (by omega) (by omega) (frC (by decide) hf13415 hf_lp13383) hI hF hP hS (lv_sub hl [0, 3, 1, 4, 5, 6, 7, 8, 9, 10] rfl)
                  · skip
                    have t13427 := cv_nle (a := z13417.toInt) rfl (b := r13412.toInt) rfl c13419
                    refine lv_aload_n hx hb dX12_lacksOf_188 rfl (lv_at hl 6 rfl) ?_
                    refine va_get (D := (dC, dI)) (ci := 12) (v := .ref (g 40)) (C := RX12) (T := TX12) (N := 63) hx hb hwd inA_X12 hown hK hP 0 rfl rfl 54 (by decide) (hwd _ wk_222) (fun _ h9 => h9) rfl dX12_lacksOf_189 ?_
                    refine lv_iload hx hb dX12_lacksOf_192 (lv_at hl 5 rfl) ?_
                    refine va_iald hx hb hK hP 40 39 rfl rfl (i := z13036) (vin (a := z13036.toInt) rfl (by omega)) dX12_lacksOf_194 ?_
                    refine lv_topi (fun z13428 e13429 => ?_)
                    have e13429 : z13428 = F 40 (z13036 : Int32).toNatClampNeg := e13429.trans (congrFun (hF 40 (by decide)) _)
                    refine lv_iload hx hb dX12_lacksOf_195 (lv_at hl 0 rfl) ?_
                    refine lv_isub hx hb dX12_lacksOf_197 ?_
                    refine lv_topi (fun z13430 e13431 => ?_)
                    try (have t13432 := tsub e13431 (a := z13428.toInt) rfl (b := r13412.toInt) rfl (by omega))
                    refine lv_goto (tgt := 202) hx hb dX12_lacksOf_198 (by decide) ?_
                    refine lv_iadd hx hb dX12_lacksOf_202 ?_
                    refine lv_topi (fun z13433 e13434 => ?_)
                    try (have t13435 := tadd e13434 (a := x7_lp13383.toInt) rfl (b := z13430.toInt) rfl (by omega))
                    refine lv_istore (lv' := [(7, .int z13433), (10, .int r13412), (9, .int x9_lp13383), (8, .int 0), (6, .int z13039), (5, .int z13036), (0, .ref (g 0)), (1, .int p0), (2, .int p1), (3, .int p2), (4, .int p3)]) hx hb dX12_lacksOf_203 hl (by decide) rfl (fun ls hl => ?_)
                    obtain ⟨z13436, e13437⟩ : ∃ y : Int32, y = x9_lp13383 + 1 := ⟨_, rfl⟩
                    try (have t13438 := tadd e13437 rfl (b := 1) (by decide) (by omega))
                    refine lv_iinc (v := z13436) (lv' := [(9, .int z13436), (7, .int z13433), (10, .int r13412), (8, .int 0), (6, .int z13039), (5, .int z13036), (0, .ref (g 0)), (1, .int p0), (2, .int p1), (3, .int p2), (4, .int p3)]) hx hb dX12_lacksOf_205 hl (k := 2) rfl (by rw [e13437]; rfl) (by decide) rfl (fun ls hl => ?_)
                    refine lv_goto (tgt := 112) hx hb dX12_lacksOf_208 (by decide) ?_
                    exact ih_lp13383 z13436 z13433 v13413 F13414 _ _ _ (by omega) (by omega) (frC (by decide) hf13415 hf_lp13383) hI hF hP hS (lv_sub hl [0, 3, 1, 4, 5, 6, 7, 8, 9, 10] rfl)
                · skip
                  have t13439 := cv_eq (a := r13408.toInt) rfl (b := 0) (by decide) c13410
                  refine lv_goto (tgt := 205) hx hb dX12_lacksOf_159 (by decide) ?_
                  obtain ⟨z13440, e13441⟩ : ∃ y : Int32, y = x9_lp13383 + 1 := ⟨_, rfl⟩
                  try (have t13442 := tadd e13441 rfl (b := 1) (by decide) (by omega))
                  refine lv_iinc (v := z13440) (lv' := [(9, .int z13440), (8, .int 0), (7, .int x7_lp13383), (6, .int z13039), (5, .int z13036), (0, .ref (g 0)), (1, .int p0), (2, .int p1), (3, .int p2), (4, .int p3)]) hx hb dX12_lacksOf_205 hl (k := 0) rfl (by rw [e13441]; rfl) (by decide) rfl (fun ls hl => ?_)
                  refine lv_goto (tgt := 112) hx hb dX12_lacksOf_208 (by decide) ?_
                  exact ih_lp13383 z13440 x7_lp13383 v_lp13383 F_lp13383 _ _ _ (by omega) (by omega) hf_lp13383 hI hF hP hS (lv_sub hl [0, 1, 2, 3, 4, 5, 6, 7, 8, 9] rfl)
      obtain ⟨n9, hn9⟩ : ∃ n : Nat, 2147483648 - 0 ≤ (n : Int) := ⟨((2147483648 - 0 : Int)).toNat, by omega⟩
      exact lp13383 n9 0 0 v F H _ ls (by have : (0 : Int32).toInt = 0 := (by decide); have : (0 : Int32).toInt = 0 := (by decide); omega) (by have : (0 : Int32).toInt = 0 := (by decide); have : (0 : Int32).toInt = 0 := (by decide); omega) (fun _ _ => rfl) hI hF hP hS hl
  · refine lv_tableIn (off := 409) (tgt := 431) hx hb dX12_lacksOf_22 hlo13041 hhi13042 (by rw [hk]; decide) (by decide) ?_
    refine lv_aload_n hx hb dX12_lacksOf_431 rfl (lv_at hl 3 rfl) ?_
    refine lv_iload_n hx hb dX12_lacksOf_432 rfl (lv_at hl 4 rfl) ?_
    refine lv_iload_n hx hb dX12_lacksOf_433 rfl (lv_at hl 6 rfl) ?_
    refine va_calli (va_runV (As := [.int p0, .int p2]) (rest := []) ⟨hx, hb, hml, hown, hwd⟩ (c_X12_late l dC dI g c adK adV v F rc H.size p0 p2 hg hI (by omega)) (cwV 2 hwd (gV wk_1213 wk_1210 wk_1211 wk_1212 wk_5) rfl rfl rfl (by decide +kernel) ⟨Nat.le_of_ble_eq_true rfl, Nat.le_of_ble_eq_true rfl⟩) ⟨PM.blind, va_recv hK hP (ci := 12) (q0 := 0) rfl rfl, fun U hU hW => ⟨rfl, PM.at hK hE hP hS hU hW⟩⟩ rfl rfl hl.1 rfl (lv_room (Nat.le_of_ble_eq_true rfl)) dX12_lacksOf_434 ⟨Nat.le_of_ble_eq_true rfl, Nat.le_of_ble_eq_true rfl⟩) hS (fun q _ h => (freeM hS) q h) (freeM hS) (fun r13443 u t H1 locs ht hvm hw hB hz1 hk1 hS => ?_)
    unfold BM at hB
    rw [ht] at hB
    have hP : va_P (dC, dI) classes (wM g c v F rc) H1 := hB
    clear hz1
    generalize H1 = H at hP hS ⊢
    have rr_r13443 := i32_rng r13443
    have hP9 : va_P (dC, dI) classes (wM g c v F rc) H := hP
    exact W.iret (v := r13443) hx hb hr (fun t ht hW => ⟨⟨r13443, (v, F, rc), rfl, ⟨hI, rfl, (fun _ _ => rfl), hF, trivial⟩, (by show va_P _ _ _ t.heap; rw [ht]; exact hP9)⟩, hS.F ht⟩) hS.2.2 dX12_lacksOf_437
  · refine lv_tableIn (off := 409) (tgt := 431) hx hb dX12_lacksOf_22 hlo13041 hhi13042 (by rw [hk]; decide) (by decide) ?_
    refine lv_aload_n hx hb dX12_lacksOf_431 rfl (lv_at hl 3 rfl) ?_
    refine lv_iload_n hx hb dX12_lacksOf_432 rfl (lv_at hl 4 rfl) ?_
    refine lv_iload_n hx hb dX12_lacksOf_433 rfl (lv_at hl 6 rfl) ?_
    refine va_calli (va_runV (As := [.int p0, .int p2]) (rest := []) ⟨hx, hb, hml, hown, hwd⟩ (c_X12_late l dC dI g c adK adV v F rc H.size p0 p2 hg hI (by omega)) (cwV 2 hwd (gV wk_1213 wk_1210 wk_1211 wk_1212 wk_5) rfl rfl rfl (by decide +kernel) ⟨Nat.le_of_ble_eq_true rfl, Nat.le_of_ble_eq_true rfl⟩) ⟨PM.blind, va_recv hK hP (ci := 12) (q0 := 0) rfl rfl, fun U hU hW => ⟨rfl, PM.at hK hE hP hS hU hW⟩⟩ rfl rfl hl.1 rfl (lv_room (Nat.le_of_ble_eq_true rfl)) dX12_lacksOf_434 ⟨Nat.le_of_ble_eq_true rfl, Nat.le_of_ble_eq_true rfl⟩) hS (fun q _ h => (freeM hS) q h) (freeM hS) (fun r13444 u t H1 locs ht hvm hw hB hz1 hk1 hS => ?_)
    unfold BM at hB
    rw [ht] at hB
    have hP : va_P (dC, dI) classes (wM g c v F rc) H1 := hB
    clear hz1
    generalize H1 = H at hP hS ⊢
    have rr_r13444 := i32_rng r13444
    have hP9 : va_P (dC, dI) classes (wM g c v F rc) H := hP
    exact W.iret (v := r13444) hx hb hr (fun t ht hW => ⟨⟨r13444, (v, F, rc), rfl, ⟨hI, rfl, (fun _ _ => rfl), hF, trivial⟩, (by show va_P _ _ _ t.heap; rw [ht]; exact hP9)⟩, hS.F ht⟩) hS.2.2 dX12_lacksOf_437
  · refine lv_tableIn (off := 409) (tgt := 431) hx hb dX12_lacksOf_22 hlo13041 hhi13042 (by rw [hk]; decide) (by decide) ?_
    refine lv_aload_n hx hb dX12_lacksOf_431 rfl (lv_at hl 3 rfl) ?_
    refine lv_iload_n hx hb dX12_lacksOf_432 rfl (lv_at hl 4 rfl) ?_
    refine lv_iload_n hx hb dX12_lacksOf_433 rfl (lv_at hl 6 rfl) ?_
    refine va_calli (va_runV (As := [.int p0, .int p2]) (rest := []) ⟨hx, hb, hml, hown, hwd⟩ (c_X12_late l dC dI g c adK adV v F rc H.size p0 p2 hg hI (by omega)) (cwV 2 hwd (gV wk_1213 wk_1210 wk_1211 wk_1212 wk_5) rfl rfl rfl (by decide +kernel) ⟨Nat.le_of_ble_eq_true rfl, Nat.le_of_ble_eq_true rfl⟩) ⟨PM.blind, va_recv hK hP (ci := 12) (q0 := 0) rfl rfl, fun U hU hW => ⟨rfl, PM.at hK hE hP hS hU hW⟩⟩ rfl rfl hl.1 rfl (lv_room (Nat.le_of_ble_eq_true rfl)) dX12_lacksOf_434 ⟨Nat.le_of_ble_eq_true rfl, Nat.le_of_ble_eq_true rfl⟩) hS (fun q _ h => (freeM hS) q h) (freeM hS) (fun r13445 u t H1 locs ht hvm hw hB hz1 hk1 hS => ?_)
    unfold BM at hB
    rw [ht] at hB
    have hP : va_P (dC, dI) classes (wM g c v F rc) H1 := hB
    clear hz1
    generalize H1 = H at hP hS ⊢
    have rr_r13445 := i32_rng r13445
    have hP9 : va_P (dC, dI) classes (wM g c v F rc) H := hP
    exact W.iret (v := r13445) hx hb hr (fun t ht hW => ⟨⟨r13445, (v, F, rc), rfl, ⟨hI, rfl, (fun _ _ => rfl), hF, trivial⟩, (by show va_P _ _ _ t.heap; rw [ht]; exact hP9)⟩, hS.F ht⟩) hS.2.2 dX12_lacksOf_437
  · refine lv_tableIn (off := 62) (tgt := 84) hx hb dX12_lacksOf_22 hlo13041 hhi13042 (by rw [hk]; decide) (by decide) ?_
    refine lv_iload hx hb dX12_lacksOf_84 (lv_at hl 1 rfl) ?_
    refine lv_bipush (v := 104) hx hb dX12_lacksOf_86 (by decide) ?_
    refine lv_icmp_ne (tgt := 95) hx hb dX12_lacksOf_88 (by decide) (fun c13446 => ?_) (fun c13446 => ?_)
    · skip
      have t13447 := cv_ne (a := z13039.toInt) rfl (b := 104) (by decide) c13446
      refine lv_iload hx hb dX12_lacksOf_95 (lv_at hl 1 rfl) ?_
      refine lv_bipush (v := 108) hx hb dX12_lacksOf_97 (by decide) ?_
      refine lv_icmp_ne (tgt := 106) hx hb dX12_lacksOf_99 (by decide) (fun c13448 => ?_) (fun c13448 => ?_)
      · skip
        have t13449 := cv_ne (a := z13039.toInt) rfl (b := 108) (by decide) c13448
        refine lv_iconst (v := 2) hx hb dX12_lacksOf_106 (by decide) ?_
        refine lv_istore (lv' := [(8, .int 2), (7, .int 0), (6, .int z13039), (5, .int z13036), (0, .ref (g 0)), (1, .int p0), (2, .int p1), (3, .int p2), (4, .int p3)]) hx hb dX12_lacksOf_107 hl (by decide) rfl (fun ls hl => ?_)
        refine lv_iconst (v := 0) hx hb dX12_lacksOf_109 (by decide) ?_
        refine lv_istore (lv' := [(9, .int 0), (8, .int 2), (7, .int 0), (6, .int z13039), (5, .int z13036), (0, .ref (g 0)), (1, .int p0), (2, .int p1), (3, .int p2), (4, .int p3)]) hx hb dX12_lacksOf_110 hl (by decide) rfl (fun ls hl => ?_)
        have lp13450 : ∀ (n : Nat) (x9_lp13450 : Int32) (x7_lp13450 : Int32) (v_lp13450 : Nat → Int32) (F_lp13450 : Nat → Nat → Int32) (H : Heap) (locs : List Loc) (ls : Array Slot), (0 ≤ x9_lp13450.toInt) → (2147483648 - x9_lp13450.toInt ≤ (n : Int)) → (∀ k, k ∉ ([] : List Nat) → v_lp13450 k = v k) → IM v_lp13450 F_lp13450 → (∀ k, k ∉ ([30, 31] : List Nat) → F_lp13450 k = F k) → va_P (dC, dI) classes (wM g c v_lp13450 F_lp13450 rc) H → va_S (AM g s.heap.size) s.heap H locs → lv_has ls 11 [(9, .int x9_lp13450), (8, .int 2), (7, .int x7_lp13450), (6, .int z13039), (5, .int z13036), (0, .ref (g 0)), (1, .int p0), (2, .int p1), (3, .int p2), (4, .int p3)] → W p l e (headSpec (Cond.code yX12_lacksOf cX12_lacksOf 11 (some .int) :: wA) ({ frames := 5, cells := 0, slots := 0, locals := 200 })).room s m ([.ref (g 0), .int p0, .int p1, .int p2, .int p3] : List Value).toArray below meth c0 H locs 0 0 (MQ below (va_Qi (fun (r : Int32) (u : StM) => IM u.1 u.2.1 ∧ u.2.2 = rc ∧ (∀ k, k ∉ ([] : List Nat) → u.1 k = v k) ∧ (∀ k, k ∉ ([30, 31] : List Nat) → u.2.1 k = F k) ∧ True) (BM dC dI g c) (AM g s.heap.size)) ([.ref (g 0), .int p0, .int p1, .int p2, .int p3] : List Value).toArray s 0 0 (AM g s.heap.size)) (F0 m 112 ls []) := by
          intro n
          induction n with
          | zero =>
            intro x9_lp13450 x7_lp13450 v_lp13450 F_lp13450 H locs ls t13451 hm hf_lp13450 hI hF hP hS hl
            exfalso
            have := i32_rng x9_lp13450
            have := i32_rng x7_lp13450
            have hI1 := hI.1
            omega
          | succ n ih_lp13450 =>
            intro x9_lp13450 x7_lp13450 v_lp13450 F_lp13450 H locs ls t13451 hm hf_lp13450 hI hF hP hS hl
            have rx9_lp13450 := i32_rng x9_lp13450
            have rx7_lp13450 := i32_rng x7_lp13450
            refine lv_iload hx hb dX12_lacksOf_112 (lv_at hl 0 rfl) ?_
            refine lv_aload_n hx hb dX12_lacksOf_114 rfl (lv_at hl 5 rfl) ?_
            refine va_get (D := (dC, dI)) (ci := 12) (v := .int (v_lp13450 14)) (C := RX12) (T := TX12) (N := 63) hx hb hwd inA_X12 hown hK hP 0 rfl rfl 14 (by decide) (hwd _ wk_318) (fun _ h9 => h9) rfl dX12_lacksOf_115 ?_
            refine my_top (v := v 14) (hf_lp13450 14 (by decide)) ?_
            have t13452 : 0 ≤ (v 14).toInt ∧ (v 14).toInt ≤ 100 := by have h9 := hI.1 14 _ _ rfl; rw [show v_lp13450 14 = v 14 from hf_lp13450 14 (by decide)] at h9; exact h9
            refine lv_icmp_ge (tgt := 211) hx hb dX12_lacksOf_118 (by decide) (fun c13453 => ?_) (fun c13453 => ?_)
            · skip
              have t13454 := cv_le (a := (v 14).toInt) rfl (b := x9_lp13450.toInt) rfl c13453
              refine lv_iload hx hb dX12_lacksOf_211 (lv_at hl 2 rfl) ?_
              have hP9 : va_P (dC, dI) classes (wM g c v_lp13450 F_lp13450 rc) H := hP
              exact W.iret (v := x7_lp13450) hx hb hr (fun t ht hW => ⟨⟨x7_lp13450, (v_lp13450, F_lp13450, rc), rfl, ⟨hI, rfl, (frC (by decide) hf_lp13450 (fun _ _ => rfl)), hF, trivial⟩, (by show va_P _ _ _ t.heap; rw [ht]; exact hP9)⟩, hS.F ht⟩) hS.2.2 dX12_lacksOf_213
            · skip
              have t13455 := cv_nle (a := (v 14).toInt) rfl (b := x9_lp13450.toInt) rfl c13453
              refine lv_aload_n hx hb dX12_lacksOf_121 rfl (lv_at hl 5 rfl) ?_
              refine va_get (D := (dC, dI)) (ci := 12) (v := .ref (g 42)) (C := RX12) (T := TX12) (N := 63) hx hb hwd inA_X12 hown hK hP 0 rfl rfl 56 (by decide) (hwd _ wk_224) (fun _ h9 => h9) rfl dX12_lacksOf_122 ?_
              refine lv_iload hx hb dX12_lacksOf_125 (lv_at hl 0 rfl) ?_
              refine va_zald hx hb hK hP 42 41 rfl rfl (i := x9_lp13450) (vin (a := x9_lp13450.toInt) rfl (by omega)) dX12_lacksOf_127 ?_
              refine lv_topi (fun z13456 e13457 => ?_)
              have e13457 : z13456 = F 42 (x9_lp13450 : Int32).toNatClampNeg := e13457.trans (congrFun (hF 42 (by decide)) _)
              refine lv_if_eq (tgt := 205) hx hb dX12_lacksOf_128 (by decide) (fun c13458 => ?_) (fun c13458 => ?_)
              · skip
                have t13459 := cv_eq (a := z13456.toInt) rfl (b := 0) (by decide) c13458
                obtain ⟨z13460, e13461⟩ : ∃ y : Int32, y = x9_lp13450 + 1 := ⟨_, rfl⟩
                try (have t13462 := tadd e13461 rfl (b := 1) (by decide) (by omega))
                refine lv_iinc (v := z13460) (lv' := [(9, .int z13460), (8, .int 2), (7, .int x7_lp13450), (6, .int z13039), (5, .int z13036), (0, .ref (g 0)), (1, .int p0), (2, .int p1), (3, .int p2), (4, .int p3)]) hx hb dX12_lacksOf_205 hl (k := 0) rfl (by rw [e13461]; rfl) (by decide) rfl (fun ls hl => ?_)
                refine lv_goto (tgt := 112) hx hb dX12_lacksOf_208 (by decide) ?_
                exact ih_lp13450 z13460 x7_lp13450 v_lp13450 F_lp13450 _ _ _ (by omega) (by omega) hf_lp13450 hI hF hP hS (lv_sub hl [0, 1, 2, 3, 4, 5, 6, 7, 8, 9] rfl)
              · skip
                have t13463 := cv_ne (a := z13456.toInt) rfl (b := 0) (by decide) c13458
                refine lv_aload_n hx hb dX12_lacksOf_131 rfl (lv_at hl 5 rfl) ?_
                refine va_get (D := (dC, dI)) (ci := 12) (v := .ref (g 11)) (C := RX12) (T := TX12) (N := 63) hx hb hwd inA_X12 hown hK hP 0 rfl rfl 15 (by decide) (hwd _ wk_192) (fun _ h9 => h9) rfl dX12_lacksOf_132 ?_
                refine lv_iload hx hb dX12_lacksOf_135 (lv_at hl 0 rfl) ?_
                refine va_iald hx hb hK hP 11 10 rfl rfl (i := x9_lp13450) (vin (a := x9_lp13450.toInt) rfl (by omega)) dX12_lacksOf_137 ?_
                refine lv_topi (fun z13464 e13465 => ?_)
                have t13466 : 0 ≤ z13464.toInt ∧ z13464.toInt ≤ 9 := by rw [e13465]; exact hI.2 11 _ _ rfl _
                have e13465 : z13464 = F 11 (x9_lp13450 : Int32).toNatClampNeg := e13465.trans (congrFun (hF 11 (by decide)) _)
                refine lv_aload_n hx hb dX12_lacksOf_138 rfl (lv_at hl 5 rfl) ?_
                refine va_get (D := (dC, dI)) (ci := 12) (v := .ref (g 39)) (C := RX12) (T := TX12) (N := 63) hx hb hwd inA_X12 hown hK hP 0 rfl rfl 53 (by decide) (hwd _ wk_221) (fun _ h9 => h9) rfl dX12_lacksOf_139 ?_
                refine lv_iload hx hb dX12_lacksOf_142 (lv_at hl 4 rfl) ?_
                refine va_iald hx hb hK hP 39 38 rfl rfl (i := z13036) (vin (a := z13036.toInt) rfl (by omega)) dX12_lacksOf_144 ?_
                refine lv_topi (fun z13467 e13468 => ?_)
                have e13468 : z13467 = F 39 (z13036 : Int32).toNatClampNeg := e13468.trans (congrFun (hF 39 (by decide)) _)
                refine lv_icmp_ne (tgt := 205) hx hb dX12_lacksOf_145 (by decide) (fun c13469 => ?_) (fun c13469 => ?_)
                · skip
                  have t13470 := cv_ne (a := z13464.toInt) rfl (b := z13467.toInt) rfl c13469
                  obtain ⟨z13471, e13472⟩ : ∃ y : Int32, y = x9_lp13450 + 1 := ⟨_, rfl⟩
                  try (have t13473 := tadd e13472 rfl (b := 1) (by decide) (by omega))
                  refine lv_iinc (v := z13471) (lv' := [(9, .int z13471), (8, .int 2), (7, .int x7_lp13450), (6, .int z13039), (5, .int z13036), (0, .ref (g 0)), (1, .int p0), (2, .int p1), (3, .int p2), (4, .int p3)]) hx hb dX12_lacksOf_205 hl (k := 0) rfl (by rw [e13472]; rfl) (by decide) rfl (fun ls hl => ?_)
                  refine lv_goto (tgt := 112) hx hb dX12_lacksOf_208 (by decide) ?_
                  exact ih_lp13450 z13471 x7_lp13450 v_lp13450 F_lp13450 _ _ _ (by omega) (by omega) hf_lp13450 hI hF hP hS (lv_sub hl [0, 1, 2, 3, 4, 5, 6, 7, 8, 9] rfl)
                · skip
                  have t13474 := cv_eq (a := z13464.toInt) rfl (b := z13467.toInt) rfl c13469
                  refine lv_aload_n hx hb dX12_lacksOf_148 rfl (lv_at hl 5 rfl) ?_
                  refine lv_iload hx hb dX12_lacksOf_149 (lv_at hl 0 rfl) ?_
                  refine lv_iload hx hb dX12_lacksOf_151 (lv_at hl 1 rfl) ?_
                  have hby1 : F_lp13450 1 = F 1 := hF 1 (by decide)
                  have hby11 : F_lp13450 11 = F 11 := hF 11 (by decide)
                  refine va_calli (va_runV (As := [.int x9_lp13450, .int 2]) (rest := []) ⟨hx, hb, hml, hown, hwd⟩ (c_X12_limitOf l dC dI g c adK adV v_lp13450 F_lp13450 rc H.size x9_lp13450 2 hg hI (by omega) (by have : (2 : Int32).toInt = 2 := (by decide); omega)) (cwV 2 hwd (gV wk_489 wk_486 wk_487 wk_488 wk_5) rfl rfl rfl (by decide +kernel) ⟨Nat.le_of_ble_eq_true rfl, Nat.le_of_ble_eq_true rfl⟩) ⟨PM.blind, va_recv hK hP (ci := 12) (q0 := 0) rfl rfl, fun U hU hW => ⟨rfl, PM.at hK hE hP hS hU hW⟩⟩ rfl rfl hl.1 rfl (lv_room (Nat.le_of_ble_eq_true rfl)) dX12_lacksOf_153 ⟨Nat.le_of_ble_eq_true rfl, Nat.le_of_ble_eq_true rfl⟩) hS (fun q _ h => (freeM hS) q h) (freeM hS) (fun r13475 u t H1 locs ht hvm hw hB hz1 hk1 hS => ?_)
                  unfold BM at hB
                  rw [ht] at hB
                  have hP : va_P (dC, dI) classes (wM g c v_lp13450 F_lp13450 rc) H1 := hB
                  replace hw : r13475.toInt = (F_lp13450 1 (limJ (F_lp13450 11) x9_lp13450 (2 : Int32))).toInt := hw
                  rw [hby1] at hw
                  rw [hby11] at hw
                  have hw_r13475 := hw
                  clear hw
                  have k13476 : (2 : Int32).toInt = 2 := by decide
                  clear hz1
                  generalize H1 = H at hP hS ⊢
                  refine lv_if_ne (tgt := 162) hx hb dX12_lacksOf_156 (by decide) (fun c13477 => ?_) (fun c13477 => ?_)
                  · skip
                    have t13478 := cv_ne (a := r13475.toInt) rfl (b := 0) (by decide) c13477
                    refine lv_aload_n hx hb dX12_lacksOf_162 rfl (lv_at hl 5 rfl) ?_
                    refine lv_iload hx hb dX12_lacksOf_163 (lv_at hl 0 rfl) ?_
                    refine lv_iload hx hb dX12_lacksOf_165 (lv_at hl 1 rfl) ?_
                    refine lv_iload hx hb dX12_lacksOf_167 (lv_at hl 9 rfl) ?_
                    refine va_calli (va_runV (As := [.int x9_lp13450, .int 2, .int p3]) (rest := []) ⟨hx, hb, hml, hown, hwd⟩ (c_X12_leftOf l dC dI g c adK adV v_lp13450 F_lp13450 rc H.size x9_lp13450 2 p3 hg hI (by omega) (by have : (2 : Int32).toInt = 2 := (by decide); omega) (JL.to hL (show v_lp13450 31 = v 31 from hf_lp13450 31 (by decide)) (hF 28 (by decide)) (hF 29 (by decide)) (hF 27 (by decide)))) (cwV 3 hwd (gV wk_493 wk_490 wk_491 wk_492 wk_5) rfl rfl rfl (by decide +kernel) ⟨Nat.le_of_ble_eq_true rfl, Nat.le_of_ble_eq_true rfl⟩) ⟨PM.blind, va_recv hK hP (ci := 12) (q0 := 0) rfl rfl, fun U hU hW => ⟨rfl, PM.at hK hE hP hS hU hW⟩⟩ rfl rfl hl.1 rfl (lv_room (Nat.le_of_ble_eq_true rfl)) dX12_lacksOf_169 ⟨Nat.le_of_ble_eq_true rfl, Nat.le_of_ble_eq_true rfl⟩) hS (fun q _ h => (freeM hS) q h) (freeM hS) (fun r13479 u t H1 locs ht hvm hw hB hz1 hk1 hS => ?_)
                    unfold BM at hB
                    rw [ht] at hB
                    obtain ⟨v13480, F13481, rc9⟩ := u
                    obtain ⟨hI, hrc, hf13482, hG13483, hw⟩ := hw
                    dsimp only at hI hrc hB hf13482 hG13483 hw
                    have hF := frCF (by decide) hG13483 hF
                    rw [hrc] at hB
                    have hP : va_P (dC, dI) classes (wM g c v13480 F13481 rc) H1 := hB
                    clear hz1
                    generalize H1 = H at hP hS ⊢
                    have rr_r13479 := i32_rng r13479
                    refine lv_istore (lv' := [(10, .int r13479), (9, .int x9_lp13450), (8, .int 2), (7, .int x7_lp13450), (6, .int z13039), (5, .int z13036), (0, .ref (g 0)), (1, .int p0), (2, .int p1), (3, .int p2), (4, .int p3)]) hx hb dX12_lacksOf_172 hl (by decide) rfl (fun ls hl => ?_)
                    refine lv_iload hx hb dX12_lacksOf_174 (lv_at hl 3 rfl) ?_
                    refine lv_iload hx hb dX12_lacksOf_176 (lv_at hl 0 rfl) ?_
                    refine lv_aload_n hx hb dX12_lacksOf_178 rfl (lv_at hl 6 rfl) ?_
                    refine va_get (D := (dC, dI)) (ci := 12) (v := .ref (g 40)) (C := RX12) (T := TX12) (N := 63) hx hb hwd inA_X12 hown hK hP 0 rfl rfl 54 (by decide) (hwd _ wk_222) (fun _ h9 => h9) rfl dX12_lacksOf_179 ?_
                    refine lv_iload hx hb dX12_lacksOf_182 (lv_at hl 5 rfl) ?_
                    refine va_iald hx hb hK hP 40 39 rfl rfl (i := z13036) (vin (a := z13036.toInt) rfl (by omega)) dX12_lacksOf_184 ?_
                    refine lv_topi (fun z13484 e13485 => ?_)
                    have e13485 : z13484 = F 40 (z13036 : Int32).toNatClampNeg := e13485.trans (congrFun (hF 40 (by decide)) _)
                    refine lv_icmp_ge (tgt := 201) hx hb dX12_lacksOf_185 (by decide) (fun c13486 => ?_) (fun c13486 => ?_)
                    · skip
                      have t13487 := cv_le (a := z13484.toInt) rfl (b := r13479.toInt) rfl c13486
                      refine lv_iconst (v := 0) hx hb dX12_lacksOf_201 (by decide) ?_
                      refine lv_iadd hx hb dX12_lacksOf_202 ?_
                      refine lv_topi (fun z13488 e13489 => ?_)
                      try (have t13490 := tadd e13489 (a := x7_lp13450.toInt) rfl (b := 0) (by decide) (by omega))
                      refine lv_istore (lv' := [(7, .int z13488), (10, .int r13479), (9, .int x9_lp13450), (8, .int 2), (6, .int z13039), (5, .int z13036), (0, .ref (g 0)), (1, .int p0), (2, .int p1), (3, .int p2), (4, .int p3)]) hx hb dX12_lacksOf_203 hl (by decide) rfl (fun ls hl => ?_)
                      obtain ⟨z13491, e13492⟩ : ∃ y : Int32, y = x9_lp13450 + 1 := ⟨_, rfl⟩
                      try (have t13493 := tadd e13492 rfl (b := 1) (by decide) (by omega))
                      refine lv_iinc (v := z13491) (lv' := [(9, .int z13491), (7, .int z13488), (10, .int r13479), (8, .int 2), (6, .int z13039), (5, .int z13036), (0, .ref (g 0)), (1, .int p0), (2, .int p1), (3, .int p2), (4, .int p3)]) hx hb dX12_lacksOf_205 hl (k := 2) rfl (by rw [e13492]; rfl) (by decide) rfl (fun ls hl => ?_)
                      refine lv_goto (tgt := 112) hx hb dX12_lacksOf_208 (by decide) ?_
                      exact ih_lp13450 z13491 z13488 v13480 F13481 _ _ _ (by omega) (by omega) (frC (by decide) hf13482 hf_lp13450) hI hF hP hS (lv_sub hl [0, 3, 1, 4, 5, 6, 7, 8, 9, 10] rfl)
                    · skip
                      have t13494 := cv_nle (a := z13484.toInt) rfl (b := r13479.toInt) rfl c13486
                      refine lv_aload_n hx hb dX12_lacksOf_188 rfl (lv_at hl 6 rfl) ?_
                      refine va_get (D := (dC, dI)) (ci := 12) (v := .ref (g 40)) (C := RX12) (T := TX12) (N := 63) hx hb hwd inA_X12 hown hK hP 0 rfl rfl 54 (by decide) (hwd _ wk_222) (fun _ h9 => h9) rfl dX12_lacksOf_189 ?_
                      refine lv_iload hx hb dX12_lacksOf_192 (lv_at hl 5 rfl) ?_
                      refine va_iald hx hb hK hP 40 39 rfl rfl (i := z13036) (vin (a := z13036.toInt) rfl (by omega)) dX12_lacksOf_194 ?_
                      refine lv_topi (fun z13495 e13496 => ?_)
                      have e13496 : z13495 = F 40 (z13036 : Int32).toNatClampNeg := e13496.trans (congrFun (hF 40 (by decide)) _)
                      refine lv_iload hx hb dX12_lacksOf_195 (lv_at hl 0 rfl) ?_
                      refine lv_isub hx hb dX12_lacksOf_197 ?_
                      refine lv_topi (fun z13497 e13498 => ?_)
                      try (have t13499 := tsub e13498 (a := z13495.toInt) rfl (b := r13479.toInt) rfl (by omega))
                      refine lv_goto (tgt := 202) hx hb dX12_lacksOf_198 (by decide) ?_
                      refine lv_iadd hx hb dX12_lacksOf_202 ?_
                      refine lv_topi (fun z13500 e13501 => ?_)
                      try (have t13502 := tadd e13501 (a := x7_lp13450.toInt) rfl (b := z13497.toInt) rfl (by omega))
                      refine lv_istore (lv' := [(7, .int z13500), (10, .int r13479), (9, .int x9_lp13450), (8, .int 2), (6, .int z13039), (5, .int z13036), (0, .ref (g 0)), (1, .int p0), (2, .int p1), (3, .int p2), (4, .int p3)]) hx hb dX12_lacksOf_203 hl (by decide) rfl (fun ls hl => ?_)
                      obtain ⟨z13503, e13504⟩ : ∃ y : Int32, y = x9_lp13450 + 1 := ⟨_, rfl⟩
                      try (have t13505 := tadd e13504 rfl (b := 1) (by decide) (by omega))
                      refine lv_iinc (v := z13503) (lv' := [(9, .int z13503), (7, .int z13500), (10, .int r13479), (8, .int 2), (6, .int z13039), (5, .int z13036), (0, .ref (g 0)), (1, .int p0), (2, .int p1), (3, .int p2), (4, .int p3)]) hx hb dX12_lacksOf_205 hl (k := 2) rfl (by rw [e13504]; rfl) (by decide) rfl (fun ls hl => ?_)
                      refine lv_goto (tgt := 112) hx hb dX12_lacksOf_208 (by decide) ?_
                      exact ih_lp13450 z13503 z13500 v13480 F13481 _ _ _ (by omega) (by omega) (frC (by decide) hf13482 hf_lp13450) hI hF hP hS (lv_sub hl [0, 3, 1, 4, 5, 6, 7, 8, 9, 10] rfl)
                  · skip
                    have t13506 := cv_eq (a := r13475.toInt) rfl (b := 0) (by decide) c13477
                    refine lv_goto (tgt := 205) hx hb dX12_lacksOf_159 (by decide) ?_
                    obtain ⟨z13507, e13508⟩ : ∃ y : Int32, y = x9_lp13450 + 1 := ⟨_, rfl⟩
                    try (have t13509 := tadd e13508 rfl (b := 1) (by decide) (by omega))
                    refine lv_iinc (v := z13507) (lv' := [(9, .int z13507), (8, .int 2), (7, .int x7_lp13450), (6, .int z13039), (5, .int z13036), (0, .ref (g 0)), (1, .int p0), (2, .int p1), (3, .int p2), (4, .int p3)]) hx hb dX12_lacksOf_205 hl (k := 0) rfl (by rw [e13508]; rfl) (by decide) rfl (fun ls hl => ?_)
                    refine lv_goto (tgt := 112) hx hb dX12_lacksOf_208 (by decide) ?_
                    exact ih_lp13450 z13507 x7_lp13450 v_lp13450 F_lp13450 _ _ _ (by omega) (by omega) hf_lp13450 hI hF hP hS (lv_sub hl [0, 1, 2, 3, 4, 5, 6, 7, 8, 9] rfl)
        obtain ⟨n9, hn9⟩ : ∃ n : Nat, 2147483648 - 0 ≤ (n : Int) := ⟨((2147483648 - 0 : Int)).toNat, by omega⟩
        exact lp13450 n9 0 0 v F H _ ls (by have : (0 : Int32).toInt = 0 := (by decide); have : (0 : Int32).toInt = 0 := (by decide); omega) (by have : (0 : Int32).toInt = 0 := (by decide); have : (0 : Int32).toInt = 0 := (by decide); omega) (fun _ _ => rfl) hI hF hP hS hl
      · skip
        have t13510 := cv_eq (a := z13039.toInt) rfl (b := 108) (by decide) c13448
        refine lv_iconst (v := 1) hx hb dX12_lacksOf_102 (by decide) ?_
        refine lv_goto (tgt := 107) hx hb dX12_lacksOf_103 (by decide) ?_
        refine lv_istore (lv' := [(8, .int 1), (7, .int 0), (6, .int z13039), (5, .int z13036), (0, .ref (g 0)), (1, .int p0), (2, .int p1), (3, .int p2), (4, .int p3)]) hx hb dX12_lacksOf_107 hl (by decide) rfl (fun ls hl => ?_)
        refine lv_iconst (v := 0) hx hb dX12_lacksOf_109 (by decide) ?_
        refine lv_istore (lv' := [(9, .int 0), (8, .int 1), (7, .int 0), (6, .int z13039), (5, .int z13036), (0, .ref (g 0)), (1, .int p0), (2, .int p1), (3, .int p2), (4, .int p3)]) hx hb dX12_lacksOf_110 hl (by decide) rfl (fun ls hl => ?_)
        have lp13511 : ∀ (n : Nat) (x9_lp13511 : Int32) (x7_lp13511 : Int32) (v_lp13511 : Nat → Int32) (F_lp13511 : Nat → Nat → Int32) (H : Heap) (locs : List Loc) (ls : Array Slot), (0 ≤ x9_lp13511.toInt) → (2147483648 - x9_lp13511.toInt ≤ (n : Int)) → (∀ k, k ∉ ([] : List Nat) → v_lp13511 k = v k) → IM v_lp13511 F_lp13511 → (∀ k, k ∉ ([30, 31] : List Nat) → F_lp13511 k = F k) → va_P (dC, dI) classes (wM g c v_lp13511 F_lp13511 rc) H → va_S (AM g s.heap.size) s.heap H locs → lv_has ls 11 [(9, .int x9_lp13511), (8, .int 1), (7, .int x7_lp13511), (6, .int z13039), (5, .int z13036), (0, .ref (g 0)), (1, .int p0), (2, .int p1), (3, .int p2), (4, .int p3)] → W p l e (headSpec (Cond.code yX12_lacksOf cX12_lacksOf 11 (some .int) :: wA) ({ frames := 5, cells := 0, slots := 0, locals := 200 })).room s m ([.ref (g 0), .int p0, .int p1, .int p2, .int p3] : List Value).toArray below meth c0 H locs 0 0 (MQ below (va_Qi (fun (r : Int32) (u : StM) => IM u.1 u.2.1 ∧ u.2.2 = rc ∧ (∀ k, k ∉ ([] : List Nat) → u.1 k = v k) ∧ (∀ k, k ∉ ([30, 31] : List Nat) → u.2.1 k = F k) ∧ True) (BM dC dI g c) (AM g s.heap.size)) ([.ref (g 0), .int p0, .int p1, .int p2, .int p3] : List Value).toArray s 0 0 (AM g s.heap.size)) (F0 m 112 ls []) := by
          intro n
          induction n with
          | zero =>
            intro x9_lp13511 x7_lp13511 v_lp13511 F_lp13511 H locs ls t13512 hm hf_lp13511 hI hF hP hS hl
            exfalso
            have := i32_rng x9_lp13511
            have := i32_rng x7_lp13511
            have hI1 := hI.1
            omega
          | succ n ih_lp13511 =>
            intro x9_lp13511 x7_lp13511 v_lp13511 F_lp13511 H locs ls t13512 hm hf_lp13511 hI hF hP hS hl
            have rx9_lp13511 := i32_rng x9_lp13511
            have rx7_lp13511 := i32_rng x7_lp13511
            refine lv_iload hx hb dX12_lacksOf_112 (lv_at hl 0 rfl) ?_
            refine lv_aload_n hx hb dX12_lacksOf_114 rfl (lv_at hl 5 rfl) ?_
            refine va_get (D := (dC, dI)) (ci := 12) (v := .int (v_lp13511 14)) (C := RX12) (T := TX12) (N := 63) hx hb hwd inA_X12 hown hK hP 0 rfl rfl 14 (by decide) (hwd _ wk_318) (fun _ h9 => h9) rfl dX12_lacksOf_115 ?_
            refine my_top (v := v 14) (hf_lp13511 14 (by decide)) ?_
            have t13513 : 0 ≤ (v 14).toInt ∧ (v 14).toInt ≤ 100 := by have h9 := hI.1 14 _ _ rfl; rw [show v_lp13511 14 = v 14 from hf_lp13511 14 (by decide)] at h9; exact h9
            refine lv_icmp_ge (tgt := 211) hx hb dX12_lacksOf_118 (by decide) (fun c13514 => ?_) (fun c13514 => ?_)
            · skip
              have t13515 := cv_le (a := (v 14).toInt) rfl (b := x9_lp13511.toInt) rfl c13514
              refine lv_iload hx hb dX12_lacksOf_211 (lv_at hl 2 rfl) ?_
              have hP9 : va_P (dC, dI) classes (wM g c v_lp13511 F_lp13511 rc) H := hP
              exact W.iret (v := x7_lp13511) hx hb hr (fun t ht hW => ⟨⟨x7_lp13511, (v_lp13511, F_lp13511, rc), rfl, ⟨hI, rfl, (frC (by decide) hf_lp13511 (fun _ _ => rfl)), hF, trivial⟩, (by show va_P _ _ _ t.heap; rw [ht]; exact hP9)⟩, hS.F ht⟩) hS.2.2 dX12_lacksOf_213
            · skip
              have t13516 := cv_nle (a := (v 14).toInt) rfl (b := x9_lp13511.toInt) rfl c13514
              refine lv_aload_n hx hb dX12_lacksOf_121 rfl (lv_at hl 5 rfl) ?_
              refine va_get (D := (dC, dI)) (ci := 12) (v := .ref (g 42)) (C := RX12) (T := TX12) (N := 63) hx hb hwd inA_X12 hown hK hP 0 rfl rfl 56 (by decide) (hwd _ wk_224) (fun _ h9 => h9) rfl dX12_lacksOf_122 ?_
              refine lv_iload hx hb dX12_lacksOf_125 (lv_at hl 0 rfl) ?_
              refine va_zald hx hb hK hP 42 41 rfl rfl (i := x9_lp13511) (vin (a := x9_lp13511.toInt) rfl (by omega)) dX12_lacksOf_127 ?_
              refine lv_topi (fun z13517 e13518 => ?_)
              have e13518 : z13517 = F 42 (x9_lp13511 : Int32).toNatClampNeg := e13518.trans (congrFun (hF 42 (by decide)) _)
              refine lv_if_eq (tgt := 205) hx hb dX12_lacksOf_128 (by decide) (fun c13519 => ?_) (fun c13519 => ?_)
              · skip
                have t13520 := cv_eq (a := z13517.toInt) rfl (b := 0) (by decide) c13519
                obtain ⟨z13521, e13522⟩ : ∃ y : Int32, y = x9_lp13511 + 1 := ⟨_, rfl⟩
                try (have t13523 := tadd e13522 rfl (b := 1) (by decide) (by omega))
                refine lv_iinc (v := z13521) (lv' := [(9, .int z13521), (8, .int 1), (7, .int x7_lp13511), (6, .int z13039), (5, .int z13036), (0, .ref (g 0)), (1, .int p0), (2, .int p1), (3, .int p2), (4, .int p3)]) hx hb dX12_lacksOf_205 hl (k := 0) rfl (by rw [e13522]; rfl) (by decide) rfl (fun ls hl => ?_)
                refine lv_goto (tgt := 112) hx hb dX12_lacksOf_208 (by decide) ?_
                exact ih_lp13511 z13521 x7_lp13511 v_lp13511 F_lp13511 _ _ _ (by omega) (by omega) hf_lp13511 hI hF hP hS (lv_sub hl [0, 1, 2, 3, 4, 5, 6, 7, 8, 9] rfl)
              · skip
                have t13524 := cv_ne (a := z13517.toInt) rfl (b := 0) (by decide) c13519
                refine lv_aload_n hx hb dX12_lacksOf_131 rfl (lv_at hl 5 rfl) ?_
                refine va_get (D := (dC, dI)) (ci := 12) (v := .ref (g 11)) (C := RX12) (T := TX12) (N := 63) hx hb hwd inA_X12 hown hK hP 0 rfl rfl 15 (by decide) (hwd _ wk_192) (fun _ h9 => h9) rfl dX12_lacksOf_132 ?_
                refine lv_iload hx hb dX12_lacksOf_135 (lv_at hl 0 rfl) ?_
                refine va_iald hx hb hK hP 11 10 rfl rfl (i := x9_lp13511) (vin (a := x9_lp13511.toInt) rfl (by omega)) dX12_lacksOf_137 ?_
                refine lv_topi (fun z13525 e13526 => ?_)
                have t13527 : 0 ≤ z13525.toInt ∧ z13525.toInt ≤ 9 := by rw [e13526]; exact hI.2 11 _ _ rfl _
                have e13526 : z13525 = F 11 (x9_lp13511 : Int32).toNatClampNeg := e13526.trans (congrFun (hF 11 (by decide)) _)
                refine lv_aload_n hx hb dX12_lacksOf_138 rfl (lv_at hl 5 rfl) ?_
                refine va_get (D := (dC, dI)) (ci := 12) (v := .ref (g 39)) (C := RX12) (T := TX12) (N := 63) hx hb hwd inA_X12 hown hK hP 0 rfl rfl 53 (by decide) (hwd _ wk_221) (fun _ h9 => h9) rfl dX12_lacksOf_139 ?_
                refine lv_iload hx hb dX12_lacksOf_142 (lv_at hl 4 rfl) ?_
                refine va_iald hx hb hK hP 39 38 rfl rfl (i := z13036) (vin (a := z13036.toInt) rfl (by omega)) dX12_lacksOf_144 ?_
                refine lv_topi (fun z13528 e13529 => ?_)
                have e13529 : z13528 = F 39 (z13036 : Int32).toNatClampNeg := e13529.trans (congrFun (hF 39 (by decide)) _)
                refine lv_icmp_ne (tgt := 205) hx hb dX12_lacksOf_145 (by decide) (fun c13530 => ?_) (fun c13530 => ?_)
                · skip
                  have t13531 := cv_ne (a := z13525.toInt) rfl (b := z13528.toInt) rfl c13530
                  obtain ⟨z13532, e13533⟩ : ∃ y : Int32, y = x9_lp13511 + 1 := ⟨_, rfl⟩
                  try (have t13534 := tadd e13533 rfl (b := 1) (by decide) (by omega))
                  refine lv_iinc (v := z13532) (lv' := [(9, .int z13532), (8, .int 1), (7, .int x7_lp13511), (6, .int z13039), (5, .int z13036), (0, .ref (g 0)), (1, .int p0), (2, .int p1), (3, .int p2), (4, .int p3)]) hx hb dX12_lacksOf_205 hl (k := 0) rfl (by rw [e13533]; rfl) (by decide) rfl (fun ls hl => ?_)
                  refine lv_goto (tgt := 112) hx hb dX12_lacksOf_208 (by decide) ?_
                  exact ih_lp13511 z13532 x7_lp13511 v_lp13511 F_lp13511 _ _ _ (by omega) (by omega) hf_lp13511 hI hF hP hS (lv_sub hl [0, 1, 2, 3, 4, 5, 6, 7, 8, 9] rfl)
                · skip
                  have t13535 := cv_eq (a := z13525.toInt) rfl (b := z13528.toInt) rfl c13530
                  refine lv_aload_n hx hb dX12_lacksOf_148 rfl (lv_at hl 5 rfl) ?_
                  refine lv_iload hx hb dX12_lacksOf_149 (lv_at hl 0 rfl) ?_
                  refine lv_iload hx hb dX12_lacksOf_151 (lv_at hl 1 rfl) ?_
                  have hby1 : F_lp13511 1 = F 1 := hF 1 (by decide)
                  have hby11 : F_lp13511 11 = F 11 := hF 11 (by decide)
                  refine va_calli (va_runV (As := [.int x9_lp13511, .int 1]) (rest := []) ⟨hx, hb, hml, hown, hwd⟩ (c_X12_limitOf l dC dI g c adK adV v_lp13511 F_lp13511 rc H.size x9_lp13511 1 hg hI (by omega) (by have : (1 : Int32).toInt = 1 := (by decide); omega)) (cwV 2 hwd (gV wk_489 wk_486 wk_487 wk_488 wk_5) rfl rfl rfl (by decide +kernel) ⟨Nat.le_of_ble_eq_true rfl, Nat.le_of_ble_eq_true rfl⟩) ⟨PM.blind, va_recv hK hP (ci := 12) (q0 := 0) rfl rfl, fun U hU hW => ⟨rfl, PM.at hK hE hP hS hU hW⟩⟩ rfl rfl hl.1 rfl (lv_room (Nat.le_of_ble_eq_true rfl)) dX12_lacksOf_153 ⟨Nat.le_of_ble_eq_true rfl, Nat.le_of_ble_eq_true rfl⟩) hS (fun q _ h => (freeM hS) q h) (freeM hS) (fun r13536 u t H1 locs ht hvm hw hB hz1 hk1 hS => ?_)
                  unfold BM at hB
                  rw [ht] at hB
                  have hP : va_P (dC, dI) classes (wM g c v_lp13511 F_lp13511 rc) H1 := hB
                  replace hw : r13536.toInt = (F_lp13511 1 (limJ (F_lp13511 11) x9_lp13511 (1 : Int32))).toInt := hw
                  rw [hby1] at hw
                  rw [hby11] at hw
                  have hw_r13536 := hw
                  clear hw
                  have k13537 : (1 : Int32).toInt = 1 := by decide
                  clear hz1
                  generalize H1 = H at hP hS ⊢
                  refine lv_if_ne (tgt := 162) hx hb dX12_lacksOf_156 (by decide) (fun c13538 => ?_) (fun c13538 => ?_)
                  · skip
                    have t13539 := cv_ne (a := r13536.toInt) rfl (b := 0) (by decide) c13538
                    refine lv_aload_n hx hb dX12_lacksOf_162 rfl (lv_at hl 5 rfl) ?_
                    refine lv_iload hx hb dX12_lacksOf_163 (lv_at hl 0 rfl) ?_
                    refine lv_iload hx hb dX12_lacksOf_165 (lv_at hl 1 rfl) ?_
                    refine lv_iload hx hb dX12_lacksOf_167 (lv_at hl 9 rfl) ?_
                    refine va_calli (va_runV (As := [.int x9_lp13511, .int 1, .int p3]) (rest := []) ⟨hx, hb, hml, hown, hwd⟩ (c_X12_leftOf l dC dI g c adK adV v_lp13511 F_lp13511 rc H.size x9_lp13511 1 p3 hg hI (by omega) (by have : (1 : Int32).toInt = 1 := (by decide); omega) (JL.to hL (show v_lp13511 31 = v 31 from hf_lp13511 31 (by decide)) (hF 28 (by decide)) (hF 29 (by decide)) (hF 27 (by decide)))) (cwV 3 hwd (gV wk_493 wk_490 wk_491 wk_492 wk_5) rfl rfl rfl (by decide +kernel) ⟨Nat.le_of_ble_eq_true rfl, Nat.le_of_ble_eq_true rfl⟩) ⟨PM.blind, va_recv hK hP (ci := 12) (q0 := 0) rfl rfl, fun U hU hW => ⟨rfl, PM.at hK hE hP hS hU hW⟩⟩ rfl rfl hl.1 rfl (lv_room (Nat.le_of_ble_eq_true rfl)) dX12_lacksOf_169 ⟨Nat.le_of_ble_eq_true rfl, Nat.le_of_ble_eq_true rfl⟩) hS (fun q _ h => (freeM hS) q h) (freeM hS) (fun r13540 u t H1 locs ht hvm hw hB hz1 hk1 hS => ?_)
                    unfold BM at hB
                    rw [ht] at hB
                    obtain ⟨v13541, F13542, rc9⟩ := u
                    obtain ⟨hI, hrc, hf13543, hG13544, hw⟩ := hw
                    dsimp only at hI hrc hB hf13543 hG13544 hw
                    have hF := frCF (by decide) hG13544 hF
                    rw [hrc] at hB
                    have hP : va_P (dC, dI) classes (wM g c v13541 F13542 rc) H1 := hB
                    clear hz1
                    generalize H1 = H at hP hS ⊢
                    have rr_r13540 := i32_rng r13540
                    refine lv_istore (lv' := [(10, .int r13540), (9, .int x9_lp13511), (8, .int 1), (7, .int x7_lp13511), (6, .int z13039), (5, .int z13036), (0, .ref (g 0)), (1, .int p0), (2, .int p1), (3, .int p2), (4, .int p3)]) hx hb dX12_lacksOf_172 hl (by decide) rfl (fun ls hl => ?_)
                    refine lv_iload hx hb dX12_lacksOf_174 (lv_at hl 3 rfl) ?_
                    refine lv_iload hx hb dX12_lacksOf_176 (lv_at hl 0 rfl) ?_
                    refine lv_aload_n hx hb dX12_lacksOf_178 rfl (lv_at hl 6 rfl) ?_
                    refine va_get (D := (dC, dI)) (ci := 12) (v := .ref (g 40)) (C := RX12) (T := TX12) (N := 63) hx hb hwd inA_X12 hown hK hP 0 rfl rfl 54 (by decide) (hwd _ wk_222) (fun _ h9 => h9) rfl dX12_lacksOf_179 ?_
                    refine lv_iload hx hb dX12_lacksOf_182 (lv_at hl 5 rfl) ?_
                    refine va_iald hx hb hK hP 40 39 rfl rfl (i := z13036) (vin (a := z13036.toInt) rfl (by omega)) dX12_lacksOf_184 ?_
                    refine lv_topi (fun z13545 e13546 => ?_)
                    have e13546 : z13545 = F 40 (z13036 : Int32).toNatClampNeg := e13546.trans (congrFun (hF 40 (by decide)) _)
                    refine lv_icmp_ge (tgt := 201) hx hb dX12_lacksOf_185 (by decide) (fun c13547 => ?_) (fun c13547 => ?_)
                    · skip
                      have t13548 := cv_le (a := z13545.toInt) rfl (b := r13540.toInt) rfl c13547
                      refine lv_iconst (v := 0) hx hb dX12_lacksOf_201 (by decide) ?_
                      refine lv_iadd hx hb dX12_lacksOf_202 ?_
                      refine lv_topi (fun z13549 e13550 => ?_)
                      try (have t13551 := tadd e13550 (a := x7_lp13511.toInt) rfl (b := 0) (by decide) (by omega))
                      refine lv_istore (lv' := [(7, .int z13549), (10, .int r13540), (9, .int x9_lp13511), (8, .int 1), (6, .int z13039), (5, .int z13036), (0, .ref (g 0)), (1, .int p0), (2, .int p1), (3, .int p2), (4, .int p3)]) hx hb dX12_lacksOf_203 hl (by decide) rfl (fun ls hl => ?_)
                      obtain ⟨z13552, e13553⟩ : ∃ y : Int32, y = x9_lp13511 + 1 := ⟨_, rfl⟩
                      try (have t13554 := tadd e13553 rfl (b := 1) (by decide) (by omega))
                      refine lv_iinc (v := z13552) (lv' := [(9, .int z13552), (7, .int z13549), (10, .int r13540), (8, .int 1), (6, .int z13039), (5, .int z13036), (0, .ref (g 0)), (1, .int p0), (2, .int p1), (3, .int p2), (4, .int p3)]) hx hb dX12_lacksOf_205 hl (k := 2) rfl (by rw [e13553]; rfl) (by decide) rfl (fun ls hl => ?_)
                      refine lv_goto (tgt := 112) hx hb dX12_lacksOf_208 (by decide) ?_
                      exact ih_lp13511 z13552 z13549 v13541 F13542 _ _ _ (by omega) (by omega) (frC (by decide) hf13543 hf_lp13511) hI hF hP hS (lv_sub hl [0, 3, 1, 4, 5, 6, 7, 8, 9, 10] rfl)
                    · skip
                      have t13555 := cv_nle (a := z13545.toInt) rfl (b := r13540.toInt) rfl c13547
                      refine lv_aload_n hx hb dX12_lacksOf_188 rfl (lv_at hl 6 rfl) ?_
                      refine va_get (D := (dC, dI)) (ci := 12) (v := .ref (g 40)) (C := RX12) (T := TX12) (N := 63) hx hb hwd inA_X12 hown hK hP 0 rfl rfl 54 (by decide) (hwd _ wk_222) (fun _ h9 => h9) rfl dX12_lacksOf_189 ?_
                      refine lv_iload hx hb dX12_lacksOf_192 (lv_at hl 5 rfl) ?_
                      refine va_iald hx hb hK hP 40 39 rfl rfl (i := z13036) (vin (a := z13036.toInt) rfl (by omega)) dX12_lacksOf_194 ?_
                      refine lv_topi (fun z13556 e13557 => ?_)
                      have e13557 : z13556 = F 40 (z13036 : Int32).toNatClampNeg := e13557.trans (congrFun (hF 40 (by decide)) _)
                      refine lv_iload hx hb dX12_lacksOf_195 (lv_at hl 0 rfl) ?_
                      refine lv_isub hx hb dX12_lacksOf_197 ?_
                      refine lv_topi (fun z13558 e13559 => ?_)
                      try (have t13560 := tsub e13559 (a := z13556.toInt) rfl (b := r13540.toInt) rfl (by omega))
                      refine lv_goto (tgt := 202) hx hb dX12_lacksOf_198 (by decide) ?_
                      refine lv_iadd hx hb dX12_lacksOf_202 ?_
                      refine lv_topi (fun z13561 e13562 => ?_)
                      try (have t13563 := tadd e13562 (a := x7_lp13511.toInt) rfl (b := z13558.toInt) rfl (by omega))
                      refine lv_istore (lv' := [(7, .int z13561), (10, .int r13540), (9, .int x9_lp13511), (8, .int 1), (6, .int z13039), (5, .int z13036), (0, .ref (g 0)), (1, .int p0), (2, .int p1), (3, .int p2), (4, .int p3)]) hx hb dX12_lacksOf_203 hl (by decide) rfl (fun ls hl => ?_)
                      obtain ⟨z13564, e13565⟩ : ∃ y : Int32, y = x9_lp13511 + 1 := ⟨_, rfl⟩
                      try (have t13566 := tadd e13565 rfl (b := 1) (by decide) (by omega))
                      refine lv_iinc (v := z13564) (lv' := [(9, .int z13564), (7, .int z13561), (10, .int r13540), (8, .int 1), (6, .int z13039), (5, .int z13036), (0, .ref (g 0)), (1, .int p0), (2, .int p1), (3, .int p2), (4, .int p3)]) hx hb dX12_lacksOf_205 hl (k := 2) rfl (by rw [e13565]; rfl) (by decide) rfl (fun ls hl => ?_)
                      refine lv_goto (tgt := 112) hx hb dX12_lacksOf_208 (by decide) ?_
                      exact ih_lp13511 z13564 z13561 v13541 F13542 _ _ _ (by omega) (by omega) (frC (by decide) hf13543 hf_lp13511) hI hF hP hS (lv_sub hl [0, 3, 1, 4, 5, 6, 7, 8, 9, 10] rfl)
                  · skip
                    have t13567 := cv_eq (a := r13536.toInt) rfl (b := 0) (by decide) c13538
                    refine lv_goto (tgt := 205) hx hb dX12_lacksOf_159 (by decide) ?_
                    obtain ⟨z13568, e13569⟩ : ∃ y : Int32, y = x9_lp13511 + 1 := ⟨_, rfl⟩
                    try (have t13570 := tadd e13569 rfl (b := 1) (by decide) (by omega))
                    refine lv_iinc (v := z13568) (lv' := [(9, .int z13568), (8, .int 1), (7, .int x7_lp13511), (6, .int z13039), (5, .int z13036), (0, .ref (g 0)), (1, .int p0), (2, .int p1), (3, .int p2), (4, .int p3)]) hx hb dX12_lacksOf_205 hl (k := 0) rfl (by rw [e13569]; rfl) (by decide) rfl (fun ls hl => ?_)
                    refine lv_goto (tgt := 112) hx hb dX12_lacksOf_208 (by decide) ?_
                    exact ih_lp13511 z13568 x7_lp13511 v_lp13511 F_lp13511 _ _ _ (by omega) (by omega) hf_lp13511 hI hF hP hS (lv_sub hl [0, 1, 2, 3, 4, 5, 6, 7, 8, 9] rfl)
        obtain ⟨n9, hn9⟩ : ∃ n : Nat, 2147483648 - 0 ≤ (n : Int) := ⟨((2147483648 - 0 : Int)).toNat, by omega⟩
        exact lp13511 n9 0 0 v F H _ ls (by have : (0 : Int32).toInt = 0 := (by decide); have : (0 : Int32).toInt = 0 := (by decide); omega) (by have : (0 : Int32).toInt = 0 := (by decide); have : (0 : Int32).toInt = 0 := (by decide); omega) (fun _ _ => rfl) hI hF hP hS hl
    · skip
      have t13571 := cv_eq (a := z13039.toInt) rfl (b := 104) (by decide) c13446
      refine lv_iconst (v := 0) hx hb dX12_lacksOf_91 (by decide) ?_
      refine lv_goto (tgt := 107) hx hb dX12_lacksOf_92 (by decide) ?_
      refine lv_istore (lv' := [(8, .int 0), (7, .int 0), (6, .int z13039), (5, .int z13036), (0, .ref (g 0)), (1, .int p0), (2, .int p1), (3, .int p2), (4, .int p3)]) hx hb dX12_lacksOf_107 hl (by decide) rfl (fun ls hl => ?_)
      refine lv_iconst (v := 0) hx hb dX12_lacksOf_109 (by decide) ?_
      refine lv_istore (lv' := [(9, .int 0), (8, .int 0), (7, .int 0), (6, .int z13039), (5, .int z13036), (0, .ref (g 0)), (1, .int p0), (2, .int p1), (3, .int p2), (4, .int p3)]) hx hb dX12_lacksOf_110 hl (by decide) rfl (fun ls hl => ?_)
      have lp13572 : ∀ (n : Nat) (x9_lp13572 : Int32) (x7_lp13572 : Int32) (v_lp13572 : Nat → Int32) (F_lp13572 : Nat → Nat → Int32) (H : Heap) (locs : List Loc) (ls : Array Slot), (0 ≤ x9_lp13572.toInt) → (2147483648 - x9_lp13572.toInt ≤ (n : Int)) → (∀ k, k ∉ ([] : List Nat) → v_lp13572 k = v k) → IM v_lp13572 F_lp13572 → (∀ k, k ∉ ([30, 31] : List Nat) → F_lp13572 k = F k) → va_P (dC, dI) classes (wM g c v_lp13572 F_lp13572 rc) H → va_S (AM g s.heap.size) s.heap H locs → lv_has ls 11 [(9, .int x9_lp13572), (8, .int 0), (7, .int x7_lp13572), (6, .int z13039), (5, .int z13036), (0, .ref (g 0)), (1, .int p0), (2, .int p1), (3, .int p2), (4, .int p3)] → W p l e (headSpec (Cond.code yX12_lacksOf cX12_lacksOf 11 (some .int) :: wA) ({ frames := 5, cells := 0, slots := 0, locals := 200 })).room s m ([.ref (g 0), .int p0, .int p1, .int p2, .int p3] : List Value).toArray below meth c0 H locs 0 0 (MQ below (va_Qi (fun (r : Int32) (u : StM) => IM u.1 u.2.1 ∧ u.2.2 = rc ∧ (∀ k, k ∉ ([] : List Nat) → u.1 k = v k) ∧ (∀ k, k ∉ ([30, 31] : List Nat) → u.2.1 k = F k) ∧ True) (BM dC dI g c) (AM g s.heap.size)) ([.ref (g 0), .int p0, .int p1, .int p2, .int p3] : List Value).toArray s 0 0 (AM g s.heap.size)) (F0 m 112 ls []) := by
        intro n
        induction n with
        | zero =>
          intro x9_lp13572 x7_lp13572 v_lp13572 F_lp13572 H locs ls t13573 hm hf_lp13572 hI hF hP hS hl
          exfalso
          have := i32_rng x9_lp13572
          have := i32_rng x7_lp13572
          have hI1 := hI.1
          omega
        | succ n ih_lp13572 =>
          intro x9_lp13572 x7_lp13572 v_lp13572 F_lp13572 H locs ls t13573 hm hf_lp13572 hI hF hP hS hl
          have rx9_lp13572 := i32_rng x9_lp13572
          have rx7_lp13572 := i32_rng x7_lp13572
          refine lv_iload hx hb dX12_lacksOf_112 (lv_at hl 0 rfl) ?_
          refine lv_aload_n hx hb dX12_lacksOf_114 rfl (lv_at hl 5 rfl) ?_
          refine va_get (D := (dC, dI)) (ci := 12) (v := .int (v_lp13572 14)) (C := RX12) (T := TX12) (N := 63) hx hb hwd inA_X12 hown hK hP 0 rfl rfl 14 (by decide) (hwd _ wk_318) (fun _ h9 => h9) rfl dX12_lacksOf_115 ?_
          refine my_top (v := v 14) (hf_lp13572 14 (by decide)) ?_
          have t13574 : 0 ≤ (v 14).toInt ∧ (v 14).toInt ≤ 100 := by have h9 := hI.1 14 _ _ rfl; rw [show v_lp13572 14 = v 14 from hf_lp13572 14 (by decide)] at h9; exact h9
          refine lv_icmp_ge (tgt := 211) hx hb dX12_lacksOf_118 (by decide) (fun c13575 => ?_) (fun c13575 => ?_)
          · skip
            have t13576 := cv_le (a := (v 14).toInt) rfl (b := x9_lp13572.toInt) rfl c13575
            refine lv_iload hx hb dX12_lacksOf_211 (lv_at hl 2 rfl) ?_
            have hP9 : va_P (dC, dI) classes (wM g c v_lp13572 F_lp13572 rc) H := hP
            exact W.iret (v := x7_lp13572) hx hb hr (fun t ht hW => ⟨⟨x7_lp13572, (v_lp13572, F_lp13572, rc), rfl, ⟨hI, rfl, (frC (by decide) hf_lp13572 (fun _ _ => rfl)), hF, trivial⟩, (by show va_P _ _ _ t.heap; rw [ht]; exact hP9)⟩, hS.F ht⟩) hS.2.2 dX12_lacksOf_213
          · skip
            have t13577 := cv_nle (a := (v 14).toInt) rfl (b := x9_lp13572.toInt) rfl c13575
            refine lv_aload_n hx hb dX12_lacksOf_121 rfl (lv_at hl 5 rfl) ?_
            refine va_get (D := (dC, dI)) (ci := 12) (v := .ref (g 42)) (C := RX12) (T := TX12) (N := 63) hx hb hwd inA_X12 hown hK hP 0 rfl rfl 56 (by decide) (hwd _ wk_224) (fun _ h9 => h9) rfl dX12_lacksOf_122 ?_
            refine lv_iload hx hb dX12_lacksOf_125 (lv_at hl 0 rfl) ?_
            refine va_zald hx hb hK hP 42 41 rfl rfl (i := x9_lp13572) (vin (a := x9_lp13572.toInt) rfl (by omega)) dX12_lacksOf_127 ?_
            refine lv_topi (fun z13578 e13579 => ?_)
            have e13579 : z13578 = F 42 (x9_lp13572 : Int32).toNatClampNeg := e13579.trans (congrFun (hF 42 (by decide)) _)
            refine lv_if_eq (tgt := 205) hx hb dX12_lacksOf_128 (by decide) (fun c13580 => ?_) (fun c13580 => ?_)
            · skip
              have t13581 := cv_eq (a := z13578.toInt) rfl (b := 0) (by decide) c13580
              obtain ⟨z13582, e13583⟩ : ∃ y : Int32, y = x9_lp13572 + 1 := ⟨_, rfl⟩
              try (have t13584 := tadd e13583 rfl (b := 1) (by decide) (by omega))
              refine lv_iinc (v := z13582) (lv' := [(9, .int z13582), (8, .int 0), (7, .int x7_lp13572), (6, .int z13039), (5, .int z13036), (0, .ref (g 0)), (1, .int p0), (2, .int p1), (3, .int p2), (4, .int p3)]) hx hb dX12_lacksOf_205 hl (k := 0) rfl (by rw [e13583]; rfl) (by decide) rfl (fun ls hl => ?_)
              refine lv_goto (tgt := 112) hx hb dX12_lacksOf_208 (by decide) ?_
              exact ih_lp13572 z13582 x7_lp13572 v_lp13572 F_lp13572 _ _ _ (by omega) (by omega) hf_lp13572 hI hF hP hS (lv_sub hl [0, 1, 2, 3, 4, 5, 6, 7, 8, 9] rfl)
            · skip
              have t13585 := cv_ne (a := z13578.toInt) rfl (b := 0) (by decide) c13580
              refine lv_aload_n hx hb dX12_lacksOf_131 rfl (lv_at hl 5 rfl) ?_
              refine va_get (D := (dC, dI)) (ci := 12) (v := .ref (g 11)) (C := RX12) (T := TX12) (N := 63) hx hb hwd inA_X12 hown hK hP 0 rfl rfl 15 (by decide) (hwd _ wk_192) (fun _ h9 => h9) rfl dX12_lacksOf_132 ?_
              refine lv_iload hx hb dX12_lacksOf_135 (lv_at hl 0 rfl) ?_
              refine va_iald hx hb hK hP 11 10 rfl rfl (i := x9_lp13572) (vin (a := x9_lp13572.toInt) rfl (by omega)) dX12_lacksOf_137 ?_
              refine lv_topi (fun z13586 e13587 => ?_)
              have t13588 : 0 ≤ z13586.toInt ∧ z13586.toInt ≤ 9 := by rw [e13587]; exact hI.2 11 _ _ rfl _
              have e13587 : z13586 = F 11 (x9_lp13572 : Int32).toNatClampNeg := e13587.trans (congrFun (hF 11 (by decide)) _)
              refine lv_aload_n hx hb dX12_lacksOf_138 rfl (lv_at hl 5 rfl) ?_
              refine va_get (D := (dC, dI)) (ci := 12) (v := .ref (g 39)) (C := RX12) (T := TX12) (N := 63) hx hb hwd inA_X12 hown hK hP 0 rfl rfl 53 (by decide) (hwd _ wk_221) (fun _ h9 => h9) rfl dX12_lacksOf_139 ?_
              refine lv_iload hx hb dX12_lacksOf_142 (lv_at hl 4 rfl) ?_
              refine va_iald hx hb hK hP 39 38 rfl rfl (i := z13036) (vin (a := z13036.toInt) rfl (by omega)) dX12_lacksOf_144 ?_
              refine lv_topi (fun z13589 e13590 => ?_)
              have e13590 : z13589 = F 39 (z13036 : Int32).toNatClampNeg := e13590.trans (congrFun (hF 39 (by decide)) _)
              refine lv_icmp_ne (tgt := 205) hx hb dX12_lacksOf_145 (by decide) (fun c13591 => ?_) (fun c13591 => ?_)
              · skip
                have t13592 := cv_ne (a := z13586.toInt) rfl (b := z13589.toInt) rfl c13591
                obtain ⟨z13593, e13594⟩ : ∃ y : Int32, y = x9_lp13572 + 1 := ⟨_, rfl⟩
                try (have t13595 := tadd e13594 rfl (b := 1) (by decide) (by omega))
                refine lv_iinc (v := z13593) (lv' := [(9, .int z13593), (8, .int 0), (7, .int x7_lp13572), (6, .int z13039), (5, .int z13036), (0, .ref (g 0)), (1, .int p0), (2, .int p1), (3, .int p2), (4, .int p3)]) hx hb dX12_lacksOf_205 hl (k := 0) rfl (by rw [e13594]; rfl) (by decide) rfl (fun ls hl => ?_)
                refine lv_goto (tgt := 112) hx hb dX12_lacksOf_208 (by decide) ?_
                exact ih_lp13572 z13593 x7_lp13572 v_lp13572 F_lp13572 _ _ _ (by omega) (by omega) hf_lp13572 hI hF hP hS (lv_sub hl [0, 1, 2, 3, 4, 5, 6, 7, 8, 9] rfl)
              · skip
                have t13596 := cv_eq (a := z13586.toInt) rfl (b := z13589.toInt) rfl c13591
                refine lv_aload_n hx hb dX12_lacksOf_148 rfl (lv_at hl 5 rfl) ?_
                refine lv_iload hx hb dX12_lacksOf_149 (lv_at hl 0 rfl) ?_
                refine lv_iload hx hb dX12_lacksOf_151 (lv_at hl 1 rfl) ?_
                have hby1 : F_lp13572 1 = F 1 := hF 1 (by decide)
                have hby11 : F_lp13572 11 = F 11 := hF 11 (by decide)
                refine va_calli (va_runV (As := [.int x9_lp13572, .int 0]) (rest := []) ⟨hx, hb, hml, hown, hwd⟩ (c_X12_limitOf l dC dI g c adK adV v_lp13572 F_lp13572 rc H.size x9_lp13572 0 hg hI (by omega) (by have : (0 : Int32).toInt = 0 := (by decide); omega)) (cwV 2 hwd (gV wk_489 wk_486 wk_487 wk_488 wk_5) rfl rfl rfl (by decide +kernel) ⟨Nat.le_of_ble_eq_true rfl, Nat.le_of_ble_eq_true rfl⟩) ⟨PM.blind, va_recv hK hP (ci := 12) (q0 := 0) rfl rfl, fun U hU hW => ⟨rfl, PM.at hK hE hP hS hU hW⟩⟩ rfl rfl hl.1 rfl (lv_room (Nat.le_of_ble_eq_true rfl)) dX12_lacksOf_153 ⟨Nat.le_of_ble_eq_true rfl, Nat.le_of_ble_eq_true rfl⟩) hS (fun q _ h => (freeM hS) q h) (freeM hS) (fun r13597 u t H1 locs ht hvm hw hB hz1 hk1 hS => ?_)
                unfold BM at hB
                rw [ht] at hB
                have hP : va_P (dC, dI) classes (wM g c v_lp13572 F_lp13572 rc) H1 := hB
                replace hw : r13597.toInt = (F_lp13572 1 (limJ (F_lp13572 11) x9_lp13572 (0 : Int32))).toInt := hw
                rw [hby1] at hw
                rw [hby11] at hw
                have hw_r13597 := hw
                clear hw
                have k13598 : (0 : Int32).toInt = 0 := by decide
                clear hz1
                generalize H1 = H at hP hS ⊢
                refine lv_if_ne (tgt := 162) hx hb dX12_lacksOf_156 (by decide) (fun c13599 => ?_) (fun c13599 => ?_)
                · skip
                  have t13600 := cv_ne (a := r13597.toInt) rfl (b := 0) (by decide) c13599
                  refine lv_aload_n hx hb dX12_lacksOf_162 rfl (lv_at hl 5 rfl) ?_
                  refine lv_iload hx hb dX12_lacksOf_163 (lv_at hl 0 rfl) ?_
                  refine lv_iload hx hb dX12_lacksOf_165 (lv_at hl 1 rfl) ?_
                  refine lv_iload hx hb dX12_lacksOf_167 (lv_at hl 9 rfl) ?_
                  refine va_calli (va_runV (As := [.int x9_lp13572, .int 0, .int p3]) (rest := []) ⟨hx, hb, hml, hown, hwd⟩ (c_X12_leftOf l dC dI g c adK adV v_lp13572 F_lp13572 rc H.size x9_lp13572 0 p3 hg hI (by omega) (by have : (0 : Int32).toInt = 0 := (by decide); omega) (JL.to hL (show v_lp13572 31 = v 31 from hf_lp13572 31 (by decide)) (hF 28 (by decide)) (hF 29 (by decide)) (hF 27 (by decide)))) (cwV 3 hwd (gV wk_493 wk_490 wk_491 wk_492 wk_5) rfl rfl rfl (by decide +kernel) ⟨Nat.le_of_ble_eq_true rfl, Nat.le_of_ble_eq_true rfl⟩) ⟨PM.blind, va_recv hK hP (ci := 12) (q0 := 0) rfl rfl, fun U hU hW => ⟨rfl, PM.at hK hE hP hS hU hW⟩⟩ rfl rfl hl.1 rfl (lv_room (Nat.le_of_ble_eq_true rfl)) dX12_lacksOf_169 ⟨Nat.le_of_ble_eq_true rfl, Nat.le_of_ble_eq_true rfl⟩) hS (fun q _ h => (freeM hS) q h) (freeM hS) (fun r13601 u t H1 locs ht hvm hw hB hz1 hk1 hS => ?_)
                  unfold BM at hB
                  rw [ht] at hB
                  obtain ⟨v13602, F13603, rc9⟩ := u
                  obtain ⟨hI, hrc, hf13604, hG13605, hw⟩ := hw
                  dsimp only at hI hrc hB hf13604 hG13605 hw
                  have hF := frCF (by decide) hG13605 hF
                  rw [hrc] at hB
                  have hP : va_P (dC, dI) classes (wM g c v13602 F13603 rc) H1 := hB
                  clear hz1
                  generalize H1 = H at hP hS ⊢
                  have rr_r13601 := i32_rng r13601
                  refine lv_istore (lv' := [(10, .int r13601), (9, .int x9_lp13572), (8, .int 0), (7, .int x7_lp13572), (6, .int z13039), (5, .int z13036), (0, .ref (g 0)), (1, .int p0), (2, .int p1), (3, .int p2), (4, .int p3)]) hx hb dX12_lacksOf_172 hl (by decide) rfl (fun ls hl => ?_)
                  refine lv_iload hx hb dX12_lacksOf_174 (lv_at hl 3 rfl) ?_
                  refine lv_iload hx hb dX12_lacksOf_176 (lv_at hl 0 rfl) ?_
                  refine lv_aload_n hx hb dX12_lacksOf_178 rfl (lv_at hl 6 rfl) ?_
                  refine va_get (D := (dC, dI)) (ci := 12) (v := .ref (g 40)) (C := RX12) (T := TX12) (N := 63) hx hb hwd inA_X12 hown hK hP 0 rfl rfl 54 (by decide) (hwd _ wk_222) (fun _ h9 => h9) rfl dX12_lacksOf_179 ?_
                  refine lv_iload hx hb dX12_lacksOf_182 (lv_at hl 5 rfl) ?_
                  refine va_iald hx hb hK hP 40 39 rfl rfl (i := z13036) (vin (a := z13036.toInt) rfl (by omega)) dX12_lacksOf_184 ?_
                  refine lv_topi (fun z13606 e13607 => ?_)
                  have e13607 : z13606 = F 40 (z13036 : Int32).toNatClampNeg := e13607.trans (congrFun (hF 40 (by decide)) _)
                  refine lv_icmp_ge (tgt := 201) hx hb dX12_lacksOf_185 (by decide) (fun c13608 => ?_) (fun c13608 => ?_)
                  · skip
                    have t13609 := cv_le (a := z13606.toInt) rfl (b := r13601.toInt) rfl c13608
                    refine lv_iconst (v := 0) hx hb dX12_lacksOf_201 (by decide) ?_
                    refine lv_iadd hx hb dX12_lacksOf_202 ?_
                    refine lv_topi (fun z13610 e13611 => ?_)
                    try (have t13612 := tadd e13611 (a := x7_lp13572.toInt) rfl (b := 0) (by decide) (by omega))
                    refine lv_istore (lv' := [(7, .int z13610), (10, .int r13601), (9, .int x9_lp13572), (8, .int 0), (6, .int z13039), (5, .int z13036), (0, .ref (g 0)), (1, .int p0), (2, .int p1), (3, .int p2), (4, .int p3)]) hx hb dX12_lacksOf_203 hl (by decide) rfl (fun ls hl => ?_)
                    obtain ⟨z13613, e13614⟩ : ∃ y : Int32, y = x9_lp13572 + 1 := ⟨_, rfl⟩
                    try (have t13615 := tadd e13614 rfl (b := 1) (by decide) (by omega))
                    refine lv_iinc (v := z13613) (lv' := [(9, .int z13613), (7, .int z13610), (10, .int r13601), (8, .int 0), (6, .int z13039), (5, .int z13036), (0, .ref (g 0)), (1, .int p0), (2, .int p1), (3, .int p2), (4, .int p3)]) hx hb dX12_lacksOf_205 hl (k := 2) rfl (by rw [e13614]; rfl) (by decide) rfl (fun ls hl => ?_)
                    refine lv_goto (tgt := 112) hx hb dX12_lacksOf_208 (by decide) ?_
                    exact ih_lp13572 z13613 z13610 v13602 F13603 _ _ _ (by omega) (by omega) (frC (by decide) hf13604 hf_lp13572) hI hF hP hS (lv_sub hl [0, 3, 1, 4, 5, 6, 7, 8, 9, 10] rfl)
                  · skip
                    have t13616 := cv_nle (a := z13606.toInt) rfl (b := r13601.toInt) rfl c13608
                    refine lv_aload_n hx hb dX12_lacksOf_188 rfl (lv_at hl 6 rfl) ?_
                    refine va_get (D := (dC, dI)) (ci := 12) (v := .ref (g 40)) (C := RX12) (T := TX12) (N := 63) hx hb hwd inA_X12 hown hK hP 0 rfl rfl 54 (by decide) (hwd _ wk_222) (fun _ h9 => h9) rfl dX12_lacksOf_189 ?_
                    refine lv_iload hx hb dX12_lacksOf_192 (lv_at hl 5 rfl) ?_
                    refine va_iald hx hb hK hP 40 39 rfl rfl (i := z13036) (vin (a := z13036.toInt) rfl (by omega)) dX12_lacksOf_194 ?_
                    refine lv_topi (fun z13617 e13618 => ?_)
                    have e13618 : z13617 = F 40 (z13036 : Int32).toNatClampNeg := e13618.trans (congrFun (hF 40 (by decide)) _)
                    refine lv_iload hx hb dX12_lacksOf_195 (lv_at hl 0 rfl) ?_
                    refine lv_isub hx hb dX12_lacksOf_197 ?_
                    refine lv_topi (fun z13619 e13620 => ?_)
                    try (have t13621 := tsub e13620 (a := z13617.toInt) rfl (b := r13601.toInt) rfl (by omega))
                    refine lv_goto (tgt := 202) hx hb dX12_lacksOf_198 (by decide) ?_
                    refine lv_iadd hx hb dX12_lacksOf_202 ?_
                    refine lv_topi (fun z13622 e13623 => ?_)
                    try (have t13624 := tadd e13623 (a := x7_lp13572.toInt) rfl (b := z13619.toInt) rfl (by omega))
                    refine lv_istore (lv' := [(7, .int z13622), (10, .int r13601), (9, .int x9_lp13572), (8, .int 0), (6, .int z13039), (5, .int z13036), (0, .ref (g 0)), (1, .int p0), (2, .int p1), (3, .int p2), (4, .int p3)]) hx hb dX12_lacksOf_203 hl (by decide) rfl (fun ls hl => ?_)
                    obtain ⟨z13625, e13626⟩ : ∃ y : Int32, y = x9_lp13572 + 1 := ⟨_, rfl⟩
                    try (have t13627 := tadd e13626 rfl (b := 1) (by decide) (by omega))
                    refine lv_iinc (v := z13625) (lv' := [(9, .int z13625), (7, .int z13622), (10, .int r13601), (8, .int 0), (6, .int z13039), (5, .int z13036), (0, .ref (g 0)), (1, .int p0), (2, .int p1), (3, .int p2), (4, .int p3)]) hx hb dX12_lacksOf_205 hl (k := 2) rfl (by rw [e13626]; rfl) (by decide) rfl (fun ls hl => ?_)
                    refine lv_goto (tgt := 112) hx hb dX12_lacksOf_208 (by decide) ?_
                    exact ih_lp13572 z13625 z13622 v13602 F13603 _ _ _ (by omega) (by omega) (frC (by decide) hf13604 hf_lp13572) hI hF hP hS (lv_sub hl [0, 3, 1, 4, 5, 6, 7, 8, 9, 10] rfl)
                · skip
                  have t13628 := cv_eq (a := r13597.toInt) rfl (b := 0) (by decide) c13599
                  refine lv_goto (tgt := 205) hx hb dX12_lacksOf_159 (by decide) ?_
                  obtain ⟨z13629, e13630⟩ : ∃ y : Int32, y = x9_lp13572 + 1 := ⟨_, rfl⟩
                  try (have t13631 := tadd e13630 rfl (b := 1) (by decide) (by omega))
                  refine lv_iinc (v := z13629) (lv' := [(9, .int z13629), (8, .int 0), (7, .int x7_lp13572), (6, .int z13039), (5, .int z13036), (0, .ref (g 0)), (1, .int p0), (2, .int p1), (3, .int p2), (4, .int p3)]) hx hb dX12_lacksOf_205 hl (k := 0) rfl (by rw [e13630]; rfl) (by decide) rfl (fun ls hl => ?_)
                  refine lv_goto (tgt := 112) hx hb dX12_lacksOf_208 (by decide) ?_
                  exact ih_lp13572 z13629 x7_lp13572 v_lp13572 F_lp13572 _ _ _ (by omega) (by omega) hf_lp13572 hI hF hP hS (lv_sub hl [0, 1, 2, 3, 4, 5, 6, 7, 8, 9] rfl)
      obtain ⟨n9, hn9⟩ : ∃ n : Nat, 2147483648 - 0 ≤ (n : Int) := ⟨((2147483648 - 0 : Int)).toNat, by omega⟩
      exact lp13572 n9 0 0 v F H _ ls (by have : (0 : Int32).toInt = 0 := (by decide); have : (0 : Int32).toInt = 0 := (by decide); omega) (by have : (0 : Int32).toInt = 0 := (by decide); have : (0 : Int32).toInt = 0 := (by decide); omega) (fun _ _ => rfl) hI hF hP hS hl
  · refine lv_tableIn (off := 294) (tgt := 316) hx hb dX12_lacksOf_22 hlo13041 hhi13042 (by rw [hk]; decide) (by decide) ?_
    refine lv_iconst (v := 0) hx hb dX12_lacksOf_316 (by decide) ?_
    refine lv_istore (lv' := [(8, .int 0), (7, .int 0), (6, .int z13039), (5, .int z13036), (0, .ref (g 0)), (1, .int p0), (2, .int p1), (3, .int p2), (4, .int p3)]) hx hb dX12_lacksOf_317 hl (by decide) rfl (fun ls hl => ?_)
    have lp13632 : ∀ (n : Nat) (x8_lp13632 : Int32) (x7_lp13632 : Int32) (v_lp13632 : Nat → Int32) (F_lp13632 : Nat → Nat → Int32) (H : Heap) (locs : List Loc) (ls : Array Slot), (0 ≤ x8_lp13632.toInt) → (2147483648 - x8_lp13632.toInt ≤ (n : Int)) → (∀ k, k ∉ ([] : List Nat) → v_lp13632 k = v k) → IM v_lp13632 F_lp13632 → (∀ k, k ∉ ([30, 31] : List Nat) → F_lp13632 k = F k) → va_P (dC, dI) classes (wM g c v_lp13632 F_lp13632 rc) H → va_S (AM g s.heap.size) s.heap H locs → lv_has ls 11 [(8, .int x8_lp13632), (7, .int x7_lp13632), (6, .int z13039), (5, .int z13036), (0, .ref (g 0)), (1, .int p0), (2, .int p1), (3, .int p2), (4, .int p3)] → W p l e (headSpec (Cond.code yX12_lacksOf cX12_lacksOf 11 (some .int) :: wA) ({ frames := 5, cells := 0, slots := 0, locals := 200 })).room s m ([.ref (g 0), .int p0, .int p1, .int p2, .int p3] : List Value).toArray below meth c0 H locs 0 0 (MQ below (va_Qi (fun (r : Int32) (u : StM) => IM u.1 u.2.1 ∧ u.2.2 = rc ∧ (∀ k, k ∉ ([] : List Nat) → u.1 k = v k) ∧ (∀ k, k ∉ ([30, 31] : List Nat) → u.2.1 k = F k) ∧ True) (BM dC dI g c) (AM g s.heap.size)) ([.ref (g 0), .int p0, .int p1, .int p2, .int p3] : List Value).toArray s 0 0 (AM g s.heap.size)) (F0 m 319 ls []) := by
      intro n
      induction n with
      | zero =>
        intro x8_lp13632 x7_lp13632 v_lp13632 F_lp13632 H locs ls t13633 hm hf_lp13632 hI hF hP hS hl
        exfalso
        have := i32_rng x8_lp13632
        have := i32_rng x7_lp13632
        have hI1 := hI.1
        omega
      | succ n ih_lp13632 =>
        intro x8_lp13632 x7_lp13632 v_lp13632 F_lp13632 H locs ls t13633 hm hf_lp13632 hI hF hP hS hl
        have rx8_lp13632 := i32_rng x8_lp13632
        have rx7_lp13632 := i32_rng x7_lp13632
        refine lv_iload hx hb dX12_lacksOf_319 (lv_at hl 0 rfl) ?_
        refine lv_aload_n hx hb dX12_lacksOf_321 rfl (lv_at hl 4 rfl) ?_
        refine va_get (D := (dC, dI)) (ci := 12) (v := .int (v_lp13632 2)) (C := RX12) (T := TX12) (N := 63) hx hb hwd inA_X12 hown hK hP 0 rfl rfl 2 (by decide) (hwd _ wk_251) (fun _ h9 => h9) rfl dX12_lacksOf_322 ?_
        refine my_top (v := v 2) (hf_lp13632 2 (by decide)) ?_
        have t13634 : 0 ≤ (v 2).toInt ∧ (v 2).toInt ≤ 10 := by have h9 := hI.1 2 _ _ rfl; rw [show v_lp13632 2 = v 2 from hf_lp13632 2 (by decide)] at h9; exact h9
        refine lv_icmp_ge (tgt := 428) hx hb dX12_lacksOf_325 (by decide) (fun c13635 => ?_) (fun c13635 => ?_)
        · skip
          have t13636 := cv_le (a := (v 2).toInt) rfl (b := x8_lp13632.toInt) rfl c13635
          refine lv_iload hx hb dX12_lacksOf_428 (lv_at hl 1 rfl) ?_
          have hP9 : va_P (dC, dI) classes (wM g c v_lp13632 F_lp13632 rc) H := hP
          exact W.iret (v := x7_lp13632) hx hb hr (fun t ht hW => ⟨⟨x7_lp13632, (v_lp13632, F_lp13632, rc), rfl, ⟨hI, rfl, (frC (by decide) hf_lp13632 (fun _ _ => rfl)), hF, trivial⟩, (by show va_P _ _ _ t.heap; rw [ht]; exact hP9)⟩, hS.F ht⟩) hS.2.2 dX12_lacksOf_430
        · skip
          have t13637 := cv_nle (a := (v 2).toInt) rfl (b := x8_lp13632.toInt) rfl c13635
          refine lv_iconst (v := 0) hx hb dX12_lacksOf_328 (by decide) ?_
          refine lv_istore (lv' := [(9, .int 0), (8, .int x8_lp13632), (7, .int x7_lp13632), (6, .int z13039), (5, .int z13036), (0, .ref (g 0)), (1, .int p0), (2, .int p1), (3, .int p2), (4, .int p3)]) hx hb dX12_lacksOf_329 hl (by decide) rfl (fun ls hl => ?_)
          refine lv_iconst (v := 0) hx hb dX12_lacksOf_331 (by decide) ?_
          refine lv_istore (lv' := [(10, .int 0), (9, .int 0), (8, .int x8_lp13632), (7, .int x7_lp13632), (6, .int z13039), (5, .int z13036), (0, .ref (g 0)), (1, .int p0), (2, .int p1), (3, .int p2), (4, .int p3)]) hx hb dX12_lacksOf_332 hl (by decide) rfl (fun ls hl => ?_)
          have lp13638 : ∀ (n : Nat) (x10_lp13638 : Int32) (x9_lp13638 : Int32) (v_lp13638 : Nat → Int32) (F_lp13638 : Nat → Nat → Int32) (H : Heap) (locs : List Loc) (ls : Array Slot), (0 ≤ x10_lp13638.toInt) → (2147483648 - x10_lp13638.toInt ≤ (n : Int)) → (∀ k, k ∉ ([] : List Nat) → v_lp13638 k = v_lp13632 k) → IM v_lp13638 F_lp13638 → (∀ k, k ∉ ([30, 31] : List Nat) → F_lp13638 k = F k) → va_P (dC, dI) classes (wM g c v_lp13638 F_lp13638 rc) H → va_S (AM g s.heap.size) s.heap H locs → lv_has ls 11 [(10, .int x10_lp13638), (9, .int x9_lp13638), (8, .int x8_lp13632), (7, .int x7_lp13632), (6, .int z13039), (5, .int z13036), (0, .ref (g 0)), (1, .int p0), (2, .int p1), (3, .int p2), (4, .int p3)] → W p l e (headSpec (Cond.code yX12_lacksOf cX12_lacksOf 11 (some .int) :: wA) ({ frames := 5, cells := 0, slots := 0, locals := 200 })).room s m ([.ref (g 0), .int p0, .int p1, .int p2, .int p3] : List Value).toArray below meth c0 H locs 0 0 (MQ below (va_Qi (fun (r : Int32) (u : StM) => IM u.1 u.2.1 ∧ u.2.2 = rc ∧ (∀ k, k ∉ ([] : List Nat) → u.1 k = v k) ∧ (∀ k, k ∉ ([30, 31] : List Nat) → u.2.1 k = F k) ∧ True) (BM dC dI g c) (AM g s.heap.size)) ([.ref (g 0), .int p0, .int p1, .int p2, .int p3] : List Value).toArray s 0 0 (AM g s.heap.size)) (F0 m 334 ls []) := by
            intro n
            induction n with
            | zero =>
              intro x10_lp13638 x9_lp13638 v_lp13638 F_lp13638 H locs ls t13639 hm hf_lp13638 hI hF hP hS hl
              exfalso
              have := i32_rng x10_lp13638
              have := i32_rng x9_lp13638
              have hI1 := hI.1
              omega
            | succ n ih_lp13638 =>
              intro x10_lp13638 x9_lp13638 v_lp13638 F_lp13638 H locs ls t13639 hm hf_lp13638 hI hF hP hS hl
              have rx10_lp13638 := i32_rng x10_lp13638
              have rx9_lp13638 := i32_rng x9_lp13638
              refine lv_iload hx hb dX12_lacksOf_334 (lv_at hl 0 rfl) ?_
              refine lv_aload_n hx hb dX12_lacksOf_336 rfl (lv_at hl 6 rfl) ?_
              refine va_get (D := (dC, dI)) (ci := 12) (v := .int (v_lp13638 14)) (C := RX12) (T := TX12) (N := 63) hx hb hwd inA_X12 hown hK hP 0 rfl rfl 14 (by decide) (hwd _ wk_318) (fun _ h9 => h9) rfl dX12_lacksOf_337 ?_
              refine my_top (v := v 14) ((hf_lp13638 14 (by decide)).trans (hf_lp13632 14 (by decide))) ?_
              have t13640 : 0 ≤ (v 14).toInt ∧ (v 14).toInt ≤ 100 := by have h9 := hI.1 14 _ _ rfl; rw [show v_lp13638 14 = v 14 from (hf_lp13638 14 (by decide)).trans (hf_lp13632 14 (by decide))] at h9; exact h9
              refine lv_icmp_ge (tgt := 381) hx hb dX12_lacksOf_340 (by decide) (fun c13641 => ?_) (fun c13641 => ?_)
              · skip
                have t13642 := cv_le (a := (v 14).toInt) rfl (b := x10_lp13638.toInt) rfl c13641
                refine lv_iload hx hb dX12_lacksOf_381 (lv_at hl 3 rfl) ?_
                refine lv_iload hx hb dX12_lacksOf_383 (lv_at hl 1 rfl) ?_
                refine lv_aload_n hx hb dX12_lacksOf_385 rfl (lv_at hl 6 rfl) ?_
                refine va_get (D := (dC, dI)) (ci := 12) (v := .ref (g 9)) (C := RX12) (T := TX12) (N := 63) hx hb hwd inA_X12 hown hK hP 0 rfl rfl 12 (by decide) (hwd _ wk_190) (fun _ h9 => h9) rfl dX12_lacksOf_386 ?_
                refine lv_bipush (v := 10) hx hb dX12_lacksOf_389 (by decide) ?_
                refine lv_iload_n hx hb dX12_lacksOf_391 rfl (lv_at hl 7 rfl) ?_
                refine lv_imul hx hb dX12_lacksOf_392 ?_
                refine lv_topi (fun z13643 e13644 => ?_)
                try (have t13645 := tmul e13644 (a := 10) (by decide) (b := p0.toInt) rfl (by omega))
                refine lv_iload hx hb dX12_lacksOf_393 (lv_at hl 2 rfl) ?_
                refine lv_iadd hx hb dX12_lacksOf_395 ?_
                refine lv_topi (fun z13646 e13647 => ?_)
                try (have t13648 := tadd e13647 (a := z13643.toInt) rfl (b := x8_lp13632.toInt) rfl (by omega))
                refine va_iald hx hb hK hP 9 8 rfl rfl (i := z13646) (vin (a := z13646.toInt) rfl (by omega)) dX12_lacksOf_396 ?_
                refine lv_topi (fun z13649 e13650 => ?_)
                have e13650 : z13649 = F 9 (z13646 : Int32).toNatClampNeg := e13650.trans (congrFun (hF 9 (by decide)) _)
                refine lv_icmp_ge (tgt := 418) hx hb dX12_lacksOf_397 (by decide) (fun c13651 => ?_) (fun c13651 => ?_)
                · skip
                  have t13652 := cv_le (a := z13649.toInt) rfl (b := x9_lp13638.toInt) rfl c13651
                  refine lv_iconst (v := 0) hx hb dX12_lacksOf_418 (by decide) ?_
                  refine lv_iadd hx hb dX12_lacksOf_419 ?_
                  refine lv_topi (fun z13653 e13654 => ?_)
                  try (have t13655 := tadd e13654 (a := x7_lp13632.toInt) rfl (b := 0) (by decide) (by omega))
                  refine lv_istore (lv' := [(7, .int z13653), (10, .int x10_lp13638), (9, .int x9_lp13638), (8, .int x8_lp13632), (6, .int z13039), (5, .int z13036), (0, .ref (g 0)), (1, .int p0), (2, .int p1), (3, .int p2), (4, .int p3)]) hx hb dX12_lacksOf_420 hl (by decide) rfl (fun ls hl => ?_)
                  obtain ⟨z13656, e13657⟩ : ∃ y : Int32, y = x8_lp13632 + 1 := ⟨_, rfl⟩
                  try (have t13658 := tadd e13657 rfl (b := 1) (by decide) (by omega))
                  refine lv_iinc (v := z13656) (lv' := [(8, .int z13656), (7, .int z13653), (10, .int x10_lp13638), (9, .int x9_lp13638), (6, .int z13039), (5, .int z13036), (0, .ref (g 0)), (1, .int p0), (2, .int p1), (3, .int p2), (4, .int p3)]) hx hb dX12_lacksOf_422 hl (k := 3) rfl (by rw [e13657]; rfl) (by decide) rfl (fun ls hl => ?_)
                  refine lv_goto (tgt := 319) hx hb dX12_lacksOf_425 (by decide) ?_
                  exact ih_lp13632 z13656 z13653 v_lp13638 F_lp13638 _ _ _ (by omega) (by omega) (frC (by decide) hf_lp13638 hf_lp13632) hI hF hP hS (lv_sub hl [0, 1, 4, 5, 6, 7, 8, 9, 10] rfl)
                · skip
                  have t13659 := cv_nle (a := z13649.toInt) rfl (b := x9_lp13638.toInt) rfl c13651
                  refine lv_aload_n hx hb dX12_lacksOf_400 rfl (lv_at hl 6 rfl) ?_
                  refine va_get (D := (dC, dI)) (ci := 12) (v := .ref (g 9)) (C := RX12) (T := TX12) (N := 63) hx hb hwd inA_X12 hown hK hP 0 rfl rfl 12 (by decide) (hwd _ wk_190) (fun _ h9 => h9) rfl dX12_lacksOf_401 ?_
                  refine lv_bipush (v := 10) hx hb dX12_lacksOf_404 (by decide) ?_
                  refine lv_iload_n hx hb dX12_lacksOf_406 rfl (lv_at hl 7 rfl) ?_
                  refine lv_imul hx hb dX12_lacksOf_407 ?_
                  refine lv_topi (fun z13660 e13661 => ?_)
                  try (have t13662 := tmul e13661 (a := 10) (by decide) (b := p0.toInt) rfl (by omega))
                  refine lv_iload hx hb dX12_lacksOf_408 (lv_at hl 2 rfl) ?_
                  refine lv_iadd hx hb dX12_lacksOf_410 ?_
                  refine lv_topi (fun z13663 e13664 => ?_)
                  try (have t13665 := tadd e13664 (a := z13660.toInt) rfl (b := x8_lp13632.toInt) rfl (by omega))
                  refine va_iald hx hb hK hP 9 8 rfl rfl (i := z13663) (vin (a := z13663.toInt) rfl (by omega)) dX12_lacksOf_411 ?_
                  refine lv_topi (fun z13666 e13667 => ?_)
                  have e13667 : z13666 = F 9 (z13663 : Int32).toNatClampNeg := e13667.trans (congrFun (hF 9 (by decide)) _)
                  refine lv_iload hx hb dX12_lacksOf_412 (lv_at hl 1 rfl) ?_
                  refine lv_isub hx hb dX12_lacksOf_414 ?_
                  refine lv_topi (fun z13668 e13669 => ?_)
                  try (have t13670 := tsub e13669 (a := z13666.toInt) rfl (b := x9_lp13638.toInt) rfl (by omega))
                  refine lv_goto (tgt := 419) hx hb dX12_lacksOf_415 (by decide) ?_
                  refine lv_iadd hx hb dX12_lacksOf_419 ?_
                  refine lv_topi (fun z13671 e13672 => ?_)
                  try (have t13673 := tadd e13672 (a := x7_lp13632.toInt) rfl (b := z13668.toInt) rfl (by omega))
                  refine lv_istore (lv' := [(7, .int z13671), (10, .int x10_lp13638), (9, .int x9_lp13638), (8, .int x8_lp13632), (6, .int z13039), (5, .int z13036), (0, .ref (g 0)), (1, .int p0), (2, .int p1), (3, .int p2), (4, .int p3)]) hx hb dX12_lacksOf_420 hl (by decide) rfl (fun ls hl => ?_)
                  obtain ⟨z13674, e13675⟩ : ∃ y : Int32, y = x8_lp13632 + 1 := ⟨_, rfl⟩
                  try (have t13676 := tadd e13675 rfl (b := 1) (by decide) (by omega))
                  refine lv_iinc (v := z13674) (lv' := [(8, .int z13674), (7, .int z13671), (10, .int x10_lp13638), (9, .int x9_lp13638), (6, .int z13039), (5, .int z13036), (0, .ref (g 0)), (1, .int p0), (2, .int p1), (3, .int p2), (4, .int p3)]) hx hb dX12_lacksOf_422 hl (k := 3) rfl (by rw [e13675]; rfl) (by decide) rfl (fun ls hl => ?_)
                  refine lv_goto (tgt := 319) hx hb dX12_lacksOf_425 (by decide) ?_
                  exact ih_lp13632 z13674 z13671 v_lp13638 F_lp13638 _ _ _ (by omega) (by omega) (frC (by decide) hf_lp13638 hf_lp13632) hI hF hP hS (lv_sub hl [0, 1, 4, 5, 6, 7, 8, 9, 10] rfl)
              · skip
                have t13677 := cv_nle (a := (v 14).toInt) rfl (b := x10_lp13638.toInt) rfl c13641
                refine lv_iload hx hb dX12_lacksOf_343 (lv_at hl 1 rfl) ?_
                refine lv_aload_n hx hb dX12_lacksOf_345 rfl (lv_at hl 6 rfl) ?_
                refine va_get (D := (dC, dI)) (ci := 12) (v := .ref (g 42)) (C := RX12) (T := TX12) (N := 63) hx hb hwd inA_X12 hown hK hP 0 rfl rfl 56 (by decide) (hwd _ wk_224) (fun _ h9 => h9) rfl dX12_lacksOf_346 ?_
                refine lv_iload hx hb dX12_lacksOf_349 (lv_at hl 0 rfl) ?_
                refine va_zald hx hb hK hP 42 41 rfl rfl (i := x10_lp13638) (vin (a := x10_lp13638.toInt) rfl (by omega)) dX12_lacksOf_351 ?_
                refine lv_topi (fun z13678 e13679 => ?_)
                have e13679 : z13678 = F 42 (x10_lp13638 : Int32).toNatClampNeg := e13679.trans (congrFun (hF 42 (by decide)) _)
                refine lv_if_eq (tgt := 371) hx hb dX12_lacksOf_352 (by decide) (fun c13680 => ?_) (fun c13680 => ?_)
                · skip
                  have t13681 := cv_eq (a := z13678.toInt) rfl (b := 0) (by decide) c13680
                  refine lv_iconst (v := 0) hx hb dX12_lacksOf_371 (by decide) ?_
                  refine lv_iadd hx hb dX12_lacksOf_372 ?_
                  refine lv_topi (fun z13682 e13683 => ?_)
                  try (have t13684 := tadd e13683 (a := x9_lp13638.toInt) rfl (b := 0) (by decide) (by omega))
                  refine lv_istore (lv' := [(9, .int z13682), (10, .int x10_lp13638), (8, .int x8_lp13632), (7, .int x7_lp13632), (6, .int z13039), (5, .int z13036), (0, .ref (g 0)), (1, .int p0), (2, .int p1), (3, .int p2), (4, .int p3)]) hx hb dX12_lacksOf_373 hl (by decide) rfl (fun ls hl => ?_)
                  obtain ⟨z13685, e13686⟩ : ∃ y : Int32, y = x10_lp13638 + 1 := ⟨_, rfl⟩
                  try (have t13687 := tadd e13686 rfl (b := 1) (by decide) (by omega))
                  refine lv_iinc (v := z13685) (lv' := [(10, .int z13685), (9, .int z13682), (8, .int x8_lp13632), (7, .int x7_lp13632), (6, .int z13039), (5, .int z13036), (0, .ref (g 0)), (1, .int p0), (2, .int p1), (3, .int p2), (4, .int p3)]) hx hb dX12_lacksOf_375 hl (k := 1) rfl (by rw [e13686]; rfl) (by decide) rfl (fun ls hl => ?_)
                  refine lv_goto (tgt := 334) hx hb dX12_lacksOf_378 (by decide) ?_
                  exact ih_lp13638 z13685 z13682 v_lp13638 F_lp13638 _ _ _ (by omega) (by omega) hf_lp13638 hI hF hP hS (lv_sub hl [0, 1, 2, 3, 4, 5, 6, 7, 8, 9, 10] rfl)
                · skip
                  have t13688 := cv_ne (a := z13678.toInt) rfl (b := 0) (by decide) c13680
                  refine lv_aload_n hx hb dX12_lacksOf_355 rfl (lv_at hl 6 rfl) ?_
                  refine va_get (D := (dC, dI)) (ci := 12) (v := .ref (g 11)) (C := RX12) (T := TX12) (N := 63) hx hb hwd inA_X12 hown hK hP 0 rfl rfl 15 (by decide) (hwd _ wk_192) (fun _ h9 => h9) rfl dX12_lacksOf_356 ?_
                  refine lv_iload hx hb dX12_lacksOf_359 (lv_at hl 0 rfl) ?_
                  refine va_iald hx hb hK hP 11 10 rfl rfl (i := x10_lp13638) (vin (a := x10_lp13638.toInt) rfl (by omega)) dX12_lacksOf_361 ?_
                  refine lv_topi (fun z13689 e13690 => ?_)
                  have t13691 : 0 ≤ z13689.toInt ∧ z13689.toInt ≤ 9 := by rw [e13690]; exact hI.2 11 _ _ rfl _
                  have e13690 : z13689 = F 11 (x10_lp13638 : Int32).toNatClampNeg := e13690.trans (congrFun (hF 11 (by decide)) _)
                  refine lv_iload hx hb dX12_lacksOf_362 (lv_at hl 2 rfl) ?_
                  refine lv_icmp_ne (tgt := 371) hx hb dX12_lacksOf_364 (by decide) (fun c13692 => ?_) (fun c13692 => ?_)
                  · skip
                    have t13693 := cv_ne (a := z13689.toInt) rfl (b := x8_lp13632.toInt) rfl c13692
                    refine lv_iconst (v := 0) hx hb dX12_lacksOf_371 (by decide) ?_
                    refine lv_iadd hx hb dX12_lacksOf_372 ?_
                    refine lv_topi (fun z13694 e13695 => ?_)
                    try (have t13696 := tadd e13695 (a := x9_lp13638.toInt) rfl (b := 0) (by decide) (by omega))
                    refine lv_istore (lv' := [(9, .int z13694), (10, .int x10_lp13638), (8, .int x8_lp13632), (7, .int x7_lp13632), (6, .int z13039), (5, .int z13036), (0, .ref (g 0)), (1, .int p0), (2, .int p1), (3, .int p2), (4, .int p3)]) hx hb dX12_lacksOf_373 hl (by decide) rfl (fun ls hl => ?_)
                    obtain ⟨z13697, e13698⟩ : ∃ y : Int32, y = x10_lp13638 + 1 := ⟨_, rfl⟩
                    try (have t13699 := tadd e13698 rfl (b := 1) (by decide) (by omega))
                    refine lv_iinc (v := z13697) (lv' := [(10, .int z13697), (9, .int z13694), (8, .int x8_lp13632), (7, .int x7_lp13632), (6, .int z13039), (5, .int z13036), (0, .ref (g 0)), (1, .int p0), (2, .int p1), (3, .int p2), (4, .int p3)]) hx hb dX12_lacksOf_375 hl (k := 1) rfl (by rw [e13698]; rfl) (by decide) rfl (fun ls hl => ?_)
                    refine lv_goto (tgt := 334) hx hb dX12_lacksOf_378 (by decide) ?_
                    exact ih_lp13638 z13697 z13694 v_lp13638 F_lp13638 _ _ _ (by omega) (by omega) hf_lp13638 hI hF hP hS (lv_sub hl [0, 1, 2, 3, 4, 5, 6, 7, 8, 9, 10] rfl)
                  · skip
                    have t13700 := cv_eq (a := z13689.toInt) rfl (b := x8_lp13632.toInt) rfl c13692
                    refine lv_iconst (v := 1) hx hb dX12_lacksOf_367 (by decide) ?_
                    refine lv_goto (tgt := 372) hx hb dX12_lacksOf_368 (by decide) ?_
                    refine lv_iadd hx hb dX12_lacksOf_372 ?_
                    refine lv_topi (fun z13701 e13702 => ?_)
                    try (have t13703 := tadd e13702 (a := x9_lp13638.toInt) rfl (b := 1) (by decide) (by omega))
                    refine lv_istore (lv' := [(9, .int z13701), (10, .int x10_lp13638), (8, .int x8_lp13632), (7, .int x7_lp13632), (6, .int z13039), (5, .int z13036), (0, .ref (g 0)), (1, .int p0), (2, .int p1), (3, .int p2), (4, .int p3)]) hx hb dX12_lacksOf_373 hl (by decide) rfl (fun ls hl => ?_)
                    obtain ⟨z13704, e13705⟩ : ∃ y : Int32, y = x10_lp13638 + 1 := ⟨_, rfl⟩
                    try (have t13706 := tadd e13705 rfl (b := 1) (by decide) (by omega))
                    refine lv_iinc (v := z13704) (lv' := [(10, .int z13704), (9, .int z13701), (8, .int x8_lp13632), (7, .int x7_lp13632), (6, .int z13039), (5, .int z13036), (0, .ref (g 0)), (1, .int p0), (2, .int p1), (3, .int p2), (4, .int p3)]) hx hb dX12_lacksOf_375 hl (k := 1) rfl (by rw [e13705]; rfl) (by decide) rfl (fun ls hl => ?_)
                    refine lv_goto (tgt := 334) hx hb dX12_lacksOf_378 (by decide) ?_
                    exact ih_lp13638 z13704 z13701 v_lp13638 F_lp13638 _ _ _ (by omega) (by omega) hf_lp13638 hI hF hP hS (lv_sub hl [0, 1, 2, 3, 4, 5, 6, 7, 8, 9, 10] rfl)
          obtain ⟨n9, hn9⟩ : ∃ n : Nat, 2147483648 - 0 ≤ (n : Int) := ⟨((2147483648 - 0 : Int)).toNat, by omega⟩
          exact lp13638 n9 0 0 v_lp13632 F_lp13632 H _ ls (by have : (0 : Int32).toInt = 0 := (by decide); have : (0 : Int32).toInt = 0 := (by decide); omega) (by have : (0 : Int32).toInt = 0 := (by decide); have : (0 : Int32).toInt = 0 := (by decide); omega) (fun _ _ => rfl) hI hF hP hS hl
    obtain ⟨n9, hn9⟩ : ∃ n : Nat, 2147483648 - 0 ≤ (n : Int) := ⟨((2147483648 - 0 : Int)).toNat, by omega⟩
    exact lp13632 n9 0 0 v F H _ ls (by have : (0 : Int32).toInt = 0 := (by decide); have : (0 : Int32).toInt = 0 := (by decide); omega) (by have : (0 : Int32).toInt = 0 := (by decide); have : (0 : Int32).toInt = 0 := (by decide); omega) (fun _ _ => rfl) hI hF hP hS hl
  · refine lv_tableIn (off := 409) (tgt := 431) hx hb dX12_lacksOf_22 hlo13041 hhi13042 (by rw [hk]; decide) (by decide) ?_
    refine lv_aload_n hx hb dX12_lacksOf_431 rfl (lv_at hl 3 rfl) ?_
    refine lv_iload_n hx hb dX12_lacksOf_432 rfl (lv_at hl 4 rfl) ?_
    refine lv_iload_n hx hb dX12_lacksOf_433 rfl (lv_at hl 6 rfl) ?_
    refine va_calli (va_runV (As := [.int p0, .int p2]) (rest := []) ⟨hx, hb, hml, hown, hwd⟩ (c_X12_late l dC dI g c adK adV v F rc H.size p0 p2 hg hI (by omega)) (cwV 2 hwd (gV wk_1213 wk_1210 wk_1211 wk_1212 wk_5) rfl rfl rfl (by decide +kernel) ⟨Nat.le_of_ble_eq_true rfl, Nat.le_of_ble_eq_true rfl⟩) ⟨PM.blind, va_recv hK hP (ci := 12) (q0 := 0) rfl rfl, fun U hU hW => ⟨rfl, PM.at hK hE hP hS hU hW⟩⟩ rfl rfl hl.1 rfl (lv_room (Nat.le_of_ble_eq_true rfl)) dX12_lacksOf_434 ⟨Nat.le_of_ble_eq_true rfl, Nat.le_of_ble_eq_true rfl⟩) hS (fun q _ h => (freeM hS) q h) (freeM hS) (fun r13707 u t H1 locs ht hvm hw hB hz1 hk1 hS => ?_)
    unfold BM at hB
    rw [ht] at hB
    have hP : va_P (dC, dI) classes (wM g c v F rc) H1 := hB
    clear hz1
    generalize H1 = H at hP hS ⊢
    have rr_r13707 := i32_rng r13707
    have hP9 : va_P (dC, dI) classes (wM g c v F rc) H := hP
    exact W.iret (v := r13707) hx hb hr (fun t ht hW => ⟨⟨r13707, (v, F, rc), rfl, ⟨hI, rfl, (fun _ _ => rfl), hF, trivial⟩, (by show va_P _ _ _ t.heap; rw [ht]; exact hP9)⟩, hS.F ht⟩) hS.2.2 dX12_lacksOf_437
  · refine lv_tableIn (off := 238) (tgt := 260) hx hb dX12_lacksOf_22 hlo13041 hhi13042 (by rw [hk]; decide) (by decide) ?_
    refine lv_iconst (v := 0) hx hb dX12_lacksOf_260 (by decide) ?_
    refine lv_istore (lv' := [(8, .int 0), (7, .int 0), (6, .int z13039), (5, .int z13036), (0, .ref (g 0)), (1, .int p0), (2, .int p1), (3, .int p2), (4, .int p3)]) hx hb dX12_lacksOf_261 hl (by decide) rfl (fun ls hl => ?_)
    have lp13708 : ∀ (n : Nat) (x8_lp13708 : Int32) (x7_lp13708 : Int32) (v_lp13708 : Nat → Int32) (F_lp13708 : Nat → Nat → Int32) (H : Heap) (locs : List Loc) (ls : Array Slot), (0 ≤ x8_lp13708.toInt) → (2147483648 - x8_lp13708.toInt ≤ (n : Int)) → (∀ k, k ∉ ([] : List Nat) → v_lp13708 k = v k) → IM v_lp13708 F_lp13708 → (∀ k, k ∉ ([30, 31] : List Nat) → F_lp13708 k = F k) → va_P (dC, dI) classes (wM g c v_lp13708 F_lp13708 rc) H → va_S (AM g s.heap.size) s.heap H locs → lv_has ls 11 [(8, .int x8_lp13708), (7, .int x7_lp13708), (6, .int z13039), (5, .int z13036), (0, .ref (g 0)), (1, .int p0), (2, .int p1), (3, .int p2), (4, .int p3)] → W p l e (headSpec (Cond.code yX12_lacksOf cX12_lacksOf 11 (some .int) :: wA) ({ frames := 5, cells := 0, slots := 0, locals := 200 })).room s m ([.ref (g 0), .int p0, .int p1, .int p2, .int p3] : List Value).toArray below meth c0 H locs 0 0 (MQ below (va_Qi (fun (r : Int32) (u : StM) => IM u.1 u.2.1 ∧ u.2.2 = rc ∧ (∀ k, k ∉ ([] : List Nat) → u.1 k = v k) ∧ (∀ k, k ∉ ([30, 31] : List Nat) → u.2.1 k = F k) ∧ True) (BM dC dI g c) (AM g s.heap.size)) ([.ref (g 0), .int p0, .int p1, .int p2, .int p3] : List Value).toArray s 0 0 (AM g s.heap.size)) (F0 m 263 ls []) := by
      intro n
      induction n with
      | zero =>
        intro x8_lp13708 x7_lp13708 v_lp13708 F_lp13708 H locs ls t13709 hm hf_lp13708 hI hF hP hS hl
        exfalso
        have := i32_rng x8_lp13708
        have := i32_rng x7_lp13708
        have hI1 := hI.1
        omega
      | succ n ih_lp13708 =>
        intro x8_lp13708 x7_lp13708 v_lp13708 F_lp13708 H locs ls t13709 hm hf_lp13708 hI hF hP hS hl
        have rx8_lp13708 := i32_rng x8_lp13708
        have rx7_lp13708 := i32_rng x7_lp13708
        refine lv_iload hx hb dX12_lacksOf_263 (lv_at hl 0 rfl) ?_
        refine lv_aload_n hx hb dX12_lacksOf_265 rfl (lv_at hl 4 rfl) ?_
        refine va_get (D := (dC, dI)) (ci := 12) (v := .int (v_lp13708 45)) (C := RX12) (T := TX12) (N := 63) hx hb hwd inA_X12 hown hK hP 0 rfl rfl 45 (by decide) (hwd _ wk_485) (fun _ h9 => h9) rfl dX12_lacksOf_266 ?_
        refine my_top (v := v 45) (hf_lp13708 45 (by decide)) ?_
        have t13710 : 0 ≤ (v 45).toInt ∧ (v 45).toInt ≤ 20 := by have h9 := hI.1 45 _ _ rfl; rw [show v_lp13708 45 = v 45 from hf_lp13708 45 (by decide)] at h9; exact h9
        refine lv_icmp_ge (tgt := 313) hx hb dX12_lacksOf_269 (by decide) (fun c13711 => ?_) (fun c13711 => ?_)
        · skip
          have t13712 := cv_le (a := (v 45).toInt) rfl (b := x8_lp13708.toInt) rfl c13711
          refine lv_iload hx hb dX12_lacksOf_313 (lv_at hl 1 rfl) ?_
          have hP9 : va_P (dC, dI) classes (wM g c v_lp13708 F_lp13708 rc) H := hP
          exact W.iret (v := x7_lp13708) hx hb hr (fun t ht hW => ⟨⟨x7_lp13708, (v_lp13708, F_lp13708, rc), rfl, ⟨hI, rfl, (frC (by decide) hf_lp13708 (fun _ _ => rfl)), hF, trivial⟩, (by show va_P _ _ _ t.heap; rw [ht]; exact hP9)⟩, hS.F ht⟩) hS.2.2 dX12_lacksOf_315
        · skip
          have t13713 := cv_nle (a := (v 45).toInt) rfl (b := x8_lp13708.toInt) rfl c13711
          refine lv_iload hx hb dX12_lacksOf_272 (lv_at hl 1 rfl) ?_
          refine lv_aload_n hx hb dX12_lacksOf_274 rfl (lv_at hl 4 rfl) ?_
          refine lv_iload hx hb dX12_lacksOf_275 (lv_at hl 0 rfl) ?_
          refine lv_iload_n hx hb dX12_lacksOf_277 rfl (lv_at hl 5 rfl) ?_
          refine va_calli (va_runV (As := [.int x8_lp13708, .int p0]) (rest := [.int x7_lp13708]) ⟨hx, hb, hml, hown, hwd⟩ (c_X12_asks l dC dI g c adK adV v_lp13708 F_lp13708 rc H.size x8_lp13708 p0 hg hI (by omega) (by omega)) (cwV 2 hwd (gV wk_520 wk_517 wk_518 wk_519 wk_5) rfl rfl rfl (by decide +kernel) ⟨Nat.le_of_ble_eq_true rfl, Nat.le_of_ble_eq_true rfl⟩) ⟨PM.blind, va_recv hK hP (ci := 12) (q0 := 0) rfl rfl, fun U hU hW => ⟨rfl, PM.at hK hE hP hS hU hW⟩⟩ rfl rfl hl.1 rfl (lv_room (Nat.le_of_ble_eq_true rfl)) dX12_lacksOf_278 ⟨Nat.le_of_ble_eq_true rfl, Nat.le_of_ble_eq_true rfl⟩) hS (fun q _ h => (freeM hS) q h) (freeM hS) (fun r13714 u t H1 locs ht hvm hw hB hz1 hk1 hS => ?_)
          unfold BM at hB
          rw [ht] at hB
          have hP : va_P (dC, dI) classes (wM g c v_lp13708 F_lp13708 rc) H1 := hB
          have hw_r13714 : 0 ≤ r13714.toInt ∧ r13714.toInt ≤ 1 := hw
          clear hw
          clear hz1
          generalize H1 = H at hP hS ⊢
          refine lv_if_eq (tgt := 303) hx hb dX12_lacksOf_281 (by decide) (fun c13715 => ?_) (fun c13715 => ?_)
          · skip
            have t13716 := cv_eq (a := r13714.toInt) rfl (b := 0) (by decide) c13715
            refine lv_iconst (v := 0) hx hb dX12_lacksOf_303 (by decide) ?_
            refine lv_iadd hx hb dX12_lacksOf_304 ?_
            refine lv_topi (fun z13717 e13718 => ?_)
            try (have t13719 := tadd e13718 (a := x7_lp13708.toInt) rfl (b := 0) (by decide) (by omega))
            refine lv_istore (lv' := [(7, .int z13717), (8, .int x8_lp13708), (6, .int z13039), (5, .int z13036), (0, .ref (g 0)), (1, .int p0), (2, .int p1), (3, .int p2), (4, .int p3)]) hx hb dX12_lacksOf_305 hl (by decide) rfl (fun ls hl => ?_)
            obtain ⟨z13720, e13721⟩ : ∃ y : Int32, y = x8_lp13708 + 1 := ⟨_, rfl⟩
            try (have t13722 := tadd e13721 rfl (b := 1) (by decide) (by omega))
            refine lv_iinc (v := z13720) (lv' := [(8, .int z13720), (7, .int z13717), (6, .int z13039), (5, .int z13036), (0, .ref (g 0)), (1, .int p0), (2, .int p1), (3, .int p2), (4, .int p3)]) hx hb dX12_lacksOf_307 hl (k := 1) rfl (by rw [e13721]; rfl) (by decide) rfl (fun ls hl => ?_)
            refine lv_goto (tgt := 263) hx hb dX12_lacksOf_310 (by decide) ?_
            exact ih_lp13708 z13720 z13717 v_lp13708 F_lp13708 _ _ _ (by omega) (by omega) hf_lp13708 hI hF hP hS (lv_sub hl [0, 1, 2, 3, 4, 5, 6, 7, 8] rfl)
          · skip
            have t13723 := cv_ne (a := r13714.toInt) rfl (b := 0) (by decide) c13715
            refine lv_aload_n hx hb dX12_lacksOf_284 rfl (lv_at hl 4 rfl) ?_
            refine va_get (D := (dC, dI)) (ci := 12) (v := .ref (g 34)) (C := RX12) (T := TX12) (N := 63) hx hb hwd inA_X12 hown hK hP 0 rfl rfl 48 (by decide) (hwd _ wk_216) (fun _ h9 => h9) rfl dX12_lacksOf_285 ?_
            refine lv_bipush (v := 10) hx hb dX12_lacksOf_288 (by decide) ?_
            refine lv_iload hx hb dX12_lacksOf_290 (lv_at hl 0 rfl) ?_
            refine lv_imul hx hb dX12_lacksOf_292 ?_
            refine lv_topi (fun z13724 e13725 => ?_)
            try (have t13726 := tmul e13725 (a := 10) (by decide) (b := x8_lp13708.toInt) rfl (by omega))
            refine lv_iload_n hx hb dX12_lacksOf_293 rfl (lv_at hl 5 rfl) ?_
            refine lv_iadd hx hb dX12_lacksOf_294 ?_
            refine lv_topi (fun z13727 e13728 => ?_)
            try (have t13729 := tadd e13728 (a := z13724.toInt) rfl (b := p0.toInt) rfl (by omega))
            refine va_zald hx hb hK hP 34 33 rfl rfl (i := z13727) (vin (a := z13727.toInt) rfl (by omega)) dX12_lacksOf_295 ?_
            refine lv_topi (fun z13730 e13731 => ?_)
            have e13731 : z13730 = F 34 (z13727 : Int32).toNatClampNeg := e13731.trans (congrFun (hF 34 (by decide)) _)
            refine lv_if_ne (tgt := 303) hx hb dX12_lacksOf_296 (by decide) (fun c13732 => ?_) (fun c13732 => ?_)
            · skip
              have t13733 := cv_ne (a := z13730.toInt) rfl (b := 0) (by decide) c13732
              refine lv_iconst (v := 0) hx hb dX12_lacksOf_303 (by decide) ?_
              refine lv_iadd hx hb dX12_lacksOf_304 ?_
              refine lv_topi (fun z13734 e13735 => ?_)
              try (have t13736 := tadd e13735 (a := x7_lp13708.toInt) rfl (b := 0) (by decide) (by omega))
              refine lv_istore (lv' := [(7, .int z13734), (8, .int x8_lp13708), (6, .int z13039), (5, .int z13036), (0, .ref (g 0)), (1, .int p0), (2, .int p1), (3, .int p2), (4, .int p3)]) hx hb dX12_lacksOf_305 hl (by decide) rfl (fun ls hl => ?_)
              obtain ⟨z13737, e13738⟩ : ∃ y : Int32, y = x8_lp13708 + 1 := ⟨_, rfl⟩
              try (have t13739 := tadd e13738 rfl (b := 1) (by decide) (by omega))
              refine lv_iinc (v := z13737) (lv' := [(8, .int z13737), (7, .int z13734), (6, .int z13039), (5, .int z13036), (0, .ref (g 0)), (1, .int p0), (2, .int p1), (3, .int p2), (4, .int p3)]) hx hb dX12_lacksOf_307 hl (k := 1) rfl (by rw [e13738]; rfl) (by decide) rfl (fun ls hl => ?_)
              refine lv_goto (tgt := 263) hx hb dX12_lacksOf_310 (by decide) ?_
              exact ih_lp13708 z13737 z13734 v_lp13708 F_lp13708 _ _ _ (by omega) (by omega) hf_lp13708 hI hF hP hS (lv_sub hl [0, 1, 2, 3, 4, 5, 6, 7, 8] rfl)
            · skip
              have t13740 := cv_eq (a := z13730.toInt) rfl (b := 0) (by decide) c13732
              refine lv_iconst (v := 1) hx hb dX12_lacksOf_299 (by decide) ?_
              refine lv_goto (tgt := 304) hx hb dX12_lacksOf_300 (by decide) ?_
              refine lv_iadd hx hb dX12_lacksOf_304 ?_
              refine lv_topi (fun z13741 e13742 => ?_)
              try (have t13743 := tadd e13742 (a := x7_lp13708.toInt) rfl (b := 1) (by decide) (by omega))
              refine lv_istore (lv' := [(7, .int z13741), (8, .int x8_lp13708), (6, .int z13039), (5, .int z13036), (0, .ref (g 0)), (1, .int p0), (2, .int p1), (3, .int p2), (4, .int p3)]) hx hb dX12_lacksOf_305 hl (by decide) rfl (fun ls hl => ?_)
              obtain ⟨z13744, e13745⟩ : ∃ y : Int32, y = x8_lp13708 + 1 := ⟨_, rfl⟩
              try (have t13746 := tadd e13745 rfl (b := 1) (by decide) (by omega))
              refine lv_iinc (v := z13744) (lv' := [(8, .int z13744), (7, .int z13741), (6, .int z13039), (5, .int z13036), (0, .ref (g 0)), (1, .int p0), (2, .int p1), (3, .int p2), (4, .int p3)]) hx hb dX12_lacksOf_307 hl (k := 1) rfl (by rw [e13745]; rfl) (by decide) rfl (fun ls hl => ?_)
              refine lv_goto (tgt := 263) hx hb dX12_lacksOf_310 (by decide) ?_
              exact ih_lp13708 z13744 z13741 v_lp13708 F_lp13708 _ _ _ (by omega) (by omega) hf_lp13708 hI hF hP hS (lv_sub hl [0, 1, 2, 3, 4, 5, 6, 7, 8] rfl)
    obtain ⟨n9, hn9⟩ : ∃ n : Nat, 2147483648 - 0 ≤ (n : Int) := ⟨((2147483648 - 0 : Int)).toNat, by omega⟩
    exact lp13708 n9 0 0 v F H _ ls (by have : (0 : Int32).toInt = 0 := (by decide); have : (0 : Int32).toInt = 0 := (by decide); omega) (by have : (0 : Int32).toInt = 0 := (by decide); have : (0 : Int32).toInt = 0 := (by decide); omega) (fun _ _ => rfl) hI hF hP hS hl
set_option maxHeartbeats 8000000 in
set_option maxRecDepth 100000 in
theorem c_X12_costOf (l : Launch) (dC : Nat → ClassId) (dI : Nat → Nat → Nat) (g : Nat → Nat) (c : Nat → ClassId) (adK adV : Nat → Nat) (v : Nat → Int32) (F : Nat → Nat → Int32) (rc sz : Nat) (p0 : Int32) (p1 : Int32) (p2 : Int32) (p3 : Int32) (hg : injM g) (hI : IM v F) (h0 : 0 ≤ p0.toInt ∧ p0.toInt ≤ 9) (h1 : 0 ≤ p1.toInt ∧ p1.toInt ≤ 30) (hL : JL (v 31) (F 28) (F 29) (F 27)) : Met l yX12_costOf (Cond.code yX12_costOf cX12_costOf 11 (some .int) :: wA) ({ frames := 6, cells := 0, slots := 0, locals := 240 }) (va_Pc [.ref (g 0), .int p0, .int p1, .int p2, .int p3] (PM dC dI g c adK adV v F rc sz)) (va_Qi (fun (r : Int32) (u : StM) => IM u.1 u.2.1 ∧ u.2.2 = rc ∧ (∀ k, k ∉ ([] : List Nat) → u.1 k = v k) ∧ (∀ k, k ∉ ([30, 31] : List Nat) → u.2.1 k = F k) ∧ True) (BM dC dI g c) (AM g sz)) 0 0 (AM g sz) := by
  refine Met.ofW (cc := cX12_costOf) (maxL := 11) (ret := (some .int)) (by decide) rfl ?_
  intro p e s m args below meth c0 s₁ B hml hv
  obtain ⟨rfl, hsz, hP, hK, hE⟩ := hv
  have hx := B.exec
  have hb := B.bytes
  have hr := B.returns
  have hts := atoms_spec (ws := Cond.code yX12_costOf cX12_costOf 11 (some .int) :: wA) B.pre
  have hwd : ∀ w ∈ wA, w.before _ s = true := fun w h => hts w (List.mem_cons_of_mem _ h)
  have hown : s.vm.findClass RX12 = some m.cls := findClass_of_methodNamed B.named
  have hlocks := B.notSynchronized
  subst hsz
  have hl := lv_entry ([.ref (g 0), .int p0, .int p1, .int p2, .int p3]) (n := 11) (Nat.le_of_ble_eq_true rfl)
  rw [lg_entry_eq]
  generalize (lg_sl ([.ref (g 0), .int p0, .int p1, .int p2, .int p3]) ++ List.replicate (11 - (lg_sl ([.ref (g 0), .int p0, .int p1, .int p2, .int p3])).length) Slot.unset).toArray = ls at hl ⊢
  have hl : lv_has ls 11 [(0, .ref (g 0)), (1, .int p0), (2, .int p1), (3, .int p2), (4, .int p3)] := hl
  obtain ⟨H, eH⟩ : ∃ z, z = s.heap := ⟨_, rfl⟩
  have hP : va_P (dC, dI) classes (wM g c v F rc) H := by rw [eH]; exact hP
  have hS : va_S (AM g s.heap.size) s.heap H [] := by rw [eH]; exact va_S.rf
  refine my_heap eH ?_
  have hF : ∀ k, k ∉ ([30, 31] : List Nat) → F k = F k := fun _ _ => rfl
  have rp0 := i32_rng p0
  have rp1 := i32_rng p1
  have rp2 := i32_rng p2
  have rp3 := i32_rng p3
  have hb31 : 0 ≤ (v 31).toInt ∧ (v 31).toInt ≤ 10 := hI.1 31 _ _ rfl
  refine lv_bipush (v := 32) hx hb dX12_costOf_0 (by decide) ?_
  refine lv_iload_n hx hb dX12_costOf_2 rfl (lv_at hl 1 rfl) ?_
  refine lv_imul hx hb dX12_costOf_3 ?_
  refine lv_topi (fun z13846 e13847 => ?_)
  try (have t13848 := tmul e13847 (a := 32) (by decide) (b := p0.toInt) rfl (by omega))
  refine lv_iload_n hx hb dX12_costOf_4 rfl (lv_at hl 2 rfl) ?_
  refine lv_iadd hx hb dX12_costOf_5 ?_
  refine lv_topi (fun z13849 e13850 => ?_)
  try (have t13851 := tadd e13850 (a := z13846.toInt) rfl (b := p1.toInt) rfl (by omega))
  refine lv_istore (lv' := [(5, .int z13849), (0, .ref (g 0)), (1, .int p0), (2, .int p1), (3, .int p2), (4, .int p3)]) hx hb dX12_costOf_6 hl (by decide) rfl (fun ls hl => ?_)
  refine lv_aload_n hx hb dX12_costOf_8 rfl (lv_at hl 1 rfl) ?_
  refine va_get (D := (dC, dI)) (ci := 12) (v := .ref (g 38)) (C := RX12) (T := TX12) (N := 63) hx hb hwd inA_X12 hown hK hP 0 rfl rfl 52 (by decide) (hwd _ wk_220) (fun _ h9 => h9) rfl dX12_costOf_9 ?_
  refine lv_iload hx hb dX12_costOf_12 (lv_at hl 0 rfl) ?_
  refine va_iald hx hb hK hP 38 37 rfl rfl (i := z13849) (vin (a := z13849.toInt) rfl (by omega)) dX12_costOf_14 ?_
  refine lv_topi (fun z13852 e13853 => ?_)
  refine lv_istore (lv' := [(6, .int z13852), (5, .int z13849), (0, .ref (g 0)), (1, .int p0), (2, .int p1), (3, .int p2), (4, .int p3)]) hx hb dX12_costOf_15 hl (by decide) rfl (fun ls hl => ?_)
  refine lv_aload_n hx hb dX12_costOf_17 rfl (lv_at hl 2 rfl) ?_
  refine lv_iload_n hx hb dX12_costOf_18 rfl (lv_at hl 3 rfl) ?_
  refine lv_iload_n hx hb dX12_costOf_19 rfl (lv_at hl 4 rfl) ?_
  refine lv_iload_n hx hb dX12_costOf_20 rfl (lv_at hl 5 rfl) ?_
  refine lv_iload hx hb dX12_costOf_21 (lv_at hl 6 rfl) ?_
  refine va_calli (va_runV (As := [.int p0, .int p1, .int p2, .int p3]) (rest := []) ⟨hx, hb, hml, hown, hwd⟩ (c_X12_lacksOf l dC dI g c adK adV v F rc H.size p0 p1 p2 p3 hg hI (by omega) (by omega) (JL.to hL (show v 31 = v 31 from rfl) rfl rfl rfl)) (cwV 4 hwd (gV wk_1209 wk_1206 wk_1207 wk_1208 wk_5) rfl rfl rfl (by decide +kernel) ⟨Nat.le_of_ble_eq_true rfl, Nat.le_of_ble_eq_true rfl⟩) ⟨PM.blind, va_recv hK hP (ci := 12) (q0 := 0) rfl rfl, fun U hU hW => ⟨rfl, PM.at hK hE hP hS hU hW⟩⟩ rfl rfl hl.1 rfl (lv_room (Nat.le_of_ble_eq_true rfl)) dX12_costOf_23 ⟨Nat.le_of_ble_eq_true rfl, Nat.le_of_ble_eq_true rfl⟩) hS (fun q _ h => (freeM hS) q h) (freeM hS) (fun r13854 u t H1 locs ht hvm hw hB hz1 hk1 hS => ?_)
  unfold BM at hB
  rw [ht] at hB
  obtain ⟨v13855, F13856, rc9⟩ := u
  obtain ⟨hI, hrc, hf13857, hG13858, hw⟩ := hw
  dsimp only at hI hrc hB hf13857 hG13858 hw
  have hF := frCF (by decide) hG13858 hF
  rw [hrc] at hB
  have hP : va_P (dC, dI) classes (wM g c v13855 F13856 rc) H1 := hB
  clear hz1
  generalize H1 = H at hP hS ⊢
  have rr_r13854 := i32_rng r13854
  refine lv_i2l hx hb dX12_costOf_26 rfl ?_
  refine lv_topl (fun z13859 e13860 => ?_)
  refine lv_lstore (lv' := [(7, .long z13859), (6, .int z13852), (5, .int z13849), (0, .ref (g 0)), (1, .int p0), (2, .int p1), (3, .int p2), (4, .int p3)]) hx hb dX12_costOf_27 hl (by decide) rfl (fun ls hl => ?_)
  refine lv_iload hx hb dX12_costOf_29 (lv_at hl 1 rfl) ?_
  refine lv_bipush (v := 116) hx hb dX12_costOf_31 (by decide) ?_
  refine lv_icmp_ne (tgt := 106) hx hb dX12_costOf_33 (by decide) (fun c13861 => ?_) (fun c13861 => ?_)
  · skip
    have t13862 := cv_ne (a := z13852.toInt) rfl (b := 116) (by decide) c13861
    refine lv_lload hx hb dX12_costOf_106 (lv_at hl 0 rfl) ?_
    refine lv_iload hx hb dX12_costOf_108 (lv_at hl 1 rfl) ?_
    refine va_calli (va_runS (As := [.int z13852]) (rest := [.long z13859]) ⟨hx, hb, hml, hown, hwd⟩ (c_X12_numbersOf l dC dI g c adK adV v13855 F13856 rc H.size z13852 hg hI ) (va_cwS 1 hwd (gT wk_1134 wk_1132 wk_1133 wk_5) rfl rfl rfl (by decide +kernel) ⟨Nat.le_of_ble_eq_true rfl, Nat.le_of_ble_eq_true rfl⟩) ⟨PM.blind, fun U hU hW => ⟨rfl, PM.at hK hE hP hS hU hW⟩⟩ rfl rfl hl.1 rfl (lv_room (Nat.le_of_ble_eq_true rfl)) dX12_costOf_110 ⟨Nat.le_of_ble_eq_true rfl, Nat.le_of_ble_eq_true rfl⟩) hS (fun q _ h => (freeM hS) q h) (freeM hS) (fun r13863 u t H1 locs ht hvm hw hB hz1 hk1 hS => ?_)
    unfold BM at hB
    rw [ht] at hB
    have hP : va_P (dC, dI) classes (wM g c v13855 F13856 rc) H1 := hB
    have hw_r13863 : (nnL z13852.toInt : Int) = r13863.toInt ∧ (0 ≤ r13863.toInt ∧ r13863.toInt ≤ 3) ∧ (r13863.toInt = 0 ∨ 100 ≤ z13852.toInt) := hw
    clear hw
    clear hz1
    generalize H1 = H at hP hS ⊢
    refine lv_iconst (v := 3) hx hb dX12_costOf_113 (by decide) ?_
    refine lv_icmp_ne (tgt := 127) hx hb dX12_costOf_114 (by decide) (fun c13864 => ?_) (fun c13864 => ?_)
    · skip
      have t13865 := cv_ne (a := r13863.toInt) rfl (b := 3) (by decide) c13864
      refine lv_aload_n hx hb dX12_costOf_127 rfl (lv_at hl 3 rfl) ?_
      refine va_get (D := (dC, dI)) (ci := 12) (v := .ref (g 39)) (C := RX12) (T := TX12) (N := 63) hx hb hwd inA_X12 hown hK hP 0 rfl rfl 53 (by decide) (hwd _ wk_221) (fun _ h9 => h9) rfl dX12_costOf_128 ?_
      refine lv_iload hx hb dX12_costOf_131 (lv_at hl 2 rfl) ?_
      refine va_iald hx hb hK hP 39 38 rfl rfl (i := z13849) (vin (a := z13849.toInt) rfl (by omega)) dX12_costOf_133 ?_
      refine lv_topi (fun z13866 e13867 => ?_)
      have e13867 : z13866 = F 39 (z13849 : Int32).toNatClampNeg := e13867.trans (congrFun (hF 39 (by decide)) _)
      refine lv_i2l hx hb dX12_costOf_134 rfl ?_
      refine lv_topl (fun z13868 e13869 => ?_)
      refine lv_lmul hx hb dX12_costOf_135 ?_
      refine lv_topl (fun z13870 e13871 => ?_)
      refine va_calli (va_runS (As := [.long z13870]) (rest := []) ⟨hx, hb, hml, hown, hwd⟩ (c_X12_held l dC dI g c adK adV v13855 F13856 rc H.size z13870 hg hI ) (va_cwS 1 hwd (gT wk_523 wk_521 wk_522 wk_5) rfl rfl rfl (by decide +kernel) ⟨Nat.le_of_ble_eq_true rfl, Nat.le_of_ble_eq_true rfl⟩) ⟨PM.blind, fun U hU hW => ⟨rfl, PM.at hK hE hP hS hU hW⟩⟩ rfl rfl hl.1 rfl (lv_room (Nat.le_of_ble_eq_true rfl)) dX12_costOf_136 ⟨Nat.le_of_ble_eq_true rfl, Nat.le_of_ble_eq_true rfl⟩) hS (fun q _ h => (freeM hS) q h) (freeM hS) (fun r13872 u t H1 locs ht hvm hw hB hz1 hk1 hS => ?_)
      unfold BM at hB
      rw [ht] at hB
      have hP : va_P (dC, dI) classes (wM g c v13855 F13856 rc) H1 := hB
      clear hz1
      generalize H1 = H at hP hS ⊢
      have rr_r13872 := i32_rng r13872
      have hP9 : va_P (dC, dI) classes (wM g c v13855 F13856 rc) H := hP
      exact W.iret (v := r13872) hx hb hr (fun t ht hW => ⟨⟨r13872, (v13855, F13856, rc), rfl, ⟨hI, rfl, (frC (by decide) hf13857 (fun _ _ => rfl)), hF, trivial⟩, (by show va_P _ _ _ t.heap; rw [ht]; exact hP9)⟩, hS.F ht⟩) hS.2.2 dX12_costOf_139
    · skip
      have t13873 := cv_eq (a := r13863.toInt) rfl (b := 3) (by decide) c13864
      refine lv_aload_n hx hb dX12_costOf_117 rfl (lv_at hl 3 rfl) ?_
      refine va_get (D := (dC, dI)) (ci := 12) (v := .ref (g 41)) (C := RX12) (T := TX12) (N := 63) hx hb hwd inA_X12 hown hK hP 0 rfl rfl 55 (by decide) (hwd _ wk_223) (fun _ h9 => h9) rfl dX12_costOf_118 ?_
      refine lv_iload hx hb dX12_costOf_121 (lv_at hl 2 rfl) ?_
      refine va_iald hx hb hK hP 41 40 rfl rfl (i := z13849) (vin (a := z13849.toInt) rfl (by omega)) dX12_costOf_123 ?_
      refine lv_topi (fun z13874 e13875 => ?_)
      have e13875 : z13874 = F 41 (z13849 : Int32).toNatClampNeg := e13875.trans (congrFun (hF 41 (by decide)) _)
      refine lv_goto (tgt := 134) hx hb dX12_costOf_124 (by decide) ?_
      refine lv_i2l hx hb dX12_costOf_134 rfl ?_
      refine lv_topl (fun z13876 e13877 => ?_)
      refine lv_lmul hx hb dX12_costOf_135 ?_
      refine lv_topl (fun z13878 e13879 => ?_)
      refine va_calli (va_runS (As := [.long z13878]) (rest := []) ⟨hx, hb, hml, hown, hwd⟩ (c_X12_held l dC dI g c adK adV v13855 F13856 rc H.size z13878 hg hI ) (va_cwS 1 hwd (gT wk_523 wk_521 wk_522 wk_5) rfl rfl rfl (by decide +kernel) ⟨Nat.le_of_ble_eq_true rfl, Nat.le_of_ble_eq_true rfl⟩) ⟨PM.blind, fun U hU hW => ⟨rfl, PM.at hK hE hP hS hU hW⟩⟩ rfl rfl hl.1 rfl (lv_room (Nat.le_of_ble_eq_true rfl)) dX12_costOf_136 ⟨Nat.le_of_ble_eq_true rfl, Nat.le_of_ble_eq_true rfl⟩) hS (fun q _ h => (freeM hS) q h) (freeM hS) (fun r13880 u t H1 locs ht hvm hw hB hz1 hk1 hS => ?_)
      unfold BM at hB
      rw [ht] at hB
      have hP : va_P (dC, dI) classes (wM g c v13855 F13856 rc) H1 := hB
      clear hz1
      generalize H1 = H at hP hS ⊢
      have rr_r13880 := i32_rng r13880
      have hP9 : va_P (dC, dI) classes (wM g c v13855 F13856 rc) H := hP
      exact W.iret (v := r13880) hx hb hr (fun t ht hW => ⟨⟨r13880, (v13855, F13856, rc), rfl, ⟨hI, rfl, (frC (by decide) hf13857 (fun _ _ => rfl)), hF, trivial⟩, (by show va_P _ _ _ t.heap; rw [ht]; exact hP9)⟩, hS.F ht⟩) hS.2.2 dX12_costOf_139
  · skip
    have t13881 := cv_eq (a := z13852.toInt) rfl (b := 116) (by decide) c13861
    refine lv_lload hx hb dX12_costOf_36 (lv_at hl 0 rfl) ?_
    refine lv_aload_n hx hb dX12_costOf_38 rfl (lv_at hl 3 rfl) ?_
    refine va_get (D := (dC, dI)) (ci := 12) (v := .ref (g 39)) (C := RX12) (T := TX12) (N := 63) hx hb hwd inA_X12 hown hK hP 0 rfl rfl 53 (by decide) (hwd _ wk_221) (fun _ h9 => h9) rfl dX12_costOf_39 ?_
    refine lv_iload hx hb dX12_costOf_42 (lv_at hl 2 rfl) ?_
    refine va_iald hx hb hK hP 39 38 rfl rfl (i := z13849) (vin (a := z13849.toInt) rfl (by omega)) dX12_costOf_44 ?_
    refine lv_topi (fun z13882 e13883 => ?_)
    have e13883 : z13882 = F 39 (z13849 : Int32).toNatClampNeg := e13883.trans (congrFun (hF 39 (by decide)) _)
    refine lv_i2l hx hb dX12_costOf_45 rfl ?_
    refine lv_topl (fun z13884 e13885 => ?_)
    refine W.lcmp hx hb dX12_costOf_46 ?_
    refine lv_topi (fun z13886 e13887 => ?_)
    refine lv_if_ge (tgt := 55) hx hb dX12_costOf_47 (by decide) (fun c13888 => ?_) (fun c13888 => ?_)
    · skip
      have t13889 := cv_le (a := 0) (by decide) (b := z13886.toInt) rfl c13888
      refine lv_aload_n hx hb dX12_costOf_55 rfl (lv_at hl 3 rfl) ?_
      refine va_get (D := (dC, dI)) (ci := 12) (v := .ref (g 39)) (C := RX12) (T := TX12) (N := 63) hx hb hwd inA_X12 hown hK hP 0 rfl rfl 53 (by decide) (hwd _ wk_221) (fun _ h9 => h9) rfl dX12_costOf_56 ?_
      refine lv_iload hx hb dX12_costOf_59 (lv_at hl 2 rfl) ?_
      refine va_iald hx hb hK hP 39 38 rfl rfl (i := z13849) (vin (a := z13849.toInt) rfl (by omega)) dX12_costOf_61 ?_
      refine lv_topi (fun z13890 e13891 => ?_)
      have e13891 : z13890 = F 39 (z13849 : Int32).toNatClampNeg := e13891.trans (congrFun (hF 39 (by decide)) _)
      refine lv_i2l hx hb dX12_costOf_62 rfl ?_
      refine lv_topl (fun z13892 e13893 => ?_)
      refine lv_lstore (lv' := [(9, .long z13892), (7, .long z13859), (6, .int z13852), (5, .int z13849), (0, .ref (g 0)), (1, .int p0), (2, .int p1), (3, .int p2), (4, .int p3)]) hx hb dX12_costOf_63 hl (by decide) rfl (fun ls hl => ?_)
      refine lv_lload hx hb dX12_costOf_65 (lv_at hl 0 rfl) ?_
      refine lv_aload_n hx hb dX12_costOf_67 rfl (lv_at hl 4 rfl) ?_
      refine va_get (D := (dC, dI)) (ci := 12) (v := .ref (g 36)) (C := RX12) (T := TX12) (N := 63) hx hb hwd inA_X12 hown hK hP 0 rfl rfl 50 (by decide) (hwd _ wk_218) (fun _ h9 => h9) rfl dX12_costOf_68 ?_
      refine lv_iload_n hx hb dX12_costOf_71 rfl (lv_at hl 5 rfl) ?_
      refine va_iald hx hb hK hP 36 35 rfl rfl (i := p0) (vin (a := p0.toInt) rfl (by omega)) dX12_costOf_72 ?_
      refine lv_topi (fun z13894 e13895 => ?_)
      have e13895 : z13894 = F 36 (p0 : Int32).toNatClampNeg := e13895.trans (congrFun (hF 36 (by decide)) _)
      refine lv_i2l hx hb dX12_costOf_73 rfl ?_
      refine lv_topl (fun z13896 e13897 => ?_)
      refine lv_lmul hx hb dX12_costOf_74 ?_
      refine lv_topl (fun z13898 e13899 => ?_)
      refine lv_lload hx hb dX12_costOf_75 (lv_at hl 1 rfl) ?_
      refine lv_lload hx hb dX12_costOf_77 (lv_at hl 0 rfl) ?_
      refine lv_lsub hx hb dX12_costOf_79 ?_
      refine lv_topl (fun z13900 e13901 => ?_)
      refine lv_aload_n hx hb dX12_costOf_80 rfl (lv_at hl 4 rfl) ?_
      refine va_get (D := (dC, dI)) (ci := 12) (v := .ref (g 36)) (C := RX12) (T := TX12) (N := 63) hx hb hwd inA_X12 hown hK hP 0 rfl rfl 50 (by decide) (hwd _ wk_218) (fun _ h9 => h9) rfl dX12_costOf_81 ?_
      refine lv_iload_n hx hb dX12_costOf_84 rfl (lv_at hl 5 rfl) ?_
      refine va_iald hx hb hK hP 36 35 rfl rfl (i := p0) (vin (a := p0.toInt) rfl (by omega)) dX12_costOf_85 ?_
      refine lv_topi (fun z13902 e13903 => ?_)
      have e13903 : z13902 = F 36 (p0 : Int32).toNatClampNeg := e13903.trans (congrFun (hF 36 (by decide)) _)
      refine lv_i2l hx hb dX12_costOf_86 rfl ?_
      refine lv_topl (fun z13904 e13905 => ?_)
      refine lv_aload_n hx hb dX12_costOf_87 rfl (lv_at hl 4 rfl) ?_
      refine va_get (D := (dC, dI)) (ci := 12) (v := .ref (g 40)) (C := RX12) (T := TX12) (N := 63) hx hb hwd inA_X12 hown hK hP 0 rfl rfl 54 (by decide) (hwd _ wk_222) (fun _ h9 => h9) rfl dX12_costOf_88 ?_
      refine lv_iload hx hb dX12_costOf_91 (lv_at hl 3 rfl) ?_
      refine va_iald hx hb hK hP 40 39 rfl rfl (i := z13849) (vin (a := z13849.toInt) rfl (by omega)) dX12_costOf_93 ?_
      refine lv_topi (fun z13906 e13907 => ?_)
      have e13907 : z13906 = F 40 (z13849 : Int32).toNatClampNeg := e13907.trans (congrFun (hF 40 (by decide)) _)
      refine lv_i2l hx hb dX12_costOf_94 rfl ?_
      refine lv_topl (fun z13908 e13909 => ?_)
      refine lv_lmul hx hb dX12_costOf_95 ?_
      refine lv_topl (fun z13910 e13911 => ?_)
      refine lv_ldc2 (v := 100) hx hb hown (hwd _ wk_495) dX12_costOf_96 ?_
      refine lv_ldiv hx hb dX12_costOf_99 (by decide) ?_
      refine lv_topl (fun z13912 e13913 => ?_)
      refine lv_lmul hx hb dX12_costOf_100 ?_
      refine lv_topl (fun z13914 e13915 => ?_)
      refine lv_ladd hx hb dX12_costOf_101 ?_
      refine lv_topl (fun z13916 e13917 => ?_)
      refine va_calli (va_runS (As := [.long z13916]) (rest := []) ⟨hx, hb, hml, hown, hwd⟩ (c_X12_held l dC dI g c adK adV v13855 F13856 rc H.size z13916 hg hI ) (va_cwS 1 hwd (gT wk_523 wk_521 wk_522 wk_5) rfl rfl rfl (by decide +kernel) ⟨Nat.le_of_ble_eq_true rfl, Nat.le_of_ble_eq_true rfl⟩) ⟨PM.blind, fun U hU hW => ⟨rfl, PM.at hK hE hP hS hU hW⟩⟩ rfl rfl hl.1 rfl (lv_room (Nat.le_of_ble_eq_true rfl)) dX12_costOf_102 ⟨Nat.le_of_ble_eq_true rfl, Nat.le_of_ble_eq_true rfl⟩) hS (fun q _ h => (freeM hS) q h) (freeM hS) (fun r13918 u t H1 locs ht hvm hw hB hz1 hk1 hS => ?_)
      unfold BM at hB
      rw [ht] at hB
      have hP : va_P (dC, dI) classes (wM g c v13855 F13856 rc) H1 := hB
      clear hz1
      generalize H1 = H at hP hS ⊢
      have rr_r13918 := i32_rng r13918
      have hP9 : va_P (dC, dI) classes (wM g c v13855 F13856 rc) H := hP
      exact W.iret (v := r13918) hx hb hr (fun t ht hW => ⟨⟨r13918, (v13855, F13856, rc), rfl, ⟨hI, rfl, (frC (by decide) hf13857 (fun _ _ => rfl)), hF, trivial⟩, (by show va_P _ _ _ t.heap; rw [ht]; exact hP9)⟩, hS.F ht⟩) hS.2.2 dX12_costOf_105
    · skip
      have t13919 := cv_nle (a := 0) (by decide) (b := z13886.toInt) rfl c13888
      refine lv_lload hx hb dX12_costOf_50 (lv_at hl 0 rfl) ?_
      refine lv_goto (tgt := 63) hx hb dX12_costOf_52 (by decide) ?_
      refine lv_lstore (lv' := [(9, .long z13859), (7, .long z13859), (6, .int z13852), (5, .int z13849), (0, .ref (g 0)), (1, .int p0), (2, .int p1), (3, .int p2), (4, .int p3)]) hx hb dX12_costOf_63 hl (by decide) rfl (fun ls hl => ?_)
      refine lv_lload hx hb dX12_costOf_65 (lv_at hl 0 rfl) ?_
      refine lv_aload_n hx hb dX12_costOf_67 rfl (lv_at hl 4 rfl) ?_
      refine va_get (D := (dC, dI)) (ci := 12) (v := .ref (g 36)) (C := RX12) (T := TX12) (N := 63) hx hb hwd inA_X12 hown hK hP 0 rfl rfl 50 (by decide) (hwd _ wk_218) (fun _ h9 => h9) rfl dX12_costOf_68 ?_
      refine lv_iload_n hx hb dX12_costOf_71 rfl (lv_at hl 5 rfl) ?_
      refine va_iald hx hb hK hP 36 35 rfl rfl (i := p0) (vin (a := p0.toInt) rfl (by omega)) dX12_costOf_72 ?_
      refine lv_topi (fun z13920 e13921 => ?_)
      have e13921 : z13920 = F 36 (p0 : Int32).toNatClampNeg := e13921.trans (congrFun (hF 36 (by decide)) _)
      refine lv_i2l hx hb dX12_costOf_73 rfl ?_
      refine lv_topl (fun z13922 e13923 => ?_)
      refine lv_lmul hx hb dX12_costOf_74 ?_
      refine lv_topl (fun z13924 e13925 => ?_)
      refine lv_lload hx hb dX12_costOf_75 (lv_at hl 1 rfl) ?_
      refine lv_lload hx hb dX12_costOf_77 (lv_at hl 0 rfl) ?_
      refine lv_lsub hx hb dX12_costOf_79 ?_
      refine lv_topl (fun z13926 e13927 => ?_)
      refine lv_aload_n hx hb dX12_costOf_80 rfl (lv_at hl 4 rfl) ?_
      refine va_get (D := (dC, dI)) (ci := 12) (v := .ref (g 36)) (C := RX12) (T := TX12) (N := 63) hx hb hwd inA_X12 hown hK hP 0 rfl rfl 50 (by decide) (hwd _ wk_218) (fun _ h9 => h9) rfl dX12_costOf_81 ?_
      refine lv_iload_n hx hb dX12_costOf_84 rfl (lv_at hl 5 rfl) ?_
      refine va_iald hx hb hK hP 36 35 rfl rfl (i := p0) (vin (a := p0.toInt) rfl (by omega)) dX12_costOf_85 ?_
      refine lv_topi (fun z13928 e13929 => ?_)
      have e13929 : z13928 = F 36 (p0 : Int32).toNatClampNeg := e13929.trans (congrFun (hF 36 (by decide)) _)
      refine lv_i2l hx hb dX12_costOf_86 rfl ?_
      refine lv_topl (fun z13930 e13931 => ?_)
      refine lv_aload_n hx hb dX12_costOf_87 rfl (lv_at hl 4 rfl) ?_
      refine va_get (D := (dC, dI)) (ci := 12) (v := .ref (g 40)) (C := RX12) (T := TX12) (N := 63) hx hb hwd inA_X12 hown hK hP 0 rfl rfl 54 (by decide) (hwd _ wk_222) (fun _ h9 => h9) rfl dX12_costOf_88 ?_
      refine lv_iload hx hb dX12_costOf_91 (lv_at hl 3 rfl) ?_
      refine va_iald hx hb hK hP 40 39 rfl rfl (i := z13849) (vin (a := z13849.toInt) rfl (by omega)) dX12_costOf_93 ?_
      refine lv_topi (fun z13932 e13933 => ?_)
      have e13933 : z13932 = F 40 (z13849 : Int32).toNatClampNeg := e13933.trans (congrFun (hF 40 (by decide)) _)
      refine lv_i2l hx hb dX12_costOf_94 rfl ?_
      refine lv_topl (fun z13934 e13935 => ?_)
      refine lv_lmul hx hb dX12_costOf_95 ?_
      refine lv_topl (fun z13936 e13937 => ?_)
      refine lv_ldc2 (v := 100) hx hb hown (hwd _ wk_495) dX12_costOf_96 ?_
      refine lv_ldiv hx hb dX12_costOf_99 (by decide) ?_
      refine lv_topl (fun z13938 e13939 => ?_)
      refine lv_lmul hx hb dX12_costOf_100 ?_
      refine lv_topl (fun z13940 e13941 => ?_)
      refine lv_ladd hx hb dX12_costOf_101 ?_
      refine lv_topl (fun z13942 e13943 => ?_)
      refine va_calli (va_runS (As := [.long z13942]) (rest := []) ⟨hx, hb, hml, hown, hwd⟩ (c_X12_held l dC dI g c adK adV v13855 F13856 rc H.size z13942 hg hI ) (va_cwS 1 hwd (gT wk_523 wk_521 wk_522 wk_5) rfl rfl rfl (by decide +kernel) ⟨Nat.le_of_ble_eq_true rfl, Nat.le_of_ble_eq_true rfl⟩) ⟨PM.blind, fun U hU hW => ⟨rfl, PM.at hK hE hP hS hU hW⟩⟩ rfl rfl hl.1 rfl (lv_room (Nat.le_of_ble_eq_true rfl)) dX12_costOf_102 ⟨Nat.le_of_ble_eq_true rfl, Nat.le_of_ble_eq_true rfl⟩) hS (fun q _ h => (freeM hS) q h) (freeM hS) (fun r13944 u t H1 locs ht hvm hw hB hz1 hk1 hS => ?_)
      unfold BM at hB
      rw [ht] at hB
      have hP : va_P (dC, dI) classes (wM g c v13855 F13856 rc) H1 := hB
      clear hz1
      generalize H1 = H at hP hS ⊢
      have rr_r13944 := i32_rng r13944
      have hP9 : va_P (dC, dI) classes (wM g c v13855 F13856 rc) H := hP
      exact W.iret (v := r13944) hx hb hr (fun t ht hW => ⟨⟨r13944, (v13855, F13856, rc), rfl, ⟨hI, rfl, (frC (by decide) hf13857 (fun _ _ => rfl)), hF, trivial⟩, (by show va_P _ _ _ t.heap; rw [ht]; exact hP9)⟩, hS.F ht⟩) hS.2.2 dX12_costOf_105
set_option maxHeartbeats 8000000 in
set_option maxRecDepth 100000 in
theorem c_X12_costOfAll (l : Launch) (dC : Nat → ClassId) (dI : Nat → Nat → Nat) (g : Nat → Nat) (c : Nat → ClassId) (adK adV : Nat → Nat) (v : Nat → Int32) (F : Nat → Nat → Int32) (rc sz : Nat) (p0 : Int32) (p1 : Int32) (p2 : Int32) (hg : injM g) (hI : IM v F) (h0 : 0 ≤ p0.toInt ∧ p0.toInt ≤ 9) (hL : JL (v 31) (F 28) (F 29) (F 27)) : Met l yX12_costOfAll (Cond.code yX12_costOfAll cX12_costOfAll 7 (some .int) :: wA) ({ frames := 7, cells := 0, slots := 0, locals := 280 }) (va_Pc [.ref (g 0), .int p0, .int p1, .int p2] (PM dC dI g c adK adV v F rc sz)) (va_Qi (fun (r : Int32) (u : StM) => IM u.1 u.2.1 ∧ u.2.2 = rc ∧ (∀ k, k ∉ ([] : List Nat) → u.1 k = v k) ∧ (∀ k, k ∉ ([30, 31] : List Nat) → u.2.1 k = F k) ∧ True) (BM dC dI g c) (AM g sz)) 0 0 (AM g sz) := by
  refine Met.ofW (cc := cX12_costOfAll) (maxL := 7) (ret := (some .int)) (by decide) rfl ?_
  intro p e s m args below meth c0 s₁ B hml hv
  obtain ⟨rfl, hsz, hP, hK, hE⟩ := hv
  have hx := B.exec
  have hb := B.bytes
  have hr := B.returns
  have hts := atoms_spec (ws := Cond.code yX12_costOfAll cX12_costOfAll 7 (some .int) :: wA) B.pre
  have hwd : ∀ w ∈ wA, w.before _ s = true := fun w h => hts w (List.mem_cons_of_mem _ h)
  have hown : s.vm.findClass RX12 = some m.cls := findClass_of_methodNamed B.named
  have hlocks := B.notSynchronized
  subst hsz
  have hl := lv_entry ([.ref (g 0), .int p0, .int p1, .int p2]) (n := 7) (Nat.le_of_ble_eq_true rfl)
  rw [lg_entry_eq]
  generalize (lg_sl ([.ref (g 0), .int p0, .int p1, .int p2]) ++ List.replicate (7 - (lg_sl ([.ref (g 0), .int p0, .int p1, .int p2])).length) Slot.unset).toArray = ls at hl ⊢
  have hl : lv_has ls 7 [(0, .ref (g 0)), (1, .int p0), (2, .int p1), (3, .int p2)] := hl
  obtain ⟨H, eH⟩ : ∃ z, z = s.heap := ⟨_, rfl⟩
  have hP : va_P (dC, dI) classes (wM g c v F rc) H := by rw [eH]; exact hP
  have hS : va_S (AM g s.heap.size) s.heap H [] := by rw [eH]; exact va_S.rf
  refine my_heap eH ?_
  have hF : ∀ k, k ∉ ([30, 31] : List Nat) → F k = F k := fun _ _ => rfl
  have rp0 := i32_rng p0
  have rp1 := i32_rng p1
  have rp2 := i32_rng p2
  have hb31 : 0 ≤ (v 31).toInt ∧ (v 31).toInt ≤ 10 := hI.1 31 _ _ rfl
  refine lv_lconst (v := 0) hx hb dX12_costOfAll_0 (by decide) ?_
  refine lv_lstore (lv' := [(4, .long 0), (0, .ref (g 0)), (1, .int p0), (2, .int p1), (3, .int p2)]) hx hb dX12_costOfAll_1 hl (by decide) rfl (fun ls hl => ?_)
  refine lv_iconst (v := 0) hx hb dX12_costOfAll_3 (by decide) ?_
  refine lv_istore (lv' := [(6, .int 0), (4, .long 0), (0, .ref (g 0)), (1, .int p0), (2, .int p1), (3, .int p2)]) hx hb dX12_costOfAll_4 hl (by decide) rfl (fun ls hl => ?_)
  have lp13966 : ∀ (n : Nat) (x6_lp13966 : Int32) (x4_lp13966 : Int64) (v_lp13966 : Nat → Int32) (F_lp13966 : Nat → Nat → Int32) (H : Heap) (locs : List Loc) (ls : Array Slot), (0 ≤ x6_lp13966.toInt) → (2147483648 - x6_lp13966.toInt ≤ (n : Int)) → (∀ k, k ∉ ([] : List Nat) → v_lp13966 k = v k) → IM v_lp13966 F_lp13966 → (∀ k, k ∉ ([30, 31] : List Nat) → F_lp13966 k = F k) → va_P (dC, dI) classes (wM g c v_lp13966 F_lp13966 rc) H → va_S (AM g s.heap.size) s.heap H locs → lv_has ls 7 [(6, .int x6_lp13966), (4, .long x4_lp13966), (0, .ref (g 0)), (1, .int p0), (2, .int p1), (3, .int p2)] → W p l e (headSpec (Cond.code yX12_costOfAll cX12_costOfAll 7 (some .int) :: wA) ({ frames := 7, cells := 0, slots := 0, locals := 280 })).room s m ([.ref (g 0), .int p0, .int p1, .int p2] : List Value).toArray below meth c0 H locs 0 0 (MQ below (va_Qi (fun (r : Int32) (u : StM) => IM u.1 u.2.1 ∧ u.2.2 = rc ∧ (∀ k, k ∉ ([] : List Nat) → u.1 k = v k) ∧ (∀ k, k ∉ ([30, 31] : List Nat) → u.2.1 k = F k) ∧ True) (BM dC dI g c) (AM g s.heap.size)) ([.ref (g 0), .int p0, .int p1, .int p2] : List Value).toArray s 0 0 (AM g s.heap.size)) (F0 m 6 ls []) := by
    intro n
    induction n with
    | zero =>
      intro x6_lp13966 x4_lp13966 v_lp13966 F_lp13966 H locs ls t13967 hm hf_lp13966 hI hF hP hS hl
      exfalso
      have := i32_rng x6_lp13966
      have hI1 := hI.1
      omega
    | succ n ih_lp13966 =>
      intro x6_lp13966 x4_lp13966 v_lp13966 F_lp13966 H locs ls t13967 hm hf_lp13966 hI hF hP hS hl
      have rx6_lp13966 := i32_rng x6_lp13966
      refine lv_iload hx hb dX12_costOfAll_6 (lv_at hl 0 rfl) ?_
      refine lv_aload_n hx hb dX12_costOfAll_8 rfl (lv_at hl 2 rfl) ?_
      refine va_get (D := (dC, dI)) (ci := 12) (v := .ref (g 37)) (C := RX12) (T := TX12) (N := 63) hx hb hwd inA_X12 hown hK hP 0 rfl rfl 51 (by decide) (hwd _ wk_219) (fun _ h9 => h9) rfl dX12_costOfAll_9 ?_
      refine lv_iload_n hx hb dX12_costOfAll_12 rfl (lv_at hl 3 rfl) ?_
      refine va_iald hx hb hK hP 37 36 rfl rfl (i := p0) (vin (a := p0.toInt) rfl (by omega)) dX12_costOfAll_13 ?_
      refine lv_topi (fun z13968 e13969 => ?_)
      have t13970 : 0 ≤ z13968.toInt ∧ z13968.toInt ≤ 31 := by rw [e13969]; exact hI.2 37 _ _ rfl _
      have e13969 : z13968 = F 37 (p0 : Int32).toNatClampNeg := e13969.trans (congrFun (hF 37 (by decide)) _)
      refine lv_icmp_ge (tgt := 38) hx hb dX12_costOfAll_14 (by decide) (fun c13971 => ?_) (fun c13971 => ?_)
      · skip
        have t13972 := cv_le (a := z13968.toInt) rfl (b := x6_lp13966.toInt) rfl c13971
        refine lv_lload hx hb dX12_costOfAll_38 (lv_at hl 1 rfl) ?_
        refine va_calli (va_runS (As := [.long x4_lp13966]) (rest := []) ⟨hx, hb, hml, hown, hwd⟩ (c_X12_held l dC dI g c adK adV v_lp13966 F_lp13966 rc H.size x4_lp13966 hg hI ) (va_cwS 1 hwd (gT wk_523 wk_521 wk_522 wk_5) rfl rfl rfl (by decide +kernel) ⟨Nat.le_of_ble_eq_true rfl, Nat.le_of_ble_eq_true rfl⟩) ⟨PM.blind, fun U hU hW => ⟨rfl, PM.at hK hE hP hS hU hW⟩⟩ rfl rfl hl.1 rfl (lv_room (Nat.le_of_ble_eq_true rfl)) dX12_costOfAll_40 ⟨Nat.le_of_ble_eq_true rfl, Nat.le_of_ble_eq_true rfl⟩) hS (fun q _ h => (freeM hS) q h) (freeM hS) (fun r13973 u t H1 locs ht hvm hw hB hz1 hk1 hS => ?_)
        unfold BM at hB
        rw [ht] at hB
        have hP : va_P (dC, dI) classes (wM g c v_lp13966 F_lp13966 rc) H1 := hB
        clear hz1
        generalize H1 = H at hP hS ⊢
        have rr_r13973 := i32_rng r13973
        have hP9 : va_P (dC, dI) classes (wM g c v_lp13966 F_lp13966 rc) H := hP
        exact W.iret (v := r13973) hx hb hr (fun t ht hW => ⟨⟨r13973, (v_lp13966, F_lp13966, rc), rfl, ⟨hI, rfl, (frC (by decide) hf_lp13966 (fun _ _ => rfl)), hF, trivial⟩, (by show va_P _ _ _ t.heap; rw [ht]; exact hP9)⟩, hS.F ht⟩) hS.2.2 dX12_costOfAll_43
      · skip
        have t13974 := cv_nle (a := z13968.toInt) rfl (b := x6_lp13966.toInt) rfl c13971
        refine lv_lload hx hb dX12_costOfAll_17 (lv_at hl 1 rfl) ?_
        refine lv_aload_n hx hb dX12_costOfAll_19 rfl (lv_at hl 2 rfl) ?_
        refine lv_iload_n hx hb dX12_costOfAll_20 rfl (lv_at hl 3 rfl) ?_
        refine lv_iload hx hb dX12_costOfAll_21 (lv_at hl 0 rfl) ?_
        refine lv_iload_n hx hb dX12_costOfAll_23 rfl (lv_at hl 4 rfl) ?_
        refine lv_iload_n hx hb dX12_costOfAll_24 rfl (lv_at hl 5 rfl) ?_
        refine va_calli (va_runV (As := [.int p0, .int x6_lp13966, .int p1, .int p2]) (rest := [.long x4_lp13966]) ⟨hx, hb, hml, hown, hwd⟩ (c_X12_costOf l dC dI g c adK adV v_lp13966 F_lp13966 rc H.size p0 x6_lp13966 p1 p2 hg hI (by omega) (by omega) (JL.to hL (show v_lp13966 31 = v 31 from hf_lp13966 31 (by decide)) (hF 28 (by decide)) (hF 29 (by decide)) (hF 27 (by decide)))) (cwV 4 hwd (gV wk_1251 wk_1248 wk_1249 wk_1250 wk_5) rfl rfl rfl (by decide +kernel) ⟨Nat.le_of_ble_eq_true rfl, Nat.le_of_ble_eq_true rfl⟩) ⟨PM.blind, va_recv hK hP (ci := 12) (q0 := 0) rfl rfl, fun U hU hW => ⟨rfl, PM.at hK hE hP hS hU hW⟩⟩ rfl rfl hl.1 rfl (lv_room (Nat.le_of_ble_eq_true rfl)) dX12_costOfAll_25 ⟨Nat.le_of_ble_eq_true rfl, Nat.le_of_ble_eq_true rfl⟩) hS (fun q _ h => (freeM hS) q h) (freeM hS) (fun r13975 u t H1 locs ht hvm hw hB hz1 hk1 hS => ?_)
        unfold BM at hB
        rw [ht] at hB
        obtain ⟨v13976, F13977, rc9⟩ := u
        obtain ⟨hI, hrc, hf13978, hG13979, hw⟩ := hw
        dsimp only at hI hrc hB hf13978 hG13979 hw
        have hF := frCF (by decide) hG13979 hF
        rw [hrc] at hB
        have hP : va_P (dC, dI) classes (wM g c v13976 F13977 rc) H1 := hB
        clear hz1
        generalize H1 = H at hP hS ⊢
        have rr_r13975 := i32_rng r13975
        refine lv_i2l hx hb dX12_costOfAll_28 rfl ?_
        refine lv_topl (fun z13980 e13981 => ?_)
        refine lv_ladd hx hb dX12_costOfAll_29 ?_
        refine lv_topl (fun z13982 e13983 => ?_)
        refine lv_lstore (lv' := [(4, .long z13982), (6, .int x6_lp13966), (0, .ref (g 0)), (1, .int p0), (2, .int p1), (3, .int p2)]) hx hb dX12_costOfAll_30 hl (by decide) rfl (fun ls hl => ?_)
        obtain ⟨z13984, e13985⟩ : ∃ y : Int32, y = x6_lp13966 + 1 := ⟨_, rfl⟩
        try (have t13986 := tadd e13985 rfl (b := 1) (by decide) (by omega))
        refine lv_iinc (v := z13984) (lv' := [(6, .int z13984), (4, .long z13982), (0, .ref (g 0)), (1, .int p0), (2, .int p1), (3, .int p2)]) hx hb dX12_costOfAll_32 hl (k := 1) rfl (by rw [e13985]; rfl) (by decide) rfl (fun ls hl => ?_)
        refine lv_goto (tgt := 6) hx hb dX12_costOfAll_35 (by decide) ?_
        exact ih_lp13966 z13984 z13982 v13976 F13977 _ _ _ (by omega) (by omega) (frC (by decide) hf13978 hf_lp13966) hI hF hP hS (lv_sub hl [0, 1, 2, 3, 4, 5] rfl)
  obtain ⟨n9, hn9⟩ : ∃ n : Nat, 2147483648 - 0 ≤ (n : Int) := ⟨((2147483648 - 0 : Int)).toNat, by omega⟩
  exact lp13966 n9 0 0 v F H _ ls (by have : (0 : Int32).toInt = 0 := (by decide); omega) (by have : (0 : Int32).toInt = 0 := (by decide); omega) (fun _ _ => rfl) hI hF hP hS hl
set_option maxHeartbeats 8000000 in
set_option maxRecDepth 100000 in
theorem c_X12_lacks (l : Launch) (dC : Nat → ClassId) (dI : Nat → Nat → Nat) (g : Nat → Nat) (c : Nat → ClassId) (adK adV : Nat → Nat) (v : Nat → Int32) (F : Nat → Nat → Int32) (rc sz : Nat) (p0 : Int32) (p1 : Int32) (p2 : Int32) (p3 : Int32) (hg : injM g) (hI : IM v F) (hL : JL (v 31) (F 28) (F 29) (F 27)) : Met l yX12_lacks (Cond.code yX12_lacks cX12_lacks 5 (some .int) :: wA) ({ frames := 6, cells := 0, slots := 0, locals := 240 }) (va_Pc [.ref (g 0), .int p0, .int p1, .int p2, .int p3] (PM dC dI g c adK adV v F rc sz)) (va_Qi (fun (r : Int32) (u : StM) => IM u.1 u.2.1 ∧ u.2.2 = rc ∧ (∀ k, k ∉ ([] : List Nat) → u.1 k = v k) ∧ (∀ k, k ∉ ([30, 31, 42] : List Nat) → u.2.1 k = F k) ∧ True) (BM dC dI g c) (AM g sz)) 0 0 (AM g sz) := by
  refine Met.ofW (cc := cX12_lacks) (maxL := 5) (ret := (some .int)) (by decide) rfl ?_
  intro p e s m args below meth c0 s₁ B hml hv
  obtain ⟨rfl, hsz, hP, hK, hE⟩ := hv
  have hx := B.exec
  have hb := B.bytes
  have hr := B.returns
  have hts := atoms_spec (ws := Cond.code yX12_lacks cX12_lacks 5 (some .int) :: wA) B.pre
  have hwd : ∀ w ∈ wA, w.before _ s = true := fun w h => hts w (List.mem_cons_of_mem _ h)
  have hown : s.vm.findClass RX12 = some m.cls := findClass_of_methodNamed B.named
  have hlocks := B.notSynchronized
  subst hsz
  have hl := lv_entry ([.ref (g 0), .int p0, .int p1, .int p2, .int p3]) (n := 5) (Nat.le_of_ble_eq_true rfl)
  rw [lg_entry_eq]
  generalize (lg_sl ([.ref (g 0), .int p0, .int p1, .int p2, .int p3]) ++ List.replicate (5 - (lg_sl ([.ref (g 0), .int p0, .int p1, .int p2, .int p3])).length) Slot.unset).toArray = ls at hl ⊢
  have hl : lv_has ls 5 [(0, .ref (g 0)), (1, .int p0), (2, .int p1), (3, .int p2), (4, .int p3)] := hl
  obtain ⟨H, eH⟩ : ∃ z, z = s.heap := ⟨_, rfl⟩
  have hP : va_P (dC, dI) classes (wM g c v F rc) H := by rw [eH]; exact hP
  have hS : va_S (AM g s.heap.size) s.heap H [] := by rw [eH]; exact va_S.rf
  refine my_heap eH ?_
  have hF : ∀ k, k ∉ ([30, 31, 42] : List Nat) → F k = F k := fun _ _ => rfl
  have rp0 := i32_rng p0
  have rp1 := i32_rng p1
  have rp2 := i32_rng p2
  have rp3 := i32_rng p3
  have hb31 : 0 ≤ (v 31).toInt ∧ (v 31).toInt ≤ 10 := hI.1 31 _ _ rfl
  refine lv_aload_n hx hb dX12_lacks_0 rfl (lv_at hl 0 rfl) ?_
  refine lv_iload_n hx hb dX12_lacks_1 rfl (lv_at hl 1 rfl) ?_
  have t14026 : 0 ≤ (v 6).toInt ∧ (v 6).toInt ≤ 10 := hI.1 6 _ _ rfl
  refine va_calli (va_runV (As := [.int p0]) (rest := []) ⟨hx, hb, hml, hown, hwd⟩ (c_X12_isPlane l dC dI g c adK adV v F rc H.size p0 hg hI ) (cwV 1 hwd (gV wk_305 wk_302 wk_303 wk_304 wk_5) rfl rfl rfl (by decide +kernel) ⟨Nat.le_of_ble_eq_true rfl, Nat.le_of_ble_eq_true rfl⟩) ⟨PM.blind, va_recv hK hP (ci := 12) (q0 := 0) rfl rfl, fun U hU hW => ⟨rfl, PM.at hK hE hP hS hU hW⟩⟩ rfl rfl hl.1 rfl (lv_room (Nat.le_of_ble_eq_true rfl)) dX12_lacks_2 ⟨Nat.le_of_ble_eq_true rfl, Nat.le_of_ble_eq_true rfl⟩) hS (fun q _ h => (freeM hS) q h) (freeM hS) (fun r14027 u t H1 locs ht hvm hw hB hz1 hk1 hS => ?_)
  unfold BM at hB
  rw [ht] at hB
  have hP : va_P (dC, dI) classes (wM g c v F rc) H1 := hB
  replace hw : (r14027.toInt = 1 ∧ 0 ≤ p0.toInt ∧ p0.toInt < (v 6).toInt) ∨ (r14027.toInt = 0 ∧ (p0.toInt < 0 ∨ (v 6).toInt ≤ p0.toInt)) := hw
  have hw_r14027 := hw
  clear hw
  clear hz1
  generalize H1 = H at hP hS ⊢
  refine lv_if_eq (tgt := 47) hx hb dX12_lacks_5 (by decide) (fun c14028 => ?_) (fun c14028 => ?_)
  · skip
    have t14029 := cv_eq (a := r14027.toInt) rfl (b := 0) (by decide) c14028
    refine lv_iconst (v := (-1)) hx hb dX12_lacks_47 (by decide) ?_
    have hP9 : va_P (dC, dI) classes (wM g c v F rc) H := hP
    exact W.iret (v := (-1)) hx hb hr (fun t ht hW => ⟨⟨(-1), (v, F, rc), rfl, ⟨hI, rfl, (fun _ _ => rfl), hF, trivial⟩, (by show va_P _ _ _ t.heap; rw [ht]; exact hP9)⟩, hS.F ht⟩) hS.2.2 dX12_lacks_48
  · skip
    have t14030 := cv_ne (a := r14027.toInt) rfl (b := 0) (by decide) c14028
    refine lv_aload_n hx hb dX12_lacks_8 rfl (lv_at hl 0 rfl) ?_
    refine lv_iload_n hx hb dX12_lacks_9 rfl (lv_at hl 1 rfl) ?_
    refine va_calli (va_runV (As := [.int p0]) (rest := []) ⟨hx, hb, hml, hown, hwd⟩ (c_X12_hasContract l dC dI g c adK adV v F rc H.size p0 hg hI (by omega)) (cwV 1 hwd (gV wk_1201 wk_1198 wk_1199 wk_1200 wk_5) rfl rfl rfl (by decide +kernel) ⟨Nat.le_of_ble_eq_true rfl, Nat.le_of_ble_eq_true rfl⟩) ⟨PM.blind, va_recv hK hP (ci := 12) (q0 := 0) rfl rfl, fun U hU hW => ⟨rfl, PM.at hK hE hP hS hU hW⟩⟩ rfl rfl hl.1 rfl (lv_room (Nat.le_of_ble_eq_true rfl)) dX12_lacks_10 ⟨Nat.le_of_ble_eq_true rfl, Nat.le_of_ble_eq_true rfl⟩) hS (fun q _ h => (freeM hS) q h) (freeM hS) (fun r14031 u t H1 locs ht hvm hw hB hz1 hk1 hS => ?_)
    unfold BM at hB
    rw [ht] at hB
    have hP : va_P (dC, dI) classes (wM g c v F rc) H1 := hB
    replace hw : (r14031.toInt = 1 ∧ 0 ≤ (F 35 p0.toNatClampNeg).toInt) ∨ (r14031.toInt = 0 ∧ (F 35 p0.toNatClampNeg).toInt < 0) := hw
    have hw_r14031 := hw
    clear hw
    clear hz1
    generalize H1 = H at hP hS ⊢
    refine lv_if_eq (tgt := 47) hx hb dX12_lacks_13 (by decide) (fun c14032 => ?_) (fun c14032 => ?_)
    · skip
      have t14033 := cv_eq (a := r14031.toInt) rfl (b := 0) (by decide) c14032
      refine lv_iconst (v := (-1)) hx hb dX12_lacks_47 (by decide) ?_
      have hP9 : va_P (dC, dI) classes (wM g c v F rc) H := hP
      exact W.iret (v := (-1)) hx hb hr (fun t ht hW => ⟨⟨(-1), (v, F, rc), rfl, ⟨hI, rfl, (fun _ _ => rfl), hF, trivial⟩, (by show va_P _ _ _ t.heap; rw [ht]; exact hP9)⟩, hS.F ht⟩) hS.2.2 dX12_lacks_48
    · skip
      have t14034 := cv_ne (a := r14031.toInt) rfl (b := 0) (by decide) c14032
      refine lv_iload_n hx hb dX12_lacks_16 rfl (lv_at hl 2 rfl) ?_
      refine lv_iconst (v := 0) hx hb dX12_lacks_17 (by decide) ?_
      refine lv_aload_n hx hb dX12_lacks_18 rfl (lv_at hl 0 rfl) ?_
      refine va_get (D := (dC, dI)) (ci := 12) (v := .ref (g 37)) (C := RX12) (T := TX12) (N := 63) hx hb hwd inA_X12 hown hK hP 0 rfl rfl 51 (by decide) (hwd _ wk_219) (fun _ h9 => h9) rfl dX12_lacks_19 ?_
      refine lv_iload_n hx hb dX12_lacks_22 rfl (lv_at hl 1 rfl) ?_
      refine va_iald hx hb hK hP 37 36 rfl rfl (i := p0) (vin (a := p0.toInt) rfl (by omega)) dX12_lacks_23 ?_
      refine lv_topi (fun z14035 e14036 => ?_)
      have t14037 : 0 ≤ z14035.toInt ∧ z14035.toInt ≤ 31 := by rw [e14036]; exact hI.2 37 _ _ rfl _
      refine lv_iconst (v := 1) hx hb dX12_lacks_24 (by decide) ?_
      refine lv_isub hx hb dX12_lacks_25 ?_
      refine lv_topi (fun z14038 e14039 => ?_)
      try (have t14040 := tsub e14039 (a := z14035.toInt) rfl (b := 1) (by decide) (by omega))
      refine va_calli (va_runS (As := [.int p1, .int 0, .int z14038]) (rest := []) ⟨hx, hb, hml, hown, hwd⟩ (c_X12_in l dC dI g c adK adV v F rc H.size p1 0 z14038 hg hI ) (va_cwS 3 hwd (gT wk_254 wk_252 wk_253 wk_5) rfl rfl rfl (by decide +kernel) ⟨Nat.le_of_ble_eq_true rfl, Nat.le_of_ble_eq_true rfl⟩) ⟨PM.blind, fun U hU hW => ⟨rfl, PM.at hK hE hP hS hU hW⟩⟩ rfl rfl hl.1 rfl (lv_room (Nat.le_of_ble_eq_true rfl)) dX12_lacks_26 ⟨Nat.le_of_ble_eq_true rfl, Nat.le_of_ble_eq_true rfl⟩) hS (fun q _ h => (freeM hS) q h) (freeM hS) (fun r14041 u t H1 locs ht hvm hw hB hz1 hk1 hS => ?_)
      unfold BM at hB
      rw [ht] at hB
      have hP : va_P (dC, dI) classes (wM g c v F rc) H1 := hB
      have hw_r14041 : (r14041.toInt = 1 ∧ (0 : Int32).toInt ≤ p1.toInt ∧ p1.toInt ≤ z14038.toInt) ∨ (r14041.toInt = 0 ∧ (p1.toInt < (0 : Int32).toInt ∨ z14038.toInt < p1.toInt)) := hw
      clear hw
      have k14042 : (0 : Int32).toInt = 0 := by decide
      clear hz1
      generalize H1 = H at hP hS ⊢
      refine lv_if_eq (tgt := 47) hx hb dX12_lacks_29 (by decide) (fun c14043 => ?_) (fun c14043 => ?_)
      · skip
        have t14044 := cv_eq (a := r14041.toInt) rfl (b := 0) (by decide) c14043
        refine lv_iconst (v := (-1)) hx hb dX12_lacks_47 (by decide) ?_
        have hP9 : va_P (dC, dI) classes (wM g c v F rc) H := hP
        exact W.iret (v := (-1)) hx hb hr (fun t ht hW => ⟨⟨(-1), (v, F, rc), rfl, ⟨hI, rfl, (fun _ _ => rfl), hF, trivial⟩, (by show va_P _ _ _ t.heap; rw [ht]; exact hP9)⟩, hS.F ht⟩) hS.2.2 dX12_lacks_48
      · skip
        have t14045 := cv_ne (a := r14041.toInt) rfl (b := 0) (by decide) c14043
        refine lv_iload_n hx hb dX12_lacks_32 rfl (lv_at hl 3 rfl) ?_
        refine va_calli (va_runS (As := [.int p2]) (rest := []) ⟨hx, hb, hml, hown, hwd⟩ (c_X12_isDay l dC dI g c adK adV v F rc H.size p2 hg hI ) (va_cwS 1 hwd (gT wk_556 wk_554 wk_555 wk_5) rfl rfl rfl (by decide +kernel) ⟨Nat.le_of_ble_eq_true rfl, Nat.le_of_ble_eq_true rfl⟩) ⟨PM.blind, fun U hU hW => ⟨rfl, PM.at hK hE hP hS hU hW⟩⟩ rfl rfl hl.1 rfl (lv_room (Nat.le_of_ble_eq_true rfl)) dX12_lacks_33 ⟨Nat.le_of_ble_eq_true rfl, Nat.le_of_ble_eq_true rfl⟩) hS (fun q _ h => (freeM hS) q h) (freeM hS) (fun r14046 u t H1 locs ht hvm hw hB hz1 hk1 hS => ?_)
        unfold BM at hB
        rw [ht] at hB
        have hP : va_P (dC, dI) classes (wM g c v F rc) H1 := hB
        have hw_r14046 : (r14046.toInt = 1 ∧ 0 ≤ p2.toInt ∧ p2.toInt ≤ 9999) ∨ (r14046.toInt = 0 ∧ (p2.toInt < 0 ∨ 9999 < p2.toInt)) := hw
        clear hw
        clear hz1
        generalize H1 = H at hP hS ⊢
        refine lv_if_eq (tgt := 47) hx hb dX12_lacks_36 (by decide) (fun c14047 => ?_) (fun c14047 => ?_)
        · skip
          have t14048 := cv_eq (a := r14046.toInt) rfl (b := 0) (by decide) c14047
          refine lv_iconst (v := (-1)) hx hb dX12_lacks_47 (by decide) ?_
          have hP9 : va_P (dC, dI) classes (wM g c v F rc) H := hP
          exact W.iret (v := (-1)) hx hb hr (fun t ht hW => ⟨⟨(-1), (v, F, rc), rfl, ⟨hI, rfl, (fun _ _ => rfl), hF, trivial⟩, (by show va_P _ _ _ t.heap; rw [ht]; exact hP9)⟩, hS.F ht⟩) hS.2.2 dX12_lacks_48
        · skip
          have t14049 := cv_ne (a := r14046.toInt) rfl (b := 0) (by decide) c14047
          refine lv_iload hx hb dX12_lacks_39 (lv_at hl 4 rfl) ?_
          refine va_calli (va_runS (As := [.int p3]) (rest := []) ⟨hx, hb, hml, hown, hwd⟩ (c_X12_isDay l dC dI g c adK adV v F rc H.size p3 hg hI ) (va_cwS 1 hwd (gT wk_556 wk_554 wk_555 wk_5) rfl rfl rfl (by decide +kernel) ⟨Nat.le_of_ble_eq_true rfl, Nat.le_of_ble_eq_true rfl⟩) ⟨PM.blind, fun U hU hW => ⟨rfl, PM.at hK hE hP hS hU hW⟩⟩ rfl rfl hl.1 rfl (lv_room (Nat.le_of_ble_eq_true rfl)) dX12_lacks_41 ⟨Nat.le_of_ble_eq_true rfl, Nat.le_of_ble_eq_true rfl⟩) hS (fun q _ h => (freeM hS) q h) (freeM hS) (fun r14050 u t H1 locs ht hvm hw hB hz1 hk1 hS => ?_)
          unfold BM at hB
          rw [ht] at hB
          have hP : va_P (dC, dI) classes (wM g c v F rc) H1 := hB
          have hw_r14050 : (r14050.toInt = 1 ∧ 0 ≤ p3.toInt ∧ p3.toInt ≤ 9999) ∨ (r14050.toInt = 0 ∧ (p3.toInt < 0 ∨ 9999 < p3.toInt)) := hw
          clear hw
          clear hz1
          generalize H1 = H at hP hS ⊢
          refine lv_if_ne (tgt := 49) hx hb dX12_lacks_44 (by decide) (fun c14051 => ?_) (fun c14051 => ?_)
          · skip
            have t14052 := cv_ne (a := r14050.toInt) rfl (b := 0) (by decide) c14051
            refine lv_aload_n hx hb dX12_lacks_49 rfl (lv_at hl 0 rfl) ?_
            refine lv_iload_n hx hb dX12_lacks_50 rfl (lv_at hl 1 rfl) ?_
            have t14053 : 0 ≤ (v 14).toInt ∧ (v 14).toInt ≤ 100 := hI.1 14 _ _ rfl
            refine va_callv (va_runV (As := [.int p0]) (rest := []) ⟨hx, hb, hml, hown, hwd⟩ (c_X12_board l dC dI g c adK adV v F rc H.size p0 hg hI ) (cwV 1 hwd (gV wk_1205 wk_1202 wk_1203 wk_1204 wk_5) rfl rfl rfl (by decide +kernel) ⟨Nat.le_of_ble_eq_true rfl, Nat.le_of_ble_eq_true rfl⟩) ⟨PM.blind, va_recv hK hP (ci := 12) (q0 := 0) rfl rfl, fun U hU hW => ⟨rfl, PM.at hK hE hP hS hU hW⟩⟩ rfl rfl hl.1 rfl (lv_room (Nat.le_of_ble_eq_true rfl)) dX12_lacks_51 ⟨Nat.le_of_ble_eq_true rfl, Nat.le_of_ble_eq_true rfl⟩) hS (fun q _ h => (freeM hS) q h) (freeM hS) (fun u t H1 locs ht hvm hw hB hz1 hk1 hS => ?_)
            unfold BM at hB
            rw [ht] at hB
            obtain ⟨v14055, F14056, rc9⟩ := u
            obtain ⟨hI, hrc, hf14057, hG14058, hw⟩ := hw
            dsimp only at hI hrc hB hf14057 hG14058 hw
            have hF := frCF (by decide) hG14058 hF
            rw [hrc] at hB
            have hP : va_P (dC, dI) classes (wM g c v14055 F14056 rc) H1 := hB
            replace hw : ∀ j : Nat, (j : Int) < (v 14).toInt → (F14056 42 j).toInt ≠ 0 → (F 13 j).toInt = p0.toInt := hw
            have hw_r14054 := hw
            clear hw
            clear hz1
            generalize H1 = H at hP hS ⊢
            refine lv_aload_n hx hb dX12_lacks_54 rfl (lv_at hl 0 rfl) ?_
            refine lv_iload_n hx hb dX12_lacks_55 rfl (lv_at hl 1 rfl) ?_
            refine lv_iload_n hx hb dX12_lacks_56 rfl (lv_at hl 2 rfl) ?_
            refine lv_iload_n hx hb dX12_lacks_57 rfl (lv_at hl 3 rfl) ?_
            refine lv_iload hx hb dX12_lacks_58 (lv_at hl 4 rfl) ?_
            refine va_calli (va_runV (As := [.int p0, .int p1, .int p2, .int p3]) (rest := []) ⟨hx, hb, hml, hown, hwd⟩ (c_X12_lacksOf l dC dI g c adK adV v14055 F14056 rc H.size p0 p1 p2 p3 hg hI (by omega) (by omega) (JL.to hL (show v14055 31 = v 31 from hf14057 31 (by decide)) (hF 28 (by decide)) (hF 29 (by decide)) (hF 27 (by decide)))) (cwV 4 hwd (gV wk_1209 wk_1206 wk_1207 wk_1208 wk_5) rfl rfl rfl (by decide +kernel) ⟨Nat.le_of_ble_eq_true rfl, Nat.le_of_ble_eq_true rfl⟩) ⟨PM.blind, va_recv hK hP (ci := 12) (q0 := 0) rfl rfl, fun U hU hW => ⟨rfl, PM.at hK hE hP hS hU hW⟩⟩ rfl rfl hl.1 rfl (lv_room (Nat.le_of_ble_eq_true rfl)) dX12_lacks_60 ⟨Nat.le_of_ble_eq_true rfl, Nat.le_of_ble_eq_true rfl⟩) hS (fun q _ h => (freeM hS) q h) (freeM hS) (fun r14059 u t H1 locs ht hvm hw hB hz1 hk1 hS => ?_)
            unfold BM at hB
            rw [ht] at hB
            obtain ⟨v14060, F14061, rc9⟩ := u
            obtain ⟨hI, hrc, hf14062, hG14063, hw⟩ := hw
            dsimp only at hI hrc hB hf14062 hG14063 hw
            have hF := frCF (by decide) hG14063 hF
            rw [hrc] at hB
            have hP : va_P (dC, dI) classes (wM g c v14060 F14061 rc) H1 := hB
            clear hz1
            generalize H1 = H at hP hS ⊢
            have rr_r14059 := i32_rng r14059
            have hP9 : va_P (dC, dI) classes (wM g c v14060 F14061 rc) H := hP
            exact W.iret (v := r14059) hx hb hr (fun t ht hW => ⟨⟨r14059, (v14060, F14061, rc), rfl, ⟨hI, rfl, (frC (by decide) hf14062 (frC (by decide) hf14057 (fun _ _ => rfl))), hF, trivial⟩, (by show va_P _ _ _ t.heap; rw [ht]; exact hP9)⟩, hS.F ht⟩) hS.2.2 dX12_lacks_63
          · skip
            have t14064 := cv_eq (a := r14050.toInt) rfl (b := 0) (by decide) c14051
            refine lv_iconst (v := (-1)) hx hb dX12_lacks_47 (by decide) ?_
            have hP9 : va_P (dC, dI) classes (wM g c v F rc) H := hP
            exact W.iret (v := (-1)) hx hb hr (fun t ht hW => ⟨⟨(-1), (v, F, rc), rfl, ⟨hI, rfl, (fun _ _ => rfl), hF, trivial⟩, (by show va_P _ _ _ t.heap; rw [ht]; exact hP9)⟩, hS.F ht⟩) hS.2.2 dX12_lacks_48
set_option maxHeartbeats 8000000 in
set_option maxRecDepth 100000 in
theorem c_X12_costs (l : Launch) (dC : Nat → ClassId) (dI : Nat → Nat → Nat) (g : Nat → Nat) (c : Nat → ClassId) (adK adV : Nat → Nat) (v : Nat → Int32) (F : Nat → Nat → Int32) (rc sz : Nat) (p0 : Int32) (p1 : Int32) (p2 : Int32) (p3 : Int32) (hg : injM g) (hI : IM v F) (hL : JL (v 31) (F 28) (F 29) (F 27)) : Met l yX12_costs (Cond.code yX12_costs cX12_costs 5 (some .int) :: wA) ({ frames := 8, cells := 0, slots := 0, locals := 320 }) (va_Pc [.ref (g 0), .int p0, .int p1, .int p2, .int p3] (PM dC dI g c adK adV v F rc sz)) (va_Qi (fun (r : Int32) (u : StM) => IM u.1 u.2.1 ∧ u.2.2 = rc ∧ (∀ k, k ∉ ([] : List Nat) → u.1 k = v k) ∧ (∀ k, k ∉ ([30, 31, 42] : List Nat) → u.2.1 k = F k) ∧ True) (BM dC dI g c) (AM g sz)) 0 0 (AM g sz) := by
  refine Met.ofW (cc := cX12_costs) (maxL := 5) (ret := (some .int)) (by decide) rfl ?_
  intro p e s m args below meth c0 s₁ B hml hv
  obtain ⟨rfl, hsz, hP, hK, hE⟩ := hv
  have hx := B.exec
  have hb := B.bytes
  have hr := B.returns
  have hts := atoms_spec (ws := Cond.code yX12_costs cX12_costs 5 (some .int) :: wA) B.pre
  have hwd : ∀ w ∈ wA, w.before _ s = true := fun w h => hts w (List.mem_cons_of_mem _ h)
  have hown : s.vm.findClass RX12 = some m.cls := findClass_of_methodNamed B.named
  have hlocks := B.notSynchronized
  subst hsz
  have hl := lv_entry ([.ref (g 0), .int p0, .int p1, .int p2, .int p3]) (n := 5) (Nat.le_of_ble_eq_true rfl)
  rw [lg_entry_eq]
  generalize (lg_sl ([.ref (g 0), .int p0, .int p1, .int p2, .int p3]) ++ List.replicate (5 - (lg_sl ([.ref (g 0), .int p0, .int p1, .int p2, .int p3])).length) Slot.unset).toArray = ls at hl ⊢
  have hl : lv_has ls 5 [(0, .ref (g 0)), (1, .int p0), (2, .int p1), (3, .int p2), (4, .int p3)] := hl
  obtain ⟨H, eH⟩ : ∃ z, z = s.heap := ⟨_, rfl⟩
  have hP : va_P (dC, dI) classes (wM g c v F rc) H := by rw [eH]; exact hP
  have hS : va_S (AM g s.heap.size) s.heap H [] := by rw [eH]; exact va_S.rf
  refine my_heap eH ?_
  have hF : ∀ k, k ∉ ([30, 31, 42] : List Nat) → F k = F k := fun _ _ => rfl
  have rp0 := i32_rng p0
  have rp1 := i32_rng p1
  have rp2 := i32_rng p2
  have rp3 := i32_rng p3
  have hb31 : 0 ≤ (v 31).toInt ∧ (v 31).toInt ≤ 10 := hI.1 31 _ _ rfl
  refine lv_aload_n hx hb dX12_costs_0 rfl (lv_at hl 0 rfl) ?_
  refine lv_iload_n hx hb dX12_costs_1 rfl (lv_at hl 1 rfl) ?_
  have t14112 : 0 ≤ (v 6).toInt ∧ (v 6).toInt ≤ 10 := hI.1 6 _ _ rfl
  refine va_calli (va_runV (As := [.int p0]) (rest := []) ⟨hx, hb, hml, hown, hwd⟩ (c_X12_isPlane l dC dI g c adK adV v F rc H.size p0 hg hI ) (cwV 1 hwd (gV wk_305 wk_302 wk_303 wk_304 wk_5) rfl rfl rfl (by decide +kernel) ⟨Nat.le_of_ble_eq_true rfl, Nat.le_of_ble_eq_true rfl⟩) ⟨PM.blind, va_recv hK hP (ci := 12) (q0 := 0) rfl rfl, fun U hU hW => ⟨rfl, PM.at hK hE hP hS hU hW⟩⟩ rfl rfl hl.1 rfl (lv_room (Nat.le_of_ble_eq_true rfl)) dX12_costs_2 ⟨Nat.le_of_ble_eq_true rfl, Nat.le_of_ble_eq_true rfl⟩) hS (fun q _ h => (freeM hS) q h) (freeM hS) (fun r14113 u t H1 locs ht hvm hw hB hz1 hk1 hS => ?_)
  unfold BM at hB
  rw [ht] at hB
  have hP : va_P (dC, dI) classes (wM g c v F rc) H1 := hB
  replace hw : (r14113.toInt = 1 ∧ 0 ≤ p0.toInt ∧ p0.toInt < (v 6).toInt) ∨ (r14113.toInt = 0 ∧ (p0.toInt < 0 ∨ (v 6).toInt ≤ p0.toInt)) := hw
  have hw_r14113 := hw
  clear hw
  clear hz1
  generalize H1 = H at hP hS ⊢
  refine lv_if_eq (tgt := 47) hx hb dX12_costs_5 (by decide) (fun c14114 => ?_) (fun c14114 => ?_)
  · skip
    have t14115 := cv_eq (a := r14113.toInt) rfl (b := 0) (by decide) c14114
    refine lv_ldc (v := (-2000000000)) hx hb hown (hwd _ wk_542) dX12_costs_47 ?_
    have hP9 : va_P (dC, dI) classes (wM g c v F rc) H := hP
    exact W.iret (v := (-2000000000)) hx hb hr (fun t ht hW => ⟨⟨(-2000000000), (v, F, rc), rfl, ⟨hI, rfl, (fun _ _ => rfl), hF, trivial⟩, (by show va_P _ _ _ t.heap; rw [ht]; exact hP9)⟩, hS.F ht⟩) hS.2.2 dX12_costs_49
  · skip
    have t14116 := cv_ne (a := r14113.toInt) rfl (b := 0) (by decide) c14114
    refine lv_aload_n hx hb dX12_costs_8 rfl (lv_at hl 0 rfl) ?_
    refine lv_iload_n hx hb dX12_costs_9 rfl (lv_at hl 1 rfl) ?_
    refine va_calli (va_runV (As := [.int p0]) (rest := []) ⟨hx, hb, hml, hown, hwd⟩ (c_X12_hasContract l dC dI g c adK adV v F rc H.size p0 hg hI (by omega)) (cwV 1 hwd (gV wk_1201 wk_1198 wk_1199 wk_1200 wk_5) rfl rfl rfl (by decide +kernel) ⟨Nat.le_of_ble_eq_true rfl, Nat.le_of_ble_eq_true rfl⟩) ⟨PM.blind, va_recv hK hP (ci := 12) (q0 := 0) rfl rfl, fun U hU hW => ⟨rfl, PM.at hK hE hP hS hU hW⟩⟩ rfl rfl hl.1 rfl (lv_room (Nat.le_of_ble_eq_true rfl)) dX12_costs_10 ⟨Nat.le_of_ble_eq_true rfl, Nat.le_of_ble_eq_true rfl⟩) hS (fun q _ h => (freeM hS) q h) (freeM hS) (fun r14117 u t H1 locs ht hvm hw hB hz1 hk1 hS => ?_)
    unfold BM at hB
    rw [ht] at hB
    have hP : va_P (dC, dI) classes (wM g c v F rc) H1 := hB
    replace hw : (r14117.toInt = 1 ∧ 0 ≤ (F 35 p0.toNatClampNeg).toInt) ∨ (r14117.toInt = 0 ∧ (F 35 p0.toNatClampNeg).toInt < 0) := hw
    have hw_r14117 := hw
    clear hw
    clear hz1
    generalize H1 = H at hP hS ⊢
    refine lv_if_eq (tgt := 47) hx hb dX12_costs_13 (by decide) (fun c14118 => ?_) (fun c14118 => ?_)
    · skip
      have t14119 := cv_eq (a := r14117.toInt) rfl (b := 0) (by decide) c14118
      refine lv_ldc (v := (-2000000000)) hx hb hown (hwd _ wk_542) dX12_costs_47 ?_
      have hP9 : va_P (dC, dI) classes (wM g c v F rc) H := hP
      exact W.iret (v := (-2000000000)) hx hb hr (fun t ht hW => ⟨⟨(-2000000000), (v, F, rc), rfl, ⟨hI, rfl, (fun _ _ => rfl), hF, trivial⟩, (by show va_P _ _ _ t.heap; rw [ht]; exact hP9)⟩, hS.F ht⟩) hS.2.2 dX12_costs_49
    · skip
      have t14120 := cv_ne (a := r14117.toInt) rfl (b := 0) (by decide) c14118
      refine lv_iload_n hx hb dX12_costs_16 rfl (lv_at hl 2 rfl) ?_
      refine lv_iconst (v := (-1)) hx hb dX12_costs_17 (by decide) ?_
      refine lv_aload_n hx hb dX12_costs_18 rfl (lv_at hl 0 rfl) ?_
      refine va_get (D := (dC, dI)) (ci := 12) (v := .ref (g 37)) (C := RX12) (T := TX12) (N := 63) hx hb hwd inA_X12 hown hK hP 0 rfl rfl 51 (by decide) (hwd _ wk_219) (fun _ h9 => h9) rfl dX12_costs_19 ?_
      refine lv_iload_n hx hb dX12_costs_22 rfl (lv_at hl 1 rfl) ?_
      refine va_iald hx hb hK hP 37 36 rfl rfl (i := p0) (vin (a := p0.toInt) rfl (by omega)) dX12_costs_23 ?_
      refine lv_topi (fun z14121 e14122 => ?_)
      have t14123 : 0 ≤ z14121.toInt ∧ z14121.toInt ≤ 31 := by rw [e14122]; exact hI.2 37 _ _ rfl _
      refine lv_iconst (v := 1) hx hb dX12_costs_24 (by decide) ?_
      refine lv_isub hx hb dX12_costs_25 ?_
      refine lv_topi (fun z14124 e14125 => ?_)
      try (have t14126 := tsub e14125 (a := z14121.toInt) rfl (b := 1) (by decide) (by omega))
      refine va_calli (va_runS (As := [.int p1, .int (-1), .int z14124]) (rest := []) ⟨hx, hb, hml, hown, hwd⟩ (c_X12_in l dC dI g c adK adV v F rc H.size p1 (-1) z14124 hg hI ) (va_cwS 3 hwd (gT wk_254 wk_252 wk_253 wk_5) rfl rfl rfl (by decide +kernel) ⟨Nat.le_of_ble_eq_true rfl, Nat.le_of_ble_eq_true rfl⟩) ⟨PM.blind, fun U hU hW => ⟨rfl, PM.at hK hE hP hS hU hW⟩⟩ rfl rfl hl.1 rfl (lv_room (Nat.le_of_ble_eq_true rfl)) dX12_costs_26 ⟨Nat.le_of_ble_eq_true rfl, Nat.le_of_ble_eq_true rfl⟩) hS (fun q _ h => (freeM hS) q h) (freeM hS) (fun r14127 u t H1 locs ht hvm hw hB hz1 hk1 hS => ?_)
      unfold BM at hB
      rw [ht] at hB
      have hP : va_P (dC, dI) classes (wM g c v F rc) H1 := hB
      have hw_r14127 : (r14127.toInt = 1 ∧ ((-1) : Int32).toInt ≤ p1.toInt ∧ p1.toInt ≤ z14124.toInt) ∨ (r14127.toInt = 0 ∧ (p1.toInt < ((-1) : Int32).toInt ∨ z14124.toInt < p1.toInt)) := hw
      clear hw
      have k14128 : ((-1) : Int32).toInt = (-1) := by decide
      clear hz1
      generalize H1 = H at hP hS ⊢
      refine lv_if_eq (tgt := 47) hx hb dX12_costs_29 (by decide) (fun c14129 => ?_) (fun c14129 => ?_)
      · skip
        have t14130 := cv_eq (a := r14127.toInt) rfl (b := 0) (by decide) c14129
        refine lv_ldc (v := (-2000000000)) hx hb hown (hwd _ wk_542) dX12_costs_47 ?_
        have hP9 : va_P (dC, dI) classes (wM g c v F rc) H := hP
        exact W.iret (v := (-2000000000)) hx hb hr (fun t ht hW => ⟨⟨(-2000000000), (v, F, rc), rfl, ⟨hI, rfl, (fun _ _ => rfl), hF, trivial⟩, (by show va_P _ _ _ t.heap; rw [ht]; exact hP9)⟩, hS.F ht⟩) hS.2.2 dX12_costs_49
      · skip
        have t14131 := cv_ne (a := r14127.toInt) rfl (b := 0) (by decide) c14129
        refine lv_iload_n hx hb dX12_costs_32 rfl (lv_at hl 3 rfl) ?_
        refine va_calli (va_runS (As := [.int p2]) (rest := []) ⟨hx, hb, hml, hown, hwd⟩ (c_X12_isDay l dC dI g c adK adV v F rc H.size p2 hg hI ) (va_cwS 1 hwd (gT wk_556 wk_554 wk_555 wk_5) rfl rfl rfl (by decide +kernel) ⟨Nat.le_of_ble_eq_true rfl, Nat.le_of_ble_eq_true rfl⟩) ⟨PM.blind, fun U hU hW => ⟨rfl, PM.at hK hE hP hS hU hW⟩⟩ rfl rfl hl.1 rfl (lv_room (Nat.le_of_ble_eq_true rfl)) dX12_costs_33 ⟨Nat.le_of_ble_eq_true rfl, Nat.le_of_ble_eq_true rfl⟩) hS (fun q _ h => (freeM hS) q h) (freeM hS) (fun r14132 u t H1 locs ht hvm hw hB hz1 hk1 hS => ?_)
        unfold BM at hB
        rw [ht] at hB
        have hP : va_P (dC, dI) classes (wM g c v F rc) H1 := hB
        have hw_r14132 : (r14132.toInt = 1 ∧ 0 ≤ p2.toInt ∧ p2.toInt ≤ 9999) ∨ (r14132.toInt = 0 ∧ (p2.toInt < 0 ∨ 9999 < p2.toInt)) := hw
        clear hw
        clear hz1
        generalize H1 = H at hP hS ⊢
        refine lv_if_eq (tgt := 47) hx hb dX12_costs_36 (by decide) (fun c14133 => ?_) (fun c14133 => ?_)
        · skip
          have t14134 := cv_eq (a := r14132.toInt) rfl (b := 0) (by decide) c14133
          refine lv_ldc (v := (-2000000000)) hx hb hown (hwd _ wk_542) dX12_costs_47 ?_
          have hP9 : va_P (dC, dI) classes (wM g c v F rc) H := hP
          exact W.iret (v := (-2000000000)) hx hb hr (fun t ht hW => ⟨⟨(-2000000000), (v, F, rc), rfl, ⟨hI, rfl, (fun _ _ => rfl), hF, trivial⟩, (by show va_P _ _ _ t.heap; rw [ht]; exact hP9)⟩, hS.F ht⟩) hS.2.2 dX12_costs_49
        · skip
          have t14135 := cv_ne (a := r14132.toInt) rfl (b := 0) (by decide) c14133
          refine lv_iload hx hb dX12_costs_39 (lv_at hl 4 rfl) ?_
          refine va_calli (va_runS (As := [.int p3]) (rest := []) ⟨hx, hb, hml, hown, hwd⟩ (c_X12_isDay l dC dI g c adK adV v F rc H.size p3 hg hI ) (va_cwS 1 hwd (gT wk_556 wk_554 wk_555 wk_5) rfl rfl rfl (by decide +kernel) ⟨Nat.le_of_ble_eq_true rfl, Nat.le_of_ble_eq_true rfl⟩) ⟨PM.blind, fun U hU hW => ⟨rfl, PM.at hK hE hP hS hU hW⟩⟩ rfl rfl hl.1 rfl (lv_room (Nat.le_of_ble_eq_true rfl)) dX12_costs_41 ⟨Nat.le_of_ble_eq_true rfl, Nat.le_of_ble_eq_true rfl⟩) hS (fun q _ h => (freeM hS) q h) (freeM hS) (fun r14136 u t H1 locs ht hvm hw hB hz1 hk1 hS => ?_)
          unfold BM at hB
          rw [ht] at hB
          have hP : va_P (dC, dI) classes (wM g c v F rc) H1 := hB
          have hw_r14136 : (r14136.toInt = 1 ∧ 0 ≤ p3.toInt ∧ p3.toInt ≤ 9999) ∨ (r14136.toInt = 0 ∧ (p3.toInt < 0 ∨ 9999 < p3.toInt)) := hw
          clear hw
          clear hz1
          generalize H1 = H at hP hS ⊢
          refine lv_if_ne (tgt := 50) hx hb dX12_costs_44 (by decide) (fun c14137 => ?_) (fun c14137 => ?_)
          · skip
            have t14138 := cv_ne (a := r14136.toInt) rfl (b := 0) (by decide) c14137
            refine lv_aload_n hx hb dX12_costs_50 rfl (lv_at hl 0 rfl) ?_
            refine lv_iload_n hx hb dX12_costs_51 rfl (lv_at hl 1 rfl) ?_
            have t14139 : 0 ≤ (v 14).toInt ∧ (v 14).toInt ≤ 100 := hI.1 14 _ _ rfl
            refine va_callv (va_runV (As := [.int p0]) (rest := []) ⟨hx, hb, hml, hown, hwd⟩ (c_X12_board l dC dI g c adK adV v F rc H.size p0 hg hI ) (cwV 1 hwd (gV wk_1205 wk_1202 wk_1203 wk_1204 wk_5) rfl rfl rfl (by decide +kernel) ⟨Nat.le_of_ble_eq_true rfl, Nat.le_of_ble_eq_true rfl⟩) ⟨PM.blind, va_recv hK hP (ci := 12) (q0 := 0) rfl rfl, fun U hU hW => ⟨rfl, PM.at hK hE hP hS hU hW⟩⟩ rfl rfl hl.1 rfl (lv_room (Nat.le_of_ble_eq_true rfl)) dX12_costs_52 ⟨Nat.le_of_ble_eq_true rfl, Nat.le_of_ble_eq_true rfl⟩) hS (fun q _ h => (freeM hS) q h) (freeM hS) (fun u t H1 locs ht hvm hw hB hz1 hk1 hS => ?_)
            unfold BM at hB
            rw [ht] at hB
            obtain ⟨v14141, F14142, rc9⟩ := u
            obtain ⟨hI, hrc, hf14143, hG14144, hw⟩ := hw
            dsimp only at hI hrc hB hf14143 hG14144 hw
            have hF := frCF (by decide) hG14144 hF
            rw [hrc] at hB
            have hP : va_P (dC, dI) classes (wM g c v14141 F14142 rc) H1 := hB
            replace hw : ∀ j : Nat, (j : Int) < (v 14).toInt → (F14142 42 j).toInt ≠ 0 → (F 13 j).toInt = p0.toInt := hw
            have hw_r14140 := hw
            clear hw
            clear hz1
            generalize H1 = H at hP hS ⊢
            refine lv_iload_n hx hb dX12_costs_55 rfl (lv_at hl 2 rfl) ?_
            refine lv_if_ge (tgt := 70) hx hb dX12_costs_56 (by decide) (fun c14145 => ?_) (fun c14145 => ?_)
            · skip
              have t14146 := cv_le (a := 0) (by decide) (b := p1.toInt) rfl c14145
              refine lv_aload_n hx hb dX12_costs_70 rfl (lv_at hl 0 rfl) ?_
              refine lv_iload_n hx hb dX12_costs_71 rfl (lv_at hl 1 rfl) ?_
              refine lv_iload_n hx hb dX12_costs_72 rfl (lv_at hl 2 rfl) ?_
              refine lv_iload_n hx hb dX12_costs_73 rfl (lv_at hl 3 rfl) ?_
              refine lv_iload hx hb dX12_costs_74 (lv_at hl 4 rfl) ?_
              refine va_calli (va_runV (As := [.int p0, .int p1, .int p2, .int p3]) (rest := []) ⟨hx, hb, hml, hown, hwd⟩ (c_X12_costOf l dC dI g c adK adV v14141 F14142 rc H.size p0 p1 p2 p3 hg hI (by omega) (by omega) (JL.to hL (show v14141 31 = v 31 from hf14143 31 (by decide)) (hF 28 (by decide)) (hF 29 (by decide)) (hF 27 (by decide)))) (cwV 4 hwd (gV wk_1251 wk_1248 wk_1249 wk_1250 wk_5) rfl rfl rfl (by decide +kernel) ⟨Nat.le_of_ble_eq_true rfl, Nat.le_of_ble_eq_true rfl⟩) ⟨PM.blind, va_recv hK hP (ci := 12) (q0 := 0) rfl rfl, fun U hU hW => ⟨rfl, PM.at hK hE hP hS hU hW⟩⟩ rfl rfl hl.1 rfl (lv_room (Nat.le_of_ble_eq_true rfl)) dX12_costs_76 ⟨Nat.le_of_ble_eq_true rfl, Nat.le_of_ble_eq_true rfl⟩) hS (fun q _ h => (freeM hS) q h) (freeM hS) (fun r14147 u t H1 locs ht hvm hw hB hz1 hk1 hS => ?_)
              unfold BM at hB
              rw [ht] at hB
              obtain ⟨v14148, F14149, rc9⟩ := u
              obtain ⟨hI, hrc, hf14150, hG14151, hw⟩ := hw
              dsimp only at hI hrc hB hf14150 hG14151 hw
              have hF := frCF (by decide) hG14151 hF
              rw [hrc] at hB
              have hP : va_P (dC, dI) classes (wM g c v14148 F14149 rc) H1 := hB
              clear hz1
              generalize H1 = H at hP hS ⊢
              have rr_r14147 := i32_rng r14147
              have hP9 : va_P (dC, dI) classes (wM g c v14148 F14149 rc) H := hP
              exact W.iret (v := r14147) hx hb hr (fun t ht hW => ⟨⟨r14147, (v14148, F14149, rc), rfl, ⟨hI, rfl, (frC (by decide) hf14150 (frC (by decide) hf14143 (fun _ _ => rfl))), hF, trivial⟩, (by show va_P _ _ _ t.heap; rw [ht]; exact hP9)⟩, hS.F ht⟩) hS.2.2 dX12_costs_79
            · skip
              have t14152 := cv_nle (a := 0) (by decide) (b := p1.toInt) rfl c14145
              refine lv_aload_n hx hb dX12_costs_59 rfl (lv_at hl 0 rfl) ?_
              refine lv_iload_n hx hb dX12_costs_60 rfl (lv_at hl 1 rfl) ?_
              refine lv_iload_n hx hb dX12_costs_61 rfl (lv_at hl 3 rfl) ?_
              refine lv_iload hx hb dX12_costs_62 (lv_at hl 4 rfl) ?_
              refine va_calli (va_runV (As := [.int p0, .int p2, .int p3]) (rest := []) ⟨hx, hb, hml, hown, hwd⟩ (c_X12_costOfAll l dC dI g c adK adV v14141 F14142 rc H.size p0 p2 p3 hg hI (by omega) (JL.to hL (show v14141 31 = v 31 from hf14143 31 (by decide)) (hF 28 (by decide)) (hF 29 (by decide)) (hF 27 (by decide)))) (cwV 3 hwd (gV wk_1247 wk_1244 wk_1245 wk_1246 wk_5) rfl rfl rfl (by decide +kernel) ⟨Nat.le_of_ble_eq_true rfl, Nat.le_of_ble_eq_true rfl⟩) ⟨PM.blind, va_recv hK hP (ci := 12) (q0 := 0) rfl rfl, fun U hU hW => ⟨rfl, PM.at hK hE hP hS hU hW⟩⟩ rfl rfl hl.1 rfl (lv_room (Nat.le_of_ble_eq_true rfl)) dX12_costs_64 ⟨Nat.le_of_ble_eq_true rfl, Nat.le_of_ble_eq_true rfl⟩) hS (fun q _ h => (freeM hS) q h) (freeM hS) (fun r14153 u t H1 locs ht hvm hw hB hz1 hk1 hS => ?_)
              unfold BM at hB
              rw [ht] at hB
              obtain ⟨v14154, F14155, rc9⟩ := u
              obtain ⟨hI, hrc, hf14156, hG14157, hw⟩ := hw
              dsimp only at hI hrc hB hf14156 hG14157 hw
              have hF := frCF (by decide) hG14157 hF
              rw [hrc] at hB
              have hP : va_P (dC, dI) classes (wM g c v14154 F14155 rc) H1 := hB
              clear hz1
              generalize H1 = H at hP hS ⊢
              have rr_r14153 := i32_rng r14153
              refine lv_goto (tgt := 79) hx hb dX12_costs_67 (by decide) ?_
              have hP9 : va_P (dC, dI) classes (wM g c v14154 F14155 rc) H := hP
              exact W.iret (v := r14153) hx hb hr (fun t ht hW => ⟨⟨r14153, (v14154, F14155, rc), rfl, ⟨hI, rfl, (frC (by decide) hf14156 (frC (by decide) hf14143 (fun _ _ => rfl))), hF, trivial⟩, (by show va_P _ _ _ t.heap; rw [ht]; exact hP9)⟩, hS.F ht⟩) hS.2.2 dX12_costs_79
          · skip
            have t14158 := cv_eq (a := r14136.toInt) rfl (b := 0) (by decide) c14137
            refine lv_ldc (v := (-2000000000)) hx hb hown (hwd _ wk_542) dX12_costs_47 ?_
            have hP9 : va_P (dC, dI) classes (wM g c v F rc) H := hP
            exact W.iret (v := (-2000000000)) hx hb hr (fun t ht hW => ⟨⟨(-2000000000), (v, F, rc), rfl, ⟨hI, rfl, (fun _ _ => rfl), hF, trivial⟩, (by show va_P _ _ _ t.heap; rw [ht]; exact hP9)⟩, hS.F ht⟩) hS.2.2 dX12_costs_49
set_option maxHeartbeats 8000000 in
set_option maxRecDepth 100000 in
theorem c_X12_count (l : Launch) (dC : Nat → ClassId) (dI : Nat → Nat → Nat) (g : Nat → Nat) (c : Nat → ClassId) (adK adV : Nat → Nat) (v : Nat → Int32) (F : Nat → Nat → Int32) (rc sz : Nat) (p0 : Int32) (hg : injM g) (hI : IM v F) : Met l yX12_count (Cond.code yX12_count cX12_count 4 (some .int) :: wA) ({ frames := 2, cells := 0, slots := 0, locals := 80 }) (va_Pc [.ref (g 0), .int p0] (PM dC dI g c adK adV v F rc sz)) (va_Qi (fun (r : Int32) (u : Unit) => True) (fun (_ : Unit) => BM dC dI g c (v, F, rc)) (AM g sz)) 0 0 (AM g sz) := by
  refine Met.ofW (cc := cX12_count) (maxL := 4) (ret := (some .int)) (by decide) rfl ?_
  intro p e s m args below meth c0 s₁ B hml hv
  obtain ⟨rfl, hsz, hP, hK, hE⟩ := hv
  have hx := B.exec
  have hb := B.bytes
  have hr := B.returns
  have hts := atoms_spec (ws := Cond.code yX12_count cX12_count 4 (some .int) :: wA) B.pre
  have hwd : ∀ w ∈ wA, w.before _ s = true := fun w h => hts w (List.mem_cons_of_mem _ h)
  have hown : s.vm.findClass RX12 = some m.cls := findClass_of_methodNamed B.named
  have hlocks := B.notSynchronized
  subst hsz
  have hl := lv_entry ([.ref (g 0), .int p0]) (n := 4) (Nat.le_of_ble_eq_true rfl)
  rw [lg_entry_eq]
  generalize (lg_sl ([.ref (g 0), .int p0]) ++ List.replicate (4 - (lg_sl ([.ref (g 0), .int p0])).length) Slot.unset).toArray = ls at hl ⊢
  have hl : lv_has ls 4 [(0, .ref (g 0)), (1, .int p0)] := hl
  obtain ⟨H, eH⟩ : ∃ z, z = s.heap := ⟨_, rfl⟩
  have hP : va_P (dC, dI) classes (wM g c v F rc) H := by rw [eH]; exact hP
  have hS : va_S (AM g s.heap.size) s.heap H [] := by rw [eH]; exact va_S.rf
  refine my_heap eH ?_
  have rp0 := i32_rng p0
  refine lv_iconst (v := 0) hx hb dX12_count_0 (by decide) ?_
  refine lv_istore_n (lv' := [(2, .int 0), (0, .ref (g 0)), (1, .int p0)]) hx hb dX12_count_1 rfl hl (by decide) rfl (fun ls hl => ?_)
  refine lv_iload_n hx hb dX12_count_2 rfl (lv_at hl 2 rfl) ?_
  by_cases hlo14159 : p0.toInt < 0
  · refine lv_tableOut (tgt := 168) hx hb dX12_count_3 (Or.inl hlo14159) (by decide) ?_
    refine lv_iconst (v := (-1)) hx hb dX12_count_168 (by decide) ?_
    have hP9 : va_P (dC, dI) classes (wM g c v F rc) H := hP
    exact W.iret (v := (-1)) hx hb hr (fun t ht hW => ⟨⟨(-1), (), rfl, trivial, (by show va_P _ _ _ t.heap; rw [ht]; exact hP9)⟩, hS.F ht⟩) hS.2.2 dX12_count_169
  by_cases hhi14160 : 12 < p0.toInt
  · refine lv_tableOut (tgt := 168) hx hb dX12_count_3 (Or.inr hhi14160) (by decide) ?_
    refine lv_iconst (v := (-1)) hx hb dX12_count_168 (by decide) ?_
    have hP9 : va_P (dC, dI) classes (wM g c v F rc) H := hP
    exact W.iret (v := (-1)) hx hb hr (fun t ht hW => ⟨⟨(-1), (), rfl, trivial, (by show va_P _ _ _ t.heap; rw [ht]; exact hP9)⟩, hS.F ht⟩) hS.2.2 dX12_count_169
  rcases (show p0.toInt = 0 ∨ p0.toInt = 1 ∨ p0.toInt = 2 ∨ p0.toInt = 3 ∨ p0.toInt = 4 ∨ p0.toInt = 5 ∨ p0.toInt = 6 ∨ p0.toInt = 7 ∨ p0.toInt = 8 ∨ p0.toInt = 9 ∨ p0.toInt = 10 ∨ p0.toInt = 11 ∨ p0.toInt = 12 by omega) with hk | hk | hk | hk | hk | hk | hk | hk | hk | hk | hk | hk | hk
  · refine lv_tableIn (off := 65) (tgt := 68) hx hb dX12_count_3 hlo14159 hhi14160 (by rw [hk]; decide) (by decide) ?_
    refine lv_aload_n hx hb dX12_count_68 rfl (lv_at hl 1 rfl) ?_
    refine va_get (D := (dC, dI)) (ci := 12) (v := .int (v 2)) (C := RX12) (T := TX12) (N := 63) hx hb hwd inA_X12 hown hK hP 0 rfl rfl 2 (by decide) (hwd _ wk_251) (fun _ h9 => h9) rfl dX12_count_69 ?_
    have t14161 : 0 ≤ (v 2).toInt ∧ (v 2).toInt ≤ 10 := hI.1 2 _ _ rfl
    have hP9 : va_P (dC, dI) classes (wM g c v F rc) H := hP
    exact W.iret (v := v 2) hx hb hr (fun t ht hW => ⟨⟨(v 2), (), rfl, trivial, (by show va_P _ _ _ t.heap; rw [ht]; exact hP9)⟩, hS.F ht⟩) hS.2.2 dX12_count_72
  · refine lv_tableIn (off := 70) (tgt := 73) hx hb dX12_count_3 hlo14159 hhi14160 (by rw [hk]; decide) (by decide) ?_
    refine lv_aload_n hx hb dX12_count_73 rfl (lv_at hl 1 rfl) ?_
    refine va_get (D := (dC, dI)) (ci := 12) (v := .int (v 6)) (C := RX12) (T := TX12) (N := 63) hx hb hwd inA_X12 hown hK hP 0 rfl rfl 6 (by decide) (hwd _ wk_268) (fun _ h9 => h9) rfl dX12_count_74 ?_
    have t14162 : 0 ≤ (v 6).toInt ∧ (v 6).toInt ≤ 10 := hI.1 6 _ _ rfl
    have hP9 : va_P (dC, dI) classes (wM g c v F rc) H := hP
    exact W.iret (v := v 6) hx hb hr (fun t ht hW => ⟨⟨(v 6), (), rfl, trivial, (by show va_P _ _ _ t.heap; rw [ht]; exact hP9)⟩, hS.F ht⟩) hS.2.2 dX12_count_77
  · refine lv_tableIn (off := 75) (tgt := 78) hx hb dX12_count_3 hlo14159 hhi14160 (by rw [hk]; decide) (by decide) ?_
    refine lv_aload_n hx hb dX12_count_78 rfl (lv_at hl 1 rfl) ?_
    refine va_get (D := (dC, dI)) (ci := 12) (v := .int (v 14)) (C := RX12) (T := TX12) (N := 63) hx hb hwd inA_X12 hown hK hP 0 rfl rfl 14 (by decide) (hwd _ wk_318) (fun _ h9 => h9) rfl dX12_count_79 ?_
    have t14163 : 0 ≤ (v 14).toInt ∧ (v 14).toInt ≤ 100 := hI.1 14 _ _ rfl
    have hP9 : va_P (dC, dI) classes (wM g c v F rc) H := hP
    exact W.iret (v := v 14) hx hb hr (fun t ht hW => ⟨⟨(v 14), (), rfl, trivial, (by show va_P _ _ _ t.heap; rw [ht]; exact hP9)⟩, hS.F ht⟩) hS.2.2 dX12_count_82
  · refine lv_tableIn (off := 80) (tgt := 83) hx hb dX12_count_3 hlo14159 hhi14160 (by rw [hk]; decide) (by decide) ?_
    refine lv_aload_n hx hb dX12_count_83 rfl (lv_at hl 1 rfl) ?_
    refine va_get (D := (dC, dI)) (ci := 12) (v := .int (v 1)) (C := RX12) (T := TX12) (N := 63) hx hb hwd inA_X12 hown hK hP 0 rfl rfl 1 (by decide) (hwd _ wk_332) (fun _ h9 => h9) rfl dX12_count_84 ?_
    have t14164 : 0 ≤ (v 1).toInt ∧ (v 1).toInt ≤ 9999 := hI.1 1 _ _ rfl
    have hP9 : va_P (dC, dI) classes (wM g c v F rc) H := hP
    exact W.iret (v := v 1) hx hb hr (fun t ht hW => ⟨⟨(v 1), (), rfl, trivial, (by show va_P _ _ _ t.heap; rw [ht]; exact hP9)⟩, hS.F ht⟩) hS.2.2 dX12_count_87
  · refine lv_tableIn (off := 85) (tgt := 88) hx hb dX12_count_3 hlo14159 hhi14160 (by rw [hk]; decide) (by decide) ?_
    refine lv_aload_n hx hb dX12_count_88 rfl (lv_at hl 1 rfl) ?_
    refine va_get (D := (dC, dI)) (ci := 12) (v := .int (v 31)) (C := RX12) (T := TX12) (N := 63) hx hb hwd inA_X12 hown hK hP 0 rfl rfl 31 (by decide) (hwd _ wk_505) (fun _ h9 => h9) rfl dX12_count_89 ?_
    have t14165 : 0 ≤ (v 31).toInt ∧ (v 31).toInt ≤ 10 := hI.1 31 _ _ rfl
    have hP9 : va_P (dC, dI) classes (wM g c v F rc) H := hP
    exact W.iret (v := v 31) hx hb hr (fun t ht hW => ⟨⟨(v 31), (), rfl, trivial, (by show va_P _ _ _ t.heap; rw [ht]; exact hP9)⟩, hS.F ht⟩) hS.2.2 dX12_count_92
  · refine lv_tableIn (off := 90) (tgt := 93) hx hb dX12_count_3 hlo14159 hhi14160 (by rw [hk]; decide) (by decide) ?_
    refine lv_aload_n hx hb dX12_count_93 rfl (lv_at hl 1 rfl) ?_
    refine va_get (D := (dC, dI)) (ci := 12) (v := .int (v 45)) (C := RX12) (T := TX12) (N := 63) hx hb hwd inA_X12 hown hK hP 0 rfl rfl 45 (by decide) (hwd _ wk_485) (fun _ h9 => h9) rfl dX12_count_94 ?_
    have t14166 : 0 ≤ (v 45).toInt ∧ (v 45).toInt ≤ 20 := hI.1 45 _ _ rfl
    have hP9 : va_P (dC, dI) classes (wM g c v F rc) H := hP
    exact W.iret (v := v 45) hx hb hr (fun t ht hW => ⟨⟨(v 45), (), rfl, trivial, (by show va_P _ _ _ t.heap; rw [ht]; exact hP9)⟩, hS.F ht⟩) hS.2.2 dX12_count_97
  · refine lv_tableIn (off := 95) (tgt := 98) hx hb dX12_count_3 hlo14159 hhi14160 (by rw [hk]; decide) (by decide) ?_
    refine lv_aload_n hx hb dX12_count_98 rfl (lv_at hl 1 rfl) ?_
    refine va_get (D := (dC, dI)) (ci := 12) (v := .int (v 19)) (C := RX12) (T := TX12) (N := 63) hx hb hwd inA_X12 hown hK hP 0 rfl rfl 19 (by decide) (hwd _ wk_494) (fun _ h9 => h9) rfl dX12_count_99 ?_
    have t14167 : 0 ≤ (v 19).toInt ∧ (v 19).toInt ≤ 500 := hI.1 19 _ _ rfl
    have hP9 : va_P (dC, dI) classes (wM g c v F rc) H := hP
    exact W.iret (v := v 19) hx hb hr (fun t ht hW => ⟨⟨(v 19), (), rfl, trivial, (by show va_P _ _ _ t.heap; rw [ht]; exact hP9)⟩, hS.F ht⟩) hS.2.2 dX12_count_102
  · refine lv_tableIn (off := 100) (tgt := 103) hx hb dX12_count_3 hlo14159 hhi14160 (by rw [hk]; decide) (by decide) ?_
    refine lv_aload_n hx hb dX12_count_103 rfl (lv_at hl 1 rfl) ?_
    refine va_get (D := (dC, dI)) (ci := 12) (v := .int (v 30)) (C := RX12) (T := TX12) (N := 63) hx hb hwd inA_X12 hown hK hP 0 rfl rfl 30 (by decide) (hwd _ wk_839) (fun _ h9 => h9) rfl dX12_count_104 ?_
    have t14168 : 0 ≤ (v 30).toInt ∧ (v 30).toInt ≤ 120 := hI.1 30 _ _ rfl
    have hP9 : va_P (dC, dI) classes (wM g c v F rc) H := hP
    exact W.iret (v := v 30) hx hb hr (fun t ht hW => ⟨⟨(v 30), (), rfl, trivial, (by show va_P _ _ _ t.heap; rw [ht]; exact hP9)⟩, hS.F ht⟩) hS.2.2 dX12_count_107
  · refine lv_tableIn (off := 105) (tgt := 108) hx hb dX12_count_3 hlo14159 hhi14160 (by rw [hk]; decide) (by decide) ?_
    refine lv_aload_n hx hb dX12_count_108 rfl (lv_at hl 1 rfl) ?_
    refine lv_bipush (v := 12) hx hb dX12_count_109 (by decide) ?_
    refine va_calli (va_runV (As := [.int 12]) (rest := []) ⟨hx, hb, hml, hown, hwd⟩ (c_X12_partsAt l dC dI g c adK adV v F rc H.size 12 hg hI ) (cwV 1 hwd (gV wk_1436 wk_1433 wk_1434 wk_1435 wk_5) rfl rfl rfl (by decide +kernel) ⟨Nat.le_of_ble_eq_true rfl, Nat.le_of_ble_eq_true rfl⟩) ⟨PM.blind, va_recv hK hP (ci := 12) (q0 := 0) rfl rfl, fun U hU hW => ⟨rfl, PM.at hK hE hP hS hU hW⟩⟩ rfl rfl hl.1 rfl (lv_room (Nat.le_of_ble_eq_true rfl)) dX12_count_111 ⟨Nat.le_of_ble_eq_true rfl, Nat.le_of_ble_eq_true rfl⟩) hS (fun q _ h => (freeM hS) q h) (freeM hS) (fun r14169 u t H1 locs ht hvm hw hB hz1 hk1 hS => ?_)
    unfold BM at hB
    rw [ht] at hB
    have hP : va_P (dC, dI) classes (wM g c v F rc) H1 := hB
    clear hz1
    generalize H1 = H at hP hS ⊢
    have rr_r14169 := i32_rng r14169
    have hP9 : va_P (dC, dI) classes (wM g c v F rc) H := hP
    exact W.iret (v := r14169) hx hb hr (fun t ht hW => ⟨⟨r14169, (), rfl, trivial, (by show va_P _ _ _ t.heap; rw [ht]; exact hP9)⟩, hS.F ht⟩) hS.2.2 dX12_count_114
  · refine lv_tableIn (off := 112) (tgt := 115) hx hb dX12_count_3 hlo14159 hhi14160 (by rw [hk]; decide) (by decide) ?_
    refine lv_aload_n hx hb dX12_count_115 rfl (lv_at hl 1 rfl) ?_
    refine lv_bipush (v := 11) hx hb dX12_count_116 (by decide) ?_
    refine va_calli (va_runV (As := [.int 11]) (rest := []) ⟨hx, hb, hml, hown, hwd⟩ (c_X12_partsAt l dC dI g c adK adV v F rc H.size 11 hg hI ) (cwV 1 hwd (gV wk_1436 wk_1433 wk_1434 wk_1435 wk_5) rfl rfl rfl (by decide +kernel) ⟨Nat.le_of_ble_eq_true rfl, Nat.le_of_ble_eq_true rfl⟩) ⟨PM.blind, va_recv hK hP (ci := 12) (q0 := 0) rfl rfl, fun U hU hW => ⟨rfl, PM.at hK hE hP hS hU hW⟩⟩ rfl rfl hl.1 rfl (lv_room (Nat.le_of_ble_eq_true rfl)) dX12_count_118 ⟨Nat.le_of_ble_eq_true rfl, Nat.le_of_ble_eq_true rfl⟩) hS (fun q _ h => (freeM hS) q h) (freeM hS) (fun r14170 u t H1 locs ht hvm hw hB hz1 hk1 hS => ?_)
    unfold BM at hB
    rw [ht] at hB
    have hP : va_P (dC, dI) classes (wM g c v F rc) H1 := hB
    clear hz1
    generalize H1 = H at hP hS ⊢
    have rr_r14170 := i32_rng r14170
    have hP9 : va_P (dC, dI) classes (wM g c v F rc) H := hP
    exact W.iret (v := r14170) hx hb hr (fun t ht hW => ⟨⟨r14170, (), rfl, trivial, (by show va_P _ _ _ t.heap; rw [ht]; exact hP9)⟩, hS.F ht⟩) hS.2.2 dX12_count_121
  · refine lv_tableIn (off := 119) (tgt := 122) hx hb dX12_count_3 hlo14159 hhi14160 (by rw [hk]; decide) (by decide) ?_
    refine lv_aload_n hx hb dX12_count_122 rfl (lv_at hl 1 rfl) ?_
    refine lv_bipush (v := 10) hx hb dX12_count_123 (by decide) ?_
    refine va_calli (va_runV (As := [.int 10]) (rest := []) ⟨hx, hb, hml, hown, hwd⟩ (c_X12_partsAt l dC dI g c adK adV v F rc H.size 10 hg hI ) (cwV 1 hwd (gV wk_1436 wk_1433 wk_1434 wk_1435 wk_5) rfl rfl rfl (by decide +kernel) ⟨Nat.le_of_ble_eq_true rfl, Nat.le_of_ble_eq_true rfl⟩) ⟨PM.blind, va_recv hK hP (ci := 12) (q0 := 0) rfl rfl, fun U hU hW => ⟨rfl, PM.at hK hE hP hS hU hW⟩⟩ rfl rfl hl.1 rfl (lv_room (Nat.le_of_ble_eq_true rfl)) dX12_count_125 ⟨Nat.le_of_ble_eq_true rfl, Nat.le_of_ble_eq_true rfl⟩) hS (fun q _ h => (freeM hS) q h) (freeM hS) (fun r14171 u t H1 locs ht hvm hw hB hz1 hk1 hS => ?_)
    unfold BM at hB
    rw [ht] at hB
    have hP : va_P (dC, dI) classes (wM g c v F rc) H1 := hB
    clear hz1
    generalize H1 = H at hP hS ⊢
    have rr_r14171 := i32_rng r14171
    have hP9 : va_P (dC, dI) classes (wM g c v F rc) H := hP
    exact W.iret (v := r14171) hx hb hr (fun t ht hW => ⟨⟨r14171, (), rfl, trivial, (by show va_P _ _ _ t.heap; rw [ht]; exact hP9)⟩, hS.F ht⟩) hS.2.2 dX12_count_128
  · refine lv_tableIn (off := 126) (tgt := 129) hx hb dX12_count_3 hlo14159 hhi14160 (by rw [hk]; decide) (by decide) ?_
    refine lv_iconst (v := 0) hx hb dX12_count_129 (by decide) ?_
    refine lv_istore_n (lv' := [(3, .int 0), (2, .int 0), (0, .ref (g 0)), (1, .int p0)]) hx hb dX12_count_130 rfl hl (by decide) rfl (fun ls hl => ?_)
    have lp14172 : ∀ (n : Nat) (x3_lp14172 : Int32) (x2_lp14172 : Int32) (H : Heap) (locs : List Loc) (ls : Array Slot), (0 ≤ x3_lp14172.toInt) → (2147483648 - x3_lp14172.toInt ≤ (n : Int)) → va_P (dC, dI) classes (wM g c v F rc) H → va_S (AM g s.heap.size) s.heap H locs → lv_has ls 4 [(3, .int x3_lp14172), (2, .int x2_lp14172), (0, .ref (g 0)), (1, .int p0)] → W p l e (headSpec (Cond.code yX12_count cX12_count 4 (some .int) :: wA) ({ frames := 2, cells := 0, slots := 0, locals := 80 })).room s m ([.ref (g 0), .int p0] : List Value).toArray below meth c0 H locs 0 0 (MQ below (va_Qi (fun (r : Int32) (u : Unit) => True) (fun (_ : Unit) => BM dC dI g c (v, F, rc)) (AM g s.heap.size)) ([.ref (g 0), .int p0] : List Value).toArray s 0 0 (AM g s.heap.size)) (F0 m 131 ls []) := by
      intro n
      induction n with
      | zero =>
        intro x3_lp14172 x2_lp14172 H locs ls t14173 hm hP hS hl
        exfalso
        have := i32_rng x3_lp14172
        have := i32_rng x2_lp14172
        omega
      | succ n ih_lp14172 =>
        intro x3_lp14172 x2_lp14172 H locs ls t14173 hm hP hS hl
        have rx3_lp14172 := i32_rng x3_lp14172
        have rx2_lp14172 := i32_rng x2_lp14172
        refine lv_iload_n hx hb dX12_count_131 rfl (lv_at hl 0 rfl) ?_
        refine lv_aload_n hx hb dX12_count_132 rfl (lv_at hl 2 rfl) ?_
        refine va_get (D := (dC, dI)) (ci := 12) (v := .int (v 6)) (C := RX12) (T := TX12) (N := 63) hx hb hwd inA_X12 hown hK hP 0 rfl rfl 6 (by decide) (hwd _ wk_268) (fun _ h9 => h9) rfl dX12_count_133 ?_
        have t14174 : 0 ≤ (v 6).toInt ∧ (v 6).toInt ≤ 10 := hI.1 6 _ _ rfl
        refine lv_icmp_ge (tgt := 161) hx hb dX12_count_136 (by decide) (fun c14175 => ?_) (fun c14175 => ?_)
        · skip
          have t14176 := cv_le (a := (v 6).toInt) rfl (b := x3_lp14172.toInt) rfl c14175
          refine lv_iload_n hx hb dX12_count_161 rfl (lv_at hl 1 rfl) ?_
          have hP9 : va_P (dC, dI) classes (wM g c v F rc) H := hP
          exact W.iret (v := x2_lp14172) hx hb hr (fun t ht hW => ⟨⟨x2_lp14172, (), rfl, trivial, (by show va_P _ _ _ t.heap; rw [ht]; exact hP9)⟩, hS.F ht⟩) hS.2.2 dX12_count_162
        · skip
          have t14177 := cv_nle (a := (v 6).toInt) rfl (b := x3_lp14172.toInt) rfl c14175
          refine lv_iload_n hx hb dX12_count_139 rfl (lv_at hl 1 rfl) ?_
          refine lv_aload_n hx hb dX12_count_140 rfl (lv_at hl 2 rfl) ?_
          refine lv_iload_n hx hb dX12_count_141 rfl (lv_at hl 0 rfl) ?_
          refine va_calli (va_runV (As := [.int x3_lp14172]) (rest := [.int x2_lp14172]) ⟨hx, hb, hml, hown, hwd⟩ (c_X12_isReturned l dC dI g c adK adV v F rc H.size x3_lp14172 hg hI (by omega)) (cwV 1 hwd (gV wk_313 wk_310 wk_311 wk_312 wk_5) rfl rfl rfl (by decide +kernel) ⟨Nat.le_of_ble_eq_true rfl, Nat.le_of_ble_eq_true rfl⟩) ⟨PM.blind, va_recv hK hP (ci := 12) (q0 := 0) rfl rfl, fun U hU hW => ⟨rfl, PM.at hK hE hP hS hU hW⟩⟩ rfl rfl hl.1 rfl (lv_room (Nat.le_of_ble_eq_true rfl)) dX12_count_142 ⟨Nat.le_of_ble_eq_true rfl, Nat.le_of_ble_eq_true rfl⟩) hS (fun q _ h => (freeM hS) q h) (freeM hS) (fun r14178 u t H1 locs ht hvm hw hB hz1 hk1 hS => ?_)
          unfold BM at hB
          rw [ht] at hB
          have hP : va_P (dC, dI) classes (wM g c v F rc) H1 := hB
          replace hw : (r14178.toInt = 1 ∧ 0 ≤ (F 8 x3_lp14172.toNatClampNeg).toInt) ∨ (r14178.toInt = 0 ∧ (F 8 x3_lp14172.toNatClampNeg).toInt < 0) := hw
          have hw_r14178 := hw
          clear hw
          clear hz1
          generalize H1 = H at hP hS ⊢
          refine lv_if_eq (tgt := 152) hx hb dX12_count_145 (by decide) (fun c14179 => ?_) (fun c14179 => ?_)
          · skip
            have t14180 := cv_eq (a := r14178.toInt) rfl (b := 0) (by decide) c14179
            refine lv_iconst (v := 0) hx hb dX12_count_152 (by decide) ?_
            refine lv_iadd hx hb dX12_count_153 ?_
            refine lv_topi (fun z14181 e14182 => ?_)
            try (have t14183 := tadd e14182 (a := x2_lp14172.toInt) rfl (b := 0) (by decide) (by omega))
            refine lv_istore_n (lv' := [(2, .int z14181), (3, .int x3_lp14172), (0, .ref (g 0)), (1, .int p0)]) hx hb dX12_count_154 rfl hl (by decide) rfl (fun ls hl => ?_)
            obtain ⟨z14184, e14185⟩ : ∃ y : Int32, y = x3_lp14172 + 1 := ⟨_, rfl⟩
            try (have t14186 := tadd e14185 rfl (b := 1) (by decide) (by omega))
            refine lv_iinc (v := z14184) (lv' := [(3, .int z14184), (2, .int z14181), (0, .ref (g 0)), (1, .int p0)]) hx hb dX12_count_155 hl (k := 1) rfl (by rw [e14185]; rfl) (by decide) rfl (fun ls hl => ?_)
            refine lv_goto (tgt := 131) hx hb dX12_count_158 (by decide) ?_
            exact ih_lp14172 z14184 z14181  _ _ _ (by omega) (by omega) hP hS (lv_sub hl [0, 1, 2, 3] rfl)
          · skip
            have t14187 := cv_ne (a := r14178.toInt) rfl (b := 0) (by decide) c14179
            refine lv_iconst (v := 1) hx hb dX12_count_148 (by decide) ?_
            refine lv_goto (tgt := 153) hx hb dX12_count_149 (by decide) ?_
            refine lv_iadd hx hb dX12_count_153 ?_
            refine lv_topi (fun z14188 e14189 => ?_)
            try (have t14190 := tadd e14189 (a := x2_lp14172.toInt) rfl (b := 1) (by decide) (by omega))
            refine lv_istore_n (lv' := [(2, .int z14188), (3, .int x3_lp14172), (0, .ref (g 0)), (1, .int p0)]) hx hb dX12_count_154 rfl hl (by decide) rfl (fun ls hl => ?_)
            obtain ⟨z14191, e14192⟩ : ∃ y : Int32, y = x3_lp14172 + 1 := ⟨_, rfl⟩
            try (have t14193 := tadd e14192 rfl (b := 1) (by decide) (by omega))
            refine lv_iinc (v := z14191) (lv' := [(3, .int z14191), (2, .int z14188), (0, .ref (g 0)), (1, .int p0)]) hx hb dX12_count_155 hl (k := 1) rfl (by rw [e14192]; rfl) (by decide) rfl (fun ls hl => ?_)
            refine lv_goto (tgt := 131) hx hb dX12_count_158 (by decide) ?_
            exact ih_lp14172 z14191 z14188  _ _ _ (by omega) (by omega) hP hS (lv_sub hl [0, 1, 2, 3] rfl)
    obtain ⟨n9, hn9⟩ : ∃ n : Nat, 2147483648 - 0 ≤ (n : Int) := ⟨((2147483648 - 0 : Int)).toNat, by omega⟩
    exact lp14172 n9 0 0  H _ ls (by have : (0 : Int32).toInt = 0 := (by decide); have : (0 : Int32).toInt = 0 := (by decide); omega) (by have : (0 : Int32).toInt = 0 := (by decide); have : (0 : Int32).toInt = 0 := (by decide); omega) hP hS hl
  · refine lv_tableIn (off := 160) (tgt := 163) hx hb dX12_count_3 hlo14159 hhi14160 (by rw [hk]; decide) (by decide) ?_
    refine lv_aload_n hx hb dX12_count_163 rfl (lv_at hl 1 rfl) ?_
    refine va_get (D := (dC, dI)) (ci := 12) (v := .int (v 60)) (C := RX12) (T := TX12) (N := 63) hx hb hwd inA_X12 hown hK hP 0 rfl rfl 60 (by decide) (hwd _ wk_1348) (fun _ h9 => h9) rfl dX12_count_164 ?_
    have hP9 : va_P (dC, dI) classes (wM g c v F rc) H := hP
    exact W.iret (v := v 60) hx hb hr (fun t ht hW => ⟨⟨(v 60), (), rfl, trivial, (by show va_P _ _ _ t.heap; rw [ht]; exact hP9)⟩, hS.F ht⟩) hS.2.2 dX12_count_167
