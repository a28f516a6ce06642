set_option maxHeartbeats 8000000 in
set_option maxRecDepth 100000 in
theorem c_X12_lacksOf (l : Launch) (dC : Nat → ClassId) (dI : Nat → Nat → Nat) (g : Nat → Nat) (c : Nat → ClassId) (adK adV : Nat → Nat) (v : Nat → Int32) (F : Nat → Nat → Int32) (rc sz : Nat) (p0 : Int32) (p1 : Int32) (p2 : Int32) (p3 : Int32) (hg : injM g) (hI : IM v F) (h0 : 0 ≤ p0.toInt ∧ p0.toInt ≤ 9) (h1 : 0 ≤ p1.toInt ∧ p1.toInt ≤ 30) (hL : JL (v 31) (F 28) (F 29) (F 27)) : Met l yX12_lacksOf (Cond.code yX12_lacksOf cX12_lacksOf 11 (some .int) :: wA) ({ frames := 5, cells := 0, slots := 0, locals := 200 }) (va_Pc [.ref (g 0), .int p0, .int p1, .int p2, .int p3] (PM dC dI g c adK adV v F rc sz)) (va_Qi (fun (r : Int32) (u : StM) => IM u.1 u.2.1 ∧ u.2.2 = rc ∧ (∀ k, k ∉ ([] : List Nat) → u.1 k = v k) ∧ (∀ k, k ∉ ([30, 31] : List Nat) → u.2.1 k = F k) ∧ True) (BM dC dI g c) (AM g sz)) 0 0 (AM g sz) := by
  refine Met.ofW (cc := cX12_lacksOf) (maxL := 11) (ret := (some .int)) (by decide) rfl ?_
  intro p e s m args below meth c0 s₁ B hml hv
  obtain ⟨rfl, hsz, hP, hK, hE⟩ := hv
  have hx := B.exec
  have hb := B.bytes
  have hr := B.returns
  have hts := atoms_spec (ws := Cond.code yX12_lacksOf cX12_lacksOf 11 (some .int) :: wA) B.pre
  have hwd : ∀ w ∈ wA, w.before _ s = true := fun w h => hts w (List.mem_cons_of_mem _ h)
  have hown : s.vm.findClass RX12 = some m.cls := findClass_of_methodNamed B.named
  have hlocks := B.notSynchronized
  subst hsz
  have hl := lv_entry ([.ref (g 0), .int p0, .int p1, .int p2, .int p3]) (n := 11) (Nat.le_of_ble_eq_true rfl)
  rw [lg_entry_eq]
  generalize (lg_sl ([.ref (g 0), .int p0, .int p1, .int p2, .int p3]) ++ List.replicate (11 - (lg_sl ([.ref (g 0), .int p0, .int p1, .int p2, .int p3])).length) Slot.unset).toArray = ls at hl ⊢
  have hl : lv_has ls 11 [(0, .ref (g 0)), (1, .int p0), (2, .int p1), (3, .int p2), (4, .int p3)] := hl
  obtain ⟨H, eH⟩ : ∃ z, z = s.heap := ⟨_, rfl⟩
  have hP : va_P (dC, dI) classes (wM g c v F rc) H := by rw [eH]; exact hP
  have hS : va_S (AM g s.heap.size) s.heap H [] := by rw [eH]; exact va_S.rf
  refine my_heap eH ?_
  have hF : ∀ k, k ∉ ([30, 31] : List Nat) → F k = F k := fun _ _ => rfl
  have rp0 := i32_rng p0
  have rp1 := i32_rng p1
  have rp2 := i32_rng p2
  have rp3 := i32_rng p3
  have hb31 : 0 ≤ (v 31).toInt ∧ (v 31).toInt ≤ 10 := hI.1 31 _ _ rfl
  refine lv_bipush (v := 32) hx hb dX12_lacksOf_0 (by decide) ?_
  refine lv_iload_n hx hb dX12_lacksOf_2 rfl (lv_at hl 1 rfl) ?_
  refine lv_imul hx hb dX12_lacksOf_3 ?_
  refine lv_topi (fun z12879 e12880 => ?_)
  try (have t12881 := tmul e12880 (a := 32) (by decide) (b := p0.toInt) rfl (by omega))
  refine lv_iload_n hx hb dX12_lacksOf_4 rfl (lv_at hl 2 rfl) ?_
  refine lv_iadd hx hb dX12_lacksOf_5 ?_
  refine lv_topi (fun z12882 e12883 => ?_)
  try (have t12884 := tadd e12883 (a := z12879.toInt) rfl (b := p1.toInt) rfl (by omega))
  refine lv_istore (lv' := [(5, .int z12882), (0, .ref (g 0)), (1, .int p0), (2, .int p1), (3, .int p2), (4, .int p3)]) hx hb dX12_lacksOf_6 hl (by decide) rfl (fun ls hl => ?_)
  refine lv_aload_n hx hb dX12_lacksOf_8 rfl (lv_at hl 1 rfl) ?_
  refine va_get (D := (dC, dI)) (ci := 12) (v := .ref (g 38)) (C := RX12) (T := TX12) (N := 63) hx hb hwd inA_X12 hown hK hP 0 rfl rfl 52 (by decide) (hwd _ wk_220) (fun _ h9 => h9) rfl dX12_lacksOf_9 ?_
  refine lv_iload hx hb dX12_lacksOf_12 (lv_at hl 0 rfl) ?_
  refine va_iald hx hb hK hP 38 37 rfl rfl (i := z12882) (vin (a := z12882.toInt) rfl (by omega)) dX12_lacksOf_14 ?_
  refine lv_topi (fun z12885 e12886 => ?_)
  refine lv_istore (lv' := [(6, .int z12885), (5, .int z12882), (0, .ref (g 0)), (1, .int p0), (2, .int p1), (3, .int p2), (4, .int p3)]) hx hb dX12_lacksOf_15 hl (by decide) rfl (fun ls hl => ?_)
  refine lv_iconst (v := 0) hx hb dX12_lacksOf_17 (by decide) ?_
  refine lv_istore (lv' := [(7, .int 0), (6, .int z12885), (5, .int z12882), (0, .ref (g 0)), (1, .int p0), (2, .int p1), (3, .int p2), (4, .int p3)]) hx hb dX12_lacksOf_18 hl (by decide) rfl (fun ls hl => ?_)
  refine lv_iload hx hb dX12_lacksOf_20 (lv_at hl 1 rfl) ?_
  by_cases hlo12887 : z12885.toInt < 100
  · refine lv_tableOut (tgt := 431) hx hb dX12_lacksOf_22 (Or.inl hlo12887) (by decide) ?_
    refine lv_aload_n hx hb dX12_lacksOf_431 rfl (lv_at hl 3 rfl) ?_
    refine lv_iload_n hx hb dX12_lacksOf_432 rfl (lv_at hl 4 rfl) ?_
    refine lv_iload_n hx hb dX12_lacksOf_433 rfl (lv_at hl 6 rfl) ?_
    refine va_calli (va_runV (As := [.int p0, .int p2]) (rest := []) ⟨hx, hb, hml, hown, hwd⟩ (c_X12_late l dC dI g c adK adV v F rc H.size p0 p2 hg hI (by omega)) (cwV 2 hwd (gV wk_1213 wk_1210 wk_1211 wk_1212 wk_5) rfl rfl rfl (by decide +kernel) ⟨Nat.le_of_ble_eq_true rfl, Nat.le_of_ble_eq_true rfl⟩) ⟨PM.blind, va_recv hK hP (ci := 12) (q0 := 0) rfl rfl, fun U hU hW => ⟨rfl, PM.at hK hE hP hS hU hW⟩⟩ rfl rfl hl.1 rfl (lv_room (Nat.le_of_ble_eq_true rfl)) dX12_lacksOf_434 ⟨Nat.le_of_ble_eq_true rfl, Nat.le_of_ble_eq_true rfl⟩) hS (fun q _ h => (freeM hS) q h) (freeM hS) (fun r12889 u t H1 locs ht hvm hw hB hz1 hk1 hS => ?_)
    unfold BM at hB
    rw [ht] at hB
    have hP : va_P (dC, dI) classes (wM g c v F rc) H1 := hB
    clear hz1
    generalize H1 = H at hP hS ⊢
    have rr_r12889 := i32_rng r12889
    have hP9 : va_P (dC, dI) classes (wM g c v F rc) H := hP
    exact W.iret (v := r12889) hx hb hr (fun t ht hW => ⟨⟨r12889, (v, F, rc), rfl, ⟨hI, rfl, (fun _ _ => rfl), hF, trivial⟩, (by show va_P _ _ _ t.heap; rw [ht]; exact hP9)⟩, hS.F ht⟩) hS.2.2 dX12_lacksOf_437
  by_cases hhi12888 : 111 < z12885.toInt
  · refine lv_tableOut (tgt := 431) hx hb dX12_lacksOf_22 (Or.inr hhi12888) (by decide) ?_
    refine lv_aload_n hx hb dX12_lacksOf_431 rfl (lv_at hl 3 rfl) ?_
    refine lv_iload_n hx hb dX12_lacksOf_432 rfl (lv_at hl 4 rfl) ?_
    refine lv_iload_n hx hb dX12_lacksOf_433 rfl (lv_at hl 6 rfl) ?_
    refine va_calli (va_runV (As := [.int p0, .int p2]) (rest := []) ⟨hx, hb, hml, hown, hwd⟩ (c_X12_late l dC dI g c adK adV v F rc H.size p0 p2 hg hI (by omega)) (cwV 2 hwd (gV wk_1213 wk_1210 wk_1211 wk_1212 wk_5) rfl rfl rfl (by decide +kernel) ⟨Nat.le_of_ble_eq_true rfl, Nat.le_of_ble_eq_true rfl⟩) ⟨PM.blind, va_recv hK hP (ci := 12) (q0 := 0) rfl rfl, fun U hU hW => ⟨rfl, PM.at hK hE hP hS hU hW⟩⟩ rfl rfl hl.1 rfl (lv_room (Nat.le_of_ble_eq_true rfl)) dX12_lacksOf_434 ⟨Nat.le_of_ble_eq_true rfl, Nat.le_of_ble_eq_true rfl⟩) hS (fun q _ h => (freeM hS) q h) (freeM hS) (fun r12890 u t H1 locs ht hvm hw hB hz1 hk1 hS => ?_)
    unfold BM at hB
    rw [ht] at hB
    have hP : va_P (dC, dI) classes (wM g c v F rc) H1 := hB
    clear hz1
    generalize H1 = H at hP hS ⊢
    have rr_r12890 := i32_rng r12890
    have hP9 : va_P (dC, dI) classes (wM g c v F rc) H := hP
    exact W.iret (v := r12890) hx hb hr (fun t ht hW => ⟨⟨r12890, (v, F, rc), rfl, ⟨hI, rfl, (fun _ _ => rfl), hF, trivial⟩, (by show va_P _ _ _ t.heap; rw [ht]; exact hP9)⟩, hS.F ht⟩) hS.2.2 dX12_lacksOf_437
  rcases (show z12885.toInt = 100 ∨ z12885.toInt = 101 ∨ z12885.toInt = 102 ∨ z12885.toInt = 103 ∨ z12885.toInt = 104 ∨ z12885.toInt = 105 ∨ z12885.toInt = 106 ∨ z12885.toInt = 107 ∨ z12885.toInt = 108 ∨ z12885.toInt = 109 ∨ z12885.toInt = 110 ∨ z12885.toInt = 111 by omega) with hk | hk | hk | hk | hk | hk | hk | hk | hk | hk | hk | hk
  · refine lv_tableIn (off := 62) (tgt := 84) hx hb dX12_lacksOf_22 hlo12887 hhi12888 (by rw [hk]; decide) (by decide) ?_
    refine lv_iload hx hb dX12_lacksOf_84 (lv_at hl 1 rfl) ?_
    refine lv_bipush (v := 104) hx hb dX12_lacksOf_86 (by decide) ?_
    refine lv_icmp_ne (tgt := 95) hx hb dX12_lacksOf_88 (by decide) (fun c12891 => ?_) (fun c12891 => ?_)
    · skip
      have t12892 := cv_ne (a := z12885.toInt) rfl (b := 104) (by decide) c12891
      refine lv_iload hx hb dX12_lacksOf_95 (lv_at hl 1 rfl) ?_
      refine lv_bipush (v := 108) hx hb dX12_lacksOf_97 (by decide) ?_
      refine lv_icmp_ne (tgt := 106) hx hb dX12_lacksOf_99 (by decide) (fun c12893 => ?_) (fun c12893 => ?_)
      · skip
        have t12894 := cv_ne (a := z12885.toInt) rfl (b := 108) (by decide) c12893
        refine lv_iconst (v := 2) hx hb dX12_lacksOf_106 (by decide) ?_
        refine lv_istore (lv' := [(8, .int 2), (7, .int 0), (6, .int z12885), (5, .int z12882), (0, .ref (g 0)), (1, .int p0), (2, .int p1), (3, .int p2), (4, .int p3)]) hx hb dX12_lacksOf_107 hl (by decide) rfl (fun ls hl => ?_)
        refine lv_iconst (v := 0) hx hb dX12_lacksOf_109 (by decide) ?_
        refine lv_istore (lv' := [(9, .int 0), (8, .int 2), (7, .int 0), (6, .int z12885), (5, .int z12882), (0, .ref (g 0)), (1, .int p0), (2, .int p1), (3, .int p2), (4, .int p3)]) hx hb dX12_lacksOf_110 hl (by decide) rfl (fun ls hl => ?_)
        have lp12895 : ∀ (n : Nat) (x9_lp12895 : Int32) (x7_lp12895 : Int32) (v_lp12895 : Nat → Int32) (F_lp12895 : Nat → Nat → Int32) (H : Heap) (locs : List Loc) (ls : Array Slot), (0 ≤ x9_lp12895.toInt) → (2147483648 - x9_lp12895.toInt ≤ (n : Int)) → (∀ k, k ∉ ([] : List Nat) → v_lp12895 k = v k) → IM v_lp12895 F_lp12895 → (∀ k, k ∉ ([30, 31] : List Nat) → F_lp12895 k = F k) → va_P (dC, dI) classes (wM g c v_lp12895 F_lp12895 rc) H → va_S (AM g s.heap.size) s.heap H locs → lv_has ls 11 [(9, .int x9_lp12895), (8, .int 2), (7, .int x7_lp12895), (6, .int z12885), (5, .int z12882), (0, .ref (g 0)), (1, .int p0), (2, .int p1), (3, .int p2), (4, .int p3)] → W p l e (headSpec (Cond.code yX12_lacksOf cX12_lacksOf 11 (some .int) :: wA) ({ frames := 5, cells := 0, slots := 0, locals := 200 })).room s m ([.ref (g 0), .int p0, .int p1, .int p2, .int p3] : List Value).toArray below meth c0 H locs 0 0 (MQ below (va_Qi (fun (r : Int32) (u : StM) => IM u.1 u.2.1 ∧ u.2.2 = rc ∧ (∀ k, k ∉ ([] : List Nat) → u.1 k = v k) ∧ (∀ k, k ∉ ([30, 31] : List Nat) → u.2.1 k = F k) ∧ True) (BM dC dI g c) (AM g s.heap.size)) ([.ref (g 0), .int p0, .int p1, .int p2, .int p3] : List Value).toArray s 0 0 (AM g s.heap.size)) (F0 m 112 ls []) := by
          intro n
          induction n with
          | zero =>
            intro x9_lp12895 x7_lp12895 v_lp12895 F_lp12895 H locs ls t12896 hm hf_lp12895 hI hF hP hS hl
            exfalso
            have := i32_rng x9_lp12895
            have := i32_rng x7_lp12895
            have hI1 := hI.1
            omega
          | succ n ih_lp12895 =>
            intro x9_lp12895 x7_lp12895 v_lp12895 F_lp12895 H locs ls t12896 hm hf_lp12895 hI hF hP hS hl
            have rx9_lp12895 := i32_rng x9_lp12895
            have rx7_lp12895 := i32_rng x7_lp12895
            refine lv_iload hx hb dX12_lacksOf_112 (lv_at hl 0 rfl) ?_
            refine lv_aload_n hx hb dX12_lacksOf_114 rfl (lv_at hl 5 rfl) ?_
            refine va_get (D := (dC, dI)) (ci := 12) (v := .int (v_lp12895 14)) (C := RX12) (T := TX12) (N := 63) hx hb hwd inA_X12 hown hK hP 0 rfl rfl 14 (by decide) (hwd _ wk_318) (fun _ h9 => h9) rfl dX12_lacksOf_115 ?_
            refine my_top (v := v 14) (hf_lp12895 14 (by decide)) ?_
            have t12897 : 0 ≤ (v 14).toInt ∧ (v 14).toInt ≤ 100 := by have h9 := hI.1 14 _ _ rfl; rw [show v_lp12895 14 = v 14 from hf_lp12895 14 (by decide)] at h9; exact h9
            refine lv_icmp_ge (tgt := 211) hx hb dX12_lacksOf_118 (by decide) (fun c12898 => ?_) (fun c12898 => ?_)
            · skip
              have t12899 := cv_le (a := (v 14).toInt) rfl (b := x9_lp12895.toInt) rfl c12898
              refine lv_iload hx hb dX12_lacksOf_211 (lv_at hl 2 rfl) ?_
              have hP9 : va_P (dC, dI) classes (wM g c v_lp12895 F_lp12895 rc) H := hP
              exact W.iret (v := x7_lp12895) hx hb hr (fun t ht hW => ⟨⟨x7_lp12895, (v_lp12895, F_lp12895, rc), rfl, ⟨hI, rfl, (frC (by decide) hf_lp12895 (fun _ _ => rfl)), hF, trivial⟩, (by show va_P _ _ _ t.heap; rw [ht]; exact hP9)⟩, hS.F ht⟩) hS.2.2 dX12_lacksOf_213
            · skip
              have t12900 := cv_nle (a := (v 14).toInt) rfl (b := x9_lp12895.toInt) rfl c12898
              refine lv_aload_n hx hb dX12_lacksOf_121 rfl (lv_at hl 5 rfl) ?_
              refine va_get (D := (dC, dI)) (ci := 12) (v := .ref (g 42)) (C := RX12) (T := TX12) (N := 63) hx hb hwd inA_X12 hown hK hP 0 rfl rfl 56 (by decide) (hwd _ wk_224) (fun _ h9 => h9) rfl dX12_lacksOf_122 ?_
              refine lv_iload hx hb dX12_lacksOf_125 (lv_at hl 0 rfl) ?_
              refine va_zald hx hb hK hP 42 41 rfl rfl (i := x9_lp12895) (vin (a := x9_lp12895.toInt) rfl (by omega)) dX12_lacksOf_127 ?_
              refine lv_topi (fun z12901 e12902 => ?_)
              have e12902 : z12901 = F 42 (x9_lp12895 : Int32).toNatClampNeg := e12902.trans (congrFun (hF 42 (by decide)) _)
              refine lv_if_eq (tgt := 205) hx hb dX12_lacksOf_128 (by decide) (fun c12903 => ?_) (fun c12903 => ?_)
              · skip
                have t12904 := cv_eq (a := z12901.toInt) rfl (b := 0) (by decide) c12903
                obtain ⟨z12905, e12906⟩ : ∃ y : Int32, y = x9_lp12895 + 1 := ⟨_, rfl⟩
                try (have t12907 := tadd e12906 rfl (b := 1) (by decide) (by omega))
                refine lv_iinc (v := z12905) (lv' := [(9, .int z12905), (8, .int 2), (7, .int x7_lp12895), (6, .int z12885), (5, .int z12882), (0, .ref (g 0)), (1, .int p0), (2, .int p1), (3, .int p2), (4, .int p3)]) hx hb dX12_lacksOf_205 hl (k := 0) rfl (by rw [e12906]; rfl) (by decide) rfl (fun ls hl => ?_)
                refine lv_goto (tgt := 112) hx hb dX12_lacksOf_208 (by decide) ?_
                exact ih_lp12895 z12905 x7_lp12895 v_lp12895 F_lp12895 _ _ _ (by omega) (by omega) hf_lp12895 hI hF hP hS (lv_sub hl [0, 1, 2, 3, 4, 5, 6, 7, 8, 9] rfl)
              · skip
                have t12908 := cv_ne (a := z12901.toInt) rfl (b := 0) (by decide) c12903
                refine lv_aload_n hx hb dX12_lacksOf_131 rfl (lv_at hl 5 rfl) ?_
                refine va_get (D := (dC, dI)) (ci := 12) (v := .ref (g 11)) (C := RX12) (T := TX12) (N := 63) hx hb hwd inA_X12 hown hK hP 0 rfl rfl 15 (by decide) (hwd _ wk_192) (fun _ h9 => h9) rfl dX12_lacksOf_132 ?_
                refine lv_iload hx hb dX12_lacksOf_135 (lv_at hl 0 rfl) ?_
                refine va_iald hx hb hK hP 11 10 rfl rfl (i := x9_lp12895) (vin (a := x9_lp12895.toInt) rfl (by omega)) dX12_lacksOf_137 ?_
                refine lv_topi (fun z12909 e12910 => ?_)
                have t12911 : 0 ≤ z12909.toInt ∧ z12909.toInt ≤ 9 := by rw [e12910]; exact hI.2 11 _ _ rfl _
                have e12910 : z12909 = F 11 (x9_lp12895 : Int32).toNatClampNeg := e12910.trans (congrFun (hF 11 (by decide)) _)
                refine lv_aload_n hx hb dX12_lacksOf_138 rfl (lv_at hl 5 rfl) ?_
                refine va_get (D := (dC, dI)) (ci := 12) (v := .ref (g 39)) (C := RX12) (T := TX12) (N := 63) hx hb hwd inA_X12 hown hK hP 0 rfl rfl 53 (by decide) (hwd _ wk_221) (fun _ h9 => h9) rfl dX12_lacksOf_139 ?_
                refine lv_iload hx hb dX12_lacksOf_142 (lv_at hl 4 rfl) ?_
                refine va_iald hx hb hK hP 39 38 rfl rfl (i := z12882) (vin (a := z12882.toInt) rfl (by omega)) dX12_lacksOf_144 ?_
                refine lv_topi (fun z12912 e12913 => ?_)
                have e12913 : z12912 = F 39 (z12882 : Int32).toNatClampNeg := e12913.trans (congrFun (hF 39 (by decide)) _)
                refine lv_icmp_ne (tgt := 205) hx hb dX12_lacksOf_145 (by decide) (fun c12914 => ?_) (fun c12914 => ?_)
                · skip
                  have t12915 := cv_ne (a := z12909.toInt) rfl (b := z12912.toInt) rfl c12914
                  obtain ⟨z12916, e12917⟩ : ∃ y : Int32, y = x9_lp12895 + 1 := ⟨_, rfl⟩
                  try (have t12918 := tadd e12917 rfl (b := 1) (by decide) (by omega))
                  refine lv_iinc (v := z12916) (lv' := [(9, .int z12916), (8, .int 2), (7, .int x7_lp12895), (6, .int z12885), (5, .int z12882), (0, .ref (g 0)), (1, .int p0), (2, .int p1), (3, .int p2), (4, .int p3)]) hx hb dX12_lacksOf_205 hl (k := 0) rfl (by rw [e12917]; rfl) (by decide) rfl (fun ls hl => ?_)
                  refine lv_goto (tgt := 112) hx hb dX12_lacksOf_208 (by decide) ?_
                  exact ih_lp12895 z12916 x7_lp12895 v_lp12895 F_lp12895 _ _ _ (by omega) (by omega) hf_lp12895 hI hF hP hS (lv_sub hl [0, 1, 2, 3, 4, 5, 6, 7, 8, 9] rfl)
                · skip
                  have t12919 := cv_eq (a := z12909.toInt) rfl (b := z12912.toInt) rfl c12914
                  refine lv_aload_n hx hb dX12_lacksOf_148 rfl (lv_at hl 5 rfl) ?_
                  refine lv_iload hx hb dX12_lacksOf_149 (lv_at hl 0 rfl) ?_
                  refine lv_iload hx hb dX12_lacksOf_151 (lv_at hl 1 rfl) ?_
                  refine va_calli (va_runV (As := [.int x9_lp12895, .int 2]) (rest := []) ⟨hx, hb, hml, hown, hwd⟩ (c_X12_limitOf l dC dI g c adK adV v_lp12895 F_lp12895 rc H.size x9_lp12895 2 hg hI (by omega) (by have : (2 : Int32).toInt = 2 := (by decide); omega)) (cwV 2 hwd (gV wk_489 wk_486 wk_487 wk_488 wk_5) rfl rfl rfl (by decide +kernel) ⟨Nat.le_of_ble_eq_true rfl, Nat.le_of_ble_eq_true rfl⟩) ⟨PM.blind, va_recv hK hP (ci := 12) (q0 := 0) rfl rfl, fun U hU hW => ⟨rfl, PM.at hK hE hP hS hU hW⟩⟩ rfl rfl hl.1 rfl (lv_room (Nat.le_of_ble_eq_true rfl)) dX12_lacksOf_153 ⟨Nat.le_of_ble_eq_true rfl, Nat.le_of_ble_eq_true rfl⟩) hS (fun q _ h => (freeM hS) q h) (freeM hS) (fun r12920 u t H1 locs ht hvm hw hB hz1 hk1 hS => ?_)
                  unfold BM at hB
                  rw [ht] at hB
                  have hP : va_P (dC, dI) classes (wM g c v_lp12895 F_lp12895 rc) H1 := hB
                  replace hw : r12920.toInt = (F_lp12895 1 (limJ (F_lp12895 11) x9_lp12895 (2 : Int32))).toInt := hw
                  rw [hF 1 (by decide)] at hw
                  rw [hF 11 (by decide)] at hw
                  have hw_r12920 := hw
                  clear hw
                  have k12921 : (2 : Int32).toInt = 2 := by decide
                  clear hz1
                  generalize H1 = H at hP hS ⊢
                  refine lv_if_ne (tgt := 162) hx hb dX12_lacksOf_156 (by decide) (fun c12922 => ?_) (fun c12922 => ?_)
                  · skip
                    have t12923 := cv_ne (a := r12920.toInt) rfl (b := 0) (by decide) c12922
                    refine lv_aload_n hx hb dX12_lacksOf_162 rfl (lv_at hl 5 rfl) ?_
                    refine lv_iload hx hb dX12_lacksOf_163 (lv_at hl 0 rfl) ?_
                    refine lv_iload hx hb dX12_lacksOf_165 (lv_at hl 1 rfl) ?_
                    refine lv_iload hx hb dX12_lacksOf_167 (lv_at hl 9 rfl) ?_
                    refine va_calli (va_runV (As := [.int x9_lp12895, .int 2, .int p3]) (rest := []) ⟨hx, hb, hml, hown, hwd⟩ (c_X12_leftOf l dC dI g c adK adV v_lp12895 F_lp12895 rc H.size x9_lp12895 2 p3 hg hI (by omega) (by have : (2 : Int32).toInt = 2 := (by decide); omega) (JL.to hL (show v_lp12895 31 = v 31 from hf_lp12895 31 (by decide)) (hF 28 (by decide)) (hF 29 (by decide)) (hF 27 (by decide)))) (cwV 3 hwd (gV wk_493 wk_490 wk_491 wk_492 wk_5) rfl rfl rfl (by decide +kernel) ⟨Nat.le_of_ble_eq_true rfl, Nat.le_of_ble_eq_true rfl⟩) ⟨PM.blind, va_recv hK hP (ci := 12) (q0 := 0) rfl rfl, fun U hU hW => ⟨rfl, PM.at hK hE hP hS hU hW⟩⟩ rfl rfl hl.1 rfl (lv_room (Nat.le_of_ble_eq_true rfl)) dX12_lacksOf_169 ⟨Nat.le_of_ble_eq_true rfl, Nat.le_of_ble_eq_true rfl⟩) hS (fun q _ h => (freeM hS) q h) (freeM hS) (fun r12924 u t H1 locs ht hvm hw hB hz1 hk1 hS => ?_)
                    unfold BM at hB
                    rw [ht] at hB
                    obtain ⟨v12925, F12926, rc9⟩ := u
                    obtain ⟨hI, hrc, hf12927, hG12928, hw⟩ := hw
                    dsimp only at hI hrc hB hf12927 hG12928 hw
                    have hF := frCF (by decide) hG12928 hF
                    rw [hrc] at hB
                    have hP : va_P (dC, dI) classes (wM g c v12925 F12926 rc) H1 := hB
                    clear hz1
                    generalize H1 = H at hP hS ⊢
                    have rr_r12924 := i32_rng r12924
                    refine lv_istore (lv' := [(10, .int r12924), (9, .int x9_lp12895), (8, .int 2), (7, .int x7_lp12895), (6, .int z12885), (5, .int z12882), (0, .ref (g 0)), (1, .int p0), (2, .int p1), (3, .int p2), (4, .int p3)]) hx hb dX12_lacksOf_172 hl (by decide) rfl (fun ls hl => ?_)
                    refine lv_iload hx hb dX12_lacksOf_174 (lv_at hl 3 rfl) ?_
                    refine lv_iload hx hb dX12_lacksOf_176 (lv_at hl 0 rfl) ?_
                    refine lv_aload_n hx hb dX12_lacksOf_178 rfl (lv_at hl 6 rfl) ?_
                    refine va_get (D := (dC, dI)) (ci := 12) (v := .ref (g 40)) (C := RX12) (T := TX12) (N := 63) hx hb hwd inA_X12 hown hK hP 0 rfl rfl 54 (by decide) (hwd _ wk_222) (fun _ h9 => h9) rfl dX12_lacksOf_179 ?_
                    refine lv_iload hx hb dX12_lacksOf_182 (lv_at hl 5 rfl) ?_
                    refine va_iald hx hb hK hP 40 39 rfl rfl (i := z12882) (vin (a := z12882.toInt) rfl (by omega)) dX12_lacksOf_184 ?_
                    refine lv_topi (fun z12929 e12930 => ?_)
                    have e12930 : z12929 = F 40 (z12882 : Int32).toNatClampNeg := e12930.trans (congrFun (hF 40 (by decide)) _)
                    refine lv_icmp_ge (tgt := 201) hx hb dX12_lacksOf_185 (by decide) (fun c12931 => ?_) (fun c12931 => ?_)
                    · skip
                      have t12932 := cv_le (a := z12929.toInt) rfl (b := r12924.toInt) rfl c12931
                      refine lv_iconst (v := 0) hx hb dX12_lacksOf_201 (by decide) ?_
                      refine lv_iadd hx hb dX12_lacksOf_202 ?_
                      refine lv_topi (fun z12933 e12934 => ?_)
                      try (have t12935 := tadd e12934 (a := x7_lp12895.toInt) rfl (b := 0) (by decide) (by omega))
                      refine lv_istore (lv' := [(7, .int z12933), (10, .int r12924), (9, .int x9_lp12895), (8, .int 2), (6, .int z12885), (5, .int z12882), (0, .ref (g 0)), (1, .int p0), (2, .int p1), (3, .int p2), (4, .int p3)]) hx hb dX12_lacksOf_203 hl (by decide) rfl (fun ls hl => ?_)
                      obtain ⟨z12936, e12937⟩ : ∃ y : Int32, y = x9_lp12895 + 1 := ⟨_, rfl⟩
                      try (have t12938 := tadd e12937 rfl (b := 1) (by decide) (by omega))
                      refine lv_iinc (v := z12936) (lv' := [(9, .int z12936), (7, .int z12933), (10, .int r12924), (8, .int 2), (6, .int z12885), (5, .int z12882), (0, .ref (g 0)), (1, .int p0), (2, .int p1), (3, .int p2), (4, .int p3)]) hx hb dX12_lacksOf_205 hl (k := 2) rfl (by rw [e12937]; rfl) (by decide) rfl (fun ls hl => ?_)
                      refine lv_goto (tgt := 112) hx hb dX12_lacksOf_208 (by decide) ?_
                      exact ih_lp12895 z12936 z12933 v12925 F12926 _ _ _ (by omega) (by omega) (frC (by decide) hf12927 hf_lp12895) hI hF hP hS (lv_sub hl [0, 3, 1, 4, 5, 6, 7, 8, 9, 10] rfl)
                    · skip
                      have t12939 := cv_nle (a := z12929.toInt) rfl (b := r12924.toInt) rfl c12931
                      refine lv_aload_n hx hb dX12_lacksOf_188 rfl (lv_at hl 6 rfl) ?_
                      refine va_get (D := (dC, dI)) (ci := 12) (v := .ref (g 40)) (C := RX12) (T := TX12) (N := 63) hx hb hwd inA_X12 hown hK hP 0 rfl rfl 54 (by decide) (hwd _ wk_222) (fun _ h9 => h9) rfl dX12_lacksOf_189 ?_
                      refine lv_iload hx hb dX12_lacksOf_192 (lv_at hl 5 rfl) ?_
                      refine va_iald hx hb hK hP 40 39 rfl rfl (i := z12882) (vin (a := z12882.toInt) rfl (by omega)) dX12_lacksOf_194 ?_
                      refine lv_topi (fun z12940 e12941 => ?_)
                      have e12941 : z12940 = F 40 (z12882 : Int32).toNatClampNeg := e12941.trans (congrFun (hF 40 (by decide)) _)
                      refine lv_iload hx hb dX12_lacksOf_195 (lv_at hl 0 rfl) ?_
                      refine lv_isub hx hb dX12_lacksOf_197 ?_
                      refine lv_topi (fun z12942 e12943 => ?_)
                      try (have t12944 := tsub e12943 (a := z12940.toInt) rfl (b := r12924.toInt) rfl (by omega))
                      refine lv_goto (tgt := 202) hx hb dX12_lacksOf_198 (by decide) ?_
                      refine lv_iadd hx hb dX12_lacksOf_202 ?_
                      refine lv_topi (fun z12945 e12946 => ?_)
                      try (have t12947 := tadd e12946 (a := x7_lp12895.toInt) rfl (b := z12942.toInt) rfl (by omega))
                      refine lv_istore (lv' := [(7, .int z12945), (10, .int r12924), (9, .int x9_lp12895), (8, .int 2), (6, .int z12885), (5, .int z12882), (0, .ref (g 0)), (1, .int p0), (2, .int p1), (3, .int p2), (4, .int p3)]) hx hb dX12_lacksOf_203 hl (by decide) rfl (fun ls hl => ?_)
                      obtain ⟨z12948, e12949⟩ : ∃ y : Int32, y = x9_lp12895 + 1 := ⟨_, rfl⟩
                      try (have t12950 := tadd e12949 rfl (b := 1) (by decide) (by omega))
                      refine lv_iinc (v := z12948) (lv' := [(9, .int z12948), (7, .int z12945), (10, .int r12924), (8, .int 2), (6, .int z12885), (5, .int z12882), (0, .ref (g 0)), (1, .int p0), (2, .int p1), (3, .int p2), (4, .int p3)]) hx hb dX12_lacksOf_205 hl (k := 2) rfl (by rw [e12949]; rfl) (by decide) rfl (fun ls hl => ?_)
                      refine lv_goto (tgt := 112) hx hb dX12_lacksOf_208 (by decide) ?_
                      exact ih_lp12895 z12948 z12945 v12925 F12926 _ _ _ (by omega) (by omega) (frC (by decide) hf12927 hf_lp12895) hI hF hP hS (lv_sub hl [0, 3, 1, 4, 5, 6, 7, 8, 9, 10] rfl)
                  · skip
                    have t12951 := cv_eq (a := r12920.toInt) rfl (b := 0) (by decide) c12922
                    refine lv_goto (tgt := 205) hx hb dX12_lacksOf_159 (by decide) ?_
                    obtain ⟨z12952, e12953⟩ : ∃ y : Int32, y = x9_lp12895 + 1 := ⟨_, rfl⟩
                    try (have t12954 := tadd e12953 rfl (b := 1) (by decide) (by omega))
                    refine lv_iinc (v := z12952) (lv' := [(9, .int z12952), (8, .int 2), (7, .int x7_lp12895), (6, .int z12885), (5, .int z12882), (0, .ref (g 0)), (1, .int p0), (2, .int p1), (3, .int p2), (4, .int p3)]) hx hb dX12_lacksOf_205 hl (k := 0) rfl (by rw [e12953]; rfl) (by decide) rfl (fun ls hl => ?_)
                    refine lv_goto (tgt := 112) hx hb dX12_lacksOf_208 (by decide) ?_
                    exact ih_lp12895 z12952 x7_lp12895 v_lp12895 F_lp12895 _ _ _ (by omega) (by omega) hf_lp12895 hI hF hP hS (lv_sub hl [0, 1, 2, 3, 4, 5, 6, 7, 8, 9] rfl)
        obtain ⟨n9, hn9⟩ : ∃ n : Nat, 2147483648 - 0 ≤ (n : Int) := ⟨((2147483648 - 0 : Int)).toNat, by omega⟩
        exact lp12895 n9 0 0 v F H _ ls (by have : (0 : Int32).toInt = 0 := (by decide); have : (0 : Int32).toInt = 0 := (by decide); omega) (by have : (0 : Int32).toInt = 0 := (by decide); have : (0 : Int32).toInt = 0 := (by decide); omega) (fun _ _ => rfl) hI hF hP hS hl
      · skip
        have t12955 := cv_eq (a := z12885.toInt) rfl (b := 108) (by decide) c12893
        refine lv_iconst (v := 1) hx hb dX12_lacksOf_102 (by decide) ?_
        refine lv_goto (tgt := 107) hx hb dX12_lacksOf_103 (by decide) ?_
        refine lv_istore (lv' := [(8, .int 1), (7, .int 0), (6, .int z12885), (5, .int z12882), (0, .ref (g 0)), (1, .int p0), (2, .int p1), (3, .int p2), (4, .int p3)]) hx hb dX12_lacksOf_107 hl (by decide) rfl (fun ls hl => ?_)
        refine lv_iconst (v := 0) hx hb dX12_lacksOf_109 (by decide) ?_
        refine lv_istore (lv' := [(9, .int 0), (8, .int 1), (7, .int 0), (6, .int z12885), (5, .int z12882), (0, .ref (g 0)), (1, .int p0), (2, .int p1), (3, .int p2), (4, .int p3)]) hx hb dX12_lacksOf_110 hl (by decide) rfl (fun ls hl => ?_)
        have lp12956 : ∀ (n : Nat) (x9_lp12956 : Int32) (x7_lp12956 : Int32) (v_lp12956 : Nat → Int32) (F_lp12956 : Nat → Nat → Int32) (H : Heap) (locs : List Loc) (ls : Array Slot), (0 ≤ x9_lp12956.toInt) → (2147483648 - x9_lp12956.toInt ≤ (n : Int)) → (∀ k, k ∉ ([] : List Nat) → v_lp12956 k = v k) → IM v_lp12956 F_lp12956 → (∀ k, k ∉ ([30, 31] : List Nat) → F_lp12956 k = F k) → va_P (dC, dI) classes (wM g c v_lp12956 F_lp12956 rc) H → va_S (AM g s.heap.size) s.heap H locs → lv_has ls 11 [(9, .int x9_lp12956), (8, .int 1), (7, .int x7_lp12956), (6, .int z12885), (5, .int z12882), (0, .ref (g 0)), (1, .int p0), (2, .int p1), (3, .int p2), (4, .int p3)] → W p l e (headSpec (Cond.code yX12_lacksOf cX12_lacksOf 11 (some .int) :: wA) ({ frames := 5, cells := 0, slots := 0, locals := 200 })).room s m ([.ref (g 0), .int p0, .int p1, .int p2, .int p3] : List Value).toArray below meth c0 H locs 0 0 (MQ below (va_Qi (fun (r : Int32) (u : StM) => IM u.1 u.2.1 ∧ u.2.2 = rc ∧ (∀ k, k ∉ ([] : List Nat) → u.1 k = v k) ∧ (∀ k, k ∉ ([30, 31] : List Nat) → u.2.1 k = F k) ∧ True) (BM dC dI g c) (AM g s.heap.size)) ([.ref (g 0), .int p0, .int p1, .int p2, .int p3] : List Value).toArray s 0 0 (AM g s.heap.size)) (F0 m 112 ls []) := by
          intro n
          induction n with
          | zero =>
            intro x9_lp12956 x7_lp12956 v_lp12956 F_lp12956 H locs ls t12957 hm hf_lp12956 hI hF hP hS hl
            exfalso
            have := i32_rng x9_lp12956
            have := i32_rng x7_lp12956
            have hI1 := hI.1
            omega
          | succ n ih_lp12956 =>
            intro x9_lp12956 x7_lp12956 v_lp12956 F_lp12956 H locs ls t12957 hm hf_lp12956 hI hF hP hS hl
            have rx9_lp12956 := i32_rng x9_lp12956
            have rx7_lp12956 := i32_rng x7_lp12956
            refine lv_iload hx hb dX12_lacksOf_112 (lv_at hl 0 rfl) ?_
            refine lv_aload_n hx hb dX12_lacksOf_114 rfl (lv_at hl 5 rfl) ?_
            refine va_get (D := (dC, dI)) (ci := 12) (v := .int (v_lp12956 14)) (C := RX12) (T := TX12) (N := 63) hx hb hwd inA_X12 hown hK hP 0 rfl rfl 14 (by decide) (hwd _ wk_318) (fun _ h9 => h9) rfl dX12_lacksOf_115 ?_
            refine my_top (v := v 14) (hf_lp12956 14 (by decide)) ?_
            have t12958 : 0 ≤ (v 14).toInt ∧ (v 14).toInt ≤ 100 := by have h9 := hI.1 14 _ _ rfl; rw [show v_lp12956 14 = v 14 from hf_lp12956 14 (by decide)] at h9; exact h9
            refine lv_icmp_ge (tgt := 211) hx hb dX12_lacksOf_118 (by decide) (fun c12959 => ?_) (fun c12959 => ?_)
            · skip
              have t12960 := cv_le (a := (v 14).toInt) rfl (b := x9_lp12956.toInt) rfl c12959
              refine lv_iload hx hb dX12_lacksOf_211 (lv_at hl 2 rfl) ?_
              have hP9 : va_P (dC, dI) classes (wM g c v_lp12956 F_lp12956 rc) H := hP
              exact W.iret (v := x7_lp12956) hx hb hr (fun t ht hW => ⟨⟨x7_lp12956, (v_lp12956, F_lp12956, rc), rfl, ⟨hI, rfl, (frC (by decide) hf_lp12956 (fun _ _ => rfl)), hF, trivial⟩, (by show va_P _ _ _ t.heap; rw [ht]; exact hP9)⟩, hS.F ht⟩) hS.2.2 dX12_lacksOf_213
            · skip
              have t12961 := cv_nle (a := (v 14).toInt) rfl (b := x9_lp12956.toInt) rfl c12959
              refine lv_aload_n hx hb dX12_lacksOf_121 rfl (lv_at hl 5 rfl) ?_
              refine va_get (D := (dC, dI)) (ci := 12) (v := .ref (g 42)) (C := RX12) (T := TX12) (N := 63) hx hb hwd inA_X12 hown hK hP 0 rfl rfl 56 (by decide) (hwd _ wk_224) (fun _ h9 => h9) rfl dX12_lacksOf_122 ?_
              refine lv_iload hx hb dX12_lacksOf_125 (lv_at hl 0 rfl) ?_
              refine va_zald hx hb hK hP 42 41 rfl rfl (i := x9_lp12956) (vin (a := x9_lp12956.toInt) rfl (by omega)) dX12_lacksOf_127 ?_
              refine lv_topi (fun z12962 e12963 => ?_)
              have e12963 : z12962 = F 42 (x9_lp12956 : Int32).toNatClampNeg := e12963.trans (congrFun (hF 42 (by decide)) _)
              refine lv_if_eq (tgt := 205) hx hb dX12_lacksOf_128 (by decide) (fun c12964 => ?_) (fun c12964 => ?_)
              · skip
                have t12965 := cv_eq (a := z12962.toInt) rfl (b := 0) (by decide) c12964
                obtain ⟨z12966, e12967⟩ : ∃ y : Int32, y = x9_lp12956 + 1 := ⟨_, rfl⟩
                try (have t12968 := tadd e12967 rfl (b := 1) (by decide) (by omega))
                refine lv_iinc (v := z12966) (lv' := [(9, .int z12966), (8, .int 1), (7, .int x7_lp12956), (6, .int z12885), (5, .int z12882), (0, .ref (g 0)), (1, .int p0), (2, .int p1), (3, .int p2), (4, .int p3)]) hx hb dX12_lacksOf_205 hl (k := 0) rfl (by rw [e12967]; rfl) (by decide) rfl (fun ls hl => ?_)
                refine lv_goto (tgt := 112) hx hb dX12_lacksOf_208 (by decide) ?_
                exact ih_lp12956 z12966 x7_lp12956 v_lp12956 F_lp12956 _ _ _ (by omega) (by omega) hf_lp12956 hI hF hP hS (lv_sub hl [0, 1, 2, 3, 4, 5, 6, 7, 8, 9] rfl)
              · skip
                have t12969 := cv_ne (a := z12962.toInt) rfl (b := 0) (by decide) c12964
                refine lv_aload_n hx hb dX12_lacksOf_131 rfl (lv_at hl 5 rfl) ?_
                refine va_get (D := (dC, dI)) (ci := 12) (v := .ref (g 11)) (C := RX12) (T := TX12) (N := 63) hx hb hwd inA_X12 hown hK hP 0 rfl rfl 15 (by decide) (hwd _ wk_192) (fun _ h9 => h9) rfl dX12_lacksOf_132 ?_
                refine lv_iload hx hb dX12_lacksOf_135 (lv_at hl 0 rfl) ?_
                refine va_iald hx hb hK hP 11 10 rfl rfl (i := x9_lp12956) (vin (a := x9_lp12956.toInt) rfl (by omega)) dX12_lacksOf_137 ?_
                refine lv_topi (fun z12970 e12971 => ?_)
                have t12972 : 0 ≤ z12970.toInt ∧ z12970.toInt ≤ 9 := by rw [e12971]; exact hI.2 11 _ _ rfl _
                have e12971 : z12970 = F 11 (x9_lp12956 : Int32).toNatClampNeg := e12971.trans (congrFun (hF 11 (by decide)) _)
                refine lv_aload_n hx hb dX12_lacksOf_138 rfl (lv_at hl 5 rfl) ?_
                refine va_get (D := (dC, dI)) (ci := 12) (v := .ref (g 39)) (C := RX12) (T := TX12) (N := 63) hx hb hwd inA_X12 hown hK hP 0 rfl rfl 53 (by decide) (hwd _ wk_221) (fun _ h9 => h9) rfl dX12_lacksOf_139 ?_
                refine lv_iload hx hb dX12_lacksOf_142 (lv_at hl 4 rfl) ?_
                refine va_iald hx hb hK hP 39 38 rfl rfl (i := z12882) (vin (a := z12882.toInt) rfl (by omega)) dX12_lacksOf_144 ?_
                refine lv_topi (fun z12973 e12974 => ?_)
                have e12974 : z12973 = F 39 (z12882 : Int32).toNatClampNeg := e12974.trans (congrFun (hF 39 (by decide)) _)
                refine lv_icmp_ne (tgt := 205) hx hb dX12_lacksOf_145 (by decide) (fun c12975 => ?_) (fun c12975 => ?_)
                · skip
                  have t12976 := cv_ne (a := z12970.toInt) rfl (b := z12973.toInt) rfl c12975
                  obtain ⟨z12977, e12978⟩ : ∃ y : Int32, y = x9_lp12956 + 1 := ⟨_, rfl⟩
                  try (have t12979 := tadd e12978 rfl (b := 1) (by decide) (by omega))
                  refine lv_iinc (v := z12977) (lv' := [(9, .int z12977), (8, .int 1), (7, .int x7_lp12956), (6, .int z12885), (5, .int z12882), (0, .ref (g 0)), (1, .int p0), (2, .int p1), (3, .int p2), (4, .int p3)]) hx hb dX12_lacksOf_205 hl (k := 0) rfl (by rw [e12978]; rfl) (by decide) rfl (fun ls hl => ?_)
                  refine lv_goto (tgt := 112) hx hb dX12_lacksOf_208 (by decide) ?_
                  exact ih_lp12956 z12977 x7_lp12956 v_lp12956 F_lp12956 _ _ _ (by omega) (by omega) hf_lp12956 hI hF hP hS (lv_sub hl [0, 1, 2, 3, 4, 5, 6, 7, 8, 9] rfl)
                · skip
                  have t12980 := cv_eq (a := z12970.toInt) rfl (b := z12973.toInt) rfl c12975
                  refine lv_aload_n hx hb dX12_lacksOf_148 rfl (lv_at hl 5 rfl) ?_
                  refine lv_iload hx hb dX12_lacksOf_149 (lv_at hl 0 rfl) ?_
                  refine lv_iload hx hb dX12_lacksOf_151 (lv_at hl 1 rfl) ?_
                  refine va_calli (va_runV (As := [.int x9_lp12956, .int 1]) (rest := []) ⟨hx, hb, hml, hown, hwd⟩ (c_X12_limitOf l dC dI g c adK adV v_lp12956 F_lp12956 rc H.size x9_lp12956 1 hg hI (by omega) (by have : (1 : Int32).toInt = 1 := (by decide); omega)) (cwV 2 hwd (gV wk_489 wk_486 wk_487 wk_488 wk_5) rfl rfl rfl (by decide +kernel) ⟨Nat.le_of_ble_eq_true rfl, Nat.le_of_ble_eq_true rfl⟩) ⟨PM.blind, va_recv hK hP (ci := 12) (q0 := 0) rfl rfl, fun U hU hW => ⟨rfl, PM.at hK hE hP hS hU hW⟩⟩ rfl rfl hl.1 rfl (lv_room (Nat.le_of_ble_eq_true rfl)) dX12_lacksOf_153 ⟨Nat.le_of_ble_eq_true rfl, Nat.le_of_ble_eq_true rfl⟩) hS (fun q _ h => (freeM hS) q h) (freeM hS) (fun r12981 u t H1 locs ht hvm hw hB hz1 hk1 hS => ?_)
                  unfold BM at hB
                  rw [ht] at hB
                  have hP : va_P (dC, dI) classes (wM g c v_lp12956 F_lp12956 rc) H1 := hB
                  replace hw : r12981.toInt = (F_lp12956 1 (limJ (F_lp12956 11) x9_lp12956 (1 : Int32))).toInt := hw
                  rw [hF 1 (by decide)] at hw
                  rw [hF 11 (by decide)] at hw
                  have hw_r12981 := hw
                  clear hw
                  have k12982 : (1 : Int32).toInt = 1 := by decide
                  clear hz1
                  generalize H1 = H at hP hS ⊢
                  refine lv_if_ne (tgt := 162) hx hb dX12_lacksOf_156 (by decide) (fun c12983 => ?_) (fun c12983 => ?_)
                  · skip
                    have t12984 := cv_ne (a := r12981.toInt) rfl (b := 0) (by decide) c12983
                    refine lv_aload_n hx hb dX12_lacksOf_162 rfl (lv_at hl 5 rfl) ?_
                    refine lv_iload hx hb dX12_lacksOf_163 (lv_at hl 0 rfl) ?_
                    refine lv_iload hx hb dX12_lacksOf_165 (lv_at hl 1 rfl) ?_
                    refine lv_iload hx hb dX12_lacksOf_167 (lv_at hl 9 rfl) ?_
                    refine va_calli (va_runV (As := [.int x9_lp12956, .int 1, .int p3]) (rest := []) ⟨hx, hb, hml, hown, hwd⟩ (c_X12_leftOf l dC dI g c adK adV v_lp12956 F_lp12956 rc H.size x9_lp12956 1 p3 hg hI (by omega) (by have : (1 : Int32).toInt = 1 := (by decide); omega) (JL.to hL (show v_lp12956 31 = v 31 from hf_lp12956 31 (by decide)) (hF 28 (by decide)) (hF 29 (by decide)) (hF 27 (by decide)))) (cwV 3 hwd (gV wk_493 wk_490 wk_491 wk_492 wk_5) rfl rfl rfl (by decide +kernel) ⟨Nat.le_of_ble_eq_true rfl, Nat.le_of_ble_eq_true rfl⟩) ⟨PM.blind, va_recv hK hP (ci := 12) (q0 := 0) rfl rfl, fun U hU hW => ⟨rfl, PM.at hK hE hP hS hU hW⟩⟩ rfl rfl hl.1 rfl (lv_room (Nat.le_of_ble_eq_true rfl)) dX12_lacksOf_169 ⟨Nat.le_of_ble_eq_true rfl, Nat.le_of_ble_eq_true rfl⟩) hS (fun q _ h => (freeM hS) q h) (freeM hS) (fun r12985 u t H1 locs ht hvm hw hB hz1 hk1 hS => ?_)
                    unfold BM at hB
                    rw [ht] at hB
                    obtain ⟨v12986, F12987, rc9⟩ := u
                    obtain ⟨hI, hrc, hf12988, hG12989, hw⟩ := hw
                    dsimp only at hI hrc hB hf12988 hG12989 hw
                    have hF := frCF (by decide) hG12989 hF
                    rw [hrc] at hB
                    have hP : va_P (dC, dI) classes (wM g c v12986 F12987 rc) H1 := hB
                    clear hz1
                    generalize H1 = H at hP hS ⊢
                    have rr_r12985 := i32_rng r12985
                    refine lv_istore (lv' := [(10, .int r12985), (9, .int x9_lp12956), (8, .int 1), (7, .int x7_lp12956), (6, .int z12885), (5, .int z12882), (0, .ref (g 0)), (1, .int p0), (2, .int p1), (3, .int p2), (4, .int p3)]) hx hb dX12_lacksOf_172 hl (by decide) rfl (fun ls hl => ?_)
                    refine lv_iload hx hb dX12_lacksOf_174 (lv_at hl 3 rfl) ?_
                    refine lv_iload hx hb dX12_lacksOf_176 (lv_at hl 0 rfl) ?_
                    refine lv_aload_n hx hb dX12_lacksOf_178 rfl (lv_at hl 6 rfl) ?_
                    refine va_get (D := (dC, dI)) (ci := 12) (v := .ref (g 40)) (C := RX12) (T := TX12) (N := 63) hx hb hwd inA_X12 hown hK hP 0 rfl rfl 54 (by decide) (hwd _ wk_222) (fun _ h9 => h9) rfl dX12_lacksOf_179 ?_
                    refine lv_iload hx hb dX12_lacksOf_182 (lv_at hl 5 rfl) ?_
                    refine va_iald hx hb hK hP 40 39 rfl rfl (i := z12882) (vin (a := z12882.toInt) rfl (by omega)) dX12_lacksOf_184 ?_
                    refine lv_topi (fun z12990 e12991 => ?_)
                    have e12991 : z12990 = F 40 (z12882 : Int32).toNatClampNeg := e12991.trans (congrFun (hF 40 (by decide)) _)
                    refine lv_icmp_ge (tgt := 201) hx hb dX12_lacksOf_185 (by decide) (fun c12992 => ?_) (fun c12992 => ?_)
                    · skip
                      have t12993 := cv_le (a := z12990.toInt) rfl (b := r12985.toInt) rfl c12992
                      refine lv_iconst (v := 0) hx hb dX12_lacksOf_201 (by decide) ?_
                      refine lv_iadd hx hb dX12_lacksOf_202 ?_
                      refine lv_topi (fun z12994 e12995 => ?_)
                      try (have t12996 := tadd e12995 (a := x7_lp12956.toInt) rfl (b := 0) (by decide) (by omega))
                      refine lv_istore (lv' := [(7, .int z12994), (10, .int r12985), (9, .int x9_lp12956), (8, .int 1), (6, .int z12885), (5, .int z12882), (0, .ref (g 0)), (1, .int p0), (2, .int p1), (3, .int p2), (4, .int p3)]) hx hb dX12_lacksOf_203 hl (by decide) rfl (fun ls hl => ?_)
                      obtain ⟨z12997, e12998⟩ : ∃ y : Int32, y = x9_lp12956 + 1 := ⟨_, rfl⟩
                      try (have t12999 := tadd e12998 rfl (b := 1) (by decide) (by omega))
                      refine lv_iinc (v := z12997) (lv' := [(9, .int z12997), (7, .int z12994), (10, .int r12985), (8, .int 1), (6, .int z12885), (5, .int z12882), (0, .ref (g 0)), (1, .int p0), (2, .int p1), (3, .int p2), (4, .int p3)]) hx hb dX12_lacksOf_205 hl (k := 2) rfl (by rw [e12998]; rfl) (by decide) rfl (fun ls hl => ?_)
                      refine lv_goto (tgt := 112) hx hb dX12_lacksOf_208 (by decide) ?_
                      exact ih_lp12956 z12997 z12994 v12986 F12987 _ _ _ (by omega) (by omega) (frC (by decide) hf12988 hf_lp12956) hI hF hP hS (lv_sub hl [0, 3, 1, 4, 5, 6, 7, 8, 9, 10] rfl)
                    · skip
                      have t13000 := cv_nle (a := z12990.toInt) rfl (b := r12985.toInt) rfl c12992
                      refine lv_aload_n hx hb dX12_lacksOf_188 rfl (lv_at hl 6 rfl) ?_
                      refine va_get (D := (dC, dI)) (ci := 12) (v := .ref (g 40)) (C := RX12) (T := TX12) (N := 63) hx hb hwd inA_X12 hown hK hP 0 rfl rfl 54 (by decide) (hwd _ wk_222) (fun _ h9 => h9) rfl dX12_lacksOf_189 ?_
                      refine lv_iload hx hb dX12_lacksOf_192 (lv_at hl 5 rfl) ?_
                      refine va_iald hx hb hK hP 40 39 rfl rfl (i := z12882) (vin (a := z12882.toInt) rfl (by omega)) dX12_lacksOf_194 ?_
                      refine lv_topi (fun z13001 e13002 => ?_)
                      have e13002 : z13001 = F 40 (z12882 : Int32).toNatClampNeg := e13002.trans (congrFun (hF 40 (by decide)) _)
                      refine lv_iload hx hb dX12_lacksOf_195 (lv_at hl 0 rfl) ?_
                      refine lv_isub hx hb dX12_lacksOf_197 ?_
                      refine lv_topi (fun z13003 e13004 => ?_)
                      try (have t13005 := tsub e13004 (a := z13001.toInt) rfl (b := r12985.toInt) rfl (by omega))
                      refine lv_goto (tgt := 202) hx hb dX12_lacksOf_198 (by decide) ?_
                      refine lv_iadd hx hb dX12_lacksOf_202 ?_
                      refine lv_topi (fun z13006 e13007 => ?_)
                      try (have t13008 := tadd e13007 (a := x7_lp12956.toInt) rfl (b := z13003.toInt) rfl (by omega))
                      refine lv_istore (lv' := [(7, .int z13006), (10, .int r12985), (9, .int x9_lp12956), (8, .int 1), (6, .int z12885), (5, .int z12882), (0, .ref (g 0)), (1, .int p0), (2, .int p1), (3, .int p2), (4, .int p3)]) hx hb dX12_lacksOf_203 hl (by decide) rfl (fun ls hl => ?_)
                      obtain ⟨z13009, e13010⟩ : ∃ y : Int32, y = x9_lp12956 + 1 := ⟨_, rfl⟩
                      try (have t13011 := tadd e13010 rfl (b := 1) (by decide) (by omega))
                      refine lv_iinc (v := z13009) (lv' := [(9, .int z13009), (7, .int z13006), (10, .int r12985), (8, .int 1), (6, .int z12885), (5, .int z12882), (0, .ref (g 0)), (1, .int p0), (2, .int p1), (3, .int p2), (4, .int p3)]) hx hb dX12_lacksOf_205 hl (k := 2) rfl (by rw [e13010]; rfl) (by decide) rfl (fun ls hl => ?_)
                      refine lv_goto (tgt := 112) hx hb dX12_lacksOf_208 (by decide) ?_
                      exact ih_lp12956 z13009 z13006 v12986 F12987 _ _ _ (by omega) (by omega) (frC (by decide) hf12988 hf_lp12956) hI hF hP hS (lv_sub hl [0, 3, 1, 4, 5, 6, 7, 8, 9, 10] rfl)
                  · skip
                    have t13012 := cv_eq (a := r12981.toInt) rfl (b := 0) (by decide) c12983
                    refine lv_goto (tgt := 205) hx hb dX12_lacksOf_159 (by decide) ?_
                    obtain ⟨z13013, e13014⟩ : ∃ y : Int32, y = x9_lp12956 + 1 := ⟨_, rfl⟩
                    try (have t13015 := tadd e13014 rfl (b := 1) (by decide) (by omega))
                    refine lv_iinc (v := z13013) (lv' := [(9, .int z13013), (8, .int 1), (7, .int x7_lp12956), (6, .int z12885), (5, .int z12882), (0, .ref (g 0)), (1, .int p0), (2, .int p1), (3, .int p2), (4, .int p3)]) hx hb dX12_lacksOf_205 hl (k := 0) rfl (by rw [e13014]; rfl) (by decide) rfl (fun ls hl => ?_)
                    refine lv_goto (tgt := 112) hx hb dX12_lacksOf_208 (by decide) ?_
                    exact ih_lp12956 z13013 x7_lp12956 v_lp12956 F_lp12956 _ _ _ (by omega) (by omega) hf_lp12956 hI hF hP hS (lv_sub hl [0, 1, 2, 3, 4, 5, 6, 7, 8, 9] rfl)
        obtain ⟨n9, hn9⟩ : ∃ n : Nat, 2147483648 - 0 ≤ (n : Int) := ⟨((2147483648 - 0 : Int)).toNat, by omega⟩
        exact lp12956 n9 0 0 v F H _ ls (by have : (0 : Int32).toInt = 0 := (by decide); have : (0 : Int32).toInt = 0 := (by decide); omega) (by have : (0 : Int32).toInt = 0 := (by decide); have : (0 : Int32).toInt = 0 := (by decide); omega) (fun _ _ => rfl) hI hF hP hS hl
    · skip
      have t13016 := cv_eq (a := z12885.toInt) rfl (b := 104) (by decide) c12891
      refine lv_iconst (v := 0) hx hb dX12_lacksOf_91 (by decide) ?_
      refine lv_goto (tgt := 107) hx hb dX12_lacksOf_92 (by decide) ?_
      refine lv_istore (lv' := [(8, .int 0), (7, .int 0), (6, .int z12885), (5, .int z12882), (0, .ref (g 0)), (1, .int p0), (2, .int p1), (3, .int p2), (4, .int p3)]) hx hb dX12_lacksOf_107 hl (by decide) rfl (fun ls hl => ?_)
      refine lv_iconst (v := 0) hx hb dX12_lacksOf_109 (by decide) ?_
      refine lv_istore (lv' := [(9, .int 0), (8, .int 0), (7, .int 0), (6, .int z12885), (5, .int z12882), (0, .ref (g 0)), (1, .int p0), (2, .int p1), (3, .int p2), (4, .int p3)]) hx hb dX12_lacksOf_110 hl (by decide) rfl (fun ls hl => ?_)
      have lp13017 : ∀ (n : Nat) (x9_lp13017 : Int32) (x7_lp13017 : Int32) (v_lp13017 : Nat → Int32) (F_lp13017 : Nat → Nat → Int32) (H : Heap) (locs : List Loc) (ls : Array Slot), (0 ≤ x9_lp13017.toInt) → (2147483648 - x9_lp13017.toInt ≤ (n : Int)) → (∀ k, k ∉ ([] : List Nat) → v_lp13017 k = v k) → IM v_lp13017 F_lp13017 → (∀ k, k ∉ ([30, 31] : List Nat) → F_lp13017 k = F k) → va_P (dC, dI) classes (wM g c v_lp13017 F_lp13017 rc) H → va_S (AM g s.heap.size) s.heap H locs → lv_has ls 11 [(9, .int x9_lp13017), (8, .int 0), (7, .int x7_lp13017), (6, .int z12885), (5, .int z12882), (0, .ref (g 0)), (1, .int p0), (2, .int p1), (3, .int p2), (4, .int p3)] → W p l e (headSpec (Cond.code yX12_lacksOf cX12_lacksOf 11 (some .int) :: wA) ({ frames := 5, cells := 0, slots := 0, locals := 200 })).room s m ([.ref (g 0), .int p0, .int p1, .int p2, .int p3] : List Value).toArray below meth c0 H locs 0 0 (MQ below (va_Qi (fun (r : Int32) (u : StM) => IM u.1 u.2.1 ∧ u.2.2 = rc ∧ (∀ k, k ∉ ([] : List Nat) → u.1 k = v k) ∧ (∀ k, k ∉ ([30, 31] : List Nat) → u.2.1 k = F k) ∧ True) (BM dC dI g c) (AM g s.heap.size)) ([.ref (g 0), .int p0, .int p1, .int p2, .int p3] : List Value).toArray s 0 0 (AM g s.heap.size)) (F0 m 112 ls []) := by
        intro n
        induction n with
        | zero =>
          intro x9_lp13017 x7_lp13017 v_lp13017 F_lp13017 H locs ls t13018 hm hf_lp13017 hI hF hP hS hl
          exfalso
          have := i32_rng x9_lp13017
          have := i32_rng x7_lp13017
          have hI1 := hI.1
          omega
        | succ n ih_lp13017 =>
          intro x9_lp13017 x7_lp13017 v_lp13017 F_lp13017 H locs ls t13018 hm hf_lp13017 hI hF hP hS hl
          have rx9_lp13017 := i32_rng x9_lp13017
          have rx7_lp13017 := i32_rng x7_lp13017
          refine lv_iload hx hb dX12_lacksOf_112 (lv_at hl 0 rfl) ?_
          refine lv_aload_n hx hb dX12_lacksOf_114 rfl (lv_at hl 5 rfl) ?_
          refine va_get (D := (dC, dI)) (ci := 12) (v := .int (v_lp13017 14)) (C := RX12) (T := TX12) (N := 63) hx hb hwd inA_X12 hown hK hP 0 rfl rfl 14 (by decide) (hwd _ wk_318) (fun _ h9 => h9) rfl dX12_lacksOf_115 ?_
          refine my_top (v := v 14) (hf_lp13017 14 (by decide)) ?_
          have t13019 : 0 ≤ (v 14).toInt ∧ (v 14).toInt ≤ 100 := by have h9 := hI.1 14 _ _ rfl; rw [show v_lp13017 14 = v 14 from hf_lp13017 14 (by decide)] at h9; exact h9
          refine lv_icmp_ge (tgt := 211) hx hb dX12_lacksOf_118 (by decide) (fun c13020 => ?_) (fun c13020 => ?_)
          · skip
            have t13021 := cv_le (a := (v 14).toInt) rfl (b := x9_lp13017.toInt) rfl c13020
            refine lv_iload hx hb dX12_lacksOf_211 (lv_at hl 2 rfl) ?_
            have hP9 : va_P (dC, dI) classes (wM g c v_lp13017 F_lp13017 rc) H := hP
            exact W.iret (v := x7_lp13017) hx hb hr (fun t ht hW => ⟨⟨x7_lp13017, (v_lp13017, F_lp13017, rc), rfl, ⟨hI, rfl, (frC (by decide) hf_lp13017 (fun _ _ => rfl)), hF, trivial⟩, (by show va_P _ _ _ t.heap; rw [ht]; exact hP9)⟩, hS.F ht⟩) hS.2.2 dX12_lacksOf_213
          · skip
            have t13022 := cv_nle (a := (v 14).toInt) rfl (b := x9_lp13017.toInt) rfl c13020
            refine lv_aload_n hx hb dX12_lacksOf_121 rfl (lv_at hl 5 rfl) ?_
            refine va_get (D := (dC, dI)) (ci := 12) (v := .ref (g 42)) (C := RX12) (T := TX12) (N := 63) hx hb hwd inA_X12 hown hK hP 0 rfl rfl 56 (by decide) (hwd _ wk_224) (fun _ h9 => h9) rfl dX12_lacksOf_122 ?_
            refine lv_iload hx hb dX12_lacksOf_125 (lv_at hl 0 rfl) ?_
            refine va_zald hx hb hK hP 42 41 rfl rfl (i := x9_lp13017) (vin (a := x9_lp13017.toInt) rfl (by omega)) dX12_lacksOf_127 ?_
            refine lv_topi (fun z13023 e13024 => ?_)
            have e13024 : z13023 = F 42 (x9_lp13017 : Int32).toNatClampNeg := e13024.trans (congrFun (hF 42 (by decide)) _)
            refine lv_if_eq (tgt := 205) hx hb dX12_lacksOf_128 (by decide) (fun c13025 => ?_) (fun c13025 => ?_)
            · skip
              have t13026 := cv_eq (a := z13023.toInt) rfl (b := 0) (by decide) c13025
              obtain ⟨z13027, e13028⟩ : ∃ y : Int32, y = x9_lp13017 + 1 := ⟨_, rfl⟩
              try (have t13029 := tadd e13028 rfl (b := 1) (by decide) (by omega))
              refine lv_iinc (v := z13027) (lv' := [(9, .int z13027), (8, .int 0), (7, .int x7_lp13017), (6, .int z12885), (5, .int z12882), (0, .ref (g 0)), (1, .int p0), (2, .int p1), (3, .int p2), (4, .int p3)]) hx hb dX12_lacksOf_205 hl (k := 0) rfl (by rw [e13028]; rfl) (by decide) rfl (fun ls hl => ?_)
              refine lv_goto (tgt := 112) hx hb dX12_lacksOf_208 (by decide) ?_
              exact ih_lp13017 z13027 x7_lp13017 v_lp13017 F_lp13017 _ _ _ (by omega) (by omega) hf_lp13017 hI hF hP hS (lv_sub hl [0, 1, 2, 3, 4, 5, 6, 7, 8, 9] rfl)
            · skip
              have t13030 := cv_ne (a := z13023.toInt) rfl (b := 0) (by decide) c13025
              refine lv_aload_n hx hb dX12_lacksOf_131 rfl (lv_at hl 5 rfl) ?_
              refine va_get (D := (dC, dI)) (ci := 12) (v := .ref (g 11)) (C := RX12) (T := TX12) (N := 63) hx hb hwd inA_X12 hown hK hP 0 rfl rfl 15 (by decide) (hwd _ wk_192) (fun _ h9 => h9) rfl dX12_lacksOf_132 ?_
              refine lv_iload hx hb dX12_lacksOf_135 (lv_at hl 0 rfl) ?_
              refine va_iald hx hb hK hP 11 10 rfl rfl (i := x9_lp13017) (vin (a := x9_lp13017.toInt) rfl (by omega)) dX12_lacksOf_137 ?_
              refine lv_topi (fun z13031 e13032 => ?_)
              have t13033 : 0 ≤ z13031.toInt ∧ z13031.toInt ≤ 9 := by rw [e13032]; exact hI.2 11 _ _ rfl _
              have e13032 : z13031 = F 11 (x9_lp13017 : Int32).toNatClampNeg := e13032.trans (congrFun (hF 11 (by decide)) _)
              refine lv_aload_n hx hb dX12_lacksOf_138 rfl (lv_at hl 5 rfl) ?_
              refine va_get (D := (dC, dI)) (ci := 12) (v := .ref (g 39)) (C := RX12) (T := TX12) (N := 63) hx hb hwd inA_X12 hown hK hP 0 rfl rfl 53 (by decide) (hwd _ wk_221) (fun _ h9 => h9) rfl dX12_lacksOf_139 ?_
              refine lv_iload hx hb dX12_lacksOf_142 (lv_at hl 4 rfl) ?_
              refine va_iald hx hb hK hP 39 38 rfl rfl (i := z12882) (vin (a := z12882.toInt) rfl (by omega)) dX12_lacksOf_144 ?_
              refine lv_topi (fun z13034 e13035 => ?_)
              have e13035 : z13034 = F 39 (z12882 : Int32).toNatClampNeg := e13035.trans (congrFun (hF 39 (by decide)) _)
              refine lv_icmp_ne (tgt := 205) hx hb dX12_lacksOf_145 (by decide) (fun c13036 => ?_) (fun c13036 => ?_)
              · skip
                have t13037 := cv_ne (a := z13031.toInt) rfl (b := z13034.toInt) rfl c13036
                obtain ⟨z13038, e13039⟩ : ∃ y : Int32, y = x9_lp13017 + 1 := ⟨_, rfl⟩
                try (have t13040 := tadd e13039 rfl (b := 1) (by decide) (by omega))
                refine lv_iinc (v := z13038) (lv' := [(9, .int z13038), (8, .int 0), (7, .int x7_lp13017), (6, .int z12885), (5, .int z12882), (0, .ref (g 0)), (1, .int p0), (2, .int p1), (3, .int p2), (4, .int p3)]) hx hb dX12_lacksOf_205 hl (k := 0) rfl (by rw [e13039]; rfl) (by decide) rfl (fun ls hl => ?_)
                refine lv_goto (tgt := 112) hx hb dX12_lacksOf_208 (by decide) ?_
                exact ih_lp13017 z13038 x7_lp13017 v_lp13017 F_lp13017 _ _ _ (by omega) (by omega) hf_lp13017 hI hF hP hS (lv_sub hl [0, 1, 2, 3, 4, 5, 6, 7, 8, 9] rfl)
              · skip
                have t13041 := cv_eq (a := z13031.toInt) rfl (b := z13034.toInt) rfl c13036
                refine lv_aload_n hx hb dX12_lacksOf_148 rfl (lv_at hl 5 rfl) ?_
                refine lv_iload hx hb dX12_lacksOf_149 (lv_at hl 0 rfl) ?_
                refine lv_iload hx hb dX12_lacksOf_151 (lv_at hl 1 rfl) ?_
                refine va_calli (va_runV (As := [.int x9_lp13017, .int 0]) (rest := []) ⟨hx, hb, hml, hown, hwd⟩ (c_X12_limitOf l dC dI g c adK adV v_lp13017 F_lp13017 rc H.size x9_lp13017 0 hg hI (by omega) (by have : (0 : Int32).toInt = 0 := (by decide); omega)) (cwV 2 hwd (gV wk_489 wk_486 wk_487 wk_488 wk_5) rfl rfl rfl (by decide +kernel) ⟨Nat.le_of_ble_eq_true rfl, Nat.le_of_ble_eq_true rfl⟩) ⟨PM.blind, va_recv hK hP (ci := 12) (q0 := 0) rfl rfl, fun U hU hW => ⟨rfl, PM.at hK hE hP hS hU hW⟩⟩ rfl rfl hl.1 rfl (lv_room (Nat.le_of_ble_eq_true rfl)) dX12_lacksOf_153 ⟨Nat.le_of_ble_eq_true rfl, Nat.le_of_ble_eq_true rfl⟩) hS (fun q _ h => (freeM hS) q h) (freeM hS) (fun r13042 u t H1 locs ht hvm hw hB hz1 hk1 hS => ?_)
                unfold BM at hB
                rw [ht] at hB
                have hP : va_P (dC, dI) classes (wM g c v_lp13017 F_lp13017 rc) H1 := hB
                replace hw : r13042.toInt = (F_lp13017 1 (limJ (F_lp13017 11) x9_lp13017 (0 : Int32))).toInt := hw
                rw [hF 1 (by decide)] at hw
                rw [hF 11 (by decide)] at hw
                have hw_r13042 := hw
                clear hw
                have k13043 : (0 : Int32).toInt = 0 := by decide
                clear hz1
                generalize H1 = H at hP hS ⊢
                refine lv_if_ne (tgt := 162) hx hb dX12_lacksOf_156 (by decide) (fun c13044 => ?_) (fun c13044 => ?_)
                · skip
                  have t13045 := cv_ne (a := r13042.toInt) rfl (b := 0) (by decide) c13044
                  refine lv_aload_n hx hb dX12_lacksOf_162 rfl (lv_at hl 5 rfl) ?_
                  refine lv_iload hx hb dX12_lacksOf_163 (lv_at hl 0 rfl) ?_
                  refine lv_iload hx hb dX12_lacksOf_165 (lv_at hl 1 rfl) ?_
                  refine lv_iload hx hb dX12_lacksOf_167 (lv_at hl 9 rfl) ?_
                  refine va_calli (va_runV (As := [.int x9_lp13017, .int 0, .int p3]) (rest := []) ⟨hx, hb, hml, hown, hwd⟩ (c_X12_leftOf l dC dI g c adK adV v_lp13017 F_lp13017 rc H.size x9_lp13017 0 p3 hg hI (by omega) (by have : (0 : Int32).toInt = 0 := (by decide); omega) (JL.to hL (show v_lp13017 31 = v 31 from hf_lp13017 31 (by decide)) (hF 28 (by decide)) (hF 29 (by decide)) (hF 27 (by decide)))) (cwV 3 hwd (gV wk_493 wk_490 wk_491 wk_492 wk_5) rfl rfl rfl (by decide +kernel) ⟨Nat.le_of_ble_eq_true rfl, Nat.le_of_ble_eq_true rfl⟩) ⟨PM.blind, va_recv hK hP (ci := 12) (q0 := 0) rfl rfl, fun U hU hW => ⟨rfl, PM.at hK hE hP hS hU hW⟩⟩ rfl rfl hl.1 rfl (lv_room (Nat.le_of_ble_eq_true rfl)) dX12_lacksOf_169 ⟨Nat.le_of_ble_eq_true rfl, Nat.le_of_ble_eq_true rfl⟩) hS (fun q _ h => (freeM hS) q h) (freeM hS) (fun r13046 u t H1 locs ht hvm hw hB hz1 hk1 hS => ?_)
                  unfold BM at hB
                  rw [ht] at hB
                  obtain ⟨v13047, F13048, rc9⟩ := u
                  obtain ⟨hI, hrc, hf13049, hG13050, hw⟩ := hw
                  dsimp only at hI hrc hB hf13049 hG13050 hw
                  have hF := frCF (by decide) hG13050 hF
                  rw [hrc] at hB
                  have hP : va_P (dC, dI) classes (wM g c v13047 F13048 rc) H1 := hB
                  clear hz1
                  generalize H1 = H at hP hS ⊢
                  have rr_r13046 := i32_rng r13046
                  refine lv_istore (lv' := [(10, .int r13046), (9, .int x9_lp13017), (8, .int 0), (7, .int x7_lp13017), (6, .int z12885), (5, .int z12882), (0, .ref (g 0)), (1, .int p0), (2, .int p1), (3, .int p2), (4, .int p3)]) hx hb dX12_lacksOf_172 hl (by decide) rfl (fun ls hl => ?_)
                  refine lv_iload hx hb dX12_lacksOf_174 (lv_at hl 3 rfl) ?_
                  refine lv_iload hx hb dX12_lacksOf_176 (lv_at hl 0 rfl) ?_
                  refine lv_aload_n hx hb dX12_lacksOf_178 rfl (lv_at hl 6 rfl) ?_
                  refine va_get (D := (dC, dI)) (ci := 12) (v := .ref (g 40)) (C := RX12) (T := TX12) (N := 63) hx hb hwd inA_X12 hown hK hP 0 rfl rfl 54 (by decide) (hwd _ wk_222) (fun _ h9 => h9) rfl dX12_lacksOf_179 ?_
                  refine lv_iload hx hb dX12_lacksOf_182 (lv_at hl 5 rfl) ?_
                  refine va_iald hx hb hK hP 40 39 rfl rfl (i := z12882) (vin (a := z12882.toInt) rfl (by omega)) dX12_lacksOf_184 ?_
                  refine lv_topi (fun z13051 e13052 => ?_)
                  have e13052 : z13051 = F 40 (z12882 : Int32).toNatClampNeg := e13052.trans (congrFun (hF 40 (by decide)) _)
                  refine lv_icmp_ge (tgt := 201) hx hb dX12_lacksOf_185 (by decide) (fun c13053 => ?_) (fun c13053 => ?_)
                  · skip
                    have t13054 := cv_le (a := z13051.toInt) rfl (b := r13046.toInt) rfl c13053
                    refine lv_iconst (v := 0) hx hb dX12_lacksOf_201 (by decide) ?_
                    refine lv_iadd hx hb dX12_lacksOf_202 ?_
                    refine lv_topi (fun z13055 e13056 => ?_)
                    try (have t13057 := tadd e13056 (a := x7_lp13017.toInt) rfl (b := 0) (by decide) (by omega))
                    refine lv_istore (lv' := [(7, .int z13055), (10, .int r13046), (9, .int x9_lp13017), (8, .int 0), (6, .int z12885), (5, .int z12882), (0, .ref (g 0)), (1, .int p0), (2, .int p1), (3, .int p2), (4, .int p3)]) hx hb dX12_lacksOf_203 hl (by decide) rfl (fun ls hl => ?_)
                    obtain ⟨z13058, e13059⟩ : ∃ y : Int32, y = x9_lp13017 + 1 := ⟨_, rfl⟩
                    try (have t13060 := tadd e13059 rfl (b := 1) (by decide) (by omega))
                    refine lv_iinc (v := z13058) (lv' := [(9, .int z13058), (7, .int z13055), (10, .int r13046), (8, .int 0), (6, .int z12885), (5, .int z12882), (0, .ref (g 0)), (1, .int p0), (2, .int p1), (3, .int p2), (4, .int p3)]) hx hb dX12_lacksOf_205 hl (k := 2) rfl (by rw [e13059]; rfl) (by decide) rfl (fun ls hl => ?_)
                    refine lv_goto (tgt := 112) hx hb dX12_lacksOf_208 (by decide) ?_
                    exact ih_lp13017 z13058 z13055 v13047 F13048 _ _ _ (by omega) (by omega) (frC (by decide) hf13049 hf_lp13017) hI hF hP hS (lv_sub hl [0, 3, 1, 4, 5, 6, 7, 8, 9, 10] rfl)
                  · skip
                    have t13061 := cv_nle (a := z13051.toInt) rfl (b := r13046.toInt) rfl c13053
                    refine lv_aload_n hx hb dX12_lacksOf_188 rfl (lv_at hl 6 rfl) ?_
                    refine va_get (D := (dC, dI)) (ci := 12) (v := .ref (g 40)) (C := RX12) (T := TX12) (N := 63) hx hb hwd inA_X12 hown hK hP 0 rfl rfl 54 (by decide) (hwd _ wk_222) (fun _ h9 => h9) rfl dX12_lacksOf_189 ?_
                    refine lv_iload hx hb dX12_lacksOf_192 (lv_at hl 5 rfl) ?_
                    refine va_iald hx hb hK hP 40 39 rfl rfl (i := z12882) (vin (a := z12882.toInt) rfl (by omega)) dX12_lacksOf_194 ?_
                    refine lv_topi (fun z13062 e13063 => ?_)
                    have e13063 : z13062 = F 40 (z12882 : Int32).toNatClampNeg := e13063.trans (congrFun (hF 40 (by decide)) _)
                    refine lv_iload hx hb dX12_lacksOf_195 (lv_at hl 0 rfl) ?_
                    refine lv_isub hx hb dX12_lacksOf_197 ?_
                    refine lv_topi (fun z13064 e13065 => ?_)
                    try (have t13066 := tsub e13065 (a := z13062.toInt) rfl (b := r13046.toInt) rfl (by omega))
                    refine lv_goto (tgt := 202) hx hb dX12_lacksOf_198 (by decide) ?_
                    refine lv_iadd hx hb dX12_lacksOf_202 ?_
                    refine lv_topi (fun z13067 e13068 => ?_)
                    try (have t13069 := tadd e13068 (a := x7_lp13017.toInt) rfl (b := z13064.toInt) rfl (by omega))
                    refine lv_istore (lv' := [(7, .int z13067), (10, .int r13046), (9, .int x9_lp13017), (8, .int 0), (6, .int z12885), (5, .int z12882), (0, .ref (g 0)), (1, .int p0), (2, .int p1), (3, .int p2), (4, .int p3)]) hx hb dX12_lacksOf_203 hl (by decide) rfl (fun ls hl => ?_)
                    obtain ⟨z13070, e13071⟩ : ∃ y : Int32, y = x9_lp13017 + 1 := ⟨_, rfl⟩
                    try (have t13072 := tadd e13071 rfl (b := 1) (by decide) (by omega))
                    refine lv_iinc (v := z13070) (lv' := [(9, .int z13070), (7, .int z13067), (10, .int r13046), (8, .int 0), (6, .int z12885), (5, .int z12882), (0, .ref (g 0)), (1, .int p0), (2, .int p1), (3, .int p2), (4, .int p3)]) hx hb dX12_lacksOf_205 hl (k := 2) rfl (by rw [e13071]; rfl) (by decide) rfl (fun ls hl => ?_)
                    refine lv_goto (tgt := 112) hx hb dX12_lacksOf_208 (by decide) ?_
                    exact ih_lp13017 z13070 z13067 v13047 F13048 _ _ _ (by omega) (by omega) (frC (by decide) hf13049 hf_lp13017) hI hF hP hS (lv_sub hl [0, 3, 1, 4, 5, 6, 7, 8, 9, 10] rfl)
                · skip
                  have t13073 := cv_eq (a := r13042.toInt) rfl (b := 0) (by decide) c13044
                  refine lv_goto (tgt := 205) hx hb dX12_lacksOf_159 (by decide) ?_
                  obtain ⟨z13074, e13075⟩ : ∃ y : Int32, y = x9_lp13017 + 1 := ⟨_, rfl⟩
                  try (have t13076 := tadd e13075 rfl (b := 1) (by decide) (by omega))
                  refine lv_iinc (v := z13074) (lv' := [(9, .int z13074), (8, .int 0), (7, .int x7_lp13017), (6, .int z12885), (5, .int z12882), (0, .ref (g 0)), (1, .int p0), (2, .int p1), (3, .int p2), (4, .int p3)]) hx hb dX12_lacksOf_205 hl (k := 0) rfl (by rw [e13075]; rfl) (by decide) rfl (fun ls hl => ?_)
                  refine lv_goto (tgt := 112) hx hb dX12_lacksOf_208 (by decide) ?_
                  exact ih_lp13017 z13074 x7_lp13017 v_lp13017 F_lp13017 _ _ _ (by omega) (by omega) hf_lp13017 hI hF hP hS (lv_sub hl [0, 1, 2, 3, 4, 5, 6, 7, 8, 9] rfl)
      obtain ⟨n9, hn9⟩ : ∃ n : Nat, 2147483648 - 0 ≤ (n : Int) := ⟨((2147483648 - 0 : Int)).toNat, by omega⟩
      exact lp13017 n9 0 0 v F H _ ls (by have : (0 : Int32).toInt = 0 := (by decide); have : (0 : Int32).toInt = 0 := (by decide); omega) (by have : (0 : Int32).toInt = 0 := (by decide); have : (0 : Int32).toInt = 0 := (by decide); omega) (fun _ _ => rfl) hI hF hP hS hl
  · refine lv_tableIn (off := 409) (tgt := 431) hx hb dX12_lacksOf_22 hlo12887 hhi12888 (by rw [hk]; decide) (by decide) ?_
    refine lv_aload_n hx hb dX12_lacksOf_431 rfl (lv_at hl 3 rfl) ?_
    refine lv_iload_n hx hb dX12_lacksOf_432 rfl (lv_at hl 4 rfl) ?_
    refine lv_iload_n hx hb dX12_lacksOf_433 rfl (lv_at hl 6 rfl) ?_
    refine va_calli (va_runV (As := [.int p0, .int p2]) (rest := []) ⟨hx, hb, hml, hown, hwd⟩ (c_X12_late l dC dI g c adK adV v F rc H.size p0 p2 hg hI (by omega)) (cwV 2 hwd (gV wk_1213 wk_1210 wk_1211 wk_1212 wk_5) rfl rfl rfl (by decide +kernel) ⟨Nat.le_of_ble_eq_true rfl, Nat.le_of_ble_eq_true rfl⟩) ⟨PM.blind, va_recv hK hP (ci := 12) (q0 := 0) rfl rfl, fun U hU hW => ⟨rfl, PM.at hK hE hP hS hU hW⟩⟩ rfl rfl hl.1 rfl (lv_room (Nat.le_of_ble_eq_true rfl)) dX12_lacksOf_434 ⟨Nat.le_of_ble_eq_true rfl, Nat.le_of_ble_eq_true rfl⟩) hS (fun q _ h => (freeM hS) q h) (freeM hS) (fun r13077 u t H1 locs ht hvm hw hB hz1 hk1 hS => ?_)
    unfold BM at hB
    rw [ht] at hB
    have hP : va_P (dC, dI) classes (wM g c v F rc) H1 := hB
    clear hz1
    generalize H1 = H at hP hS ⊢
    have rr_r13077 := i32_rng r13077
    have hP9 : va_P (dC, dI) classes (wM g c v F rc) H := hP
    exact W.iret (v := r13077) hx hb hr (fun t ht hW => ⟨⟨r13077, (v, F, rc), rfl, ⟨hI, rfl, (fun _ _ => rfl), hF, trivial⟩, (by show va_P _ _ _ t.heap; rw [ht]; exact hP9)⟩, hS.F ht⟩) hS.2.2 dX12_lacksOf_437
  · refine lv_tableIn (off := 409) (tgt := 431) hx hb dX12_lacksOf_22 hlo12887 hhi12888 (by rw [hk]; decide) (by decide) ?_
    refine lv_aload_n hx hb dX12_lacksOf_431 rfl (lv_at hl 3 rfl) ?_
    refine lv_iload_n hx hb dX12_lacksOf_432 rfl (lv_at hl 4 rfl) ?_
    refine lv_iload_n hx hb dX12_lacksOf_433 rfl (lv_at hl 6 rfl) ?_
    refine va_calli (va_runV (As := [.int p0, .int p2]) (rest := []) ⟨hx, hb, hml, hown, hwd⟩ (c_X12_late l dC dI g c adK adV v F rc H.size p0 p2 hg hI (by omega)) (cwV 2 hwd (gV wk_1213 wk_1210 wk_1211 wk_1212 wk_5) rfl rfl rfl (by decide +kernel) ⟨Nat.le_of_ble_eq_true rfl, Nat.le_of_ble_eq_true rfl⟩) ⟨PM.blind, va_recv hK hP (ci := 12) (q0 := 0) rfl rfl, fun U hU hW => ⟨rfl, PM.at hK hE hP hS hU hW⟩⟩ rfl rfl hl.1 rfl (lv_room (Nat.le_of_ble_eq_true rfl)) dX12_lacksOf_434 ⟨Nat.le_of_ble_eq_true rfl, Nat.le_of_ble_eq_true rfl⟩) hS (fun q _ h => (freeM hS) q h) (freeM hS) (fun r13078 u t H1 locs ht hvm hw hB hz1 hk1 hS => ?_)
    unfold BM at hB
    rw [ht] at hB
    have hP : va_P (dC, dI) classes (wM g c v F rc) H1 := hB
    clear hz1
    generalize H1 = H at hP hS ⊢
    have rr_r13078 := i32_rng r13078
    have hP9 : va_P (dC, dI) classes (wM g c v F rc) H := hP
    exact W.iret (v := r13078) hx hb hr (fun t ht hW => ⟨⟨r13078, (v, F, rc), rfl, ⟨hI, rfl, (fun _ _ => rfl), hF, trivial⟩, (by show va_P _ _ _ t.heap; rw [ht]; exact hP9)⟩, hS.F ht⟩) hS.2.2 dX12_lacksOf_437
  · refine lv_tableIn (off := 192) (tgt := 214) hx hb dX12_lacksOf_22 hlo12887 hhi12888 (by rw [hk]; decide) (by decide) ?_
    refine lv_iconst (v := 0) hx hb dX12_lacksOf_214 (by decide) ?_
    refine lv_istore (lv' := [(8, .int 0), (7, .int 0), (6, .int z12885), (5, .int z12882), (0, .ref (g 0)), (1, .int p0), (2, .int p1), (3, .int p2), (4, .int p3)]) hx hb dX12_lacksOf_215 hl (by decide) rfl (fun ls hl => ?_)
    have lp13079 : ∀ (n : Nat) (x8_lp13079 : Int32) (x7_lp13079 : Int32) (v_lp13079 : Nat → Int32) (F_lp13079 : Nat → Nat → Int32) (H : Heap) (locs : List Loc) (ls : Array Slot), (0 ≤ x8_lp13079.toInt) → (2147483648 - x8_lp13079.toInt ≤ (n : Int)) → (∀ k, k ∉ ([] : List Nat) → v_lp13079 k = v k) → IM v_lp13079 F_lp13079 → (∀ k, k ∉ ([30, 31] : List Nat) → F_lp13079 k = F k) → va_P (dC, dI) classes (wM g c v_lp13079 F_lp13079 rc) H → va_S (AM g s.heap.size) s.heap H locs → lv_has ls 11 [(8, .int x8_lp13079), (7, .int x7_lp13079), (6, .int z12885), (5, .int z12882), (0, .ref (g 0)), (1, .int p0), (2, .int p1), (3, .int p2), (4, .int p3)] → W p l e (headSpec (Cond.code yX12_lacksOf cX12_lacksOf 11 (some .int) :: wA) ({ frames := 5, cells := 0, slots := 0, locals := 200 })).room s m ([.ref (g 0), .int p0, .int p1, .int p2, .int p3] : List Value).toArray below meth c0 H locs 0 0 (MQ below (va_Qi (fun (r : Int32) (u : StM) => IM u.1 u.2.1 ∧ u.2.2 = rc ∧ (∀ k, k ∉ ([] : List Nat) → u.1 k = v k) ∧ (∀ k, k ∉ ([30, 31] : List Nat) → u.2.1 k = F k) ∧ True) (BM dC dI g c) (AM g s.heap.size)) ([.ref (g 0), .int p0, .int p1, .int p2, .int p3] : List Value).toArray s 0 0 (AM g s.heap.size)) (F0 m 217 ls []) := by
      intro n
      induction n with
      | zero =>
        intro x8_lp13079 x7_lp13079 v_lp13079 F_lp13079 H locs ls t13080 hm hf_lp13079 hI hF hP hS hl
        exfalso
        have := i32_rng x8_lp13079
        have := i32_rng x7_lp13079
        have hI1 := hI.1
        omega
      | succ n ih_lp13079 =>
        intro x8_lp13079 x7_lp13079 v_lp13079 F_lp13079 H locs ls t13080 hm hf_lp13079 hI hF hP hS hl
        have rx8_lp13079 := i32_rng x8_lp13079
        have rx7_lp13079 := i32_rng x7_lp13079
        refine lv_iload hx hb dX12_lacksOf_217 (lv_at hl 0 rfl) ?_
        refine lv_aload_n hx hb dX12_lacksOf_219 rfl (lv_at hl 4 rfl) ?_
        refine va_get (D := (dC, dI)) (ci := 12) (v := .int (v_lp13079 14)) (C := RX12) (T := TX12) (N := 63) hx hb hwd inA_X12 hown hK hP 0 rfl rfl 14 (by decide) (hwd _ wk_318) (fun _ h9 => h9) rfl dX12_lacksOf_220 ?_
        refine my_top (v := v 14) (hf_lp13079 14 (by decide)) ?_
        have t13081 : 0 ≤ (v 14).toInt ∧ (v 14).toInt ≤ 100 := by have h9 := hI.1 14 _ _ rfl; rw [show v_lp13079 14 = v 14 from hf_lp13079 14 (by decide)] at h9; exact h9
        refine lv_icmp_ge (tgt := 257) hx hb dX12_lacksOf_223 (by decide) (fun c13082 => ?_) (fun c13082 => ?_)
        · skip
          have t13083 := cv_le (a := (v 14).toInt) rfl (b := x8_lp13079.toInt) rfl c13082
          refine lv_iload hx hb dX12_lacksOf_257 (lv_at hl 1 rfl) ?_
          have hP9 : va_P (dC, dI) classes (wM g c v_lp13079 F_lp13079 rc) H := hP
          exact W.iret (v := x7_lp13079) hx hb hr (fun t ht hW => ⟨⟨x7_lp13079, (v_lp13079, F_lp13079, rc), rfl, ⟨hI, rfl, (frC (by decide) hf_lp13079 (fun _ _ => rfl)), hF, trivial⟩, (by show va_P _ _ _ t.heap; rw [ht]; exact hP9)⟩, hS.F ht⟩) hS.2.2 dX12_lacksOf_259
        · skip
          have t13084 := cv_nle (a := (v 14).toInt) rfl (b := x8_lp13079.toInt) rfl c13082
          refine lv_iload hx hb dX12_lacksOf_226 (lv_at hl 1 rfl) ?_
          refine lv_aload_n hx hb dX12_lacksOf_228 rfl (lv_at hl 4 rfl) ?_
          refine va_get (D := (dC, dI)) (ci := 12) (v := .ref (g 42)) (C := RX12) (T := TX12) (N := 63) hx hb hwd inA_X12 hown hK hP 0 rfl rfl 56 (by decide) (hwd _ wk_224) (fun _ h9 => h9) rfl dX12_lacksOf_229 ?_
          refine lv_iload hx hb dX12_lacksOf_232 (lv_at hl 0 rfl) ?_
          refine va_zald hx hb hK hP 42 41 rfl rfl (i := x8_lp13079) (vin (a := x8_lp13079.toInt) rfl (by omega)) dX12_lacksOf_234 ?_
          refine lv_topi (fun z13085 e13086 => ?_)
          have e13086 : z13085 = F 42 (x8_lp13079 : Int32).toNatClampNeg := e13086.trans (congrFun (hF 42 (by decide)) _)
          refine lv_if_eq (tgt := 247) hx hb dX12_lacksOf_235 (by decide) (fun c13087 => ?_) (fun c13087 => ?_)
          · skip
            have t13088 := cv_eq (a := z13085.toInt) rfl (b := 0) (by decide) c13087
            refine lv_iconst (v := 0) hx hb dX12_lacksOf_247 (by decide) ?_
            refine lv_iadd hx hb dX12_lacksOf_248 ?_
            refine lv_topi (fun z13089 e13090 => ?_)
            try (have t13091 := tadd e13090 (a := x7_lp13079.toInt) rfl (b := 0) (by decide) (by omega))
            refine lv_istore (lv' := [(7, .int z13089), (8, .int x8_lp13079), (6, .int z12885), (5, .int z12882), (0, .ref (g 0)), (1, .int p0), (2, .int p1), (3, .int p2), (4, .int p3)]) hx hb dX12_lacksOf_249 hl (by decide) rfl (fun ls hl => ?_)
            obtain ⟨z13092, e13093⟩ : ∃ y : Int32, y = x8_lp13079 + 1 := ⟨_, rfl⟩
            try (have t13094 := tadd e13093 rfl (b := 1) (by decide) (by omega))
            refine lv_iinc (v := z13092) (lv' := [(8, .int z13092), (7, .int z13089), (6, .int z12885), (5, .int z12882), (0, .ref (g 0)), (1, .int p0), (2, .int p1), (3, .int p2), (4, .int p3)]) hx hb dX12_lacksOf_251 hl (k := 1) rfl (by rw [e13093]; rfl) (by decide) rfl (fun ls hl => ?_)
            refine lv_goto (tgt := 217) hx hb dX12_lacksOf_254 (by decide) ?_
            exact ih_lp13079 z13092 z13089 v_lp13079 F_lp13079 _ _ _ (by omega) (by omega) hf_lp13079 hI hF hP hS (lv_sub hl [0, 1, 2, 3, 4, 5, 6, 7, 8] rfl)
          · skip
            have t13095 := cv_ne (a := z13085.toInt) rfl (b := 0) (by decide) c13087
            refine lv_aload_n hx hb dX12_lacksOf_238 rfl (lv_at hl 4 rfl) ?_
            refine lv_iload hx hb dX12_lacksOf_239 (lv_at hl 0 rfl) ?_
            refine va_calli (va_runV (As := [.int x8_lp13079]) (rest := [.int x7_lp13079]) ⟨hx, hb, hml, hown, hwd⟩ (c_X12_gapsOf l dC dI g c adK adV v_lp13079 F_lp13079 rc H.size x8_lp13079 hg hI ) (cwV 1 hwd (gV wk_724 wk_721 wk_722 wk_723 wk_5) rfl rfl rfl (by decide +kernel) ⟨Nat.le_of_ble_eq_true rfl, Nat.le_of_ble_eq_true rfl⟩) ⟨PM.blind, va_recv hK hP (ci := 12) (q0 := 0) rfl rfl, fun U hU hW => ⟨rfl, PM.at hK hE hP hS hU hW⟩⟩ rfl rfl hl.1 rfl (lv_room (Nat.le_of_ble_eq_true rfl)) dX12_lacksOf_241 ⟨Nat.le_of_ble_eq_true rfl, Nat.le_of_ble_eq_true rfl⟩) hS (fun q _ h => (freeM hS) q h) (freeM hS) (fun r13096 u t H1 locs ht hvm hw hB hz1 hk1 hS => ?_)
            unfold BM at hB
            rw [ht] at hB
            have hP : va_P (dC, dI) classes (wM g c v_lp13079 F_lp13079 rc) H1 := hB
            clear hz1
            generalize H1 = H at hP hS ⊢
            have rr_r13096 := i32_rng r13096
            refine lv_goto (tgt := 248) hx hb dX12_lacksOf_244 (by decide) ?_
            refine lv_iadd hx hb dX12_lacksOf_248 ?_
            refine lv_topi (fun z13097 e13098 => ?_)
            try (have t13099 := tadd e13098 (a := x7_lp13079.toInt) rfl (b := r13096.toInt) rfl (by omega))
            refine lv_istore (lv' := [(7, .int z13097), (8, .int x8_lp13079), (6, .int z12885), (5, .int z12882), (0, .ref (g 0)), (1, .int p0), (2, .int p1), (3, .int p2), (4, .int p3)]) hx hb dX12_lacksOf_249 hl (by decide) rfl (fun ls hl => ?_)
            obtain ⟨z13100, e13101⟩ : ∃ y : Int32, y = x8_lp13079 + 1 := ⟨_, rfl⟩
            try (have t13102 := tadd e13101 rfl (b := 1) (by decide) (by omega))
            refine lv_iinc (v := z13100) (lv' := [(8, .int z13100), (7, .int z13097), (6, .int z12885), (5, .int z12882), (0, .ref (g 0)), (1, .int p0), (2, .int p1), (3, .int p2), (4, .int p3)]) hx hb dX12_lacksOf_251 hl (k := 1) rfl (by rw [e13101]; rfl) (by decide) rfl (fun ls hl => ?_)
            refine lv_goto (tgt := 217) hx hb dX12_lacksOf_254 (by decide) ?_
            exact ih_lp13079 z13100 z13097 v_lp13079 F_lp13079 _ _ _ (by omega) (by omega) hf_lp13079 hI hF hP hS (lv_sub hl [0, 1, 2, 3, 4, 5, 6, 7, 8] rfl)
    obtain ⟨n9, hn9⟩ : ∃ n : Nat, 2147483648 - 0 ≤ (n : Int) := ⟨((2147483648 - 0 : Int)).toNat, by omega⟩
    exact lp13079 n9 0 0 v F H _ ls (by have : (0 : Int32).toInt = 0 := (by decide); have : (0 : Int32).toInt = 0 := (by decide); omega) (by have : (0 : Int32).toInt = 0 := (by decide); have : (0 : Int32).toInt = 0 := (by decide); omega) (fun _ _ => rfl) hI hF hP hS hl
  · refine lv_tableIn (off := 62) (tgt := 84) hx hb dX12_lacksOf_22 hlo12887 hhi12888 (by rw [hk]; decide) (by decide) ?_
    refine lv_iload hx hb dX12_lacksOf_84 (lv_at hl 1 rfl) ?_
    refine lv_bipush (v := 104) hx hb dX12_lacksOf_86 (by decide) ?_
    refine lv_icmp_ne (tgt := 95) hx hb dX12_lacksOf_88 (by decide) (fun c13103 => ?_) (fun c13103 => ?_)
    · skip
      have t13104 := cv_ne (a := z12885.toInt) rfl (b := 104) (by decide) c13103
      refine lv_iload hx hb dX12_lacksOf_95 (lv_at hl 1 rfl) ?_
      refine lv_bipush (v := 108) hx hb dX12_lacksOf_97 (by decide) ?_
      refine lv_icmp_ne (tgt := 106) hx hb dX12_lacksOf_99 (by decide) (fun c13105 => ?_) (fun c13105 => ?_)
      · skip
        have t13106 := cv_ne (a := z12885.toInt) rfl (b := 108) (by decide) c13105
        refine lv_iconst (v := 2) hx hb dX12_lacksOf_106 (by decide) ?_
        refine lv_istore (lv' := [(8, .int 2), (7, .int 0), (6, .int z12885), (5, .int z12882), (0, .ref (g 0)), (1, .int p0), (2, .int p1), (3, .int p2), (4, .int p3)]) hx hb dX12_lacksOf_107 hl (by decide) rfl (fun ls hl => ?_)
        refine lv_iconst (v := 0) hx hb dX12_lacksOf_109 (by decide) ?_
        refine lv_istore (lv' := [(9, .int 0), (8, .int 2), (7, .int 0), (6, .int z12885), (5, .int z12882), (0, .ref (g 0)), (1, .int p0), (2, .int p1), (3, .int p2), (4, .int p3)]) hx hb dX12_lacksOf_110 hl (by decide) rfl (fun ls hl => ?_)
        have lp13107 : ∀ (n : Nat) (x9_lp13107 : Int32) (x7_lp13107 : Int32) (v_lp13107 : Nat → Int32) (F_lp13107 : Nat → Nat → Int32) (H : Heap) (locs : List Loc) (ls : Array Slot), (0 ≤ x9_lp13107.toInt) → (2147483648 - x9_lp13107.toInt ≤ (n : Int)) → (∀ k, k ∉ ([] : List Nat) → v_lp13107 k = v k) → IM v_lp13107 F_lp13107 → (∀ k, k ∉ ([30, 31] : List Nat) → F_lp13107 k = F k) → va_P (dC, dI) classes (wM g c v_lp13107 F_lp13107 rc) H → va_S (AM g s.heap.size) s.heap H locs → lv_has ls 11 [(9, .int x9_lp13107), (8, .int 2), (7, .int x7_lp13107), (6, .int z12885), (5, .int z12882), (0, .ref (g 0)), (1, .int p0), (2, .int p1), (3, .int p2), (4, .int p3)] → W p l e (headSpec (Cond.code yX12_lacksOf cX12_lacksOf 11 (some .int) :: wA) ({ frames := 5, cells := 0, slots := 0, locals := 200 })).room s m ([.ref (g 0), .int p0, .int p1, .int p2, .int p3] : List Value).toArray below meth c0 H locs 0 0 (MQ below (va_Qi (fun (r : Int32) (u : StM) => IM u.1 u.2.1 ∧ u.2.2 = rc ∧ (∀ k, k ∉ ([] : List Nat) → u.1 k = v k) ∧ (∀ k, k ∉ ([30, 31] : List Nat) → u.2.1 k = F k) ∧ True) (BM dC dI g c) (AM g s.heap.size)) ([.ref (g 0), .int p0, .int p1, .int p2, .int p3] : List Value).toArray s 0 0 (AM g s.heap.size)) (F0 m 112 ls []) := by
          intro n
          induction n with
          | zero =>
            intro x9_lp13107 x7_lp13107 v_lp13107 F_lp13107 H locs ls t13108 hm hf_lp13107 hI hF hP hS hl
            exfalso
            have := i32_rng x9_lp13107
            have := i32_rng x7_lp13107
            have hI1 := hI.1
            omega
          | succ n ih_lp13107 =>
            intro x9_lp13107 x7_lp13107 v_lp13107 F_lp13107 H locs ls t13108 hm hf_lp13107 hI hF hP hS hl
            have rx9_lp13107 := i32_rng x9_lp13107
            have rx7_lp13107 := i32_rng x7_lp13107
            refine lv_iload hx hb dX12_lacksOf_112 (lv_at hl 0 rfl) ?_
            refine lv_aload_n hx hb dX12_lacksOf_114 rfl (lv_at hl 5 rfl) ?_
            refine va_get (D := (dC, dI)) (ci := 12) (v := .int (v_lp13107 14)) (C := RX12) (T := TX12) (N := 63) hx hb hwd inA_X12 hown hK hP 0 rfl rfl 14 (by decide) (hwd _ wk_318) (fun _ h9 => h9) rfl dX12_lacksOf_115 ?_
            refine my_top (v := v 14) (hf_lp13107 14 (by decide)) ?_
            have t13109 : 0 ≤ (v 14).toInt ∧ (v 14).toInt ≤ 100 := by have h9 := hI.1 14 _ _ rfl; rw [show v_lp13107 14 = v 14 from hf_lp13107 14 (by decide)] at h9; exact h9
            refine lv_icmp_ge (tgt := 211) hx hb dX12_lacksOf_118 (by decide) (fun c13110 => ?_) (fun c13110 => ?_)
            · skip
              have t13111 := cv_le (a := (v 14).toInt) rfl (b := x9_lp13107.toInt) rfl c13110
              refine lv_iload hx hb dX12_lacksOf_211 (lv_at hl 2 rfl) ?_
              have hP9 : va_P (dC, dI) classes (wM g c v_lp13107 F_lp13107 rc) H := hP
              exact W.iret (v := x7_lp13107) hx hb hr (fun t ht hW => ⟨⟨x7_lp13107, (v_lp13107, F_lp13107, rc), rfl, ⟨hI, rfl, (frC (by decide) hf_lp13107 (fun _ _ => rfl)), hF, trivial⟩, (by show va_P _ _ _ t.heap; rw [ht]; exact hP9)⟩, hS.F ht⟩) hS.2.2 dX12_lacksOf_213
            · skip
              have t13112 := cv_nle (a := (v 14).toInt) rfl (b := x9_lp13107.toInt) rfl c13110
              refine lv_aload_n hx hb dX12_lacksOf_121 rfl (lv_at hl 5 rfl) ?_
              refine va_get (D := (dC, dI)) (ci := 12) (v := .ref (g 42)) (C := RX12) (T := TX12) (N := 63) hx hb hwd inA_X12 hown hK hP 0 rfl rfl 56 (by decide) (hwd _ wk_224) (fun _ h9 => h9) rfl dX12_lacksOf_122 ?_
              refine lv_iload hx hb dX12_lacksOf_125 (lv_at hl 0 rfl) ?_
              refine va_zald hx hb hK hP 42 41 rfl rfl (i := x9_lp13107) (vin (a := x9_lp13107.toInt) rfl (by omega)) dX12_lacksOf_127 ?_
              refine lv_topi (fun z13113 e13114 => ?_)
              have e13114 : z13113 = F 42 (x9_lp13107 : Int32).toNatClampNeg := e13114.trans (congrFun (hF 42 (by decide)) _)
              refine lv_if_eq (tgt := 205) hx hb dX12_lacksOf_128 (by decide) (fun c13115 => ?_) (fun c13115 => ?_)
              · skip
                have t13116 := cv_eq (a := z13113.toInt) rfl (b := 0) (by decide) c13115
                obtain ⟨z13117, e13118⟩ : ∃ y : Int32, y = x9_lp13107 + 1 := ⟨_, rfl⟩
                try (have t13119 := tadd e13118 rfl (b := 1) (by decide) (by omega))
                refine lv_iinc (v := z13117) (lv' := [(9, .int z13117), (8, .int 2), (7, .int x7_lp13107), (6, .int z12885), (5, .int z12882), (0, .ref (g 0)), (1, .int p0), (2, .int p1), (3, .int p2), (4, .int p3)]) hx hb dX12_lacksOf_205 hl (k := 0) rfl (by rw [e13118]; rfl) (by decide) rfl (fun ls hl => ?_)
                refine lv_goto (tgt := 112) hx hb dX12_lacksOf_208 (by decide) ?_
                exact ih_lp13107 z13117 x7_lp13107 v_lp13107 F_lp13107 _ _ _ (by omega) (by omega) hf_lp13107 hI hF hP hS (lv_sub hl [0, 1, 2, 3, 4, 5, 6, 7, 8, 9] rfl)
              · skip
                have t13120 := cv_ne (a := z13113.toInt) rfl (b := 0) (by decide) c13115
                refine lv_aload_n hx hb dX12_lacksOf_131 rfl (lv_at hl 5 rfl) ?_
                refine va_get (D := (dC, dI)) (ci := 12) (v := .ref (g 11)) (C := RX12) (T := TX12) (N := 63) hx hb hwd inA_X12 hown hK hP 0 rfl rfl 15 (by decide) (hwd _ wk_192) (fun _ h9 => h9) rfl dX12_lacksOf_132 ?_
                refine lv_iload hx hb dX12_lacksOf_135 (lv_at hl 0 rfl) ?_
                refine va_iald hx hb hK hP 11 10 rfl rfl (i := x9_lp13107) (vin (a := x9_lp13107.toInt) rfl (by omega)) dX12_lacksOf_137 ?_
                refine lv_topi (fun z13121 e13122 => ?_)
                have t13123 : 0 ≤ z13121.toInt ∧ z13121.toInt ≤ 9 := by rw [e13122]; exact hI.2 11 _ _ rfl _
                have e13122 : z13121 = F 11 (x9_lp13107 : Int32).toNatClampNeg := e13122.trans (congrFun (hF 11 (by decide)) _)
                refine lv_aload_n hx hb dX12_lacksOf_138 rfl (lv_at hl 5 rfl) ?_
                refine va_get (D := (dC, dI)) (ci := 12) (v := .ref (g 39)) (C := RX12) (T := TX12) (N := 63) hx hb hwd inA_X12 hown hK hP 0 rfl rfl 53 (by decide) (hwd _ wk_221) (fun _ h9 => h9) rfl dX12_lacksOf_139 ?_
                refine lv_iload hx hb dX12_lacksOf_142 (lv_at hl 4 rfl) ?_
                refine va_iald hx hb hK hP 39 38 rfl rfl (i := z12882) (vin (a := z12882.toInt) rfl (by omega)) dX12_lacksOf_144 ?_
                refine lv_topi (fun z13124 e13125 => ?_)
                have e13125 : z13124 = F 39 (z12882 : Int32).toNatClampNeg := e13125.trans (congrFun (hF 39 (by decide)) _)
                refine lv_icmp_ne (tgt := 205) hx hb dX12_lacksOf_145 (by decide) (fun c13126 => ?_) (fun c13126 => ?_)
                · skip
                  have t13127 := cv_ne (a := z13121.toInt) rfl (b := z13124.toInt) rfl c13126
                  obtain ⟨z13128, e13129⟩ : ∃ y : Int32, y = x9_lp13107 + 1 := ⟨_, rfl⟩
                  try (have t13130 := tadd e13129 rfl (b := 1) (by decide) (by omega))
                  refine lv_iinc (v := z13128) (lv' := [(9, .int z13128), (8, .int 2), (7, .int x7_lp13107), (6, .int z12885), (5, .int z12882), (0, .ref (g 0)), (1, .int p0), (2, .int p1), (3, .int p2), (4, .int p3)]) hx hb dX12_lacksOf_205 hl (k := 0) rfl (by rw [e13129]; rfl) (by decide) rfl (fun ls hl => ?_)
                  refine lv_goto (tgt := 112) hx hb dX12_lacksOf_208 (by decide) ?_
                  exact ih_lp13107 z13128 x7_lp13107 v_lp13107 F_lp13107 _ _ _ (by omega) (by omega) hf_lp13107 hI hF hP hS (lv_sub hl [0, 1, 2, 3, 4, 5, 6, 7, 8, 9] rfl)
                · skip
                  have t13131 := cv_eq (a := z13121.toInt) rfl (b := z13124.toInt) rfl c13126
                  refine lv_aload_n hx hb dX12_lacksOf_148 rfl (lv_at hl 5 rfl) ?_
                  refine lv_iload hx hb dX12_lacksOf_149 (lv_at hl 0 rfl) ?_
                  refine lv_iload hx hb dX12_lacksOf_151 (lv_at hl 1 rfl) ?_
                  refine va_calli (va_runV (As := [.int x9_lp13107, .int 2]) (rest := []) ⟨hx, hb, hml, hown, hwd⟩ (c_X12_limitOf l dC dI g c adK adV v_lp13107 F_lp13107 rc H.size x9_lp13107 2 hg hI (by omega) (by have : (2 : Int32).toInt = 2 := (by decide); omega)) (cwV 2 hwd (gV wk_489 wk_486 wk_487 wk_488 wk_5) rfl rfl rfl (by decide +kernel) ⟨Nat.le_of_ble_eq_true rfl, Nat.le_of_ble_eq_true rfl⟩) ⟨PM.blind, va_recv hK hP (ci := 12) (q0 := 0) rfl rfl, fun U hU hW => ⟨rfl, PM.at hK hE hP hS hU hW⟩⟩ rfl rfl hl.1 rfl (lv_room (Nat.le_of_ble_eq_true rfl)) dX12_lacksOf_153 ⟨Nat.le_of_ble_eq_true rfl, Nat.le_of_ble_eq_true rfl⟩) hS (fun q _ h => (freeM hS) q h) (freeM hS) (fun r13132 u t H1 locs ht hvm hw hB hz1 hk1 hS => ?_)
                  unfold BM at hB
                  rw [ht] at hB
                  have hP : va_P (dC, dI) classes (wM g c v_lp13107 F_lp13107 rc) H1 := hB
                  replace hw : r13132.toInt = (F_lp13107 1 (limJ (F_lp13107 11) x9_lp13107 (2 : Int32))).toInt := hw
                  rw [hF 1 (by decide)] at hw
                  rw [hF 11 (by decide)] at hw
                  have hw_r13132 := hw
                  clear hw
                  have k13133 : (2 : Int32).toInt = 2 := by decide
                  clear hz1
                  generalize H1 = H at hP hS ⊢
                  refine lv_if_ne (tgt := 162) hx hb dX12_lacksOf_156 (by decide) (fun c13134 => ?_) (fun c13134 => ?_)
                  · skip
                    have t13135 := cv_ne (a := r13132.toInt) rfl (b := 0) (by decide) c13134
                    refine lv_aload_n hx hb dX12_lacksOf_162 rfl (lv_at hl 5 rfl) ?_
                    refine lv_iload hx hb dX12_lacksOf_163 (lv_at hl 0 rfl) ?_
                    refine lv_iload hx hb dX12_lacksOf_165 (lv_at hl 1 rfl) ?_
                    refine lv_iload hx hb dX12_lacksOf_167 (lv_at hl 9 rfl) ?_
                    refine va_calli (va_runV (As := [.int x9_lp13107, .int 2, .int p3]) (rest := []) ⟨hx, hb, hml, hown, hwd⟩ (c_X12_leftOf l dC dI g c adK adV v_lp13107 F_lp13107 rc H.size x9_lp13107 2 p3 hg hI (by omega) (by have : (2 : Int32).toInt = 2 := (by decide); omega) (JL.to hL (show v_lp13107 31 = v 31 from hf_lp13107 31 (by decide)) (hF 28 (by decide)) (hF 29 (by decide)) (hF 27 (by decide)))) (cwV 3 hwd (gV wk_493 wk_490 wk_491 wk_492 wk_5) rfl rfl rfl (by decide +kernel) ⟨Nat.le_of_ble_eq_true rfl, Nat.le_of_ble_eq_true rfl⟩) ⟨PM.blind, va_recv hK hP (ci := 12) (q0 := 0) rfl rfl, fun U hU hW => ⟨rfl, PM.at hK hE hP hS hU hW⟩⟩ rfl rfl hl.1 rfl (lv_room (Nat.le_of_ble_eq_true rfl)) dX12_lacksOf_169 ⟨Nat.le_of_ble_eq_true rfl, Nat.le_of_ble_eq_true rfl⟩) hS (fun q _ h => (freeM hS) q h) (freeM hS) (fun r13136 u t H1 locs ht hvm hw hB hz1 hk1 hS => ?_)
                    unfold BM at hB
                    rw [ht] at hB
                    obtain ⟨v13137, F13138, rc9⟩ := u
                    obtain ⟨hI, hrc, hf13139, hG13140, hw⟩ := hw
                    dsimp only at hI hrc hB hf13139 hG13140 hw
                    have hF := frCF (by decide) hG13140 hF
                    rw [hrc] at hB
                    have hP : va_P (dC, dI) classes (wM g c v13137 F13138 rc) H1 := hB
                    clear hz1
                    generalize H1 = H at hP hS ⊢
                    have rr_r13136 := i32_rng r13136
                    refine lv_istore (lv' := [(10, .int r13136), (9, .int x9_lp13107), (8, .int 2), (7, .int x7_lp13107), (6, .int z12885), (5, .int z12882), (0, .ref (g 0)), (1, .int p0), (2, .int p1), (3, .int p2), (4, .int p3)]) hx hb dX12_lacksOf_172 hl (by decide) rfl (fun ls hl => ?_)
                    refine lv_iload hx hb dX12_lacksOf_174 (lv_at hl 3 rfl) ?_
                    refine lv_iload hx hb dX12_lacksOf_176 (lv_at hl 0 rfl) ?_
                    refine lv_aload_n hx hb dX12_lacksOf_178 rfl (lv_at hl 6 rfl) ?_
                    refine va_get (D := (dC, dI)) (ci := 12) (v := .ref (g 40)) (C := RX12) (T := TX12) (N := 63) hx hb hwd inA_X12 hown hK hP 0 rfl rfl 54 (by decide) (hwd _ wk_222) (fun _ h9 => h9) rfl dX12_lacksOf_179 ?_
                    refine lv_iload hx hb dX12_lacksOf_182 (lv_at hl 5 rfl) ?_
                    refine va_iald hx hb hK hP 40 39 rfl rfl (i := z12882) (vin (a := z12882.toInt) rfl (by omega)) dX12_lacksOf_184 ?_
                    refine lv_topi (fun z13141 e13142 => ?_)
                    have e13142 : z13141 = F 40 (z12882 : Int32).toNatClampNeg := e13142.trans (congrFun (hF 40 (by decide)) _)
                    refine lv_icmp_ge (tgt := 201) hx hb dX12_lacksOf_185 (by decide) (fun c13143 => ?_) (fun c13143 => ?_)
                    · skip
                      have t13144 := cv_le (a := z13141.toInt) rfl (b := r13136.toInt) rfl c13143
                      refine lv_iconst (v := 0) hx hb dX12_lacksOf_201 (by decide) ?_
                      refine lv_iadd hx hb dX12_lacksOf_202 ?_
                      refine lv_topi (fun z13145 e13146 => ?_)
                      try (have t13147 := tadd e13146 (a := x7_lp13107.toInt) rfl (b := 0) (by decide) (by omega))
                      refine lv_istore (lv' := [(7, .int z13145), (10, .int r13136), (9, .int x9_lp13107), (8, .int 2), (6, .int z12885), (5, .int z12882), (0, .ref (g 0)), (1, .int p0), (2, .int p1), (3, .int p2), (4, .int p3)]) hx hb dX12_lacksOf_203 hl (by decide) rfl (fun ls hl => ?_)
                      obtain ⟨z13148, e13149⟩ : ∃ y : Int32, y = x9_lp13107 + 1 := ⟨_, rfl⟩
                      try (have t13150 := tadd e13149 rfl (b := 1) (by decide) (by omega))
                      refine lv_iinc (v := z13148) (lv' := [(9, .int z13148), (7, .int z13145), (10, .int r13136), (8, .int 2), (6, .int z12885), (5, .int z12882), (0, .ref (g 0)), (1, .int p0), (2, .int p1), (3, .int p2), (4, .int p3)]) hx hb dX12_lacksOf_205 hl (k := 2) rfl (by rw [e13149]; rfl) (by decide) rfl (fun ls hl => ?_)
                      refine lv_goto (tgt := 112) hx hb dX12_lacksOf_208 (by decide) ?_
                      exact ih_lp13107 z13148 z13145 v13137 F13138 _ _ _ (by omega) (by omega) (frC (by decide) hf13139 hf_lp13107) hI hF hP hS (lv_sub hl [0, 3, 1, 4, 5, 6, 7, 8, 9, 10] rfl)
                    · skip
                      have t13151 := cv_nle (a := z13141.toInt) rfl (b := r13136.toInt) rfl c13143
                      refine lv_aload_n hx hb dX12_lacksOf_188 rfl (lv_at hl 6 rfl) ?_
                      refine va_get (D := (dC, dI)) (ci := 12) (v := .ref (g 40)) (C := RX12) (T := TX12) (N := 63) hx hb hwd inA_X12 hown hK hP 0 rfl rfl 54 (by decide) (hwd _ wk_222) (fun _ h9 => h9) rfl dX12_lacksOf_189 ?_
                      refine lv_iload hx hb dX12_lacksOf_192 (lv_at hl 5 rfl) ?_
                      refine va_iald hx hb hK hP 40 39 rfl rfl (i := z12882) (vin (a := z12882.toInt) rfl (by omega)) dX12_lacksOf_194 ?_
                      refine lv_topi (fun z13152 e13153 => ?_)
                      have e13153 : z13152 = F 40 (z12882 : Int32).toNatClampNeg := e13153.trans (congrFun (hF 40 (by decide)) _)
                      refine lv_iload hx hb dX12_lacksOf_195 (lv_at hl 0 rfl) ?_
                      refine lv_isub hx hb dX12_lacksOf_197 ?_
                      refine lv_topi (fun z13154 e13155 => ?_)
                      try (have t13156 := tsub e13155 (a := z13152.toInt) rfl (b := r13136.toInt) rfl (by omega))
                      refine lv_goto (tgt := 202) hx hb dX12_lacksOf_198 (by decide) ?_
                      refine lv_iadd hx hb dX12_lacksOf_202 ?_
                      refine lv_topi (fun z13157 e13158 => ?_)
                      try (have t13159 := tadd e13158 (a := x7_lp13107.toInt) rfl (b := z13154.toInt) rfl (by omega))
                      refine lv_istore (lv' := [(7, .int z13157), (10, .int r13136), (9, .int x9_lp13107), (8, .int 2), (6, .int z12885), (5, .int z12882), (0, .ref (g 0)), (1, .int p0), (2, .int p1), (3, .int p2), (4, .int p3)]) hx hb dX12_lacksOf_203 hl (by decide) rfl (fun ls hl => ?_)
                      obtain ⟨z13160, e13161⟩ : ∃ y : Int32, y = x9_lp13107 + 1 := ⟨_, rfl⟩
                      try (have t13162 := tadd e13161 rfl (b := 1) (by decide) (by omega))
                      refine lv_iinc (v := z13160) (lv' := [(9, .int z13160), (7, .int z13157), (10, .int r13136), (8, .int 2), (6, .int z12885), (5, .int z12882), (0, .ref (g 0)), (1, .int p0), (2, .int p1), (3, .int p2), (4, .int p3)]) hx hb dX12_lacksOf_205 hl (k := 2) rfl (by rw [e13161]; rfl) (by decide) rfl (fun ls hl => ?_)
                      refine lv_goto (tgt := 112) hx hb dX12_lacksOf_208 (by decide) ?_
                      exact ih_lp13107 z13160 z13157 v13137 F13138 _ _ _ (by omega) (by omega) (frC (by decide) hf13139 hf_lp13107) hI hF hP hS (lv_sub hl [0, 3, 1, 4, 5, 6, 7, 8, 9, 10] rfl)
                  · skip
                    have t13163 := cv_eq (a := r13132.toInt) rfl (b := 0) (by decide) c13134
                    refine lv_goto (tgt := 205) hx hb dX12_lacksOf_159 (by decide) ?_
                    obtain ⟨z13164, e13165⟩ : ∃ y : Int32, y = x9_lp13107 + 1 := ⟨_, rfl⟩
                    try (have t13166 := tadd e13165 rfl (b := 1) (by decide) (by omega))
                    refine lv_iinc (v := z13164) (lv' := [(9, .int z13164), (8, .int 2), (7, .int x7_lp13107), (6, .int z12885), (5, .int z12882), (0, .ref (g 0)), (1, .int p0), (2, .int p1), (3, .int p2), (4, .int p3)]) hx hb dX12_lacksOf_205 hl (k := 0) rfl (by rw [e13165]; rfl) (by decide) rfl (fun ls hl => ?_)
                    refine lv_goto (tgt := 112) hx hb dX12_lacksOf_208 (by decide) ?_
                    exact ih_lp13107 z13164 x7_lp13107 v_lp13107 F_lp13107 _ _ _ (by omega) (by omega) hf_lp13107 hI hF hP hS (lv_sub hl [0, 1, 2, 3, 4, 5, 6, 7, 8, 9] rfl)
        obtain ⟨n9, hn9⟩ : ∃ n : Nat, 2147483648 - 0 ≤ (n : Int) := ⟨((2147483648 - 0 : Int)).toNat, by omega⟩
        exact lp13107 n9 0 0 v F H _ ls (by have : (0 : Int32).toInt = 0 := (by decide); have : (0 : Int32).toInt = 0 := (by decide); omega) (by have : (0 : Int32).toInt = 0 := (by decide); have : (0 : Int32).toInt = 0 := (by decide); omega) (fun _ _ => rfl) hI hF hP hS hl
      · skip
        have t13167 := cv_eq (a := z12885.toInt) rfl (b := 108) (by decide) c13105
        refine lv_iconst (v := 1) hx hb dX12_lacksOf_102 (by decide) ?_
        refine lv_goto (tgt := 107) hx hb dX12_lacksOf_103 (by decide) ?_
        refine lv_istore (lv' := [(8, .int 1), (7, .int 0), (6, .int z12885), (5, .int z12882), (0, .ref (g 0)), (1, .int p0), (2, .int p1), (3, .int p2), (4, .int p3)]) hx hb dX12_lacksOf_107 hl (by decide) rfl (fun ls hl => ?_)
        refine lv_iconst (v := 0) hx hb dX12_lacksOf_109 (by decide) ?_
        refine lv_istore (lv' := [(9, .int 0), (8, .int 1), (7, .int 0), (6, .int z12885), (5, .int z12882), (0, .ref (g 0)), (1, .int p0), (2, .int p1), (3, .int p2), (4, .int p3)]) hx hb dX12_lacksOf_110 hl (by decide) rfl (fun ls hl => ?_)
        have lp13168 : ∀ (n : Nat) (x9_lp13168 : Int32) (x7_lp13168 : Int32) (v_lp13168 : Nat → Int32) (F_lp13168 : Nat → Nat → Int32) (H : Heap) (locs : List Loc) (ls : Array Slot), (0 ≤ x9_lp13168.toInt) → (2147483648 - x9_lp13168.toInt ≤ (n : Int)) → (∀ k, k ∉ ([] : List Nat) → v_lp13168 k = v k) → IM v_lp13168 F_lp13168 → (∀ k, k ∉ ([30, 31] : List Nat) → F_lp13168 k = F k) → va_P (dC, dI) classes (wM g c v_lp13168 F_lp13168 rc) H → va_S (AM g s.heap.size) s.heap H locs → lv_has ls 11 [(9, .int x9_lp13168), (8, .int 1), (7, .int x7_lp13168), (6, .int z12885), (5, .int z12882), (0, .ref (g 0)), (1, .int p0), (2, .int p1), (3, .int p2), (4, .int p3)] → W p l e (headSpec (Cond.code yX12_lacksOf cX12_lacksOf 11 (some .int) :: wA) ({ frames := 5, cells := 0, slots := 0, locals := 200 })).room s m ([.ref (g 0), .int p0, .int p1, .int p2, .int p3] : List Value).toArray below meth c0 H locs 0 0 (MQ below (va_Qi (fun (r : Int32) (u : StM) => IM u.1 u.2.1 ∧ u.2.2 = rc ∧ (∀ k, k ∉ ([] : List Nat) → u.1 k = v k) ∧ (∀ k, k ∉ ([30, 31] : List Nat) → u.2.1 k = F k) ∧ True) (BM dC dI g c) (AM g s.heap.size)) ([.ref (g 0), .int p0, .int p1, .int p2, .int p3] : List Value).toArray s 0 0 (AM g s.heap.size)) (F0 m 112 ls []) := by
          intro n
          induction n with
          | zero =>
            intro x9_lp13168 x7_lp13168 v_lp13168 F_lp13168 H locs ls t13169 hm hf_lp13168 hI hF hP hS hl
            exfalso
            have := i32_rng x9_lp13168
            have := i32_rng x7_lp13168
            have hI1 := hI.1
            omega
          | succ n ih_lp13168 =>
            intro x9_lp13168 x7_lp13168 v_lp13168 F_lp13168 H locs ls t13169 hm hf_lp13168 hI hF hP hS hl
            have rx9_lp13168 := i32_rng x9_lp13168
            have rx7_lp13168 := i32_rng x7_lp13168
            refine lv_iload hx hb dX12_lacksOf_112 (lv_at hl 0 rfl) ?_
            refine lv_aload_n hx hb dX12_lacksOf_114 rfl (lv_at hl 5 rfl) ?_
            refine va_get (D := (dC, dI)) (ci := 12) (v := .int (v_lp13168 14)) (C := RX12) (T := TX12) (N := 63) hx hb hwd inA_X12 hown hK hP 0 rfl rfl 14 (by decide) (hwd _ wk_318) (fun _ h9 => h9) rfl dX12_lacksOf_115 ?_
            refine my_top (v := v 14) (hf_lp13168 14 (by decide)) ?_
            have t13170 : 0 ≤ (v 14).toInt ∧ (v 14).toInt ≤ 100 := by have h9 := hI.1 14 _ _ rfl; rw [show v_lp13168 14 = v 14 from hf_lp13168 14 (by decide)] at h9; exact h9
            refine lv_icmp_ge (tgt := 211) hx hb dX12_lacksOf_118 (by decide) (fun c13171 => ?_) (fun c13171 => ?_)
            · skip
              have t13172 := cv_le (a := (v 14).toInt) rfl (b := x9_lp13168.toInt) rfl c13171
              refine lv_iload hx hb dX12_lacksOf_211 (lv_at hl 2 rfl) ?_
              have hP9 : va_P (dC, dI) classes (wM g c v_lp13168 F_lp13168 rc) H := hP
              exact W.iret (v := x7_lp13168) hx hb hr (fun t ht hW => ⟨⟨x7_lp13168, (v_lp13168, F_lp13168, rc), rfl, ⟨hI, rfl, (frC (by decide) hf_lp13168 (fun _ _ => rfl)), hF, trivial⟩, (by show va_P _ _ _ t.heap; rw [ht]; exact hP9)⟩, hS.F ht⟩) hS.2.2 dX12_lacksOf_213
            · skip
              have t13173 := cv_nle (a := (v 14).toInt) rfl (b := x9_lp13168.toInt) rfl c13171
              refine lv_aload_n hx hb dX12_lacksOf_121 rfl (lv_at hl 5 rfl) ?_
              refine va_get (D := (dC, dI)) (ci := 12) (v := .ref (g 42)) (C := RX12) (T := TX12) (N := 63) hx hb hwd inA_X12 hown hK hP 0 rfl rfl 56 (by decide) (hwd _ wk_224) (fun _ h9 => h9) rfl dX12_lacksOf_122 ?_
              refine lv_iload hx hb dX12_lacksOf_125 (lv_at hl 0 rfl) ?_
              refine va_zald hx hb hK hP 42 41 rfl rfl (i := x9_lp13168) (vin (a := x9_lp13168.toInt) rfl (by omega)) dX12_lacksOf_127 ?_
              refine lv_topi (fun z13174 e13175 => ?_)
              have e13175 : z13174 = F 42 (x9_lp13168 : Int32).toNatClampNeg := e13175.trans (congrFun (hF 42 (by decide)) _)
              refine lv_if_eq (tgt := 205) hx hb dX12_lacksOf_128 (by decide) (fun c13176 => ?_) (fun c13176 => ?_)
              · skip
                have t13177 := cv_eq (a := z13174.toInt) rfl (b := 0) (by decide) c13176
                obtain ⟨z13178, e13179⟩ : ∃ y : Int32, y = x9_lp13168 + 1 := ⟨_, rfl⟩
                try (have t13180 := tadd e13179 rfl (b := 1) (by decide) (by omega))
                refine lv_iinc (v := z13178) (lv' := [(9, .int z13178), (8, .int 1), (7, .int x7_lp13168), (6, .int z12885), (5, .int z12882), (0, .ref (g 0)), (1, .int p0), (2, .int p1), (3, .int p2), (4, .int p3)]) hx hb dX12_lacksOf_205 hl (k := 0) rfl (by rw [e13179]; rfl) (by decide) rfl (fun ls hl => ?_)
                refine lv_goto (tgt := 112) hx hb dX12_lacksOf_208 (by decide) ?_
                exact ih_lp13168 z13178 x7_lp13168 v_lp13168 F_lp13168 _ _ _ (by omega) (by omega) hf_lp13168 hI hF hP hS (lv_sub hl [0, 1, 2, 3, 4, 5, 6, 7, 8, 9] rfl)
              · skip
                have t13181 := cv_ne (a := z13174.toInt) rfl (b := 0) (by decide) c13176
                refine lv_aload_n hx hb dX12_lacksOf_131 rfl (lv_at hl 5 rfl) ?_
                refine va_get (D := (dC, dI)) (ci := 12) (v := .ref (g 11)) (C := RX12) (T := TX12) (N := 63) hx hb hwd inA_X12 hown hK hP 0 rfl rfl 15 (by decide) (hwd _ wk_192) (fun _ h9 => h9) rfl dX12_lacksOf_132 ?_
                refine lv_iload hx hb dX12_lacksOf_135 (lv_at hl 0 rfl) ?_
                refine va_iald hx hb hK hP 11 10 rfl rfl (i := x9_lp13168) (vin (a := x9_lp13168.toInt) rfl (by omega)) dX12_lacksOf_137 ?_
                refine lv_topi (fun z13182 e13183 => ?_)
                have t13184 : 0 ≤ z13182.toInt ∧ z13182.toInt ≤ 9 := by rw [e13183]; exact hI.2 11 _ _ rfl _
                have e13183 : z13182 = F 11 (x9_lp13168 : Int32).toNatClampNeg := e13183.trans (congrFun (hF 11 (by decide)) _)
                refine lv_aload_n hx hb dX12_lacksOf_138 rfl (lv_at hl 5 rfl) ?_
                refine va_get (D := (dC, dI)) (ci := 12) (v := .ref (g 39)) (C := RX12) (T := TX12) (N := 63) hx hb hwd inA_X12 hown hK hP 0 rfl rfl 53 (by decide) (hwd _ wk_221) (fun _ h9 => h9) rfl dX12_lacksOf_139 ?_
                refine lv_iload hx hb dX12_lacksOf_142 (lv_at hl 4 rfl) ?_
                refine va_iald hx hb hK hP 39 38 rfl rfl (i := z12882) (vin (a := z12882.toInt) rfl (by omega)) dX12_lacksOf_144 ?_
                refine lv_topi (fun z13185 e13186 => ?_)
                have e13186 : z13185 = F 39 (z12882 : Int32).toNatClampNeg := e13186.trans (congrFun (hF 39 (by decide)) _)
                refine lv_icmp_ne (tgt := 205) hx hb dX12_lacksOf_145 (by decide) (fun c13187 => ?_) (fun c13187 => ?_)
                · skip
                  have t13188 := cv_ne (a := z13182.toInt) rfl (b := z13185.toInt) rfl c13187
                  obtain ⟨z13189, e13190⟩ : ∃ y : Int32, y = x9_lp13168 + 1 := ⟨_, rfl⟩
                  try (have t13191 := tadd e13190 rfl (b := 1) (by decide) (by omega))
                  refine lv_iinc (v := z13189) (lv' := [(9, .int z13189), (8, .int 1), (7, .int x7_lp13168), (6, .int z12885), (5, .int z12882), (0, .ref (g 0)), (1, .int p0), (2, .int p1), (3, .int p2), (4, .int p3)]) hx hb dX12_lacksOf_205 hl (k := 0) rfl (by rw [e13190]; rfl) (by decide) rfl (fun ls hl => ?_)
                  refine lv_goto (tgt := 112) hx hb dX12_lacksOf_208 (by decide) ?_
                  exact ih_lp13168 z13189 x7_lp13168 v_lp13168 F_lp13168 _ _ _ (by omega) (by omega) hf_lp13168 hI hF hP hS (lv_sub hl [0, 1, 2, 3, 4, 5, 6, 7, 8, 9] rfl)
                · skip
                  have t13192 := cv_eq (a := z13182.toInt) rfl (b := z13185.toInt) rfl c13187
                  refine lv_aload_n hx hb dX12_lacksOf_148 rfl (lv_at hl 5 rfl) ?_
                  refine lv_iload hx hb dX12_lacksOf_149 (lv_at hl 0 rfl) ?_
                  refine lv_iload hx hb dX12_lacksOf_151 (lv_at hl 1 rfl) ?_
                  refine va_calli (va_runV (As := [.int x9_lp13168, .int 1]) (rest := []) ⟨hx, hb, hml, hown, hwd⟩ (c_X12_limitOf l dC dI g c adK adV v_lp13168 F_lp13168 rc H.size x9_lp13168 1 hg hI (by omega) (by have : (1 : Int32).toInt = 1 := (by decide); omega)) (cwV 2 hwd (gV wk_489 wk_486 wk_487 wk_488 wk_5) rfl rfl rfl (by decide +kernel) ⟨Nat.le_of_ble_eq_true rfl, Nat.le_of_ble_eq_true rfl⟩) ⟨PM.blind, va_recv hK hP (ci := 12) (q0 := 0) rfl rfl, fun U hU hW => ⟨rfl, PM.at hK hE hP hS hU hW⟩⟩ rfl rfl hl.1 rfl (lv_room (Nat.le_of_ble_eq_true rfl)) dX12_lacksOf_153 ⟨Nat.le_of_ble_eq_true rfl, Nat.le_of_ble_eq_true rfl⟩) hS (fun q _ h => (freeM hS) q h) (freeM hS) (fun r13193 u t H1 locs ht hvm hw hB hz1 hk1 hS => ?_)
                  unfold BM at hB
                  rw [ht] at hB
                  have hP : va_P (dC, dI) classes (wM g c v_lp13168 F_lp13168 rc) H1 := hB
                  replace hw : r13193.toInt = (F_lp13168 1 (limJ (F_lp13168 11) x9_lp13168 (1 : Int32))).toInt := hw
                  rw [hF 1 (by decide)] at hw
                  rw [hF 11 (by decide)] at hw
                  have hw_r13193 := hw
                  clear hw
                  have k13194 : (1 : Int32).toInt = 1 := by decide
                  clear hz1
                  generalize H1 = H at hP hS ⊢
                  refine lv_if_ne (tgt := 162) hx hb dX12_lacksOf_156 (by decide) (fun c13195 => ?_) (fun c13195 => ?_)
                  · skip
                    have t13196 := cv_ne (a := r13193.toInt) rfl (b := 0) (by decide) c13195
                    refine lv_aload_n hx hb dX12_lacksOf_162 rfl (lv_at hl 5 rfl) ?_
                    refine lv_iload hx hb dX12_lacksOf_163 (lv_at hl 0 rfl) ?_
                    refine lv_iload hx hb dX12_lacksOf_165 (lv_at hl 1 rfl) ?_
                    refine lv_iload hx hb dX12_lacksOf_167 (lv_at hl 9 rfl) ?_
                    refine va_calli (va_runV (As := [.int x9_lp13168, .int 1, .int p3]) (rest := []) ⟨hx, hb, hml, hown, hwd⟩ (c_X12_leftOf l dC dI g c adK adV v_lp13168 F_lp13168 rc H.size x9_lp13168 1 p3 hg hI (by omega) (by have : (1 : Int32).toInt = 1 := (by decide); omega) (JL.to hL (show v_lp13168 31 = v 31 from hf_lp13168 31 (by decide)) (hF 28 (by decide)) (hF 29 (by decide)) (hF 27 (by decide)))) (cwV 3 hwd (gV wk_493 wk_490 wk_491 wk_492 wk_5) rfl rfl rfl (by decide +kernel) ⟨Nat.le_of_ble_eq_true rfl, Nat.le_of_ble_eq_true rfl⟩) ⟨PM.blind, va_recv hK hP (ci := 12) (q0 := 0) rfl rfl, fun U hU hW => ⟨rfl, PM.at hK hE hP hS hU hW⟩⟩ rfl rfl hl.1 rfl (lv_room (Nat.le_of_ble_eq_true rfl)) dX12_lacksOf_169 ⟨Nat.le_of_ble_eq_true rfl, Nat.le_of_ble_eq_true rfl⟩) hS (fun q _ h => (freeM hS) q h) (freeM hS) (fun r13197 u t H1 locs ht hvm hw hB hz1 hk1 hS => ?_)
                    unfold BM at hB
                    rw [ht] at hB
                    obtain ⟨v13198, F13199, rc9⟩ := u
                    obtain ⟨hI, hrc, hf13200, hG13201, hw⟩ := hw
                    dsimp only at hI hrc hB hf13200 hG13201 hw
                    have hF := frCF (by decide) hG13201 hF
                    rw [hrc] at hB
                    have hP : va_P (dC, dI) classes (wM g c v13198 F13199 rc) H1 := hB
                    clear hz1
                    generalize H1 = H at hP hS ⊢
                    have rr_r13197 := i32_rng r13197
                    refine lv_istore (lv' := [(10, .int r13197), (9, .int x9_lp13168), (8, .int 1), (7, .int x7_lp13168), (6, .int z12885), (5, .int z12882), (0, .ref (g 0)), (1, .int p0), (2, .int p1), (3, .int p2), (4, .int p3)]) hx hb dX12_lacksOf_172 hl (by decide) rfl (fun ls hl => ?_)
                    refine lv_iload hx hb dX12_lacksOf_174 (lv_at hl 3 rfl) ?_
                    refine lv_iload hx hb dX12_lacksOf_176 (lv_at hl 0 rfl) ?_
                    refine lv_aload_n hx hb dX12_lacksOf_178 rfl (lv_at hl 6 rfl) ?_
                    refine va_get (D := (dC, dI)) (ci := 12) (v := .ref (g 40)) (C := RX12) (T := TX12) (N := 63) hx hb hwd inA_X12 hown hK hP 0 rfl rfl 54 (by decide) (hwd _ wk_222) (fun _ h9 => h9) rfl dX12_lacksOf_179 ?_
                    refine lv_iload hx hb dX12_lacksOf_182 (lv_at hl 5 rfl) ?_
                    refine va_iald hx hb hK hP 40 39 rfl rfl (i := z12882) (vin (a := z12882.toInt) rfl (by omega)) dX12_lacksOf_184 ?_
                    refine lv_topi (fun z13202 e13203 => ?_)
                    have e13203 : z13202 = F 40 (z12882 : Int32).toNatClampNeg := e13203.trans (congrFun (hF 40 (by decide)) _)
                    refine lv_icmp_ge (tgt := 201) hx hb dX12_lacksOf_185 (by decide) (fun c13204 => ?_) (fun c13204 => ?_)
                    · skip
                      have t13205 := cv_le (a := z13202.toInt) rfl (b := r13197.toInt) rfl c13204
                      refine lv_iconst (v := 0) hx hb dX12_lacksOf_201 (by decide) ?_
                      refine lv_iadd hx hb dX12_lacksOf_202 ?_
                      refine lv_topi (fun z13206 e13207 => ?_)
                      try (have t13208 := tadd e13207 (a := x7_lp13168.toInt) rfl (b := 0) (by decide) (by omega))
                      refine lv_istore (lv' := [(7, .int z13206), (10, .int r13197), (9, .int x9_lp13168), (8, .int 1), (6, .int z12885), (5, .int z12882), (0, .ref (g 0)), (1, .int p0), (2, .int p1), (3, .int p2), (4, .int p3)]) hx hb dX12_lacksOf_203 hl (by decide) rfl (fun ls hl => ?_)
                      obtain ⟨z13209, e13210⟩ : ∃ y : Int32, y = x9_lp13168 + 1 := ⟨_, rfl⟩
                      try (have t13211 := tadd e13210 rfl (b := 1) (by decide) (by omega))
                      refine lv_iinc (v := z13209) (lv' := [(9, .int z13209), (7, .int z13206), (10, .int r13197), (8, .int 1), (6, .int z12885), (5, .int z12882), (0, .ref (g 0)), (1, .int p0), (2, .int p1), (3, .int p2), (4, .int p3)]) hx hb dX12_lacksOf_205 hl (k := 2) rfl (by rw [e13210]; rfl) (by decide) rfl (fun ls hl => ?_)
                      refine lv_goto (tgt := 112) hx hb dX12_lacksOf_208 (by decide) ?_
                      exact ih_lp13168 z13209 z13206 v13198 F13199 _ _ _ (by omega) (by omega) (frC (by decide) hf13200 hf_lp13168) hI hF hP hS (lv_sub hl [0, 3, 1, 4, 5, 6, 7, 8, 9, 10] rfl)
                    · skip
                      have t13212 := cv_nle (a := z13202.toInt) rfl (b := r13197.toInt) rfl c13204
                      refine lv_aload_n hx hb dX12_lacksOf_188 rfl (lv_at hl 6 rfl) ?_
                      refine va_get (D := (dC, dI)) (ci := 12) (v := .ref (g 40)) (C := RX12) (T := TX12) (N := 63) hx hb hwd inA_X12 hown hK hP 0 rfl rfl 54 (by decide) (hwd _ wk_222) (fun _ h9 => h9) rfl dX12_lacksOf_189 ?_
                      refine lv_iload hx hb dX12_lacksOf_192 (lv_at hl 5 rfl) ?_
                      refine va_iald hx hb hK hP 40 39 rfl rfl (i := z12882) (vin (a := z12882.toInt) rfl (by omega)) dX12_lacksOf_194 ?_
                      refine lv_topi (fun z13213 e13214 => ?_)
                      have e13214 : z13213 = F 40 (z12882 : Int32).toNatClampNeg := e13214.trans (congrFun (hF 40 (by decide)) _)
                      refine lv_iload hx hb dX12_lacksOf_195 (lv_at hl 0 rfl) ?_
                      refine lv_isub hx hb dX12_lacksOf_197 ?_
                      refine lv_topi (fun z13215 e13216 => ?_)
                      try (have t13217 := tsub e13216 (a := z13213.toInt) rfl (b := r13197.toInt) rfl (by omega))
                      refine lv_goto (tgt := 202) hx hb dX12_lacksOf_198 (by decide) ?_
                      refine lv_iadd hx hb dX12_lacksOf_202 ?_
                      refine lv_topi (fun z13218 e13219 => ?_)
                      try (have t13220 := tadd e13219 (a := x7_lp13168.toInt) rfl (b := z13215.toInt) rfl (by omega))
                      refine lv_istore (lv' := [(7, .int z13218), (10, .int r13197), (9, .int x9_lp13168), (8, .int 1), (6, .int z12885), (5, .int z12882), (0, .ref (g 0)), (1, .int p0), (2, .int p1), (3, .int p2), (4, .int p3)]) hx hb dX12_lacksOf_203 hl (by decide) rfl (fun ls hl => ?_)
                      obtain ⟨z13221, e13222⟩ : ∃ y : Int32, y = x9_lp13168 + 1 := ⟨_, rfl⟩
                      try (have t13223 := tadd e13222 rfl (b := 1) (by decide) (by omega))
                      refine lv_iinc (v := z13221) (lv' := [(9, .int z13221), (7, .int z13218), (10, .int r13197), (8, .int 1), (6, .int z12885), (5, .int z12882), (0, .ref (g 0)), (1, .int p0), (2, .int p1), (3, .int p2), (4, .int p3)]) hx hb dX12_lacksOf_205 hl (k := 2) rfl (by rw [e13222]; rfl) (by decide) rfl (fun ls hl => ?_)
                      refine lv_goto (tgt := 112) hx hb dX12_lacksOf_208 (by decide) ?_
                      exact ih_lp13168 z13221 z13218 v13198 F13199 _ _ _ (by omega) (by omega) (frC (by decide) hf13200 hf_lp13168) hI hF hP hS (lv_sub hl [0, 3, 1, 4, 5, 6, 7, 8, 9, 10] rfl)
                  · skip
                    have t13224 := cv_eq (a := r13193.toInt) rfl (b := 0) (by decide) c13195
                    refine lv_goto (tgt := 205) hx hb dX12_lacksOf_159 (by decide) ?_
                    obtain ⟨z13225, e13226⟩ : ∃ y : Int32, y = x9_lp13168 + 1 := ⟨_, rfl⟩
                    try (have t13227 := tadd e13226 rfl (b := 1) (by decide) (by omega))
                    refine lv_iinc (v := z13225) (lv' := [(9, .int z13225), (8, .int 1), (7, .int x7_lp13168), (6, .int z12885), (5, .int z12882), (0, .ref (g 0)), (1, .int p0), (2, .int p1), (3, .int p2), (4, .int p3)]) hx hb dX12_lacksOf_205 hl (k := 0) rfl (by rw [e13226]; rfl) (by decide) rfl (fun ls hl => ?_)
                    refine lv_goto (tgt := 112) hx hb dX12_lacksOf_208 (by decide) ?_
                    exact ih_lp13168 z13225 x7_lp13168 v_lp13168 F_lp13168 _ _ _ (by omega) (by omega) hf_lp13168 hI hF hP hS (lv_sub hl [0, 1, 2, 3, 4, 5, 6, 7, 8, 9] rfl)
        obtain ⟨n9, hn9⟩ : ∃ n : Nat, 2147483648 - 0 ≤ (n : Int) := ⟨((2147483648 - 0 : Int)).toNat, by omega⟩
        exact lp13168 n9 0 0 v F H _ ls (by have : (0 : Int32).toInt = 0 := (by decide); have : (0 : Int32).toInt = 0 := (by decide); omega) (by have : (0 : Int32).toInt = 0 := (by decide); have : (0 : Int32).toInt = 0 := (by decide); omega) (fun _ _ => rfl) hI hF hP hS hl
    · skip
      have t13228 := cv_eq (a := z12885.toInt) rfl (b := 104) (by decide) c13103
      refine lv_iconst (v := 0) hx hb dX12_lacksOf_91 (by decide) ?_
      refine lv_goto (tgt := 107) hx hb dX12_lacksOf_92 (by decide) ?_
      refine lv_istore (lv' := [(8, .int 0), (7, .int 0), (6, .int z12885), (5, .int z12882), (0, .ref (g 0)), (1, .int p0), (2, .int p1), (3, .int p2), (4, .int p3)]) hx hb dX12_lacksOf_107 hl (by decide) rfl (fun ls hl => ?_)
      refine lv_iconst (v := 0) hx hb dX12_lacksOf_109 (by decide) ?_
      refine lv_istore (lv' := [(9, .int 0), (8, .int 0), (7, .int 0), (6, .int z12885), (5, .int z12882), (0, .ref (g 0)), (1, .int p0), (2, .int p1), (3, .int p2), (4, .int p3)]) hx hb dX12_lacksOf_110 hl (by decide) rfl (fun ls hl => ?_)
      have lp13229 : ∀ (n : Nat) (x9_lp13229 : Int32) (x7_lp13229 : Int32) (v_lp13229 : Nat → Int32) (F_lp13229 : Nat → Nat → Int32) (H : Heap) (locs : List Loc) (ls : Array Slot), (0 ≤ x9_lp13229.toInt) → (2147483648 - x9_lp13229.toInt ≤ (n : Int)) → (∀ k, k ∉ ([] : List Nat) → v_lp13229 k = v k) → IM v_lp13229 F_lp13229 → (∀ k, k ∉ ([30, 31] : List Nat) → F_lp13229 k = F k) → va_P (dC, dI) classes (wM g c v_lp13229 F_lp13229 rc) H → va_S (AM g s.heap.size) s.heap H locs → lv_has ls 11 [(9, .int x9_lp13229), (8, .int 0), (7, .int x7_lp13229), (6, .int z12885), (5, .int z12882), (0, .ref (g 0)), (1, .int p0), (2, .int p1), (3, .int p2), (4, .int p3)] → W p l e (headSpec (Cond.code yX12_lacksOf cX12_lacksOf 11 (some .int) :: wA) ({ frames := 5, cells := 0, slots := 0, locals := 200 })).room s m ([.ref (g 0), .int p0, .int p1, .int p2, .int p3] : List Value).toArray below meth c0 H locs 0 0 (MQ below (va_Qi (fun (r : Int32) (u : StM) => IM u.1 u.2.1 ∧ u.2.2 = rc ∧ (∀ k, k ∉ ([] : List Nat) → u.1 k = v k) ∧ (∀ k, k ∉ ([30, 31] : List Nat) → u.2.1 k = F k) ∧ True) (BM dC dI g c) (AM g s.heap.size)) ([.ref (g 0), .int p0, .int p1, .int p2, .int p3] : List Value).toArray s 0 0 (AM g s.heap.size)) (F0 m 112 ls []) := by
        intro n
        induction n with
        | zero =>
          intro x9_lp13229 x7_lp13229 v_lp13229 F_lp13229 H locs ls t13230 hm hf_lp13229 hI hF hP hS hl
          exfalso
          have := i32_rng x9_lp13229
          have := i32_rng x7_lp13229
          have hI1 := hI.1
          omega
        | succ n ih_lp13229 =>
          intro x9_lp13229 x7_lp13229 v_lp13229 F_lp13229 H locs ls t13230 hm hf_lp13229 hI hF hP hS hl
          have rx9_lp13229 := i32_rng x9_lp13229
          have rx7_lp13229 := i32_rng x7_lp13229
          refine lv_iload hx hb dX12_lacksOf_112 (lv_at hl 0 rfl) ?_
          refine lv_aload_n hx hb dX12_lacksOf_114 rfl (lv_at hl 5 rfl) ?_
          refine va_get (D := (dC, dI)) (ci := 12) (v := .int (v_lp13229 14)) (C := RX12) (T := TX12) (N := 63) hx hb hwd inA_X12 hown hK hP 0 rfl rfl 14 (by decide) (hwd _ wk_318) (fun _ h9 => h9) rfl dX12_lacksOf_115 ?_
          refine my_top (v := v 14) (hf_lp13229 14 (by decide)) ?_
          have t13231 : 0 ≤ (v 14).toInt ∧ (v 14).toInt ≤ 100 := by have h9 := hI.1 14 _ _ rfl; rw [show v_lp13229 14 = v 14 from hf_lp13229 14 (by decide)] at h9; exact h9
          refine lv_icmp_ge (tgt := 211) hx hb dX12_lacksOf_118 (by decide) (fun c13232 => ?_) (fun c13232 => ?_)
          · skip
            have t13233 := cv_le (a := (v 14).toInt) rfl (b := x9_lp13229.toInt) rfl c13232
            refine lv_iload hx hb dX12_lacksOf_211 (lv_at hl 2 rfl) ?_
            have hP9 : va_P (dC, dI) classes (wM g c v_lp13229 F_lp13229 rc) H := hP
            exact W.iret (v := x7_lp13229) hx hb hr (fun t ht hW => ⟨⟨x7_lp13229, (v_lp13229, F_lp13229, rc), rfl, ⟨hI, rfl, (frC (by decide) hf_lp13229 (fun _ _ => rfl)), hF, trivial⟩, (by show va_P _ _ _ t.heap; rw [ht]; exact hP9)⟩, hS.F ht⟩) hS.2.2 dX12_lacksOf_213
          · skip
            have t13234 := cv_nle (a := (v 14).toInt) rfl (b := x9_lp13229.toInt) rfl c13232
            refine lv_aload_n hx hb dX12_lacksOf_121 rfl (lv_at hl 5 rfl) ?_
            refine va_get (D := (dC, dI)) (ci := 12) (v := .ref (g 42)) (C := RX12) (T := TX12) (N := 63) hx hb hwd inA_X12 hown hK hP 0 rfl rfl 56 (by decide) (hwd _ wk_224) (fun _ h9 => h9) rfl dX12_lacksOf_122 ?_
            refine lv_iload hx hb dX12_lacksOf_125 (lv_at hl 0 rfl) ?_
            refine va_zald hx hb hK hP 42 41 rfl rfl (i := x9_lp13229) (vin (a := x9_lp13229.toInt) rfl (by omega)) dX12_lacksOf_127 ?_
            refine lv_topi (fun z13235 e13236 => ?_)
            have e13236 : z13235 = F 42 (x9_lp13229 : Int32).toNatClampNeg := e13236.trans (congrFun (hF 42 (by decide)) _)
            refine lv_if_eq (tgt := 205) hx hb dX12_lacksOf_128 (by decide) (fun c13237 => ?_) (fun c13237 => ?_)
            · skip
              have t13238 := cv_eq (a := z13235.toInt) rfl (b := 0) (by decide) c13237
              obtain ⟨z13239, e13240⟩ : ∃ y : Int32, y = x9_lp13229 + 1 := ⟨_, rfl⟩
              try (have t13241 := tadd e13240 rfl (b := 1) (by decide) (by omega))
              refine lv_iinc (v := z13239) (lv' := [(9, .int z13239), (8, .int 0), (7, .int x7_lp13229), (6, .int z12885), (5, .int z12882), (0, .ref (g 0)), (1, .int p0), (2, .int p1), (3, .int p2), (4, .int p3)]) hx hb dX12_lacksOf_205 hl (k := 0) rfl (by rw [e13240]; rfl) (by decide) rfl (fun ls hl => ?_)
              refine lv_goto (tgt := 112) hx hb dX12_lacksOf_208 (by decide) ?_
              exact ih_lp13229 z13239 x7_lp13229 v_lp13229 F_lp13229 _ _ _ (by omega) (by omega) hf_lp13229 hI hF hP hS (lv_sub hl [0, 1, 2, 3, 4, 5, 6, 7, 8, 9] rfl)
            · skip
              have t13242 := cv_ne (a := z13235.toInt) rfl (b := 0) (by decide) c13237
              refine lv_aload_n hx hb dX12_lacksOf_131 rfl (lv_at hl 5 rfl) ?_
              refine va_get (D := (dC, dI)) (ci := 12) (v := .ref (g 11)) (C := RX12) (T := TX12) (N := 63) hx hb hwd inA_X12 hown hK hP 0 rfl rfl 15 (by decide) (hwd _ wk_192) (fun _ h9 => h9) rfl dX12_lacksOf_132 ?_
              refine lv_iload hx hb dX12_lacksOf_135 (lv_at hl 0 rfl) ?_
              refine va_iald hx hb hK hP 11 10 rfl rfl (i := x9_lp13229) (vin (a := x9_lp13229.toInt) rfl (by omega)) dX12_lacksOf_137 ?_
              refine lv_topi (fun z13243 e13244 => ?_)
              have t13245 : 0 ≤ z13243.toInt ∧ z13243.toInt ≤ 9 := by rw [e13244]; exact hI.2 11 _ _ rfl _
              have e13244 : z13243 = F 11 (x9_lp13229 : Int32).toNatClampNeg := e13244.trans (congrFun (hF 11 (by decide)) _)
              refine lv_aload_n hx hb dX12_lacksOf_138 rfl (lv_at hl 5 rfl) ?_
              refine va_get (D := (dC, dI)) (ci := 12) (v := .ref (g 39)) (C := RX12) (T := TX12) (N := 63) hx hb hwd inA_X12 hown hK hP 0 rfl rfl 53 (by decide) (hwd _ wk_221) (fun _ h9 => h9) rfl dX12_lacksOf_139 ?_
              refine lv_iload hx hb dX12_lacksOf_142 (lv_at hl 4 rfl) ?_
              refine va_iald hx hb hK hP 39 38 rfl rfl (i := z12882) (vin (a := z12882.toInt) rfl (by omega)) dX12_lacksOf_144 ?_
              refine lv_topi (fun z13246 e13247 => ?_)
              have e13247 : z13246 = F 39 (z12882 : Int32).toNatClampNeg := e13247.trans (congrFun (hF 39 (by decide)) _)
              refine lv_icmp_ne (tgt := 205) hx hb dX12_lacksOf_145 (by decide) (fun c13248 => ?_) (fun c13248 => ?_)
              · skip
                have t13249 := cv_ne (a := z13243.toInt) rfl (b := z13246.toInt) rfl c13248
                obtain ⟨z13250, e13251⟩ : ∃ y : Int32, y = x9_lp13229 + 1 := ⟨_, rfl⟩
                try (have t13252 := tadd e13251 rfl (b := 1) (by decide) (by omega))
                refine lv_iinc (v := z13250) (lv' := [(9, .int z13250), (8, .int 0), (7, .int x7_lp13229), (6, .int z12885), (5, .int z12882), (0, .ref (g 0)), (1, .int p0), (2, .int p1), (3, .int p2), (4, .int p3)]) hx hb dX12_lacksOf_205 hl (k := 0) rfl (by rw [e13251]; rfl) (by decide) rfl (fun ls hl => ?_)
                refine lv_goto (tgt := 112) hx hb dX12_lacksOf_208 (by decide) ?_
                exact ih_lp13229 z13250 x7_lp13229 v_lp13229 F_lp13229 _ _ _ (by omega) (by omega) hf_lp13229 hI hF hP hS (lv_sub hl [0, 1, 2, 3, 4, 5, 6, 7, 8, 9] rfl)
              · skip
                have t13253 := cv_eq (a := z13243.toInt) rfl (b := z13246.toInt) rfl c13248
                refine lv_aload_n hx hb dX12_lacksOf_148 rfl (lv_at hl 5 rfl) ?_
                refine lv_iload hx hb dX12_lacksOf_149 (lv_at hl 0 rfl) ?_
                refine lv_iload hx hb dX12_lacksOf_151 (lv_at hl 1 rfl) ?_
                refine va_calli (va_runV (As := [.int x9_lp13229, .int 0]) (rest := []) ⟨hx, hb, hml, hown, hwd⟩ (c_X12_limitOf l dC dI g c adK adV v_lp13229 F_lp13229 rc H.size x9_lp13229 0 hg hI (by omega) (by have : (0 : Int32).toInt = 0 := (by decide); omega)) (cwV 2 hwd (gV wk_489 wk_486 wk_487 wk_488 wk_5) rfl rfl rfl (by decide +kernel) ⟨Nat.le_of_ble_eq_true rfl, Nat.le_of_ble_eq_true rfl⟩) ⟨PM.blind, va_recv hK hP (ci := 12) (q0 := 0) rfl rfl, fun U hU hW => ⟨rfl, PM.at hK hE hP hS hU hW⟩⟩ rfl rfl hl.1 rfl (lv_room (Nat.le_of_ble_eq_true rfl)) dX12_lacksOf_153 ⟨Nat.le_of_ble_eq_true rfl, Nat.le_of_ble_eq_true rfl⟩) hS (fun q _ h => (freeM hS) q h) (freeM hS) (fun r13254 u t H1 locs ht hvm hw hB hz1 hk1 hS => ?_)
                unfold BM at hB
                rw [ht] at hB
                have hP : va_P (dC, dI) classes (wM g c v_lp13229 F_lp13229 rc) H1 := hB
                replace hw : r13254.toInt = (F_lp13229 1 (limJ (F_lp13229 11) x9_lp13229 (0 : Int32))).toInt := hw
                rw [hF 1 (by decide)] at hw
                rw [hF 11 (by decide)] at hw
                have hw_r13254 := hw
                clear hw
                have k13255 : (0 : Int32).toInt = 0 := by decide
                clear hz1
                generalize H1 = H at hP hS ⊢
                refine lv_if_ne (tgt := 162) hx hb dX12_lacksOf_156 (by decide) (fun c13256 => ?_) (fun c13256 => ?_)
                · skip
                  have t13257 := cv_ne (a := r13254.toInt) rfl (b := 0) (by decide) c13256
                  refine lv_aload_n hx hb dX12_lacksOf_162 rfl (lv_at hl 5 rfl) ?_
                  refine lv_iload hx hb dX12_lacksOf_163 (lv_at hl 0 rfl) ?_
                  refine lv_iload hx hb dX12_lacksOf_165 (lv_at hl 1 rfl) ?_
                  refine lv_iload hx hb dX12_lacksOf_167 (lv_at hl 9 rfl) ?_
                  refine va_calli (va_runV (As := [.int x9_lp13229, .int 0, .int p3]) (rest := []) ⟨hx, hb, hml, hown, hwd⟩ (c_X12_leftOf l dC dI g c adK adV v_lp13229 F_lp13229 rc H.size x9_lp13229 0 p3 hg hI (by omega) (by have : (0 : Int32).toInt = 0 := (by decide); omega) (JL.to hL (show v_lp13229 31 = v 31 from hf_lp13229 31 (by decide)) (hF 28 (by decide)) (hF 29 (by decide)) (hF 27 (by decide)))) (cwV 3 hwd (gV wk_493 wk_490 wk_491 wk_492 wk_5) rfl rfl rfl (by decide +kernel) ⟨Nat.le_of_ble_eq_true rfl, Nat.le_of_ble_eq_true rfl⟩) ⟨PM.blind, va_recv hK hP (ci := 12) (q0 := 0) rfl rfl, fun U hU hW => ⟨rfl, PM.at hK hE hP hS hU hW⟩⟩ rfl rfl hl.1 rfl (lv_room (Nat.le_of_ble_eq_true rfl)) dX12_lacksOf_169 ⟨Nat.le_of_ble_eq_true rfl, Nat.le_of_ble_eq_true rfl⟩) hS (fun q _ h => (freeM hS) q h) (freeM hS) (fun r13258 u t H1 locs ht hvm hw hB hz1 hk1 hS => ?_)
                  unfold BM at hB
                  rw [ht] at hB
                  obtain ⟨v13259, F13260, rc9⟩ := u
                  obtain ⟨hI, hrc, hf13261, hG13262, hw⟩ := hw
                  dsimp only at hI hrc hB hf13261 hG13262 hw
                  have hF := frCF (by decide) hG13262 hF
                  rw [hrc] at hB
                  have hP : va_P (dC, dI) classes (wM g c v13259 F13260 rc) H1 := hB
                  clear hz1
                  generalize H1 = H at hP hS ⊢
                  have rr_r13258 := i32_rng r13258
                  refine lv_istore (lv' := [(10, .int r13258), (9, .int x9_lp13229), (8, .int 0), (7, .int x7_lp13229), (6, .int z12885), (5, .int z12882), (0, .ref (g 0)), (1, .int p0), (2, .int p1), (3, .int p2), (4, .int p3)]) hx hb dX12_lacksOf_172 hl (by decide) rfl (fun ls hl => ?_)
                  refine lv_iload hx hb dX12_lacksOf_174 (lv_at hl 3 rfl) ?_
                  refine lv_iload hx hb dX12_lacksOf_176 (lv_at hl 0 rfl) ?_
                  refine lv_aload_n hx hb dX12_lacksOf_178 rfl (lv_at hl 6 rfl) ?_
                  refine va_get (D := (dC, dI)) (ci := 12) (v := .ref (g 40)) (C := RX12) (T := TX12) (N := 63) hx hb hwd inA_X12 hown hK hP 0 rfl rfl 54 (by decide) (hwd _ wk_222) (fun _ h9 => h9) rfl dX12_lacksOf_179 ?_
                  refine lv_iload hx hb dX12_lacksOf_182 (lv_at hl 5 rfl) ?_
                  refine va_iald hx hb hK hP 40 39 rfl rfl (i := z12882) (vin (a := z12882.toInt) rfl (by omega)) dX12_lacksOf_184 ?_
                  refine lv_topi (fun z13263 e13264 => ?_)
                  have e13264 : z13263 = F 40 (z12882 : Int32).toNatClampNeg := e13264.trans (congrFun (hF 40 (by decide)) _)
                  refine lv_icmp_ge (tgt := 201) hx hb dX12_lacksOf_185 (by decide) (fun c13265 => ?_) (fun c13265 => ?_)
                  · skip
                    have t13266 := cv_le (a := z13263.toInt) rfl (b := r13258.toInt) rfl c13265
                    refine lv_iconst (v := 0) hx hb dX12_lacksOf_201 (by decide) ?_
                    refine lv_iadd hx hb dX12_lacksOf_202 ?_
                    refine lv_topi (fun z13267 e13268 => ?_)
                    try (have t13269 := tadd e13268 (a := x7_lp13229.toInt) rfl (b := 0) (by decide) (by omega))
                    refine lv_istore (lv' := [(7, .int z13267), (10, .int r13258), (9, .int x9_lp13229), (8, .int 0), (6, .int z12885), (5, .int z12882), (0, .ref (g 0)), (1, .int p0), (2, .int p1), (3, .int p2), (4, .int p3)]) hx hb dX12_lacksOf_203 hl (by decide) rfl (fun ls hl => ?_)
                    obtain ⟨z13270, e13271⟩ : ∃ y : Int32, y = x9_lp13229 + 1 := ⟨_, rfl⟩
                    try (have t13272 := tadd e13271 rfl (b := 1) (by decide) (by omega))
                    refine lv_iinc (v := z13270) (lv' := [(9, .int z13270), (7, .int z13267), (10, .int r13258), (8, .int 0), (6, .int z12885), (5, .int z12882), (0, .ref (g 0)), (1, .int p0), (2, .int p1), (3, .int p2), (4, .int p3)]) hx hb dX12_lacksOf_205 hl (k := 2) rfl (by rw [e13271]; rfl) (by decide) rfl (fun ls hl => ?_)
                    refine lv_goto (tgt := 112) hx hb dX12_lacksOf_208 (by decide) ?_
                    exact ih_lp13229 z13270 z13267 v13259 F13260 _ _ _ (by omega) (by omega) (frC (by decide) hf13261 hf_lp13229) hI hF hP hS (lv_sub hl [0, 3, 1, 4, 5, 6, 7, 8, 9, 10] rfl)
                  · skip
                    have t13273 := cv_nle (a := z13263.toInt) rfl (b := r13258.toInt) rfl c13265
                    refine lv_aload_n hx hb dX12_lacksOf_188 rfl (lv_at hl 6 rfl) ?_
                    refine va_get (D := (dC, dI)) (ci := 12) (v := .ref (g 40)) (C := RX12) (T := TX12) (N := 63) hx hb hwd inA_X12 hown hK hP 0 rfl rfl 54 (by decide) (hwd _ wk_222) (fun _ h9 => h9) rfl dX12_lacksOf_189 ?_
                    refine lv_iload hx hb dX12_lacksOf_192 (lv_at hl 5 rfl) ?_
                    refine va_iald hx hb hK hP 40 39 rfl rfl (i := z12882) (vin (a := z12882.toInt) rfl (by omega)) dX12_lacksOf_194 ?_
                    refine lv_topi (fun z13274 e13275 => ?_)
                    have e13275 : z13274 = F 40 (z12882 : Int32).toNatClampNeg := e13275.trans (congrFun (hF 40 (by decide)) _)
                    refine lv_iload hx hb dX12_lacksOf_195 (lv_at hl 0 rfl) ?_
                    refine lv_isub hx hb dX12_lacksOf_197 ?_
                    refine lv_topi (fun z13276 e13277 => ?_)
                    try (have t13278 := tsub e13277 (a := z13274.toInt) rfl (b := r13258.toInt) rfl (by omega))
                    refine lv_goto (tgt := 202) hx hb dX12_lacksOf_198 (by decide) ?_
                    refine lv_iadd hx hb dX12_lacksOf_202 ?_
                    refine lv_topi (fun z13279 e13280 => ?_)
                    try (have t13281 := tadd e13280 (a := x7_lp13229.toInt) rfl (b := z13276.toInt) rfl (by omega))
                    refine lv_istore (lv' := [(7, .int z13279), (10, .int r13258), (9, .int x9_lp13229), (8, .int 0), (6, .int z12885), (5, .int z12882), (0, .ref (g 0)), (1, .int p0), (2, .int p1), (3, .int p2), (4, .int p3)]) hx hb dX12_lacksOf_203 hl (by decide) rfl (fun ls hl => ?_)
                    obtain ⟨z13282, e13283⟩ : ∃ y : Int32, y = x9_lp13229 + 1 := ⟨_, rfl⟩
                    try (have t13284 := tadd e13283 rfl (b := 1) (by decide) (by omega))
                    refine lv_iinc (v := z13282) (lv' := [(9, .int z13282), (7, .int z13279), (10, .int r13258), (8, .int 0), (6, .int z12885), (5, .int z12882), (0, .ref (g 0)), (1, .int p0), (2, .int p1), (3, .int p2), (4, .int p3)]) hx hb dX12_lacksOf_205 hl (k := 2) rfl (by rw [e13283]; rfl) (by decide) rfl (fun ls hl => ?_)
                    refine lv_goto (tgt := 112) hx hb dX12_lacksOf_208 (by decide) ?_
                    exact ih_lp13229 z13282 z13279 v13259 F13260 _ _ _ (by omega) (by omega) (frC (by decide) hf13261 hf_lp13229) hI hF hP hS (lv_sub hl [0, 3, 1, 4, 5, 6, 7, 8, 9, 10] rfl)
                · skip
                  have t13285 := cv_eq (a := r13254.toInt) rfl (b := 0) (by decide) c13256
                  refine lv_goto (tgt := 205) hx hb dX12_lacksOf_159 (by decide) ?_
                  obtain ⟨z13286, e13287⟩ : ∃ y : Int32, y = x9_lp13229 + 1 := ⟨_, rfl⟩
                  try (have t13288 := tadd e13287 rfl (b := 1) (by decide) (by omega))
                  refine lv_iinc (v := z13286) (lv' := [(9, .int z13286), (8, .int 0), (7, .int x7_lp13229), (6, .int z12885), (5, .int z12882), (0, .ref (g 0)), (1, .int p0), (2, .int p1), (3, .int p2), (4, .int p3)]) hx hb dX12_lacksOf_205 hl (k := 0) rfl (by rw [e13287]; rfl) (by decide) rfl (fun ls hl => ?_)
                  refine lv_goto (tgt := 112) hx hb dX12_lacksOf_208 (by decide) ?_
                  exact ih_lp13229 z13286 x7_lp13229 v_lp13229 F_lp13229 _ _ _ (by omega) (by omega) hf_lp13229 hI hF hP hS (lv_sub hl [0, 1, 2, 3, 4, 5, 6, 7, 8, 9] rfl)
      obtain ⟨n9, hn9⟩ : ∃ n : Nat, 2147483648 - 0 ≤ (n : Int) := ⟨((2147483648 - 0 : Int)).toNat, by omega⟩
      exact lp13229 n9 0 0 v F H _ ls (by have : (0 : Int32).toInt = 0 := (by decide); have : (0 : Int32).toInt = 0 := (by decide); omega) (by have : (0 : Int32).toInt = 0 := (by decide); have : (0 : Int32).toInt = 0 := (by decide); omega) (fun _ _ => rfl) hI hF hP hS hl
  · refine lv_tableIn (off := 409) (tgt := 431) hx hb dX12_lacksOf_22 hlo12887 hhi12888 (by rw [hk]; decide) (by decide) ?_
    refine lv_aload_n hx hb dX12_lacksOf_431 rfl (lv_at hl 3 rfl) ?_
    refine lv_iload_n hx hb dX12_lacksOf_432 rfl (lv_at hl 4 rfl) ?_
    refine lv_iload_n hx hb dX12_lacksOf_433 rfl (lv_at hl 6 rfl) ?_
    refine va_calli (va_runV (As := [.int p0, .int p2]) (rest := []) ⟨hx, hb, hml, hown, hwd⟩ (c_X12_late l dC dI g c adK adV v F rc H.size p0 p2 hg hI (by omega)) (cwV 2 hwd (gV wk_1213 wk_1210 wk_1211 wk_1212 wk_5) rfl rfl rfl (by decide +kernel) ⟨Nat.le_of_ble_eq_true rfl, Nat.le_of_ble_eq_true rfl⟩) ⟨PM.blind, va_recv hK hP (ci := 12) (q0 := 0) rfl rfl, fun U hU hW => ⟨rfl, PM.at hK hE hP hS hU hW⟩⟩ rfl rfl hl.1 rfl (lv_room (Nat.le_of_ble_eq_true rfl)) dX12_lacksOf_434 ⟨Nat.le_of_ble_eq_true rfl, Nat.le_of_ble_eq_true rfl⟩) hS (fun q _ h => (freeM hS) q h) (freeM hS) (fun r13289 u t H1 locs ht hvm hw hB hz1 hk1 hS => ?_)
    unfold BM at hB
    rw [ht] at hB
    have hP : va_P (dC, dI) classes (wM g c v F rc) H1 := hB
    clear hz1
    generalize H1 = H at hP hS ⊢
    have rr_r13289 := i32_rng r13289
    have hP9 : va_P (dC, dI) classes (wM g c v F rc) H := hP
    exact W.iret (v := r13289) hx hb hr (fun t ht hW => ⟨⟨r13289, (v, F, rc), rfl, ⟨hI, rfl, (fun _ _ => rfl), hF, trivial⟩, (by show va_P _ _ _ t.heap; rw [ht]; exact hP9)⟩, hS.F ht⟩) hS.2.2 dX12_lacksOf_437
  · refine lv_tableIn (off := 409) (tgt := 431) hx hb dX12_lacksOf_22 hlo12887 hhi12888 (by rw [hk]; decide) (by decide) ?_
    refine lv_aload_n hx hb dX12_lacksOf_431 rfl (lv_at hl 3 rfl) ?_
    refine lv_iload_n hx hb dX12_lacksOf_432 rfl (lv_at hl 4 rfl) ?_
    refine lv_iload_n hx hb dX12_lacksOf_433 rfl (lv_at hl 6 rfl) ?_
    refine va_calli (va_runV (As := [.int p0, .int p2]) (rest := []) ⟨hx, hb, hml, hown, hwd⟩ (c_X12_late l dC dI g c adK adV v F rc H.size p0 p2 hg hI (by omega)) (cwV 2 hwd (gV wk_1213 wk_1210 wk_1211 wk_1212 wk_5) rfl rfl rfl (by decide +kernel) ⟨Nat.le_of_ble_eq_true rfl, Nat.le_of_ble_eq_true rfl⟩) ⟨PM.blind, va_recv hK hP (ci := 12) (q0 := 0) rfl rfl, fun U hU hW => ⟨rfl, PM.at hK hE hP hS hU hW⟩⟩ rfl rfl hl.1 rfl (lv_room (Nat.le_of_ble_eq_true rfl)) dX12_lacksOf_434 ⟨Nat.le_of_ble_eq_true rfl, Nat.le_of_ble_eq_true rfl⟩) hS (fun q _ h => (freeM hS) q h) (freeM hS) (fun r13290 u t H1 locs ht hvm hw hB hz1 hk1 hS => ?_)
    unfold BM at hB
    rw [ht] at hB
    have hP : va_P (dC, dI) classes (wM g c v F rc) H1 := hB
    clear hz1
    generalize H1 = H at hP hS ⊢
    have rr_r13290 := i32_rng r13290
    have hP9 : va_P (dC, dI) classes (wM g c v F rc) H := hP
    exact W.iret (v := r13290) hx hb hr (fun t ht hW => ⟨⟨r13290, (v, F, rc), rfl, ⟨hI, rfl, (fun _ _ => rfl), hF, trivial⟩, (by show va_P _ _ _ t.heap; rw [ht]; exact hP9)⟩, hS.F ht⟩) hS.2.2 dX12_lacksOf_437
  · refine lv_tableIn (off := 409) (tgt := 431) hx hb dX12_lacksOf_22 hlo12887 hhi12888 (by rw [hk]; decide) (by decide) ?_
    refine lv_aload_n hx hb dX12_lacksOf_431 rfl (lv_at hl 3 rfl) ?_
    refine lv_iload_n hx hb dX12_lacksOf_432 rfl (lv_at hl 4 rfl) ?_
    refine lv_iload_n hx hb dX12_lacksOf_433 rfl (lv_at hl 6 rfl) ?_
    refine va_calli (va_runV (As := [.int p0, .int p2]) (rest := []) ⟨hx, hb, hml, hown, hwd⟩ (c_X12_late l dC dI g c adK adV v F rc H.size p0 p2 hg hI (by omega)) (cwV 2 hwd (gV wk_1213 wk_1210 wk_1211 wk_1212 wk_5) rfl rfl rfl (by decide +kernel) ⟨Nat.le_of_ble_eq_true rfl, Nat.le_of_ble_eq_true rfl⟩) ⟨PM.blind, va_recv hK hP (ci := 12) (q0 := 0) rfl rfl, fun U hU hW => ⟨rfl, PM.at hK hE hP hS hU hW⟩⟩ rfl rfl hl.1 rfl (lv_room (Nat.le_of_ble_eq_true rfl)) dX12_lacksOf_434 ⟨Nat.le_of_ble_eq_true rfl, Nat.le_of_ble_eq_true rfl⟩) hS (fun q _ h => (freeM hS) q h) (freeM hS) (fun r13291 u t H1 locs ht hvm hw hB hz1 hk1 hS => ?_)
    unfold BM at hB
    rw [ht] at hB
    have hP : va_P (dC, dI) classes (wM g c v F rc) H1 := hB
    clear hz1
    generalize H1 = H at hP hS ⊢
    have rr_r13291 := i32_rng r13291
    have hP9 : va_P (dC, dI) classes (wM g c v F rc) H := hP
    exact W.iret (v := r13291) hx hb hr (fun t ht hW => ⟨⟨r13291, (v, F, rc), rfl, ⟨hI, rfl, (fun _ _ => rfl), hF, trivial⟩, (by show va_P _ _ _ t.heap; rw [ht]; exact hP9)⟩, hS.F ht⟩) hS.2.2 dX12_lacksOf_437
  · refine lv_tableIn (off := 62) (tgt := 84) hx hb dX12_lacksOf_22 hlo12887 hhi12888 (by rw [hk]; decide) (by decide) ?_
    refine lv_iload hx hb dX12_lacksOf_84 (lv_at hl 1 rfl) ?_
    refine lv_bipush (v := 104) hx hb dX12_lacksOf_86 (by decide) ?_
    refine lv_icmp_ne (tgt := 95) hx hb dX12_lacksOf_88 (by decide) (fun c13292 => ?_) (fun c13292 => ?_)
    · skip
      have t13293 := cv_ne (a := z12885.toInt) rfl (b := 104) (by decide) c13292
      refine lv_iload hx hb dX12_lacksOf_95 (lv_at hl 1 rfl) ?_
      refine lv_bipush (v := 108) hx hb dX12_lacksOf_97 (by decide) ?_
      refine lv_icmp_ne (tgt := 106) hx hb dX12_lacksOf_99 (by decide) (fun c13294 => ?_) (fun c13294 => ?_)
      · skip
        have t13295 := cv_ne (a := z12885.toInt) rfl (b := 108) (by decide) c13294
        refine lv_iconst (v := 2) hx hb dX12_lacksOf_106 (by decide) ?_
        refine lv_istore (lv' := [(8, .int 2), (7, .int 0), (6, .int z12885), (5, .int z12882), (0, .ref (g 0)), (1, .int p0), (2, .int p1), (3, .int p2), (4, .int p3)]) hx hb dX12_lacksOf_107 hl (by decide) rfl (fun ls hl => ?_)
        refine lv_iconst (v := 0) hx hb dX12_lacksOf_109 (by decide) ?_
        refine lv_istore (lv' := [(9, .int 0), (8, .int 2), (7, .int 0), (6, .int z12885), (5, .int z12882), (0, .ref (g 0)), (1, .int p0), (2, .int p1), (3, .int p2), (4, .int p3)]) hx hb dX12_lacksOf_110 hl (by decide) rfl (fun ls hl => ?_)
        have lp13296 : ∀ (n : Nat) (x9_lp13296 : Int32) (x7_lp13296 : Int32) (v_lp13296 : Nat → Int32) (F_lp13296 : Nat → Nat → Int32) (H : Heap) (locs : List Loc) (ls : Array Slot), (0 ≤ x9_lp13296.toInt) → (2147483648 - x9_lp13296.toInt ≤ (n : Int)) → (∀ k, k ∉ ([] : List Nat) → v_lp13296 k = v k) → IM v_lp13296 F_lp13296 → (∀ k, k ∉ ([30, 31] : List Nat) → F_lp13296 k = F k) → va_P (dC, dI) classes (wM g c v_lp13296 F_lp13296 rc) H → va_S (AM g s.heap.size) s.heap H locs → lv_has ls 11 [(9, .int x9_lp13296), (8, .int 2), (7, .int x7_lp13296), (6, .int z12885), (5, .int z12882), (0, .ref (g 0)), (1, .int p0), (2, .int p1), (3, .int p2), (4, .int p3)] → W p l e (headSpec (Cond.code yX12_lacksOf cX12_lacksOf 11 (some .int) :: wA) ({ frames := 5, cells := 0, slots := 0, locals := 200 })).room s m ([.ref (g 0), .int p0, .int p1, .int p2, .int p3] : List Value).toArray below meth c0 H locs 0 0 (MQ below (va_Qi (fun (r : Int32) (u : StM) => IM u.1 u.2.1 ∧ u.2.2 = rc ∧ (∀ k, k ∉ ([] : List Nat) → u.1 k = v k) ∧ (∀ k, k ∉ ([30, 31] : List Nat) → u.2.1 k = F k) ∧ True) (BM dC dI g c) (AM g s.heap.size)) ([.ref (g 0), .int p0, .int p1, .int p2, .int p3] : List Value).toArray s 0 0 (AM g s.heap.size)) (F0 m 112 ls []) := by
          intro n
          induction n with
          | zero =>
            intro x9_lp13296 x7_lp13296 v_lp13296 F_lp13296 H locs ls t13297 hm hf_lp13296 hI hF hP hS hl
            exfalso
            have := i32_rng x9_lp13296
            have := i32_rng x7_lp13296
            have hI1 := hI.1
            omega
          | succ n ih_lp13296 =>
            intro x9_lp13296 x7_lp13296 v_lp13296 F_lp13296 H locs ls t13297 hm hf_lp13296 hI hF hP hS hl
            have rx9_lp13296 := i32_rng x9_lp13296
            have rx7_lp13296 := i32_rng x7_lp13296
            refine lv_iload hx hb dX12_lacksOf_112 (lv_at hl 0 rfl) ?_
            refine lv_aload_n hx hb dX12_lacksOf_114 rfl (lv_at hl 5 rfl) ?_
            refine va_get (D := (dC, dI)) (ci := 12) (v := .int (v_lp13296 14)) (C := RX12) (T := TX12) (N := 63) hx hb hwd inA_X12 hown hK hP 0 rfl rfl 14 (by decide) (hwd _ wk_318) (fun _ h9 => h9) rfl dX12_lacksOf_115 ?_
            refine my_top (v := v 14) (hf_lp13296 14 (by decide)) ?_
            have t13298 : 0 ≤ (v 14).toInt ∧ (v 14).toInt ≤ 100 := by have h9 := hI.1 14 _ _ rfl; rw [show v_lp13296 14 = v 14 from hf_lp13296 14 (by decide)] at h9; exact h9
            refine lv_icmp_ge (tgt := 211) hx hb dX12_lacksOf_118 (by decide) (fun c13299 => ?_) (fun c13299 => ?_)
            · skip
              have t13300 := cv_le (a := (v 14).toInt) rfl (b := x9_lp13296.toInt) rfl c13299
              refine lv_iload hx hb dX12_lacksOf_211 (lv_at hl 2 rfl) ?_
              have hP9 : va_P (dC, dI) classes (wM g c v_lp13296 F_lp13296 rc) H := hP
              exact W.iret (v := x7_lp13296) hx hb hr (fun t ht hW => ⟨⟨x7_lp13296, (v_lp13296, F_lp13296, rc), rfl, ⟨hI, rfl, (frC (by decide) hf_lp13296 (fun _ _ => rfl)), hF, trivial⟩, (by show va_P _ _ _ t.heap; rw [ht]; exact hP9)⟩, hS.F ht⟩) hS.2.2 dX12_lacksOf_213
            · skip
              have t13301 := cv_nle (a := (v 14).toInt) rfl (b := x9_lp13296.toInt) rfl c13299
              refine lv_aload_n hx hb dX12_lacksOf_121 rfl (lv_at hl 5 rfl) ?_
              refine va_get (D := (dC, dI)) (ci := 12) (v := .ref (g 42)) (C := RX12) (T := TX12) (N := 63) hx hb hwd inA_X12 hown hK hP 0 rfl rfl 56 (by decide) (hwd _ wk_224) (fun _ h9 => h9) rfl dX12_lacksOf_122 ?_
              refine lv_iload hx hb dX12_lacksOf_125 (lv_at hl 0 rfl) ?_
              refine va_zald hx hb hK hP 42 41 rfl rfl (i := x9_lp13296) (vin (a := x9_lp13296.toInt) rfl (by omega)) dX12_lacksOf_127 ?_
              refine lv_topi (fun z13302 e13303 => ?_)
              have e13303 : z13302 = F 42 (x9_lp13296 : Int32).toNatClampNeg := e13303.trans (congrFun (hF 42 (by decide)) _)
              refine lv_if_eq (tgt := 205) hx hb dX12_lacksOf_128 (by decide) (fun c13304 => ?_) (fun c13304 => ?_)
              · skip
                have t13305 := cv_eq (a := z13302.toInt) rfl (b := 0) (by decide) c13304
                obtain ⟨z13306, e13307⟩ : ∃ y : Int32, y = x9_lp13296 + 1 := ⟨_, rfl⟩
                try (have t13308 := tadd e13307 rfl (b := 1) (by decide) (by omega))
                refine lv_iinc (v := z13306) (lv' := [(9, .int z13306), (8, .int 2), (7, .int x7_lp13296), (6, .int z12885), (5, .int z12882), (0, .ref (g 0)), (1, .int p0), (2, .int p1), (3, .int p2), (4, .int p3)]) hx hb dX12_lacksOf_205 hl (k := 0) rfl (by rw [e13307]; rfl) (by decide) rfl (fun ls hl => ?_)
                refine lv_goto (tgt := 112) hx hb dX12_lacksOf_208 (by decide) ?_
                exact ih_lp13296 z13306 x7_lp13296 v_lp13296 F_lp13296 _ _ _ (by omega) (by omega) hf_lp13296 hI hF hP hS (lv_sub hl [0, 1, 2, 3, 4, 5, 6, 7, 8, 9] rfl)
              · skip
                have t13309 := cv_ne (a := z13302.toInt) rfl (b := 0) (by decide) c13304
                refine lv_aload_n hx hb dX12_lacksOf_131 rfl (lv_at hl 5 rfl) ?_
                refine va_get (D := (dC, dI)) (ci := 12) (v := .ref (g 11)) (C := RX12) (T := TX12) (N := 63) hx hb hwd inA_X12 hown hK hP 0 rfl rfl 15 (by decide) (hwd _ wk_192) (fun _ h9 => h9) rfl dX12_lacksOf_132 ?_
                refine lv_iload hx hb dX12_lacksOf_135 (lv_at hl 0 rfl) ?_
                refine va_iald hx hb hK hP 11 10 rfl rfl (i := x9_lp13296) (vin (a := x9_lp13296.toInt) rfl (by omega)) dX12_lacksOf_137 ?_
                refine lv_topi (fun z13310 e13311 => ?_)
                have t13312 : 0 ≤ z13310.toInt ∧ z13310.toInt ≤ 9 := by rw [e13311]; exact hI.2 11 _ _ rfl _
                have e13311 : z13310 = F 11 (x9_lp13296 : Int32).toNatClampNeg := e13311.trans (congrFun (hF 11 (by decide)) _)
                refine lv_aload_n hx hb dX12_lacksOf_138 rfl (lv_at hl 5 rfl) ?_
                refine va_get (D := (dC, dI)) (ci := 12) (v := .ref (g 39)) (C := RX12) (T := TX12) (N := 63) hx hb hwd inA_X12 hown hK hP 0 rfl rfl 53 (by decide) (hwd _ wk_221) (fun _ h9 => h9) rfl dX12_lacksOf_139 ?_
                refine lv_iload hx hb dX12_lacksOf_142 (lv_at hl 4 rfl) ?_
                refine va_iald hx hb hK hP 39 38 rfl rfl (i := z12882) (vin (a := z12882.toInt) rfl (by omega)) dX12_lacksOf_144 ?_
                refine lv_topi (fun z13313 e13314 => ?_)
                have e13314 : z13313 = F 39 (z12882 : Int32).toNatClampNeg := e13314.trans (congrFun (hF 39 (by decide)) _)
                refine lv_icmp_ne (tgt := 205) hx hb dX12_lacksOf_145 (by decide) (fun c13315 => ?_) (fun c13315 => ?_)
                · skip
                  have t13316 := cv_ne (a := z13310.toInt) rfl (b := z13313.toInt) rfl c13315
                  obtain ⟨z13317, e13318⟩ : ∃ y : Int32, y = x9_lp13296 + 1 := ⟨_, rfl⟩
                  try (have t13319 := tadd e13318 rfl (b := 1) (by decide) (by omega))
                  refine lv_iinc (v := z13317) (lv' := [(9, .int z13317), (8, .int 2), (7, .int x7_lp13296), (6, .int z12885), (5, .int z12882), (0, .ref (g 0)), (1, .int p0), (2, .int p1), (3, .int p2), (4, .int p3)]) hx hb dX12_lacksOf_205 hl (k := 0) rfl (by rw [e13318]; rfl) (by decide) rfl (fun ls hl => ?_)
                  refine lv_goto (tgt := 112) hx hb dX12_lacksOf_208 (by decide) ?_
                  exact ih_lp13296 z13317 x7_lp13296 v_lp13296 F_lp13296 _ _ _ (by omega) (by omega) hf_lp13296 hI hF hP hS (lv_sub hl [0, 1, 2, 3, 4, 5, 6, 7, 8, 9] rfl)
                · skip
                  have t13320 := cv_eq (a := z13310.toInt) rfl (b := z13313.toInt) rfl c13315
                  refine lv_aload_n hx hb dX12_lacksOf_148 rfl (lv_at hl 5 rfl) ?_
                  refine lv_iload hx hb dX12_lacksOf_149 (lv_at hl 0 rfl) ?_
                  refine lv_iload hx hb dX12_lacksOf_151 (lv_at hl 1 rfl) ?_
                  refine va_calli (va_runV (As := [.int x9_lp13296, .int 2]) (rest := []) ⟨hx, hb, hml, hown, hwd⟩ (c_X12_limitOf l dC dI g c adK adV v_lp13296 F_lp13296 rc H.size x9_lp13296 2 hg hI (by omega) (by have : (2 : Int32).toInt = 2 := (by decide); omega)) (cwV 2 hwd (gV wk_489 wk_486 wk_487 wk_488 wk_5) rfl rfl rfl (by decide +kernel) ⟨Nat.le_of_ble_eq_true rfl, Nat.le_of_ble_eq_true rfl⟩) ⟨PM.blind, va_recv hK hP (ci := 12) (q0 := 0) rfl rfl, fun U hU hW => ⟨rfl, PM.at hK hE hP hS hU hW⟩⟩ rfl rfl hl.1 rfl (lv_room (Nat.le_of_ble_eq_true rfl)) dX12_lacksOf_153 ⟨Nat.le_of_ble_eq_true rfl, Nat.le_of_ble_eq_true rfl⟩) hS (fun q _ h => (freeM hS) q h) (freeM hS) (fun r13321 u t H1 locs ht hvm hw hB hz1 hk1 hS => ?_)
                  unfold BM at hB
                  rw [ht] at hB
                  have hP : va_P (dC, dI) classes (wM g c v_lp13296 F_lp13296 rc) H1 := hB
                  replace hw : r13321.toInt = (F_lp13296 1 (limJ (F_lp13296 11) x9_lp13296 (2 : Int32))).toInt := hw
                  rw [hF 1 (by decide)] at hw
                  rw [hF 11 (by decide)] at hw
                  have hw_r13321 := hw
                  clear hw
                  have k13322 : (2 : Int32).toInt = 2 := by decide
                  clear hz1
                  generalize H1 = H at hP hS ⊢
                  refine lv_if_ne (tgt := 162) hx hb dX12_lacksOf_156 (by decide) (fun c13323 => ?_) (fun c13323 => ?_)
                  · skip
                    have t13324 := cv_ne (a := r13321.toInt) rfl (b := 0) (by decide) c13323
                    refine lv_aload_n hx hb dX12_lacksOf_162 rfl (lv_at hl 5 rfl) ?_
                    refine lv_iload hx hb dX12_lacksOf_163 (lv_at hl 0 rfl) ?_
                    refine lv_iload hx hb dX12_lacksOf_165 (lv_at hl 1 rfl) ?_
                    refine lv_iload hx hb dX12_lacksOf_167 (lv_at hl 9 rfl) ?_
                    refine va_calli (va_runV (As := [.int x9_lp13296, .int 2, .int p3]) (rest := []) ⟨hx, hb, hml, hown, hwd⟩ (c_X12_leftOf l dC dI g c adK adV v_lp13296 F_lp13296 rc H.size x9_lp13296 2 p3 hg hI (by omega) (by have : (2 : Int32).toInt = 2 := (by decide); omega) (JL.to hL (show v_lp13296 31 = v 31 from hf_lp13296 31 (by decide)) (hF 28 (by decide)) (hF 29 (by decide)) (hF 27 (by decide)))) (cwV 3 hwd (gV wk_493 wk_490 wk_491 wk_492 wk_5) rfl rfl rfl (by decide +kernel) ⟨Nat.le_of_ble_eq_true rfl, Nat.le_of_ble_eq_true rfl⟩) ⟨PM.blind, va_recv hK hP (ci := 12) (q0 := 0) rfl rfl, fun U hU hW => ⟨rfl, PM.at hK hE hP hS hU hW⟩⟩ rfl rfl hl.1 rfl (lv_room (Nat.le_of_ble_eq_true rfl)) dX12_lacksOf_169 ⟨Nat.le_of_ble_eq_true rfl, Nat.le_of_ble_eq_true rfl⟩) hS (fun q _ h => (freeM hS) q h) (freeM hS) (fun r13325 u t H1 locs ht hvm hw hB hz1 hk1 hS => ?_)
                    unfold BM at hB
                    rw [ht] at hB
                    obtain ⟨v13326, F13327, rc9⟩ := u
                    obtain ⟨hI, hrc, hf13328, hG13329, hw⟩ := hw
                    dsimp only at hI hrc hB hf13328 hG13329 hw
                    have hF := frCF (by decide) hG13329 hF
                    rw [hrc] at hB
                    have hP : va_P (dC, dI) classes (wM g c v13326 F13327 rc) H1 := hB
                    clear hz1
                    generalize H1 = H at hP hS ⊢
                    have rr_r13325 := i32_rng r13325
                    refine lv_istore (lv' := [(10, .int r13325), (9, .int x9_lp13296), (8, .int 2), (7, .int x7_lp13296), (6, .int z12885), (5, .int z12882), (0, .ref (g 0)), (1, .int p0), (2, .int p1), (3, .int p2), (4, .int p3)]) hx hb dX12_lacksOf_172 hl (by decide) rfl (fun ls hl => ?_)
                    refine lv_iload hx hb dX12_lacksOf_174 (lv_at hl 3 rfl) ?_
                    refine lv_iload hx hb dX12_lacksOf_176 (lv_at hl 0 rfl) ?_
                    refine lv_aload_n hx hb dX12_lacksOf_178 rfl (lv_at hl 6 rfl) ?_
                    refine va_get (D := (dC, dI)) (ci := 12) (v := .ref (g 40)) (C := RX12) (T := TX12) (N := 63) hx hb hwd inA_X12 hown hK hP 0 rfl rfl 54 (by decide) (hwd _ wk_222) (fun _ h9 => h9) rfl dX12_lacksOf_179 ?_
                    refine lv_iload hx hb dX12_lacksOf_182 (lv_at hl 5 rfl) ?_
                    refine va_iald hx hb hK hP 40 39 rfl rfl (i := z12882) (vin (a := z12882.toInt) rfl (by omega)) dX12_lacksOf_184 ?_
                    refine lv_topi (fun z13330 e13331 => ?_)
                    have e13331 : z13330 = F 40 (z12882 : Int32).toNatClampNeg := e13331.trans (congrFun (hF 40 (by decide)) _)
                    refine lv_icmp_ge (tgt := 201) hx hb dX12_lacksOf_185 (by decide) (fun c13332 => ?_) (fun c13332 => ?_)
                    · skip
                      have t13333 := cv_le (a := z13330.toInt) rfl (b := r13325.toInt) rfl c13332
                      refine lv_iconst (v := 0) hx hb dX12_lacksOf_201 (by decide) ?_
                      refine lv_iadd hx hb dX12_lacksOf_202 ?_
                      refine lv_topi (fun z13334 e13335 => ?_)
                      try (have t13336 := tadd e13335 (a := x7_lp13296.toInt) rfl (b := 0) (by decide) (by omega))
                      refine lv_istore (lv' := [(7, .int z13334), (10, .int r13325), (9, .int x9_lp13296), (8, .int 2), (6, .int z12885), (5, .int z12882), (0, .ref (g 0)), (1, .int p0), (2, .int p1), (3, .int p2), (4, .int p3)]) hx hb dX12_lacksOf_203 hl (by decide) rfl (fun ls hl => ?_)
                      obtain ⟨z13337, e13338⟩ : ∃ y : Int32, y = x9_lp13296 + 1 := ⟨_, rfl⟩
                      try (have t13339 := tadd e13338 rfl (b := 1) (by decide) (by omega))
                      refine lv_iinc (v := z13337) (lv' := [(9, .int z13337), (7, .int z13334), (10, .int r13325), (8, .int 2), (6, .int z12885), (5, .int z12882), (0, .ref (g 0)), (1, .int p0), (2, .int p1), (3, .int p2), (4, .int p3)]) hx hb dX12_lacksOf_205 hl (k := 2) rfl (by rw [e13338]; rfl) (by decide) rfl (fun ls hl => ?_)
                      refine lv_goto (tgt := 112) hx hb dX12_lacksOf_208 (by decide) ?_
                      exact ih_lp13296 z13337 z13334 v13326 F13327 _ _ _ (by omega) (by omega) (frC (by decide) hf13328 hf_lp13296) hI hF hP hS (lv_sub hl [0, 3, 1, 4, 5, 6, 7, 8, 9, 10] rfl)
                    · skip
                      have t13340 := cv_nle (a := z13330.toInt) rfl (b := r13325.toInt) rfl c13332
                      refine lv_aload_n hx hb dX12_lacksOf_188 rfl (lv_at hl 6 rfl) ?_
                      refine va_get (D := (dC, dI)) (ci := 12) (v := .ref (g 40)) (C := RX12) (T := TX12) (N := 63) hx hb hwd inA_X12 hown hK hP 0 rfl rfl 54 (by decide) (hwd _ wk_222) (fun _ h9 => h9) rfl dX12_lacksOf_189 ?_
                      refine lv_iload hx hb dX12_lacksOf_192 (lv_at hl 5 rfl) ?_
                      refine va_iald hx hb hK hP 40 39 rfl rfl (i := z12882) (vin (a := z12882.toInt) rfl (by omega)) dX12_lacksOf_194 ?_
                      refine lv_topi (fun z13341 e13342 => ?_)
                      have e13342 : z13341 = F 40 (z12882 : Int32).toNatClampNeg := e13342.trans (congrFun (hF 40 (by decide)) _)
                      refine lv_iload hx hb dX12_lacksOf_195 (lv_at hl 0 rfl) ?_
                      refine lv_isub hx hb dX12_lacksOf_197 ?_
                      refine lv_topi (fun z13343 e13344 => ?_)
                      try (have t13345 := tsub e13344 (a := z13341.toInt) rfl (b := r13325.toInt) rfl (by omega))
                      refine lv_goto (tgt := 202) hx hb dX12_lacksOf_198 (by decide) ?_
                      refine lv_iadd hx hb dX12_lacksOf_202 ?_
                      refine lv_topi (fun z13346 e13347 => ?_)
                      try (have t13348 := tadd e13347 (a := x7_lp13296.toInt) rfl (b := z13343.toInt) rfl (by omega))
                      refine lv_istore (lv' := [(7, .int z13346), (10, .int r13325), (9, .int x9_lp13296), (8, .int 2), (6, .int z12885), (5, .int z12882), (0, .ref (g 0)), (1, .int p0), (2, .int p1), (3, .int p2), (4, .int p3)]) hx hb dX12_lacksOf_203 hl (by decide) rfl (fun ls hl => ?_)
                      obtain ⟨z13349, e13350⟩ : ∃ y : Int32, y = x9_lp13296 + 1 := ⟨_, rfl⟩
                      try (have t13351 := tadd e13350 rfl (b := 1) (by decide) (by omega))
                      refine lv_iinc (v := z13349) (lv' := [(9, .int z13349), (7, .int z13346), (10, .int r13325), (8, .int 2), (6, .int z12885), (5, .int z12882), (0, .ref (g 0)), (1, .int p0), (2, .int p1), (3, .int p2), (4, .int p3)]) hx hb dX12_lacksOf_205 hl (k := 2) rfl (by rw [e13350]; rfl) (by decide) rfl (fun ls hl => ?_)
                      refine lv_goto (tgt := 112) hx hb dX12_lacksOf_208 (by decide) ?_
                      exact ih_lp13296 z13349 z13346 v13326 F13327 _ _ _ (by omega) (by omega) (frC (by decide) hf13328 hf_lp13296) hI hF hP hS (lv_sub hl [0, 3, 1, 4, 5, 6, 7, 8, 9, 10] rfl)
                  · skip
                    have t13352 := cv_eq (a := r13321.toInt) rfl (b := 0) (by decide) c13323
                    refine lv_goto (tgt := 205) hx hb dX12_lacksOf_159 (by decide) ?_
                    obtain ⟨z13353, e13354⟩ : ∃ y : Int32, y = x9_lp13296 + 1 := ⟨_, rfl⟩
                    try (have t13355 := tadd e13354 rfl (b := 1) (by decide) (by omega))
                    refine lv_iinc (v := z13353) (lv' := [(9, .int z13353), (8, .int 2), (7, .int x7_lp13296), (6, .int z12885), (5, .int z12882), (0, .ref (g 0)), (1, .int p0), (2, .int p1), (3, .int p2), (4, .int p3)]) hx hb dX12_lacksOf_205 hl (k := 0) rfl (by rw [e13354]; rfl) (by decide) rfl (fun ls hl => ?_)
                    refine lv_goto (tgt := 112) hx hb dX12_lacksOf_208 (by decide) ?_
                    exact ih_lp13296 z13353 x7_lp13296 v_lp13296 F_lp13296 _ _ _ (by omega) (by omega) hf_lp13296 hI hF hP hS (lv_sub hl [0, 1, 2, 3, 4, 5, 6, 7, 8, 9] rfl)
        obtain ⟨n9, hn9⟩ : ∃ n : Nat, 2147483648 - 0 ≤ (n : Int) := ⟨((2147483648 - 0 : Int)).toNat, by omega⟩
        exact lp13296 n9 0 0 v F H _ ls (by have : (0 : Int32).toInt = 0 := (by decide); have : (0 : Int32).toInt = 0 := (by decide); omega) (by have : (0 : Int32).toInt = 0 := (by decide); have : (0 : Int32).toInt = 0 := (by decide); omega) (fun _ _ => rfl) hI hF hP hS hl
      · skip
        have t13356 := cv_eq (a := z12885.toInt) rfl (b := 108) (by decide) c13294
        refine lv_iconst (v := 1) hx hb dX12_lacksOf_102 (by decide) ?_
        refine lv_goto (tgt := 107) hx hb dX12_lacksOf_103 (by decide) ?_
        refine lv_istore (lv' := [(8, .int 1), (7, .int 0), (6, .int z12885), (5, .int z12882), (0, .ref (g 0)), (1, .int p0), (2, .int p1), (3, .int p2), (4, .int p3)]) hx hb dX12_lacksOf_107 hl (by decide) rfl (fun ls hl => ?_)
        refine lv_iconst (v := 0) hx hb dX12_lacksOf_109 (by decide) ?_
        refine lv_istore (lv' := [(9, .int 0), (8, .int 1), (7, .int 0), (6, .int z12885), (5, .int z12882), (0, .ref (g 0)), (1, .int p0), (2, .int p1), (3, .int p2), (4, .int p3)]) hx hb dX12_lacksOf_110 hl (by decide) rfl (fun ls hl => ?_)
        have lp13357 : ∀ (n : Nat) (x9_lp13357 : Int32) (x7_lp13357 : Int32) (v_lp13357 : Nat → Int32) (F_lp13357 : Nat → Nat → Int32) (H : Heap) (locs : List Loc) (ls : Array Slot), (0 ≤ x9_lp13357.toInt) → (2147483648 - x9_lp13357.toInt ≤ (n : Int)) → (∀ k, k ∉ ([] : List Nat) → v_lp13357 k = v k) → IM v_lp13357 F_lp13357 → (∀ k, k ∉ ([30, 31] : List Nat) → F_lp13357 k = F k) → va_P (dC, dI) classes (wM g c v_lp13357 F_lp13357 rc) H → va_S (AM g s.heap.size) s.heap H locs → lv_has ls 11 [(9, .int x9_lp13357), (8, .int 1), (7, .int x7_lp13357), (6, .int z12885), (5, .int z12882), (0, .ref (g 0)), (1, .int p0), (2, .int p1), (3, .int p2), (4, .int p3)] → W p l e (headSpec (Cond.code yX12_lacksOf cX12_lacksOf 11 (some .int) :: wA) ({ frames := 5, cells := 0, slots := 0, locals := 200 })).room s m ([.ref (g 0), .int p0, .int p1, .int p2, .int p3] : List Value).toArray below meth c0 H locs 0 0 (MQ below (va_Qi (fun (r : Int32) (u : StM) => IM u.1 u.2.1 ∧ u.2.2 = rc ∧ (∀ k, k ∉ ([] : List Nat) → u.1 k = v k) ∧ (∀ k, k ∉ ([30, 31] : List Nat) → u.2.1 k = F k) ∧ True) (BM dC dI g c) (AM g s.heap.size)) ([.ref (g 0), .int p0, .int p1, .int p2, .int p3] : List Value).toArray s 0 0 (AM g s.heap.size)) (F0 m 112 ls []) := by
          intro n
          induction n with
          | zero =>
            intro x9_lp13357 x7_lp13357 v_lp13357 F_lp13357 H locs ls t13358 hm hf_lp13357 hI hF hP hS hl
            exfalso
            have := i32_rng x9_lp13357
            have := i32_rng x7_lp13357
            have hI1 := hI.1
            omega
          | succ n ih_lp13357 =>
            intro x9_lp13357 x7_lp13357 v_lp13357 F_lp13357 H locs ls t13358 hm hf_lp13357 hI hF hP hS hl
            have rx9_lp13357 := i32_rng x9_lp13357
            have rx7_lp13357 := i32_rng x7_lp13357
            refine lv_iload hx hb dX12_lacksOf_112 (lv_at hl 0 rfl) ?_
            refine lv_aload_n hx hb dX12_lacksOf_114 rfl (lv_at hl 5 rfl) ?_
            refine va_get (D := (dC, dI)) (ci := 12) (v := .int (v_lp13357 14)) (C := RX12) (T := TX12) (N := 63) hx hb hwd inA_X12 hown hK hP 0 rfl rfl 14 (by decide) (hwd _ wk_318) (fun _ h9 => h9) rfl dX12_lacksOf_115 ?_
            refine my_top (v := v 14) (hf_lp13357 14 (by decide)) ?_
            have t13359 : 0 ≤ (v 14).toInt ∧ (v 14).toInt ≤ 100 := by have h9 := hI.1 14 _ _ rfl; rw [show v_lp13357 14 = v 14 from hf_lp13357 14 (by decide)] at h9; exact h9
            refine lv_icmp_ge (tgt := 211) hx hb dX12_lacksOf_118 (by decide) (fun c13360 => ?_) (fun c13360 => ?_)
            · skip
              have t13361 := cv_le (a := (v 14).toInt) rfl (b := x9_lp13357.toInt) rfl c13360
              refine lv_iload hx hb dX12_lacksOf_211 (lv_at hl 2 rfl) ?_
              have hP9 : va_P (dC, dI) classes (wM g c v_lp13357 F_lp13357 rc) H := hP
              exact W.iret (v := x7_lp13357) hx hb hr (fun t ht hW => ⟨⟨x7_lp13357, (v_lp13357, F_lp13357, rc), rfl, ⟨hI, rfl, (frC (by decide) hf_lp13357 (fun _ _ => rfl)), hF, trivial⟩, (by show va_P _ _ _ t.heap; rw [ht]; exact hP9)⟩, hS.F ht⟩) hS.2.2 dX12_lacksOf_213
            · skip
              have t13362 := cv_nle (a := (v 14).toInt) rfl (b := x9_lp13357.toInt) rfl c13360
              refine lv_aload_n hx hb dX12_lacksOf_121 rfl (lv_at hl 5 rfl) ?_
              refine va_get (D := (dC, dI)) (ci := 12) (v := .ref (g 42)) (C := RX12) (T := TX12) (N := 63) hx hb hwd inA_X12 hown hK hP 0 rfl rfl 56 (by decide) (hwd _ wk_224) (fun _ h9 => h9) rfl dX12_lacksOf_122 ?_
              refine lv_iload hx hb dX12_lacksOf_125 (lv_at hl 0 rfl) ?_
              refine va_zald hx hb hK hP 42 41 rfl rfl (i := x9_lp13357) (vin (a := x9_lp13357.toInt) rfl (by omega)) dX12_lacksOf_127 ?_
              refine lv_topi (fun z13363 e13364 => ?_)
              have e13364 : z13363 = F 42 (x9_lp13357 : Int32).toNatClampNeg := e13364.trans (congrFun (hF 42 (by decide)) _)
              refine lv_if_eq (tgt := 205) hx hb dX12_lacksOf_128 (by decide) (fun c13365 => ?_) (fun c13365 => ?_)
              · skip
                have t13366 := cv_eq (a := z13363.toInt) rfl (b := 0) (by decide) c13365
                obtain ⟨z13367, e13368⟩ : ∃ y : Int32, y = x9_lp13357 + 1 := ⟨_, rfl⟩
                try (have t13369 := tadd e13368 rfl (b := 1) (by decide) (by omega))
                refine lv_iinc (v := z13367) (lv' := [(9, .int z13367), (8, .int 1), (7, .int x7_lp13357), (6, .int z12885), (5, .int z12882), (0, .ref (g 0)), (1, .int p0), (2, .int p1), (3, .int p2), (4, .int p3)]) hx hb dX12_lacksOf_205 hl (k := 0) rfl (by rw [e13368]; rfl) (by decide) rfl (fun ls hl => ?_)
                refine lv_goto (tgt := 112) hx hb dX12_lacksOf_208 (by decide) ?_
                exact ih_lp13357 z13367 x7_lp13357 v_lp13357 F_lp13357 _ _ _ (by omega) (by omega) hf_lp13357 hI hF hP hS (lv_sub hl [0, 1, 2, 3, 4, 5, 6, 7, 8, 9] rfl)
              · skip
                have t13370 := cv_ne (a := z13363.toInt) rfl (b := 0) (by decide) c13365
                refine lv_aload_n hx hb dX12_lacksOf_131 rfl (lv_at hl 5 rfl) ?_
                refine va_get (D := (dC, dI)) (ci := 12) (v := .ref (g 11)) (C := RX12) (T := TX12) (N := 63) hx hb hwd inA_X12 hown hK hP 0 rfl rfl 15 (by decide) (hwd _ wk_192) (fun _ h9 => h9) rfl dX12_lacksOf_132 ?_
                refine lv_iload hx hb dX12_lacksOf_135 (lv_at hl 0 rfl) ?_
                refine va_iald hx hb hK hP 11 10 rfl rfl (i := x9_lp13357) (vin (a := x9_lp13357.toInt) rfl (by omega)) dX12_lacksOf_137 ?_
                refine lv_topi (fun z13371 e13372 => ?_)
                have t13373 : 0 ≤ z13371.toInt ∧ z13371.toInt ≤ 9 := by rw [e13372]; exact hI.2 11 _ _ rfl _
                have e13372 : z13371 = F 11 (x9_lp13357 : Int32).toNatClampNeg := e13372.trans (congrFun (hF 11 (by decide)) _)
                refine lv_aload_n hx hb dX12_lacksOf_138 rfl (lv_at hl 5 rfl) ?_
                refine va_get (D := (dC, dI)) (ci := 12) (v := .ref (g 39)) (C := RX12) (T := TX12) (N := 63) hx hb hwd inA_X12 hown hK hP 0 rfl rfl 53 (by decide) (hwd _ wk_221) (fun _ h9 => h9) rfl dX12_lacksOf_139 ?_
                refine lv_iload hx hb dX12_lacksOf_142 (lv_at hl 4 rfl) ?_
                refine va_iald hx hb hK hP 39 38 rfl rfl (i := z12882) (vin (a := z12882.toInt) rfl (by omega)) dX12_lacksOf_144 ?_
                refine lv_topi (fun z13374 e13375 => ?_)
                have e13375 : z13374 = F 39 (z12882 : Int32).toNatClampNeg := e13375.trans (congrFun (hF 39 (by decide)) _)
                refine lv_icmp_ne (tgt := 205) hx hb dX12_lacksOf_145 (by decide) (fun c13376 => ?_) (fun c13376 => ?_)
                · skip
                  have t13377 := cv_ne (a := z13371.toInt) rfl (b := z13374.toInt) rfl c13376
                  obtain ⟨z13378, e13379⟩ : ∃ y : Int32, y = x9_lp13357 + 1 := ⟨_, rfl⟩
                  try (have t13380 := tadd e13379 rfl (b := 1) (by decide) (by omega))
                  refine lv_iinc (v := z13378) (lv' := [(9, .int z13378), (8, .int 1), (7, .int x7_lp13357), (6, .int z12885), (5, .int z12882), (0, .ref (g 0)), (1, .int p0), (2, .int p1), (3, .int p2), (4, .int p3)]) hx hb dX12_lacksOf_205 hl (k := 0) rfl (by rw [e13379]; rfl) (by decide) rfl (fun ls hl => ?_)
                  refine lv_goto (tgt := 112) hx hb dX12_lacksOf_208 (by decide) ?_
                  exact ih_lp13357 z13378 x7_lp13357 v_lp13357 F_lp13357 _ _ _ (by omega) (by omega) hf_lp13357 hI hF hP hS (lv_sub hl [0, 1, 2, 3, 4, 5, 6, 7, 8, 9] rfl)
                · skip
                  have t13381 := cv_eq (a := z13371.toInt) rfl (b := z13374.toInt) rfl c13376
                  refine lv_aload_n hx hb dX12_lacksOf_148 rfl (lv_at hl 5 rfl) ?_
                  refine lv_iload hx hb dX12_lacksOf_149 (lv_at hl 0 rfl) ?_
                  refine lv_iload hx hb dX12_lacksOf_151 (lv_at hl 1 rfl) ?_
                  refine va_calli (va_runV (As := [.int x9_lp13357, .int 1]) (rest := []) ⟨hx, hb, hml, hown, hwd⟩ (c_X12_limitOf l dC dI g c adK adV v_lp13357 F_lp13357 rc H.size x9_lp13357 1 hg hI (by omega) (by have : (1 : Int32).toInt = 1 := (by decide); omega)) (cwV 2 hwd (gV wk_489 wk_486 wk_487 wk_488 wk_5) rfl rfl rfl (by decide +kernel) ⟨Nat.le_of_ble_eq_true rfl, Nat.le_of_ble_eq_true rfl⟩) ⟨PM.blind, va_recv hK hP (ci := 12) (q0 := 0) rfl rfl, fun U hU hW => ⟨rfl, PM.at hK hE hP hS hU hW⟩⟩ rfl rfl hl.1 rfl (lv_room (Nat.le_of_ble_eq_true rfl)) dX12_lacksOf_153 ⟨Nat.le_of_ble_eq_true rfl, Nat.le_of_ble_eq_true rfl⟩) hS (fun q _ h => (freeM hS) q h) (freeM hS) (fun r13382 u t H1 locs ht hvm hw hB hz1 hk1 hS => ?_)
                  unfold BM at hB
                  rw [ht] at hB
                  have hP : va_P (dC, dI) classes (wM g c v_lp13357 F_lp13357 rc) H1 := hB
                  replace hw : r13382.toInt = (F_lp13357 1 (limJ (F_lp13357 11) x9_lp13357 (1 : Int32))).toInt := hw
                  rw [hF 1 (by decide)] at hw
                  rw [hF 11 (by decide)] at hw
                  have hw_r13382 := hw
                  clear hw
                  have k13383 : (1 : Int32).toInt = 1 := by decide
                  clear hz1
                  generalize H1 = H at hP hS ⊢
                  refine lv_if_ne (tgt := 162) hx hb dX12_lacksOf_156 (by decide) (fun c13384 => ?_) (fun c13384 => ?_)
                  · skip
                    have t13385 := cv_ne (a := r13382.toInt) rfl (b := 0) (by decide) c13384
                    refine lv_aload_n hx hb dX12_lacksOf_162 rfl (lv_at hl 5 rfl) ?_
                    refine lv_iload hx hb dX12_lacksOf_163 (lv_at hl 0 rfl) ?_
                    refine lv_iload hx hb dX12_lacksOf_165 (lv_at hl 1 rfl) ?_
                    refine lv_iload hx hb dX12_lacksOf_167 (lv_at hl 9 rfl) ?_
                    refine va_calli (va_runV (As := [.int x9_lp13357, .int 1, .int p3]) (rest := []) ⟨hx, hb, hml, hown, hwd⟩ (c_X12_leftOf l dC dI g c adK adV v_lp13357 F_lp13357 rc H.size x9_lp13357 1 p3 hg hI (by omega) (by have : (1 : Int32).toInt = 1 := (by decide); omega) (JL.to hL (show v_lp13357 31 = v 31 from hf_lp13357 31 (by decide)) (hF 28 (by decide)) (hF 29 (by decide)) (hF 27 (by decide)))) (cwV 3 hwd (gV wk_493 wk_490 wk_491 wk_492 wk_5) rfl rfl rfl (by decide +kernel) ⟨Nat.le_of_ble_eq_true rfl, Nat.le_of_ble_eq_true rfl⟩) ⟨PM.blind, va_recv hK hP (ci := 12) (q0 := 0) rfl rfl, fun U hU hW => ⟨rfl, PM.at hK hE hP hS hU hW⟩⟩ rfl rfl hl.1 rfl (lv_room (Nat.le_of_ble_eq_true rfl)) dX12_lacksOf_169 ⟨Nat.le_of_ble_eq_true rfl, Nat.le_of_ble_eq_true rfl⟩) hS (fun q _ h => (freeM hS) q h) (freeM hS) (fun r13386 u t H1 locs ht hvm hw hB hz1 hk1 hS => ?_)
                    unfold BM at hB
                    rw [ht] at hB
                    obtain ⟨v13387, F13388, rc9⟩ := u
                    obtain ⟨hI, hrc, hf13389, hG13390, hw⟩ := hw
                    dsimp only at hI hrc hB hf13389 hG13390 hw
                    have hF := frCF (by decide) hG13390 hF
                    rw [hrc] at hB
                    have hP : va_P (dC, dI) classes (wM g c v13387 F13388 rc) H1 := hB
                    clear hz1
                    generalize H1 = H at hP hS ⊢
                    have rr_r13386 := i32_rng r13386
                    refine lv_istore (lv' := [(10, .int r13386), (9, .int x9_lp13357), (8, .int 1), (7, .int x7_lp13357), (6, .int z12885), (5, .int z12882), (0, .ref (g 0)), (1, .int p0), (2, .int p1), (3, .int p2), (4, .int p3)]) hx hb dX12_lacksOf_172 hl (by decide) rfl (fun ls hl => ?_)
                    refine lv_iload hx hb dX12_lacksOf_174 (lv_at hl 3 rfl) ?_
                    refine lv_iload hx hb dX12_lacksOf_176 (lv_at hl 0 rfl) ?_
                    refine lv_aload_n hx hb dX12_lacksOf_178 rfl (lv_at hl 6 rfl) ?_
                    refine va_get (D := (dC, dI)) (ci := 12) (v := .ref (g 40)) (C := RX12) (T := TX12) (N := 63) hx hb hwd inA_X12 hown hK hP 0 rfl rfl 54 (by decide) (hwd _ wk_222) (fun _ h9 => h9) rfl dX12_lacksOf_179 ?_
                    refine lv_iload hx hb dX12_lacksOf_182 (lv_at hl 5 rfl) ?_
                    refine va_iald hx hb hK hP 40 39 rfl rfl (i := z12882) (vin (a := z12882.toInt) rfl (by omega)) dX12_lacksOf_184 ?_
                    refine lv_topi (fun z13391 e13392 => ?_)
                    have e13392 : z13391 = F 40 (z12882 : Int32).toNatClampNeg := e13392.trans (congrFun (hF 40 (by decide)) _)
                    refine lv_icmp_ge (tgt := 201) hx hb dX12_lacksOf_185 (by decide) (fun c13393 => ?_) (fun c13393 => ?_)
                    · skip
                      have t13394 := cv_le (a := z13391.toInt) rfl (b := r13386.toInt) rfl c13393
                      refine lv_iconst (v := 0) hx hb dX12_lacksOf_201 (by decide) ?_
                      refine lv_iadd hx hb dX12_lacksOf_202 ?_
                      refine lv_topi (fun z13395 e13396 => ?_)
                      try (have t13397 := tadd e13396 (a := x7_lp13357.toInt) rfl (b := 0) (by decide) (by omega))
                      refine lv_istore (lv' := [(7, .int z13395), (10, .int r13386), (9, .int x9_lp13357), (8, .int 1), (6, .int z12885), (5, .int z12882), (0, .ref (g 0)), (1, .int p0), (2, .int p1), (3, .int p2), (4, .int p3)]) hx hb dX12_lacksOf_203 hl (by decide) rfl (fun ls hl => ?_)
                      obtain ⟨z13398, e13399⟩ : ∃ y : Int32, y = x9_lp13357 + 1 := ⟨_, rfl⟩
                      try (have t13400 := tadd e13399 rfl (b := 1) (by decide) (by omega))
                      refine lv_iinc (v := z13398) (lv' := [(9, .int z13398), (7, .int z13395), (10, .int r13386), (8, .int 1), (6, .int z12885), (5, .int z12882), (0, .ref (g 0)), (1, .int p0), (2, .int p1), (3, .int p2), (4, .int p3)]) hx hb dX12_lacksOf_205 hl (k := 2) rfl (by rw [e13399]; rfl) (by decide) rfl (fun ls hl => ?_)
                      refine lv_goto (tgt := 112) hx hb dX12_lacksOf_208 (by decide) ?_
                      exact ih_lp13357 z13398 z13395 v13387 F13388 _ _ _ (by omega) (by omega) (frC (by decide) hf13389 hf_lp13357) hI hF hP hS (lv_sub hl [0, 3, 1, 4, 5, 6, 7, 8, 9, 10] rfl)
                    · skip
                      have t13401 := cv_nle (a := z13391.toInt) rfl (b := r13386.toInt) rfl c13393
                      refine lv_aload_n hx hb dX12_lacksOf_188 rfl (lv_at hl 6 rfl) ?_
                      refine va_get (D := (dC, dI)) (ci := 12) (v := .ref (g 40)) (C := RX12) (T := TX12) (N := 63) hx hb hwd inA_X12 hown hK hP 0 rfl rfl 54 (by decide) (hwd _ wk_222) (fun _ h9 => h9) rfl dX12_lacksOf_189 ?_
                      refine lv_iload hx hb dX12_lacksOf_192 (lv_at hl 5 rfl) ?_
                      refine va_iald hx hb hK hP 40 39 rfl rfl (i := z12882) (vin (a := z12882.toInt) rfl (by omega)) dX12_lacksOf_194 ?_
                      refine lv_topi (fun z13402 e13403 => ?_)
                      have e13403 : z13402 = F 40 (z12882 : Int32).toNatClampNeg := e13403.trans (congrFun (hF 40 (by decide)) _)
                      refine lv_iload hx hb dX12_lacksOf_195 (lv_at hl 0 rfl) ?_
                      refine lv_isub hx hb dX12_lacksOf_197 ?_
                      refine lv_topi (fun z13404 e13405 => ?_)
                      try (have t13406 := tsub e13405 (a := z13402.toInt) rfl (b := r13386.toInt) rfl (by omega))
                      refine lv_goto (tgt := 202) hx hb dX12_lacksOf_198 (by decide) ?_
                      refine lv_iadd hx hb dX12_lacksOf_202 ?_
                      refine lv_topi (fun z13407 e13408 => ?_)
                      try (have t13409 := tadd e13408 (a := x7_lp13357.toInt) rfl (b := z13404.toInt) rfl (by omega))
                      refine lv_istore (lv' := [(7, .int z13407), (10, .int r13386), (9, .int x9_lp13357), (8, .int 1), (6, .int z12885), (5, .int z12882), (0, .ref (g 0)), (1, .int p0), (2, .int p1), (3, .int p2), (4, .int p3)]) hx hb dX12_lacksOf_203 hl (by decide) rfl (fun ls hl => ?_)
                      obtain ⟨z13410, e13411⟩ : ∃ y : Int32, y = x9_lp13357 + 1 := ⟨_, rfl⟩
                      try (have t13412 := tadd e13411 rfl (b := 1) (by decide) (by omega))
                      refine lv_iinc (v := z13410) (lv' := [(9, .int z13410), (7, .int z13407), (10, .int r13386), (8, .int 1), (6, .int z12885), (5, .int z12882), (0, .ref (g 0)), (1, .int p0), (2, .int p1), (3, .int p2), (4, .int p3)]) hx hb dX12_lacksOf_205 hl (k := 2) rfl (by rw [e13411]; rfl) (by decide) rfl (fun ls hl => ?_)
                      refine lv_goto (tgt := 112) hx hb dX12_lacksOf_208 (by decide) ?_
                      exact ih_lp13357 z13410 z13407 v13387 F13388 _ _ _ (by omega) (by omega) (frC (by decide) hf13389 hf_lp13357) hI hF hP hS (lv_sub hl [0, 3, 1, 4, 5, 6, 7, 8, 9, 10] rfl)
                  · skip
                    have t13413 := cv_eq (a := r13382.toInt) rfl (b := 0) (by decide) c13384
                    refine lv_goto (tgt := 205) hx hb dX12_lacksOf_159 (by decide) ?_
                    obtain ⟨z13414, e13415⟩ : ∃ y : Int32, y = x9_lp13357 + 1 := ⟨_, rfl⟩
                    try (have t13416 := tadd e13415 rfl (b := 1) (by decide) (by omega))
                    refine lv_iinc (v := z13414) (lv' := [(9, .int z13414), (8, .int 1), (7, .int x7_lp13357), (6, .int z12885), (5, .int z12882), (0, .ref (g 0)), (1, .int p0), (2, .int p1), (3, .int p2), (4, .int p3)]) hx hb dX12_lacksOf_205 hl (k := 0) rfl (by rw [e13415]; rfl) (by decide) rfl (fun ls hl => ?_)
                    refine lv_goto (tgt := 112) hx hb dX12_lacksOf_208 (by decide) ?_
                    exact ih_lp13357 z13414 x7_lp13357 v_lp13357 F_lp13357 _ _ _ (by omega) (by omega) hf_lp13357 hI hF hP hS (lv_sub hl [0, 1, 2, 3, 4, 5, 6, 7, 8, 9] rfl)
        obtain ⟨n9, hn9⟩ : ∃ n : Nat, 2147483648 - 0 ≤ (n : Int) := ⟨((2147483648 - 0 : Int)).toNat, by omega⟩
        exact lp13357 n9 0 0 v F H _ ls (by have : (0 : Int32).toInt = 0 := (by decide); have : (0 : Int32).toInt = 0 := (by decide); omega) (by have : (0 : Int32).toInt = 0 := (by decide); have : (0 : Int32).toInt = 0 := (by decide); omega) (fun _ _ => rfl) hI hF hP hS hl
    · skip
      have t13417 := cv_eq (a := z12885.toInt) rfl (b := 104) (by decide) c13292
      refine lv_iconst (v := 0) hx hb dX12_lacksOf_91 (by decide) ?_
      refine lv_goto (tgt := 107) hx hb dX12_lacksOf_92 (by decide) ?_
      refine lv_istore (lv' := [(8, .int 0), (7, .int 0), (6, .int z12885), (5, .int z12882), (0, .ref (g 0)), (1, .int p0), (2, .int p1), (3, .int p2), (4, .int p3)]) hx hb dX12_lacksOf_107 hl (by decide) rfl (fun ls hl => ?_)
      refine lv_iconst (v := 0) hx hb dX12_lacksOf_109 (by decide) ?_
      refine lv_istore (lv' := [(9, .int 0), (8, .int 0), (7, .int 0), (6, .int z12885), (5, .int z12882), (0, .ref (g 0)), (1, .int p0), (2, .int p1), (3, .int p2), (4, .int p3)]) hx hb dX12_lacksOf_110 hl (by decide) rfl (fun ls hl => ?_)
      have lp13418 : ∀ (n : Nat) (x9_lp13418 : Int32) (x7_lp13418 : Int32) (v_lp13418 : Nat → Int32) (F_lp13418 : Nat → Nat → Int32) (H : Heap) (locs : List Loc) (ls : Array Slot), (0 ≤ x9_lp13418.toInt) → (2147483648 - x9_lp13418.toInt ≤ (n : Int)) → (∀ k, k ∉ ([] : List Nat) → v_lp13418 k = v k) → IM v_lp13418 F_lp13418 → (∀ k, k ∉ ([30, 31] : List Nat) → F_lp13418 k = F k) → va_P (dC, dI) classes (wM g c v_lp13418 F_lp13418 rc) H → va_S (AM g s.heap.size) s.heap H locs → lv_has ls 11 [(9, .int x9_lp13418), (8, .int 0), (7, .int x7_lp13418), (6, .int z12885), (5, .int z12882), (0, .ref (g 0)), (1, .int p0), (2, .int p1), (3, .int p2), (4, .int p3)] → W p l e (headSpec (Cond.code yX12_lacksOf cX12_lacksOf 11 (some .int) :: wA) ({ frames := 5, cells := 0, slots := 0, locals := 200 })).room s m ([.ref (g 0), .int p0, .int p1, .int p2, .int p3] : List Value).toArray below meth c0 H locs 0 0 (MQ below (va_Qi (fun (r : Int32) (u : StM) => IM u.1 u.2.1 ∧ u.2.2 = rc ∧ (∀ k, k ∉ ([] : List Nat) → u.1 k = v k) ∧ (∀ k, k ∉ ([30, 31] : List Nat) → u.2.1 k = F k) ∧ True) (BM dC dI g c) (AM g s.heap.size)) ([.ref (g 0), .int p0, .int p1, .int p2, .int p3] : List Value).toArray s 0 0 (AM g s.heap.size)) (F0 m 112 ls []) := by
        intro n
        induction n with
        | zero =>
          intro x9_lp13418 x7_lp13418 v_lp13418 F_lp13418 H locs ls t13419 hm hf_lp13418 hI hF hP hS hl
          exfalso
          have := i32_rng x9_lp13418
          have := i32_rng x7_lp13418
          have hI1 := hI.1
          omega
        | succ n ih_lp13418 =>
          intro x9_lp13418 x7_lp13418 v_lp13418 F_lp13418 H locs ls t13419 hm hf_lp13418 hI hF hP hS hl
          have rx9_lp13418 := i32_rng x9_lp13418
          have rx7_lp13418 := i32_rng x7_lp13418
          refine lv_iload hx hb dX12_lacksOf_112 (lv_at hl 0 rfl) ?_
          refine lv_aload_n hx hb dX12_lacksOf_114 rfl (lv_at hl 5 rfl) ?_
          refine va_get (D := (dC, dI)) (ci := 12) (v := .int (v_lp13418 14)) (C := RX12) (T := TX12) (N := 63) hx hb hwd inA_X12 hown hK hP 0 rfl rfl 14 (by decide) (hwd _ wk_318) (fun _ h9 => h9) rfl dX12_lacksOf_115 ?_
          refine my_top (v := v 14) (hf_lp13418 14 (by decide)) ?_
          have t13420 : 0 ≤ (v 14).toInt ∧ (v 14).toInt ≤ 100 := by have h9 := hI.1 14 _ _ rfl; rw [show v_lp13418 14 = v 14 from hf_lp13418 14 (by decide)] at h9; exact h9
          refine lv_icmp_ge (tgt := 211) hx hb dX12_lacksOf_118 (by decide) (fun c13421 => ?_) (fun c13421 => ?_)
          · skip
            have t13422 := cv_le (a := (v 14).toInt) rfl (b := x9_lp13418.toInt) rfl c13421
            refine lv_iload hx hb dX12_lacksOf_211 (lv_at hl 2 rfl) ?_
            have hP9 : va_P (dC, dI) classes (wM g c v_lp13418 F_lp13418 rc) H := hP
            exact W.iret (v := x7_lp13418) hx hb hr (fun t ht hW => ⟨⟨x7_lp13418, (v_lp13418, F_lp13418, rc), rfl, ⟨hI, rfl, (frC (by decide) hf_lp13418 (fun _ _ => rfl)), hF, trivial⟩, (by show va_P _ _ _ t.heap; rw [ht]; exact hP9)⟩, hS.F ht⟩) hS.2.2 dX12_lacksOf_213
          · skip
            have t13423 := cv_nle (a := (v 14).toInt) rfl (b := x9_lp13418.toInt) rfl c13421
            refine lv_aload_n hx hb dX12_lacksOf_121 rfl (lv_at hl 5 rfl) ?_
            refine va_get (D := (dC, dI)) (ci := 12) (v := .ref (g 42)) (C := RX12) (T := TX12) (N := 63) hx hb hwd inA_X12 hown hK hP 0 rfl rfl 56 (by decide) (hwd _ wk_224) (fun _ h9 => h9) rfl dX12_lacksOf_122 ?_
            refine lv_iload hx hb dX12_lacksOf_125 (lv_at hl 0 rfl) ?_
            refine va_zald hx hb hK hP 42 41 rfl rfl (i := x9_lp13418) (vin (a := x9_lp13418.toInt) rfl (by omega)) dX12_lacksOf_127 ?_
            refine lv_topi (fun z13424 e13425 => ?_)
            have e13425 : z13424 = F 42 (x9_lp13418 : Int32).toNatClampNeg := e13425.trans (congrFun (hF 42 (by decide)) _)
            refine lv_if_eq (tgt := 205) hx hb dX12_lacksOf_128 (by decide) (fun c13426 => ?_) (fun c13426 => ?_)
            · skip
              have t13427 := cv_eq (a := z13424.toInt) rfl (b := 0) (by decide) c13426
              obtain ⟨z13428, e13429⟩ : ∃ y : Int32, y = x9_lp13418 + 1 := ⟨_, rfl⟩
              try (have t13430 := tadd e13429 rfl (b := 1) (by decide) (by omega))
              refine lv_iinc (v := z13428) (lv' := [(9, .int z13428), (8, .int 0), (7, .int x7_lp13418), (6, .int z12885), (5, .int z12882), (0, .ref (g 0)), (1, .int p0), (2, .int p1), (3, .int p2), (4, .int p3)]) hx hb dX12_lacksOf_205 hl (k := 0) rfl (by rw [e13429]; rfl) (by decide) rfl (fun ls hl => ?_)
              refine lv_goto (tgt := 112) hx hb dX12_lacksOf_208 (by decide) ?_
              exact ih_lp13418 z13428 x7_lp13418 v_lp13418 F_lp13418 _ _ _ (by omega) (by omega) hf_lp13418 hI hF hP hS (lv_sub hl [0, 1, 2, 3, 4, 5, 6, 7, 8, 9] rfl)
            · skip
              have t13431 := cv_ne (a := z13424.toInt) rfl (b := 0) (by decide) c13426
              refine lv_aload_n hx hb dX12_lacksOf_131 rfl (lv_at hl 5 rfl) ?_
              refine va_get (D := (dC, dI)) (ci := 12) (v := .ref (g 11)) (C := RX12) (T := TX12) (N := 63) hx hb hwd inA_X12 hown hK hP 0 rfl rfl 15 (by decide) (hwd _ wk_192) (fun _ h9 => h9) rfl dX12_lacksOf_132 ?_
              refine lv_iload hx hb dX12_lacksOf_135 (lv_at hl 0 rfl) ?_
              refine va_iald hx hb hK hP 11 10 rfl rfl (i := x9_lp13418) (vin (a := x9_lp13418.toInt) rfl (by omega)) dX12_lacksOf_137 ?_
              refine lv_topi (fun z13432 e13433 => ?_)
              have t13434 : 0 ≤ z13432.toInt ∧ z13432.toInt ≤ 9 := by rw [e13433]; exact hI.2 11 _ _ rfl _
              have e13433 : z13432 = F 11 (x9_lp13418 : Int32).toNatClampNeg := e13433.trans (congrFun (hF 11 (by decide)) _)
              refine lv_aload_n hx hb dX12_lacksOf_138 rfl (lv_at hl 5 rfl) ?_
              refine va_get (D := (dC, dI)) (ci := 12) (v := .ref (g 39)) (C := RX12) (T := TX12) (N := 63) hx hb hwd inA_X12 hown hK hP 0 rfl rfl 53 (by decide) (hwd _ wk_221) (fun _ h9 => h9) rfl dX12_lacksOf_139 ?_
              refine lv_iload hx hb dX12_lacksOf_142 (lv_at hl 4 rfl) ?_
              refine va_iald hx hb hK hP 39 38 rfl rfl (i := z12882) (vin (a := z12882.toInt) rfl (by omega)) dX12_lacksOf_144 ?_
              refine lv_topi (fun z13435 e13436 => ?_)
              have e13436 : z13435 = F 39 (z12882 : Int32).toNatClampNeg := e13436.trans (congrFun (hF 39 (by decide)) _)
              refine lv_icmp_ne (tgt := 205) hx hb dX12_lacksOf_145 (by decide) (fun c13437 => ?_) (fun c13437 => ?_)
              · skip
                have t13438 := cv_ne (a := z13432.toInt) rfl (b := z13435.toInt) rfl c13437
                obtain ⟨z13439, e13440⟩ : ∃ y : Int32, y = x9_lp13418 + 1 := ⟨_, rfl⟩
                try (have t13441 := tadd e13440 rfl (b := 1) (by decide) (by omega))
                refine lv_iinc (v := z13439) (lv' := [(9, .int z13439), (8, .int 0), (7, .int x7_lp13418), (6, .int z12885), (5, .int z12882), (0, .ref (g 0)), (1, .int p0), (2, .int p1), (3, .int p2), (4, .int p3)]) hx hb dX12_lacksOf_205 hl (k := 0) rfl (by rw [e13440]; rfl) (by decide) rfl (fun ls hl => ?_)
                refine lv_goto (tgt := 112) hx hb dX12_lacksOf_208 (by decide) ?_
                exact ih_lp13418 z13439 x7_lp13418 v_lp13418 F_lp13418 _ _ _ (by omega) (by omega) hf_lp13418 hI hF hP hS (lv_sub hl [0, 1, 2, 3, 4, 5, 6, 7, 8, 9] rfl)
              · skip
                have t13442 := cv_eq (a := z13432.toInt) rfl (b := z13435.toInt) rfl c13437
                refine lv_aload_n hx hb dX12_lacksOf_148 rfl (lv_at hl 5 rfl) ?_
                refine lv_iload hx hb dX12_lacksOf_149 (lv_at hl 0 rfl) ?_
                refine lv_iload hx hb dX12_lacksOf_151 (lv_at hl 1 rfl) ?_
                refine va_calli (va_runV (As := [.int x9_lp13418, .int 0]) (rest := []) ⟨hx, hb, hml, hown, hwd⟩ (c_X12_limitOf l dC dI g c adK adV v_lp13418 F_lp13418 rc H.size x9_lp13418 0 hg hI (by omega) (by have : (0 : Int32).toInt = 0 := (by decide); omega)) (cwV 2 hwd (gV wk_489 wk_486 wk_487 wk_488 wk_5) rfl rfl rfl (by decide +kernel) ⟨Nat.le_of_ble_eq_true rfl, Nat.le_of_ble_eq_true rfl⟩) ⟨PM.blind, va_recv hK hP (ci := 12) (q0 := 0) rfl rfl, fun U hU hW => ⟨rfl, PM.at hK hE hP hS hU hW⟩⟩ rfl rfl hl.1 rfl (lv_room (Nat.le_of_ble_eq_true rfl)) dX12_lacksOf_153 ⟨Nat.le_of_ble_eq_true rfl, Nat.le_of_ble_eq_true rfl⟩) hS (fun q _ h => (freeM hS) q h) (freeM hS) (fun r13443 u t H1 locs ht hvm hw hB hz1 hk1 hS => ?_)
                unfold BM at hB
                rw [ht] at hB
                have hP : va_P (dC, dI) classes (wM g c v_lp13418 F_lp13418 rc) H1 := hB
                replace hw : r13443.toInt = (F_lp13418 1 (limJ (F_lp13418 11) x9_lp13418 (0 : Int32))).toInt := hw
                rw [hF 1 (by decide)] at hw
                rw [hF 11 (by decide)] at hw
                have hw_r13443 := hw
                clear hw
                have k13444 : (0 : Int32).toInt = 0 := by decide
                clear hz1
                generalize H1 = H at hP hS ⊢
                refine lv_if_ne (tgt := 162) hx hb dX12_lacksOf_156 (by decide) (fun c13445 => ?_) (fun c13445 => ?_)
                · skip
                  have t13446 := cv_ne (a := r13443.toInt) rfl (b := 0) (by decide) c13445
                  refine lv_aload_n hx hb dX12_lacksOf_162 rfl (lv_at hl 5 rfl) ?_
                  refine lv_iload hx hb dX12_lacksOf_163 (lv_at hl 0 rfl) ?_
                  refine lv_iload hx hb dX12_lacksOf_165 (lv_at hl 1 rfl) ?_
                  refine lv_iload hx hb dX12_lacksOf_167 (lv_at hl 9 rfl) ?_
                  refine va_calli (va_runV (As := [.int x9_lp13418, .int 0, .int p3]) (rest := []) ⟨hx, hb, hml, hown, hwd⟩ (c_X12_leftOf l dC dI g c adK adV v_lp13418 F_lp13418 rc H.size x9_lp13418 0 p3 hg hI (by omega) (by have : (0 : Int32).toInt = 0 := (by decide); omega) (JL.to hL (show v_lp13418 31 = v 31 from hf_lp13418 31 (by decide)) (hF 28 (by decide)) (hF 29 (by decide)) (hF 27 (by decide)))) (cwV 3 hwd (gV wk_493 wk_490 wk_491 wk_492 wk_5) rfl rfl rfl (by decide +kernel) ⟨Nat.le_of_ble_eq_true rfl, Nat.le_of_ble_eq_true rfl⟩) ⟨PM.blind, va_recv hK hP (ci := 12) (q0 := 0) rfl rfl, fun U hU hW => ⟨rfl, PM.at hK hE hP hS hU hW⟩⟩ rfl rfl hl.1 rfl (lv_room (Nat.le_of_ble_eq_true rfl)) dX12_lacksOf_169 ⟨Nat.le_of_ble_eq_true rfl, Nat.le_of_ble_eq_true rfl⟩) hS (fun q _ h => (freeM hS) q h) (freeM hS) (fun r13447 u t H1 locs ht hvm hw hB hz1 hk1 hS => ?_)
                  unfold BM at hB
                  rw [ht] at hB
                  obtain ⟨v13448, F13449, rc9⟩ := u
                  obtain ⟨hI, hrc, hf13450, hG13451, hw⟩ := hw
                  dsimp only at hI hrc hB hf13450 hG13451 hw
                  have hF := frCF (by decide) hG13451 hF
                  rw [hrc] at hB
                  have hP : va_P (dC, dI) classes (wM g c v13448 F13449 rc) H1 := hB
                  clear hz1
                  generalize H1 = H at hP hS ⊢
                  have rr_r13447 := i32_rng r13447
                  refine lv_istore (lv' := [(10, .int r13447), (9, .int x9_lp13418), (8, .int 0), (7, .int x7_lp13418), (6, .int z12885), (5, .int z12882), (0, .ref (g 0)), (1, .int p0), (2, .int p1), (3, .int p2), (4, .int p3)]) hx hb dX12_lacksOf_172 hl (by decide) rfl (fun ls hl => ?_)
                  refine lv_iload hx hb dX12_lacksOf_174 (lv_at hl 3 rfl) ?_
                  refine lv_iload hx hb dX12_lacksOf_176 (lv_at hl 0 rfl) ?_
                  refine lv_aload_n hx hb dX12_lacksOf_178 rfl (lv_at hl 6 rfl) ?_
                  refine va_get (D := (dC, dI)) (ci := 12) (v := .ref (g 40)) (C := RX12) (T := TX12) (N := 63) hx hb hwd inA_X12 hown hK hP 0 rfl rfl 54 (by decide) (hwd _ wk_222) (fun _ h9 => h9) rfl dX12_lacksOf_179 ?_
                  refine lv_iload hx hb dX12_lacksOf_182 (lv_at hl 5 rfl) ?_
                  refine va_iald hx hb hK hP 40 39 rfl rfl (i := z12882) (vin (a := z12882.toInt) rfl (by omega)) dX12_lacksOf_184 ?_
                  refine lv_topi (fun z13452 e13453 => ?_)
                  have e13453 : z13452 = F 40 (z12882 : Int32).toNatClampNeg := e13453.trans (congrFun (hF 40 (by decide)) _)
                  refine lv_icmp_ge (tgt := 201) hx hb dX12_lacksOf_185 (by decide) (fun c13454 => ?_) (fun c13454 => ?_)
                  · skip
                    have t13455 := cv_le (a := z13452.toInt) rfl (b := r13447.toInt) rfl c13454
                    refine lv_iconst (v := 0) hx hb dX12_lacksOf_201 (by decide) ?_
                    refine lv_iadd hx hb dX12_lacksOf_202 ?_
                    refine lv_topi (fun z13456 e13457 => ?_)
                    try (have t13458 := tadd e13457 (a := x7_lp13418.toInt) rfl (b := 0) (by decide) (by omega))
                    refine lv_istore (lv' := [(7, .int z13456), (10, .int r13447), (9, .int x9_lp13418), (8, .int 0), (6, .int z12885), (5, .int z12882), (0, .ref (g 0)), (1, .int p0), (2, .int p1), (3, .int p2), (4, .int p3)]) hx hb dX12_lacksOf_203 hl (by decide) rfl (fun ls hl => ?_)
                    obtain ⟨z13459, e13460⟩ : ∃ y : Int32, y = x9_lp13418 + 1 := ⟨_, rfl⟩
                    try (have t13461 := tadd e13460 rfl (b := 1) (by decide) (by omega))
                    refine lv_iinc (v := z13459) (lv' := [(9, .int z13459), (7, .int z13456), (10, .int r13447), (8, .int 0), (6, .int z12885), (5, .int z12882), (0, .ref (g 0)), (1, .int p0), (2, .int p1), (3, .int p2), (4, .int p3)]) hx hb dX12_lacksOf_205 hl (k := 2) rfl (by rw [e13460]; rfl) (by decide) rfl (fun ls hl => ?_)
                    refine lv_goto (tgt := 112) hx hb dX12_lacksOf_208 (by decide) ?_
                    exact ih_lp13418 z13459 z13456 v13448 F13449 _ _ _ (by omega) (by omega) (frC (by decide) hf13450 hf_lp13418) hI hF hP hS (lv_sub hl [0, 3, 1, 4, 5, 6, 7, 8, 9, 10] rfl)
                  · skip
                    have t13462 := cv_nle (a := z13452.toInt) rfl (b := r13447.toInt) rfl c13454
                    refine lv_aload_n hx hb dX12_lacksOf_188 rfl (lv_at hl 6 rfl) ?_
                    refine va_get (D := (dC, dI)) (ci := 12) (v := .ref (g 40)) (C := RX12) (T := TX12) (N := 63) hx hb hwd inA_X12 hown hK hP 0 rfl rfl 54 (by decide) (hwd _ wk_222) (fun _ h9 => h9) rfl dX12_lacksOf_189 ?_
                    refine lv_iload hx hb dX12_lacksOf_192 (lv_at hl 5 rfl) ?_
                    refine va_iald hx hb hK hP 40 39 rfl rfl (i := z12882) (vin (a := z12882.toInt) rfl (by omega)) dX12_lacksOf_194 ?_
                    refine lv_topi (fun z13463 e13464 => ?_)
                    have e13464 : z13463 = F 40 (z12882 : Int32).toNatClampNeg := e13464.trans (congrFun (hF 40 (by decide)) _)
                    refine lv_iload hx hb dX12_lacksOf_195 (lv_at hl 0 rfl) ?_
                    refine lv_isub hx hb dX12_lacksOf_197 ?_
                    refine lv_topi (fun z13465 e13466 => ?_)
                    try (have t13467 := tsub e13466 (a := z13463.toInt) rfl (b := r13447.toInt) rfl (by omega))
                    refine lv_goto (tgt := 202) hx hb dX12_lacksOf_198 (by decide) ?_
                    refine lv_iadd hx hb dX12_lacksOf_202 ?_
                    refine lv_topi (fun z13468 e13469 => ?_)
                    try (have t13470 := tadd e13469 (a := x7_lp13418.toInt) rfl (b := z13465.toInt) rfl (by omega))
                    refine lv_istore (lv' := [(7, .int z13468), (10, .int r13447), (9, .int x9_lp13418), (8, .int 0), (6, .int z12885), (5, .int z12882), (0, .ref (g 0)), (1, .int p0), (2, .int p1), (3, .int p2), (4, .int p3)]) hx hb dX12_lacksOf_203 hl (by decide) rfl (fun ls hl => ?_)
                    obtain ⟨z13471, e13472⟩ : ∃ y : Int32, y = x9_lp13418 + 1 := ⟨_, rfl⟩
                    try (have t13473 := tadd e13472 rfl (b := 1) (by decide) (by omega))
                    refine lv_iinc (v := z13471) (lv' := [(9, .int z13471), (7, .int z13468), (10, .int r13447), (8, .int 0), (6, .int z12885), (5, .int z12882), (0, .ref (g 0)), (1, .int p0), (2, .int p1), (3, .int p2), (4, .int p3)]) hx hb dX12_lacksOf_205 hl (k := 2) rfl (by rw [e13472]; rfl) (by decide) rfl (fun ls hl => ?_)
                    refine lv_goto (tgt := 112) hx hb dX12_lacksOf_208 (by decide) ?_
                    exact ih_lp13418 z13471 z13468 v13448 F13449 _ _ _ (by omega) (by omega) (frC (by decide) hf13450 hf_lp13418) hI hF hP hS (lv_sub hl [0, 3, 1, 4, 5, 6, 7, 8, 9, 10] rfl)
                · skip
                  have t13474 := cv_eq (a := r13443.toInt) rfl (b := 0) (by decide) c13445
                  refine lv_goto (tgt := 205) hx hb dX12_lacksOf_159 (by decide) ?_
                  obtain ⟨z13475, e13476⟩ : ∃ y : Int32, y = x9_lp13418 + 1 := ⟨_, rfl⟩
                  try (have t13477 := tadd e13476 rfl (b := 1) (by decide) (by omega))
                  refine lv_iinc (v := z13475) (lv' := [(9, .int z13475), (8, .int 0), (7, .int x7_lp13418), (6, .int z12885), (5, .int z12882), (0, .ref (g 0)), (1, .int p0), (2, .int p1), (3, .int p2), (4, .int p3)]) hx hb dX12_lacksOf_205 hl (k := 0) rfl (by rw [e13476]; rfl) (by decide) rfl (fun ls hl => ?_)
                  refine lv_goto (tgt := 112) hx hb dX12_lacksOf_208 (by decide) ?_
                  exact ih_lp13418 z13475 x7_lp13418 v_lp13418 F_lp13418 _ _ _ (by omega) (by omega) hf_lp13418 hI hF hP hS (lv_sub hl [0, 1, 2, 3, 4, 5, 6, 7, 8, 9] rfl)
      obtain ⟨n9, hn9⟩ : ∃ n : Nat, 2147483648 - 0 ≤ (n : Int) := ⟨((2147483648 - 0 : Int)).toNat, by omega⟩
      exact lp13418 n9 0 0 v F H _ ls (by have : (0 : Int32).toInt = 0 := (by decide); have : (0 : Int32).toInt = 0 := (by decide); omega) (by have : (0 : Int32).toInt = 0 := (by decide); have : (0 : Int32).toInt = 0 := (by decide); omega) (fun _ _ => rfl) hI hF hP hS hl
  · refine lv_tableIn (off := 294) (tgt := 316) hx hb dX12_lacksOf_22 hlo12887 hhi12888 (by rw [hk]; decide) (by decide) ?_
    refine lv_iconst (v := 0) hx hb dX12_lacksOf_316 (by decide) ?_
    refine lv_istore (lv' := [(8, .int 0), (7, .int 0), (6, .int z12885), (5, .int z12882), (0, .ref (g 0)), (1, .int p0), (2, .int p1), (3, .int p2), (4, .int p3)]) hx hb dX12_lacksOf_317 hl (by decide) rfl (fun ls hl => ?_)
    have lp13478 : ∀ (n : Nat) (x8_lp13478 : Int32) (x7_lp13478 : Int32) (v_lp13478 : Nat → Int32) (F_lp13478 : Nat → Nat → Int32) (H : Heap) (locs : List Loc) (ls : Array Slot), (0 ≤ x8_lp13478.toInt) → (2147483648 - x8_lp13478.toInt ≤ (n : Int)) → (∀ k, k ∉ ([] : List Nat) → v_lp13478 k = v k) → IM v_lp13478 F_lp13478 → (∀ k, k ∉ ([30, 31] : List Nat) → F_lp13478 k = F k) → va_P (dC, dI) classes (wM g c v_lp13478 F_lp13478 rc) H → va_S (AM g s.heap.size) s.heap H locs → lv_has ls 11 [(8, .int x8_lp13478), (7, .int x7_lp13478), (6, .int z12885), (5, .int z12882), (0, .ref (g 0)), (1, .int p0), (2, .int p1), (3, .int p2), (4, .int p3)] → W p l e (headSpec (Cond.code yX12_lacksOf cX12_lacksOf 11 (some .int) :: wA) ({ frames := 5, cells := 0, slots := 0, locals := 200 })).room s m ([.ref (g 0), .int p0, .int p1, .int p2, .int p3] : List Value).toArray below meth c0 H locs 0 0 (MQ below (va_Qi (fun (r : Int32) (u : StM) => IM u.1 u.2.1 ∧ u.2.2 = rc ∧ (∀ k, k ∉ ([] : List Nat) → u.1 k = v k) ∧ (∀ k, k ∉ ([30, 31] : List Nat) → u.2.1 k = F k) ∧ True) (BM dC dI g c) (AM g s.heap.size)) ([.ref (g 0), .int p0, .int p1, .int p2, .int p3] : List Value).toArray s 0 0 (AM g s.heap.size)) (F0 m 319 ls []) := by
      intro n
      induction n with
      | zero =>
        intro x8_lp13478 x7_lp13478 v_lp13478 F_lp13478 H locs ls t13479 hm hf_lp13478 hI hF hP hS hl
        exfalso
        have := i32_rng x8_lp13478
        have := i32_rng x7_lp13478
        have hI1 := hI.1
        omega
      | succ n ih_lp13478 =>
        intro x8_lp13478 x7_lp13478 v_lp13478 F_lp13478 H locs ls t13479 hm hf_lp13478 hI hF hP hS hl
        have rx8_lp13478 := i32_rng x8_lp13478
        have rx7_lp13478 := i32_rng x7_lp13478
        refine lv_iload hx hb dX12_lacksOf_319 (lv_at hl 0 rfl) ?_
        refine lv_aload_n hx hb dX12_lacksOf_321 rfl (lv_at hl 4 rfl) ?_
        refine va_get (D := (dC, dI)) (ci := 12) (v := .int (v_lp13478 2)) (C := RX12) (T := TX12) (N := 63) hx hb hwd inA_X12 hown hK hP 0 rfl rfl 2 (by decide) (hwd _ wk_251) (fun _ h9 => h9) rfl dX12_lacksOf_322 ?_
        refine my_top (v := v 2) (hf_lp13478 2 (by decide)) ?_
        have t13480 : 0 ≤ (v 2).toInt ∧ (v 2).toInt ≤ 10 := by have h9 := hI.1 2 _ _ rfl; rw [show v_lp13478 2 = v 2 from hf_lp13478 2 (by decide)] at h9; exact h9
        refine lv_icmp_ge (tgt := 428) hx hb dX12_lacksOf_325 (by decide) (fun c13481 => ?_) (fun c13481 => ?_)
        · skip
          have t13482 := cv_le (a := (v 2).toInt) rfl (b := x8_lp13478.toInt) rfl c13481
          refine lv_iload hx hb dX12_lacksOf_428 (lv_at hl 1 rfl) ?_
          have hP9 : va_P (dC, dI) classes (wM g c v_lp13478 F_lp13478 rc) H := hP
          exact W.iret (v := x7_lp13478) hx hb hr (fun t ht hW => ⟨⟨x7_lp13478, (v_lp13478, F_lp13478, rc), rfl, ⟨hI, rfl, (frC (by decide) hf_lp13478 (fun _ _ => rfl)), hF, trivial⟩, (by show va_P _ _ _ t.heap; rw [ht]; exact hP9)⟩, hS.F ht⟩) hS.2.2 dX12_lacksOf_430
        · skip
          have t13483 := cv_nle (a := (v 2).toInt) rfl (b := x8_lp13478.toInt) rfl c13481
          refine lv_iconst (v := 0) hx hb dX12_lacksOf_328 (by decide) ?_
          refine lv_istore (lv' := [(9, .int 0), (8, .int x8_lp13478), (7, .int x7_lp13478), (6, .int z12885), (5, .int z12882), (0, .ref (g 0)), (1, .int p0), (2, .int p1), (3, .int p2), (4, .int p3)]) hx hb dX12_lacksOf_329 hl (by decide) rfl (fun ls hl => ?_)
          refine lv_iconst (v := 0) hx hb dX12_lacksOf_331 (by decide) ?_
          refine lv_istore (lv' := [(10, .int 0), (9, .int 0), (8, .int x8_lp13478), (7, .int x7_lp13478), (6, .int z12885), (5, .int z12882), (0, .ref (g 0)), (1, .int p0), (2, .int p1), (3, .int p2), (4, .int p3)]) hx hb dX12_lacksOf_332 hl (by decide) rfl (fun ls hl => ?_)
          have lp13484 : ∀ (n : Nat) (x10_lp13484 : Int32) (x9_lp13484 : Int32) (v_lp13484 : Nat → Int32) (F_lp13484 : Nat → Nat → Int32) (H : Heap) (locs : List Loc) (ls : Array Slot), (0 ≤ x10_lp13484.toInt) → (2147483648 - x10_lp13484.toInt ≤ (n : Int)) → (∀ k, k ∉ ([] : List Nat) → v_lp13484 k = v_lp13478 k) → IM v_lp13484 F_lp13484 → (∀ k, k ∉ ([30, 31] : List Nat) → F_lp13484 k = F k) → va_P (dC, dI) classes (wM g c v_lp13484 F_lp13484 rc) H → va_S (AM g s.heap.size) s.heap H locs → lv_has ls 11 [(10, .int x10_lp13484), (9, .int x9_lp13484), (8, .int x8_lp13478), (7, .int x7_lp13478), (6, .int z12885), (5, .int z12882), (0, .ref (g 0)), (1, .int p0), (2, .int p1), (3, .int p2), (4, .int p3)] → W p l e (headSpec (Cond.code yX12_lacksOf cX12_lacksOf 11 (some .int) :: wA) ({ frames := 5, cells := 0, slots := 0, locals := 200 })).room s m ([.ref (g 0), .int p0, .int p1, .int p2, .int p3] : List Value).toArray below meth c0 H locs 0 0 (MQ below (va_Qi (fun (r : Int32) (u : StM) => IM u.1 u.2.1 ∧ u.2.2 = rc ∧ (∀ k, k ∉ ([] : List Nat) → u.1 k = v k) ∧ (∀ k, k ∉ ([30, 31] : List Nat) → u.2.1 k = F k) ∧ True) (BM dC dI g c) (AM g s.heap.size)) ([.ref (g 0), .int p0, .int p1, .int p2, .int p3] : List Value).toArray s 0 0 (AM g s.heap.size)) (F0 m 334 ls []) := by
            intro n
            induction n with
            | zero =>
              intro x10_lp13484 x9_lp13484 v_lp13484 F_lp13484 H locs ls t13485 hm hf_lp13484 hI hF hP hS hl
              exfalso
              have := i32_rng x10_lp13484
              have := i32_rng x9_lp13484
              have hI1 := hI.1
              omega
            | succ n ih_lp13484 =>
              intro x10_lp13484 x9_lp13484 v_lp13484 F_lp13484 H locs ls t13485 hm hf_lp13484 hI hF hP hS hl
              have rx10_lp13484 := i32_rng x10_lp13484
              have rx9_lp13484 := i32_rng x9_lp13484
              refine lv_iload hx hb dX12_lacksOf_334 (lv_at hl 0 rfl) ?_
              refine lv_aload_n hx hb dX12_lacksOf_336 rfl (lv_at hl 6 rfl) ?_
              refine va_get (D := (dC, dI)) (ci := 12) (v := .int (v_lp13484 14)) (C := RX12) (T := TX12) (N := 63) hx hb hwd inA_X12 hown hK hP 0 rfl rfl 14 (by decide) (hwd _ wk_318) (fun _ h9 => h9) rfl dX12_lacksOf_337 ?_
              refine my_top (v := v 14) ((hf_lp13484 14 (by decide)).trans (hf_lp13478 14 (by decide))) ?_
              have t13486 : 0 ≤ (v 14).toInt ∧ (v 14).toInt ≤ 100 := by have h9 := hI.1 14 _ _ rfl; rw [show v_lp13484 14 = v 14 from (hf_lp13484 14 (by decide)).trans (hf_lp13478 14 (by decide))] at h9; exact h9
              refine lv_icmp_ge (tgt := 381) hx hb dX12_lacksOf_340 (by decide) (fun c13487 => ?_) (fun c13487 => ?_)
              · skip
                have t13488 := cv_le (a := (v 14).toInt) rfl (b := x10_lp13484.toInt) rfl c13487
                refine lv_iload hx hb dX12_lacksOf_381 (lv_at hl 3 rfl) ?_
                refine lv_iload hx hb dX12_lacksOf_383 (lv_at hl 1 rfl) ?_
                refine lv_aload_n hx hb dX12_lacksOf_385 rfl (lv_at hl 6 rfl) ?_
                refine va_get (D := (dC, dI)) (ci := 12) (v := .ref (g 9)) (C := RX12) (T := TX12) (N := 63) hx hb hwd inA_X12 hown hK hP 0 rfl rfl 12 (by decide) (hwd _ wk_190) (fun _ h9 => h9) rfl dX12_lacksOf_386 ?_
                refine lv_bipush (v := 10) hx hb dX12_lacksOf_389 (by decide) ?_
                refine lv_iload_n hx hb dX12_lacksOf_391 rfl (lv_at hl 7 rfl) ?_
                refine lv_imul hx hb dX12_lacksOf_392 ?_
                refine lv_topi (fun z13489 e13490 => ?_)
                try (have t13491 := tmul e13490 (a := 10) (by decide) (b := p0.toInt) rfl (by omega))
                refine lv_iload hx hb dX12_lacksOf_393 (lv_at hl 2 rfl) ?_
                refine lv_iadd hx hb dX12_lacksOf_395 ?_
                refine lv_topi (fun z13492 e13493 => ?_)
                try (have t13494 := tadd e13493 (a := z13489.toInt) rfl (b := x8_lp13478.toInt) rfl (by omega))
                refine va_iald hx hb hK hP 9 8 rfl rfl (i := z13492) (vin (a := z13492.toInt) rfl (by omega)) dX12_lacksOf_396 ?_
                refine lv_topi (fun z13495 e13496 => ?_)
                have e13496 : z13495 = F 9 (z13492 : Int32).toNatClampNeg := e13496.trans (congrFun (hF 9 (by decide)) _)
                refine lv_icmp_ge (tgt := 418) hx hb dX12_lacksOf_397 (by decide) (fun c13497 => ?_) (fun c13497 => ?_)
                · skip
                  have t13498 := cv_le (a := z13495.toInt) rfl (b := x9_lp13484.toInt) rfl c13497
                  refine lv_iconst (v := 0) hx hb dX12_lacksOf_418 (by decide) ?_
                  refine lv_iadd hx hb dX12_lacksOf_419 ?_
                  refine lv_topi (fun z13499 e13500 => ?_)
                  try (have t13501 := tadd e13500 (a := x7_lp13478.toInt) rfl (b := 0) (by decide) (by omega))
                  refine lv_istore (lv' := [(7, .int z13499), (10, .int x10_lp13484), (9, .int x9_lp13484), (8, .int x8_lp13478), (6, .int z12885), (5, .int z12882), (0, .ref (g 0)), (1, .int p0), (2, .int p1), (3, .int p2), (4, .int p3)]) hx hb dX12_lacksOf_420 hl (by decide) rfl (fun ls hl => ?_)
                  obtain ⟨z13502, e13503⟩ : ∃ y : Int32, y = x8_lp13478 + 1 := ⟨_, rfl⟩
                  try (have t13504 := tadd e13503 rfl (b := 1) (by decide) (by omega))
                  refine lv_iinc (v := z13502) (lv' := [(8, .int z13502), (7, .int z13499), (10, .int x10_lp13484), (9, .int x9_lp13484), (6, .int z12885), (5, .int z12882), (0, .ref (g 0)), (1, .int p0), (2, .int p1), (3, .int p2), (4, .int p3)]) hx hb dX12_lacksOf_422 hl (k := 3) rfl (by rw [e13503]; rfl) (by decide) rfl (fun ls hl => ?_)
                  refine lv_goto (tgt := 319) hx hb dX12_lacksOf_425 (by decide) ?_
                  exact ih_lp13478 z13502 z13499 v_lp13484 F_lp13484 _ _ _ (by omega) (by omega) (frC (by decide) hf_lp13484 hf_lp13478) hI hF hP hS (lv_sub hl [0, 1, 4, 5, 6, 7, 8, 9, 10] rfl)
                · skip
                  have t13505 := cv_nle (a := z13495.toInt) rfl (b := x9_lp13484.toInt) rfl c13497
                  refine lv_aload_n hx hb dX12_lacksOf_400 rfl (lv_at hl 6 rfl) ?_
                  refine va_get (D := (dC, dI)) (ci := 12) (v := .ref (g 9)) (C := RX12) (T := TX12) (N := 63) hx hb hwd inA_X12 hown hK hP 0 rfl rfl 12 (by decide) (hwd _ wk_190) (fun _ h9 => h9) rfl dX12_lacksOf_401 ?_
                  refine lv_bipush (v := 10) hx hb dX12_lacksOf_404 (by decide) ?_
                  refine lv_iload_n hx hb dX12_lacksOf_406 rfl (lv_at hl 7 rfl) ?_
                  refine lv_imul hx hb dX12_lacksOf_407 ?_
                  refine lv_topi (fun z13506 e13507 => ?_)
                  try (have t13508 := tmul e13507 (a := 10) (by decide) (b := p0.toInt) rfl (by omega))
                  refine lv_iload hx hb dX12_lacksOf_408 (lv_at hl 2 rfl) ?_
                  refine lv_iadd hx hb dX12_lacksOf_410 ?_
                  refine lv_topi (fun z13509 e13510 => ?_)
                  try (have t13511 := tadd e13510 (a := z13506.toInt) rfl (b := x8_lp13478.toInt) rfl (by omega))
                  refine va_iald hx hb hK hP 9 8 rfl rfl (i := z13509) (vin (a := z13509.toInt) rfl (by omega)) dX12_lacksOf_411 ?_
                  refine lv_topi (fun z13512 e13513 => ?_)
                  have e13513 : z13512 = F 9 (z13509 : Int32).toNatClampNeg := e13513.trans (congrFun (hF 9 (by decide)) _)
                  refine lv_iload hx hb dX12_lacksOf_412 (lv_at hl 1 rfl) ?_
                  refine lv_isub hx hb dX12_lacksOf_414 ?_
                  refine lv_topi (fun z13514 e13515 => ?_)
                  try (have t13516 := tsub e13515 (a := z13512.toInt) rfl (b := x9_lp13484.toInt) rfl (by omega))
                  refine lv_goto (tgt := 419) hx hb dX12_lacksOf_415 (by decide) ?_
                  refine lv_iadd hx hb dX12_lacksOf_419 ?_
                  refine lv_topi (fun z13517 e13518 => ?_)
                  try (have t13519 := tadd e13518 (a := x7_lp13478.toInt) rfl (b := z13514.toInt) rfl (by omega))
                  refine lv_istore (lv' := [(7, .int z13517), (10, .int x10_lp13484), (9, .int x9_lp13484), (8, .int x8_lp13478), (6, .int z12885), (5, .int z12882), (0, .ref (g 0)), (1, .int p0), (2, .int p1), (3, .int p2), (4, .int p3)]) hx hb dX12_lacksOf_420 hl (by decide) rfl (fun ls hl => ?_)
                  obtain ⟨z13520, e13521⟩ : ∃ y : Int32, y = x8_lp13478 + 1 := ⟨_, rfl⟩
                  try (have t13522 := tadd e13521 rfl (b := 1) (by decide) (by omega))
                  refine lv_iinc (v := z13520) (lv' := [(8, .int z13520), (7, .int z13517), (10, .int x10_lp13484), (9, .int x9_lp13484), (6, .int z12885), (5, .int z12882), (0, .ref (g 0)), (1, .int p0), (2, .int p1), (3, .int p2), (4, .int p3)]) hx hb dX12_lacksOf_422 hl (k := 3) rfl (by rw [e13521]; rfl) (by decide) rfl (fun ls hl => ?_)
                  refine lv_goto (tgt := 319) hx hb dX12_lacksOf_425 (by decide) ?_
                  exact ih_lp13478 z13520 z13517 v_lp13484 F_lp13484 _ _ _ (by omega) (by omega) (frC (by decide) hf_lp13484 hf_lp13478) hI hF hP hS (lv_sub hl [0, 1, 4, 5, 6, 7, 8, 9, 10] rfl)
              · skip
                have t13523 := cv_nle (a := (v 14).toInt) rfl (b := x10_lp13484.toInt) rfl c13487
                refine lv_iload hx hb dX12_lacksOf_343 (lv_at hl 1 rfl) ?_
                refine lv_aload_n hx hb dX12_lacksOf_345 rfl (lv_at hl 6 rfl) ?_
                refine va_get (D := (dC, dI)) (ci := 12) (v := .ref (g 42)) (C := RX12) (T := TX12) (N := 63) hx hb hwd inA_X12 hown hK hP 0 rfl rfl 56 (by decide) (hwd _ wk_224) (fun _ h9 => h9) rfl dX12_lacksOf_346 ?_
                refine lv_iload hx hb dX12_lacksOf_349 (lv_at hl 0 rfl) ?_
                refine va_zald hx hb hK hP 42 41 rfl rfl (i := x10_lp13484) (vin (a := x10_lp13484.toInt) rfl (by omega)) dX12_lacksOf_351 ?_
                refine lv_topi (fun z13524 e13525 => ?_)
                have e13525 : z13524 = F 42 (x10_lp13484 : Int32).toNatClampNeg := e13525.trans (congrFun (hF 42 (by decide)) _)
                refine lv_if_eq (tgt := 371) hx hb dX12_lacksOf_352 (by decide) (fun c13526 => ?_) (fun c13526 => ?_)
                · skip
                  have t13527 := cv_eq (a := z13524.toInt) rfl (b := 0) (by decide) c13526
                  refine lv_iconst (v := 0) hx hb dX12_lacksOf_371 (by decide) ?_
                  refine lv_iadd hx hb dX12_lacksOf_372 ?_
                  refine lv_topi (fun z13528 e13529 => ?_)
                  try (have t13530 := tadd e13529 (a := x9_lp13484.toInt) rfl (b := 0) (by decide) (by omega))
                  refine lv_istore (lv' := [(9, .int z13528), (10, .int x10_lp13484), (8, .int x8_lp13478), (7, .int x7_lp13478), (6, .int z12885), (5, .int z12882), (0, .ref (g 0)), (1, .int p0), (2, .int p1), (3, .int p2), (4, .int p3)]) hx hb dX12_lacksOf_373 hl (by decide) rfl (fun ls hl => ?_)
                  obtain ⟨z13531, e13532⟩ : ∃ y : Int32, y = x10_lp13484 + 1 := ⟨_, rfl⟩
                  try (have t13533 := tadd e13532 rfl (b := 1) (by decide) (by omega))
                  refine lv_iinc (v := z13531) (lv' := [(10, .int z13531), (9, .int z13528), (8, .int x8_lp13478), (7, .int x7_lp13478), (6, .int z12885), (5, .int z12882), (0, .ref (g 0)), (1, .int p0), (2, .int p1), (3, .int p2), (4, .int p3)]) hx hb dX12_lacksOf_375 hl (k := 1) rfl (by rw [e13532]; rfl) (by decide) rfl (fun ls hl => ?_)
                  refine lv_goto (tgt := 334) hx hb dX12_lacksOf_378 (by decide) ?_
                  exact ih_lp13484 z13531 z13528 v_lp13484 F_lp13484 _ _ _ (by omega) (by omega) hf_lp13484 hI hF hP hS (lv_sub hl [0, 1, 2, 3, 4, 5, 6, 7, 8, 9, 10] rfl)
                · skip
                  have t13534 := cv_ne (a := z13524.toInt) rfl (b := 0) (by decide) c13526
                  refine lv_aload_n hx hb dX12_lacksOf_355 rfl (lv_at hl 6 rfl) ?_
                  refine va_get (D := (dC, dI)) (ci := 12) (v := .ref (g 11)) (C := RX12) (T := TX12) (N := 63) hx hb hwd inA_X12 hown hK hP 0 rfl rfl 15 (by decide) (hwd _ wk_192) (fun _ h9 => h9) rfl dX12_lacksOf_356 ?_
                  refine lv_iload hx hb dX12_lacksOf_359 (lv_at hl 0 rfl) ?_
                  refine va_iald hx hb hK hP 11 10 rfl rfl (i := x10_lp13484) (vin (a := x10_lp13484.toInt) rfl (by omega)) dX12_lacksOf_361 ?_
                  refine lv_topi (fun z13535 e13536 => ?_)
                  have t13537 : 0 ≤ z13535.toInt ∧ z13535.toInt ≤ 9 := by rw [e13536]; exact hI.2 11 _ _ rfl _
                  have e13536 : z13535 = F 11 (x10_lp13484 : Int32).toNatClampNeg := e13536.trans (congrFun (hF 11 (by decide)) _)
                  refine lv_iload hx hb dX12_lacksOf_362 (lv_at hl 2 rfl) ?_
                  refine lv_icmp_ne (tgt := 371) hx hb dX12_lacksOf_364 (by decide) (fun c13538 => ?_) (fun c13538 => ?_)
                  · skip
                    have t13539 := cv_ne (a := z13535.toInt) rfl (b := x8_lp13478.toInt) rfl c13538
                    refine lv_iconst (v := 0) hx hb dX12_lacksOf_371 (by decide) ?_
                    refine lv_iadd hx hb dX12_lacksOf_372 ?_
                    refine lv_topi (fun z13540 e13541 => ?_)
                    try (have t13542 := tadd e13541 (a := x9_lp13484.toInt) rfl (b := 0) (by decide) (by omega))
                    refine lv_istore (lv' := [(9, .int z13540), (10, .int x10_lp13484), (8, .int x8_lp13478), (7, .int x7_lp13478), (6, .int z12885), (5, .int z12882), (0, .ref (g 0)), (1, .int p0), (2, .int p1), (3, .int p2), (4, .int p3)]) hx hb dX12_lacksOf_373 hl (by decide) rfl (fun ls hl => ?_)
                    obtain ⟨z13543, e13544⟩ : ∃ y : Int32, y = x10_lp13484 + 1 := ⟨_, rfl⟩
                    try (have t13545 := tadd e13544 rfl (b := 1) (by decide) (by omega))
                    refine lv_iinc (v := z13543) (lv' := [(10, .int z13543), (9, .int z13540), (8, .int x8_lp13478), (7, .int x7_lp13478), (6, .int z12885), (5, .int z12882), (0, .ref (g 0)), (1, .int p0), (2, .int p1), (3, .int p2), (4, .int p3)]) hx hb dX12_lacksOf_375 hl (k := 1) rfl (by rw [e13544]; rfl) (by decide) rfl (fun ls hl => ?_)
                    refine lv_goto (tgt := 334) hx hb dX12_lacksOf_378 (by decide) ?_
                    exact ih_lp13484 z13543 z13540 v_lp13484 F_lp13484 _ _ _ (by omega) (by omega) hf_lp13484 hI hF hP hS (lv_sub hl [0, 1, 2, 3, 4, 5, 6, 7, 8, 9, 10] rfl)
                  · skip
                    have t13546 := cv_eq (a := z13535.toInt) rfl (b := x8_lp13478.toInt) rfl c13538
                    refine lv_iconst (v := 1) hx hb dX12_lacksOf_367 (by decide) ?_
                    refine lv_goto (tgt := 372) hx hb dX12_lacksOf_368 (by decide) ?_
                    refine lv_iadd hx hb dX12_lacksOf_372 ?_
                    refine lv_topi (fun z13547 e13548 => ?_)
                    try (have t13549 := tadd e13548 (a := x9_lp13484.toInt) rfl (b := 1) (by decide) (by omega))
                    refine lv_istore (lv' := [(9, .int z13547), (10, .int x10_lp13484), (8, .int x8_lp13478), (7, .int x7_lp13478), (6, .int z12885), (5, .int z12882), (0, .ref (g 0)), (1, .int p0), (2, .int p1), (3, .int p2), (4, .int p3)]) hx hb dX12_lacksOf_373 hl (by decide) rfl (fun ls hl => ?_)
                    obtain ⟨z13550, e13551⟩ : ∃ y : Int32, y = x10_lp13484 + 1 := ⟨_, rfl⟩
                    try (have t13552 := tadd e13551 rfl (b := 1) (by decide) (by omega))
                    refine lv_iinc (v := z13550) (lv' := [(10, .int z13550), (9, .int z13547), (8, .int x8_lp13478), (7, .int x7_lp13478), (6, .int z12885), (5, .int z12882), (0, .ref (g 0)), (1, .int p0), (2, .int p1), (3, .int p2), (4, .int p3)]) hx hb dX12_lacksOf_375 hl (k := 1) rfl (by rw [e13551]; rfl) (by decide) rfl (fun ls hl => ?_)
                    refine lv_goto (tgt := 334) hx hb dX12_lacksOf_378 (by decide) ?_
                    exact ih_lp13484 z13550 z13547 v_lp13484 F_lp13484 _ _ _ (by omega) (by omega) hf_lp13484 hI hF hP hS (lv_sub hl [0, 1, 2, 3, 4, 5, 6, 7, 8, 9, 10] rfl)
          obtain ⟨n9, hn9⟩ : ∃ n : Nat, 2147483648 - 0 ≤ (n : Int) := ⟨((2147483648 - 0 : Int)).toNat, by omega⟩
          exact lp13484 n9 0 0 v_lp13478 F_lp13478 H _ ls (by have : (0 : Int32).toInt = 0 := (by decide); have : (0 : Int32).toInt = 0 := (by decide); omega) (by have : (0 : Int32).toInt = 0 := (by decide); have : (0 : Int32).toInt = 0 := (by decide); omega) (fun _ _ => rfl) hI hF hP hS hl
    obtain ⟨n9, hn9⟩ : ∃ n : Nat, 2147483648 - 0 ≤ (n : Int) := ⟨((2147483648 - 0 : Int)).toNat, by omega⟩
    exact lp13478 n9 0 0 v F H _ ls (by have : (0 : Int32).toInt = 0 := (by decide); have : (0 : Int32).toInt = 0 := (by decide); omega) (by have : (0 : Int32).toInt = 0 := (by decide); have : (0 : Int32).toInt = 0 := (by decide); omega) (fun _ _ => rfl) hI hF hP hS hl
  · refine lv_tableIn (off := 409) (tgt := 431) hx hb dX12_lacksOf_22 hlo12887 hhi12888 (by rw [hk]; decide) (by decide) ?_
    refine lv_aload_n hx hb dX12_lacksOf_431 rfl (lv_at hl 3 rfl) ?_
    refine lv_iload_n hx hb dX12_lacksOf_432 rfl (lv_at hl 4 rfl) ?_
    refine lv_iload_n hx hb dX12_lacksOf_433 rfl (lv_at hl 6 rfl) ?_
    refine va_calli (va_runV (As := [.int p0, .int p2]) (rest := []) ⟨hx, hb, hml, hown, hwd⟩ (c_X12_late l dC dI g c adK adV v F rc H.size p0 p2 hg hI (by omega)) (cwV 2 hwd (gV wk_1213 wk_1210 wk_1211 wk_1212 wk_5) rfl rfl rfl (by decide +kernel) ⟨Nat.le_of_ble_eq_true rfl, Nat.le_of_ble_eq_true rfl⟩) ⟨PM.blind, va_recv hK hP (ci := 12) (q0 := 0) rfl rfl, fun U hU hW => ⟨rfl, PM.at hK hE hP hS hU hW⟩⟩ rfl rfl hl.1 rfl (lv_room (Nat.le_of_ble_eq_true rfl)) dX12_lacksOf_434 ⟨Nat.le_of_ble_eq_true rfl, Nat.le_of_ble_eq_true rfl⟩) hS (fun q _ h => (freeM hS) q h) (freeM hS) (fun r13553 u t H1 locs ht hvm hw hB hz1 hk1 hS => ?_)
    unfold BM at hB
    rw [ht] at hB
    have hP : va_P (dC, dI) classes (wM g c v F rc) H1 := hB
    clear hz1
    generalize H1 = H at hP hS ⊢
    have rr_r13553 := i32_rng r13553
    have hP9 : va_P (dC, dI) classes (wM g c v F rc) H := hP
    exact W.iret (v := r13553) hx hb hr (fun t ht hW => ⟨⟨r13553, (v, F, rc), rfl, ⟨hI, rfl, (fun _ _ => rfl), hF, trivial⟩, (by show va_P _ _ _ t.heap; rw [ht]; exact hP9)⟩, hS.F ht⟩) hS.2.2 dX12_lacksOf_437
  · refine lv_tableIn (off := 238) (tgt := 260) hx hb dX12_lacksOf_22 hlo12887 hhi12888 (by rw [hk]; decide) (by decide) ?_
    refine lv_iconst (v := 0) hx hb dX12_lacksOf_260 (by decide) ?_
    refine lv_istore (lv' := [(8, .int 0), (7, .int 0), (6, .int z12885), (5, .int z12882), (0, .ref (g 0)), (1, .int p0), (2, .int p1), (3, .int p2), (4, .int p3)]) hx hb dX12_lacksOf_261 hl (by decide) rfl (fun ls hl => ?_)
    have lp13554 : ∀ (n : Nat) (x8_lp13554 : Int32) (x7_lp13554 : Int32) (v_lp13554 : Nat → Int32) (F_lp13554 : Nat → Nat → Int32) (H : Heap) (locs : List Loc) (ls : Array Slot), (0 ≤ x8_lp13554.toInt) → (2147483648 - x8_lp13554.toInt ≤ (n : Int)) → (∀ k, k ∉ ([] : List Nat) → v_lp13554 k = v k) → IM v_lp13554 F_lp13554 → (∀ k, k ∉ ([30, 31] : List Nat) → F_lp13554 k = F k) → va_P (dC, dI) classes (wM g c v_lp13554 F_lp13554 rc) H → va_S (AM g s.heap.size) s.heap H locs → lv_has ls 11 [(8, .int x8_lp13554), (7, .int x7_lp13554), (6, .int z12885), (5, .int z12882), (0, .ref (g 0)), (1, .int p0), (2, .int p1), (3, .int p2), (4, .int p3)] → W p l e (headSpec (Cond.code yX12_lacksOf cX12_lacksOf 11 (some .int) :: wA) ({ frames := 5, cells := 0, slots := 0, locals := 200 })).room s m ([.ref (g 0), .int p0, .int p1, .int p2, .int p3] : List Value).toArray below meth c0 H locs 0 0 (MQ below (va_Qi (fun (r : Int32) (u : StM) => IM u.1 u.2.1 ∧ u.2.2 = rc ∧ (∀ k, k ∉ ([] : List Nat) → u.1 k = v k) ∧ (∀ k, k ∉ ([30, 31] : List Nat) → u.2.1 k = F k) ∧ True) (BM dC dI g c) (AM g s.heap.size)) ([.ref (g 0), .int p0, .int p1, .int p2, .int p3] : List Value).toArray s 0 0 (AM g s.heap.size)) (F0 m 263 ls []) := by
      intro n
      induction n with
      | zero =>
        intro x8_lp13554 x7_lp13554 v_lp13554 F_lp13554 H locs ls t13555 hm hf_lp13554 hI hF hP hS hl
        exfalso
        have := i32_rng x8_lp13554
        have := i32_rng x7_lp13554
        have hI1 := hI.1
        omega
      | succ n ih_lp13554 =>
        intro x8_lp13554 x7_lp13554 v_lp13554 F_lp13554 H locs ls t13555 hm hf_lp13554 hI hF hP hS hl
        have rx8_lp13554 := i32_rng x8_lp13554
        have rx7_lp13554 := i32_rng x7_lp13554
        refine lv_iload hx hb dX12_lacksOf_263 (lv_at hl 0 rfl) ?_
        refine lv_aload_n hx hb dX12_lacksOf_265 rfl (lv_at hl 4 rfl) ?_
        refine va_get (D := (dC, dI)) (ci := 12) (v := .int (v_lp13554 45)) (C := RX12) (T := TX12) (N := 63) hx hb hwd inA_X12 hown hK hP 0 rfl rfl 45 (by decide) (hwd _ wk_485) (fun _ h9 => h9) rfl dX12_lacksOf_266 ?_
        refine my_top (v := v 45) (hf_lp13554 45 (by decide)) ?_
        have t13556 : 0 ≤ (v 45).toInt ∧ (v 45).toInt ≤ 20 := by have h9 := hI.1 45 _ _ rfl; rw [show v_lp13554 45 = v 45 from hf_lp13554 45 (by decide)] at h9; exact h9
        refine lv_icmp_ge (tgt := 313) hx hb dX12_lacksOf_269 (by decide) (fun c13557 => ?_) (fun c13557 => ?_)
        · skip
          have t13558 := cv_le (a := (v 45).toInt) rfl (b := x8_lp13554.toInt) rfl c13557
          refine lv_iload hx hb dX12_lacksOf_313 (lv_at hl 1 rfl) ?_
          have hP9 : va_P (dC, dI) classes (wM g c v_lp13554 F_lp13554 rc) H := hP
          exact W.iret (v := x7_lp13554) hx hb hr (fun t ht hW => ⟨⟨x7_lp13554, (v_lp13554, F_lp13554, rc), rfl, ⟨hI, rfl, (frC (by decide) hf_lp13554 (fun _ _ => rfl)), hF, trivial⟩, (by show va_P _ _ _ t.heap; rw [ht]; exact hP9)⟩, hS.F ht⟩) hS.2.2 dX12_lacksOf_315
        · skip
          have t13559 := cv_nle (a := (v 45).toInt) rfl (b := x8_lp13554.toInt) rfl c13557
          refine lv_iload hx hb dX12_lacksOf_272 (lv_at hl 1 rfl) ?_
          refine lv_aload_n hx hb dX12_lacksOf_274 rfl (lv_at hl 4 rfl) ?_
          refine lv_iload hx hb dX12_lacksOf_275 (lv_at hl 0 rfl) ?_
          refine lv_iload_n hx hb dX12_lacksOf_277 rfl (lv_at hl 5 rfl) ?_
          refine va_calli (va_runV (As := [.int x8_lp13554, .int p0]) (rest := [.int x7_lp13554]) ⟨hx, hb, hml, hown, hwd⟩ (c_X12_asks l dC dI g c adK adV v_lp13554 F_lp13554 rc H.size x8_lp13554 p0 hg hI (by omega) (by omega)) (cwV 2 hwd (gV wk_520 wk_517 wk_518 wk_519 wk_5) rfl rfl rfl (by decide +kernel) ⟨Nat.le_of_ble_eq_true rfl, Nat.le_of_ble_eq_true rfl⟩) ⟨PM.blind, va_recv hK hP (ci := 12) (q0 := 0) rfl rfl, fun U hU hW => ⟨rfl, PM.at hK hE hP hS hU hW⟩⟩ rfl rfl hl.1 rfl (lv_room (Nat.le_of_ble_eq_true rfl)) dX12_lacksOf_278 ⟨Nat.le_of_ble_eq_true rfl, Nat.le_of_ble_eq_true rfl⟩) hS (fun q _ h => (freeM hS) q h) (freeM hS) (fun r13560 u t H1 locs ht hvm hw hB hz1 hk1 hS => ?_)
          unfold BM at hB
          rw [ht] at hB
          have hP : va_P (dC, dI) classes (wM g c v_lp13554 F_lp13554 rc) H1 := hB
          have hw_r13560 : 0 ≤ r13560.toInt ∧ r13560.toInt ≤ 1 := hw
          clear hw
          clear hz1
          generalize H1 = H at hP hS ⊢
          refine lv_if_eq (tgt := 303) hx hb dX12_lacksOf_281 (by decide) (fun c13561 => ?_) (fun c13561 => ?_)
          · skip
            have t13562 := cv_eq (a := r13560.toInt) rfl (b := 0) (by decide) c13561
            refine lv_iconst (v := 0) hx hb dX12_lacksOf_303 (by decide) ?_
            refine lv_iadd hx hb dX12_lacksOf_304 ?_
            refine lv_topi (fun z13563 e13564 => ?_)
            try (have t13565 := tadd e13564 (a := x7_lp13554.toInt) rfl (b := 0) (by decide) (by omega))
            refine lv_istore (lv' := [(7, .int z13563), (8, .int x8_lp13554), (6, .int z12885), (5, .int z12882), (0, .ref (g 0)), (1, .int p0), (2, .int p1), (3, .int p2), (4, .int p3)]) hx hb dX12_lacksOf_305 hl (by decide) rfl (fun ls hl => ?_)
            obtain ⟨z13566, e13567⟩ : ∃ y : Int32, y = x8_lp13554 + 1 := ⟨_, rfl⟩
            try (have t13568 := tadd e13567 rfl (b := 1) (by decide) (by omega))
            refine lv_iinc (v := z13566) (lv' := [(8, .int z13566), (7, .int z13563), (6, .int z12885), (5, .int z12882), (0, .ref (g 0)), (1, .int p0), (2, .int p1), (3, .int p2), (4, .int p3)]) hx hb dX12_lacksOf_307 hl (k := 1) rfl (by rw [e13567]; rfl) (by decide) rfl (fun ls hl => ?_)
            refine lv_goto (tgt := 263) hx hb dX12_lacksOf_310 (by decide) ?_
            exact ih_lp13554 z13566 z13563 v_lp13554 F_lp13554 _ _ _ (by omega) (by omega) hf_lp13554 hI hF hP hS (lv_sub hl [0, 1, 2, 3, 4, 5, 6, 7, 8] rfl)
          · skip
            have t13569 := cv_ne (a := r13560.toInt) rfl (b := 0) (by decide) c13561
            refine lv_aload_n hx hb dX12_lacksOf_284 rfl (lv_at hl 4 rfl) ?_
            refine va_get (D := (dC, dI)) (ci := 12) (v := .ref (g 34)) (C := RX12) (T := TX12) (N := 63) hx hb hwd inA_X12 hown hK hP 0 rfl rfl 48 (by decide) (hwd _ wk_216) (fun _ h9 => h9) rfl dX12_lacksOf_285 ?_
            refine lv_bipush (v := 10) hx hb dX12_lacksOf_288 (by decide) ?_
            refine lv_iload hx hb dX12_lacksOf_290 (lv_at hl 0 rfl) ?_
            refine lv_imul hx hb dX12_lacksOf_292 ?_
            refine lv_topi (fun z13570 e13571 => ?_)
            try (have t13572 := tmul e13571 (a := 10) (by decide) (b := x8_lp13554.toInt) rfl (by omega))
            refine lv_iload_n hx hb dX12_lacksOf_293 rfl (lv_at hl 5 rfl) ?_
            refine lv_iadd hx hb dX12_lacksOf_294 ?_
            refine lv_topi (fun z13573 e13574 => ?_)
            try (have t13575 := tadd e13574 (a := z13570.toInt) rfl (b := p0.toInt) rfl (by omega))
            refine va_zald hx hb hK hP 34 33 rfl rfl (i := z13573) (vin (a := z13573.toInt) rfl (by omega)) dX12_lacksOf_295 ?_
            refine lv_topi (fun z13576 e13577 => ?_)
            have e13577 : z13576 = F 34 (z13573 : Int32).toNatClampNeg := e13577.trans (congrFun (hF 34 (by decide)) _)
            refine lv_if_ne (tgt := 303) hx hb dX12_lacksOf_296 (by decide) (fun c13578 => ?_) (fun c13578 => ?_)
            · skip
              have t13579 := cv_ne (a := z13576.toInt) rfl (b := 0) (by decide) c13578
              refine lv_iconst (v := 0) hx hb dX12_lacksOf_303 (by decide) ?_
              refine lv_iadd hx hb dX12_lacksOf_304 ?_
              refine lv_topi (fun z13580 e13581 => ?_)
              try (have t13582 := tadd e13581 (a := x7_lp13554.toInt) rfl (b := 0) (by decide) (by omega))
              refine lv_istore (lv' := [(7, .int z13580), (8, .int x8_lp13554), (6, .int z12885), (5, .int z12882), (0, .ref (g 0)), (1, .int p0), (2, .int p1), (3, .int p2), (4, .int p3)]) hx hb dX12_lacksOf_305 hl (by decide) rfl (fun ls hl => ?_)
              obtain ⟨z13583, e13584⟩ : ∃ y : Int32, y = x8_lp13554 + 1 := ⟨_, rfl⟩
              try (have t13585 := tadd e13584 rfl (b := 1) (by decide) (by omega))
              refine lv_iinc (v := z13583) (lv' := [(8, .int z13583), (7, .int z13580), (6, .int z12885), (5, .int z12882), (0, .ref (g 0)), (1, .int p0), (2, .int p1), (3, .int p2), (4, .int p3)]) hx hb dX12_lacksOf_307 hl (k := 1) rfl (by rw [e13584]; rfl) (by decide) rfl (fun ls hl => ?_)
              refine lv_goto (tgt := 263) hx hb dX12_lacksOf_310 (by decide) ?_
              exact ih_lp13554 z13583 z13580 v_lp13554 F_lp13554 _ _ _ (by omega) (by omega) hf_lp13554 hI hF hP hS (lv_sub hl [0, 1, 2, 3, 4, 5, 6, 7, 8] rfl)
            · skip
              have t13586 := cv_eq (a := z13576.toInt) rfl (b := 0) (by decide) c13578
              refine lv_iconst (v := 1) hx hb dX12_lacksOf_299 (by decide) ?_
              refine lv_goto (tgt := 304) hx hb dX12_lacksOf_300 (by decide) ?_
              refine lv_iadd hx hb dX12_lacksOf_304 ?_
              refine lv_topi (fun z13587 e13588 => ?_)
              try (have t13589 := tadd e13588 (a := x7_lp13554.toInt) rfl (b := 1) (by decide) (by omega))
              refine lv_istore (lv' := [(7, .int z13587), (8, .int x8_lp13554), (6, .int z12885), (5, .int z12882), (0, .ref (g 0)), (1, .int p0), (2, .int p1), (3, .int p2), (4, .int p3)]) hx hb dX12_lacksOf_305 hl (by decide) rfl (fun ls hl => ?_)
              obtain ⟨z13590, e13591⟩ : ∃ y : Int32, y = x8_lp13554 + 1 := ⟨_, rfl⟩
              try (have t13592 := tadd e13591 rfl (b := 1) (by decide) (by omega))
              refine lv_iinc (v := z13590) (lv' := [(8, .int z13590), (7, .int z13587), (6, .int z12885), (5, .int z12882), (0, .ref (g 0)), (1, .int p0), (2, .int p1), (3, .int p2), (4, .int p3)]) hx hb dX12_lacksOf_307 hl (k := 1) rfl (by rw [e13591]; rfl) (by decide) rfl (fun ls hl => ?_)
              refine lv_goto (tgt := 263) hx hb dX12_lacksOf_310 (by decide) ?_
              exact ih_lp13554 z13590 z13587 v_lp13554 F_lp13554 _ _ _ (by omega) (by omega) hf_lp13554 hI hF hP hS (lv_sub hl [0, 1, 2, 3, 4, 5, 6, 7, 8] rfl)
    obtain ⟨n9, hn9⟩ : ∃ n : Nat, 2147483648 - 0 ≤ (n : Int) := ⟨((2147483648 - 0 : Int)).toNat, by omega⟩
    exact lp13554 n9 0 0 v F H _ ls (by have : (0 : Int32).toInt = 0 := (by decide); have : (0 : Int32).toInt = 0 := (by decide); omega) (by have : (0 : Int32).toInt = 0 := (by decide); have : (0 : Int32).toInt = 0 := (by decide); omega) (fun _ _ => rfl) hI hF hP hS hl
set_option maxHeartbeats 8000000 in
set_option maxRecDepth 100000 in
theorem c_X12_costOf (l : Launch) (dC : Nat → ClassId) (dI : Nat → Nat → Nat) (g : Nat → Nat) (c : Nat → ClassId) (adK adV : Nat → Nat) (v : Nat → Int32) (F : Nat → Nat → Int32) (rc sz : Nat) (p0 : Int32) (p1 : Int32) (p2 : Int32) (p3 : Int32) (hg : injM g) (hI : IM v F) (h0 : 0 ≤ p0.toInt ∧ p0.toInt ≤ 9) (h1 : 0 ≤ p1.toInt ∧ p1.toInt ≤ 30) (hL : JL (v 31) (F 28) (F 29) (F 27)) : Met l yX12_costOf (Cond.code yX12_costOf cX12_costOf 11 (some .int) :: wA) ({ frames := 6, cells := 0, slots := 0, locals := 240 }) (va_Pc [.ref (g 0), .int p0, .int p1, .int p2, .int p3] (PM dC dI g c adK adV v F rc sz)) (va_Qi (fun (r : Int32) (u : StM) => IM u.1 u.2.1 ∧ u.2.2 = rc ∧ (∀ k, k ∉ ([] : List Nat) → u.1 k = v k) ∧ (∀ k, k ∉ ([30, 31] : List Nat) → u.2.1 k = F k) ∧ True) (BM dC dI g c) (AM g sz)) 0 0 (AM g sz) := by
  refine Met.ofW (cc := cX12_costOf) (maxL := 11) (ret := (some .int)) (by decide) rfl ?_
  intro p e s m args below meth c0 s₁ B hml hv
  obtain ⟨rfl, hsz, hP, hK, hE⟩ := hv
  have hx := B.exec
  have hb := B.bytes
  have hr := B.returns
  have hts := atoms_spec (ws := Cond.code yX12_costOf cX12_costOf 11 (some .int) :: wA) B.pre
  have hwd : ∀ w ∈ wA, w.before _ s = true := fun w h => hts w (List.mem_cons_of_mem _ h)
  have hown : s.vm.findClass RX12 = some m.cls := findClass_of_methodNamed B.named
  have hlocks := B.notSynchronized
  subst hsz
  have hl := lv_entry ([.ref (g 0), .int p0, .int p1, .int p2, .int p3]) (n := 11) (Nat.le_of_ble_eq_true rfl)
  rw [lg_entry_eq]
  generalize (lg_sl ([.ref (g 0), .int p0, .int p1, .int p2, .int p3]) ++ List.replicate (11 - (lg_sl ([.ref (g 0), .int p0, .int p1, .int p2, .int p3])).length) Slot.unset).toArray = ls at hl ⊢
  have hl : lv_has ls 11 [(0, .ref (g 0)), (1, .int p0), (2, .int p1), (3, .int p2), (4, .int p3)] := hl
  obtain ⟨H, eH⟩ : ∃ z, z = s.heap := ⟨_, rfl⟩
  have hP : va_P (dC, dI) classes (wM g c v F rc) H := by rw [eH]; exact hP
  have hS : va_S (AM g s.heap.size) s.heap H [] := by rw [eH]; exact va_S.rf
  refine my_heap eH ?_
  have hF : ∀ k, k ∉ ([30, 31] : List Nat) → F k = F k := fun _ _ => rfl
  have rp0 := i32_rng p0
  have rp1 := i32_rng p1
  have rp2 := i32_rng p2
  have rp3 := i32_rng p3
  have hb31 : 0 ≤ (v 31).toInt ∧ (v 31).toInt ≤ 10 := hI.1 31 _ _ rfl
  refine lv_bipush (v := 32) hx hb dX12_costOf_0 (by decide) ?_
  refine lv_iload_n hx hb dX12_costOf_2 rfl (lv_at hl 1 rfl) ?_
  refine lv_imul hx hb dX12_costOf_3 ?_
  refine lv_topi (fun z13692 e13693 => ?_)
  try (have t13694 := tmul e13693 (a := 32) (by decide) (b := p0.toInt) rfl (by omega))
  refine lv_iload_n hx hb dX12_costOf_4 rfl (lv_at hl 2 rfl) ?_
  refine lv_iadd hx hb dX12_costOf_5 ?_
  refine lv_topi (fun z13695 e13696 => ?_)
  try (have t13697 := tadd e13696 (a := z13692.toInt) rfl (b := p1.toInt) rfl (by omega))
  refine lv_istore (lv' := [(5, .int z13695), (0, .ref (g 0)), (1, .int p0), (2, .int p1), (3, .int p2), (4, .int p3)]) hx hb dX12_costOf_6 hl (by decide) rfl (fun ls hl => ?_)
  refine lv_aload_n hx hb dX12_costOf_8 rfl (lv_at hl 1 rfl) ?_
  refine va_get (D := (dC, dI)) (ci := 12) (v := .ref (g 38)) (C := RX12) (T := TX12) (N := 63) hx hb hwd inA_X12 hown hK hP 0 rfl rfl 52 (by decide) (hwd _ wk_220) (fun _ h9 => h9) rfl dX12_costOf_9 ?_
  refine lv_iload hx hb dX12_costOf_12 (lv_at hl 0 rfl) ?_
  refine va_iald hx hb hK hP 38 37 rfl rfl (i := z13695) (vin (a := z13695.toInt) rfl (by omega)) dX12_costOf_14 ?_
  refine lv_topi (fun z13698 e13699 => ?_)
  refine lv_istore (lv' := [(6, .int z13698), (5, .int z13695), (0, .ref (g 0)), (1, .int p0), (2, .int p1), (3, .int p2), (4, .int p3)]) hx hb dX12_costOf_15 hl (by decide) rfl (fun ls hl => ?_)
  refine lv_aload_n hx hb dX12_costOf_17 rfl (lv_at hl 2 rfl) ?_
  refine lv_iload_n hx hb dX12_costOf_18 rfl (lv_at hl 3 rfl) ?_
  refine lv_iload_n hx hb dX12_costOf_19 rfl (lv_at hl 4 rfl) ?_
  refine lv_iload_n hx hb dX12_costOf_20 rfl (lv_at hl 5 rfl) ?_
  refine lv_iload hx hb dX12_costOf_21 (lv_at hl 6 rfl) ?_
  refine va_calli (va_runV (As := [.int p0, .int p1, .int p2, .int p3]) (rest := []) ⟨hx, hb, hml, hown, hwd⟩ (c_X12_lacksOf l dC dI g c adK adV v F rc H.size p0 p1 p2 p3 hg hI (by omega) (by omega) (JL.to hL (show v 31 = v 31 from rfl) rfl rfl rfl)) (cwV 4 hwd (gV wk_1209 wk_1206 wk_1207 wk_1208 wk_5) rfl rfl rfl (by decide +kernel) ⟨Nat.le_of_ble_eq_true rfl, Nat.le_of_ble_eq_true rfl⟩) ⟨PM.blind, va_recv hK hP (ci := 12) (q0 := 0) rfl rfl, fun U hU hW => ⟨rfl, PM.at hK hE hP hS hU hW⟩⟩ rfl rfl hl.1 rfl (lv_room (Nat.le_of_ble_eq_true rfl)) dX12_costOf_23 ⟨Nat.le_of_ble_eq_true rfl, Nat.le_of_ble_eq_true rfl⟩) hS (fun q _ h => (freeM hS) q h) (freeM hS) (fun r13700 u t H1 locs ht hvm hw hB hz1 hk1 hS => ?_)
  unfold BM at hB
  rw [ht] at hB
  obtain ⟨v13701, F13702, rc9⟩ := u
  obtain ⟨hI, hrc, hf13703, hG13704, hw⟩ := hw
  dsimp only at hI hrc hB hf13703 hG13704 hw
  have hF := frCF (by decide) hG13704 hF
  rw [hrc] at hB
  have hP : va_P (dC, dI) classes (wM g c v13701 F13702 rc) H1 := hB
  clear hz1
  generalize H1 = H at hP hS ⊢
  have rr_r13700 := i32_rng r13700
  refine lv_i2l hx hb dX12_costOf_26 rfl ?_
  refine lv_topl (fun z13705 e13706 => ?_)
  refine lv_lstore (lv' := [(7, .long z13705), (6, .int z13698), (5, .int z13695), (0, .ref (g 0)), (1, .int p0), (2, .int p1), (3, .int p2), (4, .int p3)]) hx hb dX12_costOf_27 hl (by decide) rfl (fun ls hl => ?_)
  refine lv_iload hx hb dX12_costOf_29 (lv_at hl 1 rfl) ?_
  refine lv_bipush (v := 116) hx hb dX12_costOf_31 (by decide) ?_
  refine lv_icmp_ne (tgt := 106) hx hb dX12_costOf_33 (by decide) (fun c13707 => ?_) (fun c13707 => ?_)
  · skip
    have t13708 := cv_ne (a := z13698.toInt) rfl (b := 116) (by decide) c13707
    refine lv_lload hx hb dX12_costOf_106 (lv_at hl 0 rfl) ?_
    refine lv_iload hx hb dX12_costOf_108 (lv_at hl 1 rfl) ?_
    refine va_calli (va_runS (As := [.int z13698]) (rest := [.long z13705]) ⟨hx, hb, hml, hown, hwd⟩ (c_X12_numbersOf l dC dI g c adK adV v13701 F13702 rc H.size z13698 hg hI ) (va_cwS 1 hwd (gT wk_1134 wk_1132 wk_1133 wk_5) rfl rfl rfl (by decide +kernel) ⟨Nat.le_of_ble_eq_true rfl, Nat.le_of_ble_eq_true rfl⟩) ⟨PM.blind, fun U hU hW => ⟨rfl, PM.at hK hE hP hS hU hW⟩⟩ rfl rfl hl.1 rfl (lv_room (Nat.le_of_ble_eq_true rfl)) dX12_costOf_110 ⟨Nat.le_of_ble_eq_true rfl, Nat.le_of_ble_eq_true rfl⟩) hS (fun q _ h => (freeM hS) q h) (freeM hS) (fun r13709 u t H1 locs ht hvm hw hB hz1 hk1 hS => ?_)
    unfold BM at hB
    rw [ht] at hB
    have hP : va_P (dC, dI) classes (wM g c v13701 F13702 rc) H1 := hB
    have hw_r13709 : (0 ≤ r13709.toInt ∧ r13709.toInt ≤ 3) ∧ (r13709.toInt = 0 ∨ 100 ≤ z13698.toInt) := hw
    clear hw
    clear hz1
    generalize H1 = H at hP hS ⊢
    refine lv_iconst (v := 3) hx hb dX12_costOf_113 (by decide) ?_
    refine lv_icmp_ne (tgt := 127) hx hb dX12_costOf_114 (by decide) (fun c13710 => ?_) (fun c13710 => ?_)
    · skip
      have t13711 := cv_ne (a := r13709.toInt) rfl (b := 3) (by decide) c13710
      refine lv_aload_n hx hb dX12_costOf_127 rfl (lv_at hl 3 rfl) ?_
      refine va_get (D := (dC, dI)) (ci := 12) (v := .ref (g 39)) (C := RX12) (T := TX12) (N := 63) hx hb hwd inA_X12 hown hK hP 0 rfl rfl 53 (by decide) (hwd _ wk_221) (fun _ h9 => h9) rfl dX12_costOf_128 ?_
      refine lv_iload hx hb dX12_costOf_131 (lv_at hl 2 rfl) ?_
      refine va_iald hx hb hK hP 39 38 rfl rfl (i := z13695) (vin (a := z13695.toInt) rfl (by omega)) dX12_costOf_133 ?_
      refine lv_topi (fun z13712 e13713 => ?_)
      have e13713 : z13712 = F 39 (z13695 : Int32).toNatClampNeg := e13713.trans (congrFun (hF 39 (by decide)) _)
      refine lv_i2l hx hb dX12_costOf_134 rfl ?_
      refine lv_topl (fun z13714 e13715 => ?_)
      refine lv_lmul hx hb dX12_costOf_135 ?_
      refine lv_topl (fun z13716 e13717 => ?_)
      refine va_calli (va_runS (As := [.long z13716]) (rest := []) ⟨hx, hb, hml, hown, hwd⟩ (c_X12_held l dC dI g c adK adV v13701 F13702 rc H.size z13716 hg hI ) (va_cwS 1 hwd (gT wk_523 wk_521 wk_522 wk_5) rfl rfl rfl (by decide +kernel) ⟨Nat.le_of_ble_eq_true rfl, Nat.le_of_ble_eq_true rfl⟩) ⟨PM.blind, fun U hU hW => ⟨rfl, PM.at hK hE hP hS hU hW⟩⟩ rfl rfl hl.1 rfl (lv_room (Nat.le_of_ble_eq_true rfl)) dX12_costOf_136 ⟨Nat.le_of_ble_eq_true rfl, Nat.le_of_ble_eq_true rfl⟩) hS (fun q _ h => (freeM hS) q h) (freeM hS) (fun r13718 u t H1 locs ht hvm hw hB hz1 hk1 hS => ?_)
      unfold BM at hB
      rw [ht] at hB
      have hP : va_P (dC, dI) classes (wM g c v13701 F13702 rc) H1 := hB
      clear hz1
      generalize H1 = H at hP hS ⊢
      have rr_r13718 := i32_rng r13718
      have hP9 : va_P (dC, dI) classes (wM g c v13701 F13702 rc) H := hP
      exact W.iret (v := r13718) hx hb hr (fun t ht hW => ⟨⟨r13718, (v13701, F13702, rc), rfl, ⟨hI, rfl, (frC (by decide) hf13703 (fun _ _ => rfl)), hF, trivial⟩, (by show va_P _ _ _ t.heap; rw [ht]; exact hP9)⟩, hS.F ht⟩) hS.2.2 dX12_costOf_139
    · skip
      have t13719 := cv_eq (a := r13709.toInt) rfl (b := 3) (by decide) c13710
      refine lv_aload_n hx hb dX12_costOf_117 rfl (lv_at hl 3 rfl) ?_
      refine va_get (D := (dC, dI)) (ci := 12) (v := .ref (g 41)) (C := RX12) (T := TX12) (N := 63) hx hb hwd inA_X12 hown hK hP 0 rfl rfl 55 (by decide) (hwd _ wk_223) (fun _ h9 => h9) rfl dX12_costOf_118 ?_
      refine lv_iload hx hb dX12_costOf_121 (lv_at hl 2 rfl) ?_
      refine va_iald hx hb hK hP 41 40 rfl rfl (i := z13695) (vin (a := z13695.toInt) rfl (by omega)) dX12_costOf_123 ?_
      refine lv_topi (fun z13720 e13721 => ?_)
      have e13721 : z13720 = F 41 (z13695 : Int32).toNatClampNeg := e13721.trans (congrFun (hF 41 (by decide)) _)
      refine lv_goto (tgt := 134) hx hb dX12_costOf_124 (by decide) ?_
      refine lv_i2l hx hb dX12_costOf_134 rfl ?_
      refine lv_topl (fun z13722 e13723 => ?_)
      refine lv_lmul hx hb dX12_costOf_135 ?_
      refine lv_topl (fun z13724 e13725 => ?_)
      refine va_calli (va_runS (As := [.long z13724]) (rest := []) ⟨hx, hb, hml, hown, hwd⟩ (c_X12_held l dC dI g c adK adV v13701 F13702 rc H.size z13724 hg hI ) (va_cwS 1 hwd (gT wk_523 wk_521 wk_522 wk_5) rfl rfl rfl (by decide +kernel) ⟨Nat.le_of_ble_eq_true rfl, Nat.le_of_ble_eq_true rfl⟩) ⟨PM.blind, fun U hU hW => ⟨rfl, PM.at hK hE hP hS hU hW⟩⟩ rfl rfl hl.1 rfl (lv_room (Nat.le_of_ble_eq_true rfl)) dX12_costOf_136 ⟨Nat.le_of_ble_eq_true rfl, Nat.le_of_ble_eq_true rfl⟩) hS (fun q _ h => (freeM hS) q h) (freeM hS) (fun r13726 u t H1 locs ht hvm hw hB hz1 hk1 hS => ?_)
      unfold BM at hB
      rw [ht] at hB
      have hP : va_P (dC, dI) classes (wM g c v13701 F13702 rc) H1 := hB
      clear hz1
      generalize H1 = H at hP hS ⊢
      have rr_r13726 := i32_rng r13726
      have hP9 : va_P (dC, dI) classes (wM g c v13701 F13702 rc) H := hP
      exact W.iret (v := r13726) hx hb hr (fun t ht hW => ⟨⟨r13726, (v13701, F13702, rc), rfl, ⟨hI, rfl, (frC (by decide) hf13703 (fun _ _ => rfl)), hF, trivial⟩, (by show va_P _ _ _ t.heap; rw [ht]; exact hP9)⟩, hS.F ht⟩) hS.2.2 dX12_costOf_139
  · skip
    have t13727 := cv_eq (a := z13698.toInt) rfl (b := 116) (by decide) c13707
    refine lv_lload hx hb dX12_costOf_36 (lv_at hl 0 rfl) ?_
    refine lv_aload_n hx hb dX12_costOf_38 rfl (lv_at hl 3 rfl) ?_
    refine va_get (D := (dC, dI)) (ci := 12) (v := .ref (g 39)) (C := RX12) (T := TX12) (N := 63) hx hb hwd inA_X12 hown hK hP 0 rfl rfl 53 (by decide) (hwd _ wk_221) (fun _ h9 => h9) rfl dX12_costOf_39 ?_
    refine lv_iload hx hb dX12_costOf_42 (lv_at hl 2 rfl) ?_
    refine va_iald hx hb hK hP 39 38 rfl rfl (i := z13695) (vin (a := z13695.toInt) rfl (by omega)) dX12_costOf_44 ?_
    refine lv_topi (fun z13728 e13729 => ?_)
    have e13729 : z13728 = F 39 (z13695 : Int32).toNatClampNeg := e13729.trans (congrFun (hF 39 (by decide)) _)
    refine lv_i2l hx hb dX12_costOf_45 rfl ?_
    refine lv_topl (fun z13730 e13731 => ?_)
    refine W.lcmp hx hb dX12_costOf_46 ?_
    refine lv_topi (fun z13732 e13733 => ?_)
    refine lv_if_ge (tgt := 55) hx hb dX12_costOf_47 (by decide) (fun c13734 => ?_) (fun c13734 => ?_)
    · skip
      have t13735 := cv_le (a := 0) (by decide) (b := z13732.toInt) rfl c13734
      refine lv_aload_n hx hb dX12_costOf_55 rfl (lv_at hl 3 rfl) ?_
      refine va_get (D := (dC, dI)) (ci := 12) (v := .ref (g 39)) (C := RX12) (T := TX12) (N := 63) hx hb hwd inA_X12 hown hK hP 0 rfl rfl 53 (by decide) (hwd _ wk_221) (fun _ h9 => h9) rfl dX12_costOf_56 ?_
      refine lv_iload hx hb dX12_costOf_59 (lv_at hl 2 rfl) ?_
      refine va_iald hx hb hK hP 39 38 rfl rfl (i := z13695) (vin (a := z13695.toInt) rfl (by omega)) dX12_costOf_61 ?_
      refine lv_topi (fun z13736 e13737 => ?_)
      have e13737 : z13736 = F 39 (z13695 : Int32).toNatClampNeg := e13737.trans (congrFun (hF 39 (by decide)) _)
      refine lv_i2l hx hb dX12_costOf_62 rfl ?_
      refine lv_topl (fun z13738 e13739 => ?_)
      refine lv_lstore (lv' := [(9, .long z13738), (7, .long z13705), (6, .int z13698), (5, .int z13695), (0, .ref (g 0)), (1, .int p0), (2, .int p1), (3, .int p2), (4, .int p3)]) hx hb dX12_costOf_63 hl (by decide) rfl (fun ls hl => ?_)
      refine lv_lload hx hb dX12_costOf_65 (lv_at hl 0 rfl) ?_
      refine lv_aload_n hx hb dX12_costOf_67 rfl (lv_at hl 4 rfl) ?_
      refine va_get (D := (dC, dI)) (ci := 12) (v := .ref (g 36)) (C := RX12) (T := TX12) (N := 63) hx hb hwd inA_X12 hown hK hP 0 rfl rfl 50 (by decide) (hwd _ wk_218) (fun _ h9 => h9) rfl dX12_costOf_68 ?_
      refine lv_iload_n hx hb dX12_costOf_71 rfl (lv_at hl 5 rfl) ?_
      refine va_iald hx hb hK hP 36 35 rfl rfl (i := p0) (vin (a := p0.toInt) rfl (by omega)) dX12_costOf_72 ?_
      refine lv_topi (fun z13740 e13741 => ?_)
      have e13741 : z13740 = F 36 (p0 : Int32).toNatClampNeg := e13741.trans (congrFun (hF 36 (by decide)) _)
      refine lv_i2l hx hb dX12_costOf_73 rfl ?_
      refine lv_topl (fun z13742 e13743 => ?_)
      refine lv_lmul hx hb dX12_costOf_74 ?_
      refine lv_topl (fun z13744 e13745 => ?_)
      refine lv_lload hx hb dX12_costOf_75 (lv_at hl 1 rfl) ?_
      refine lv_lload hx hb dX12_costOf_77 (lv_at hl 0 rfl) ?_
      refine lv_lsub hx hb dX12_costOf_79 ?_
      refine lv_topl (fun z13746 e13747 => ?_)
      refine lv_aload_n hx hb dX12_costOf_80 rfl (lv_at hl 4 rfl) ?_
      refine va_get (D := (dC, dI)) (ci := 12) (v := .ref (g 36)) (C := RX12) (T := TX12) (N := 63) hx hb hwd inA_X12 hown hK hP 0 rfl rfl 50 (by decide) (hwd _ wk_218) (fun _ h9 => h9) rfl dX12_costOf_81 ?_
      refine lv_iload_n hx hb dX12_costOf_84 rfl (lv_at hl 5 rfl) ?_
      refine va_iald hx hb hK hP 36 35 rfl rfl (i := p0) (vin (a := p0.toInt) rfl (by omega)) dX12_costOf_85 ?_
      refine lv_topi (fun z13748 e13749 => ?_)
      have e13749 : z13748 = F 36 (p0 : Int32).toNatClampNeg := e13749.trans (congrFun (hF 36 (by decide)) _)
      refine lv_i2l hx hb dX12_costOf_86 rfl ?_
      refine lv_topl (fun z13750 e13751 => ?_)
      refine lv_aload_n hx hb dX12_costOf_87 rfl (lv_at hl 4 rfl) ?_
      refine va_get (D := (dC, dI)) (ci := 12) (v := .ref (g 40)) (C := RX12) (T := TX12) (N := 63) hx hb hwd inA_X12 hown hK hP 0 rfl rfl 54 (by decide) (hwd _ wk_222) (fun _ h9 => h9) rfl dX12_costOf_88 ?_
      refine lv_iload hx hb dX12_costOf_91 (lv_at hl 3 rfl) ?_
      refine va_iald hx hb hK hP 40 39 rfl rfl (i := z13695) (vin (a := z13695.toInt) rfl (by omega)) dX12_costOf_93 ?_
      refine lv_topi (fun z13752 e13753 => ?_)
      have e13753 : z13752 = F 40 (z13695 : Int32).toNatClampNeg := e13753.trans (congrFun (hF 40 (by decide)) _)
      refine lv_i2l hx hb dX12_costOf_94 rfl ?_
      refine lv_topl (fun z13754 e13755 => ?_)
      refine lv_lmul hx hb dX12_costOf_95 ?_
      refine lv_topl (fun z13756 e13757 => ?_)
      refine lv_ldc2 (v := 100) hx hb hown (hwd _ wk_495) dX12_costOf_96 ?_
      refine lv_ldiv hx hb dX12_costOf_99 (by decide) ?_
      refine lv_topl (fun z13758 e13759 => ?_)
      refine lv_lmul hx hb dX12_costOf_100 ?_
      refine lv_topl (fun z13760 e13761 => ?_)
      refine lv_ladd hx hb dX12_costOf_101 ?_
      refine lv_topl (fun z13762 e13763 => ?_)
      refine va_calli (va_runS (As := [.long z13762]) (rest := []) ⟨hx, hb, hml, hown, hwd⟩ (c_X12_held l dC dI g c adK adV v13701 F13702 rc H.size z13762 hg hI ) (va_cwS 1 hwd (gT wk_523 wk_521 wk_522 wk_5) rfl rfl rfl (by decide +kernel) ⟨Nat.le_of_ble_eq_true rfl, Nat.le_of_ble_eq_true rfl⟩) ⟨PM.blind, fun U hU hW => ⟨rfl, PM.at hK hE hP hS hU hW⟩⟩ rfl rfl hl.1 rfl (lv_room (Nat.le_of_ble_eq_true rfl)) dX12_costOf_102 ⟨Nat.le_of_ble_eq_true rfl, Nat.le_of_ble_eq_true rfl⟩) hS (fun q _ h => (freeM hS) q h) (freeM hS) (fun r13764 u t H1 locs ht hvm hw hB hz1 hk1 hS => ?_)
      unfold BM at hB
      rw [ht] at hB
      have hP : va_P (dC, dI) classes (wM g c v13701 F13702 rc) H1 := hB
      clear hz1
      generalize H1 = H at hP hS ⊢
      have rr_r13764 := i32_rng r13764
      have hP9 : va_P (dC, dI) classes (wM g c v13701 F13702 rc) H := hP
      exact W.iret (v := r13764) hx hb hr (fun t ht hW => ⟨⟨r13764, (v13701, F13702, rc), rfl, ⟨hI, rfl, (frC (by decide) hf13703 (fun _ _ => rfl)), hF, trivial⟩, (by show va_P _ _ _ t.heap; rw [ht]; exact hP9)⟩, hS.F ht⟩) hS.2.2 dX12_costOf_105
    · skip
      have t13765 := cv_nle (a := 0) (by decide) (b := z13732.toInt) rfl c13734
      refine lv_lload hx hb dX12_costOf_50 (lv_at hl 0 rfl) ?_
      refine lv_goto (tgt := 63) hx hb dX12_costOf_52 (by decide) ?_
      refine lv_lstore (lv' := [(9, .long z13705), (7, .long z13705), (6, .int z13698), (5, .int z13695), (0, .ref (g 0)), (1, .int p0), (2, .int p1), (3, .int p2), (4, .int p3)]) hx hb dX12_costOf_63 hl (by decide) rfl (fun ls hl => ?_)
      refine lv_lload hx hb dX12_costOf_65 (lv_at hl 0 rfl) ?_
      refine lv_aload_n hx hb dX12_costOf_67 rfl (lv_at hl 4 rfl) ?_
      refine va_get (D := (dC, dI)) (ci := 12) (v := .ref (g 36)) (C := RX12) (T := TX12) (N := 63) hx hb hwd inA_X12 hown hK hP 0 rfl rfl 50 (by decide) (hwd _ wk_218) (fun _ h9 => h9) rfl dX12_costOf_68 ?_
      refine lv_iload_n hx hb dX12_costOf_71 rfl (lv_at hl 5 rfl) ?_
      refine va_iald hx hb hK hP 36 35 rfl rfl (i := p0) (vin (a := p0.toInt) rfl (by omega)) dX12_costOf_72 ?_
      refine lv_topi (fun z13766 e13767 => ?_)
      have e13767 : z13766 = F 36 (p0 : Int32).toNatClampNeg := e13767.trans (congrFun (hF 36 (by decide)) _)
      refine lv_i2l hx hb dX12_costOf_73 rfl ?_
      refine lv_topl (fun z13768 e13769 => ?_)
      refine lv_lmul hx hb dX12_costOf_74 ?_
      refine lv_topl (fun z13770 e13771 => ?_)
      refine lv_lload hx hb dX12_costOf_75 (lv_at hl 1 rfl) ?_
      refine lv_lload hx hb dX12_costOf_77 (lv_at hl 0 rfl) ?_
      refine lv_lsub hx hb dX12_costOf_79 ?_
      refine lv_topl (fun z13772 e13773 => ?_)
      refine lv_aload_n hx hb dX12_costOf_80 rfl (lv_at hl 4 rfl) ?_
      refine va_get (D := (dC, dI)) (ci := 12) (v := .ref (g 36)) (C := RX12) (T := TX12) (N := 63) hx hb hwd inA_X12 hown hK hP 0 rfl rfl 50 (by decide) (hwd _ wk_218) (fun _ h9 => h9) rfl dX12_costOf_81 ?_
      refine lv_iload_n hx hb dX12_costOf_84 rfl (lv_at hl 5 rfl) ?_
      refine va_iald hx hb hK hP 36 35 rfl rfl (i := p0) (vin (a := p0.toInt) rfl (by omega)) dX12_costOf_85 ?_
      refine lv_topi (fun z13774 e13775 => ?_)
      have e13775 : z13774 = F 36 (p0 : Int32).toNatClampNeg := e13775.trans (congrFun (hF 36 (by decide)) _)
      refine lv_i2l hx hb dX12_costOf_86 rfl ?_
      refine lv_topl (fun z13776 e13777 => ?_)
      refine lv_aload_n hx hb dX12_costOf_87 rfl (lv_at hl 4 rfl) ?_
      refine va_get (D := (dC, dI)) (ci := 12) (v := .ref (g 40)) (C := RX12) (T := TX12) (N := 63) hx hb hwd inA_X12 hown hK hP 0 rfl rfl 54 (by decide) (hwd _ wk_222) (fun _ h9 => h9) rfl dX12_costOf_88 ?_
      refine lv_iload hx hb dX12_costOf_91 (lv_at hl 3 rfl) ?_
      refine va_iald hx hb hK hP 40 39 rfl rfl (i := z13695) (vin (a := z13695.toInt) rfl (by omega)) dX12_costOf_93 ?_
      refine lv_topi (fun z13778 e13779 => ?_)
      have e13779 : z13778 = F 40 (z13695 : Int32).toNatClampNeg := e13779.trans (congrFun (hF 40 (by decide)) _)
      refine lv_i2l hx hb dX12_costOf_94 rfl ?_
      refine lv_topl (fun z13780 e13781 => ?_)
      refine lv_lmul hx hb dX12_costOf_95 ?_
      refine lv_topl (fun z13782 e13783 => ?_)
      refine lv_ldc2 (v := 100) hx hb hown (hwd _ wk_495) dX12_costOf_96 ?_
      refine lv_ldiv hx hb dX12_costOf_99 (by decide) ?_
      refine lv_topl (fun z13784 e13785 => ?_)
      refine lv_lmul hx hb dX12_costOf_100 ?_
      refine lv_topl (fun z13786 e13787 => ?_)
      refine lv_ladd hx hb dX12_costOf_101 ?_
      refine lv_topl (fun z13788 e13789 => ?_)
      refine va_calli (va_runS (As := [.long z13788]) (rest := []) ⟨hx, hb, hml, hown, hwd⟩ (c_X12_held l dC dI g c adK adV v13701 F13702 rc H.size z13788 hg hI ) (va_cwS 1 hwd (gT wk_523 wk_521 wk_522 wk_5) rfl rfl rfl (by decide +kernel) ⟨Nat.le_of_ble_eq_true rfl, Nat.le_of_ble_eq_true rfl⟩) ⟨PM.blind, fun U hU hW => ⟨rfl, PM.at hK hE hP hS hU hW⟩⟩ rfl rfl hl.1 rfl (lv_room (Nat.le_of_ble_eq_true rfl)) dX12_costOf_102 ⟨Nat.le_of_ble_eq_true rfl, Nat.le_of_ble_eq_true rfl⟩) hS (fun q _ h => (freeM hS) q h) (freeM hS) (fun r13790 u t H1 locs ht hvm hw hB hz1 hk1 hS => ?_)
      unfold BM at hB
      rw [ht] at hB
      have hP : va_P (dC, dI) classes (wM g c v13701 F13702 rc) H1 := hB
      clear hz1
      generalize H1 = H at hP hS ⊢
      have rr_r13790 := i32_rng r13790
      have hP9 : va_P (dC, dI) classes (wM g c v13701 F13702 rc) H := hP
      exact W.iret (v := r13790) hx hb hr (fun t ht hW => ⟨⟨r13790, (v13701, F13702, rc), rfl, ⟨hI, rfl, (frC (by decide) hf13703 (fun _ _ => rfl)), hF, trivial⟩, (by show va_P _ _ _ t.heap; rw [ht]; exact hP9)⟩, hS.F ht⟩) hS.2.2 dX12_costOf_105
set_option maxHeartbeats 8000000 in
set_option maxRecDepth 100000 in
theorem c_X12_costOfAll (l : Launch) (dC : Nat → ClassId) (dI : Nat → Nat → Nat) (g : Nat → Nat) (c : Nat → ClassId) (adK adV : Nat → Nat) (v : Nat → Int32) (F : Nat → Nat → Int32) (rc sz : Nat) (p0 : Int32) (p1 : Int32) (p2 : Int32) (hg : injM g) (hI : IM v F) (h0 : 0 ≤ p0.toInt ∧ p0.toInt ≤ 9) (hL : JL (v 31) (F 28) (F 29) (F 27)) : Met l yX12_costOfAll (Cond.code yX12_costOfAll cX12_costOfAll 7 (some .int) :: wA) ({ frames := 7, cells := 0, slots := 0, locals := 280 }) (va_Pc [.ref (g 0), .int p0, .int p1, .int p2] (PM dC dI g c adK adV v F rc sz)) (va_Qi (fun (r : Int32) (u : StM) => IM u.1 u.2.1 ∧ u.2.2 = rc ∧ (∀ k, k ∉ ([] : List Nat) → u.1 k = v k) ∧ (∀ k, k ∉ ([30, 31] : List Nat) → u.2.1 k = F k) ∧ True) (BM dC dI g c) (AM g sz)) 0 0 (AM g sz) := by
  refine Met.ofW (cc := cX12_costOfAll) (maxL := 7) (ret := (some .int)) (by decide) rfl ?_
  intro p e s m args below meth c0 s₁ B hml hv
  obtain ⟨rfl, hsz, hP, hK, hE⟩ := hv
  have hx := B.exec
  have hb := B.bytes
  have hr := B.returns
  have hts := atoms_spec (ws := Cond.code yX12_costOfAll cX12_costOfAll 7 (some .int) :: wA) B.pre
  have hwd : ∀ w ∈ wA, w.before _ s = true := fun w h => hts w (List.mem_cons_of_mem _ h)
  have hown : s.vm.findClass RX12 = some m.cls := findClass_of_methodNamed B.named
  have hlocks := B.notSynchronized
  subst hsz
  have hl := lv_entry ([.ref (g 0), .int p0, .int p1, .int p2]) (n := 7) (Nat.le_of_ble_eq_true rfl)
  rw [lg_entry_eq]
  generalize (lg_sl ([.ref (g 0), .int p0, .int p1, .int p2]) ++ List.replicate (7 - (lg_sl ([.ref (g 0), .int p0, .int p1, .int p2])).length) Slot.unset).toArray = ls at hl ⊢
  have hl : lv_has ls 7 [(0, .ref (g 0)), (1, .int p0), (2, .int p1), (3, .int p2)] := hl
  obtain ⟨H, eH⟩ : ∃ z, z = s.heap := ⟨_, rfl⟩
  have hP : va_P (dC, dI) classes (wM g c v F rc) H := by rw [eH]; exact hP
  have hS : va_S (AM g s.heap.size) s.heap H [] := by rw [eH]; exact va_S.rf
  refine my_heap eH ?_
  have hF : ∀ k, k ∉ ([30, 31] : List Nat) → F k = F k := fun _ _ => rfl
  have rp0 := i32_rng p0
  have rp1 := i32_rng p1
  have rp2 := i32_rng p2
  have hb31 : 0 ≤ (v 31).toInt ∧ (v 31).toInt ≤ 10 := hI.1 31 _ _ rfl
  refine lv_lconst (v := 0) hx hb dX12_costOfAll_0 (by decide) ?_
  refine lv_lstore (lv' := [(4, .long 0), (0, .ref (g 0)), (1, .int p0), (2, .int p1), (3, .int p2)]) hx hb dX12_costOfAll_1 hl (by decide) rfl (fun ls hl => ?_)
  refine lv_iconst (v := 0) hx hb dX12_costOfAll_3 (by decide) ?_
  refine lv_istore (lv' := [(6, .int 0), (4, .long 0), (0, .ref (g 0)), (1, .int p0), (2, .int p1), (3, .int p2)]) hx hb dX12_costOfAll_4 hl (by decide) rfl (fun ls hl => ?_)
  have lp13812 : ∀ (n : Nat) (x6_lp13812 : Int32) (x4_lp13812 : Int64) (v_lp13812 : Nat → Int32) (F_lp13812 : Nat → Nat → Int32) (H : Heap) (locs : List Loc) (ls : Array Slot), (0 ≤ x6_lp13812.toInt) → (2147483648 - x6_lp13812.toInt ≤ (n : Int)) → (∀ k, k ∉ ([] : List Nat) → v_lp13812 k = v k) → IM v_lp13812 F_lp13812 → (∀ k, k ∉ ([30, 31] : List Nat) → F_lp13812 k = F k) → va_P (dC, dI) classes (wM g c v_lp13812 F_lp13812 rc) H → va_S (AM g s.heap.size) s.heap H locs → lv_has ls 7 [(6, .int x6_lp13812), (4, .long x4_lp13812), (0, .ref (g 0)), (1, .int p0), (2, .int p1), (3, .int p2)] → W p l e (headSpec (Cond.code yX12_costOfAll cX12_costOfAll 7 (some .int) :: wA) ({ frames := 7, cells := 0, slots := 0, locals := 280 })).room s m ([.ref (g 0), .int p0, .int p1, .int p2] : List Value).toArray below meth c0 H locs 0 0 (MQ below (va_Qi (fun (r : Int32) (u : StM) => IM u.1 u.2.1 ∧ u.2.2 = rc ∧ (∀ k, k ∉ ([] : List Nat) → u.1 k = v k) ∧ (∀ k, k ∉ ([30, 31] : List Nat) → u.2.1 k = F k) ∧ True) (BM dC dI g c) (AM g s.heap.size)) ([.ref (g 0), .int p0, .int p1, .int p2] : List Value).toArray s 0 0 (AM g s.heap.size)) (F0 m 6 ls []) := by
    intro n
    induction n with
    | zero =>
      intro x6_lp13812 x4_lp13812 v_lp13812 F_lp13812 H locs ls t13813 hm hf_lp13812 hI hF hP hS hl
      exfalso
      have := i32_rng x6_lp13812
      have hI1 := hI.1
      omega
    | succ n ih_lp13812 =>
      intro x6_lp13812 x4_lp13812 v_lp13812 F_lp13812 H locs ls t13813 hm hf_lp13812 hI hF hP hS hl
      have rx6_lp13812 := i32_rng x6_lp13812
      refine lv_iload hx hb dX12_costOfAll_6 (lv_at hl 0 rfl) ?_
      refine lv_aload_n hx hb dX12_costOfAll_8 rfl (lv_at hl 2 rfl) ?_
      refine va_get (D := (dC, dI)) (ci := 12) (v := .ref (g 37)) (C := RX12) (T := TX12) (N := 63) hx hb hwd inA_X12 hown hK hP 0 rfl rfl 51 (by decide) (hwd _ wk_219) (fun _ h9 => h9) rfl dX12_costOfAll_9 ?_
      refine lv_iload_n hx hb dX12_costOfAll_12 rfl (lv_at hl 3 rfl) ?_
      refine va_iald hx hb hK hP 37 36 rfl rfl (i := p0) (vin (a := p0.toInt) rfl (by omega)) dX12_costOfAll_13 ?_
      refine lv_topi (fun z13814 e13815 => ?_)
      have t13816 : 0 ≤ z13814.toInt ∧ z13814.toInt ≤ 31 := by rw [e13815]; exact hI.2 37 _ _ rfl _
      have e13815 : z13814 = F 37 (p0 : Int32).toNatClampNeg := e13815.trans (congrFun (hF 37 (by decide)) _)
      refine lv_icmp_ge (tgt := 38) hx hb dX12_costOfAll_14 (by decide) (fun c13817 => ?_) (fun c13817 => ?_)
      · skip
        have t13818 := cv_le (a := z13814.toInt) rfl (b := x6_lp13812.toInt) rfl c13817
        refine lv_lload hx hb dX12_costOfAll_38 (lv_at hl 1 rfl) ?_
        refine va_calli (va_runS (As := [.long x4_lp13812]) (rest := []) ⟨hx, hb, hml, hown, hwd⟩ (c_X12_held l dC dI g c adK adV v_lp13812 F_lp13812 rc H.size x4_lp13812 hg hI ) (va_cwS 1 hwd (gT wk_523 wk_521 wk_522 wk_5) rfl rfl rfl (by decide +kernel) ⟨Nat.le_of_ble_eq_true rfl, Nat.le_of_ble_eq_true rfl⟩) ⟨PM.blind, fun U hU hW => ⟨rfl, PM.at hK hE hP hS hU hW⟩⟩ rfl rfl hl.1 rfl (lv_room (Nat.le_of_ble_eq_true rfl)) dX12_costOfAll_40 ⟨Nat.le_of_ble_eq_true rfl, Nat.le_of_ble_eq_true rfl⟩) hS (fun q _ h => (freeM hS) q h) (freeM hS) (fun r13819 u t H1 locs ht hvm hw hB hz1 hk1 hS => ?_)
        unfold BM at hB
        rw [ht] at hB
        have hP : va_P (dC, dI) classes (wM g c v_lp13812 F_lp13812 rc) H1 := hB
        clear hz1
        generalize H1 = H at hP hS ⊢
        have rr_r13819 := i32_rng r13819
        have hP9 : va_P (dC, dI) classes (wM g c v_lp13812 F_lp13812 rc) H := hP
        exact W.iret (v := r13819) hx hb hr (fun t ht hW => ⟨⟨r13819, (v_lp13812, F_lp13812, rc), rfl, ⟨hI, rfl, (frC (by decide) hf_lp13812 (fun _ _ => rfl)), hF, trivial⟩, (by show va_P _ _ _ t.heap; rw [ht]; exact hP9)⟩, hS.F ht⟩) hS.2.2 dX12_costOfAll_43
      · skip
        have t13820 := cv_nle (a := z13814.toInt) rfl (b := x6_lp13812.toInt) rfl c13817
        refine lv_lload hx hb dX12_costOfAll_17 (lv_at hl 1 rfl) ?_
        refine lv_aload_n hx hb dX12_costOfAll_19 rfl (lv_at hl 2 rfl) ?_
        refine lv_iload_n hx hb dX12_costOfAll_20 rfl (lv_at hl 3 rfl) ?_
        refine lv_iload hx hb dX12_costOfAll_21 (lv_at hl 0 rfl) ?_
        refine lv_iload_n hx hb dX12_costOfAll_23 rfl (lv_at hl 4 rfl) ?_
        refine lv_iload_n hx hb dX12_costOfAll_24 rfl (lv_at hl 5 rfl) ?_
        refine va_calli (va_runV (As := [.int p0, .int x6_lp13812, .int p1, .int p2]) (rest := [.long x4_lp13812]) ⟨hx, hb, hml, hown, hwd⟩ (c_X12_costOf l dC dI g c adK adV v_lp13812 F_lp13812 rc H.size p0 x6_lp13812 p1 p2 hg hI (by omega) (by omega) (JL.to hL (show v_lp13812 31 = v 31 from hf_lp13812 31 (by decide)) (hF 28 (by decide)) (hF 29 (by decide)) (hF 27 (by decide)))) (cwV 4 hwd (gV wk_1251 wk_1248 wk_1249 wk_1250 wk_5) rfl rfl rfl (by decide +kernel) ⟨Nat.le_of_ble_eq_true rfl, Nat.le_of_ble_eq_true rfl⟩) ⟨PM.blind, va_recv hK hP (ci := 12) (q0 := 0) rfl rfl, fun U hU hW => ⟨rfl, PM.at hK hE hP hS hU hW⟩⟩ rfl rfl hl.1 rfl (lv_room (Nat.le_of_ble_eq_true rfl)) dX12_costOfAll_25 ⟨Nat.le_of_ble_eq_true rfl, Nat.le_of_ble_eq_true rfl⟩) hS (fun q _ h => (freeM hS) q h) (freeM hS) (fun r13821 u t H1 locs ht hvm hw hB hz1 hk1 hS => ?_)
        unfold BM at hB
        rw [ht] at hB
        obtain ⟨v13822, F13823, rc9⟩ := u
        obtain ⟨hI, hrc, hf13824, hG13825, hw⟩ := hw
        dsimp only at hI hrc hB hf13824 hG13825 hw
        have hF := frCF (by decide) hG13825 hF
        rw [hrc] at hB
        have hP : va_P (dC, dI) classes (wM g c v13822 F13823 rc) H1 := hB
        clear hz1
        generalize H1 = H at hP hS ⊢
        have rr_r13821 := i32_rng r13821
        refine lv_i2l hx hb dX12_costOfAll_28 rfl ?_
        refine lv_topl (fun z13826 e13827 => ?_)
        refine lv_ladd hx hb dX12_costOfAll_29 ?_
        refine lv_topl (fun z13828 e13829 => ?_)
        refine lv_lstore (lv' := [(4, .long z13828), (6, .int x6_lp13812), (0, .ref (g 0)), (1, .int p0), (2, .int p1), (3, .int p2)]) hx hb dX12_costOfAll_30 hl (by decide) rfl (fun ls hl => ?_)
        obtain ⟨z13830, e13831⟩ : ∃ y : Int32, y = x6_lp13812 + 1 := ⟨_, rfl⟩
        try (have t13832 := tadd e13831 rfl (b := 1) (by decide) (by omega))
        refine lv_iinc (v := z13830) (lv' := [(6, .int z13830), (4, .long z13828), (0, .ref (g 0)), (1, .int p0), (2, .int p1), (3, .int p2)]) hx hb dX12_costOfAll_32 hl (k := 1) rfl (by rw [e13831]; rfl) (by decide) rfl (fun ls hl => ?_)
        refine lv_goto (tgt := 6) hx hb dX12_costOfAll_35 (by decide) ?_
        exact ih_lp13812 z13830 z13828 v13822 F13823 _ _ _ (by omega) (by omega) (frC (by decide) hf13824 hf_lp13812) hI hF hP hS (lv_sub hl [0, 1, 2, 3, 4, 5] rfl)
  obtain ⟨n9, hn9⟩ : ∃ n : Nat, 2147483648 - 0 ≤ (n : Int) := ⟨((2147483648 - 0 : Int)).toNat, by omega⟩
  exact lp13812 n9 0 0 v F H _ ls (by have : (0 : Int32).toInt = 0 := (by decide); omega) (by have : (0 : Int32).toInt = 0 := (by decide); omega) (fun _ _ => rfl) hI hF hP hS hl
set_option maxHeartbeats 8000000 in
set_option maxRecDepth 100000 in
theorem c_X12_lacks (l : Launch) (dC : Nat → ClassId) (dI : Nat → Nat → Nat) (g : Nat → Nat) (c : Nat → ClassId) (adK adV : Nat → Nat) (v : Nat → Int32) (F : Nat → Nat → Int32) (rc sz : Nat) (p0 : Int32) (p1 : Int32) (p2 : Int32) (p3 : Int32) (hg : injM g) (hI : IM v F) (hL : JL (v 31) (F 28) (F 29) (F 27)) : Met l yX12_lacks (Cond.code yX12_lacks cX12_lacks 5 (some .int) :: wA) ({ frames := 6, cells := 0, slots := 0, locals := 240 }) (va_Pc [.ref (g 0), .int p0, .int p1, .int p2, .int p3] (PM dC dI g c adK adV v F rc sz)) (va_Qi (fun (r : Int32) (u : StM) => IM u.1 u.2.1 ∧ u.2.2 = rc ∧ (∀ k, k ∉ ([] : List Nat) → u.1 k = v k) ∧ (∀ k, k ∉ ([30, 31, 42] : List Nat) → u.2.1 k = F k) ∧ True) (BM dC dI g c) (AM g sz)) 0 0 (AM g sz) := by
  refine Met.ofW (cc := cX12_lacks) (maxL := 5) (ret := (some .int)) (by decide) rfl ?_
  intro p e s m args below meth c0 s₁ B hml hv
  obtain ⟨rfl, hsz, hP, hK, hE⟩ := hv
  have hx := B.exec
  have hb := B.bytes
  have hr := B.returns
  have hts := atoms_spec (ws := Cond.code yX12_lacks cX12_lacks 5 (some .int) :: wA) B.pre
  have hwd : ∀ w ∈ wA, w.before _ s = true := fun w h => hts w (List.mem_cons_of_mem _ h)
  have hown : s.vm.findClass RX12 = some m.cls := findClass_of_methodNamed B.named
  have hlocks := B.notSynchronized
  subst hsz
  have hl := lv_entry ([.ref (g 0), .int p0, .int p1, .int p2, .int p3]) (n := 5) (Nat.le_of_ble_eq_true rfl)
  rw [lg_entry_eq]
  generalize (lg_sl ([.ref (g 0), .int p0, .int p1, .int p2, .int p3]) ++ List.replicate (5 - (lg_sl ([.ref (g 0), .int p0, .int p1, .int p2, .int p3])).length) Slot.unset).toArray = ls at hl ⊢
  have hl : lv_has ls 5 [(0, .ref (g 0)), (1, .int p0), (2, .int p1), (3, .int p2), (4, .int p3)] := hl
  obtain ⟨H, eH⟩ : ∃ z, z = s.heap := ⟨_, rfl⟩
  have hP : va_P (dC, dI) classes (wM g c v F rc) H := by rw [eH]; exact hP
  have hS : va_S (AM g s.heap.size) s.heap H [] := by rw [eH]; exact va_S.rf
  refine my_heap eH ?_
  have hF : ∀ k, k ∉ ([30, 31, 42] : List Nat) → F k = F k := fun _ _ => rfl
  have rp0 := i32_rng p0
  have rp1 := i32_rng p1
  have rp2 := i32_rng p2
  have rp3 := i32_rng p3
  have hb31 : 0 ≤ (v 31).toInt ∧ (v 31).toInt ≤ 10 := hI.1 31 _ _ rfl
  refine lv_aload_n hx hb dX12_lacks_0 rfl (lv_at hl 0 rfl) ?_
  refine lv_iload_n hx hb dX12_lacks_1 rfl (lv_at hl 1 rfl) ?_
  have t13872 : 0 ≤ (v 6).toInt ∧ (v 6).toInt ≤ 10 := hI.1 6 _ _ rfl
  refine va_calli (va_runV (As := [.int p0]) (rest := []) ⟨hx, hb, hml, hown, hwd⟩ (c_X12_isPlane l dC dI g c adK adV v F rc H.size p0 hg hI ) (cwV 1 hwd (gV wk_305 wk_302 wk_303 wk_304 wk_5) rfl rfl rfl (by decide +kernel) ⟨Nat.le_of_ble_eq_true rfl, Nat.le_of_ble_eq_true rfl⟩) ⟨PM.blind, va_recv hK hP (ci := 12) (q0 := 0) rfl rfl, fun U hU hW => ⟨rfl, PM.at hK hE hP hS hU hW⟩⟩ rfl rfl hl.1 rfl (lv_room (Nat.le_of_ble_eq_true rfl)) dX12_lacks_2 ⟨Nat.le_of_ble_eq_true rfl, Nat.le_of_ble_eq_true rfl⟩) hS (fun q _ h => (freeM hS) q h) (freeM hS) (fun r13873 u t H1 locs ht hvm hw hB hz1 hk1 hS => ?_)
  unfold BM at hB
  rw [ht] at hB
  have hP : va_P (dC, dI) classes (wM g c v F rc) H1 := hB
  replace hw : (r13873.toInt = 1 ∧ 0 ≤ p0.toInt ∧ p0.toInt < (v 6).toInt) ∨ (r13873.toInt = 0 ∧ (p0.toInt < 0 ∨ (v 6).toInt ≤ p0.toInt)) := hw
  have hw_r13873 := hw
  clear hw
  clear hz1
  generalize H1 = H at hP hS ⊢
  refine lv_if_eq (tgt := 47) hx hb dX12_lacks_5 (by decide) (fun c13874 => ?_) (fun c13874 => ?_)
  · skip
    have t13875 := cv_eq (a := r13873.toInt) rfl (b := 0) (by decide) c13874
    refine lv_iconst (v := (-1)) hx hb dX12_lacks_47 (by decide) ?_
    have hP9 : va_P (dC, dI) classes (wM g c v F rc) H := hP
    exact W.iret (v := (-1)) hx hb hr (fun t ht hW => ⟨⟨(-1), (v, F, rc), rfl, ⟨hI, rfl, (fun _ _ => rfl), hF, trivial⟩, (by show va_P _ _ _ t.heap; rw [ht]; exact hP9)⟩, hS.F ht⟩) hS.2.2 dX12_lacks_48
  · skip
    have t13876 := cv_ne (a := r13873.toInt) rfl (b := 0) (by decide) c13874
    refine lv_aload_n hx hb dX12_lacks_8 rfl (lv_at hl 0 rfl) ?_
    refine lv_iload_n hx hb dX12_lacks_9 rfl (lv_at hl 1 rfl) ?_
    refine va_calli (va_runV (As := [.int p0]) (rest := []) ⟨hx, hb, hml, hown, hwd⟩ (c_X12_hasContract l dC dI g c adK adV v F rc H.size p0 hg hI (by omega)) (cwV 1 hwd (gV wk_1201 wk_1198 wk_1199 wk_1200 wk_5) rfl rfl rfl (by decide +kernel) ⟨Nat.le_of_ble_eq_true rfl, Nat.le_of_ble_eq_true rfl⟩) ⟨PM.blind, va_recv hK hP (ci := 12) (q0 := 0) rfl rfl, fun U hU hW => ⟨rfl, PM.at hK hE hP hS hU hW⟩⟩ rfl rfl hl.1 rfl (lv_room (Nat.le_of_ble_eq_true rfl)) dX12_lacks_10 ⟨Nat.le_of_ble_eq_true rfl, Nat.le_of_ble_eq_true rfl⟩) hS (fun q _ h => (freeM hS) q h) (freeM hS) (fun r13877 u t H1 locs ht hvm hw hB hz1 hk1 hS => ?_)
    unfold BM at hB
    rw [ht] at hB
    have hP : va_P (dC, dI) classes (wM g c v F rc) H1 := hB
    have hw_r13877 : 0 ≤ r13877.toInt ∧ r13877.toInt ≤ 1 := hw
    clear hw
    clear hz1
    generalize H1 = H at hP hS ⊢
    refine lv_if_eq (tgt := 47) hx hb dX12_lacks_13 (by decide) (fun c13878 => ?_) (fun c13878 => ?_)
    · skip
      have t13879 := cv_eq (a := r13877.toInt) rfl (b := 0) (by decide) c13878
      refine lv_iconst (v := (-1)) hx hb dX12_lacks_47 (by decide) ?_
      have hP9 : va_P (dC, dI) classes (wM g c v F rc) H := hP
      exact W.iret (v := (-1)) hx hb hr (fun t ht hW => ⟨⟨(-1), (v, F, rc), rfl, ⟨hI, rfl, (fun _ _ => rfl), hF, trivial⟩, (by show va_P _ _ _ t.heap; rw [ht]; exact hP9)⟩, hS.F ht⟩) hS.2.2 dX12_lacks_48
    · skip
      have t13880 := cv_ne (a := r13877.toInt) rfl (b := 0) (by decide) c13878
      refine lv_iload_n hx hb dX12_lacks_16 rfl (lv_at hl 2 rfl) ?_
      refine lv_iconst (v := 0) hx hb dX12_lacks_17 (by decide) ?_
      refine lv_aload_n hx hb dX12_lacks_18 rfl (lv_at hl 0 rfl) ?_
      refine va_get (D := (dC, dI)) (ci := 12) (v := .ref (g 37)) (C := RX12) (T := TX12) (N := 63) hx hb hwd inA_X12 hown hK hP 0 rfl rfl 51 (by decide) (hwd _ wk_219) (fun _ h9 => h9) rfl dX12_lacks_19 ?_
      refine lv_iload_n hx hb dX12_lacks_22 rfl (lv_at hl 1 rfl) ?_
      refine va_iald hx hb hK hP 37 36 rfl rfl (i := p0) (vin (a := p0.toInt) rfl (by omega)) dX12_lacks_23 ?_
      refine lv_topi (fun z13881 e13882 => ?_)
      have t13883 : 0 ≤ z13881.toInt ∧ z13881.toInt ≤ 31 := by rw [e13882]; exact hI.2 37 _ _ rfl _
      refine lv_iconst (v := 1) hx hb dX12_lacks_24 (by decide) ?_
      refine lv_isub hx hb dX12_lacks_25 ?_
      refine lv_topi (fun z13884 e13885 => ?_)
      try (have t13886 := tsub e13885 (a := z13881.toInt) rfl (b := 1) (by decide) (by omega))
      refine va_calli (va_runS (As := [.int p1, .int 0, .int z13884]) (rest := []) ⟨hx, hb, hml, hown, hwd⟩ (c_X12_in l dC dI g c adK adV v F rc H.size p1 0 z13884 hg hI ) (va_cwS 3 hwd (gT wk_254 wk_252 wk_253 wk_5) rfl rfl rfl (by decide +kernel) ⟨Nat.le_of_ble_eq_true rfl, Nat.le_of_ble_eq_true rfl⟩) ⟨PM.blind, fun U hU hW => ⟨rfl, PM.at hK hE hP hS hU hW⟩⟩ rfl rfl hl.1 rfl (lv_room (Nat.le_of_ble_eq_true rfl)) dX12_lacks_26 ⟨Nat.le_of_ble_eq_true rfl, Nat.le_of_ble_eq_true rfl⟩) hS (fun q _ h => (freeM hS) q h) (freeM hS) (fun r13887 u t H1 locs ht hvm hw hB hz1 hk1 hS => ?_)
      unfold BM at hB
      rw [ht] at hB
      have hP : va_P (dC, dI) classes (wM g c v F rc) H1 := hB
      have hw_r13887 : (r13887.toInt = 1 ∧ (0 : Int32).toInt ≤ p1.toInt ∧ p1.toInt ≤ z13884.toInt) ∨ (r13887.toInt = 0 ∧ (p1.toInt < (0 : Int32).toInt ∨ z13884.toInt < p1.toInt)) := hw
      clear hw
      have k13888 : (0 : Int32).toInt = 0 := by decide
      clear hz1
      generalize H1 = H at hP hS ⊢
      refine lv_if_eq (tgt := 47) hx hb dX12_lacks_29 (by decide) (fun c13889 => ?_) (fun c13889 => ?_)
      · skip
        have t13890 := cv_eq (a := r13887.toInt) rfl (b := 0) (by decide) c13889
        refine lv_iconst (v := (-1)) hx hb dX12_lacks_47 (by decide) ?_
        have hP9 : va_P (dC, dI) classes (wM g c v F rc) H := hP
        exact W.iret (v := (-1)) hx hb hr (fun t ht hW => ⟨⟨(-1), (v, F, rc), rfl, ⟨hI, rfl, (fun _ _ => rfl), hF, trivial⟩, (by show va_P _ _ _ t.heap; rw [ht]; exact hP9)⟩, hS.F ht⟩) hS.2.2 dX12_lacks_48
      · skip
        have t13891 := cv_ne (a := r13887.toInt) rfl (b := 0) (by decide) c13889
        refine lv_iload_n hx hb dX12_lacks_32 rfl (lv_at hl 3 rfl) ?_
        refine va_calli (va_runS (As := [.int p2]) (rest := []) ⟨hx, hb, hml, hown, hwd⟩ (c_X12_isDay l dC dI g c adK adV v F rc H.size p2 hg hI ) (va_cwS 1 hwd (gT wk_556 wk_554 wk_555 wk_5) rfl rfl rfl (by decide +kernel) ⟨Nat.le_of_ble_eq_true rfl, Nat.le_of_ble_eq_true rfl⟩) ⟨PM.blind, fun U hU hW => ⟨rfl, PM.at hK hE hP hS hU hW⟩⟩ rfl rfl hl.1 rfl (lv_room (Nat.le_of_ble_eq_true rfl)) dX12_lacks_33 ⟨Nat.le_of_ble_eq_true rfl, Nat.le_of_ble_eq_true rfl⟩) hS (fun q _ h => (freeM hS) q h) (freeM hS) (fun r13892 u t H1 locs ht hvm hw hB hz1 hk1 hS => ?_)
        unfold BM at hB
        rw [ht] at hB
        have hP : va_P (dC, dI) classes (wM g c v F rc) H1 := hB
        have hw_r13892 : (r13892.toInt = 1 ∧ 0 ≤ p2.toInt ∧ p2.toInt ≤ 9999) ∨ (r13892.toInt = 0 ∧ (p2.toInt < 0 ∨ 9999 < p2.toInt)) := hw
        clear hw
        clear hz1
        generalize H1 = H at hP hS ⊢
        refine lv_if_eq (tgt := 47) hx hb dX12_lacks_36 (by decide) (fun c13893 => ?_) (fun c13893 => ?_)
        · skip
          have t13894 := cv_eq (a := r13892.toInt) rfl (b := 0) (by decide) c13893
          refine lv_iconst (v := (-1)) hx hb dX12_lacks_47 (by decide) ?_
          have hP9 : va_P (dC, dI) classes (wM g c v F rc) H := hP
          exact W.iret (v := (-1)) hx hb hr (fun t ht hW => ⟨⟨(-1), (v, F, rc), rfl, ⟨hI, rfl, (fun _ _ => rfl), hF, trivial⟩, (by show va_P _ _ _ t.heap; rw [ht]; exact hP9)⟩, hS.F ht⟩) hS.2.2 dX12_lacks_48
        · skip
          have t13895 := cv_ne (a := r13892.toInt) rfl (b := 0) (by decide) c13893
          refine lv_iload hx hb dX12_lacks_39 (lv_at hl 4 rfl) ?_
          refine va_calli (va_runS (As := [.int p3]) (rest := []) ⟨hx, hb, hml, hown, hwd⟩ (c_X12_isDay l dC dI g c adK adV v F rc H.size p3 hg hI ) (va_cwS 1 hwd (gT wk_556 wk_554 wk_555 wk_5) rfl rfl rfl (by decide +kernel) ⟨Nat.le_of_ble_eq_true rfl, Nat.le_of_ble_eq_true rfl⟩) ⟨PM.blind, fun U hU hW => ⟨rfl, PM.at hK hE hP hS hU hW⟩⟩ rfl rfl hl.1 rfl (lv_room (Nat.le_of_ble_eq_true rfl)) dX12_lacks_41 ⟨Nat.le_of_ble_eq_true rfl, Nat.le_of_ble_eq_true rfl⟩) hS (fun q _ h => (freeM hS) q h) (freeM hS) (fun r13896 u t H1 locs ht hvm hw hB hz1 hk1 hS => ?_)
          unfold BM at hB
          rw [ht] at hB
          have hP : va_P (dC, dI) classes (wM g c v F rc) H1 := hB
          have hw_r13896 : (r13896.toInt = 1 ∧ 0 ≤ p3.toInt ∧ p3.toInt ≤ 9999) ∨ (r13896.toInt = 0 ∧ (p3.toInt < 0 ∨ 9999 < p3.toInt)) := hw
          clear hw
          clear hz1
          generalize H1 = H at hP hS ⊢
          refine lv_if_ne (tgt := 49) hx hb dX12_lacks_44 (by decide) (fun c13897 => ?_) (fun c13897 => ?_)
          · skip
            have t13898 := cv_ne (a := r13896.toInt) rfl (b := 0) (by decide) c13897
            refine lv_aload_n hx hb dX12_lacks_49 rfl (lv_at hl 0 rfl) ?_
            refine lv_iload_n hx hb dX12_lacks_50 rfl (lv_at hl 1 rfl) ?_
            have t13899 : 0 ≤ (v 14).toInt ∧ (v 14).toInt ≤ 100 := hI.1 14 _ _ rfl
            refine va_callv (va_runV (As := [.int p0]) (rest := []) ⟨hx, hb, hml, hown, hwd⟩ (c_X12_board l dC dI g c adK adV v F rc H.size p0 hg hI ) (cwV 1 hwd (gV wk_1205 wk_1202 wk_1203 wk_1204 wk_5) rfl rfl rfl (by decide +kernel) ⟨Nat.le_of_ble_eq_true rfl, Nat.le_of_ble_eq_true rfl⟩) ⟨PM.blind, va_recv hK hP (ci := 12) (q0 := 0) rfl rfl, fun U hU hW => ⟨rfl, PM.at hK hE hP hS hU hW⟩⟩ rfl rfl hl.1 rfl (lv_room (Nat.le_of_ble_eq_true rfl)) dX12_lacks_51 ⟨Nat.le_of_ble_eq_true rfl, Nat.le_of_ble_eq_true rfl⟩) hS (fun q _ h => (freeM hS) q h) (freeM hS) (fun u t H1 locs ht hvm hw hB hz1 hk1 hS => ?_)
            unfold BM at hB
            rw [ht] at hB
            obtain ⟨v13901, F13902, rc9⟩ := u
            obtain ⟨hI, hrc, hf13903, hG13904, hw⟩ := hw
            dsimp only at hI hrc hB hf13903 hG13904 hw
            have hF := frCF (by decide) hG13904 hF
            rw [hrc] at hB
            have hP : va_P (dC, dI) classes (wM g c v13901 F13902 rc) H1 := hB
            replace hw : ∀ j : Nat, (j : Int) < (v 14).toInt → (F13902 42 j).toInt ≠ 0 → (F 13 j).toInt = p0.toInt := hw
            have hw_r13900 := hw
            clear hw
            clear hz1
            generalize H1 = H at hP hS ⊢
            refine lv_aload_n hx hb dX12_lacks_54 rfl (lv_at hl 0 rfl) ?_
            refine lv_iload_n hx hb dX12_lacks_55 rfl (lv_at hl 1 rfl) ?_
            refine lv_iload_n hx hb dX12_lacks_56 rfl (lv_at hl 2 rfl) ?_
            refine lv_iload_n hx hb dX12_lacks_57 rfl (lv_at hl 3 rfl) ?_
            refine lv_iload hx hb dX12_lacks_58 (lv_at hl 4 rfl) ?_
            refine va_calli (va_runV (As := [.int p0, .int p1, .int p2, .int p3]) (rest := []) ⟨hx, hb, hml, hown, hwd⟩ (c_X12_lacksOf l dC dI g c adK adV v13901 F13902 rc H.size p0 p1 p2 p3 hg hI (by omega) (by omega) (JL.to hL (show v13901 31 = v 31 from hf13903 31 (by decide)) (hF 28 (by decide)) (hF 29 (by decide)) (hF 27 (by decide)))) (cwV 4 hwd (gV wk_1209 wk_1206 wk_1207 wk_1208 wk_5) rfl rfl rfl (by decide +kernel) ⟨Nat.le_of_ble_eq_true rfl, Nat.le_of_ble_eq_true rfl⟩) ⟨PM.blind, va_recv hK hP (ci := 12) (q0 := 0) rfl rfl, fun U hU hW => ⟨rfl, PM.at hK hE hP hS hU hW⟩⟩ rfl rfl hl.1 rfl (lv_room (Nat.le_of_ble_eq_true rfl)) dX12_lacks_60 ⟨Nat.le_of_ble_eq_true rfl, Nat.le_of_ble_eq_true rfl⟩) hS (fun q _ h => (freeM hS) q h) (freeM hS) (fun r13905 u t H1 locs ht hvm hw hB hz1 hk1 hS => ?_)
            unfold BM at hB
            rw [ht] at hB
            obtain ⟨v13906, F13907, rc9⟩ := u
            obtain ⟨hI, hrc, hf13908, hG13909, hw⟩ := hw
            dsimp only at hI hrc hB hf13908 hG13909 hw
            have hF := frCF (by decide) hG13909 hF
            rw [hrc] at hB
            have hP : va_P (dC, dI) classes (wM g c v13906 F13907 rc) H1 := hB
            clear hz1
            generalize H1 = H at hP hS ⊢
            have rr_r13905 := i32_rng r13905
            have hP9 : va_P (dC, dI) classes (wM g c v13906 F13907 rc) H := hP
            exact W.iret (v := r13905) hx hb hr (fun t ht hW => ⟨⟨r13905, (v13906, F13907, rc), rfl, ⟨hI, rfl, (frC (by decide) hf13908 (frC (by decide) hf13903 (fun _ _ => rfl))), hF, trivial⟩, (by show va_P _ _ _ t.heap; rw [ht]; exact hP9)⟩, hS.F ht⟩) hS.2.2 dX12_lacks_63
          · skip
            have t13910 := cv_eq (a := r13896.toInt) rfl (b := 0) (by decide) c13897
            refine lv_iconst (v := (-1)) hx hb dX12_lacks_47 (by decide) ?_
            have hP9 : va_P (dC, dI) classes (wM g c v F rc) H := hP
            exact W.iret (v := (-1)) hx hb hr (fun t ht hW => ⟨⟨(-1), (v, F, rc), rfl, ⟨hI, rfl, (fun _ _ => rfl), hF, trivial⟩, (by show va_P _ _ _ t.heap; rw [ht]; exact hP9)⟩, hS.F ht⟩) hS.2.2 dX12_lacks_48
set_option maxHeartbeats 8000000 in
set_option maxRecDepth 100000 in
theorem c_X12_costs (l : Launch) (dC : Nat → ClassId) (dI : Nat → Nat → Nat) (g : Nat → Nat) (c : Nat → ClassId) (adK adV : Nat → Nat) (v : Nat → Int32) (F : Nat → Nat → Int32) (rc sz : Nat) (p0 : Int32) (p1 : Int32) (p2 : Int32) (p3 : Int32) (hg : injM g) (hI : IM v F) (hL : JL (v 31) (F 28) (F 29) (F 27)) : Met l yX12_costs (Cond.code yX12_costs cX12_costs 5 (some .int) :: wA) ({ frames := 8, cells := 0, slots := 0, locals := 320 }) (va_Pc [.ref (g 0), .int p0, .int p1, .int p2, .int p3] (PM dC dI g c adK adV v F rc sz)) (va_Qi (fun (r : Int32) (u : StM) => IM u.1 u.2.1 ∧ u.2.2 = rc ∧ (∀ k, k ∉ ([] : List Nat) → u.1 k = v k) ∧ (∀ k, k ∉ ([30, 31, 42] : List Nat) → u.2.1 k = F k) ∧ True) (BM dC dI g c) (AM g sz)) 0 0 (AM g sz) := by
  refine Met.ofW (cc := cX12_costs) (maxL := 5) (ret := (some .int)) (by decide) rfl ?_
  intro p e s m args below meth c0 s₁ B hml hv
  obtain ⟨rfl, hsz, hP, hK, hE⟩ := hv
  have hx := B.exec
  have hb := B.bytes
  have hr := B.returns
  have hts := atoms_spec (ws := Cond.code yX12_costs cX12_costs 5 (some .int) :: wA) B.pre
  have hwd : ∀ w ∈ wA, w.before _ s = true := fun w h => hts w (List.mem_cons_of_mem _ h)
  have hown : s.vm.findClass RX12 = some m.cls := findClass_of_methodNamed B.named
  have hlocks := B.notSynchronized
  subst hsz
  have hl := lv_entry ([.ref (g 0), .int p0, .int p1, .int p2, .int p3]) (n := 5) (Nat.le_of_ble_eq_true rfl)
  rw [lg_entry_eq]
  generalize (lg_sl ([.ref (g 0), .int p0, .int p1, .int p2, .int p3]) ++ List.replicate (5 - (lg_sl ([.ref (g 0), .int p0, .int p1, .int p2, .int p3])).length) Slot.unset).toArray = ls at hl ⊢
  have hl : lv_has ls 5 [(0, .ref (g 0)), (1, .int p0), (2, .int p1), (3, .int p2), (4, .int p3)] := hl
  obtain ⟨H, eH⟩ : ∃ z, z = s.heap := ⟨_, rfl⟩
  have hP : va_P (dC, dI) classes (wM g c v F rc) H := by rw [eH]; exact hP
  have hS : va_S (AM g s.heap.size) s.heap H [] := by rw [eH]; exact va_S.rf
  refine my_heap eH ?_
  have hF : ∀ k, k ∉ ([30, 31, 42] : List Nat) → F k = F k := fun _ _ => rfl
  have rp0 := i32_rng p0
  have rp1 := i32_rng p1
  have rp2 := i32_rng p2
  have rp3 := i32_rng p3
  have hb31 : 0 ≤ (v 31).toInt ∧ (v 31).toInt ≤ 10 := hI.1 31 _ _ rfl
  refine lv_aload_n hx hb dX12_costs_0 rfl (lv_at hl 0 rfl) ?_
  refine lv_iload_n hx hb dX12_costs_1 rfl (lv_at hl 1 rfl) ?_
  have t13958 : 0 ≤ (v 6).toInt ∧ (v 6).toInt ≤ 10 := hI.1 6 _ _ rfl
  refine va_calli (va_runV (As := [.int p0]) (rest := []) ⟨hx, hb, hml, hown, hwd⟩ (c_X12_isPlane l dC dI g c adK adV v F rc H.size p0 hg hI ) (cwV 1 hwd (gV wk_305 wk_302 wk_303 wk_304 wk_5) rfl rfl rfl (by decide +kernel) ⟨Nat.le_of_ble_eq_true rfl, Nat.le_of_ble_eq_true rfl⟩) ⟨PM.blind, va_recv hK hP (ci := 12) (q0 := 0) rfl rfl, fun U hU hW => ⟨rfl, PM.at hK hE hP hS hU hW⟩⟩ rfl rfl hl.1 rfl (lv_room (Nat.le_of_ble_eq_true rfl)) dX12_costs_2 ⟨Nat.le_of_ble_eq_true rfl, Nat.le_of_ble_eq_true rfl⟩) hS (fun q _ h => (freeM hS) q h) (freeM hS) (fun r13959 u t H1 locs ht hvm hw hB hz1 hk1 hS => ?_)
  unfold BM at hB
  rw [ht] at hB
  have hP : va_P (dC, dI) classes (wM g c v F rc) H1 := hB
  replace hw : (r13959.toInt = 1 ∧ 0 ≤ p0.toInt ∧ p0.toInt < (v 6).toInt) ∨ (r13959.toInt = 0 ∧ (p0.toInt < 0 ∨ (v 6).toInt ≤ p0.toInt)) := hw
  have hw_r13959 := hw
  clear hw
  clear hz1
  generalize H1 = H at hP hS ⊢
  refine lv_if_eq (tgt := 47) hx hb dX12_costs_5 (by decide) (fun c13960 => ?_) (fun c13960 => ?_)
  · skip
    have t13961 := cv_eq (a := r13959.toInt) rfl (b := 0) (by decide) c13960
    refine lv_ldc (v := (-2000000000)) hx hb hown (hwd _ wk_542) dX12_costs_47 ?_
    have hP9 : va_P (dC, dI) classes (wM g c v F rc) H := hP
    exact W.iret (v := (-2000000000)) hx hb hr (fun t ht hW => ⟨⟨(-2000000000), (v, F, rc), rfl, ⟨hI, rfl, (fun _ _ => rfl), hF, trivial⟩, (by show va_P _ _ _ t.heap; rw [ht]; exact hP9)⟩, hS.F ht⟩) hS.2.2 dX12_costs_49
  · skip
    have t13962 := cv_ne (a := r13959.toInt) rfl (b := 0) (by decide) c13960
    refine lv_aload_n hx hb dX12_costs_8 rfl (lv_at hl 0 rfl) ?_
    refine lv_iload_n hx hb dX12_costs_9 rfl (lv_at hl 1 rfl) ?_
    refine va_calli (va_runV (As := [.int p0]) (rest := []) ⟨hx, hb, hml, hown, hwd⟩ (c_X12_hasContract l dC dI g c adK adV v F rc H.size p0 hg hI (by omega)) (cwV 1 hwd (gV wk_1201 wk_1198 wk_1199 wk_1200 wk_5) rfl rfl rfl (by decide +kernel) ⟨Nat.le_of_ble_eq_true rfl, Nat.le_of_ble_eq_true rfl⟩) ⟨PM.blind, va_recv hK hP (ci := 12) (q0 := 0) rfl rfl, fun U hU hW => ⟨rfl, PM.at hK hE hP hS hU hW⟩⟩ rfl rfl hl.1 rfl (lv_room (Nat.le_of_ble_eq_true rfl)) dX12_costs_10 ⟨Nat.le_of_ble_eq_true rfl, Nat.le_of_ble_eq_true rfl⟩) hS (fun q _ h => (freeM hS) q h) (freeM hS) (fun r13963 u t H1 locs ht hvm hw hB hz1 hk1 hS => ?_)
    unfold BM at hB
    rw [ht] at hB
    have hP : va_P (dC, dI) classes (wM g c v F rc) H1 := hB
    have hw_r13963 : 0 ≤ r13963.toInt ∧ r13963.toInt ≤ 1 := hw
    clear hw
    clear hz1
    generalize H1 = H at hP hS ⊢
    refine lv_if_eq (tgt := 47) hx hb dX12_costs_13 (by decide) (fun c13964 => ?_) (fun c13964 => ?_)
    · skip
      have t13965 := cv_eq (a := r13963.toInt) rfl (b := 0) (by decide) c13964
      refine lv_ldc (v := (-2000000000)) hx hb hown (hwd _ wk_542) dX12_costs_47 ?_
      have hP9 : va_P (dC, dI) classes (wM g c v F rc) H := hP
      exact W.iret (v := (-2000000000)) hx hb hr (fun t ht hW => ⟨⟨(-2000000000), (v, F, rc), rfl, ⟨hI, rfl, (fun _ _ => rfl), hF, trivial⟩, (by show va_P _ _ _ t.heap; rw [ht]; exact hP9)⟩, hS.F ht⟩) hS.2.2 dX12_costs_49
    · skip
      have t13966 := cv_ne (a := r13963.toInt) rfl (b := 0) (by decide) c13964
      refine lv_iload_n hx hb dX12_costs_16 rfl (lv_at hl 2 rfl) ?_
      refine lv_iconst (v := (-1)) hx hb dX12_costs_17 (by decide) ?_
      refine lv_aload_n hx hb dX12_costs_18 rfl (lv_at hl 0 rfl) ?_
      refine va_get (D := (dC, dI)) (ci := 12) (v := .ref (g 37)) (C := RX12) (T := TX12) (N := 63) hx hb hwd inA_X12 hown hK hP 0 rfl rfl 51 (by decide) (hwd _ wk_219) (fun _ h9 => h9) rfl dX12_costs_19 ?_
      refine lv_iload_n hx hb dX12_costs_22 rfl (lv_at hl 1 rfl) ?_
      refine va_iald hx hb hK hP 37 36 rfl rfl (i := p0) (vin (a := p0.toInt) rfl (by omega)) dX12_costs_23 ?_
      refine lv_topi (fun z13967 e13968 => ?_)
      have t13969 : 0 ≤ z13967.toInt ∧ z13967.toInt ≤ 31 := by rw [e13968]; exact hI.2 37 _ _ rfl _
      refine lv_iconst (v := 1) hx hb dX12_costs_24 (by decide) ?_
      refine lv_isub hx hb dX12_costs_25 ?_
      refine lv_topi (fun z13970 e13971 => ?_)
      try (have t13972 := tsub e13971 (a := z13967.toInt) rfl (b := 1) (by decide) (by omega))
      refine va_calli (va_runS (As := [.int p1, .int (-1), .int z13970]) (rest := []) ⟨hx, hb, hml, hown, hwd⟩ (c_X12_in l dC dI g c adK adV v F rc H.size p1 (-1) z13970 hg hI ) (va_cwS 3 hwd (gT wk_254 wk_252 wk_253 wk_5) rfl rfl rfl (by decide +kernel) ⟨Nat.le_of_ble_eq_true rfl, Nat.le_of_ble_eq_true rfl⟩) ⟨PM.blind, fun U hU hW => ⟨rfl, PM.at hK hE hP hS hU hW⟩⟩ rfl rfl hl.1 rfl (lv_room (Nat.le_of_ble_eq_true rfl)) dX12_costs_26 ⟨Nat.le_of_ble_eq_true rfl, Nat.le_of_ble_eq_true rfl⟩) hS (fun q _ h => (freeM hS) q h) (freeM hS) (fun r13973 u t H1 locs ht hvm hw hB hz1 hk1 hS => ?_)
      unfold BM at hB
      rw [ht] at hB
      have hP : va_P (dC, dI) classes (wM g c v F rc) H1 := hB
      have hw_r13973 : (r13973.toInt = 1 ∧ ((-1) : Int32).toInt ≤ p1.toInt ∧ p1.toInt ≤ z13970.toInt) ∨ (r13973.toInt = 0 ∧ (p1.toInt < ((-1) : Int32).toInt ∨ z13970.toInt < p1.toInt)) := hw
      clear hw
      have k13974 : ((-1) : Int32).toInt = (-1) := by decide
      clear hz1
      generalize H1 = H at hP hS ⊢
      refine lv_if_eq (tgt := 47) hx hb dX12_costs_29 (by decide) (fun c13975 => ?_) (fun c13975 => ?_)
      · skip
        have t13976 := cv_eq (a := r13973.toInt) rfl (b := 0) (by decide) c13975
        refine lv_ldc (v := (-2000000000)) hx hb hown (hwd _ wk_542) dX12_costs_47 ?_
        have hP9 : va_P (dC, dI) classes (wM g c v F rc) H := hP
        exact W.iret (v := (-2000000000)) hx hb hr (fun t ht hW => ⟨⟨(-2000000000), (v, F, rc), rfl, ⟨hI, rfl, (fun _ _ => rfl), hF, trivial⟩, (by show va_P _ _ _ t.heap; rw [ht]; exact hP9)⟩, hS.F ht⟩) hS.2.2 dX12_costs_49
      · skip
        have t13977 := cv_ne (a := r13973.toInt) rfl (b := 0) (by decide) c13975
        refine lv_iload_n hx hb dX12_costs_32 rfl (lv_at hl 3 rfl) ?_
        refine va_calli (va_runS (As := [.int p2]) (rest := []) ⟨hx, hb, hml, hown, hwd⟩ (c_X12_isDay l dC dI g c adK adV v F rc H.size p2 hg hI ) (va_cwS 1 hwd (gT wk_556 wk_554 wk_555 wk_5) rfl rfl rfl (by decide +kernel) ⟨Nat.le_of_ble_eq_true rfl, Nat.le_of_ble_eq_true rfl⟩) ⟨PM.blind, fun U hU hW => ⟨rfl, PM.at hK hE hP hS hU hW⟩⟩ rfl rfl hl.1 rfl (lv_room (Nat.le_of_ble_eq_true rfl)) dX12_costs_33 ⟨Nat.le_of_ble_eq_true rfl, Nat.le_of_ble_eq_true rfl⟩) hS (fun q _ h => (freeM hS) q h) (freeM hS) (fun r13978 u t H1 locs ht hvm hw hB hz1 hk1 hS => ?_)
        unfold BM at hB
        rw [ht] at hB
        have hP : va_P (dC, dI) classes (wM g c v F rc) H1 := hB
        have hw_r13978 : (r13978.toInt = 1 ∧ 0 ≤ p2.toInt ∧ p2.toInt ≤ 9999) ∨ (r13978.toInt = 0 ∧ (p2.toInt < 0 ∨ 9999 < p2.toInt)) := hw
        clear hw
        clear hz1
        generalize H1 = H at hP hS ⊢
        refine lv_if_eq (tgt := 47) hx hb dX12_costs_36 (by decide) (fun c13979 => ?_) (fun c13979 => ?_)
        · skip
          have t13980 := cv_eq (a := r13978.toInt) rfl (b := 0) (by decide) c13979
          refine lv_ldc (v := (-2000000000)) hx hb hown (hwd _ wk_542) dX12_costs_47 ?_
          have hP9 : va_P (dC, dI) classes (wM g c v F rc) H := hP
          exact W.iret (v := (-2000000000)) hx hb hr (fun t ht hW => ⟨⟨(-2000000000), (v, F, rc), rfl, ⟨hI, rfl, (fun _ _ => rfl), hF, trivial⟩, (by show va_P _ _ _ t.heap; rw [ht]; exact hP9)⟩, hS.F ht⟩) hS.2.2 dX12_costs_49
        · skip
          have t13981 := cv_ne (a := r13978.toInt) rfl (b := 0) (by decide) c13979
          refine lv_iload hx hb dX12_costs_39 (lv_at hl 4 rfl) ?_
          refine va_calli (va_runS (As := [.int p3]) (rest := []) ⟨hx, hb, hml, hown, hwd⟩ (c_X12_isDay l dC dI g c adK adV v F rc H.size p3 hg hI ) (va_cwS 1 hwd (gT wk_556 wk_554 wk_555 wk_5) rfl rfl rfl (by decide +kernel) ⟨Nat.le_of_ble_eq_true rfl, Nat.le_of_ble_eq_true rfl⟩) ⟨PM.blind, fun U hU hW => ⟨rfl, PM.at hK hE hP hS hU hW⟩⟩ rfl rfl hl.1 rfl (lv_room (Nat.le_of_ble_eq_true rfl)) dX12_costs_41 ⟨Nat.le_of_ble_eq_true rfl, Nat.le_of_ble_eq_true rfl⟩) hS (fun q _ h => (freeM hS) q h) (freeM hS) (fun r13982 u t H1 locs ht hvm hw hB hz1 hk1 hS => ?_)
          unfold BM at hB
          rw [ht] at hB
          have hP : va_P (dC, dI) classes (wM g c v F rc) H1 := hB
          have hw_r13982 : (r13982.toInt = 1 ∧ 0 ≤ p3.toInt ∧ p3.toInt ≤ 9999) ∨ (r13982.toInt = 0 ∧ (p3.toInt < 0 ∨ 9999 < p3.toInt)) := hw
          clear hw
          clear hz1
          generalize H1 = H at hP hS ⊢
          refine lv_if_ne (tgt := 50) hx hb dX12_costs_44 (by decide) (fun c13983 => ?_) (fun c13983 => ?_)
          · skip
            have t13984 := cv_ne (a := r13982.toInt) rfl (b := 0) (by decide) c13983
            refine lv_aload_n hx hb dX12_costs_50 rfl (lv_at hl 0 rfl) ?_
            refine lv_iload_n hx hb dX12_costs_51 rfl (lv_at hl 1 rfl) ?_
            have t13985 : 0 ≤ (v 14).toInt ∧ (v 14).toInt ≤ 100 := hI.1 14 _ _ rfl
            refine va_callv (va_runV (As := [.int p0]) (rest := []) ⟨hx, hb, hml, hown, hwd⟩ (c_X12_board l dC dI g c adK adV v F rc H.size p0 hg hI ) (cwV 1 hwd (gV wk_1205 wk_1202 wk_1203 wk_1204 wk_5) rfl rfl rfl (by decide +kernel) ⟨Nat.le_of_ble_eq_true rfl, Nat.le_of_ble_eq_true rfl⟩) ⟨PM.blind, va_recv hK hP (ci := 12) (q0 := 0) rfl rfl, fun U hU hW => ⟨rfl, PM.at hK hE hP hS hU hW⟩⟩ rfl rfl hl.1 rfl (lv_room (Nat.le_of_ble_eq_true rfl)) dX12_costs_52 ⟨Nat.le_of_ble_eq_true rfl, Nat.le_of_ble_eq_true rfl⟩) hS (fun q _ h => (freeM hS) q h) (freeM hS) (fun u t H1 locs ht hvm hw hB hz1 hk1 hS => ?_)
            unfold BM at hB
            rw [ht] at hB
            obtain ⟨v13987, F13988, rc9⟩ := u
            obtain ⟨hI, hrc, hf13989, hG13990, hw⟩ := hw
            dsimp only at hI hrc hB hf13989 hG13990 hw
            have hF := frCF (by decide) hG13990 hF
            rw [hrc] at hB
            have hP : va_P (dC, dI) classes (wM g c v13987 F13988 rc) H1 := hB
            replace hw : ∀ j : Nat, (j : Int) < (v 14).toInt → (F13988 42 j).toInt ≠ 0 → (F 13 j).toInt = p0.toInt := hw
            have hw_r13986 := hw
            clear hw
            clear hz1
            generalize H1 = H at hP hS ⊢
            refine lv_iload_n hx hb dX12_costs_55 rfl (lv_at hl 2 rfl) ?_
            refine lv_if_ge (tgt := 70) hx hb dX12_costs_56 (by decide) (fun c13991 => ?_) (fun c13991 => ?_)
            · skip
              have t13992 := cv_le (a := 0) (by decide) (b := p1.toInt) rfl c13991
              refine lv_aload_n hx hb dX12_costs_70 rfl (lv_at hl 0 rfl) ?_
              refine lv_iload_n hx hb dX12_costs_71 rfl (lv_at hl 1 rfl) ?_
              refine lv_iload_n hx hb dX12_costs_72 rfl (lv_at hl 2 rfl) ?_
              refine lv_iload_n hx hb dX12_costs_73 rfl (lv_at hl 3 rfl) ?_
              refine lv_iload hx hb dX12_costs_74 (lv_at hl 4 rfl) ?_
              refine va_calli (va_runV (As := [.int p0, .int p1, .int p2, .int p3]) (rest := []) ⟨hx, hb, hml, hown, hwd⟩ (c_X12_costOf l dC dI g c adK adV v13987 F13988 rc H.size p0 p1 p2 p3 hg hI (by omega) (by omega) (JL.to hL (show v13987 31 = v 31 from hf13989 31 (by decide)) (hF 28 (by decide)) (hF 29 (by decide)) (hF 27 (by decide)))) (cwV 4 hwd (gV wk_1251 wk_1248 wk_1249 wk_1250 wk_5) rfl rfl rfl (by decide +kernel) ⟨Nat.le_of_ble_eq_true rfl, Nat.le_of_ble_eq_true rfl⟩) ⟨PM.blind, va_recv hK hP (ci := 12) (q0 := 0) rfl rfl, fun U hU hW => ⟨rfl, PM.at hK hE hP hS hU hW⟩⟩ rfl rfl hl.1 rfl (lv_room (Nat.le_of_ble_eq_true rfl)) dX12_costs_76 ⟨Nat.le_of_ble_eq_true rfl, Nat.le_of_ble_eq_true rfl⟩) hS (fun q _ h => (freeM hS) q h) (freeM hS) (fun r13993 u t H1 locs ht hvm hw hB hz1 hk1 hS => ?_)
              unfold BM at hB
              rw [ht] at hB
              obtain ⟨v13994, F13995, rc9⟩ := u
              obtain ⟨hI, hrc, hf13996, hG13997, hw⟩ := hw
              dsimp only at hI hrc hB hf13996 hG13997 hw
              have hF := frCF (by decide) hG13997 hF
              rw [hrc] at hB
              have hP : va_P (dC, dI) classes (wM g c v13994 F13995 rc) H1 := hB
              clear hz1
              generalize H1 = H at hP hS ⊢
              have rr_r13993 := i32_rng r13993
              have hP9 : va_P (dC, dI) classes (wM g c v13994 F13995 rc) H := hP
              exact W.iret (v := r13993) hx hb hr (fun t ht hW => ⟨⟨r13993, (v13994, F13995, rc), rfl, ⟨hI, rfl, (frC (by decide) hf13996 (frC (by decide) hf13989 (fun _ _ => rfl))), hF, trivial⟩, (by show va_P _ _ _ t.heap; rw [ht]; exact hP9)⟩, hS.F ht⟩) hS.2.2 dX12_costs_79
            · skip
              have t13998 := cv_nle (a := 0) (by decide) (b := p1.toInt) rfl c13991
              refine lv_aload_n hx hb dX12_costs_59 rfl (lv_at hl 0 rfl) ?_
              refine lv_iload_n hx hb dX12_costs_60 rfl (lv_at hl 1 rfl) ?_
              refine lv_iload_n hx hb dX12_costs_61 rfl (lv_at hl 3 rfl) ?_
              refine lv_iload hx hb dX12_costs_62 (lv_at hl 4 rfl) ?_
              refine va_calli (va_runV (As := [.int p0, .int p2, .int p3]) (rest := []) ⟨hx, hb, hml, hown, hwd⟩ (c_X12_costOfAll l dC dI g c adK adV v13987 F13988 rc H.size p0 p2 p3 hg hI (by omega) (JL.to hL (show v13987 31 = v 31 from hf13989 31 (by decide)) (hF 28 (by decide)) (hF 29 (by decide)) (hF 27 (by decide)))) (cwV 3 hwd (gV wk_1247 wk_1244 wk_1245 wk_1246 wk_5) rfl rfl rfl (by decide +kernel) ⟨Nat.le_of_ble_eq_true rfl, Nat.le_of_ble_eq_true rfl⟩) ⟨PM.blind, va_recv hK hP (ci := 12) (q0 := 0) rfl rfl, fun U hU hW => ⟨rfl, PM.at hK hE hP hS hU hW⟩⟩ rfl rfl hl.1 rfl (lv_room (Nat.le_of_ble_eq_true rfl)) dX12_costs_64 ⟨Nat.le_of_ble_eq_true rfl, Nat.le_of_ble_eq_true rfl⟩) hS (fun q _ h => (freeM hS) q h) (freeM hS) (fun r13999 u t H1 locs ht hvm hw hB hz1 hk1 hS => ?_)
              unfold BM at hB
              rw [ht] at hB
              obtain ⟨v14000, F14001, rc9⟩ := u
              obtain ⟨hI, hrc, hf14002, hG14003, hw⟩ := hw
              dsimp only at hI hrc hB hf14002 hG14003 hw
              have hF := frCF (by decide) hG14003 hF
              rw [hrc] at hB
              have hP : va_P (dC, dI) classes (wM g c v14000 F14001 rc) H1 := hB
              clear hz1
              generalize H1 = H at hP hS ⊢
              have rr_r13999 := i32_rng r13999
              refine lv_goto (tgt := 79) hx hb dX12_costs_67 (by decide) ?_
              have hP9 : va_P (dC, dI) classes (wM g c v14000 F14001 rc) H := hP
              exact W.iret (v := r13999) hx hb hr (fun t ht hW => ⟨⟨r13999, (v14000, F14001, rc), rfl, ⟨hI, rfl, (frC (by decide) hf14002 (frC (by decide) hf13989 (fun _ _ => rfl))), hF, trivial⟩, (by show va_P _ _ _ t.heap; rw [ht]; exact hP9)⟩, hS.F ht⟩) hS.2.2 dX12_costs_79
          · skip
            have t14004 := cv_eq (a := r13982.toInt) rfl (b := 0) (by decide) c13983
            refine lv_ldc (v := (-2000000000)) hx hb hown (hwd _ wk_542) dX12_costs_47 ?_
            have hP9 : va_P (dC, dI) classes (wM g c v F rc) H := hP
            exact W.iret (v := (-2000000000)) hx hb hr (fun t ht hW => ⟨⟨(-2000000000), (v, F, rc), rfl, ⟨hI, rfl, (fun _ _ => rfl), hF, trivial⟩, (by show va_P _ _ _ t.heap; rw [ht]; exact hP9)⟩, hS.F ht⟩) hS.2.2 dX12_costs_49
set_option maxHeartbeats 8000000 in
set_option maxRecDepth 100000 in
theorem c_X12_count (l : Launch) (dC : Nat → ClassId) (dI : Nat → Nat → Nat) (g : Nat → Nat) (c : Nat → ClassId) (adK adV : Nat → Nat) (v : Nat → Int32) (F : Nat → Nat → Int32) (rc sz : Nat) (p0 : Int32) (hg : injM g) (hI : IM v F) : Met l yX12_count (Cond.code yX12_count cX12_count 4 (some .int) :: wA) ({ frames := 2, cells := 0, slots := 0, locals := 80 }) (va_Pc [.ref (g 0), .int p0] (PM dC dI g c adK adV v F rc sz)) (va_Qi (fun (r : Int32) (u : Unit) => True) (fun (_ : Unit) => BM dC dI g c (v, F, rc)) (AM g sz)) 0 0 (AM g sz) := by
  refine Met.ofW (cc := cX12_count) (maxL := 4) (ret := (some .int)) (by decide) rfl ?_
  intro p e s m args below meth c0 s₁ B hml hv
  obtain ⟨rfl, hsz, hP, hK, hE⟩ := hv
  have hx := B.exec
  have hb := B.bytes
  have hr := B.returns
  have hts := atoms_spec (ws := Cond.code yX12_count cX12_count 4 (some .int) :: wA) B.pre
  have hwd : ∀ w ∈ wA, w.before _ s = true := fun w h => hts w (List.mem_cons_of_mem _ h)
  have hown : s.vm.findClass RX12 = some m.cls := findClass_of_methodNamed B.named
  have hlocks := B.notSynchronized
  subst hsz
  have hl := lv_entry ([.ref (g 0), .int p0]) (n := 4) (Nat.le_of_ble_eq_true rfl)
  rw [lg_entry_eq]
  generalize (lg_sl ([.ref (g 0), .int p0]) ++ List.replicate (4 - (lg_sl ([.ref (g 0), .int p0])).length) Slot.unset).toArray = ls at hl ⊢
  have hl : lv_has ls 4 [(0, .ref (g 0)), (1, .int p0)] := hl
  obtain ⟨H, eH⟩ : ∃ z, z = s.heap := ⟨_, rfl⟩
  have hP : va_P (dC, dI) classes (wM g c v F rc) H := by rw [eH]; exact hP
  have hS : va_S (AM g s.heap.size) s.heap H [] := by rw [eH]; exact va_S.rf
  refine my_heap eH ?_
  have rp0 := i32_rng p0
  refine lv_iconst (v := 0) hx hb dX12_count_0 (by decide) ?_
  refine lv_istore_n (lv' := [(2, .int 0), (0, .ref (g 0)), (1, .int p0)]) hx hb dX12_count_1 rfl hl (by decide) rfl (fun ls hl => ?_)
  refine lv_iload_n hx hb dX12_count_2 rfl (lv_at hl 2 rfl) ?_
  by_cases hlo14005 : p0.toInt < 0
  · refine lv_tableOut (tgt := 168) hx hb dX12_count_3 (Or.inl hlo14005) (by decide) ?_
    refine lv_iconst (v := (-1)) hx hb dX12_count_168 (by decide) ?_
    have hP9 : va_P (dC, dI) classes (wM g c v F rc) H := hP
    exact W.iret (v := (-1)) hx hb hr (fun t ht hW => ⟨⟨(-1), (), rfl, trivial, (by show va_P _ _ _ t.heap; rw [ht]; exact hP9)⟩, hS.F ht⟩) hS.2.2 dX12_count_169
  by_cases hhi14006 : 12 < p0.toInt
  · refine lv_tableOut (tgt := 168) hx hb dX12_count_3 (Or.inr hhi14006) (by decide) ?_
    refine lv_iconst (v := (-1)) hx hb dX12_count_168 (by decide) ?_
    have hP9 : va_P (dC, dI) classes (wM g c v F rc) H := hP
    exact W.iret (v := (-1)) hx hb hr (fun t ht hW => ⟨⟨(-1), (), rfl, trivial, (by show va_P _ _ _ t.heap; rw [ht]; exact hP9)⟩, hS.F ht⟩) hS.2.2 dX12_count_169
  rcases (show p0.toInt = 0 ∨ p0.toInt = 1 ∨ p0.toInt = 2 ∨ p0.toInt = 3 ∨ p0.toInt = 4 ∨ p0.toInt = 5 ∨ p0.toInt = 6 ∨ p0.toInt = 7 ∨ p0.toInt = 8 ∨ p0.toInt = 9 ∨ p0.toInt = 10 ∨ p0.toInt = 11 ∨ p0.toInt = 12 by omega) with hk | hk | hk | hk | hk | hk | hk | hk | hk | hk | hk | hk | hk
  · refine lv_tableIn (off := 65) (tgt := 68) hx hb dX12_count_3 hlo14005 hhi14006 (by rw [hk]; decide) (by decide) ?_
    refine lv_aload_n hx hb dX12_count_68 rfl (lv_at hl 1 rfl) ?_
    refine va_get (D := (dC, dI)) (ci := 12) (v := .int (v 2)) (C := RX12) (T := TX12) (N := 63) hx hb hwd inA_X12 hown hK hP 0 rfl rfl 2 (by decide) (hwd _ wk_251) (fun _ h9 => h9) rfl dX12_count_69 ?_
    have t14007 : 0 ≤ (v 2).toInt ∧ (v 2).toInt ≤ 10 := hI.1 2 _ _ rfl
    have hP9 : va_P (dC, dI) classes (wM g c v F rc) H := hP
    exact W.iret (v := v 2) hx hb hr (fun t ht hW => ⟨⟨(v 2), (), rfl, trivial, (by show va_P _ _ _ t.heap; rw [ht]; exact hP9)⟩, hS.F ht⟩) hS.2.2 dX12_count_72
  · refine lv_tableIn (off := 70) (tgt := 73) hx hb dX12_count_3 hlo14005 hhi14006 (by rw [hk]; decide) (by decide) ?_
    refine lv_aload_n hx hb dX12_count_73 rfl (lv_at hl 1 rfl) ?_
    refine va_get (D := (dC, dI)) (ci := 12) (v := .int (v 6)) (C := RX12) (T := TX12) (N := 63) hx hb hwd inA_X12 hown hK hP 0 rfl rfl 6 (by decide) (hwd _ wk_268) (fun _ h9 => h9) rfl dX12_count_74 ?_
    have t14008 : 0 ≤ (v 6).toInt ∧ (v 6).toInt ≤ 10 := hI.1 6 _ _ rfl
    have hP9 : va_P (dC, dI) classes (wM g c v F rc) H := hP
    exact W.iret (v := v 6) hx hb hr (fun t ht hW => ⟨⟨(v 6), (), rfl, trivial, (by show va_P _ _ _ t.heap; rw [ht]; exact hP9)⟩, hS.F ht⟩) hS.2.2 dX12_count_77
  · refine lv_tableIn (off := 75) (tgt := 78) hx hb dX12_count_3 hlo14005 hhi14006 (by rw [hk]; decide) (by decide) ?_
    refine lv_aload_n hx hb dX12_count_78 rfl (lv_at hl 1 rfl) ?_
    refine va_get (D := (dC, dI)) (ci := 12) (v := .int (v 14)) (C := RX12) (T := TX12) (N := 63) hx hb hwd inA_X12 hown hK hP 0 rfl rfl 14 (by decide) (hwd _ wk_318) (fun _ h9 => h9) rfl dX12_count_79 ?_
    have t14009 : 0 ≤ (v 14).toInt ∧ (v 14).toInt ≤ 100 := hI.1 14 _ _ rfl
    have hP9 : va_P (dC, dI) classes (wM g c v F rc) H := hP
    exact W.iret (v := v 14) hx hb hr (fun t ht hW => ⟨⟨(v 14), (), rfl, trivial, (by show va_P _ _ _ t.heap; rw [ht]; exact hP9)⟩, hS.F ht⟩) hS.2.2 dX12_count_82
  · refine lv_tableIn (off := 80) (tgt := 83) hx hb dX12_count_3 hlo14005 hhi14006 (by rw [hk]; decide) (by decide) ?_
    refine lv_aload_n hx hb dX12_count_83 rfl (lv_at hl 1 rfl) ?_
    refine va_get (D := (dC, dI)) (ci := 12) (v := .int (v 1)) (C := RX12) (T := TX12) (N := 63) hx hb hwd inA_X12 hown hK hP 0 rfl rfl 1 (by decide) (hwd _ wk_332) (fun _ h9 => h9) rfl dX12_count_84 ?_
    have t14010 : 0 ≤ (v 1).toInt ∧ (v 1).toInt ≤ 9999 := hI.1 1 _ _ rfl
    have hP9 : va_P (dC, dI) classes (wM g c v F rc) H := hP
    exact W.iret (v := v 1) hx hb hr (fun t ht hW => ⟨⟨(v 1), (), rfl, trivial, (by show va_P _ _ _ t.heap; rw [ht]; exact hP9)⟩, hS.F ht⟩) hS.2.2 dX12_count_87
  · refine lv_tableIn (off := 85) (tgt := 88) hx hb dX12_count_3 hlo14005 hhi14006 (by rw [hk]; decide) (by decide) ?_
    refine lv_aload_n hx hb dX12_count_88 rfl (lv_at hl 1 rfl) ?_
    refine va_get (D := (dC, dI)) (ci := 12) (v := .int (v 31)) (C := RX12) (T := TX12) (N := 63) hx hb hwd inA_X12 hown hK hP 0 rfl rfl 31 (by decide) (hwd _ wk_505) (fun _ h9 => h9) rfl dX12_count_89 ?_
    have t14011 : 0 ≤ (v 31).toInt ∧ (v 31).toInt ≤ 10 := hI.1 31 _ _ rfl
    have hP9 : va_P (dC, dI) classes (wM g c v F rc) H := hP
    exact W.iret (v := v 31) hx hb hr (fun t ht hW => ⟨⟨(v 31), (), rfl, trivial, (by show va_P _ _ _ t.heap; rw [ht]; exact hP9)⟩, hS.F ht⟩) hS.2.2 dX12_count_92
  · refine lv_tableIn (off := 90) (tgt := 93) hx hb dX12_count_3 hlo14005 hhi14006 (by rw [hk]; decide) (by decide) ?_
    refine lv_aload_n hx hb dX12_count_93 rfl (lv_at hl 1 rfl) ?_
    refine va_get (D := (dC, dI)) (ci := 12) (v := .int (v 45)) (C := RX12) (T := TX12) (N := 63) hx hb hwd inA_X12 hown hK hP 0 rfl rfl 45 (by decide) (hwd _ wk_485) (fun _ h9 => h9) rfl dX12_count_94 ?_
    have t14012 : 0 ≤ (v 45).toInt ∧ (v 45).toInt ≤ 20 := hI.1 45 _ _ rfl
    have hP9 : va_P (dC, dI) classes (wM g c v F rc) H := hP
    exact W.iret (v := v 45) hx hb hr (fun t ht hW => ⟨⟨(v 45), (), rfl, trivial, (by show va_P _ _ _ t.heap; rw [ht]; exact hP9)⟩, hS.F ht⟩) hS.2.2 dX12_count_97
  · refine lv_tableIn (off := 95) (tgt := 98) hx hb dX12_count_3 hlo14005 hhi14006 (by rw [hk]; decide) (by decide) ?_
    refine lv_aload_n hx hb dX12_count_98 rfl (lv_at hl 1 rfl) ?_
    refine va_get (D := (dC, dI)) (ci := 12) (v := .int (v 19)) (C := RX12) (T := TX12) (N := 63) hx hb hwd inA_X12 hown hK hP 0 rfl rfl 19 (by decide) (hwd _ wk_494) (fun _ h9 => h9) rfl dX12_count_99 ?_
    have t14013 : 0 ≤ (v 19).toInt ∧ (v 19).toInt ≤ 500 := hI.1 19 _ _ rfl
    have hP9 : va_P (dC, dI) classes (wM g c v F rc) H := hP
    exact W.iret (v := v 19) hx hb hr (fun t ht hW => ⟨⟨(v 19), (), rfl, trivial, (by show va_P _ _ _ t.heap; rw [ht]; exact hP9)⟩, hS.F ht⟩) hS.2.2 dX12_count_102
  · refine lv_tableIn (off := 100) (tgt := 103) hx hb dX12_count_3 hlo14005 hhi14006 (by rw [hk]; decide) (by decide) ?_
    refine lv_aload_n hx hb dX12_count_103 rfl (lv_at hl 1 rfl) ?_
    refine va_get (D := (dC, dI)) (ci := 12) (v := .int (v 30)) (C := RX12) (T := TX12) (N := 63) hx hb hwd inA_X12 hown hK hP 0 rfl rfl 30 (by decide) (hwd _ wk_839) (fun _ h9 => h9) rfl dX12_count_104 ?_
    have t14014 : 0 ≤ (v 30).toInt ∧ (v 30).toInt ≤ 120 := hI.1 30 _ _ rfl
    have hP9 : va_P (dC, dI) classes (wM g c v F rc) H := hP
    exact W.iret (v := v 30) hx hb hr (fun t ht hW => ⟨⟨(v 30), (), rfl, trivial, (by show va_P _ _ _ t.heap; rw [ht]; exact hP9)⟩, hS.F ht⟩) hS.2.2 dX12_count_107
  · refine lv_tableIn (off := 105) (tgt := 108) hx hb dX12_count_3 hlo14005 hhi14006 (by rw [hk]; decide) (by decide) ?_
    refine lv_aload_n hx hb dX12_count_108 rfl (lv_at hl 1 rfl) ?_
    refine lv_bipush (v := 12) hx hb dX12_count_109 (by decide) ?_
    refine va_calli (va_runV (As := [.int 12]) (rest := []) ⟨hx, hb, hml, hown, hwd⟩ (c_X12_partsAt l dC dI g c adK adV v F rc H.size 12 hg hI ) (cwV 1 hwd (gV wk_1436 wk_1433 wk_1434 wk_1435 wk_5) rfl rfl rfl (by decide +kernel) ⟨Nat.le_of_ble_eq_true rfl, Nat.le_of_ble_eq_true rfl⟩) ⟨PM.blind, va_recv hK hP (ci := 12) (q0 := 0) rfl rfl, fun U hU hW => ⟨rfl, PM.at hK hE hP hS hU hW⟩⟩ rfl rfl hl.1 rfl (lv_room (Nat.le_of_ble_eq_true rfl)) dX12_count_111 ⟨Nat.le_of_ble_eq_true rfl, Nat.le_of_ble_eq_true rfl⟩) hS (fun q _ h => (freeM hS) q h) (freeM hS) (fun r14015 u t H1 locs ht hvm hw hB hz1 hk1 hS => ?_)
    unfold BM at hB
    rw [ht] at hB
    have hP : va_P (dC, dI) classes (wM g c v F rc) H1 := hB
    clear hz1
    generalize H1 = H at hP hS ⊢
    have rr_r14015 := i32_rng r14015
    have hP9 : va_P (dC, dI) classes (wM g c v F rc) H := hP
    exact W.iret (v := r14015) hx hb hr (fun t ht hW => ⟨⟨r14015, (), rfl, trivial, (by show va_P _ _ _ t.heap; rw [ht]; exact hP9)⟩, hS.F ht⟩) hS.2.2 dX12_count_114
  · refine lv_tableIn (off := 112) (tgt := 115) hx hb dX12_count_3 hlo14005 hhi14006 (by rw [hk]; decide) (by decide) ?_
    refine lv_aload_n hx hb dX12_count_115 rfl (lv_at hl 1 rfl) ?_
    refine lv_bipush (v := 11) hx hb dX12_count_116 (by decide) ?_
    refine va_calli (va_runV (As := [.int 11]) (rest := []) ⟨hx, hb, hml, hown, hwd⟩ (c_X12_partsAt l dC dI g c adK adV v F rc H.size 11 hg hI ) (cwV 1 hwd (gV wk_1436 wk_1433 wk_1434 wk_1435 wk_5) rfl rfl rfl (by decide +kernel) ⟨Nat.le_of_ble_eq_true rfl, Nat.le_of_ble_eq_true rfl⟩) ⟨PM.blind, va_recv hK hP (ci := 12) (q0 := 0) rfl rfl, fun U hU hW => ⟨rfl, PM.at hK hE hP hS hU hW⟩⟩ rfl rfl hl.1 rfl (lv_room (Nat.le_of_ble_eq_true rfl)) dX12_count_118 ⟨Nat.le_of_ble_eq_true rfl, Nat.le_of_ble_eq_true rfl⟩) hS (fun q _ h => (freeM hS) q h) (freeM hS) (fun r14016 u t H1 locs ht hvm hw hB hz1 hk1 hS => ?_)
    unfold BM at hB
    rw [ht] at hB
    have hP : va_P (dC, dI) classes (wM g c v F rc) H1 := hB
    clear hz1
    generalize H1 = H at hP hS ⊢
    have rr_r14016 := i32_rng r14016
    have hP9 : va_P (dC, dI) classes (wM g c v F rc) H := hP
    exact W.iret (v := r14016) hx hb hr (fun t ht hW => ⟨⟨r14016, (), rfl, trivial, (by show va_P _ _ _ t.heap; rw [ht]; exact hP9)⟩, hS.F ht⟩) hS.2.2 dX12_count_121
  · refine lv_tableIn (off := 119) (tgt := 122) hx hb dX12_count_3 hlo14005 hhi14006 (by rw [hk]; decide) (by decide) ?_
    refine lv_aload_n hx hb dX12_count_122 rfl (lv_at hl 1 rfl) ?_
    refine lv_bipush (v := 10) hx hb dX12_count_123 (by decide) ?_
    refine va_calli (va_runV (As := [.int 10]) (rest := []) ⟨hx, hb, hml, hown, hwd⟩ (c_X12_partsAt l dC dI g c adK adV v F rc H.size 10 hg hI ) (cwV 1 hwd (gV wk_1436 wk_1433 wk_1434 wk_1435 wk_5) rfl rfl rfl (by decide +kernel) ⟨Nat.le_of_ble_eq_true rfl, Nat.le_of_ble_eq_true rfl⟩) ⟨PM.blind, va_recv hK hP (ci := 12) (q0 := 0) rfl rfl, fun U hU hW => ⟨rfl, PM.at hK hE hP hS hU hW⟩⟩ rfl rfl hl.1 rfl (lv_room (Nat.le_of_ble_eq_true rfl)) dX12_count_125 ⟨Nat.le_of_ble_eq_true rfl, Nat.le_of_ble_eq_true rfl⟩) hS (fun q _ h => (freeM hS) q h) (freeM hS) (fun r14017 u t H1 locs ht hvm hw hB hz1 hk1 hS => ?_)
    unfold BM at hB
    rw [ht] at hB
    have hP : va_P (dC, dI) classes (wM g c v F rc) H1 := hB
    clear hz1
    generalize H1 = H at hP hS ⊢
    have rr_r14017 := i32_rng r14017
    have hP9 : va_P (dC, dI) classes (wM g c v F rc) H := hP
    exact W.iret (v := r14017) hx hb hr (fun t ht hW => ⟨⟨r14017, (), rfl, trivial, (by show va_P _ _ _ t.heap; rw [ht]; exact hP9)⟩, hS.F ht⟩) hS.2.2 dX12_count_128
  · refine lv_tableIn (off := 126) (tgt := 129) hx hb dX12_count_3 hlo14005 hhi14006 (by rw [hk]; decide) (by decide) ?_
    refine lv_iconst (v := 0) hx hb dX12_count_129 (by decide) ?_
    refine lv_istore_n (lv' := [(3, .int 0), (2, .int 0), (0, .ref (g 0)), (1, .int p0)]) hx hb dX12_count_130 rfl hl (by decide) rfl (fun ls hl => ?_)
    have lp14018 : ∀ (n : Nat) (x3_lp14018 : Int32) (x2_lp14018 : Int32) (H : Heap) (locs : List Loc) (ls : Array Slot), (0 ≤ x3_lp14018.toInt) → (2147483648 - x3_lp14018.toInt ≤ (n : Int)) → va_P (dC, dI) classes (wM g c v F rc) H → va_S (AM g s.heap.size) s.heap H locs → lv_has ls 4 [(3, .int x3_lp14018), (2, .int x2_lp14018), (0, .ref (g 0)), (1, .int p0)] → W p l e (headSpec (Cond.code yX12_count cX12_count 4 (some .int) :: wA) ({ frames := 2, cells := 0, slots := 0, locals := 80 })).room s m ([.ref (g 0), .int p0] : List Value).toArray below meth c0 H locs 0 0 (MQ below (va_Qi (fun (r : Int32) (u : Unit) => True) (fun (_ : Unit) => BM dC dI g c (v, F, rc)) (AM g s.heap.size)) ([.ref (g 0), .int p0] : List Value).toArray s 0 0 (AM g s.heap.size)) (F0 m 131 ls []) := by
      intro n
      induction n with
      | zero =>
        intro x3_lp14018 x2_lp14018 H locs ls t14019 hm hP hS hl
        exfalso
        have := i32_rng x3_lp14018
        have := i32_rng x2_lp14018
        omega
      | succ n ih_lp14018 =>
        intro x3_lp14018 x2_lp14018 H locs ls t14019 hm hP hS hl
        have rx3_lp14018 := i32_rng x3_lp14018
        have rx2_lp14018 := i32_rng x2_lp14018
        refine lv_iload_n hx hb dX12_count_131 rfl (lv_at hl 0 rfl) ?_
        refine lv_aload_n hx hb dX12_count_132 rfl (lv_at hl 2 rfl) ?_
        refine va_get (D := (dC, dI)) (ci := 12) (v := .int (v 6)) (C := RX12) (T := TX12) (N := 63) hx hb hwd inA_X12 hown hK hP 0 rfl rfl 6 (by decide) (hwd _ wk_268) (fun _ h9 => h9) rfl dX12_count_133 ?_
        have t14020 : 0 ≤ (v 6).toInt ∧ (v 6).toInt ≤ 10 := hI.1 6 _ _ rfl
        refine lv_icmp_ge (tgt := 161) hx hb dX12_count_136 (by decide) (fun c14021 => ?_) (fun c14021 => ?_)
        · skip
          have t14022 := cv_le (a := (v 6).toInt) rfl (b := x3_lp14018.toInt) rfl c14021
          refine lv_iload_n hx hb dX12_count_161 rfl (lv_at hl 1 rfl) ?_
          have hP9 : va_P (dC, dI) classes (wM g c v F rc) H := hP
          exact W.iret (v := x2_lp14018) hx hb hr (fun t ht hW => ⟨⟨x2_lp14018, (), rfl, trivial, (by show va_P _ _ _ t.heap; rw [ht]; exact hP9)⟩, hS.F ht⟩) hS.2.2 dX12_count_162
        · skip
          have t14023 := cv_nle (a := (v 6).toInt) rfl (b := x3_lp14018.toInt) rfl c14021
          refine lv_iload_n hx hb dX12_count_139 rfl (lv_at hl 1 rfl) ?_
          refine lv_aload_n hx hb dX12_count_140 rfl (lv_at hl 2 rfl) ?_
          refine lv_iload_n hx hb dX12_count_141 rfl (lv_at hl 0 rfl) ?_
          refine va_calli (va_runV (As := [.int x3_lp14018]) (rest := [.int x2_lp14018]) ⟨hx, hb, hml, hown, hwd⟩ (c_X12_isReturned l dC dI g c adK adV v F rc H.size x3_lp14018 hg hI (by omega)) (cwV 1 hwd (gV wk_313 wk_310 wk_311 wk_312 wk_5) rfl rfl rfl (by decide +kernel) ⟨Nat.le_of_ble_eq_true rfl, Nat.le_of_ble_eq_true rfl⟩) ⟨PM.blind, va_recv hK hP (ci := 12) (q0 := 0) rfl rfl, fun U hU hW => ⟨rfl, PM.at hK hE hP hS hU hW⟩⟩ rfl rfl hl.1 rfl (lv_room (Nat.le_of_ble_eq_true rfl)) dX12_count_142 ⟨Nat.le_of_ble_eq_true rfl, Nat.le_of_ble_eq_true rfl⟩) hS (fun q _ h => (freeM hS) q h) (freeM hS) (fun r14024 u t H1 locs ht hvm hw hB hz1 hk1 hS => ?_)
          unfold BM at hB
          rw [ht] at hB
          have hP : va_P (dC, dI) classes (wM g c v F rc) H1 := hB
          have hw_r14024 : 0 ≤ r14024.toInt ∧ r14024.toInt ≤ 1 := hw
          clear hw
          clear hz1
          generalize H1 = H at hP hS ⊢
          refine lv_if_eq (tgt := 152) hx hb dX12_count_145 (by decide) (fun c14025 => ?_) (fun c14025 => ?_)
          · skip
            have t14026 := cv_eq (a := r14024.toInt) rfl (b := 0) (by decide) c14025
            refine lv_iconst (v := 0) hx hb dX12_count_152 (by decide) ?_
            refine lv_iadd hx hb dX12_count_153 ?_
            refine lv_topi (fun z14027 e14028 => ?_)
            try (have t14029 := tadd e14028 (a := x2_lp14018.toInt) rfl (b := 0) (by decide) (by omega))
            refine lv_istore_n (lv' := [(2, .int z14027), (3, .int x3_lp14018), (0, .ref (g 0)), (1, .int p0)]) hx hb dX12_count_154 rfl hl (by decide) rfl (fun ls hl => ?_)
            obtain ⟨z14030, e14031⟩ : ∃ y : Int32, y = x3_lp14018 + 1 := ⟨_, rfl⟩
            try (have t14032 := tadd e14031 rfl (b := 1) (by decide) (by omega))
            refine lv_iinc (v := z14030) (lv' := [(3, .int z14030), (2, .int z14027), (0, .ref (g 0)), (1, .int p0)]) hx hb dX12_count_155 hl (k := 1) rfl (by rw [e14031]; rfl) (by decide) rfl (fun ls hl => ?_)
            refine lv_goto (tgt := 131) hx hb dX12_count_158 (by decide) ?_
            exact ih_lp14018 z14030 z14027  _ _ _ (by omega) (by omega) hP hS (lv_sub hl [0, 1, 2, 3] rfl)
          · skip
            have t14033 := cv_ne (a := r14024.toInt) rfl (b := 0) (by decide) c14025
            refine lv_iconst (v := 1) hx hb dX12_count_148 (by decide) ?_
            refine lv_goto (tgt := 153) hx hb dX12_count_149 (by decide) ?_
            refine lv_iadd hx hb dX12_count_153 ?_
            refine lv_topi (fun z14034 e14035 => ?_)
            try (have t14036 := tadd e14035 (a := x2_lp14018.toInt) rfl (b := 1) (by decide) (by omega))
            refine lv_istore_n (lv' := [(2, .int z14034), (3, .int x3_lp14018), (0, .ref (g 0)), (1, .int p0)]) hx hb dX12_count_154 rfl hl (by decide) rfl (fun ls hl => ?_)
            obtain ⟨z14037, e14038⟩ : ∃ y : Int32, y = x3_lp14018 + 1 := ⟨_, rfl⟩
            try (have t14039 := tadd e14038 rfl (b := 1) (by decide) (by omega))
            refine lv_iinc (v := z14037) (lv' := [(3, .int z14037), (2, .int z14034), (0, .ref (g 0)), (1, .int p0)]) hx hb dX12_count_155 hl (k := 1) rfl (by rw [e14038]; rfl) (by decide) rfl (fun ls hl => ?_)
            refine lv_goto (tgt := 131) hx hb dX12_count_158 (by decide) ?_
            exact ih_lp14018 z14037 z14034  _ _ _ (by omega) (by omega) hP hS (lv_sub hl [0, 1, 2, 3] rfl)
    obtain ⟨n9, hn9⟩ : ∃ n : Nat, 2147483648 - 0 ≤ (n : Int) := ⟨((2147483648 - 0 : Int)).toNat, by omega⟩
    exact lp14018 n9 0 0  H _ ls (by have : (0 : Int32).toInt = 0 := (by decide); have : (0 : Int32).toInt = 0 := (by decide); omega) (by have : (0 : Int32).toInt = 0 := (by decide); have : (0 : Int32).toInt = 0 := (by decide); omega) hP hS hl
  · refine lv_tableIn (off := 160) (tgt := 163) hx hb dX12_count_3 hlo14005 hhi14006 (by rw [hk]; decide) (by decide) ?_
    refine lv_aload_n hx hb dX12_count_163 rfl (lv_at hl 1 rfl) ?_
    refine va_get (D := (dC, dI)) (ci := 12) (v := .int (v 60)) (C := RX12) (T := TX12) (N := 63) hx hb hwd inA_X12 hown hK hP 0 rfl rfl 60 (by decide) (hwd _ wk_1348) (fun _ h9 => h9) rfl dX12_count_164 ?_
    have hP9 : va_P (dC, dI) classes (wM g c v F rc) H := hP
    exact W.iret (v := v 60) hx hb hr (fun t ht hW => ⟨⟨(v 60), (), rfl, trivial, (by show va_P _ _ _ t.heap; rw [ht]; exact hP9)⟩, hS.F ht⟩) hS.2.2 dX12_count_167
