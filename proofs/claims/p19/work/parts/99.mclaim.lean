set_option maxHeartbeats 8000000 in
set_option maxRecDepth 100000 in
theorem c_X12_claim (l : Launch) (dC : Nat → ClassId) (dI : Nat → Nat → Nat) (g : Nat → Nat) (c : Nat → ClassId) (adK adV : Nat → Nat) (v : Nat → Int32) (F : Nat → Nat → Int32) (rc sz : Nat) (p0 : Int32) (p1 : Int32) (hg : injM g) (hI : IM v F) (hJ : JO (v 14) (v 19) (F 13) (F 15) (F 18)) : Met l yX12_claim (Cond.code yX12_claim cX12_claim 7 (some .int) :: wA) ({ frames := 3, cells := 0, slots := 0, locals := 120 }) (va_Pc [.ref (g 0), .int p0, .int p1] (PM dC dI g c adK adV v F rc sz)) (va_Qi (fun (r : Int32) (u : StM) => IM u.1 u.2.1 ∧ u.2.2 = rc ∧ (∀ k, k ∉ ([60] : List Nat) → u.1 k = v k) ∧ (∀ k, k ∉ ([10] : List Nat) → u.2.1 k = F k) ∧ True) (BM dC dI g c) (AM g sz)) 0 0 (AM g sz) := by
  refine Met.ofW (cc := cX12_claim) (maxL := 7) (ret := (some .int)) (by decide) rfl ?_
  intro p e s m args below meth c0 s₁ B hml hv
  obtain ⟨rfl, hsz, hP, hK, hE⟩ := hv
  have hx := B.exec
  have hb := B.bytes
  have hr := B.returns
  have hts := atoms_spec (ws := Cond.code yX12_claim cX12_claim 7 (some .int) :: wA) B.pre
  have hwd : ∀ w ∈ wA, w.before _ s = true := fun w h => hts w (List.mem_cons_of_mem _ h)
  have hown : s.vm.findClass RX12 = some m.cls := findClass_of_methodNamed B.named
  have hlocks := B.notSynchronized
  subst hsz
  have hl := lv_entry ([.ref (g 0), .int p0, .int p1]) (n := 7) (Nat.le_of_ble_eq_true rfl)
  rw [lg_entry_eq]
  generalize (lg_sl ([.ref (g 0), .int p0, .int p1]) ++ List.replicate (7 - (lg_sl ([.ref (g 0), .int p0, .int p1])).length) Slot.unset).toArray = ls at hl ⊢
  have hl : lv_has ls 7 [(0, .ref (g 0)), (1, .int p0), (2, .int p1)] := hl
  obtain ⟨H, eH⟩ : ∃ z, z = s.heap := ⟨_, rfl⟩
  have hP : va_P (dC, dI) classes (wM g c v F rc) H := by rw [eH]; exact hP
  have hS : va_S (AM g s.heap.size) s.heap H [] := by rw [eH]; exact va_S.rf
  refine my_heap eH ?_
  have hF : ∀ k, k ∉ ([10] : List Nat) → F k = F k := fun _ _ => rfl
  have rp0 := i32_rng p0
  have rp1 := i32_rng p1
  have hb14 : 0 ≤ (v 14).toInt ∧ (v 14).toInt ≤ 100 := hI.1 14 _ _ rfl
  have hb19 : 0 ≤ (v 19).toInt ∧ (v 19).toInt ≤ 500 := hI.1 19 _ _ rfl
  refine lv_aload_n hx hb dX12_claim_0 rfl (lv_at hl 0 rfl) ?_
  refine lv_iload_n hx hb dX12_claim_1 rfl (lv_at hl 1 rfl) ?_
  have t15073 : 0 ≤ (v 14).toInt ∧ (v 14).toInt ≤ 100 := hI.1 14 _ _ rfl
  refine va_calli (va_runV (As := [.int p0]) (rest := []) ⟨hx, hb, hml, hown, hwd⟩ (c_X12_isPart l dC dI g c adK adV v F rc H.size p0 hg hI ) (cwV 1 hwd (gV wk_631 wk_628 wk_629 wk_630 wk_5) rfl rfl rfl (by decide +kernel) ⟨Nat.le_of_ble_eq_true rfl, Nat.le_of_ble_eq_true rfl⟩) ⟨PM.blind, va_recv hK hP (ci := 12) (q0 := 0) rfl rfl, fun U hU hW => ⟨rfl, PM.at hK hE hP hS hU hW⟩⟩ rfl rfl hl.1 rfl (lv_room (Nat.le_of_ble_eq_true rfl)) dX12_claim_2 ⟨Nat.le_of_ble_eq_true rfl, Nat.le_of_ble_eq_true rfl⟩) hS (fun q _ h => (freeM hS) q h) (freeM hS) (fun r15074 u t H1 locs ht hvm hw hB hz1 hk1 hS => ?_)
  unfold BM at hB
  rw [ht] at hB
  have hP : va_P (dC, dI) classes (wM g c v F rc) H1 := hB
  replace hw : (r15074.toInt = 1 ∧ 0 ≤ p0.toInt ∧ p0.toInt < (v 14).toInt) ∨ (r15074.toInt = 0 ∧ (p0.toInt < 0 ∨ (v 14).toInt ≤ p0.toInt)) := hw
  have hw_r15074 := hw
  clear hw
  clear hz1
  generalize H1 = H at hP hS ⊢
  refine lv_if_eq (tgt := 18) hx hb dX12_claim_5 (by decide) (fun c15075 => ?_) (fun c15075 => ?_)
  · skip
    have t15076 := cv_eq (a := r15074.toInt) rfl (b := 0) (by decide) c15075
    refine lv_iconst (v := (-1)) hx hb dX12_claim_18 (by decide) ?_
    have hP9 : va_P (dC, dI) classes (wM g c v F rc) H := hP
    exact W.iret (v := (-1)) hx hb hr (fun t ht hW => ⟨⟨(-1), (v, F, rc), rfl, ⟨hI, rfl, (fun _ _ => rfl), hF, trivial⟩, (by show va_P _ _ _ t.heap; rw [ht]; exact hP9)⟩, hS.F ht⟩) hS.2.2 dX12_claim_19
  · skip
    have t15077 := cv_ne (a := r15074.toInt) rfl (b := 0) (by decide) c15075
    refine lv_iload_n hx hb dX12_claim_8 rfl (lv_at hl 2 rfl) ?_
    refine lv_iconst (v := 1) hx hb dX12_claim_9 (by decide) ?_
    refine lv_ldc (v := 999999) hx hb hown (hwd _ wk_250) dX12_claim_10 ?_
    refine va_calli (va_runS (As := [.int p1, .int 1, .int 999999]) (rest := []) ⟨hx, hb, hml, hown, hwd⟩ (c_X12_in l dC dI g c adK adV v F rc H.size p1 1 999999 hg hI ) (va_cwS 3 hwd (gT wk_254 wk_252 wk_253 wk_5) rfl rfl rfl (by decide +kernel) ⟨Nat.le_of_ble_eq_true rfl, Nat.le_of_ble_eq_true rfl⟩) ⟨PM.blind, fun U hU hW => ⟨rfl, PM.at hK hE hP hS hU hW⟩⟩ rfl rfl hl.1 rfl (lv_room (Nat.le_of_ble_eq_true rfl)) dX12_claim_12 ⟨Nat.le_of_ble_eq_true rfl, Nat.le_of_ble_eq_true rfl⟩) hS (fun q _ h => (freeM hS) q h) (freeM hS) (fun r15078 u t H1 locs ht hvm hw hB hz1 hk1 hS => ?_)
    unfold BM at hB
    rw [ht] at hB
    have hP : va_P (dC, dI) classes (wM g c v F rc) H1 := hB
    have hw_r15078 : (r15078.toInt = 1 ∧ (1 : Int32).toInt ≤ p1.toInt ∧ p1.toInt ≤ (999999 : Int32).toInt) ∨ (r15078.toInt = 0 ∧ (p1.toInt < (1 : Int32).toInt ∨ (999999 : Int32).toInt < p1.toInt)) := hw
    clear hw
    have k15079 : (1 : Int32).toInt = 1 := by decide
    have k15080 : (999999 : Int32).toInt = 999999 := by decide
    clear hz1
    generalize H1 = H at hP hS ⊢
    refine lv_if_ne (tgt := 20) hx hb dX12_claim_15 (by decide) (fun c15081 => ?_) (fun c15081 => ?_)
    · skip
      have t15082 := cv_ne (a := r15078.toInt) rfl (b := 0) (by decide) c15081
      refine lv_aload_n hx hb dX12_claim_20 rfl (lv_at hl 0 rfl) ?_
      refine va_get (D := (dC, dI)) (ci := 12) (v := .ref (g 13)) (C := RX12) (T := TX12) (N := 63) hx hb hwd inA_X12 hown hK hP 0 rfl rfl 17 (by decide) (hwd _ wk_194) (fun _ h9 => h9) rfl dX12_claim_21 ?_
      refine lv_iload_n hx hb dX12_claim_24 rfl (lv_at hl 1 rfl) ?_
      refine va_iald hx hb hK hP 13 12 rfl rfl (i := p0) (vin (a := p0.toInt) rfl (by omega)) dX12_claim_25 ?_
      refine lv_topi (fun z15083 e15084 => ?_)
      have t15085 : 0 ≤ z15083.toInt ∧ z15083.toInt ≤ 12 := by rw [e15084]; exact hI.2 13 _ _ rfl _
      have tzz15083 : z15083.toInt = (F 13 (p0 : Int32).toNatClampNeg).toInt := congrArg Int32.toInt e15084
      refine lv_bipush (v := 10) hx hb dX12_claim_26 (by decide) ?_
      refine lv_icmp_eq (tgt := 34) hx hb dX12_claim_28 (by decide) (fun c15086 => ?_) (fun c15086 => ?_)
      · skip
        have t15087 := cv_eq (a := z15083.toInt) rfl (b := 10) (by decide) c15086
        refine lv_aload_n hx hb dX12_claim_34 rfl (lv_at hl 0 rfl) ?_
        refine lv_iload_n hx hb dX12_claim_35 rfl (lv_at hl 1 rfl) ?_
        have t15088 : 0 ≤ (v 19).toInt ∧ (v 19).toInt ≤ 500 := hI.1 19 _ _ rfl
        refine va_calli (va_runV (As := [.int p0]) (rest := []) ⟨hx, hb, hml, hown, hwd⟩ (c_X12_openOf l dC dI g c adK adV v F rc H.size p0 hg hI ) (cwV 1 hwd (gV wk_639 wk_636 wk_637 wk_638 wk_5) rfl rfl rfl (by decide +kernel) ⟨Nat.le_of_ble_eq_true rfl, Nat.le_of_ble_eq_true rfl⟩) ⟨PM.blind, va_recv hK hP (ci := 12) (q0 := 0) rfl rfl, fun U hU hW => ⟨rfl, PM.at hK hE hP hS hU hW⟩⟩ rfl rfl hl.1 rfl (lv_room (Nat.le_of_ble_eq_true rfl)) dX12_claim_36 ⟨Nat.le_of_ble_eq_true rfl, Nat.le_of_ble_eq_true rfl⟩) hS (fun q _ h => (freeM hS) q h) (freeM hS) (fun r15089 u t H1 locs ht hvm hw hB hz1 hk1 hS => ?_)
        unfold BM at hB
        rw [ht] at hB
        have hP : va_P (dC, dI) classes (wM g c v F rc) H1 := hB
        replace hw : ((0 ≤ r15089.toInt ∧ r15089.toInt < (v 19).toInt) ∧ ((F 15 r15089.toNatClampNeg).toInt = p0.toInt ∧ (F 18 r15089.toNatClampNeg).toInt = 1000000)) ∨ (r15089.toInt = -1 ∧ ∀ s : Nat, (s : Int) < (v 19).toInt → ¬ ((F 15 s).toInt = p0.toInt ∧ (F 18 s).toInt = 1000000)) := hw
        have hw_r15089 := hw
        clear hw
        clear hz1
        generalize H1 = H at hP hS ⊢
        have ho_r15089 := hw_r15089.elim id (fun h => absurd (JO.at' hJ (i := p0) (by omega) (by omega) (by omega)) (no_hasO h.2))
        refine lv_istore_n (lv' := [(3, .int r15089), (0, .ref (g 0)), (1, .int p0), (2, .int p1)]) hx hb dX12_claim_39 rfl hl (by decide) rfl (fun ls hl => ?_)
        refine lv_iconst (v := (-1)) hx hb dX12_claim_40 (by decide) ?_
        refine lv_istore (lv' := [(4, .int (-1)), (3, .int r15089), (0, .ref (g 0)), (1, .int p0), (2, .int p1)]) hx hb dX12_claim_41 hl (by decide) rfl (fun ls hl => ?_)
        refine lv_iconst (v := 0) hx hb dX12_claim_43 (by decide) ?_
        refine lv_istore (lv' := [(5, .int 0), (4, .int (-1)), (3, .int r15089), (0, .ref (g 0)), (1, .int p0), (2, .int p1)]) hx hb dX12_claim_44 hl (by decide) rfl (fun ls hl => ?_)
        have lp15090 : ∀ (n : Nat) (x5_lp15090 : Int32) (x4_lp15090 : Int32) (v_lp15090 : Nat → Int32) (F_lp15090 : Nat → Nat → Int32) (H : Heap) (locs : List Loc) (ls : Array Slot), (0 ≤ x5_lp15090.toInt) → (-1 ≤ x4_lp15090.toInt) → (x4_lp15090.toInt ≤ 499) → (2147483648 - x5_lp15090.toInt ≤ (n : Int)) → (∀ k, k ∉ ([] : List Nat) → v_lp15090 k = v k) → IM v_lp15090 F_lp15090 → (∀ k, k ∉ ([10] : List Nat) → F_lp15090 k = F k) → va_P (dC, dI) classes (wM g c v_lp15090 F_lp15090 rc) H → va_S (AM g s.heap.size) s.heap H locs → lv_has ls 7 [(5, .int x5_lp15090), (4, .int x4_lp15090), (3, .int r15089), (0, .ref (g 0)), (1, .int p0), (2, .int p1)] → W p l e (headSpec (Cond.code yX12_claim cX12_claim 7 (some .int) :: wA) ({ frames := 3, cells := 0, slots := 0, locals := 120 })).room s m ([.ref (g 0), .int p0, .int p1] : List Value).toArray below meth c0 H locs 0 0 (MQ below (va_Qi (fun (r : Int32) (u : StM) => IM u.1 u.2.1 ∧ u.2.2 = rc ∧ (∀ k, k ∉ ([60] : List Nat) → u.1 k = v k) ∧ (∀ k, k ∉ ([10] : List Nat) → u.2.1 k = F k) ∧ True) (BM dC dI g c) (AM g s.heap.size)) ([.ref (g 0), .int p0, .int p1] : List Value).toArray s 0 0 (AM g s.heap.size)) (F0 m 46 ls []) := by
          intro n
          induction n with
          | zero =>
            intro x5_lp15090 x4_lp15090 v_lp15090 F_lp15090 H locs ls t15091 t15092 t15093 hm hf_lp15090 hI hF hP hS hl
            exfalso
            have := i32_rng x5_lp15090
            have := i32_rng x4_lp15090
            have hI1 := hI.1
            omega
          | succ n ih_lp15090 =>
            intro x5_lp15090 x4_lp15090 v_lp15090 F_lp15090 H locs ls t15091 t15092 t15093 hm hf_lp15090 hI hF hP hS hl
            have rx5_lp15090 := i32_rng x5_lp15090
            have rx4_lp15090 := i32_rng x4_lp15090
            refine lv_iload hx hb dX12_claim_46 (lv_at hl 0 rfl) ?_
            refine lv_aload_n hx hb dX12_claim_48 rfl (lv_at hl 3 rfl) ?_
            refine va_get (D := (dC, dI)) (ci := 12) (v := .int (v_lp15090 19)) (C := RX12) (T := TX12) (N := 63) hx hb hwd inA_X12 hown hK hP 0 rfl rfl 19 (by decide) (hwd _ wk_494) (fun _ h9 => h9) rfl dX12_claim_49 ?_
            refine my_top (v := v 19) (hf_lp15090 19 (by decide)) ?_
            have t15094 : 0 ≤ (v 19).toInt ∧ (v 19).toInt ≤ 500 := by have h9 := hI.1 19 _ _ rfl; rw [show v_lp15090 19 = v 19 from hf_lp15090 19 (by decide)] at h9; exact h9
            refine lv_icmp_ge (tgt := 108) hx hb dX12_claim_52 (by decide) (fun c15095 => ?_) (fun c15095 => ?_)
            · skip
              have t15096 := cv_le (a := (v 19).toInt) rfl (b := x5_lp15090.toInt) rfl c15095
              refine lv_iload hx hb dX12_claim_108 (lv_at hl 1 rfl) ?_
              refine lv_if_lt (tgt := 125) hx hb dX12_claim_110 (by decide) (fun c15097 => ?_) (fun c15097 => ?_)
              · skip
                have t15098 := cv_lt (a := x4_lp15090.toInt) rfl (b := 0) (by decide) c15097
                refine lv_bipush (v := (-2)) hx hb dX12_claim_125 (by decide) ?_
                have hP9 : va_P (dC, dI) classes (wM g c v_lp15090 F_lp15090 rc) H := hP
                exact W.iret (v := (-2)) hx hb hr (fun t ht hW => ⟨⟨(-2), (v_lp15090, F_lp15090, rc), rfl, ⟨hI, rfl, (frC (by decide) hf_lp15090 (fun _ _ => rfl)), hF, trivial⟩, (by show va_P _ _ _ t.heap; rw [ht]; exact hP9)⟩, hS.F ht⟩) hS.2.2 dX12_claim_127
              · skip
                have t15099 := cv_nlt (a := x4_lp15090.toInt) rfl (b := 0) (by decide) c15097
                refine lv_aload_n hx hb dX12_claim_113 rfl (lv_at hl 3 rfl) ?_
                refine va_get (D := (dC, dI)) (ci := 12) (v := .ref (g 16)) (C := RX12) (T := TX12) (N := 63) hx hb hwd inA_X12 hown hK hP 0 rfl rfl 21 (by decide) (hwd _ wk_197) (fun _ h9 => h9) rfl dX12_claim_114 ?_
                refine lv_iload hx hb dX12_claim_117 (lv_at hl 1 rfl) ?_
                refine va_iald hx hb hK hP 16 15 rfl rfl (i := x4_lp15090) (vin (a := x4_lp15090.toInt) rfl (by omega)) dX12_claim_119 ?_
                refine lv_topi (fun z15100 e15101 => ?_)
                have t15102 : 0 ≤ z15100.toInt ∧ z15100.toInt ≤ 11 := by rw [e15101]; exact hI.2 16 _ _ rfl _
                have e15101 : z15100 = F 16 (x4_lp15090 : Int32).toNatClampNeg := e15101.trans (congrFun (hF 16 (by decide)) _)
                have tzz15100 : z15100.toInt = (F 16 (x4_lp15090 : Int32).toNatClampNeg).toInt := congrArg Int32.toInt e15101
                refine lv_bipush (v := 10) hx hb dX12_claim_120 (by decide) ?_
                refine lv_icmp_lt (tgt := 128) hx hb dX12_claim_122 (by decide) (fun c15103 => ?_) (fun c15103 => ?_)
                · skip
                  have t15104 := cv_lt (a := z15100.toInt) rfl (b := 10) (by decide) c15103
                  refine lv_bipush (v := 10) hx hb dX12_claim_128 (by decide) ?_
                  refine lv_aload_n hx hb dX12_claim_130 rfl (lv_at hl 3 rfl) ?_
                  refine va_get (D := (dC, dI)) (ci := 12) (v := .ref (g 16)) (C := RX12) (T := TX12) (N := 63) hx hb hwd inA_X12 hown hK hP 0 rfl rfl 21 (by decide) (hwd _ wk_197) (fun _ h9 => h9) rfl dX12_claim_131 ?_
                  refine lv_iload hx hb dX12_claim_134 (lv_at hl 1 rfl) ?_
                  refine va_iald hx hb hK hP 16 15 rfl rfl (i := x4_lp15090) (vin (a := x4_lp15090.toInt) rfl (by omega)) dX12_claim_136 ?_
                  refine lv_topi (fun z15105 e15106 => ?_)
                  have t15107 : 0 ≤ z15105.toInt ∧ z15105.toInt ≤ 11 := by rw [e15106]; exact hI.2 16 _ _ rfl _
                  have e15106 : z15105 = F 16 (x4_lp15090 : Int32).toNatClampNeg := e15106.trans (congrFun (hF 16 (by decide)) _)
                  have tzz15105 : z15105.toInt = (F 16 (x4_lp15090 : Int32).toNatClampNeg).toInt := congrArg Int32.toInt e15106
                  refine lv_imul hx hb dX12_claim_137 ?_
                  refine lv_topi (fun z15108 e15109 => ?_)
                  try (have t15110 := tmul e15109 (a := 10) (by decide) (b := z15105.toInt) rfl (by omega))
                  refine lv_aload_n hx hb dX12_claim_138 rfl (lv_at hl 3 rfl) ?_
                  refine va_get (D := (dC, dI)) (ci := 12) (v := .ref (g 11)) (C := RX12) (T := TX12) (N := 63) hx hb hwd inA_X12 hown hK hP 0 rfl rfl 15 (by decide) (hwd _ wk_192) (fun _ h9 => h9) rfl dX12_claim_139 ?_
                  refine lv_iload_n hx hb dX12_claim_142 rfl (lv_at hl 4 rfl) ?_
                  refine va_iald hx hb hK hP 11 10 rfl rfl (i := p0) (vin (a := p0.toInt) rfl (by omega)) dX12_claim_143 ?_
                  refine lv_topi (fun z15111 e15112 => ?_)
                  have t15113 : 0 ≤ z15111.toInt ∧ z15111.toInt ≤ 9 := by rw [e15112]; exact hI.2 11 _ _ rfl _
                  have e15112 : z15111 = F 11 (p0 : Int32).toNatClampNeg := e15112.trans (congrFun (hF 11 (by decide)) _)
                  have tzz15111 : z15111.toInt = (F 11 (p0 : Int32).toNatClampNeg).toInt := congrArg Int32.toInt e15112
                  refine lv_iadd hx hb dX12_claim_144 ?_
                  refine lv_topi (fun z15114 e15115 => ?_)
                  try (have t15116 := tadd e15115 (a := z15108.toInt) rfl (b := z15111.toInt) rfl (by omega))
                  refine lv_istore (lv' := [(5, .int z15114), (4, .int x4_lp15090), (3, .int r15089), (0, .ref (g 0)), (1, .int p0), (2, .int p1)]) hx hb dX12_claim_145 hl (by decide) rfl (fun ls hl => ?_)
                  refine lv_iload_n hx hb dX12_claim_147 rfl (lv_at hl 5 rfl) ?_
                  refine lv_aload_n hx hb dX12_claim_148 rfl (lv_at hl 3 rfl) ?_
                  refine va_get (D := (dC, dI)) (ci := 12) (v := .ref (g 10)) (C := RX12) (T := TX12) (N := 63) hx hb hwd inA_X12 hown hK hP 0 rfl rfl 13 (by decide) (hwd _ wk_191) (fun _ h9 => h9) rfl dX12_claim_149 ?_
                  refine lv_iload hx hb dX12_claim_152 (lv_at hl 0 rfl) ?_
                  refine va_iald hx hb hK hP 10 9 rfl rfl (i := z15114) (vin (a := z15114.toInt) rfl (by omega)) dX12_claim_154 ?_
                  refine lv_topi (fun z15117 e15118 => ?_)
                  have tzz15117 : z15117.toInt = (F_lp15090 10 (z15114 : Int32).toNatClampNeg).toInt := congrArg Int32.toInt e15118
                  refine lv_icmp_ge (tgt := 162) hx hb dX12_claim_155 (by decide) (fun c15119 => ?_) (fun c15119 => ?_)
                  · skip
                    have t15120 := cv_le (a := z15117.toInt) rfl (b := p1.toInt) rfl c15119
                    refine lv_aload_n hx hb dX12_claim_162 rfl (lv_at hl 3 rfl) ?_
                    refine va_get (D := (dC, dI)) (ci := 12) (v := .ref (g 10)) (C := RX12) (T := TX12) (N := 63) hx hb hwd inA_X12 hown hK hP 0 rfl rfl 13 (by decide) (hwd _ wk_191) (fun _ h9 => h9) rfl dX12_claim_163 ?_
                    refine lv_iload hx hb dX12_claim_166 (lv_at hl 0 rfl) ?_
                    refine va_iald hx hb hK hP 10 9 rfl rfl (i := z15114) (vin (a := z15114.toInt) rfl (by omega)) dX12_claim_168 ?_
                    refine lv_topi (fun z15121 e15122 => ?_)
                    have tzz15121 : z15121.toInt = (F_lp15090 10 (z15114 : Int32).toNatClampNeg).toInt := congrArg Int32.toInt e15122
                    refine lv_istore (lv' := [(6, .int z15121), (5, .int z15114), (4, .int x4_lp15090), (3, .int r15089), (0, .ref (g 0)), (1, .int p0), (2, .int p1)]) hx hb dX12_claim_169 hl (by decide) rfl (fun ls hl => ?_)
                    refine lv_aload_n hx hb dX12_claim_171 rfl (lv_at hl 4 rfl) ?_
                    refine va_get (D := (dC, dI)) (ci := 12) (v := .ref (g 10)) (C := RX12) (T := TX12) (N := 63) hx hb hwd inA_X12 hown hK hP 0 rfl rfl 13 (by decide) (hwd _ wk_191) (fun _ h9 => h9) rfl dX12_claim_172 ?_
                    refine lv_iload hx hb dX12_claim_175 (lv_at hl 1 rfl) ?_
                    refine lv_dup2_11 hx hb dX12_claim_177 rfl rfl ?_
                    refine va_iald hx hb hK hP 10 9 rfl rfl (i := z15114) (vin (a := z15114.toInt) rfl (by omega)) dX12_claim_178 ?_
                    refine lv_topi (fun z15123 e15124 => ?_)
                    have tzz15123 : z15123.toInt = (F_lp15090 10 (z15114 : Int32).toNatClampNeg).toInt := congrArg Int32.toInt e15124
                    refine lv_iload hx hb dX12_claim_179 (lv_at hl 0 rfl) ?_
                    refine lv_isub hx hb dX12_claim_181 ?_
                    refine lv_topi (fun z15125 e15126 => ?_)
                    try (have t15127 := tsub e15126 (a := z15123.toInt) rfl (b := z15121.toInt) rfl (by omega))
                    refine va_iast hx hb hK hP (DM hg) hS 10 9 rfl rfl (i := z15114) (x := z15125) (vin (a := z15114.toInt) rfl (by omega)) dX12_claim_182 (fun H locs hP _ hS => ?_)
                    have hP := va_P_eq (sM_10 g c _ _ _ _) hP
                    have hI := IM.store0 hI 10 (z15114 : Int32).toNatClampNeg z15125 rfl
                    have hF := frUF (k := 10) (f := upd (F_lp15090 10) (z15114 : Int32).toNatClampNeg z15125) (by decide) hF
                    have st15129 : (va_up F_lp15090 10 (upd (F_lp15090 10) (z15114 : Int32).toNatClampNeg z15125)) 10 = upd (F_lp15090 10) (z15114 : Int32).toNatClampNeg z15125 := va_up_self _ _ _
                    have sn15130 : ∀ k9, k9 ≠ 10 → (va_up F_lp15090 10 (upd (F_lp15090 10) (z15114 : Int32).toNatClampNeg z15125)) k9 = F_lp15090 k9 := fun k9 h9 => va_up_ne _ _ h9
                    have hP : va_P (dC, dI) classes (wM g c v_lp15090 (va_up F_lp15090 10 (upd (F_lp15090 10) (z15114 : Int32).toNatClampNeg z15125)) rc) H := hP
                    generalize (va_up F_lp15090 10 (upd (F_lp15090 10) (z15114 : Int32).toNatClampNeg z15125)) = F15128 at hP hI hF st15129 sn15130
                    refine lv_aload_n hx hb dX12_claim_183 rfl (lv_at hl 4 rfl) ?_
                    refine lv_dup hx hb dX12_claim_184 rfl ?_
                    refine va_get (D := (dC, dI)) (ci := 12) (v := .int (v_lp15090 60)) (C := RX12) (T := TX12) (N := 63) hx hb hwd inA_X12 hown hK hP 0 rfl rfl 60 (by decide) (hwd _ wk_1348) (fun _ h9 => h9) rfl dX12_claim_185 ?_
                    refine my_top (v := v 60) (hf_lp15090 60 (by decide)) ?_
                    refine lv_iload hx hb dX12_claim_188 (lv_at hl 0 rfl) ?_
                    refine lv_iadd hx hb dX12_claim_190 ?_
                    refine lv_topi (fun z15131 e15132 => ?_)
                    try (have t15133 := tadd e15132 (a := (v 60).toInt) rfl (b := z15121.toInt) rfl (by omega))
                    refine va_put (D := (dC, dI)) (ci := 12) (v := .int z15131) (ty := .int) (C := RX12) (T := TX12) (N := 63) (fs := fsM_0 g v_lp15090 rc) hx hb hwd inA_X12 tyX12 tyX12_ok nmX12 hown hK hP (DM hg) hS 0 rfl rfl 60 (by decide) (hwd _ wk_1348) (fun _ h9 => h9) rfl (by decide +kernel) rfl rfl (Nat.le_of_ble_eq_true rfl) dX12_claim_191 (fun H locs hP _ hS => ?_)
                    have hP := va_P_eq (pM_60 g c _ _ _ _) hP
                    have hI := IM.put0 hI 60 z15131 rfl
                    refine lv_iload hx hb dX12_claim_194 (lv_at hl 0 rfl) ?_
                    have hP9 : va_P (dC, dI) classes (wM g c (va_up v_lp15090 60 z15131) F15128 rc) H := hP
                    exact W.iret (v := z15121) hx hb hr (fun t ht hW => ⟨⟨z15121, ((va_up v_lp15090 60 z15131), F15128, rc), rfl, ⟨hI, rfl, (frU (by decide) (frC (by decide) hf_lp15090 (fun _ _ => rfl))), hF, trivial⟩, (by show va_P _ _ _ t.heap; rw [ht]; exact hP9)⟩, hS.F ht⟩) hS.2.2 dX12_claim_196
                  · skip
                    have t15134 := cv_nle (a := z15117.toInt) rfl (b := p1.toInt) rfl c15119
                    refine lv_iload_n hx hb dX12_claim_158 rfl (lv_at hl 5 rfl) ?_
                    refine lv_goto (tgt := 169) hx hb dX12_claim_159 (by decide) ?_
                    refine lv_istore (lv' := [(6, .int p1), (5, .int z15114), (4, .int x4_lp15090), (3, .int r15089), (0, .ref (g 0)), (1, .int p0), (2, .int p1)]) hx hb dX12_claim_169 hl (by decide) rfl (fun ls hl => ?_)
                    refine lv_aload_n hx hb dX12_claim_171 rfl (lv_at hl 4 rfl) ?_
                    refine va_get (D := (dC, dI)) (ci := 12) (v := .ref (g 10)) (C := RX12) (T := TX12) (N := 63) hx hb hwd inA_X12 hown hK hP 0 rfl rfl 13 (by decide) (hwd _ wk_191) (fun _ h9 => h9) rfl dX12_claim_172 ?_
                    refine lv_iload hx hb dX12_claim_175 (lv_at hl 1 rfl) ?_
                    refine lv_dup2_11 hx hb dX12_claim_177 rfl rfl ?_
                    refine va_iald hx hb hK hP 10 9 rfl rfl (i := z15114) (vin (a := z15114.toInt) rfl (by omega)) dX12_claim_178 ?_
                    refine lv_topi (fun z15135 e15136 => ?_)
                    have tzz15135 : z15135.toInt = (F_lp15090 10 (z15114 : Int32).toNatClampNeg).toInt := congrArg Int32.toInt e15136
                    refine lv_iload hx hb dX12_claim_179 (lv_at hl 0 rfl) ?_
                    refine lv_isub hx hb dX12_claim_181 ?_
                    refine lv_topi (fun z15137 e15138 => ?_)
                    try (have t15139 := tsub e15138 (a := z15135.toInt) rfl (b := p1.toInt) rfl (by omega))
                    refine va_iast hx hb hK hP (DM hg) hS 10 9 rfl rfl (i := z15114) (x := z15137) (vin (a := z15114.toInt) rfl (by omega)) dX12_claim_182 (fun H locs hP _ hS => ?_)
                    have hP := va_P_eq (sM_10 g c _ _ _ _) hP
                    have hI := IM.store0 hI 10 (z15114 : Int32).toNatClampNeg z15137 rfl
                    have hF := frUF (k := 10) (f := upd (F_lp15090 10) (z15114 : Int32).toNatClampNeg z15137) (by decide) hF
                    have st15141 : (va_up F_lp15090 10 (upd (F_lp15090 10) (z15114 : Int32).toNatClampNeg z15137)) 10 = upd (F_lp15090 10) (z15114 : Int32).toNatClampNeg z15137 := va_up_self _ _ _
                    have sn15142 : ∀ k9, k9 ≠ 10 → (va_up F_lp15090 10 (upd (F_lp15090 10) (z15114 : Int32).toNatClampNeg z15137)) k9 = F_lp15090 k9 := fun k9 h9 => va_up_ne _ _ h9
                    have hP : va_P (dC, dI) classes (wM g c v_lp15090 (va_up F_lp15090 10 (upd (F_lp15090 10) (z15114 : Int32).toNatClampNeg z15137)) rc) H := hP
                    generalize (va_up F_lp15090 10 (upd (F_lp15090 10) (z15114 : Int32).toNatClampNeg z15137)) = F15140 at hP hI hF st15141 sn15142
                    refine lv_aload_n hx hb dX12_claim_183 rfl (lv_at hl 4 rfl) ?_
                    refine lv_dup hx hb dX12_claim_184 rfl ?_
                    refine va_get (D := (dC, dI)) (ci := 12) (v := .int (v_lp15090 60)) (C := RX12) (T := TX12) (N := 63) hx hb hwd inA_X12 hown hK hP 0 rfl rfl 60 (by decide) (hwd _ wk_1348) (fun _ h9 => h9) rfl dX12_claim_185 ?_
                    refine my_top (v := v 60) (hf_lp15090 60 (by decide)) ?_
                    refine lv_iload hx hb dX12_claim_188 (lv_at hl 0 rfl) ?_
                    refine lv_iadd hx hb dX12_claim_190 ?_
                    refine lv_topi (fun z15143 e15144 => ?_)
                    try (have t15145 := tadd e15144 (a := (v 60).toInt) rfl (b := p1.toInt) rfl (by omega))
                    refine va_put (D := (dC, dI)) (ci := 12) (v := .int z15143) (ty := .int) (C := RX12) (T := TX12) (N := 63) (fs := fsM_0 g v_lp15090 rc) hx hb hwd inA_X12 tyX12 tyX12_ok nmX12 hown hK hP (DM hg) hS 0 rfl rfl 60 (by decide) (hwd _ wk_1348) (fun _ h9 => h9) rfl (by decide +kernel) rfl rfl (Nat.le_of_ble_eq_true rfl) dX12_claim_191 (fun H locs hP _ hS => ?_)
                    have hP := va_P_eq (pM_60 g c _ _ _ _) hP
                    have hI := IM.put0 hI 60 z15143 rfl
                    refine lv_iload hx hb dX12_claim_194 (lv_at hl 0 rfl) ?_
                    have hP9 : va_P (dC, dI) classes (wM g c (va_up v_lp15090 60 z15143) F15140 rc) H := hP
                    exact W.iret (v := p1) hx hb hr (fun t ht hW => ⟨⟨p1, ((va_up v_lp15090 60 z15143), F15140, rc), rfl, ⟨hI, rfl, (frU (by decide) (frC (by decide) hf_lp15090 (fun _ _ => rfl))), hF, trivial⟩, (by show va_P _ _ _ t.heap; rw [ht]; exact hP9)⟩, hS.F ht⟩) hS.2.2 dX12_claim_196
                · skip
                  have t15146 := cv_nlt (a := z15100.toInt) rfl (b := 10) (by decide) c15103
                  refine lv_bipush (v := (-2)) hx hb dX12_claim_125 (by decide) ?_
                  have hP9 : va_P (dC, dI) classes (wM g c v_lp15090 F_lp15090 rc) H := hP
                  exact W.iret (v := (-2)) hx hb hr (fun t ht hW => ⟨⟨(-2), (v_lp15090, F_lp15090, rc), rfl, ⟨hI, rfl, (frC (by decide) hf_lp15090 (fun _ _ => rfl)), hF, trivial⟩, (by show va_P _ _ _ t.heap; rw [ht]; exact hP9)⟩, hS.F ht⟩) hS.2.2 dX12_claim_127
            · skip
              have t15147 := cv_nle (a := (v 19).toInt) rfl (b := x5_lp15090.toInt) rfl c15095
              refine lv_aload_n hx hb dX12_claim_55 rfl (lv_at hl 3 rfl) ?_
              refine va_get (D := (dC, dI)) (ci := 12) (v := .ref (g 15)) (C := RX12) (T := TX12) (N := 63) hx hb hwd inA_X12 hown hK hP 0 rfl rfl 20 (by decide) (hwd _ wk_196) (fun _ h9 => h9) rfl dX12_claim_56 ?_
              refine lv_iload hx hb dX12_claim_59 (lv_at hl 0 rfl) ?_
              refine va_iald hx hb hK hP 15 14 rfl rfl (i := x5_lp15090) (vin (a := x5_lp15090.toInt) rfl (by omega)) dX12_claim_61 ?_
              refine lv_topi (fun z15148 e15149 => ?_)
              have t15150 : 0 ≤ z15148.toInt ∧ z15148.toInt ≤ 99 := by rw [e15149]; exact hI.2 15 _ _ rfl _
              have e15149 : z15148 = F 15 (x5_lp15090 : Int32).toNatClampNeg := e15149.trans (congrFun (hF 15 (by decide)) _)
              have tzz15148 : z15148.toInt = (F 15 (x5_lp15090 : Int32).toNatClampNeg).toInt := congrArg Int32.toInt e15149
              refine lv_iload_n hx hb dX12_claim_62 rfl (lv_at hl 4 rfl) ?_
              refine lv_icmp_ne (tgt := 102) hx hb dX12_claim_63 (by decide) (fun c15151 => ?_) (fun c15151 => ?_)
              · skip
                have t15152 := cv_ne (a := z15148.toInt) rfl (b := p0.toInt) rfl c15151
                obtain ⟨z15153, e15154⟩ : ∃ y : Int32, y = x5_lp15090 + 1 := ⟨_, rfl⟩
                try (have t15155 := tadd e15154 rfl (b := 1) (by decide) (by omega))
                refine lv_iinc (v := z15153) (lv' := [(5, .int z15153), (4, .int x4_lp15090), (3, .int r15089), (0, .ref (g 0)), (1, .int p0), (2, .int p1)]) hx hb dX12_claim_102 hl (k := 0) rfl (by rw [e15154]; rfl) (by decide) rfl (fun ls hl => ?_)
                refine lv_goto (tgt := 46) hx hb dX12_claim_105 (by decide) ?_
                exact ih_lp15090 z15153 x4_lp15090 v_lp15090 F_lp15090 _ _ _ (by omega) (by omega) (by omega) (by omega) hf_lp15090 hI hF hP hS (lv_sub hl [0, 1, 2, 3, 4, 5] rfl)
              · skip
                have t15156 := cv_eq (a := z15148.toInt) rfl (b := p0.toInt) rfl c15151
                refine lv_iload hx hb dX12_claim_66 (lv_at hl 0 rfl) ?_
                refine lv_iload_n hx hb dX12_claim_68 rfl (lv_at hl 2 rfl) ?_
                refine lv_icmp_eq (tgt := 102) hx hb dX12_claim_69 (by decide) (fun c15157 => ?_) (fun c15157 => ?_)
                · skip
                  have t15158 := cv_eq (a := x5_lp15090.toInt) rfl (b := r15089.toInt) rfl c15157
                  obtain ⟨z15159, e15160⟩ : ∃ y : Int32, y = x5_lp15090 + 1 := ⟨_, rfl⟩
                  try (have t15161 := tadd e15160 rfl (b := 1) (by decide) (by omega))
                  refine lv_iinc (v := z15159) (lv' := [(5, .int z15159), (4, .int x4_lp15090), (3, .int r15089), (0, .ref (g 0)), (1, .int p0), (2, .int p1)]) hx hb dX12_claim_102 hl (k := 0) rfl (by rw [e15160]; rfl) (by decide) rfl (fun ls hl => ?_)
                  refine lv_goto (tgt := 46) hx hb dX12_claim_105 (by decide) ?_
                  exact ih_lp15090 z15159 x4_lp15090 v_lp15090 F_lp15090 _ _ _ (by omega) (by omega) (by omega) (by omega) hf_lp15090 hI hF hP hS (lv_sub hl [0, 1, 2, 3, 4, 5] rfl)
                · skip
                  have t15162 := cv_ne (a := x5_lp15090.toInt) rfl (b := r15089.toInt) rfl c15157
                  refine lv_aload_n hx hb dX12_claim_72 rfl (lv_at hl 3 rfl) ?_
                  refine lv_iload hx hb dX12_claim_73 (lv_at hl 0 rfl) ?_
                  refine lv_iload_n hx hb dX12_claim_75 rfl (lv_at hl 2 rfl) ?_
                  refine va_calli (va_runV (As := [.int x5_lp15090, .int r15089]) (rest := []) ⟨hx, hb, hml, hown, hwd⟩ (c_X12_isAhead l dC dI g c adK adV v_lp15090 F_lp15090 rc H.size x5_lp15090 r15089 hg hI (by omega) (by omega)) (cwV 2 hwd (gV wk_509 wk_506 wk_507 wk_508 wk_5) rfl rfl rfl (by decide +kernel) ⟨Nat.le_of_ble_eq_true rfl, Nat.le_of_ble_eq_true rfl⟩) ⟨PM.blind, va_recv hK hP (ci := 12) (q0 := 0) rfl rfl, fun U hU hW => ⟨rfl, PM.at hK hE hP hS hU hW⟩⟩ rfl rfl hl.1 rfl (lv_room (Nat.le_of_ble_eq_true rfl)) dX12_claim_76 ⟨Nat.le_of_ble_eq_true rfl, Nat.le_of_ble_eq_true rfl⟩) hS (fun q _ h => (freeM hS) q h) (freeM hS) (fun r15163 u t H1 locs ht hvm hw hB hz1 hk1 hS => ?_)
                  unfold BM at hB
                  rw [ht] at hB
                  have hP : va_P (dC, dI) classes (wM g c v_lp15090 F_lp15090 rc) H1 := hB
                  replace hw : (r15163.toInt = 1 ∧ ((F_lp15090 17 x5_lp15090.toNatClampNeg).toInt < (F_lp15090 17 r15089.toNatClampNeg).toInt ∨ ((F_lp15090 17 x5_lp15090.toNatClampNeg).toInt = (F_lp15090 17 r15089.toNatClampNeg).toInt ∧ x5_lp15090.toInt < r15089.toInt))) ∨ (r15163.toInt = 0 ∧ ¬ ((F_lp15090 17 x5_lp15090.toNatClampNeg).toInt < (F_lp15090 17 r15089.toNatClampNeg).toInt ∨ ((F_lp15090 17 x5_lp15090.toNatClampNeg).toInt = (F_lp15090 17 r15089.toNatClampNeg).toInt ∧ x5_lp15090.toInt < r15089.toInt))) := hw
                  have hw_r15163 := hw
                  clear hw
                  clear hz1
                  generalize H1 = H at hP hS ⊢
                  refine lv_if_eq (tgt := 102) hx hb dX12_claim_79 (by decide) (fun c15164 => ?_) (fun c15164 => ?_)
                  · skip
                    have t15165 := cv_eq (a := r15163.toInt) rfl (b := 0) (by decide) c15164
                    obtain ⟨z15166, e15167⟩ : ∃ y : Int32, y = x5_lp15090 + 1 := ⟨_, rfl⟩
                    try (have t15168 := tadd e15167 rfl (b := 1) (by decide) (by omega))
                    refine lv_iinc (v := z15166) (lv' := [(5, .int z15166), (4, .int x4_lp15090), (3, .int r15089), (0, .ref (g 0)), (1, .int p0), (2, .int p1)]) hx hb dX12_claim_102 hl (k := 0) rfl (by rw [e15167]; rfl) (by decide) rfl (fun ls hl => ?_)
                    refine lv_goto (tgt := 46) hx hb dX12_claim_105 (by decide) ?_
                    exact ih_lp15090 z15166 x4_lp15090 v_lp15090 F_lp15090 _ _ _ (by omega) (by omega) (by omega) (by omega) hf_lp15090 hI hF hP hS (lv_sub hl [0, 1, 2, 3, 4, 5] rfl)
                  · skip
                    have t15169 := cv_ne (a := r15163.toInt) rfl (b := 0) (by decide) c15164
                    refine lv_iload hx hb dX12_claim_82 (lv_at hl 1 rfl) ?_
                    refine lv_if_lt (tgt := 98) hx hb dX12_claim_84 (by decide) (fun c15170 => ?_) (fun c15170 => ?_)
                    · skip
                      have t15171 := cv_lt (a := x4_lp15090.toInt) rfl (b := 0) (by decide) c15170
                      refine lv_iload hx hb dX12_claim_98 (lv_at hl 0 rfl) ?_
                      refine lv_istore (lv' := [(4, .int x5_lp15090), (5, .int x5_lp15090), (3, .int r15089), (0, .ref (g 0)), (1, .int p0), (2, .int p1)]) hx hb dX12_claim_100 hl (by decide) rfl (fun ls hl => ?_)
                      obtain ⟨z15172, e15173⟩ : ∃ y : Int32, y = x5_lp15090 + 1 := ⟨_, rfl⟩
                      try (have t15174 := tadd e15173 rfl (b := 1) (by decide) (by omega))
                      refine lv_iinc (v := z15172) (lv' := [(5, .int z15172), (4, .int x5_lp15090), (3, .int r15089), (0, .ref (g 0)), (1, .int p0), (2, .int p1)]) hx hb dX12_claim_102 hl (k := 1) rfl (by rw [e15173]; rfl) (by decide) rfl (fun ls hl => ?_)
                      refine lv_goto (tgt := 46) hx hb dX12_claim_105 (by decide) ?_
                      exact ih_lp15090 z15172 x5_lp15090 v_lp15090 F_lp15090 _ _ _ (by omega) (by omega) (by omega) (by omega) hf_lp15090 hI hF hP hS (lv_sub hl [0, 1, 2, 3, 4, 5] rfl)
                    · skip
                      have t15175 := cv_nlt (a := x4_lp15090.toInt) rfl (b := 0) (by decide) c15170
                      refine lv_aload_n hx hb dX12_claim_87 rfl (lv_at hl 3 rfl) ?_
                      refine lv_iload hx hb dX12_claim_88 (lv_at hl 1 rfl) ?_
                      refine lv_iload hx hb dX12_claim_90 (lv_at hl 0 rfl) ?_
                      refine va_calli (va_runV (As := [.int x4_lp15090, .int x5_lp15090]) (rest := []) ⟨hx, hb, hml, hown, hwd⟩ (c_X12_isAhead l dC dI g c adK adV v_lp15090 F_lp15090 rc H.size x4_lp15090 x5_lp15090 hg hI (by omega) (by omega)) (cwV 2 hwd (gV wk_509 wk_506 wk_507 wk_508 wk_5) rfl rfl rfl (by decide +kernel) ⟨Nat.le_of_ble_eq_true rfl, Nat.le_of_ble_eq_true rfl⟩) ⟨PM.blind, va_recv hK hP (ci := 12) (q0 := 0) rfl rfl, fun U hU hW => ⟨rfl, PM.at hK hE hP hS hU hW⟩⟩ rfl rfl hl.1 rfl (lv_room (Nat.le_of_ble_eq_true rfl)) dX12_claim_92 ⟨Nat.le_of_ble_eq_true rfl, Nat.le_of_ble_eq_true rfl⟩) hS (fun q _ h => (freeM hS) q h) (freeM hS) (fun r15176 u t H1 locs ht hvm hw hB hz1 hk1 hS => ?_)
                      unfold BM at hB
                      rw [ht] at hB
                      have hP : va_P (dC, dI) classes (wM g c v_lp15090 F_lp15090 rc) H1 := hB
                      replace hw : (r15176.toInt = 1 ∧ ((F_lp15090 17 x4_lp15090.toNatClampNeg).toInt < (F_lp15090 17 x5_lp15090.toNatClampNeg).toInt ∨ ((F_lp15090 17 x4_lp15090.toNatClampNeg).toInt = (F_lp15090 17 x5_lp15090.toNatClampNeg).toInt ∧ x4_lp15090.toInt < x5_lp15090.toInt))) ∨ (r15176.toInt = 0 ∧ ¬ ((F_lp15090 17 x4_lp15090.toNatClampNeg).toInt < (F_lp15090 17 x5_lp15090.toNatClampNeg).toInt ∨ ((F_lp15090 17 x4_lp15090.toNatClampNeg).toInt = (F_lp15090 17 x5_lp15090.toNatClampNeg).toInt ∧ x4_lp15090.toInt < x5_lp15090.toInt))) := hw
                      have hw_r15176 := hw
                      clear hw
                      clear hz1
                      generalize H1 = H at hP hS ⊢
                      refine lv_if_eq (tgt := 102) hx hb dX12_claim_95 (by decide) (fun c15177 => ?_) (fun c15177 => ?_)
                      · skip
                        have t15178 := cv_eq (a := r15176.toInt) rfl (b := 0) (by decide) c15177
                        obtain ⟨z15179, e15180⟩ : ∃ y : Int32, y = x5_lp15090 + 1 := ⟨_, rfl⟩
                        try (have t15181 := tadd e15180 rfl (b := 1) (by decide) (by omega))
                        refine lv_iinc (v := z15179) (lv' := [(5, .int z15179), (4, .int x4_lp15090), (3, .int r15089), (0, .ref (g 0)), (1, .int p0), (2, .int p1)]) hx hb dX12_claim_102 hl (k := 0) rfl (by rw [e15180]; rfl) (by decide) rfl (fun ls hl => ?_)
                        refine lv_goto (tgt := 46) hx hb dX12_claim_105 (by decide) ?_
                        exact ih_lp15090 z15179 x4_lp15090 v_lp15090 F_lp15090 _ _ _ (by omega) (by omega) (by omega) (by omega) hf_lp15090 hI hF hP hS (lv_sub hl [0, 1, 2, 3, 4, 5] rfl)
                      · skip
                        have t15182 := cv_ne (a := r15176.toInt) rfl (b := 0) (by decide) c15177
                        refine lv_iload hx hb dX12_claim_98 (lv_at hl 0 rfl) ?_
                        refine lv_istore (lv' := [(4, .int x5_lp15090), (5, .int x5_lp15090), (3, .int r15089), (0, .ref (g 0)), (1, .int p0), (2, .int p1)]) hx hb dX12_claim_100 hl (by decide) rfl (fun ls hl => ?_)
                        obtain ⟨z15183, e15184⟩ : ∃ y : Int32, y = x5_lp15090 + 1 := ⟨_, rfl⟩
                        try (have t15185 := tadd e15184 rfl (b := 1) (by decide) (by omega))
                        refine lv_iinc (v := z15183) (lv' := [(5, .int z15183), (4, .int x5_lp15090), (3, .int r15089), (0, .ref (g 0)), (1, .int p0), (2, .int p1)]) hx hb dX12_claim_102 hl (k := 1) rfl (by rw [e15184]; rfl) (by decide) rfl (fun ls hl => ?_)
                        refine lv_goto (tgt := 46) hx hb dX12_claim_105 (by decide) ?_
                        exact ih_lp15090 z15183 x5_lp15090 v_lp15090 F_lp15090 _ _ _ (by omega) (by omega) (by omega) (by omega) hf_lp15090 hI hF hP hS (lv_sub hl [0, 1, 2, 3, 4, 5] rfl)
        obtain ⟨n9, hn9⟩ : ∃ n : Nat, 2147483648 - 0 ≤ (n : Int) := ⟨((2147483648 - 0 : Int)).toNat, by omega⟩
        exact lp15090 n9 0 (-1) v F H _ ls (by have : (0 : Int32).toInt = 0 := (by decide); have : ((-1) : Int32).toInt = (-1) := (by decide); omega) (by have : (0 : Int32).toInt = 0 := (by decide); have : ((-1) : Int32).toInt = (-1) := (by decide); omega) (by have : (0 : Int32).toInt = 0 := (by decide); have : ((-1) : Int32).toInt = (-1) := (by decide); omega) (by have : (0 : Int32).toInt = 0 := (by decide); have : ((-1) : Int32).toInt = (-1) := (by decide); omega) (fun _ _ => rfl) hI hF hP hS hl
      · skip
        have t15186 := cv_ne (a := z15083.toInt) rfl (b := 10) (by decide) c15086
        refine lv_bipush (v := (-2)) hx hb dX12_claim_31 (by decide) ?_
        have hP9 : va_P (dC, dI) classes (wM g c v F rc) H := hP
        exact W.iret (v := (-2)) hx hb hr (fun t ht hW => ⟨⟨(-2), (v, F, rc), rfl, ⟨hI, rfl, (fun _ _ => rfl), hF, trivial⟩, (by show va_P _ _ _ t.heap; rw [ht]; exact hP9)⟩, hS.F ht⟩) hS.2.2 dX12_claim_33
    · skip
      have t15187 := cv_eq (a := r15078.toInt) rfl (b := 0) (by decide) c15081
      refine lv_iconst (v := (-1)) hx hb dX12_claim_18 (by decide) ?_
      have hP9 : va_P (dC, dI) classes (wM g c v F rc) H := hP
      exact W.iret (v := (-1)) hx hb hr (fun t ht hW => ⟨⟨(-1), (v, F, rc), rfl, ⟨hI, rfl, (fun _ _ => rfl), hF, trivial⟩, (by show va_P _ _ _ t.heap; rw [ht]; exact hP9)⟩, hS.F ht⟩) hS.2.2 dX12_claim_19
