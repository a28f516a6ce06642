set_option maxHeartbeats 8000000 in
set_option maxRecDepth 100000 in
theorem c_X12_claim (l : Launch) (dC : Nat → ClassId) (dI : Nat → Nat → Nat) (g : Nat → Nat) (c : Nat → ClassId) (adK adV : Nat → Nat) (v : Nat → Int32) (F : Nat → Nat → Int32) (rc sz : Nat) (p0 : Int32) (p1 : Int32) (hg : injM g) (hI : IM v F) (hJ : JO (v 14) (v 19) (F 13) (F 15) (F 18)) : Met l yX12_claim (Cond.code yX12_claim cX12_claim 7 (some .int) :: wA) ({ frames := 3, cells := 0, slots := 0, locals := 120 }) (va_Pc [.ref (g 0), .int p0, .int p1] (PM dC dI g c adK adV v F rc sz)) (va_Qi (fun (r : Int32) (u : StM) => IM u.1 u.2.1 ∧ u.2.2 = rc ∧ (∀ k, k ∉ ([60] : List Nat) → u.1 k = v k) ∧ (∀ k, k ∉ ([10] : List Nat) → u.2.1 k = F k) ∧ True) (BM dC dI g c) (AM g sz)) 0 0 (AM g sz) := by
  refine Met.ofW (cc := cX12_claim) (maxL := 7) (ret := (some .int)) (by decide) rfl ?_
  intro p e s m args below meth c0 s₁ B hml hv
  obtain ⟨rfl, hsz, hP, hK, hE⟩ := hv
  have hx := B.exec
  have hb := B.bytes
  have hr := B.returns
  have hts := atoms_spec (ws := Cond.code yX12_claim cX12_claim 7 (some .int) :: wA) B.pre
  have hwd : ∀ w ∈ wA, w.before _ s = true := fun w h => hts w (List.mem_cons_of_mem _ h)
  have hown : s.vm.findClass RX12 = some m.cls := findClass_of_methodNamed B.named
  have hlocks := B.notSynchronized
  subst hsz
  have hl := lv_entry ([.ref (g 0), .int p0, .int p1]) (n := 7) (Nat.le_of_ble_eq_true rfl)
  rw [lg_entry_eq]
  generalize (lg_sl ([.ref (g 0), .int p0, .int p1]) ++ List.replicate (7 - (lg_sl ([.ref (g 0), .int p0, .int p1])).length) Slot.unset).toArray = ls at hl ⊢
  have hl : lv_has ls 7 [(0, .ref (g 0)), (1, .int p0), (2, .int p1)] := hl
  obtain ⟨H, eH⟩ : ∃ z, z = s.heap := ⟨_, rfl⟩
  have hP : va_P (dC, dI) classes (wM g c v F rc) H := by rw [eH]; exact hP
  have hS : va_S (AM g s.heap.size) s.heap H [] := by rw [eH]; exact va_S.rf
  refine my_heap eH ?_
  have hF : ∀ k, k ∉ ([10] : List Nat) → F k = F k := fun _ _ => rfl
  have rp0 := i32_rng p0
  have rp1 := i32_rng p1
  have hb14 : 0 ≤ (v 14).toInt ∧ (v 14).toInt ≤ 100 := hI.1 14 _ _ rfl
  have hb19 : 0 ≤ (v 19).toInt ∧ (v 19).toInt ≤ 500 := hI.1 19 _ _ rfl
  refine lv_aload_n hx hb dX12_claim_0 rfl (lv_at hl 0 rfl) ?_
  refine lv_iload_n hx hb dX12_claim_1 rfl (lv_at hl 1 rfl) ?_
  have t14919 : 0 ≤ (v 14).toInt ∧ (v 14).toInt ≤ 100 := hI.1 14 _ _ rfl
  refine va_calli (va_runV (As := [.int p0]) (rest := []) ⟨hx, hb, hml, hown, hwd⟩ (c_X12_isPart l dC dI g c adK adV v F rc H.size p0 hg hI ) (cwV 1 hwd (gV wk_631 wk_628 wk_629 wk_630 wk_5) rfl rfl rfl (by decide +kernel) ⟨Nat.le_of_ble_eq_true rfl, Nat.le_of_ble_eq_true rfl⟩) ⟨PM.blind, va_recv hK hP (ci := 12) (q0 := 0) rfl rfl, fun U hU hW => ⟨rfl, PM.at hK hE hP hS hU hW⟩⟩ rfl rfl hl.1 rfl (lv_room (Nat.le_of_ble_eq_true rfl)) dX12_claim_2 ⟨Nat.le_of_ble_eq_true rfl, Nat.le_of_ble_eq_true rfl⟩) hS (fun q _ h => (freeM hS) q h) (freeM hS) (fun r14920 u t H1 locs ht hvm hw hB hz1 hk1 hS => ?_)
  unfold BM at hB
  rw [ht] at hB
  have hP : va_P (dC, dI) classes (wM g c v F rc) H1 := hB
  replace hw : (r14920.toInt = 1 ∧ 0 ≤ p0.toInt ∧ p0.toInt < (v 14).toInt) ∨ (r14920.toInt = 0 ∧ (p0.toInt < 0 ∨ (v 14).toInt ≤ p0.toInt)) := hw
  have hw_r14920 := hw
  clear hw
  clear hz1
  generalize H1 = H at hP hS ⊢
  refine lv_if_eq (tgt := 18) hx hb dX12_claim_5 (by decide) (fun c14921 => ?_) (fun c14921 => ?_)
  · skip
    have t14922 := cv_eq (a := r14920.toInt) rfl (b := 0) (by decide) c14921
    refine lv_iconst (v := (-1)) hx hb dX12_claim_18 (by decide) ?_
    have hP9 : va_P (dC, dI) classes (wM g c v F rc) H := hP
    exact W.iret (v := (-1)) hx hb hr (fun t ht hW => ⟨⟨(-1), (v, F, rc), rfl, ⟨hI, rfl, (fun _ _ => rfl), hF, trivial⟩, (by show va_P _ _ _ t.heap; rw [ht]; exact hP9)⟩, hS.F ht⟩) hS.2.2 dX12_claim_19
  · skip
    have t14923 := cv_ne (a := r14920.toInt) rfl (b := 0) (by decide) c14921
    refine lv_iload_n hx hb dX12_claim_8 rfl (lv_at hl 2 rfl) ?_
    refine lv_iconst (v := 1) hx hb dX12_claim_9 (by decide) ?_
    refine lv_ldc (v := 999999) hx hb hown (hwd _ wk_250) dX12_claim_10 ?_
    refine va_calli (va_runS (As := [.int p1, .int 1, .int 999999]) (rest := []) ⟨hx, hb, hml, hown, hwd⟩ (c_X12_in l dC dI g c adK adV v F rc H.size p1 1 999999 hg hI ) (va_cwS 3 hwd (gT wk_254 wk_252 wk_253 wk_5) rfl rfl rfl (by decide +kernel) ⟨Nat.le_of_ble_eq_true rfl, Nat.le_of_ble_eq_true rfl⟩) ⟨PM.blind, fun U hU hW => ⟨rfl, PM.at hK hE hP hS hU hW⟩⟩ rfl rfl hl.1 rfl (lv_room (Nat.le_of_ble_eq_true rfl)) dX12_claim_12 ⟨Nat.le_of_ble_eq_true rfl, Nat.le_of_ble_eq_true rfl⟩) hS (fun q _ h => (freeM hS) q h) (freeM hS) (fun r14924 u t H1 locs ht hvm hw hB hz1 hk1 hS => ?_)
    unfold BM at hB
    rw [ht] at hB
    have hP : va_P (dC, dI) classes (wM g c v F rc) H1 := hB
    have hw_r14924 : (r14924.toInt = 1 ∧ (1 : Int32).toInt ≤ p1.toInt ∧ p1.toInt ≤ (999999 : Int32).toInt) ∨ (r14924.toInt = 0 ∧ (p1.toInt < (1 : Int32).toInt ∨ (999999 : Int32).toInt < p1.toInt)) := hw
    clear hw
    have k14925 : (1 : Int32).toInt = 1 := by decide
    have k14926 : (999999 : Int32).toInt = 999999 := by decide
    clear hz1
    generalize H1 = H at hP hS ⊢
    refine lv_if_ne (tgt := 20) hx hb dX12_claim_15 (by decide) (fun c14927 => ?_) (fun c14927 => ?_)
    · skip
      have t14928 := cv_ne (a := r14924.toInt) rfl (b := 0) (by decide) c14927
      refine lv_aload_n hx hb dX12_claim_20 rfl (lv_at hl 0 rfl) ?_
      refine va_get (D := (dC, dI)) (ci := 12) (v := .ref (g 13)) (C := RX12) (T := TX12) (N := 63) hx hb hwd inA_X12 hown hK hP 0 rfl rfl 17 (by decide) (hwd _ wk_194) (fun _ h9 => h9) rfl dX12_claim_21 ?_
      refine lv_iload_n hx hb dX12_claim_24 rfl (lv_at hl 1 rfl) ?_
      refine va_iald hx hb hK hP 13 12 rfl rfl (i := p0) (vin (a := p0.toInt) rfl (by omega)) dX12_claim_25 ?_
      refine lv_topi (fun z14929 e14930 => ?_)
      have t14931 : 0 ≤ z14929.toInt ∧ z14929.toInt ≤ 12 := by rw [e14930]; exact hI.2 13 _ _ rfl _
      have tzz14929 : z14929.toInt = (F 13 (p0 : Int32).toNatClampNeg).toInt := congrArg Int32.toInt e14930
      refine lv_bipush (v := 10) hx hb dX12_claim_26 (by decide) ?_
      refine lv_icmp_eq (tgt := 34) hx hb dX12_claim_28 (by decide) (fun c14932 => ?_) (fun c14932 => ?_)
      · skip
        have t14933 := cv_eq (a := z14929.toInt) rfl (b := 10) (by decide) c14932
        refine lv_aload_n hx hb dX12_claim_34 rfl (lv_at hl 0 rfl) ?_
        refine lv_iload_n hx hb dX12_claim_35 rfl (lv_at hl 1 rfl) ?_
        have t14934 : 0 ≤ (v 19).toInt ∧ (v 19).toInt ≤ 500 := hI.1 19 _ _ rfl
        refine va_calli (va_runV (As := [.int p0]) (rest := []) ⟨hx, hb, hml, hown, hwd⟩ (c_X12_openOf l dC dI g c adK adV v F rc H.size p0 hg hI ) (cwV 1 hwd (gV wk_639 wk_636 wk_637 wk_638 wk_5) rfl rfl rfl (by decide +kernel) ⟨Nat.le_of_ble_eq_true rfl, Nat.le_of_ble_eq_true rfl⟩) ⟨PM.blind, va_recv hK hP (ci := 12) (q0 := 0) rfl rfl, fun U hU hW => ⟨rfl, PM.at hK hE hP hS hU hW⟩⟩ rfl rfl hl.1 rfl (lv_room (Nat.le_of_ble_eq_true rfl)) dX12_claim_36 ⟨Nat.le_of_ble_eq_true rfl, Nat.le_of_ble_eq_true rfl⟩) hS (fun q _ h => (freeM hS) q h) (freeM hS) (fun r14935 u t H1 locs ht hvm hw hB hz1 hk1 hS => ?_)
        unfold BM at hB
        rw [ht] at hB
        have hP : va_P (dC, dI) classes (wM g c v F rc) H1 := hB
        replace hw : ((0 ≤ r14935.toInt ∧ r14935.toInt < (v 19).toInt) ∧ ((F 15 r14935.toNatClampNeg).toInt = p0.toInt ∧ (F 18 r14935.toNatClampNeg).toInt = 1000000)) ∨ (r14935.toInt = -1 ∧ ∀ s : Nat, (s : Int) < (v 19).toInt → ¬ ((F 15 s).toInt = p0.toInt ∧ (F 18 s).toInt = 1000000)) := hw
        have hw_r14935 := hw
        clear hw
        clear hz1
        generalize H1 = H at hP hS ⊢
        have ho_r14935 := hw_r14935.elim id (fun h => absurd (JO.at' hJ (i := p0) (by omega) (by omega) (by omega)) (no_hasO h.2))
        refine lv_istore_n (lv' := [(3, .int r14935), (0, .ref (g 0)), (1, .int p0), (2, .int p1)]) hx hb dX12_claim_39 rfl hl (by decide) rfl (fun ls hl => ?_)
        refine lv_iconst (v := (-1)) hx hb dX12_claim_40 (by decide) ?_
        refine lv_istore (lv' := [(4, .int (-1)), (3, .int r14935), (0, .ref (g 0)), (1, .int p0), (2, .int p1)]) hx hb dX12_claim_41 hl (by decide) rfl (fun ls hl => ?_)
        refine lv_iconst (v := 0) hx hb dX12_claim_43 (by decide) ?_
        refine lv_istore (lv' := [(5, .int 0), (4, .int (-1)), (3, .int r14935), (0, .ref (g 0)), (1, .int p0), (2, .int p1)]) hx hb dX12_claim_44 hl (by decide) rfl (fun ls hl => ?_)
        have lp14936 : ∀ (n : Nat) (x5_lp14936 : Int32) (x4_lp14936 : Int32) (v_lp14936 : Nat → Int32) (F_lp14936 : Nat → Nat → Int32) (H : Heap) (locs : List Loc) (ls : Array Slot), (0 ≤ x5_lp14936.toInt) → (-1 ≤ x4_lp14936.toInt) → (x4_lp14936.toInt ≤ 499) → (2147483648 - x5_lp14936.toInt ≤ (n : Int)) → (∀ k, k ∉ ([] : List Nat) → v_lp14936 k = v k) → IM v_lp14936 F_lp14936 → (∀ k, k ∉ ([10] : List Nat) → F_lp14936 k = F k) → va_P (dC, dI) classes (wM g c v_lp14936 F_lp14936 rc) H → va_S (AM g s.heap.size) s.heap H locs → lv_has ls 7 [(5, .int x5_lp14936), (4, .int x4_lp14936), (3, .int r14935), (0, .ref (g 0)), (1, .int p0), (2, .int p1)] → W p l e (headSpec (Cond.code yX12_claim cX12_claim 7 (some .int) :: wA) ({ frames := 3, cells := 0, slots := 0, locals := 120 })).room s m ([.ref (g 0), .int p0, .int p1] : List Value).toArray below meth c0 H locs 0 0 (MQ below (va_Qi (fun (r : Int32) (u : StM) => IM u.1 u.2.1 ∧ u.2.2 = rc ∧ (∀ k, k ∉ ([60] : List Nat) → u.1 k = v k) ∧ (∀ k, k ∉ ([10] : List Nat) → u.2.1 k = F k) ∧ True) (BM dC dI g c) (AM g s.heap.size)) ([.ref (g 0), .int p0, .int p1] : List Value).toArray s 0 0 (AM g s.heap.size)) (F0 m 46 ls []) := by
          intro n
          induction n with
          | zero =>
            intro x5_lp14936 x4_lp14936 v_lp14936 F_lp14936 H locs ls t14937 t14938 t14939 hm hf_lp14936 hI hF hP hS hl
            exfalso
            have := i32_rng x5_lp14936
            have := i32_rng x4_lp14936
            have hI1 := hI.1
            omega
          | succ n ih_lp14936 =>
            intro x5_lp14936 x4_lp14936 v_lp14936 F_lp14936 H locs ls t14937 t14938 t14939 hm hf_lp14936 hI hF hP hS hl
            have rx5_lp14936 := i32_rng x5_lp14936
            have rx4_lp14936 := i32_rng x4_lp14936
            refine lv_iload hx hb dX12_claim_46 (lv_at hl 0 rfl) ?_
            refine lv_aload_n hx hb dX12_claim_48 rfl (lv_at hl 3 rfl) ?_
            refine va_get (D := (dC, dI)) (ci := 12) (v := .int (v_lp14936 19)) (C := RX12) (T := TX12) (N := 63) hx hb hwd inA_X12 hown hK hP 0 rfl rfl 19 (by decide) (hwd _ wk_494) (fun _ h9 => h9) rfl dX12_claim_49 ?_
            refine my_top (v := v 19) (hf_lp14936 19 (by decide)) ?_
            have t14940 : 0 ≤ (v 19).toInt ∧ (v 19).toInt ≤ 500 := by have h9 := hI.1 19 _ _ rfl; rw [show v_lp14936 19 = v 19 from hf_lp14936 19 (by decide)] at h9; exact h9
            refine lv_icmp_ge (tgt := 108) hx hb dX12_claim_52 (by decide) (fun c14941 => ?_) (fun c14941 => ?_)
            · skip
              have t14942 := cv_le (a := (v 19).toInt) rfl (b := x5_lp14936.toInt) rfl c14941
              refine lv_iload hx hb dX12_claim_108 (lv_at hl 1 rfl) ?_
              refine lv_if_lt (tgt := 125) hx hb dX12_claim_110 (by decide) (fun c14943 => ?_) (fun c14943 => ?_)
              · skip
                have t14944 := cv_lt (a := x4_lp14936.toInt) rfl (b := 0) (by decide) c14943
                refine lv_bipush (v := (-2)) hx hb dX12_claim_125 (by decide) ?_
                have hP9 : va_P (dC, dI) classes (wM g c v_lp14936 F_lp14936 rc) H := hP
                exact W.iret (v := (-2)) hx hb hr (fun t ht hW => ⟨⟨(-2), (v_lp14936, F_lp14936, rc), rfl, ⟨hI, rfl, (frC (by decide) hf_lp14936 (fun _ _ => rfl)), hF, trivial⟩, (by show va_P _ _ _ t.heap; rw [ht]; exact hP9)⟩, hS.F ht⟩) hS.2.2 dX12_claim_127
              · skip
                have t14945 := cv_nlt (a := x4_lp14936.toInt) rfl (b := 0) (by decide) c14943
                refine lv_aload_n hx hb dX12_claim_113 rfl (lv_at hl 3 rfl) ?_
                refine va_get (D := (dC, dI)) (ci := 12) (v := .ref (g 16)) (C := RX12) (T := TX12) (N := 63) hx hb hwd inA_X12 hown hK hP 0 rfl rfl 21 (by decide) (hwd _ wk_197) (fun _ h9 => h9) rfl dX12_claim_114 ?_
                refine lv_iload hx hb dX12_claim_117 (lv_at hl 1 rfl) ?_
                refine va_iald hx hb hK hP 16 15 rfl rfl (i := x4_lp14936) (vin (a := x4_lp14936.toInt) rfl (by omega)) dX12_claim_119 ?_
                refine lv_topi (fun z14946 e14947 => ?_)
                have t14948 : 0 ≤ z14946.toInt ∧ z14946.toInt ≤ 11 := by rw [e14947]; exact hI.2 16 _ _ rfl _
                have e14947 : z14946 = F 16 (x4_lp14936 : Int32).toNatClampNeg := e14947.trans (congrFun (hF 16 (by decide)) _)
                have tzz14946 : z14946.toInt = (F 16 (x4_lp14936 : Int32).toNatClampNeg).toInt := congrArg Int32.toInt e14947
                refine lv_bipush (v := 10) hx hb dX12_claim_120 (by decide) ?_
                refine lv_icmp_lt (tgt := 128) hx hb dX12_claim_122 (by decide) (fun c14949 => ?_) (fun c14949 => ?_)
                · skip
                  have t14950 := cv_lt (a := z14946.toInt) rfl (b := 10) (by decide) c14949
                  refine lv_bipush (v := 10) hx hb dX12_claim_128 (by decide) ?_
                  refine lv_aload_n hx hb dX12_claim_130 rfl (lv_at hl 3 rfl) ?_
                  refine va_get (D := (dC, dI)) (ci := 12) (v := .ref (g 16)) (C := RX12) (T := TX12) (N := 63) hx hb hwd inA_X12 hown hK hP 0 rfl rfl 21 (by decide) (hwd _ wk_197) (fun _ h9 => h9) rfl dX12_claim_131 ?_
                  refine lv_iload hx hb dX12_claim_134 (lv_at hl 1 rfl) ?_
                  refine va_iald hx hb hK hP 16 15 rfl rfl (i := x4_lp14936) (vin (a := x4_lp14936.toInt) rfl (by omega)) dX12_claim_136 ?_
                  refine lv_topi (fun z14951 e14952 => ?_)
                  have t14953 : 0 ≤ z14951.toInt ∧ z14951.toInt ≤ 11 := by rw [e14952]; exact hI.2 16 _ _ rfl _
                  have e14952 : z14951 = F 16 (x4_lp14936 : Int32).toNatClampNeg := e14952.trans (congrFun (hF 16 (by decide)) _)
                  have tzz14951 : z14951.toInt = (F 16 (x4_lp14936 : Int32).toNatClampNeg).toInt := congrArg Int32.toInt e14952
                  refine lv_imul hx hb dX12_claim_137 ?_
                  refine lv_topi (fun z14954 e14955 => ?_)
                  try (have t14956 := tmul e14955 (a := 10) (by decide) (b := z14951.toInt) rfl (by omega))
                  refine lv_aload_n hx hb dX12_claim_138 rfl (lv_at hl 3 rfl) ?_
                  refine va_get (D := (dC, dI)) (ci := 12) (v := .ref (g 11)) (C := RX12) (T := TX12) (N := 63) hx hb hwd inA_X12 hown hK hP 0 rfl rfl 15 (by decide) (hwd _ wk_192) (fun _ h9 => h9) rfl dX12_claim_139 ?_
                  refine lv_iload_n hx hb dX12_claim_142 rfl (lv_at hl 4 rfl) ?_
                  refine va_iald hx hb hK hP 11 10 rfl rfl (i := p0) (vin (a := p0.toInt) rfl (by omega)) dX12_claim_143 ?_
                  refine lv_topi (fun z14957 e14958 => ?_)
                  have t14959 : 0 ≤ z14957.toInt ∧ z14957.toInt ≤ 9 := by rw [e14958]; exact hI.2 11 _ _ rfl _
                  have e14958 : z14957 = F 11 (p0 : Int32).toNatClampNeg := e14958.trans (congrFun (hF 11 (by decide)) _)
                  have tzz14957 : z14957.toInt = (F 11 (p0 : Int32).toNatClampNeg).toInt := congrArg Int32.toInt e14958
                  refine lv_iadd hx hb dX12_claim_144 ?_
                  refine lv_topi (fun z14960 e14961 => ?_)
                  try (have t14962 := tadd e14961 (a := z14954.toInt) rfl (b := z14957.toInt) rfl (by omega))
                  refine lv_istore (lv' := [(5, .int z14960), (4, .int x4_lp14936), (3, .int r14935), (0, .ref (g 0)), (1, .int p0), (2, .int p1)]) hx hb dX12_claim_145 hl (by decide) rfl (fun ls hl => ?_)
                  refine lv_iload_n hx hb dX12_claim_147 rfl (lv_at hl 5 rfl) ?_
                  refine lv_aload_n hx hb dX12_claim_148 rfl (lv_at hl 3 rfl) ?_
                  refine va_get (D := (dC, dI)) (ci := 12) (v := .ref (g 10)) (C := RX12) (T := TX12) (N := 63) hx hb hwd inA_X12 hown hK hP 0 rfl rfl 13 (by decide) (hwd _ wk_191) (fun _ h9 => h9) rfl dX12_claim_149 ?_
                  refine lv_iload hx hb dX12_claim_152 (lv_at hl 0 rfl) ?_
                  refine va_iald hx hb hK hP 10 9 rfl rfl (i := z14960) (vin (a := z14960.toInt) rfl (by omega)) dX12_claim_154 ?_
                  refine lv_topi (fun z14963 e14964 => ?_)
                  have tzz14963 : z14963.toInt = (F_lp14936 10 (z14960 : Int32).toNatClampNeg).toInt := congrArg Int32.toInt e14964
                  refine lv_icmp_ge (tgt := 162) hx hb dX12_claim_155 (by decide) (fun c14965 => ?_) (fun c14965 => ?_)
                  · skip
                    have t14966 := cv_le (a := z14963.toInt) rfl (b := p1.toInt) rfl c14965
                    refine lv_aload_n hx hb dX12_claim_162 rfl (lv_at hl 3 rfl) ?_
                    refine va_get (D := (dC, dI)) (ci := 12) (v := .ref (g 10)) (C := RX12) (T := TX12) (N := 63) hx hb hwd inA_X12 hown hK hP 0 rfl rfl 13 (by decide) (hwd _ wk_191) (fun _ h9 => h9) rfl dX12_claim_163 ?_
                    refine lv_iload hx hb dX12_claim_166 (lv_at hl 0 rfl) ?_
                    refine va_iald hx hb hK hP 10 9 rfl rfl (i := z14960) (vin (a := z14960.toInt) rfl (by omega)) dX12_claim_168 ?_
                    refine lv_topi (fun z14967 e14968 => ?_)
                    have tzz14967 : z14967.toInt = (F_lp14936 10 (z14960 : Int32).toNatClampNeg).toInt := congrArg Int32.toInt e14968
                    refine lv_istore (lv' := [(6, .int z14967), (5, .int z14960), (4, .int x4_lp14936), (3, .int r14935), (0, .ref (g 0)), (1, .int p0), (2, .int p1)]) hx hb dX12_claim_169 hl (by decide) rfl (fun ls hl => ?_)
                    refine lv_aload_n hx hb dX12_claim_171 rfl (lv_at hl 4 rfl) ?_
                    refine va_get (D := (dC, dI)) (ci := 12) (v := .ref (g 10)) (C := RX12) (T := TX12) (N := 63) hx hb hwd inA_X12 hown hK hP 0 rfl rfl 13 (by decide) (hwd _ wk_191) (fun _ h9 => h9) rfl dX12_claim_172 ?_
                    refine lv_iload hx hb dX12_claim_175 (lv_at hl 1 rfl) ?_
                    refine lv_dup2_11 hx hb dX12_claim_177 rfl rfl ?_
                    refine va_iald hx hb hK hP 10 9 rfl rfl (i := z14960) (vin (a := z14960.toInt) rfl (by omega)) dX12_claim_178 ?_
                    refine lv_topi (fun z14969 e14970 => ?_)
                    have tzz14969 : z14969.toInt = (F_lp14936 10 (z14960 : Int32).toNatClampNeg).toInt := congrArg Int32.toInt e14970
                    refine lv_iload hx hb dX12_claim_179 (lv_at hl 0 rfl) ?_
                    refine lv_isub hx hb dX12_claim_181 ?_
                    refine lv_topi (fun z14971 e14972 => ?_)
                    try (have t14973 := tsub e14972 (a := z14969.toInt) rfl (b := z14967.toInt) rfl (by omega))
                    refine va_iast hx hb hK hP (DM hg) hS 10 9 rfl rfl (i := z14960) (x := z14971) (vin (a := z14960.toInt) rfl (by omega)) dX12_claim_182 (fun H locs hP _ hS => ?_)
                    have hP := va_P_eq (sM_10 g c _ _ _ _) hP
                    have hI := IM.store0 hI 10 (z14960 : Int32).toNatClampNeg z14971 rfl
                    have hF := frUF (k := 10) (f := upd (F_lp14936 10) (z14960 : Int32).toNatClampNeg z14971) (by decide) hF
                    have st14975 : (va_up F_lp14936 10 (upd (F_lp14936 10) (z14960 : Int32).toNatClampNeg z14971)) 10 = upd (F_lp14936 10) (z14960 : Int32).toNatClampNeg z14971 := va_up_self _ _ _
                    have sn14976 : ∀ k9, k9 ≠ 10 → (va_up F_lp14936 10 (upd (F_lp14936 10) (z14960 : Int32).toNatClampNeg z14971)) k9 = F_lp14936 k9 := fun k9 h9 => va_up_ne _ _ h9
                    have hP : va_P (dC, dI) classes (wM g c v_lp14936 (va_up F_lp14936 10 (upd (F_lp14936 10) (z14960 : Int32).toNatClampNeg z14971)) rc) H := hP
                    generalize (va_up F_lp14936 10 (upd (F_lp14936 10) (z14960 : Int32).toNatClampNeg z14971)) = F14974 at hP hI hF st14975 sn14976
                    refine lv_aload_n hx hb dX12_claim_183 rfl (lv_at hl 4 rfl) ?_
                    refine lv_dup hx hb dX12_claim_184 rfl ?_
                    refine va_get (D := (dC, dI)) (ci := 12) (v := .int (v_lp14936 60)) (C := RX12) (T := TX12) (N := 63) hx hb hwd inA_X12 hown hK hP 0 rfl rfl 60 (by decide) (hwd _ wk_1348) (fun _ h9 => h9) rfl dX12_claim_185 ?_
                    refine my_top (v := v 60) (hf_lp14936 60 (by decide)) ?_
                    refine lv_iload hx hb dX12_claim_188 (lv_at hl 0 rfl) ?_
                    refine lv_iadd hx hb dX12_claim_190 ?_
                    refine lv_topi (fun z14977 e14978 => ?_)
                    try (have t14979 := tadd e14978 (a := (v 60).toInt) rfl (b := z14967.toInt) rfl (by omega))
                    refine va_put (D := (dC, dI)) (ci := 12) (v := .int z14977) (ty := .int) (C := RX12) (T := TX12) (N := 63) (fs := fsM_0 g v_lp14936 rc) hx hb hwd inA_X12 tyX12 tyX12_ok nmX12 hown hK hP (DM hg) hS 0 rfl rfl 60 (by decide) (hwd _ wk_1348) (fun _ h9 => h9) rfl (by decide +kernel) rfl rfl (Nat.le_of_ble_eq_true rfl) dX12_claim_191 (fun H locs hP _ hS => ?_)
                    have hP := va_P_eq (pM_60 g c _ _ _ _) hP
                    have hI := IM.put0 hI 60 z14977 rfl
                    refine lv_iload hx hb dX12_claim_194 (lv_at hl 0 rfl) ?_
                    have hP9 : va_P (dC, dI) classes (wM g c (va_up v_lp14936 60 z14977) F14974 rc) H := hP
                    exact W.iret (v := z14967) hx hb hr (fun t ht hW => ⟨⟨z14967, ((va_up v_lp14936 60 z14977), F14974, rc), rfl, ⟨hI, rfl, (frU (by decide) (frC (by decide) hf_lp14936 (fun _ _ => rfl))), hF, trivial⟩, (by show va_P _ _ _ t.heap; rw [ht]; exact hP9)⟩, hS.F ht⟩) hS.2.2 dX12_claim_196
                  · skip
                    have t14980 := cv_nle (a := z14963.toInt) rfl (b := p1.toInt) rfl c14965
                    refine lv_iload_n hx hb dX12_claim_158 rfl (lv_at hl 5 rfl) ?_
                    refine lv_goto (tgt := 169) hx hb dX12_claim_159 (by decide) ?_
                    refine lv_istore (lv' := [(6, .int p1), (5, .int z14960), (4, .int x4_lp14936), (3, .int r14935), (0, .ref (g 0)), (1, .int p0), (2, .int p1)]) hx hb dX12_claim_169 hl (by decide) rfl (fun ls hl => ?_)
                    refine lv_aload_n hx hb dX12_claim_171 rfl (lv_at hl 4 rfl) ?_
                    refine va_get (D := (dC, dI)) (ci := 12) (v := .ref (g 10)) (C := RX12) (T := TX12) (N := 63) hx hb hwd inA_X12 hown hK hP 0 rfl rfl 13 (by decide) (hwd _ wk_191) (fun _ h9 => h9) rfl dX12_claim_172 ?_
                    refine lv_iload hx hb dX12_claim_175 (lv_at hl 1 rfl) ?_
                    refine lv_dup2_11 hx hb dX12_claim_177 rfl rfl ?_
                    refine va_iald hx hb hK hP 10 9 rfl rfl (i := z14960) (vin (a := z14960.toInt) rfl (by omega)) dX12_claim_178 ?_
                    refine lv_topi (fun z14981 e14982 => ?_)
                    have tzz14981 : z14981.toInt = (F_lp14936 10 (z14960 : Int32).toNatClampNeg).toInt := congrArg Int32.toInt e14982
                    refine lv_iload hx hb dX12_claim_179 (lv_at hl 0 rfl) ?_
                    refine lv_isub hx hb dX12_claim_181 ?_
                    refine lv_topi (fun z14983 e14984 => ?_)
                    try (have t14985 := tsub e14984 (a := z14981.toInt) rfl (b := p1.toInt) rfl (by omega))
                    refine va_iast hx hb hK hP (DM hg) hS 10 9 rfl rfl (i := z14960) (x := z14983) (vin (a := z14960.toInt) rfl (by omega)) dX12_claim_182 (fun H locs hP _ hS => ?_)
                    have hP := va_P_eq (sM_10 g c _ _ _ _) hP
                    have hI := IM.store0 hI 10 (z14960 : Int32).toNatClampNeg z14983 rfl
                    have hF := frUF (k := 10) (f := upd (F_lp14936 10) (z14960 : Int32).toNatClampNeg z14983) (by decide) hF
                    have st14987 : (va_up F_lp14936 10 (upd (F_lp14936 10) (z14960 : Int32).toNatClampNeg z14983)) 10 = upd (F_lp14936 10) (z14960 : Int32).toNatClampNeg z14983 := va_up_self _ _ _
                    have sn14988 : ∀ k9, k9 ≠ 10 → (va_up F_lp14936 10 (upd (F_lp14936 10) (z14960 : Int32).toNatClampNeg z14983)) k9 = F_lp14936 k9 := fun k9 h9 => va_up_ne _ _ h9
                    have hP : va_P (dC, dI) classes (wM g c v_lp14936 (va_up F_lp14936 10 (upd (F_lp14936 10) (z14960 : Int32).toNatClampNeg z14983)) rc) H := hP
                    generalize (va_up F_lp14936 10 (upd (F_lp14936 10) (z14960 : Int32).toNatClampNeg z14983)) = F14986 at hP hI hF st14987 sn14988
                    refine lv_aload_n hx hb dX12_claim_183 rfl (lv_at hl 4 rfl) ?_
                    refine lv_dup hx hb dX12_claim_184 rfl ?_
                    refine va_get (D := (dC, dI)) (ci := 12) (v := .int (v_lp14936 60)) (C := RX12) (T := TX12) (N := 63) hx hb hwd inA_X12 hown hK hP 0 rfl rfl 60 (by decide) (hwd _ wk_1348) (fun _ h9 => h9) rfl dX12_claim_185 ?_
                    refine my_top (v := v 60) (hf_lp14936 60 (by decide)) ?_
                    refine lv_iload hx hb dX12_claim_188 (lv_at hl 0 rfl) ?_
                    refine lv_iadd hx hb dX12_claim_190 ?_
                    refine lv_topi (fun z14989 e14990 => ?_)
                    try (have t14991 := tadd e14990 (a := (v 60).toInt) rfl (b := p1.toInt) rfl (by omega))
                    refine va_put (D := (dC, dI)) (ci := 12) (v := .int z14989) (ty := .int) (C := RX12) (T := TX12) (N := 63) (fs := fsM_0 g v_lp14936 rc) hx hb hwd inA_X12 tyX12 tyX12_ok nmX12 hown hK hP (DM hg) hS 0 rfl rfl 60 (by decide) (hwd _ wk_1348) (fun _ h9 => h9) rfl (by decide +kernel) rfl rfl (Nat.le_of_ble_eq_true rfl) dX12_claim_191 (fun H locs hP _ hS => ?_)
                    have hP := va_P_eq (pM_60 g c _ _ _ _) hP
                    have hI := IM.put0 hI 60 z14989 rfl
                    refine lv_iload hx hb dX12_claim_194 (lv_at hl 0 rfl) ?_
                    have hP9 : va_P (dC, dI) classes (wM g c (va_up v_lp14936 60 z14989) F14986 rc) H := hP
                    exact W.iret (v := p1) hx hb hr (fun t ht hW => ⟨⟨p1, ((va_up v_lp14936 60 z14989), F14986, rc), rfl, ⟨hI, rfl, (frU (by decide) (frC (by decide) hf_lp14936 (fun _ _ => rfl))), hF, trivial⟩, (by show va_P _ _ _ t.heap; rw [ht]; exact hP9)⟩, hS.F ht⟩) hS.2.2 dX12_claim_196
                · skip
                  have t14992 := cv_nlt (a := z14946.toInt) rfl (b := 10) (by decide) c14949
                  refine lv_bipush (v := (-2)) hx hb dX12_claim_125 (by decide) ?_
                  have hP9 : va_P (dC, dI) classes (wM g c v_lp14936 F_lp14936 rc) H := hP
                  exact W.iret (v := (-2)) hx hb hr (fun t ht hW => ⟨⟨(-2), (v_lp14936, F_lp14936, rc), rfl, ⟨hI, rfl, (frC (by decide) hf_lp14936 (fun _ _ => rfl)), hF, trivial⟩, (by show va_P _ _ _ t.heap; rw [ht]; exact hP9)⟩, hS.F ht⟩) hS.2.2 dX12_claim_127
            · skip
              have t14993 := cv_nle (a := (v 19).toInt) rfl (b := x5_lp14936.toInt) rfl c14941
              refine lv_aload_n hx hb dX12_claim_55 rfl (lv_at hl 3 rfl) ?_
              refine va_get (D := (dC, dI)) (ci := 12) (v := .ref (g 15)) (C := RX12) (T := TX12) (N := 63) hx hb hwd inA_X12 hown hK hP 0 rfl rfl 20 (by decide) (hwd _ wk_196) (fun _ h9 => h9) rfl dX12_claim_56 ?_
              refine lv_iload hx hb dX12_claim_59 (lv_at hl 0 rfl) ?_
              refine va_iald hx hb hK hP 15 14 rfl rfl (i := x5_lp14936) (vin (a := x5_lp14936.toInt) rfl (by omega)) dX12_claim_61 ?_
              refine lv_topi (fun z14994 e14995 => ?_)
              have t14996 : 0 ≤ z14994.toInt ∧ z14994.toInt ≤ 99 := by rw [e14995]; exact hI.2 15 _ _ rfl _
              have e14995 : z14994 = F 15 (x5_lp14936 : Int32).toNatClampNeg := e14995.trans (congrFun (hF 15 (by decide)) _)
              have tzz14994 : z14994.toInt = (F 15 (x5_lp14936 : Int32).toNatClampNeg).toInt := congrArg Int32.toInt e14995
              refine lv_iload_n hx hb dX12_claim_62 rfl (lv_at hl 4 rfl) ?_
              refine lv_icmp_ne (tgt := 102) hx hb dX12_claim_63 (by decide) (fun c14997 => ?_) (fun c14997 => ?_)
              · skip
                have t14998 := cv_ne (a := z14994.toInt) rfl (b := p0.toInt) rfl c14997
                obtain ⟨z14999, e15000⟩ : ∃ y : Int32, y = x5_lp14936 + 1 := ⟨_, rfl⟩
                try (have t15001 := tadd e15000 rfl (b := 1) (by decide) (by omega))
                refine lv_iinc (v := z14999) (lv' := [(5, .int z14999), (4, .int x4_lp14936), (3, .int r14935), (0, .ref (g 0)), (1, .int p0), (2, .int p1)]) hx hb dX12_claim_102 hl (k := 0) rfl (by rw [e15000]; rfl) (by decide) rfl (fun ls hl => ?_)
                refine lv_goto (tgt := 46) hx hb dX12_claim_105 (by decide) ?_
                exact ih_lp14936 z14999 x4_lp14936 v_lp14936 F_lp14936 _ _ _ (by omega) (by omega) (by omega) (by omega) hf_lp14936 hI hF hP hS (lv_sub hl [0, 1, 2, 3, 4, 5] rfl)
              · skip
                have t15002 := cv_eq (a := z14994.toInt) rfl (b := p0.toInt) rfl c14997
                refine lv_iload hx hb dX12_claim_66 (lv_at hl 0 rfl) ?_
                refine lv_iload_n hx hb dX12_claim_68 rfl (lv_at hl 2 rfl) ?_
                refine lv_icmp_eq (tgt := 102) hx hb dX12_claim_69 (by decide) (fun c15003 => ?_) (fun c15003 => ?_)
                · skip
                  have t15004 := cv_eq (a := x5_lp14936.toInt) rfl (b := r14935.toInt) rfl c15003
                  obtain ⟨z15005, e15006⟩ : ∃ y : Int32, y = x5_lp14936 + 1 := ⟨_, rfl⟩
                  try (have t15007 := tadd e15006 rfl (b := 1) (by decide) (by omega))
                  refine lv_iinc (v := z15005) (lv' := [(5, .int z15005), (4, .int x4_lp14936), (3, .int r14935), (0, .ref (g 0)), (1, .int p0), (2, .int p1)]) hx hb dX12_claim_102 hl (k := 0) rfl (by rw [e15006]; rfl) (by decide) rfl (fun ls hl => ?_)
                  refine lv_goto (tgt := 46) hx hb dX12_claim_105 (by decide) ?_
                  exact ih_lp14936 z15005 x4_lp14936 v_lp14936 F_lp14936 _ _ _ (by omega) (by omega) (by omega) (by omega) hf_lp14936 hI hF hP hS (lv_sub hl [0, 1, 2, 3, 4, 5] rfl)
                · skip
                  have t15008 := cv_ne (a := x5_lp14936.toInt) rfl (b := r14935.toInt) rfl c15003
                  refine lv_aload_n hx hb dX12_claim_72 rfl (lv_at hl 3 rfl) ?_
                  refine lv_iload hx hb dX12_claim_73 (lv_at hl 0 rfl) ?_
                  refine lv_iload_n hx hb dX12_claim_75 rfl (lv_at hl 2 rfl) ?_
                  refine va_calli (va_runV (As := [.int x5_lp14936, .int r14935]) (rest := []) ⟨hx, hb, hml, hown, hwd⟩ (c_X12_isAhead l dC dI g c adK adV v_lp14936 F_lp14936 rc H.size x5_lp14936 r14935 hg hI (by omega) (by omega)) (cwV 2 hwd (gV wk_509 wk_506 wk_507 wk_508 wk_5) rfl rfl rfl (by decide +kernel) ⟨Nat.le_of_ble_eq_true rfl, Nat.le_of_ble_eq_true rfl⟩) ⟨PM.blind, va_recv hK hP (ci := 12) (q0 := 0) rfl rfl, fun U hU hW => ⟨rfl, PM.at hK hE hP hS hU hW⟩⟩ rfl rfl hl.1 rfl (lv_room (Nat.le_of_ble_eq_true rfl)) dX12_claim_76 ⟨Nat.le_of_ble_eq_true rfl, Nat.le_of_ble_eq_true rfl⟩) hS (fun q _ h => (freeM hS) q h) (freeM hS) (fun r15009 u t H1 locs ht hvm hw hB hz1 hk1 hS => ?_)
                  unfold BM at hB
                  rw [ht] at hB
                  have hP : va_P (dC, dI) classes (wM g c v_lp14936 F_lp14936 rc) H1 := hB
                  replace hw : (r15009.toInt = 1 ∧ ((F_lp14936 17 x5_lp14936.toNatClampNeg).toInt < (F_lp14936 17 r14935.toNatClampNeg).toInt ∨ ((F_lp14936 17 x5_lp14936.toNatClampNeg).toInt = (F_lp14936 17 r14935.toNatClampNeg).toInt ∧ x5_lp14936.toInt < r14935.toInt))) ∨ (r15009.toInt = 0 ∧ ¬ ((F_lp14936 17 x5_lp14936.toNatClampNeg).toInt < (F_lp14936 17 r14935.toNatClampNeg).toInt ∨ ((F_lp14936 17 x5_lp14936.toNatClampNeg).toInt = (F_lp14936 17 r14935.toNatClampNeg).toInt ∧ x5_lp14936.toInt < r14935.toInt))) := hw
                  have hw_r15009 := hw
                  clear hw
                  clear hz1
                  generalize H1 = H at hP hS ⊢
                  refine lv_if_eq (tgt := 102) hx hb dX12_claim_79 (by decide) (fun c15010 => ?_) (fun c15010 => ?_)
                  · skip
                    have t15011 := cv_eq (a := r15009.toInt) rfl (b := 0) (by decide) c15010
                    obtain ⟨z15012, e15013⟩ : ∃ y : Int32, y = x5_lp14936 + 1 := ⟨_, rfl⟩
                    try (have t15014 := tadd e15013 rfl (b := 1) (by decide) (by omega))
                    refine lv_iinc (v := z15012) (lv' := [(5, .int z15012), (4, .int x4_lp14936), (3, .int r14935), (0, .ref (g 0)), (1, .int p0), (2, .int p1)]) hx hb dX12_claim_102 hl (k := 0) rfl (by rw [e15013]; rfl) (by decide) rfl (fun ls hl => ?_)
                    refine lv_goto (tgt := 46) hx hb dX12_claim_105 (by decide) ?_
                    exact ih_lp14936 z15012 x4_lp14936 v_lp14936 F_lp14936 _ _ _ (by omega) (by omega) (by omega) (by omega) hf_lp14936 hI hF hP hS (lv_sub hl [0, 1, 2, 3, 4, 5] rfl)
                  · skip
                    have t15015 := cv_ne (a := r15009.toInt) rfl (b := 0) (by decide) c15010
                    refine lv_iload hx hb dX12_claim_82 (lv_at hl 1 rfl) ?_
                    refine lv_if_lt (tgt := 98) hx hb dX12_claim_84 (by decide) (fun c15016 => ?_) (fun c15016 => ?_)
                    · skip
                      have t15017 := cv_lt (a := x4_lp14936.toInt) rfl (b := 0) (by decide) c15016
                      refine lv_iload hx hb dX12_claim_98 (lv_at hl 0 rfl) ?_
                      refine lv_istore (lv' := [(4, .int x5_lp14936), (5, .int x5_lp14936), (3, .int r14935), (0, .ref (g 0)), (1, .int p0), (2, .int p1)]) hx hb dX12_claim_100 hl (by decide) rfl (fun ls hl => ?_)
                      obtain ⟨z15018, e15019⟩ : ∃ y : Int32, y = x5_lp14936 + 1 := ⟨_, rfl⟩
                      try (have t15020 := tadd e15019 rfl (b := 1) (by decide) (by omega))
                      refine lv_iinc (v := z15018) (lv' := [(5, .int z15018), (4, .int x5_lp14936), (3, .int r14935), (0, .ref (g 0)), (1, .int p0), (2, .int p1)]) hx hb dX12_claim_102 hl (k := 1) rfl (by rw [e15019]; rfl) (by decide) rfl (fun ls hl => ?_)
                      refine lv_goto (tgt := 46) hx hb dX12_claim_105 (by decide) ?_
                      exact ih_lp14936 z15018 x5_lp14936 v_lp14936 F_lp14936 _ _ _ (by omega) (by omega) (by omega) (by omega) hf_lp14936 hI hF hP hS (lv_sub hl [0, 1, 2, 3, 4, 5] rfl)
                    · skip
                      have t15021 := cv_nlt (a := x4_lp14936.toInt) rfl (b := 0) (by decide) c15016
                      refine lv_aload_n hx hb dX12_claim_87 rfl (lv_at hl 3 rfl) ?_
                      refine lv_iload hx hb dX12_claim_88 (lv_at hl 1 rfl) ?_
                      refine lv_iload hx hb dX12_claim_90 (lv_at hl 0 rfl) ?_
                      refine va_calli (va_runV (As := [.int x4_lp14936, .int x5_lp14936]) (rest := []) ⟨hx, hb, hml, hown, hwd⟩ (c_X12_isAhead l dC dI g c adK adV v_lp14936 F_lp14936 rc H.size x4_lp14936 x5_lp14936 hg hI (by omega) (by omega)) (cwV 2 hwd (gV wk_509 wk_506 wk_507 wk_508 wk_5) rfl rfl rfl (by decide +kernel) ⟨Nat.le_of_ble_eq_true rfl, Nat.le_of_ble_eq_true rfl⟩) ⟨PM.blind, va_recv hK hP (ci := 12) (q0 := 0) rfl rfl, fun U hU hW => ⟨rfl, PM.at hK hE hP hS hU hW⟩⟩ rfl rfl hl.1 rfl (lv_room (Nat.le_of_ble_eq_true rfl)) dX12_claim_92 ⟨Nat.le_of_ble_eq_true rfl, Nat.le_of_ble_eq_true rfl⟩) hS (fun q _ h => (freeM hS) q h) (freeM hS) (fun r15022 u t H1 locs ht hvm hw hB hz1 hk1 hS => ?_)
                      unfold BM at hB
                      rw [ht] at hB
                      have hP : va_P (dC, dI) classes (wM g c v_lp14936 F_lp14936 rc) H1 := hB
                      replace hw : (r15022.toInt = 1 ∧ ((F_lp14936 17 x4_lp14936.toNatClampNeg).toInt < (F_lp14936 17 x5_lp14936.toNatClampNeg).toInt ∨ ((F_lp14936 17 x4_lp14936.toNatClampNeg).toInt = (F_lp14936 17 x5_lp14936.toNatClampNeg).toInt ∧ x4_lp14936.toInt < x5_lp14936.toInt))) ∨ (r15022.toInt = 0 ∧ ¬ ((F_lp14936 17 x4_lp14936.toNatClampNeg).toInt < (F_lp14936 17 x5_lp14936.toNatClampNeg).toInt ∨ ((F_lp14936 17 x4_lp14936.toNatClampNeg).toInt = (F_lp14936 17 x5_lp14936.toNatClampNeg).toInt ∧ x4_lp14936.toInt < x5_lp14936.toInt))) := hw
                      have hw_r15022 := hw
                      clear hw
                      clear hz1
                      generalize H1 = H at hP hS ⊢
                      refine lv_if_eq (tgt := 102) hx hb dX12_claim_95 (by decide) (fun c15023 => ?_) (fun c15023 => ?_)
                      · skip
                        have t15024 := cv_eq (a := r15022.toInt) rfl (b := 0) (by decide) c15023
                        obtain ⟨z15025, e15026⟩ : ∃ y : Int32, y = x5_lp14936 + 1 := ⟨_, rfl⟩
                        try (have t15027 := tadd e15026 rfl (b := 1) (by decide) (by omega))
                        refine lv_iinc (v := z15025) (lv' := [(5, .int z15025), (4, .int x4_lp14936), (3, .int r14935), (0, .ref (g 0)), (1, .int p0), (2, .int p1)]) hx hb dX12_claim_102 hl (k := 0) rfl (by rw [e15026]; rfl) (by decide) rfl (fun ls hl => ?_)
                        refine lv_goto (tgt := 46) hx hb dX12_claim_105 (by decide) ?_
                        exact ih_lp14936 z15025 x4_lp14936 v_lp14936 F_lp14936 _ _ _ (by omega) (by omega) (by omega) (by omega) hf_lp14936 hI hF hP hS (lv_sub hl [0, 1, 2, 3, 4, 5] rfl)
                      · skip
                        have t15028 := cv_ne (a := r15022.toInt) rfl (b := 0) (by decide) c15023
                        refine lv_iload hx hb dX12_claim_98 (lv_at hl 0 rfl) ?_
                        refine lv_istore (lv' := [(4, .int x5_lp14936), (5, .int x5_lp14936), (3, .int r14935), (0, .ref (g 0)), (1, .int p0), (2, .int p1)]) hx hb dX12_claim_100 hl (by decide) rfl (fun ls hl => ?_)
                        obtain ⟨z15029, e15030⟩ : ∃ y : Int32, y = x5_lp14936 + 1 := ⟨_, rfl⟩
                        try (have t15031 := tadd e15030 rfl (b := 1) (by decide) (by omega))
                        refine lv_iinc (v := z15029) (lv' := [(5, .int z15029), (4, .int x5_lp14936), (3, .int r14935), (0, .ref (g 0)), (1, .int p0), (2, .int p1)]) hx hb dX12_claim_102 hl (k := 1) rfl (by rw [e15030]; rfl) (by decide) rfl (fun ls hl => ?_)
                        refine lv_goto (tgt := 46) hx hb dX12_claim_105 (by decide) ?_
                        exact ih_lp14936 z15029 x5_lp14936 v_lp14936 F_lp14936 _ _ _ (by omega) (by omega) (by omega) (by omega) hf_lp14936 hI hF hP hS (lv_sub hl [0, 1, 2, 3, 4, 5] rfl)
        obtain ⟨n9, hn9⟩ : ∃ n : Nat, 2147483648 - 0 ≤ (n : Int) := ⟨((2147483648 - 0 : Int)).toNat, by omega⟩
        exact lp14936 n9 0 (-1) v F H _ ls (by have : (0 : Int32).toInt = 0 := (by decide); have : ((-1) : Int32).toInt = (-1) := (by decide); omega) (by have : (0 : Int32).toInt = 0 := (by decide); have : ((-1) : Int32).toInt = (-1) := (by decide); omega) (by have : (0 : Int32).toInt = 0 := (by decide); have : ((-1) : Int32).toInt = (-1) := (by decide); omega) (by have : (0 : Int32).toInt = 0 := (by decide); have : ((-1) : Int32).toInt = (-1) := (by decide); omega) (fun _ _ => rfl) hI hF hP hS hl
      · skip
        have t15032 := cv_ne (a := z14929.toInt) rfl (b := 10) (by decide) c14932
        refine lv_bipush (v := (-2)) hx hb dX12_claim_31 (by decide) ?_
        have hP9 : va_P (dC, dI) classes (wM g c v F rc) H := hP
        exact W.iret (v := (-2)) hx hb hr (fun t ht hW => ⟨⟨(-2), (v, F, rc), rfl, ⟨hI, rfl, (fun _ _ => rfl), hF, trivial⟩, (by show va_P _ _ _ t.heap; rw [ht]; exact hP9)⟩, hS.F ht⟩) hS.2.2 dX12_claim_33
    · skip
      have t15033 := cv_eq (a := r14924.toInt) rfl (b := 0) (by decide) c14927
      refine lv_iconst (v := (-1)) hx hb dX12_claim_18 (by decide) ?_
      have hP9 : va_P (dC, dI) classes (wM g c v F rc) H := hP
      exact W.iret (v := (-1)) hx hb hr (fun t ht hW => ⟨⟨(-1), (v, F, rc), rfl, ⟨hI, rfl, (fun _ _ => rfl), hF, trivial⟩, (by show va_P _ _ _ t.heap; rw [ht]; exact hP9)⟩, hS.F ht⟩) hS.2.2 dX12_claim_19
