set_option maxHeartbeats 8000000 in
set_option maxRecDepth 100000 in
theorem c_X12_best (l : Launch) (dC : Nat → ClassId) (dI : Nat → Nat → Nat) (g : Nat → Nat) (c : Nat → ClassId) (adK adV : Nat → Nat) (v : Nat → Int32) (F : Nat → Nat → Int32) (rc sz : Nat) (p0 : Int32) (p1 : Int32) (hg : injM g) (hI : IM v F) (hL : JL (v 31) (F 28) (F 29) (F 27)) : Met l yX12_best (Cond.code yX12_best cX12_best 12 (some .int) :: wA) ({ frames := 8, cells := 0, slots := 0, locals := 320 }) (va_Pc [.ref (g 0), .int p0, .int p1] (PM dC dI g c adK adV v F rc sz)) (va_Qi (fun (r : Int32) (u : StM) => IM u.1 u.2.1 ∧ u.2.2 = rc ∧ (∀ k, k ∉ ([57, 58] : List Nat) → u.1 k = v k) ∧ (∀ k, k ∉ ([30, 31, 42, 43] : List Nat) → u.2.1 k = F k) ∧ True) (BM dC dI g c) (AM g sz)) 0 0 (AM g sz) := by
  refine Met.ofW (cc := cX12_best) (maxL := 12) (ret := (some .int)) (by decide) rfl ?_
  intro p e s m args below meth c0 s₁ B hml hv
  obtain ⟨rfl, hsz, hP, hK, hE⟩ := hv
  have hx := B.exec
  have hb := B.bytes
  have hr := B.returns
  have hts := atoms_spec (ws := Cond.code yX12_best cX12_best 12 (some .int) :: wA) B.pre
  have hwd : ∀ w ∈ wA, w.before _ s = true := fun w h => hts w (List.mem_cons_of_mem _ h)
  have hown : s.vm.findClass RX12 = some m.cls := findClass_of_methodNamed B.named
  have hlocks := B.notSynchronized
  subst hsz
  have hl := lv_entry ([.ref (g 0), .int p0, .int p1]) (n := 12) (Nat.le_of_ble_eq_true rfl)
  rw [lg_entry_eq]
  generalize (lg_sl ([.ref (g 0), .int p0, .int p1]) ++ List.replicate (12 - (lg_sl ([.ref (g 0), .int p0, .int p1])).length) Slot.unset).toArray = ls at hl ⊢
  have hl : lv_has ls 12 [(0, .ref (g 0)), (1, .int p0), (2, .int p1)] := hl
  obtain ⟨H, eH⟩ : ∃ z, z = s.heap := ⟨_, rfl⟩
  have hP : va_P (dC, dI) classes (wM g c v F rc) H := by rw [eH]; exact hP
  have hS : va_S (AM g s.heap.size) s.heap H [] := by rw [eH]; exact va_S.rf
  refine my_heap eH ?_
  have hF : ∀ k, k ∉ ([30, 31, 42, 43] : List Nat) → F k = F k := fun _ _ => rfl
  have rp0 := i32_rng p0
  have rp1 := i32_rng p1
  have hb31 : 0 ≤ (v 31).toInt ∧ (v 31).toInt ≤ 10 := hI.1 31 _ _ rfl
  refine lv_aload_n hx hb dX12_best_0 rfl (lv_at hl 0 rfl) ?_
  refine lv_iload_n hx hb dX12_best_1 rfl (lv_at hl 1 rfl) ?_
  have t16879 : 0 ≤ (v 6).toInt ∧ (v 6).toInt ≤ 10 := hI.1 6 _ _ rfl
  refine va_calli (va_runV (As := [.int p0]) (rest := []) ⟨hx, hb, hml, hown, hwd⟩ (c_X12_isPlane l dC dI g c adK adV v F rc H.size p0 hg hI ) (cwV 1 hwd (gV wk_305 wk_302 wk_303 wk_304 wk_5) rfl rfl rfl (by decide +kernel) ⟨Nat.le_of_ble_eq_true rfl, Nat.le_of_ble_eq_true rfl⟩) ⟨PM.blind, va_recv hK hP (ci := 12) (q0 := 0) rfl rfl, fun U hU hW => ⟨rfl, PM.at hK hE hP hS hU hW⟩⟩ rfl rfl hl.1 rfl (lv_room (Nat.le_of_ble_eq_true rfl)) dX12_best_2 ⟨Nat.le_of_ble_eq_true rfl, Nat.le_of_ble_eq_true rfl⟩) hS (fun q _ h => (freeM hS) q h) (freeM hS) (fun r16880 u t H1 locs ht hvm hw hB hz1 hk1 hS => ?_)
  unfold BM at hB
  rw [ht] at hB
  have hP : va_P (dC, dI) classes (wM g c v F rc) H1 := hB
  replace hw : (r16880.toInt = 1 ∧ 0 ≤ p0.toInt ∧ p0.toInt < (v 6).toInt) ∨ (r16880.toInt = 0 ∧ (p0.toInt < 0 ∨ (v 6).toInt ≤ p0.toInt)) := hw
  have hw_r16880 := hw
  clear hw
  clear hz1
  generalize H1 = H at hP hS ⊢
  refine lv_if_eq (tgt := 16) hx hb dX12_best_5 (by decide) (fun c16881 => ?_) (fun c16881 => ?_)
  · skip
    have t16882 := cv_eq (a := r16880.toInt) rfl (b := 0) (by decide) c16881
    refine lv_iconst (v := (-1)) hx hb dX12_best_16 (by decide) ?_
    have hP9 : va_P (dC, dI) classes (wM g c v F rc) H := hP
    exact W.iret (v := (-1)) hx hb hr (fun t ht hW => ⟨⟨(-1), (v, F, rc), rfl, ⟨hI, rfl, (fun _ _ => rfl), hF, trivial⟩, (by show va_P _ _ _ t.heap; rw [ht]; exact hP9)⟩, hS.F ht⟩) hS.2.2 dX12_best_17
  · skip
    have t16883 := cv_ne (a := r16880.toInt) rfl (b := 0) (by decide) c16881
    refine lv_aload_n hx hb dX12_best_8 rfl (lv_at hl 0 rfl) ?_
    refine lv_iload_n hx hb dX12_best_9 rfl (lv_at hl 2 rfl) ?_
    have t16884 : 0 ≤ (v 2).toInt ∧ (v 2).toInt ≤ 10 := hI.1 2 _ _ rfl
    refine va_calli (va_runV (As := [.int p1]) (rest := []) ⟨hx, hb, hml, hown, hwd⟩ (c_X12_isKind l dC dI g c adK adV v F rc H.size p1 hg hI ) (cwV 1 hwd (gV wk_309 wk_306 wk_307 wk_308 wk_5) rfl rfl rfl (by decide +kernel) ⟨Nat.le_of_ble_eq_true rfl, Nat.le_of_ble_eq_true rfl⟩) ⟨PM.blind, va_recv hK hP (ci := 12) (q0 := 0) rfl rfl, fun U hU hW => ⟨rfl, PM.at hK hE hP hS hU hW⟩⟩ rfl rfl hl.1 rfl (lv_room (Nat.le_of_ble_eq_true rfl)) dX12_best_10 ⟨Nat.le_of_ble_eq_true rfl, Nat.le_of_ble_eq_true rfl⟩) hS (fun q _ h => (freeM hS) q h) (freeM hS) (fun r16885 u t H1 locs ht hvm hw hB hz1 hk1 hS => ?_)
    unfold BM at hB
    rw [ht] at hB
    have hP : va_P (dC, dI) classes (wM g c v F rc) H1 := hB
    replace hw : (r16885.toInt = 1 ∧ 0 ≤ p1.toInt ∧ p1.toInt < (v 2).toInt) ∨ (r16885.toInt = 0 ∧ (p1.toInt < 0 ∨ (v 2).toInt ≤ p1.toInt)) := hw
    have hw_r16885 := hw
    clear hw
    clear hz1
    generalize H1 = H at hP hS ⊢
    refine lv_if_ne (tgt := 18) hx hb dX12_best_13 (by decide) (fun c16886 => ?_) (fun c16886 => ?_)
    · skip
      have t16887 := cv_ne (a := r16885.toInt) rfl (b := 0) (by decide) c16886
      refine lv_aload_n hx hb dX12_best_18 rfl (lv_at hl 0 rfl) ?_
      refine lv_iload_n hx hb dX12_best_19 rfl (lv_at hl 1 rfl) ?_
      refine va_calli (va_runV (As := [.int p0]) (rest := []) ⟨hx, hb, hml, hown, hwd⟩ (c_X12_hasContract l dC dI g c adK adV v F rc H.size p0 hg hI (by omega)) (cwV 1 hwd (gV wk_1201 wk_1198 wk_1199 wk_1200 wk_5) rfl rfl rfl (by decide +kernel) ⟨Nat.le_of_ble_eq_true rfl, Nat.le_of_ble_eq_true rfl⟩) ⟨PM.blind, va_recv hK hP (ci := 12) (q0 := 0) rfl rfl, fun U hU hW => ⟨rfl, PM.at hK hE hP hS hU hW⟩⟩ rfl rfl hl.1 rfl (lv_room (Nat.le_of_ble_eq_true rfl)) dX12_best_20 ⟨Nat.le_of_ble_eq_true rfl, Nat.le_of_ble_eq_true rfl⟩) hS (fun q _ h => (freeM hS) q h) (freeM hS) (fun r16888 u t H1 locs ht hvm hw hB hz1 hk1 hS => ?_)
      unfold BM at hB
      rw [ht] at hB
      have hP : va_P (dC, dI) classes (wM g c v F rc) H1 := hB
      have hw_r16888 : 0 ≤ r16888.toInt ∧ r16888.toInt ≤ 1 := hw
      clear hw
      clear hz1
      generalize H1 = H at hP hS ⊢
      refine lv_if_eq (tgt := 48) hx hb dX12_best_23 (by decide) (fun c16889 => ?_) (fun c16889 => ?_)
      · skip
        have t16890 := cv_eq (a := r16888.toInt) rfl (b := 0) (by decide) c16889
        refine lv_bipush (v := (-2)) hx hb dX12_best_48 (by decide) ?_
        have hP9 : va_P (dC, dI) classes (wM g c v F rc) H := hP
        exact W.iret (v := (-2)) hx hb hr (fun t ht hW => ⟨⟨(-2), (v, F, rc), rfl, ⟨hI, rfl, (fun _ _ => rfl), hF, trivial⟩, (by show va_P _ _ _ t.heap; rw [ht]; exact hP9)⟩, hS.F ht⟩) hS.2.2 dX12_best_50
      · skip
        have t16891 := cv_ne (a := r16888.toInt) rfl (b := 0) (by decide) c16889
        refine lv_aload_n hx hb dX12_best_26 rfl (lv_at hl 0 rfl) ?_
        refine lv_iload_n hx hb dX12_best_27 rfl (lv_at hl 1 rfl) ?_
        refine va_calli (va_runV (As := [.int p0]) (rest := []) ⟨hx, hb, hml, hown, hwd⟩ (c_X12_isReturned l dC dI g c adK adV v F rc H.size p0 hg hI (by omega)) (cwV 1 hwd (gV wk_313 wk_310 wk_311 wk_312 wk_5) rfl rfl rfl (by decide +kernel) ⟨Nat.le_of_ble_eq_true rfl, Nat.le_of_ble_eq_true rfl⟩) ⟨PM.blind, va_recv hK hP (ci := 12) (q0 := 0) rfl rfl, fun U hU hW => ⟨rfl, PM.at hK hE hP hS hU hW⟩⟩ rfl rfl hl.1 rfl (lv_room (Nat.le_of_ble_eq_true rfl)) dX12_best_28 ⟨Nat.le_of_ble_eq_true rfl, Nat.le_of_ble_eq_true rfl⟩) hS (fun q _ h => (freeM hS) q h) (freeM hS) (fun r16892 u t H1 locs ht hvm hw hB hz1 hk1 hS => ?_)
        unfold BM at hB
        rw [ht] at hB
        have hP : va_P (dC, dI) classes (wM g c v F rc) H1 := hB
        have hw_r16892 : 0 ≤ r16892.toInt ∧ r16892.toInt ≤ 1 := hw
        clear hw
        clear hz1
        generalize H1 = H at hP hS ⊢
        refine lv_if_ne (tgt := 48) hx hb dX12_best_31 (by decide) (fun c16893 => ?_) (fun c16893 => ?_)
        · skip
          have t16894 := cv_ne (a := r16892.toInt) rfl (b := 0) (by decide) c16893
          refine lv_bipush (v := (-2)) hx hb dX12_best_48 (by decide) ?_
          have hP9 : va_P (dC, dI) classes (wM g c v F rc) H := hP
          exact W.iret (v := (-2)) hx hb hr (fun t ht hW => ⟨⟨(-2), (v, F, rc), rfl, ⟨hI, rfl, (fun _ _ => rfl), hF, trivial⟩, (by show va_P _ _ _ t.heap; rw [ht]; exact hP9)⟩, hS.F ht⟩) hS.2.2 dX12_best_50
        · skip
          have t16895 := cv_eq (a := r16892.toInt) rfl (b := 0) (by decide) c16893
          refine lv_aload_n hx hb dX12_best_34 rfl (lv_at hl 0 rfl) ?_
          refine va_get (D := (dC, dI)) (ci := 12) (v := .ref (g 9)) (C := RX12) (T := TX12) (N := 63) hx hb hwd inA_X12 hown hK hP 0 rfl rfl 12 (by decide) (hwd _ wk_190) (fun _ h9 => h9) rfl dX12_best_35 ?_
          refine lv_bipush (v := 10) hx hb dX12_best_38 (by decide) ?_
          refine lv_iload_n hx hb dX12_best_40 rfl (lv_at hl 1 rfl) ?_
          refine lv_imul hx hb dX12_best_41 ?_
          refine lv_topi (fun z16896 e16897 => ?_)
          try (have t16898 := tmul e16897 (a := 10) (by decide) (b := p0.toInt) rfl (by omega))
          refine lv_iload_n hx hb dX12_best_42 rfl (lv_at hl 2 rfl) ?_
          refine lv_iadd hx hb dX12_best_43 ?_
          refine lv_topi (fun z16899 e16900 => ?_)
          try (have t16901 := tadd e16900 (a := z16896.toInt) rfl (b := p1.toInt) rfl (by omega))
          refine va_iald hx hb hK hP 9 8 rfl rfl (i := z16899) (vin (a := z16899.toInt) rfl (by omega)) dX12_best_44 ?_
          refine lv_topi (fun z16902 e16903 => ?_)
          refine lv_if_ne (tgt := 51) hx hb dX12_best_45 (by decide) (fun c16904 => ?_) (fun c16904 => ?_)
          · skip
            have t16905 := cv_ne (a := z16902.toInt) rfl (b := 0) (by decide) c16904
            refine lv_iconst (v := 0) hx hb dX12_best_51 (by decide) ?_
            refine lv_istore_n (lv' := [(3, .int 0), (0, .ref (g 0)), (1, .int p0), (2, .int p1)]) hx hb dX12_best_52 rfl hl (by decide) rfl (fun ls hl => ?_)
            refine lv_iconst (v := 0) hx hb dX12_best_53 (by decide) ?_
            refine lv_istore (lv' := [(4, .int 0), (3, .int 0), (0, .ref (g 0)), (1, .int p0), (2, .int p1)]) hx hb dX12_best_54 hl (by decide) rfl (fun ls hl => ?_)
            refine lv_iconst (v := 0) hx hb dX12_best_56 (by decide) ?_
            refine lv_istore (lv' := [(5, .int 0), (4, .int 0), (3, .int 0), (0, .ref (g 0)), (1, .int p0), (2, .int p1)]) hx hb dX12_best_57 hl (by decide) rfl (fun ls hl => ?_)
            have lp16906 : ∀ (n : Nat) (x5_lp16906 : Int32) (x4_lp16906 : Int32) (x3_lp16906 : Int32) (v_lp16906 : Nat → Int32) (F_lp16906 : Nat → Nat → Int32) (H : Heap) (locs : List Loc) (ls : Array Slot), (0 ≤ x5_lp16906.toInt) → (0 ≤ x3_lp16906.toInt) → (x3_lp16906.toInt ≤ 8) → (2147483648 - x5_lp16906.toInt ≤ (n : Int)) → (∀ k, k ∉ ([] : List Nat) → v_lp16906 k = v k) → IM v_lp16906 F_lp16906 → (∀ k, k ∉ ([30, 31, 42, 43] : List Nat) → F_lp16906 k = F k) → va_P (dC, dI) classes (wM g c v_lp16906 F_lp16906 rc) H → va_S (AM g s.heap.size) s.heap H locs → lv_has ls 12 [(5, .int x5_lp16906), (4, .int x4_lp16906), (3, .int x3_lp16906), (0, .ref (g 0)), (1, .int p0), (2, .int p1)] → W p l e (headSpec (Cond.code yX12_best cX12_best 12 (some .int) :: wA) ({ frames := 8, cells := 0, slots := 0, locals := 320 })).room s m ([.ref (g 0), .int p0, .int p1] : List Value).toArray below meth c0 H locs 0 0 (MQ below (va_Qi (fun (r : Int32) (u : StM) => IM u.1 u.2.1 ∧ u.2.2 = rc ∧ (∀ k, k ∉ ([57, 58] : List Nat) → u.1 k = v k) ∧ (∀ k, k ∉ ([30, 31, 42, 43] : List Nat) → u.2.1 k = F k) ∧ True) (BM dC dI g c) (AM g s.heap.size)) ([.ref (g 0), .int p0, .int p1] : List Value).toArray s 0 0 (AM g s.heap.size)) (F0 m 59 ls []) := by
              intro n
              induction n with
              | zero =>
                intro x5_lp16906 x4_lp16906 x3_lp16906 v_lp16906 F_lp16906 H locs ls t16907 t16908 t16909 hm hf_lp16906 hI hF hP hS hl
                exfalso
                have := i32_rng x5_lp16906
                have := i32_rng x4_lp16906
                have := i32_rng x3_lp16906
                have hI1 := hI.1
                omega
              | succ n ih_lp16906 =>
                intro x5_lp16906 x4_lp16906 x3_lp16906 v_lp16906 F_lp16906 H locs ls t16907 t16908 t16909 hm hf_lp16906 hI hF hP hS hl
                have rx5_lp16906 := i32_rng x5_lp16906
                have rx4_lp16906 := i32_rng x4_lp16906
                have rx3_lp16906 := i32_rng x3_lp16906
                refine lv_iload hx hb dX12_best_59 (lv_at hl 0 rfl) ?_
                refine lv_aload_n hx hb dX12_best_61 rfl (lv_at hl 3 rfl) ?_
                refine va_get (D := (dC, dI)) (ci := 12) (v := .int (v_lp16906 14)) (C := RX12) (T := TX12) (N := 63) hx hb hwd inA_X12 hown hK hP 0 rfl rfl 14 (by decide) (hwd _ wk_318) (fun _ h9 => h9) rfl dX12_best_62 ?_
                refine my_top (v := v 14) (hf_lp16906 14 (by decide)) ?_
                have t16910 : 0 ≤ (v 14).toInt ∧ (v 14).toInt ≤ 100 := by have h9 := hI.1 14 _ _ rfl; rw [show v_lp16906 14 = v 14 from hf_lp16906 14 (by decide)] at h9; exact h9
                refine lv_icmp_ge (tgt := 154) hx hb dX12_best_65 (by decide) (fun c16911 => ?_) (fun c16911 => ?_)
                · skip
                  have t16912 := cv_le (a := (v 14).toInt) rfl (b := x5_lp16906.toInt) rfl c16911
                  refine lv_aload_n hx hb dX12_best_154 rfl (lv_at hl 3 rfl) ?_
                  refine va_get (D := (dC, dI)) (ci := 12) (v := .ref (g 9)) (C := RX12) (T := TX12) (N := 63) hx hb hwd inA_X12 hown hK hP 0 rfl rfl 12 (by decide) (hwd _ wk_190) (fun _ h9 => h9) rfl dX12_best_155 ?_
                  refine lv_bipush (v := 10) hx hb dX12_best_158 (by decide) ?_
                  refine lv_iload_n hx hb dX12_best_160 rfl (lv_at hl 4 rfl) ?_
                  refine lv_imul hx hb dX12_best_161 ?_
                  refine lv_topi (fun z16913 e16914 => ?_)
                  try (have t16915 := tmul e16914 (a := 10) (by decide) (b := p0.toInt) rfl (by omega))
                  refine lv_iload_n hx hb dX12_best_162 rfl (lv_at hl 5 rfl) ?_
                  refine lv_iadd hx hb dX12_best_163 ?_
                  refine lv_topi (fun z16916 e16917 => ?_)
                  try (have t16918 := tadd e16917 (a := z16913.toInt) rfl (b := p1.toInt) rfl (by omega))
                  refine va_iald hx hb hK hP 9 8 rfl rfl (i := z16916) (vin (a := z16916.toInt) rfl (by omega)) dX12_best_164 ?_
                  refine lv_topi (fun z16919 e16920 => ?_)
                  have e16920 : z16919 = F 9 (z16916 : Int32).toNatClampNeg := e16920.trans (congrFun (hF 9 (by decide)) _)
                  refine lv_iload_n hx hb dX12_best_165 rfl (lv_at hl 2 rfl) ?_
                  refine lv_icmp_ge (tgt := 183) hx hb dX12_best_166 (by decide) (fun c16921 => ?_) (fun c16921 => ?_)
                  · skip
                    have t16922 := cv_le (a := x3_lp16906.toInt) rfl (b := z16919.toInt) rfl c16921
                    refine lv_iload_n hx hb dX12_best_183 rfl (lv_at hl 2 rfl) ?_
                    refine lv_istore (lv' := [(5, .int x3_lp16906), (4, .int x4_lp16906), (3, .int x3_lp16906), (0, .ref (g 0)), (1, .int p0), (2, .int p1)]) hx hb dX12_best_184 hl (by decide) rfl (fun ls hl => ?_)
                    refine lv_aload_n hx hb dX12_best_186 rfl (lv_at hl 3 rfl) ?_
                    refine lv_iload_n hx hb dX12_best_187 rfl (lv_at hl 4 rfl) ?_
                    have t16923 : 0 ≤ (v 14).toInt ∧ (v 14).toInt ≤ 100 := by have h9 := hI.1 14 _ _ rfl; rw [show v_lp16906 14 = v 14 from hf_lp16906 14 (by decide)] at h9; exact h9
                    refine va_callv (va_runV (As := [.int p0]) (rest := []) ⟨hx, hb, hml, hown, hwd⟩ (c_X12_board l dC dI g c adK adV v_lp16906 F_lp16906 rc H.size p0 hg hI ) (cwV 1 hwd (gV wk_1205 wk_1202 wk_1203 wk_1204 wk_5) rfl rfl rfl (by decide +kernel) ⟨Nat.le_of_ble_eq_true rfl, Nat.le_of_ble_eq_true rfl⟩) ⟨PM.blind, va_recv hK hP (ci := 12) (q0 := 0) rfl rfl, fun U hU hW => ⟨rfl, PM.at hK hE hP hS hU hW⟩⟩ rfl rfl hl.1 rfl (lv_room (Nat.le_of_ble_eq_true rfl)) dX12_best_188 ⟨Nat.le_of_ble_eq_true rfl, Nat.le_of_ble_eq_true rfl⟩) hS (fun q _ h => (freeM hS) q h) (freeM hS) (fun u t H1 locs ht hvm hw hB hz1 hk1 hS => ?_)
                    unfold BM at hB
                    rw [ht] at hB
                    obtain ⟨v16925, F16926, rc9⟩ := u
                    obtain ⟨hI, hrc, hf16927, hG16928, hw⟩ := hw
                    dsimp only at hI hrc hB hf16927 hG16928 hw
                    have hF := frCF (by decide) hG16928 hF
                    rw [hrc] at hB
                    have hP : va_P (dC, dI) classes (wM g c v16925 F16926 rc) H1 := hB
                    replace hw : ∀ j : Nat, (j : Int) < (v_lp16906 14).toInt → (F16926 42 j).toInt ≠ 0 → (F_lp16906 13 j).toInt = p0.toInt := hw
                    rw [show v_lp16906 14 = v 14 from hf_lp16906 14 (by decide)] at hw
                    have hw_r16924 := hw
                    clear hw
                    clear hz1
                    generalize H1 = H at hP hS ⊢
                    refine lv_iconst (v := (-1)) hx hb dX12_best_191 (by decide) ?_
                    refine lv_istore (lv' := [(6, .int (-1)), (5, .int x3_lp16906), (4, .int x4_lp16906), (3, .int x3_lp16906), (0, .ref (g 0)), (1, .int p0), (2, .int p1)]) hx hb dX12_best_192 hl (by decide) rfl (fun ls hl => ?_)
                    refine lv_iconst (v := 0) hx hb dX12_best_194 (by decide) ?_
                    refine lv_istore (lv' := [(7, .int 0), (6, .int (-1)), (5, .int x3_lp16906), (4, .int x4_lp16906), (3, .int x3_lp16906), (0, .ref (g 0)), (1, .int p0), (2, .int p1)]) hx hb dX12_best_195 hl (by decide) rfl (fun ls hl => ?_)
                    refine lv_iconst (v := 0) hx hb dX12_best_197 (by decide) ?_
                    refine lv_istore (lv' := [(8, .int 0), (7, .int 0), (6, .int (-1)), (5, .int x3_lp16906), (4, .int x4_lp16906), (3, .int x3_lp16906), (0, .ref (g 0)), (1, .int p0), (2, .int p1)]) hx hb dX12_best_198 hl (by decide) rfl (fun ls hl => ?_)
                    have lp16929 : ∀ (n : Nat) (x8_lp16929 : Int32) (x7_lp16929 : Int32) (x6_lp16929 : Int32) (v_lp16929 : Nat → Int32) (F_lp16929 : Nat → Nat → Int32) (H : Heap) (locs : List Loc) (ls : Array Slot), (0 ≤ x8_lp16929.toInt) → (2147483648 - x8_lp16929.toInt ≤ (n : Int)) → (∀ k, k ∉ ([] : List Nat) → v_lp16929 k = v16925 k) → IM v_lp16929 F_lp16929 → (∀ k, k ∉ ([30, 31, 42, 43] : List Nat) → F_lp16929 k = F k) → va_P (dC, dI) classes (wM g c v_lp16929 F_lp16929 rc) H → va_S (AM g s.heap.size) s.heap H locs → lv_has ls 12 [(8, .int x8_lp16929), (7, .int x7_lp16929), (6, .int x6_lp16929), (5, .int x3_lp16906), (4, .int x4_lp16906), (3, .int x3_lp16906), (0, .ref (g 0)), (1, .int p0), (2, .int p1)] → W p l e (headSpec (Cond.code yX12_best cX12_best 12 (some .int) :: wA) ({ frames := 8, cells := 0, slots := 0, locals := 320 })).room s m ([.ref (g 0), .int p0, .int p1] : List Value).toArray below meth c0 H locs 0 0 (MQ below (va_Qi (fun (r : Int32) (u : StM) => IM u.1 u.2.1 ∧ u.2.2 = rc ∧ (∀ k, k ∉ ([57, 58] : List Nat) → u.1 k = v k) ∧ (∀ k, k ∉ ([30, 31, 42, 43] : List Nat) → u.2.1 k = F k) ∧ True) (BM dC dI g c) (AM g s.heap.size)) ([.ref (g 0), .int p0, .int p1] : List Value).toArray s 0 0 (AM g s.heap.size)) (F0 m 200 ls []) := by
                      intro n
                      induction n with
                      | zero =>
                        intro x8_lp16929 x7_lp16929 x6_lp16929 v_lp16929 F_lp16929 H locs ls t16930 hm hf_lp16929 hI hF hP hS hl
                        exfalso
                        have := i32_rng x8_lp16929
                        have := i32_rng x7_lp16929
                        have := i32_rng x6_lp16929
                        have hI1 := hI.1
                        omega
                      | succ n ih_lp16929 =>
                        intro x8_lp16929 x7_lp16929 x6_lp16929 v_lp16929 F_lp16929 H locs ls t16930 hm hf_lp16929 hI hF hP hS hl
                        have rx8_lp16929 := i32_rng x8_lp16929
                        have rx7_lp16929 := i32_rng x7_lp16929
                        have rx6_lp16929 := i32_rng x6_lp16929
                        refine lv_iload hx hb dX12_best_200 (lv_at hl 0 rfl) ?_
                        refine lv_iconst (v := 1) hx hb dX12_best_202 (by decide) ?_
                        refine lv_iload_n hx hb dX12_best_203 rfl (lv_at hl 5 rfl) ?_
                        refine lv_ishl hx hb dX12_best_204 ?_
                        refine lv_topi (fun z16931 e16932 => ?_)
                        have rr_z16931 := i32_rng z16931
                        refine lv_icmp_ge (tgt := 367) hx hb dX12_best_205 (by decide) (fun c16934 => ?_) (fun c16934 => ?_)
                        · skip
                          have t16935 := cv_le (a := z16931.toInt) rfl (b := x8_lp16929.toInt) rfl c16934
                          refine lv_aload_n hx hb dX12_best_367 rfl (lv_at hl 6 rfl) ?_
                          refine lv_iconst (v := 1) hx hb dX12_best_368 (by decide) ?_
                          refine va_put (D := (dC, dI)) (ci := 12) (v := .int 1) (ty := .boolean) (C := RX12) (T := TX12) (N := 63) (fs := fsM_0 g v_lp16929 rc) hx hb hwd inA_X12 tyX12 tyX12_ok nmX12 hown hK hP (DM hg) hS 0 rfl rfl 57 (by decide) (hwd _ wk_1304) (fun _ h9 => h9) rfl (by decide +kernel) rfl rfl (Nat.le_of_ble_eq_true rfl) dX12_best_369 (fun H locs hP _ hS => ?_)
                          have hP := va_P_eq (pM_57 g c _ _ _ _) hP
                          have hI := IM.put0 hI 57 1 rfl
                          refine lv_aload_n hx hb dX12_best_372 rfl (lv_at hl 6 rfl) ?_
                          refine lv_iload hx hb dX12_best_373 (lv_at hl 1 rfl) ?_
                          refine va_put (D := (dC, dI)) (ci := 12) (v := .int x7_lp16929) (ty := .int) (C := RX12) (T := TX12) (N := 63) (fs := fsM_0 g (va_up v_lp16929 57 1) rc) hx hb hwd inA_X12 tyX12 tyX12_ok nmX12 hown hK hP (DM hg) hS 0 rfl rfl 58 (by decide) (hwd _ wk_1305) (fun _ h9 => h9) rfl (by decide +kernel) rfl rfl (Nat.le_of_ble_eq_true rfl) dX12_best_375 (fun H locs hP _ hS => ?_)
                          have hP := va_P_eq (pM_58 g c _ _ _ _) hP
                          have hI := IM.put0 hI 58 x7_lp16929 rfl
                          refine lv_iload hx hb dX12_best_378 (lv_at hl 2 rfl) ?_
                          have hP9 : va_P (dC, dI) classes (wM g c (va_up (va_up v_lp16929 57 1) 58 x7_lp16929) F_lp16929 rc) H := hP
                          exact W.iret (v := x6_lp16929) hx hb hr (fun t ht hW => ⟨⟨x6_lp16929, ((va_up (va_up v_lp16929 57 1) 58 x7_lp16929), F_lp16929, rc), rfl, ⟨hI, rfl, (frU (by decide) (frU (by decide) (frC (by decide) hf_lp16929 (frC (by decide) hf16927 (frC (by decide) hf_lp16906 (fun _ _ => rfl)))))), hF, trivial⟩, (by show va_P _ _ _ t.heap; rw [ht]; exact hP9)⟩, hS.F ht⟩) hS.2.2 dX12_best_380
                        · skip
                          have t16936 := cv_nle (a := z16931.toInt) rfl (b := x8_lp16929.toInt) rfl c16934
                          refine lv_iload hx hb dX12_best_208 (lv_at hl 0 rfl) ?_
                          refine va_calli (va_runS (As := [.int x8_lp16929]) (rest := []) ⟨hx, hb, hml, hown, hwd⟩ (c_X12_bitsOf l dC dI g c adK adV v_lp16929 F_lp16929 rc H.size x8_lp16929 hg hI ) (va_cwS 1 hwd (gT wk_1308 wk_1306 wk_1307 wk_5) rfl rfl rfl (by decide +kernel) ⟨Nat.le_of_ble_eq_true rfl, Nat.le_of_ble_eq_true rfl⟩) ⟨PM.blind, fun U hU hW => ⟨rfl, PM.at hK hE hP hS hU hW⟩⟩ rfl rfl hl.1 rfl (lv_room (Nat.le_of_ble_eq_true rfl)) dX12_best_210 ⟨Nat.le_of_ble_eq_true rfl, Nat.le_of_ble_eq_true rfl⟩) hS (fun q _ h => (freeM hS) q h) (freeM hS) (fun r16937 u t H1 locs ht hvm hw hB hz1 hk1 hS => ?_)
                          unfold BM at hB
                          rw [ht] at hB
                          have hP : va_P (dC, dI) classes (wM g c v_lp16929 F_lp16929 rc) H1 := hB
                          clear hz1
                          generalize H1 = H at hP hS ⊢
                          have rr_r16937 := i32_rng r16937
                          refine lv_iload hx hb dX12_best_213 (lv_at hl 3 rfl) ?_
                          refine lv_icmp_eq (tgt := 221) hx hb dX12_best_215 (by decide) (fun c16938 => ?_) (fun c16938 => ?_)
                          · skip
                            have t16939 := cv_eq (a := r16937.toInt) rfl (b := x3_lp16906.toInt) rfl c16938
                            refine lv_iconst (v := 0) hx hb dX12_best_221 (by decide) ?_
                            refine lv_istore (lv' := [(9, .int 0), (8, .int x8_lp16929), (7, .int x7_lp16929), (6, .int x6_lp16929), (5, .int x3_lp16906), (4, .int x4_lp16906), (3, .int x3_lp16906), (0, .ref (g 0)), (1, .int p0), (2, .int p1)]) hx hb dX12_best_222 hl (by decide) rfl (fun ls hl => ?_)
                            have lp16940 : ∀ (n : Nat) (x9_lp16940 : Int32) (v_lp16940 : Nat → Int32) (F_lp16940 : Nat → Nat → Int32) (H : Heap) (locs : List Loc) (ls : Array Slot), (0 ≤ x9_lp16940.toInt) → (2147483648 - x9_lp16940.toInt ≤ (n : Int)) → (∀ k, k ∉ ([] : List Nat) → v_lp16940 k = v_lp16929 k) → IM v_lp16940 F_lp16940 → (∀ k, k ∉ ([30, 31, 42, 43] : List Nat) → F_lp16940 k = F k) → va_P (dC, dI) classes (wM g c v_lp16940 F_lp16940 rc) H → va_S (AM g s.heap.size) s.heap H locs → lv_has ls 12 [(9, .int x9_lp16940), (8, .int x8_lp16929), (7, .int x7_lp16929), (6, .int x6_lp16929), (5, .int x3_lp16906), (4, .int x4_lp16906), (3, .int x3_lp16906), (0, .ref (g 0)), (1, .int p0), (2, .int p1)] → W p l e (headSpec (Cond.code yX12_best cX12_best 12 (some .int) :: wA) ({ frames := 8, cells := 0, slots := 0, locals := 320 })).room s m ([.ref (g 0), .int p0, .int p1] : List Value).toArray below meth c0 H locs 0 0 (MQ below (va_Qi (fun (r : Int32) (u : StM) => IM u.1 u.2.1 ∧ u.2.2 = rc ∧ (∀ k, k ∉ ([57, 58] : List Nat) → u.1 k = v k) ∧ (∀ k, k ∉ ([30, 31, 42, 43] : List Nat) → u.2.1 k = F k) ∧ True) (BM dC dI g c) (AM g s.heap.size)) ([.ref (g 0), .int p0, .int p1] : List Value).toArray s 0 0 (AM g s.heap.size)) (F0 m 224 ls []) := by
                              intro n
                              induction n with
                              | zero =>
                                intro x9_lp16940 v_lp16940 F_lp16940 H locs ls t16941 hm hf_lp16940 hI hF hP hS hl
                                exfalso
                                have := i32_rng x9_lp16940
                                have hI1 := hI.1
                                omega
                              | succ n ih_lp16940 =>
                                intro x9_lp16940 v_lp16940 F_lp16940 H locs ls t16941 hm hf_lp16940 hI hF hP hS hl
                                have rx9_lp16940 := i32_rng x9_lp16940
                                refine lv_iload hx hb dX12_best_224 (lv_at hl 0 rfl) ?_
                                refine lv_iload_n hx hb dX12_best_226 rfl (lv_at hl 6 rfl) ?_
                                refine lv_icmp_ge (tgt := 264) hx hb dX12_best_227 (by decide) (fun c16942 => ?_) (fun c16942 => ?_)
                                · skip
                                  have t16943 := cv_le (a := x3_lp16906.toInt) rfl (b := x9_lp16940.toInt) rfl c16942
                                  refine lv_aload_n hx hb dX12_best_264 rfl (lv_at hl 7 rfl) ?_
                                  refine lv_iload_n hx hb dX12_best_265 rfl (lv_at hl 8 rfl) ?_
                                  refine lv_aload_n hx hb dX12_best_266 rfl (lv_at hl 7 rfl) ?_
                                  refine va_get (D := (dC, dI)) (ci := 12) (v := .int (v_lp16940 1)) (C := RX12) (T := TX12) (N := 63) hx hb hwd inA_X12 hown hK hP 0 rfl rfl 1 (by decide) (hwd _ wk_332) (fun _ h9 => h9) rfl dX12_best_267 ?_
                                  refine my_top (v := v 1) ((hf_lp16940 1 (by decide)).trans ((hf_lp16929 1 (by decide)).trans ((hf16927 1 (by decide)).trans (hf_lp16906 1 (by decide))))) ?_
                                  have t16944 : 0 ≤ (v 1).toInt ∧ (v 1).toInt ≤ 9999 := by have h9 := hI.1 1 _ _ rfl; rw [show v_lp16940 1 = v 1 from (hf_lp16940 1 (by decide)).trans ((hf_lp16929 1 (by decide)).trans ((hf16927 1 (by decide)).trans (hf_lp16906 1 (by decide))))] at h9; exact h9
                                  refine lv_aload_n hx hb dX12_best_270 rfl (lv_at hl 7 rfl) ?_
                                  refine va_get (D := (dC, dI)) (ci := 12) (v := .int (v_lp16940 1)) (C := RX12) (T := TX12) (N := 63) hx hb hwd inA_X12 hown hK hP 0 rfl rfl 1 (by decide) (hwd _ wk_332) (fun _ h9 => h9) rfl dX12_best_271 ?_
                                  refine my_top (v := v 1) ((hf_lp16940 1 (by decide)).trans ((hf_lp16929 1 (by decide)).trans ((hf16927 1 (by decide)).trans (hf_lp16906 1 (by decide))))) ?_
                                  have t16945 : 0 ≤ (v 1).toInt ∧ (v 1).toInt ≤ 9999 := by have h9 := hI.1 1 _ _ rfl; rw [show v_lp16940 1 = v 1 from (hf_lp16940 1 (by decide)).trans ((hf_lp16929 1 (by decide)).trans ((hf16927 1 (by decide)).trans (hf_lp16906 1 (by decide))))] at h9; exact h9
                                  refine va_calli (va_runV (As := [.int p0, .int (v 1), .int (v 1)]) (rest := []) ⟨hx, hb, hml, hown, hwd⟩ (c_X12_costOfAll l dC dI g c adK adV v_lp16940 F_lp16940 rc H.size p0 (v 1) (v 1) hg hI (by omega) (JL.to hL (show v_lp16940 31 = v 31 from (hf_lp16940 31 (by decide)).trans ((hf_lp16929 31 (by decide)).trans ((hf16927 31 (by decide)).trans (hf_lp16906 31 (by decide))))) (hF 28 (by decide)) (hF 29 (by decide)) (hF 27 (by decide)))) (cwV 3 hwd (gV wk_1247 wk_1244 wk_1245 wk_1246 wk_5) rfl rfl rfl (by decide +kernel) ⟨Nat.le_of_ble_eq_true rfl, Nat.le_of_ble_eq_true rfl⟩) ⟨PM.blind, va_recv hK hP (ci := 12) (q0 := 0) rfl rfl, fun U hU hW => ⟨rfl, PM.at hK hE hP hS hU hW⟩⟩ rfl rfl hl.1 rfl (lv_room (Nat.le_of_ble_eq_true rfl)) dX12_best_274 ⟨Nat.le_of_ble_eq_true rfl, Nat.le_of_ble_eq_true rfl⟩) hS (fun q _ h => (freeM hS) q h) (freeM hS) (fun r16946 u t H1 locs ht hvm hw hB hz1 hk1 hS => ?_)
                                  unfold BM at hB
                                  rw [ht] at hB
                                  obtain ⟨v16947, F16948, rc9⟩ := u
                                  obtain ⟨hI, hrc, hf16949, hG16950, hw⟩ := hw
                                  dsimp only at hI hrc hB hf16949 hG16950 hw
                                  have hF := frCF (by decide) hG16950 hF
                                  rw [hrc] at hB
                                  have hP : va_P (dC, dI) classes (wM g c v16947 F16948 rc) H1 := hB
                                  clear hz1
                                  generalize H1 = H at hP hS ⊢
                                  have rr_r16946 := i32_rng r16946
                                  refine lv_istore (lv' := [(9, .int r16946), (8, .int x8_lp16929), (7, .int x7_lp16929), (6, .int x6_lp16929), (5, .int x3_lp16906), (4, .int x4_lp16906), (3, .int x3_lp16906), (0, .ref (g 0)), (1, .int p0), (2, .int p1)]) hx hb dX12_best_277 hl (by decide) rfl (fun ls hl => ?_)
                                  refine lv_iload hx hb dX12_best_279 (lv_at hl 3 rfl) ?_
                                  refine lv_if_lt (tgt := 353) hx hb dX12_best_281 (by decide) (fun c16951 => ?_) (fun c16951 => ?_)
                                  · skip
                                    have t16952 := cv_lt (a := x6_lp16929.toInt) rfl (b := 0) (by decide) c16951
                                    refine lv_iload hx hb dX12_best_353 (lv_at hl 1 rfl) ?_
                                    refine lv_istore (lv' := [(6, .int x8_lp16929), (9, .int r16946), (8, .int x8_lp16929), (7, .int x7_lp16929), (5, .int x3_lp16906), (4, .int x4_lp16906), (3, .int x3_lp16906), (0, .ref (g 0)), (1, .int p0), (2, .int p1)]) hx hb dX12_best_355 hl (by decide) rfl (fun ls hl => ?_)
                                    refine lv_iload hx hb dX12_best_357 (lv_at hl 1 rfl) ?_
                                    refine lv_istore (lv' := [(7, .int r16946), (6, .int x8_lp16929), (9, .int r16946), (8, .int x8_lp16929), (5, .int x3_lp16906), (4, .int x4_lp16906), (3, .int x3_lp16906), (0, .ref (g 0)), (1, .int p0), (2, .int p1)]) hx hb dX12_best_359 hl (by decide) rfl (fun ls hl => ?_)
                                    obtain ⟨z16953, e16954⟩ : ∃ y : Int32, y = x8_lp16929 + 1 := ⟨_, rfl⟩
                                    try (have t16955 := tadd e16954 rfl (b := 1) (by decide) (by omega))
                                    refine lv_iinc (v := z16953) (lv' := [(8, .int z16953), (7, .int r16946), (6, .int x8_lp16929), (9, .int r16946), (5, .int x3_lp16906), (4, .int x4_lp16906), (3, .int x3_lp16906), (0, .ref (g 0)), (1, .int p0), (2, .int p1)]) hx hb dX12_best_361 hl (k := 3) rfl (by rw [e16954]; rfl) (by decide) rfl (fun ls hl => ?_)
                                    refine lv_goto (tgt := 200) hx hb dX12_best_364 (by decide) ?_
                                    exact ih_lp16929 z16953 r16946 x8_lp16929 v16947 F16948 _ _ _ (by omega) (by omega) (frC (by decide) hf16949 (frC (by decide) hf_lp16940 hf_lp16929)) hI hF hP hS (lv_sub hl [0, 1, 2, 4, 5, 6, 7, 8, 9] rfl)
                                  · skip
                                    have t16956 := cv_nlt (a := x6_lp16929.toInt) rfl (b := 0) (by decide) c16951
                                    refine lv_iload hx hb dX12_best_284 (lv_at hl 1 rfl) ?_
                                    refine lv_iload hx hb dX12_best_286 (lv_at hl 5 rfl) ?_
                                    refine lv_iconst (v := (-1)) hx hb dX12_best_288 (by decide) ?_
                                    refine lv_ixor hx hb dX12_best_289 ?_
                                    refine lv_topi (fun z16957 e16958 => ?_)
                                    refine lv_iand hx hb dX12_best_290 ?_
                                    refine lv_topi (fun z16960 e16961 => ?_)
                                    refine va_calli (va_runS (As := [.int z16960]) (rest := []) ⟨hx, hb, hml, hown, hwd⟩ (c_X12_bitsOf l dC dI g c adK adV v16947 F16948 rc H.size z16960 hg hI ) (va_cwS 1 hwd (gT wk_1308 wk_1306 wk_1307 wk_5) rfl rfl rfl (by decide +kernel) ⟨Nat.le_of_ble_eq_true rfl, Nat.le_of_ble_eq_true rfl⟩) ⟨PM.blind, fun U hU hW => ⟨rfl, PM.at hK hE hP hS hU hW⟩⟩ rfl rfl hl.1 rfl (lv_room (Nat.le_of_ble_eq_true rfl)) dX12_best_291 ⟨Nat.le_of_ble_eq_true rfl, Nat.le_of_ble_eq_true rfl⟩) hS (fun q _ h => (freeM hS) q h) (freeM hS) (fun r16963 u t H1 locs ht hvm hw hB hz1 hk1 hS => ?_)
                                    unfold BM at hB
                                    rw [ht] at hB
                                    have hP : va_P (dC, dI) classes (wM g c v16947 F16948 rc) H1 := hB
                                    clear hz1
                                    generalize H1 = H at hP hS ⊢
                                    have rr_r16963 := i32_rng r16963
                                    refine lv_iload hx hb dX12_best_294 (lv_at hl 3 rfl) ?_
                                    refine lv_iload hx hb dX12_best_296 (lv_at hl 5 rfl) ?_
                                    refine lv_iconst (v := (-1)) hx hb dX12_best_298 (by decide) ?_
                                    refine lv_ixor hx hb dX12_best_299 ?_
                                    refine lv_topi (fun z16964 e16965 => ?_)
                                    refine lv_iand hx hb dX12_best_300 ?_
                                    refine lv_topi (fun z16967 e16968 => ?_)
                                    refine va_calli (va_runS (As := [.int z16967]) (rest := [.int r16963]) ⟨hx, hb, hml, hown, hwd⟩ (c_X12_bitsOf l dC dI g c adK adV v16947 F16948 rc H.size z16967 hg hI ) (va_cwS 1 hwd (gT wk_1308 wk_1306 wk_1307 wk_5) rfl rfl rfl (by decide +kernel) ⟨Nat.le_of_ble_eq_true rfl, Nat.le_of_ble_eq_true rfl⟩) ⟨PM.blind, fun U hU hW => ⟨rfl, PM.at hK hE hP hS hU hW⟩⟩ rfl rfl hl.1 rfl (lv_room (Nat.le_of_ble_eq_true rfl)) dX12_best_301 ⟨Nat.le_of_ble_eq_true rfl, Nat.le_of_ble_eq_true rfl⟩) hS (fun q _ h => (freeM hS) q h) (freeM hS) (fun r16970 u t H1 locs ht hvm hw hB hz1 hk1 hS => ?_)
                                    unfold BM at hB
                                    rw [ht] at hB
                                    have hP : va_P (dC, dI) classes (wM g c v16947 F16948 rc) H1 := hB
                                    clear hz1
                                    generalize H1 = H at hP hS ⊢
                                    have rr_r16970 := i32_rng r16970
                                    refine lv_isub hx hb dX12_best_304 ?_
                                    refine lv_topi (fun z16971 e16972 => ?_)
                                    try (have t16973 := tsub e16972 (a := r16963.toInt) rfl (b := r16970.toInt) rfl (by omega))
                                    refine lv_istore (lv' := [(10, .int z16971), (9, .int r16946), (8, .int x8_lp16929), (7, .int x7_lp16929), (6, .int x6_lp16929), (5, .int x3_lp16906), (4, .int x4_lp16906), (3, .int x3_lp16906), (0, .ref (g 0)), (1, .int p0), (2, .int p1)]) hx hb dX12_best_305 hl (by decide) rfl (fun ls hl => ?_)
                                    refine lv_iload hx hb dX12_best_307 (lv_at hl 2 rfl) ?_
                                    refine lv_iload hx hb dX12_best_309 (lv_at hl 4 rfl) ?_
                                    refine lv_ixor hx hb dX12_best_311 ?_
                                    refine lv_topi (fun z16974 e16975 => ?_)
                                    refine lv_istore (lv' := [(11, .int z16974), (10, .int z16971), (9, .int r16946), (8, .int x8_lp16929), (7, .int x7_lp16929), (6, .int x6_lp16929), (5, .int x3_lp16906), (4, .int x4_lp16906), (3, .int x3_lp16906), (0, .ref (g 0)), (1, .int p0), (2, .int p1)]) hx hb dX12_best_312 hl (by decide) rfl (fun ls hl => ?_)
                                    refine lv_iload hx hb dX12_best_314 (lv_at hl 2 rfl) ?_
                                    refine lv_iload hx hb dX12_best_316 (lv_at hl 4 rfl) ?_
                                    refine lv_icmp_gt (tgt := 361) hx hb dX12_best_318 (by decide) (fun c16977 => ?_) (fun c16977 => ?_)
                                    · skip
                                      have t16978 := cv_lt (a := x7_lp16929.toInt) rfl (b := r16946.toInt) rfl c16977
                                      obtain ⟨z16979, e16980⟩ : ∃ y : Int32, y = x8_lp16929 + 1 := ⟨_, rfl⟩
                                      try (have t16981 := tadd e16980 rfl (b := 1) (by decide) (by omega))
                                      refine lv_iinc (v := z16979) (lv' := [(8, .int z16979), (11, .int z16974), (10, .int z16971), (9, .int r16946), (7, .int x7_lp16929), (6, .int x6_lp16929), (5, .int x3_lp16906), (4, .int x4_lp16906), (3, .int x3_lp16906), (0, .ref (g 0)), (1, .int p0), (2, .int p1)]) hx hb dX12_best_361 hl (k := 3) rfl (by rw [e16980]; rfl) (by decide) rfl (fun ls hl => ?_)
                                      refine lv_goto (tgt := 200) hx hb dX12_best_364 (by decide) ?_
                                      exact ih_lp16929 z16979 x7_lp16929 x6_lp16929 v16947 F16948 _ _ _ (by omega) (by omega) (frC (by decide) hf16949 (frC (by decide) hf_lp16940 hf_lp16929)) hI hF hP hS (lv_sub hl [0, 4, 5, 6, 7, 8, 9, 10, 11] rfl)
                                    · skip
                                      have t16982 := cv_nlt (a := x7_lp16929.toInt) rfl (b := r16946.toInt) rfl c16977
                                      refine lv_iload hx hb dX12_best_321 (lv_at hl 2 rfl) ?_
                                      refine lv_iload hx hb dX12_best_323 (lv_at hl 4 rfl) ?_
                                      refine lv_icmp_ne (tgt := 353) hx hb dX12_best_325 (by decide) (fun c16983 => ?_) (fun c16983 => ?_)
                                      · skip
                                        have t16984 := cv_ne (a := r16946.toInt) rfl (b := x7_lp16929.toInt) rfl c16983
                                        refine lv_iload hx hb dX12_best_353 (lv_at hl 3 rfl) ?_
                                        refine lv_istore (lv' := [(6, .int x8_lp16929), (11, .int z16974), (10, .int z16971), (9, .int r16946), (8, .int x8_lp16929), (7, .int x7_lp16929), (5, .int x3_lp16906), (4, .int x4_lp16906), (3, .int x3_lp16906), (0, .ref (g 0)), (1, .int p0), (2, .int p1)]) hx hb dX12_best_355 hl (by decide) rfl (fun ls hl => ?_)
                                        refine lv_iload hx hb dX12_best_357 (lv_at hl 3 rfl) ?_
                                        refine lv_istore (lv' := [(7, .int r16946), (6, .int x8_lp16929), (11, .int z16974), (10, .int z16971), (9, .int r16946), (8, .int x8_lp16929), (5, .int x3_lp16906), (4, .int x4_lp16906), (3, .int x3_lp16906), (0, .ref (g 0)), (1, .int p0), (2, .int p1)]) hx hb dX12_best_359 hl (by decide) rfl (fun ls hl => ?_)
                                        obtain ⟨z16985, e16986⟩ : ∃ y : Int32, y = x8_lp16929 + 1 := ⟨_, rfl⟩
                                        try (have t16987 := tadd e16986 rfl (b := 1) (by decide) (by omega))
                                        refine lv_iinc (v := z16985) (lv' := [(8, .int z16985), (7, .int r16946), (6, .int x8_lp16929), (11, .int z16974), (10, .int z16971), (9, .int r16946), (5, .int x3_lp16906), (4, .int x4_lp16906), (3, .int x3_lp16906), (0, .ref (g 0)), (1, .int p0), (2, .int p1)]) hx hb dX12_best_361 hl (k := 5) rfl (by rw [e16986]; rfl) (by decide) rfl (fun ls hl => ?_)
                                        refine lv_goto (tgt := 200) hx hb dX12_best_364 (by decide) ?_
                                        exact ih_lp16929 z16985 r16946 x8_lp16929 v16947 F16948 _ _ _ (by omega) (by omega) (frC (by decide) hf16949 (frC (by decide) hf_lp16940 hf_lp16929)) hI hF hP hS (lv_sub hl [0, 1, 2, 6, 7, 8, 9, 10, 11] rfl)
                                      · skip
                                        have t16988 := cv_eq (a := r16946.toInt) rfl (b := x7_lp16929.toInt) rfl c16983
                                        refine lv_iload hx hb dX12_best_328 (lv_at hl 1 rfl) ?_
                                        refine lv_if_gt (tgt := 361) hx hb dX12_best_330 (by decide) (fun c16989 => ?_) (fun c16989 => ?_)
                                        · skip
                                          have t16990 := cv_lt (a := 0) (by decide) (b := z16971.toInt) rfl c16989
                                          obtain ⟨z16991, e16992⟩ : ∃ y : Int32, y = x8_lp16929 + 1 := ⟨_, rfl⟩
                                          try (have t16993 := tadd e16992 rfl (b := 1) (by decide) (by omega))
                                          refine lv_iinc (v := z16991) (lv' := [(8, .int z16991), (11, .int z16974), (10, .int z16971), (9, .int r16946), (7, .int x7_lp16929), (6, .int x6_lp16929), (5, .int x3_lp16906), (4, .int x4_lp16906), (3, .int x3_lp16906), (0, .ref (g 0)), (1, .int p0), (2, .int p1)]) hx hb dX12_best_361 hl (k := 3) rfl (by rw [e16992]; rfl) (by decide) rfl (fun ls hl => ?_)
                                          refine lv_goto (tgt := 200) hx hb dX12_best_364 (by decide) ?_
                                          exact ih_lp16929 z16991 x7_lp16929 x6_lp16929 v16947 F16948 _ _ _ (by omega) (by omega) (frC (by decide) hf16949 (frC (by decide) hf_lp16940 hf_lp16929)) hI hF hP hS (lv_sub hl [0, 4, 5, 6, 7, 8, 9, 10, 11] rfl)
                                        · skip
                                          have t16994 := cv_nlt (a := 0) (by decide) (b := z16971.toInt) rfl c16989
                                          refine lv_iload hx hb dX12_best_333 (lv_at hl 1 rfl) ?_
                                          refine lv_if_ne (tgt := 353) hx hb dX12_best_335 (by decide) (fun c16995 => ?_) (fun c16995 => ?_)
                                          · skip
                                            have t16996 := cv_ne (a := z16971.toInt) rfl (b := 0) (by decide) c16995
                                            refine lv_iload hx hb dX12_best_353 (lv_at hl 3 rfl) ?_
                                            refine lv_istore (lv' := [(6, .int x8_lp16929), (11, .int z16974), (10, .int z16971), (9, .int r16946), (8, .int x8_lp16929), (7, .int x7_lp16929), (5, .int x3_lp16906), (4, .int x4_lp16906), (3, .int x3_lp16906), (0, .ref (g 0)), (1, .int p0), (2, .int p1)]) hx hb dX12_best_355 hl (by decide) rfl (fun ls hl => ?_)
                                            refine lv_iload hx hb dX12_best_357 (lv_at hl 3 rfl) ?_
                                            refine lv_istore (lv' := [(7, .int r16946), (6, .int x8_lp16929), (11, .int z16974), (10, .int z16971), (9, .int r16946), (8, .int x8_lp16929), (5, .int x3_lp16906), (4, .int x4_lp16906), (3, .int x3_lp16906), (0, .ref (g 0)), (1, .int p0), (2, .int p1)]) hx hb dX12_best_359 hl (by decide) rfl (fun ls hl => ?_)
                                            obtain ⟨z16997, e16998⟩ : ∃ y : Int32, y = x8_lp16929 + 1 := ⟨_, rfl⟩
                                            try (have t16999 := tadd e16998 rfl (b := 1) (by decide) (by omega))
                                            refine lv_iinc (v := z16997) (lv' := [(8, .int z16997), (7, .int r16946), (6, .int x8_lp16929), (11, .int z16974), (10, .int z16971), (9, .int r16946), (5, .int x3_lp16906), (4, .int x4_lp16906), (3, .int x3_lp16906), (0, .ref (g 0)), (1, .int p0), (2, .int p1)]) hx hb dX12_best_361 hl (k := 5) rfl (by rw [e16998]; rfl) (by decide) rfl (fun ls hl => ?_)
                                            refine lv_goto (tgt := 200) hx hb dX12_best_364 (by decide) ?_
                                            exact ih_lp16929 z16997 r16946 x8_lp16929 v16947 F16948 _ _ _ (by omega) (by omega) (frC (by decide) hf16949 (frC (by decide) hf_lp16940 hf_lp16929)) hI hF hP hS (lv_sub hl [0, 1, 2, 6, 7, 8, 9, 10, 11] rfl)
                                          · skip
                                            have t17000 := cv_eq (a := z16971.toInt) rfl (b := 0) (by decide) c16995
                                            refine lv_iload hx hb dX12_best_338 (lv_at hl 3 rfl) ?_
                                            refine lv_iload hx hb dX12_best_340 (lv_at hl 0 rfl) ?_
                                            refine lv_iand hx hb dX12_best_342 ?_
                                            refine lv_topi (fun z17001 e17002 => ?_)
                                            refine lv_iload hx hb dX12_best_343 (lv_at hl 0 rfl) ?_
                                            refine lv_ineg hx hb dX12_best_345 ?_
                                            refine lv_topi (fun z17004 e17005 => ?_)
                                            refine lv_iand hx hb dX12_best_346 ?_
                                            refine lv_topi (fun z17006 e17007 => ?_)
                                            refine lv_if_ne (tgt := 353) hx hb dX12_best_347 (by decide) (fun c17009 => ?_) (fun c17009 => ?_)
                                            · skip
                                              have t17010 := cv_ne (a := z17006.toInt) rfl (b := 0) (by decide) c17009
                                              refine lv_iload hx hb dX12_best_353 (lv_at hl 3 rfl) ?_
                                              refine lv_istore (lv' := [(6, .int x8_lp16929), (11, .int z16974), (10, .int z16971), (9, .int r16946), (8, .int x8_lp16929), (7, .int x7_lp16929), (5, .int x3_lp16906), (4, .int x4_lp16906), (3, .int x3_lp16906), (0, .ref (g 0)), (1, .int p0), (2, .int p1)]) hx hb dX12_best_355 hl (by decide) rfl (fun ls hl => ?_)
                                              refine lv_iload hx hb dX12_best_357 (lv_at hl 3 rfl) ?_
                                              refine lv_istore (lv' := [(7, .int r16946), (6, .int x8_lp16929), (11, .int z16974), (10, .int z16971), (9, .int r16946), (8, .int x8_lp16929), (5, .int x3_lp16906), (4, .int x4_lp16906), (3, .int x3_lp16906), (0, .ref (g 0)), (1, .int p0), (2, .int p1)]) hx hb dX12_best_359 hl (by decide) rfl (fun ls hl => ?_)
                                              obtain ⟨z17011, e17012⟩ : ∃ y : Int32, y = x8_lp16929 + 1 := ⟨_, rfl⟩
                                              try (have t17013 := tadd e17012 rfl (b := 1) (by decide) (by omega))
                                              refine lv_iinc (v := z17011) (lv' := [(8, .int z17011), (7, .int r16946), (6, .int x8_lp16929), (11, .int z16974), (10, .int z16971), (9, .int r16946), (5, .int x3_lp16906), (4, .int x4_lp16906), (3, .int x3_lp16906), (0, .ref (g 0)), (1, .int p0), (2, .int p1)]) hx hb dX12_best_361 hl (k := 5) rfl (by rw [e17012]; rfl) (by decide) rfl (fun ls hl => ?_)
                                              refine lv_goto (tgt := 200) hx hb dX12_best_364 (by decide) ?_
                                              exact ih_lp16929 z17011 r16946 x8_lp16929 v16947 F16948 _ _ _ (by omega) (by omega) (frC (by decide) hf16949 (frC (by decide) hf_lp16940 hf_lp16929)) hI hF hP hS (lv_sub hl [0, 1, 2, 6, 7, 8, 9, 10, 11] rfl)
                                            · skip
                                              have t17014 := cv_eq (a := z17006.toInt) rfl (b := 0) (by decide) c17009
                                              refine lv_goto (tgt := 361) hx hb dX12_best_350 (by decide) ?_
                                              obtain ⟨z17015, e17016⟩ : ∃ y : Int32, y = x8_lp16929 + 1 := ⟨_, rfl⟩
                                              try (have t17017 := tadd e17016 rfl (b := 1) (by decide) (by omega))
                                              refine lv_iinc (v := z17015) (lv' := [(8, .int z17015), (11, .int z16974), (10, .int z16971), (9, .int r16946), (7, .int x7_lp16929), (6, .int x6_lp16929), (5, .int x3_lp16906), (4, .int x4_lp16906), (3, .int x3_lp16906), (0, .ref (g 0)), (1, .int p0), (2, .int p1)]) hx hb dX12_best_361 hl (k := 3) rfl (by rw [e17016]; rfl) (by decide) rfl (fun ls hl => ?_)
                                              refine lv_goto (tgt := 200) hx hb dX12_best_364 (by decide) ?_
                                              exact ih_lp16929 z17015 x7_lp16929 x6_lp16929 v16947 F16948 _ _ _ (by omega) (by omega) (frC (by decide) hf16949 (frC (by decide) hf_lp16940 hf_lp16929)) hI hF hP hS (lv_sub hl [0, 4, 5, 6, 7, 8, 9, 10, 11] rfl)
                                · skip
                                  have t17018 := cv_nle (a := x3_lp16906.toInt) rfl (b := x9_lp16940.toInt) rfl c16942
                                  refine lv_aload_n hx hb dX12_best_230 rfl (lv_at hl 7 rfl) ?_
                                  refine va_get (D := (dC, dI)) (ci := 12) (v := .ref (g 42)) (C := RX12) (T := TX12) (N := 63) hx hb hwd inA_X12 hown hK hP 0 rfl rfl 56 (by decide) (hwd _ wk_224) (fun _ h9 => h9) rfl dX12_best_231 ?_
                                  refine lv_aload_n hx hb dX12_best_234 rfl (lv_at hl 7 rfl) ?_
                                  refine va_get (D := (dC, dI)) (ci := 12) (v := .ref (g 43)) (C := RX12) (T := TX12) (N := 63) hx hb hwd inA_X12 hown hK hP 0 rfl rfl 59 (by decide) (hwd _ wk_225) (fun _ h9 => h9) rfl dX12_best_235 ?_
                                  refine lv_iload hx hb dX12_best_238 (lv_at hl 0 rfl) ?_
                                  refine va_iald hx hb hK hP 43 42 rfl rfl (i := x9_lp16940) (vin (a := x9_lp16940.toInt) rfl (by omega)) dX12_best_240 ?_
                                  refine lv_topi (fun z17019 e17020 => ?_)
                                  have t17021 : 0 ≤ z17019.toInt ∧ z17019.toInt ≤ 99 := by rw [e17020]; exact hI.2 43 _ _ rfl _
                                  refine lv_iload hx hb dX12_best_241 (lv_at hl 1 rfl) ?_
                                  refine lv_iload hx hb dX12_best_243 (lv_at hl 0 rfl) ?_
                                  refine lv_ishr hx hb dX12_best_245 ?_
                                  refine lv_topi (fun z17022 e17023 => ?_)
                                  refine lv_iconst (v := 1) hx hb dX12_best_246 (by decide) ?_
                                  refine lv_iand hx hb dX12_best_247 ?_
                                  refine lv_topi (fun z17025 e17026 => ?_)
                                  refine lv_iconst (v := 1) hx hb dX12_best_248 (by decide) ?_
                                  refine lv_icmp_ne (tgt := 256) hx hb dX12_best_249 (by decide) (fun c17028 => ?_) (fun c17028 => ?_)
                                  · skip
                                    have t17029 := cv_ne (a := z17025.toInt) rfl (b := 1) (by decide) c17028
                                    refine lv_iconst (v := 0) hx hb dX12_best_256 (by decide) ?_
                                    refine va_zast hx hb hK hP (DM hg) hS 42 41 rfl rfl (i := z17019) (x := 0) (vin (a := z17019.toInt) rfl (by omega)) dX12_best_257 (fun H locs hP _ hS => ?_)
                                    have hP := va_P_eq (sM_42 g c _ _ _ _) hP
                                    have hI := IM.store0 hI 42 (z17019 : Int32).toNatClampNeg (vp_nar .boolean 0) rfl
                                    have hF := frUF (k := 42) (f := upd (F_lp16940 42) (z17019 : Int32).toNatClampNeg (vp_nar .boolean 0)) (by decide) hF
                                    have hP : va_P (dC, dI) classes (wM g c v_lp16940 (va_up F_lp16940 42 (upd (F_lp16940 42) (z17019 : Int32).toNatClampNeg (vp_nar .boolean 0))) rc) H := hP
                                    generalize (va_up F_lp16940 42 (upd (F_lp16940 42) (z17019 : Int32).toNatClampNeg (vp_nar .boolean 0))) = F17030 at hP hI hF
                                    obtain ⟨z17031, e17032⟩ : ∃ y : Int32, y = x9_lp16940 + 1 := ⟨_, rfl⟩
                                    try (have t17033 := tadd e17032 rfl (b := 1) (by decide) (by omega))
                                    refine lv_iinc (v := z17031) (lv' := [(9, .int z17031), (8, .int x8_lp16929), (7, .int x7_lp16929), (6, .int x6_lp16929), (5, .int x3_lp16906), (4, .int x4_lp16906), (3, .int x3_lp16906), (0, .ref (g 0)), (1, .int p0), (2, .int p1)]) hx hb dX12_best_258 hl (k := 0) rfl (by rw [e17032]; rfl) (by decide) rfl (fun ls hl => ?_)
                                    refine lv_goto (tgt := 224) hx hb dX12_best_261 (by decide) ?_
                                    exact ih_lp16940 z17031 v_lp16940 F17030 _ _ _ (by omega) (by omega) hf_lp16940 hI hF hP hS (lv_sub hl [0, 1, 2, 3, 4, 5, 6, 7, 8, 9] rfl)
                                  · skip
                                    have t17034 := cv_eq (a := z17025.toInt) rfl (b := 1) (by decide) c17028
                                    refine lv_iconst (v := 1) hx hb dX12_best_252 (by decide) ?_
                                    refine lv_goto (tgt := 257) hx hb dX12_best_253 (by decide) ?_
                                    refine va_zast hx hb hK hP (DM hg) hS 42 41 rfl rfl (i := z17019) (x := 1) (vin (a := z17019.toInt) rfl (by omega)) dX12_best_257 (fun H locs hP _ hS => ?_)
                                    have hP := va_P_eq (sM_42 g c _ _ _ _) hP
                                    have hI := IM.store0 hI 42 (z17019 : Int32).toNatClampNeg (vp_nar .boolean 1) rfl
                                    have hF := frUF (k := 42) (f := upd (F_lp16940 42) (z17019 : Int32).toNatClampNeg (vp_nar .boolean 1)) (by decide) hF
                                    have hP : va_P (dC, dI) classes (wM g c v_lp16940 (va_up F_lp16940 42 (upd (F_lp16940 42) (z17019 : Int32).toNatClampNeg (vp_nar .boolean 1))) rc) H := hP
                                    generalize (va_up F_lp16940 42 (upd (F_lp16940 42) (z17019 : Int32).toNatClampNeg (vp_nar .boolean 1))) = F17035 at hP hI hF
                                    obtain ⟨z17036, e17037⟩ : ∃ y : Int32, y = x9_lp16940 + 1 := ⟨_, rfl⟩
                                    try (have t17038 := tadd e17037 rfl (b := 1) (by decide) (by omega))
                                    refine lv_iinc (v := z17036) (lv' := [(9, .int z17036), (8, .int x8_lp16929), (7, .int x7_lp16929), (6, .int x6_lp16929), (5, .int x3_lp16906), (4, .int x4_lp16906), (3, .int x3_lp16906), (0, .ref (g 0)), (1, .int p0), (2, .int p1)]) hx hb dX12_best_258 hl (k := 0) rfl (by rw [e17037]; rfl) (by decide) rfl (fun ls hl => ?_)
                                    refine lv_goto (tgt := 224) hx hb dX12_best_261 (by decide) ?_
                                    exact ih_lp16940 z17036 v_lp16940 F17035 _ _ _ (by omega) (by omega) hf_lp16940 hI hF hP hS (lv_sub hl [0, 1, 2, 3, 4, 5, 6, 7, 8, 9] rfl)
                            obtain ⟨n9, hn9⟩ : ∃ n : Nat, 2147483648 - 0 ≤ (n : Int) := ⟨((2147483648 - 0 : Int)).toNat, by omega⟩
                            exact lp16940 n9 0 v_lp16929 F_lp16929 H _ ls (by have : (0 : Int32).toInt = 0 := (by decide); omega) (by have : (0 : Int32).toInt = 0 := (by decide); omega) (fun _ _ => rfl) hI hF hP hS hl
                          · skip
                            have t17039 := cv_ne (a := r16937.toInt) rfl (b := x3_lp16906.toInt) rfl c16938
                            refine lv_goto (tgt := 361) hx hb dX12_best_218 (by decide) ?_
                            obtain ⟨z17040, e17041⟩ : ∃ y : Int32, y = x8_lp16929 + 1 := ⟨_, rfl⟩
                            try (have t17042 := tadd e17041 rfl (b := 1) (by decide) (by omega))
                            refine lv_iinc (v := z17040) (lv' := [(8, .int z17040), (7, .int x7_lp16929), (6, .int x6_lp16929), (5, .int x3_lp16906), (4, .int x4_lp16906), (3, .int x3_lp16906), (0, .ref (g 0)), (1, .int p0), (2, .int p1)]) hx hb dX12_best_361 hl (k := 0) rfl (by rw [e17041]; rfl) (by decide) rfl (fun ls hl => ?_)
                            refine lv_goto (tgt := 200) hx hb dX12_best_364 (by decide) ?_
                            exact ih_lp16929 z17040 x7_lp16929 x6_lp16929 v_lp16929 F_lp16929 _ _ _ (by omega) (by omega) hf_lp16929 hI hF hP hS (lv_sub hl [0, 1, 2, 3, 4, 5, 6, 7, 8] rfl)
                    obtain ⟨n9, hn9⟩ : ∃ n : Nat, 2147483648 - 0 ≤ (n : Int) := ⟨((2147483648 - 0 : Int)).toNat, by omega⟩
                    exact lp16929 n9 0 0 (-1) v16925 F16926 H _ ls (by have : (0 : Int32).toInt = 0 := (by decide); have : (0 : Int32).toInt = 0 := (by decide); have : ((-1) : Int32).toInt = (-1) := (by decide); omega) (by have : (0 : Int32).toInt = 0 := (by decide); have : (0 : Int32).toInt = 0 := (by decide); have : ((-1) : Int32).toInt = (-1) := (by decide); omega) (fun _ _ => rfl) hI hF hP hS hl
                  · skip
                    have t17043 := cv_nle (a := x3_lp16906.toInt) rfl (b := z16919.toInt) rfl c16921
                    refine lv_aload_n hx hb dX12_best_169 rfl (lv_at hl 3 rfl) ?_
                    refine va_get (D := (dC, dI)) (ci := 12) (v := .ref (g 9)) (C := RX12) (T := TX12) (N := 63) hx hb hwd inA_X12 hown hK hP 0 rfl rfl 12 (by decide) (hwd _ wk_190) (fun _ h9 => h9) rfl dX12_best_170 ?_
                    refine lv_bipush (v := 10) hx hb dX12_best_173 (by decide) ?_
                    refine lv_iload_n hx hb dX12_best_175 rfl (lv_at hl 4 rfl) ?_
                    refine lv_imul hx hb dX12_best_176 ?_
                    refine lv_topi (fun z17044 e17045 => ?_)
                    try (have t17046 := tmul e17045 (a := 10) (by decide) (b := p0.toInt) rfl (by omega))
                    refine lv_iload_n hx hb dX12_best_177 rfl (lv_at hl 5 rfl) ?_
                    refine lv_iadd hx hb dX12_best_178 ?_
                    refine lv_topi (fun z17047 e17048 => ?_)
                    try (have t17049 := tadd e17048 (a := z17044.toInt) rfl (b := p1.toInt) rfl (by omega))
                    refine va_iald hx hb hK hP 9 8 rfl rfl (i := z17047) (vin (a := z17047.toInt) rfl (by omega)) dX12_best_179 ?_
                    refine lv_topi (fun z17050 e17051 => ?_)
                    have e17051 : z17050 = F 9 (z17047 : Int32).toNatClampNeg := e17051.trans (congrFun (hF 9 (by decide)) _)
                    refine lv_goto (tgt := 184) hx hb dX12_best_180 (by decide) ?_
                    refine lv_istore (lv' := [(5, .int z17050), (4, .int x4_lp16906), (3, .int x3_lp16906), (0, .ref (g 0)), (1, .int p0), (2, .int p1)]) hx hb dX12_best_184 hl (by decide) rfl (fun ls hl => ?_)
                    refine lv_aload_n hx hb dX12_best_186 rfl (lv_at hl 3 rfl) ?_
                    refine lv_iload_n hx hb dX12_best_187 rfl (lv_at hl 4 rfl) ?_
                    have t17052 : 0 ≤ (v 14).toInt ∧ (v 14).toInt ≤ 100 := by have h9 := hI.1 14 _ _ rfl; rw [show v_lp16906 14 = v 14 from hf_lp16906 14 (by decide)] at h9; exact h9
                    refine va_callv (va_runV (As := [.int p0]) (rest := []) ⟨hx, hb, hml, hown, hwd⟩ (c_X12_board l dC dI g c adK adV v_lp16906 F_lp16906 rc H.size p0 hg hI ) (cwV 1 hwd (gV wk_1205 wk_1202 wk_1203 wk_1204 wk_5) rfl rfl rfl (by decide +kernel) ⟨Nat.le_of_ble_eq_true rfl, Nat.le_of_ble_eq_true rfl⟩) ⟨PM.blind, va_recv hK hP (ci := 12) (q0 := 0) rfl rfl, fun U hU hW => ⟨rfl, PM.at hK hE hP hS hU hW⟩⟩ rfl rfl hl.1 rfl (lv_room (Nat.le_of_ble_eq_true rfl)) dX12_best_188 ⟨Nat.le_of_ble_eq_true rfl, Nat.le_of_ble_eq_true rfl⟩) hS (fun q _ h => (freeM hS) q h) (freeM hS) (fun u t H1 locs ht hvm hw hB hz1 hk1 hS => ?_)
                    unfold BM at hB
                    rw [ht] at hB
                    obtain ⟨v17054, F17055, rc9⟩ := u
                    obtain ⟨hI, hrc, hf17056, hG17057, hw⟩ := hw
                    dsimp only at hI hrc hB hf17056 hG17057 hw
                    have hF := frCF (by decide) hG17057 hF
                    rw [hrc] at hB
                    have hP : va_P (dC, dI) classes (wM g c v17054 F17055 rc) H1 := hB
                    replace hw : ∀ j : Nat, (j : Int) < (v_lp16906 14).toInt → (F17055 42 j).toInt ≠ 0 → (F_lp16906 13 j).toInt = p0.toInt := hw
                    rw [show v_lp16906 14 = v 14 from hf_lp16906 14 (by decide)] at hw
                    have hw_r17053 := hw
                    clear hw
                    clear hz1
                    generalize H1 = H at hP hS ⊢
                    refine lv_iconst (v := (-1)) hx hb dX12_best_191 (by decide) ?_
                    refine lv_istore (lv' := [(6, .int (-1)), (5, .int z17050), (4, .int x4_lp16906), (3, .int x3_lp16906), (0, .ref (g 0)), (1, .int p0), (2, .int p1)]) hx hb dX12_best_192 hl (by decide) rfl (fun ls hl => ?_)
                    refine lv_iconst (v := 0) hx hb dX12_best_194 (by decide) ?_
                    refine lv_istore (lv' := [(7, .int 0), (6, .int (-1)), (5, .int z17050), (4, .int x4_lp16906), (3, .int x3_lp16906), (0, .ref (g 0)), (1, .int p0), (2, .int p1)]) hx hb dX12_best_195 hl (by decide) rfl (fun ls hl => ?_)
                    refine lv_iconst (v := 0) hx hb dX12_best_197 (by decide) ?_
                    refine lv_istore (lv' := [(8, .int 0), (7, .int 0), (6, .int (-1)), (5, .int z17050), (4, .int x4_lp16906), (3, .int x3_lp16906), (0, .ref (g 0)), (1, .int p0), (2, .int p1)]) hx hb dX12_best_198 hl (by decide) rfl (fun ls hl => ?_)
                    have lp17058 : ∀ (n : Nat) (x8_lp17058 : Int32) (x7_lp17058 : Int32) (x6_lp17058 : Int32) (v_lp17058 : Nat → Int32) (F_lp17058 : Nat → Nat → Int32) (H : Heap) (locs : List Loc) (ls : Array Slot), (0 ≤ x8_lp17058.toInt) → (2147483648 - x8_lp17058.toInt ≤ (n : Int)) → (∀ k, k ∉ ([] : List Nat) → v_lp17058 k = v17054 k) → IM v_lp17058 F_lp17058 → (∀ k, k ∉ ([30, 31, 42, 43] : List Nat) → F_lp17058 k = F k) → va_P (dC, dI) classes (wM g c v_lp17058 F_lp17058 rc) H → va_S (AM g s.heap.size) s.heap H locs → lv_has ls 12 [(8, .int x8_lp17058), (7, .int x7_lp17058), (6, .int x6_lp17058), (5, .int z17050), (4, .int x4_lp16906), (3, .int x3_lp16906), (0, .ref (g 0)), (1, .int p0), (2, .int p1)] → W p l e (headSpec (Cond.code yX12_best cX12_best 12 (some .int) :: wA) ({ frames := 8, cells := 0, slots := 0, locals := 320 })).room s m ([.ref (g 0), .int p0, .int p1] : List Value).toArray below meth c0 H locs 0 0 (MQ below (va_Qi (fun (r : Int32) (u : StM) => IM u.1 u.2.1 ∧ u.2.2 = rc ∧ (∀ k, k ∉ ([57, 58] : List Nat) → u.1 k = v k) ∧ (∀ k, k ∉ ([30, 31, 42, 43] : List Nat) → u.2.1 k = F k) ∧ True) (BM dC dI g c) (AM g s.heap.size)) ([.ref (g 0), .int p0, .int p1] : List Value).toArray s 0 0 (AM g s.heap.size)) (F0 m 200 ls []) := by
                      intro n
                      induction n with
                      | zero =>
                        intro x8_lp17058 x7_lp17058 x6_lp17058 v_lp17058 F_lp17058 H locs ls t17059 hm hf_lp17058 hI hF hP hS hl
                        exfalso
                        have := i32_rng x8_lp17058
                        have := i32_rng x7_lp17058
                        have := i32_rng x6_lp17058
                        have hI1 := hI.1
                        omega
                      | succ n ih_lp17058 =>
                        intro x8_lp17058 x7_lp17058 x6_lp17058 v_lp17058 F_lp17058 H locs ls t17059 hm hf_lp17058 hI hF hP hS hl
                        have rx8_lp17058 := i32_rng x8_lp17058
                        have rx7_lp17058 := i32_rng x7_lp17058
                        have rx6_lp17058 := i32_rng x6_lp17058
                        refine lv_iload hx hb dX12_best_200 (lv_at hl 0 rfl) ?_
                        refine lv_iconst (v := 1) hx hb dX12_best_202 (by decide) ?_
                        refine lv_iload_n hx hb dX12_best_203 rfl (lv_at hl 5 rfl) ?_
                        refine lv_ishl hx hb dX12_best_204 ?_
                        refine lv_topi (fun z17060 e17061 => ?_)
                        have rr_z17060 := i32_rng z17060
                        refine lv_icmp_ge (tgt := 367) hx hb dX12_best_205 (by decide) (fun c17063 => ?_) (fun c17063 => ?_)
                        · skip
                          have t17064 := cv_le (a := z17060.toInt) rfl (b := x8_lp17058.toInt) rfl c17063
                          refine lv_aload_n hx hb dX12_best_367 rfl (lv_at hl 6 rfl) ?_
                          refine lv_iconst (v := 1) hx hb dX12_best_368 (by decide) ?_
                          refine va_put (D := (dC, dI)) (ci := 12) (v := .int 1) (ty := .boolean) (C := RX12) (T := TX12) (N := 63) (fs := fsM_0 g v_lp17058 rc) hx hb hwd inA_X12 tyX12 tyX12_ok nmX12 hown hK hP (DM hg) hS 0 rfl rfl 57 (by decide) (hwd _ wk_1304) (fun _ h9 => h9) rfl (by decide +kernel) rfl rfl (Nat.le_of_ble_eq_true rfl) dX12_best_369 (fun H locs hP _ hS => ?_)
                          have hP := va_P_eq (pM_57 g c _ _ _ _) hP
                          have hI := IM.put0 hI 57 1 rfl
                          refine lv_aload_n hx hb dX12_best_372 rfl (lv_at hl 6 rfl) ?_
                          refine lv_iload hx hb dX12_best_373 (lv_at hl 1 rfl) ?_
                          refine va_put (D := (dC, dI)) (ci := 12) (v := .int x7_lp17058) (ty := .int) (C := RX12) (T := TX12) (N := 63) (fs := fsM_0 g (va_up v_lp17058 57 1) rc) hx hb hwd inA_X12 tyX12 tyX12_ok nmX12 hown hK hP (DM hg) hS 0 rfl rfl 58 (by decide) (hwd _ wk_1305) (fun _ h9 => h9) rfl (by decide +kernel) rfl rfl (Nat.le_of_ble_eq_true rfl) dX12_best_375 (fun H locs hP _ hS => ?_)
                          have hP := va_P_eq (pM_58 g c _ _ _ _) hP
                          have hI := IM.put0 hI 58 x7_lp17058 rfl
                          refine lv_iload hx hb dX12_best_378 (lv_at hl 2 rfl) ?_
                          have hP9 : va_P (dC, dI) classes (wM g c (va_up (va_up v_lp17058 57 1) 58 x7_lp17058) F_lp17058 rc) H := hP
                          exact W.iret (v := x6_lp17058) hx hb hr (fun t ht hW => ⟨⟨x6_lp17058, ((va_up (va_up v_lp17058 57 1) 58 x7_lp17058), F_lp17058, rc), rfl, ⟨hI, rfl, (frU (by decide) (frU (by decide) (frC (by decide) hf_lp17058 (frC (by decide) hf17056 (frC (by decide) hf_lp16906 (fun _ _ => rfl)))))), hF, trivial⟩, (by show va_P _ _ _ t.heap; rw [ht]; exact hP9)⟩, hS.F ht⟩) hS.2.2 dX12_best_380
                        · skip
                          have t17065 := cv_nle (a := z17060.toInt) rfl (b := x8_lp17058.toInt) rfl c17063
                          refine lv_iload hx hb dX12_best_208 (lv_at hl 0 rfl) ?_
                          refine va_calli (va_runS (As := [.int x8_lp17058]) (rest := []) ⟨hx, hb, hml, hown, hwd⟩ (c_X12_bitsOf l dC dI g c adK adV v_lp17058 F_lp17058 rc H.size x8_lp17058 hg hI ) (va_cwS 1 hwd (gT wk_1308 wk_1306 wk_1307 wk_5) rfl rfl rfl (by decide +kernel) ⟨Nat.le_of_ble_eq_true rfl, Nat.le_of_ble_eq_true rfl⟩) ⟨PM.blind, fun U hU hW => ⟨rfl, PM.at hK hE hP hS hU hW⟩⟩ rfl rfl hl.1 rfl (lv_room (Nat.le_of_ble_eq_true rfl)) dX12_best_210 ⟨Nat.le_of_ble_eq_true rfl, Nat.le_of_ble_eq_true rfl⟩) hS (fun q _ h => (freeM hS) q h) (freeM hS) (fun r17066 u t H1 locs ht hvm hw hB hz1 hk1 hS => ?_)
                          unfold BM at hB
                          rw [ht] at hB
                          have hP : va_P (dC, dI) classes (wM g c v_lp17058 F_lp17058 rc) H1 := hB
                          clear hz1
                          generalize H1 = H at hP hS ⊢
                          have rr_r17066 := i32_rng r17066
                          refine lv_iload hx hb dX12_best_213 (lv_at hl 3 rfl) ?_
                          refine lv_icmp_eq (tgt := 221) hx hb dX12_best_215 (by decide) (fun c17067 => ?_) (fun c17067 => ?_)
                          · skip
                            have t17068 := cv_eq (a := r17066.toInt) rfl (b := z17050.toInt) rfl c17067
                            refine lv_iconst (v := 0) hx hb dX12_best_221 (by decide) ?_
                            refine lv_istore (lv' := [(9, .int 0), (8, .int x8_lp17058), (7, .int x7_lp17058), (6, .int x6_lp17058), (5, .int z17050), (4, .int x4_lp16906), (3, .int x3_lp16906), (0, .ref (g 0)), (1, .int p0), (2, .int p1)]) hx hb dX12_best_222 hl (by decide) rfl (fun ls hl => ?_)
                            have lp17069 : ∀ (n : Nat) (x9_lp17069 : Int32) (v_lp17069 : Nat → Int32) (F_lp17069 : Nat → Nat → Int32) (H : Heap) (locs : List Loc) (ls : Array Slot), (0 ≤ x9_lp17069.toInt) → (2147483648 - x9_lp17069.toInt ≤ (n : Int)) → (∀ k, k ∉ ([] : List Nat) → v_lp17069 k = v_lp17058 k) → IM v_lp17069 F_lp17069 → (∀ k, k ∉ ([30, 31, 42, 43] : List Nat) → F_lp17069 k = F k) → va_P (dC, dI) classes (wM g c v_lp17069 F_lp17069 rc) H → va_S (AM g s.heap.size) s.heap H locs → lv_has ls 12 [(9, .int x9_lp17069), (8, .int x8_lp17058), (7, .int x7_lp17058), (6, .int x6_lp17058), (5, .int z17050), (4, .int x4_lp16906), (3, .int x3_lp16906), (0, .ref (g 0)), (1, .int p0), (2, .int p1)] → W p l e (headSpec (Cond.code yX12_best cX12_best 12 (some .int) :: wA) ({ frames := 8, cells := 0, slots := 0, locals := 320 })).room s m ([.ref (g 0), .int p0, .int p1] : List Value).toArray below meth c0 H locs 0 0 (MQ below (va_Qi (fun (r : Int32) (u : StM) => IM u.1 u.2.1 ∧ u.2.2 = rc ∧ (∀ k, k ∉ ([57, 58] : List Nat) → u.1 k = v k) ∧ (∀ k, k ∉ ([30, 31, 42, 43] : List Nat) → u.2.1 k = F k) ∧ True) (BM dC dI g c) (AM g s.heap.size)) ([.ref (g 0), .int p0, .int p1] : List Value).toArray s 0 0 (AM g s.heap.size)) (F0 m 224 ls []) := by
                              intro n
                              induction n with
                              | zero =>
                                intro x9_lp17069 v_lp17069 F_lp17069 H locs ls t17070 hm hf_lp17069 hI hF hP hS hl
                                exfalso
                                have := i32_rng x9_lp17069
                                have hI1 := hI.1
                                omega
                              | succ n ih_lp17069 =>
                                intro x9_lp17069 v_lp17069 F_lp17069 H locs ls t17070 hm hf_lp17069 hI hF hP hS hl
                                have rx9_lp17069 := i32_rng x9_lp17069
                                refine lv_iload hx hb dX12_best_224 (lv_at hl 0 rfl) ?_
                                refine lv_iload_n hx hb dX12_best_226 rfl (lv_at hl 6 rfl) ?_
                                refine lv_icmp_ge (tgt := 264) hx hb dX12_best_227 (by decide) (fun c17071 => ?_) (fun c17071 => ?_)
                                · skip
                                  have t17072 := cv_le (a := x3_lp16906.toInt) rfl (b := x9_lp17069.toInt) rfl c17071
                                  refine lv_aload_n hx hb dX12_best_264 rfl (lv_at hl 7 rfl) ?_
                                  refine lv_iload_n hx hb dX12_best_265 rfl (lv_at hl 8 rfl) ?_
                                  refine lv_aload_n hx hb dX12_best_266 rfl (lv_at hl 7 rfl) ?_
                                  refine va_get (D := (dC, dI)) (ci := 12) (v := .int (v_lp17069 1)) (C := RX12) (T := TX12) (N := 63) hx hb hwd inA_X12 hown hK hP 0 rfl rfl 1 (by decide) (hwd _ wk_332) (fun _ h9 => h9) rfl dX12_best_267 ?_
                                  refine my_top (v := v 1) ((hf_lp17069 1 (by decide)).trans ((hf_lp17058 1 (by decide)).trans ((hf17056 1 (by decide)).trans (hf_lp16906 1 (by decide))))) ?_
                                  have t17073 : 0 ≤ (v 1).toInt ∧ (v 1).toInt ≤ 9999 := by have h9 := hI.1 1 _ _ rfl; rw [show v_lp17069 1 = v 1 from (hf_lp17069 1 (by decide)).trans ((hf_lp17058 1 (by decide)).trans ((hf17056 1 (by decide)).trans (hf_lp16906 1 (by decide))))] at h9; exact h9
                                  refine lv_aload_n hx hb dX12_best_270 rfl (lv_at hl 7 rfl) ?_
                                  refine va_get (D := (dC, dI)) (ci := 12) (v := .int (v_lp17069 1)) (C := RX12) (T := TX12) (N := 63) hx hb hwd inA_X12 hown hK hP 0 rfl rfl 1 (by decide) (hwd _ wk_332) (fun _ h9 => h9) rfl dX12_best_271 ?_
                                  refine my_top (v := v 1) ((hf_lp17069 1 (by decide)).trans ((hf_lp17058 1 (by decide)).trans ((hf17056 1 (by decide)).trans (hf_lp16906 1 (by decide))))) ?_
                                  have t17074 : 0 ≤ (v 1).toInt ∧ (v 1).toInt ≤ 9999 := by have h9 := hI.1 1 _ _ rfl; rw [show v_lp17069 1 = v 1 from (hf_lp17069 1 (by decide)).trans ((hf_lp17058 1 (by decide)).trans ((hf17056 1 (by decide)).trans (hf_lp16906 1 (by decide))))] at h9; exact h9
                                  refine va_calli (va_runV (As := [.int p0, .int (v 1), .int (v 1)]) (rest := []) ⟨hx, hb, hml, hown, hwd⟩ (c_X12_costOfAll l dC dI g c adK adV v_lp17069 F_lp17069 rc H.size p0 (v 1) (v 1) hg hI (by omega) (JL.to hL (show v_lp17069 31 = v 31 from (hf_lp17069 31 (by decide)).trans ((hf_lp17058 31 (by decide)).trans ((hf17056 31 (by decide)).trans (hf_lp16906 31 (by decide))))) (hF 28 (by decide)) (hF 29 (by decide)) (hF 27 (by decide)))) (cwV 3 hwd (gV wk_1247 wk_1244 wk_1245 wk_1246 wk_5) rfl rfl rfl (by decide +kernel) ⟨Nat.le_of_ble_eq_true rfl, Nat.le_of_ble_eq_true rfl⟩) ⟨PM.blind, va_recv hK hP (ci := 12) (q0 := 0) rfl rfl, fun U hU hW => ⟨rfl, PM.at hK hE hP hS hU hW⟩⟩ rfl rfl hl.1 rfl (lv_room (Nat.le_of_ble_eq_true rfl)) dX12_best_274 ⟨Nat.le_of_ble_eq_true rfl, Nat.le_of_ble_eq_true rfl⟩) hS (fun q _ h => (freeM hS) q h) (freeM hS) (fun r17075 u t H1 locs ht hvm hw hB hz1 hk1 hS => ?_)
                                  unfold BM at hB
                                  rw [ht] at hB
                                  obtain ⟨v17076, F17077, rc9⟩ := u
                                  obtain ⟨hI, hrc, hf17078, hG17079, hw⟩ := hw
                                  dsimp only at hI hrc hB hf17078 hG17079 hw
                                  have hF := frCF (by decide) hG17079 hF
                                  rw [hrc] at hB
                                  have hP : va_P (dC, dI) classes (wM g c v17076 F17077 rc) H1 := hB
                                  clear hz1
                                  generalize H1 = H at hP hS ⊢
                                  have rr_r17075 := i32_rng r17075
                                  refine lv_istore (lv' := [(9, .int r17075), (8, .int x8_lp17058), (7, .int x7_lp17058), (6, .int x6_lp17058), (5, .int z17050), (4, .int x4_lp16906), (3, .int x3_lp16906), (0, .ref (g 0)), (1, .int p0), (2, .int p1)]) hx hb dX12_best_277 hl (by decide) rfl (fun ls hl => ?_)
                                  refine lv_iload hx hb dX12_best_279 (lv_at hl 3 rfl) ?_
                                  refine lv_if_lt (tgt := 353) hx hb dX12_best_281 (by decide) (fun c17080 => ?_) (fun c17080 => ?_)
                                  · skip
                                    have t17081 := cv_lt (a := x6_lp17058.toInt) rfl (b := 0) (by decide) c17080
                                    refine lv_iload hx hb dX12_best_353 (lv_at hl 1 rfl) ?_
                                    refine lv_istore (lv' := [(6, .int x8_lp17058), (9, .int r17075), (8, .int x8_lp17058), (7, .int x7_lp17058), (5, .int z17050), (4, .int x4_lp16906), (3, .int x3_lp16906), (0, .ref (g 0)), (1, .int p0), (2, .int p1)]) hx hb dX12_best_355 hl (by decide) rfl (fun ls hl => ?_)
                                    refine lv_iload hx hb dX12_best_357 (lv_at hl 1 rfl) ?_
                                    refine lv_istore (lv' := [(7, .int r17075), (6, .int x8_lp17058), (9, .int r17075), (8, .int x8_lp17058), (5, .int z17050), (4, .int x4_lp16906), (3, .int x3_lp16906), (0, .ref (g 0)), (1, .int p0), (2, .int p1)]) hx hb dX12_best_359 hl (by decide) rfl (fun ls hl => ?_)
                                    obtain ⟨z17082, e17083⟩ : ∃ y : Int32, y = x8_lp17058 + 1 := ⟨_, rfl⟩
                                    try (have t17084 := tadd e17083 rfl (b := 1) (by decide) (by omega))
                                    refine lv_iinc (v := z17082) (lv' := [(8, .int z17082), (7, .int r17075), (6, .int x8_lp17058), (9, .int r17075), (5, .int z17050), (4, .int x4_lp16906), (3, .int x3_lp16906), (0, .ref (g 0)), (1, .int p0), (2, .int p1)]) hx hb dX12_best_361 hl (k := 3) rfl (by rw [e17083]; rfl) (by decide) rfl (fun ls hl => ?_)
                                    refine lv_goto (tgt := 200) hx hb dX12_best_364 (by decide) ?_
                                    exact ih_lp17058 z17082 r17075 x8_lp17058 v17076 F17077 _ _ _ (by omega) (by omega) (frC (by decide) hf17078 (frC (by decide) hf_lp17069 hf_lp17058)) hI hF hP hS (lv_sub hl [0, 1, 2, 4, 5, 6, 7, 8, 9] rfl)
                                  · skip
                                    have t17085 := cv_nlt (a := x6_lp17058.toInt) rfl (b := 0) (by decide) c17080
                                    refine lv_iload hx hb dX12_best_284 (lv_at hl 1 rfl) ?_
                                    refine lv_iload hx hb dX12_best_286 (lv_at hl 5 rfl) ?_
                                    refine lv_iconst (v := (-1)) hx hb dX12_best_288 (by decide) ?_
                                    refine lv_ixor hx hb dX12_best_289 ?_
                                    refine lv_topi (fun z17086 e17087 => ?_)
                                    refine lv_iand hx hb dX12_best_290 ?_
                                    refine lv_topi (fun z17089 e17090 => ?_)
                                    refine va_calli (va_runS (As := [.int z17089]) (rest := []) ⟨hx, hb, hml, hown, hwd⟩ (c_X12_bitsOf l dC dI g c adK adV v17076 F17077 rc H.size z17089 hg hI ) (va_cwS 1 hwd (gT wk_1308 wk_1306 wk_1307 wk_5) rfl rfl rfl (by decide +kernel) ⟨Nat.le_of_ble_eq_true rfl, Nat.le_of_ble_eq_true rfl⟩) ⟨PM.blind, fun U hU hW => ⟨rfl, PM.at hK hE hP hS hU hW⟩⟩ rfl rfl hl.1 rfl (lv_room (Nat.le_of_ble_eq_true rfl)) dX12_best_291 ⟨Nat.le_of_ble_eq_true rfl, Nat.le_of_ble_eq_true rfl⟩) hS (fun q _ h => (freeM hS) q h) (freeM hS) (fun r17092 u t H1 locs ht hvm hw hB hz1 hk1 hS => ?_)
                                    unfold BM at hB
                                    rw [ht] at hB
                                    have hP : va_P (dC, dI) classes (wM g c v17076 F17077 rc) H1 := hB
                                    clear hz1
                                    generalize H1 = H at hP hS ⊢
                                    have rr_r17092 := i32_rng r17092
                                    refine lv_iload hx hb dX12_best_294 (lv_at hl 3 rfl) ?_
                                    refine lv_iload hx hb dX12_best_296 (lv_at hl 5 rfl) ?_
                                    refine lv_iconst (v := (-1)) hx hb dX12_best_298 (by decide) ?_
                                    refine lv_ixor hx hb dX12_best_299 ?_
                                    refine lv_topi (fun z17093 e17094 => ?_)
                                    refine lv_iand hx hb dX12_best_300 ?_
                                    refine lv_topi (fun z17096 e17097 => ?_)
                                    refine va_calli (va_runS (As := [.int z17096]) (rest := [.int r17092]) ⟨hx, hb, hml, hown, hwd⟩ (c_X12_bitsOf l dC dI g c adK adV v17076 F17077 rc H.size z17096 hg hI ) (va_cwS 1 hwd (gT wk_1308 wk_1306 wk_1307 wk_5) rfl rfl rfl (by decide +kernel) ⟨Nat.le_of_ble_eq_true rfl, Nat.le_of_ble_eq_true rfl⟩) ⟨PM.blind, fun U hU hW => ⟨rfl, PM.at hK hE hP hS hU hW⟩⟩ rfl rfl hl.1 rfl (lv_room (Nat.le_of_ble_eq_true rfl)) dX12_best_301 ⟨Nat.le_of_ble_eq_true rfl, Nat.le_of_ble_eq_true rfl⟩) hS (fun q _ h => (freeM hS) q h) (freeM hS) (fun r17099 u t H1 locs ht hvm hw hB hz1 hk1 hS => ?_)
                                    unfold BM at hB
                                    rw [ht] at hB
                                    have hP : va_P (dC, dI) classes (wM g c v17076 F17077 rc) H1 := hB
                                    clear hz1
                                    generalize H1 = H at hP hS ⊢
                                    have rr_r17099 := i32_rng r17099
                                    refine lv_isub hx hb dX12_best_304 ?_
                                    refine lv_topi (fun z17100 e17101 => ?_)
                                    try (have t17102 := tsub e17101 (a := r17092.toInt) rfl (b := r17099.toInt) rfl (by omega))
                                    refine lv_istore (lv' := [(10, .int z17100), (9, .int r17075), (8, .int x8_lp17058), (7, .int x7_lp17058), (6, .int x6_lp17058), (5, .int z17050), (4, .int x4_lp16906), (3, .int x3_lp16906), (0, .ref (g 0)), (1, .int p0), (2, .int p1)]) hx hb dX12_best_305 hl (by decide) rfl (fun ls hl => ?_)
                                    refine lv_iload hx hb dX12_best_307 (lv_at hl 2 rfl) ?_
                                    refine lv_iload hx hb dX12_best_309 (lv_at hl 4 rfl) ?_
                                    refine lv_ixor hx hb dX12_best_311 ?_
                                    refine lv_topi (fun z17103 e17104 => ?_)
                                    refine lv_istore (lv' := [(11, .int z17103), (10, .int z17100), (9, .int r17075), (8, .int x8_lp17058), (7, .int x7_lp17058), (6, .int x6_lp17058), (5, .int z17050), (4, .int x4_lp16906), (3, .int x3_lp16906), (0, .ref (g 0)), (1, .int p0), (2, .int p1)]) hx hb dX12_best_312 hl (by decide) rfl (fun ls hl => ?_)
                                    refine lv_iload hx hb dX12_best_314 (lv_at hl 2 rfl) ?_
                                    refine lv_iload hx hb dX12_best_316 (lv_at hl 4 rfl) ?_
                                    refine lv_icmp_gt (tgt := 361) hx hb dX12_best_318 (by decide) (fun c17106 => ?_) (fun c17106 => ?_)
                                    · skip
                                      have t17107 := cv_lt (a := x7_lp17058.toInt) rfl (b := r17075.toInt) rfl c17106
                                      obtain ⟨z17108, e17109⟩ : ∃ y : Int32, y = x8_lp17058 + 1 := ⟨_, rfl⟩
                                      try (have t17110 := tadd e17109 rfl (b := 1) (by decide) (by omega))
                                      refine lv_iinc (v := z17108) (lv' := [(8, .int z17108), (11, .int z17103), (10, .int z17100), (9, .int r17075), (7, .int x7_lp17058), (6, .int x6_lp17058), (5, .int z17050), (4, .int x4_lp16906), (3, .int x3_lp16906), (0, .ref (g 0)), (1, .int p0), (2, .int p1)]) hx hb dX12_best_361 hl (k := 3) rfl (by rw [e17109]; rfl) (by decide) rfl (fun ls hl => ?_)
                                      refine lv_goto (tgt := 200) hx hb dX12_best_364 (by decide) ?_
                                      exact ih_lp17058 z17108 x7_lp17058 x6_lp17058 v17076 F17077 _ _ _ (by omega) (by omega) (frC (by decide) hf17078 (frC (by decide) hf_lp17069 hf_lp17058)) hI hF hP hS (lv_sub hl [0, 4, 5, 6, 7, 8, 9, 10, 11] rfl)
                                    · skip
                                      have t17111 := cv_nlt (a := x7_lp17058.toInt) rfl (b := r17075.toInt) rfl c17106
                                      refine lv_iload hx hb dX12_best_321 (lv_at hl 2 rfl) ?_
                                      refine lv_iload hx hb dX12_best_323 (lv_at hl 4 rfl) ?_
                                      refine lv_icmp_ne (tgt := 353) hx hb dX12_best_325 (by decide) (fun c17112 => ?_) (fun c17112 => ?_)
                                      · skip
                                        have t17113 := cv_ne (a := r17075.toInt) rfl (b := x7_lp17058.toInt) rfl c17112
                                        refine lv_iload hx hb dX12_best_353 (lv_at hl 3 rfl) ?_
                                        refine lv_istore (lv' := [(6, .int x8_lp17058), (11, .int z17103), (10, .int z17100), (9, .int r17075), (8, .int x8_lp17058), (7, .int x7_lp17058), (5, .int z17050), (4, .int x4_lp16906), (3, .int x3_lp16906), (0, .ref (g 0)), (1, .int p0), (2, .int p1)]) hx hb dX12_best_355 hl (by decide) rfl (fun ls hl => ?_)
                                        refine lv_iload hx hb dX12_best_357 (lv_at hl 3 rfl) ?_
                                        refine lv_istore (lv' := [(7, .int r17075), (6, .int x8_lp17058), (11, .int z17103), (10, .int z17100), (9, .int r17075), (8, .int x8_lp17058), (5, .int z17050), (4, .int x4_lp16906), (3, .int x3_lp16906), (0, .ref (g 0)), (1, .int p0), (2, .int p1)]) hx hb dX12_best_359 hl (by decide) rfl (fun ls hl => ?_)
                                        obtain ⟨z17114, e17115⟩ : ∃ y : Int32, y = x8_lp17058 + 1 := ⟨_, rfl⟩
                                        try (have t17116 := tadd e17115 rfl (b := 1) (by decide) (by omega))
                                        refine lv_iinc (v := z17114) (lv' := [(8, .int z17114), (7, .int r17075), (6, .int x8_lp17058), (11, .int z17103), (10, .int z17100), (9, .int r17075), (5, .int z17050), (4, .int x4_lp16906), (3, .int x3_lp16906), (0, .ref (g 0)), (1, .int p0), (2, .int p1)]) hx hb dX12_best_361 hl (k := 5) rfl (by rw [e17115]; rfl) (by decide) rfl (fun ls hl => ?_)
                                        refine lv_goto (tgt := 200) hx hb dX12_best_364 (by decide) ?_
                                        exact ih_lp17058 z17114 r17075 x8_lp17058 v17076 F17077 _ _ _ (by omega) (by omega) (frC (by decide) hf17078 (frC (by decide) hf_lp17069 hf_lp17058)) hI hF hP hS (lv_sub hl [0, 1, 2, 6, 7, 8, 9, 10, 11] rfl)
                                      · skip
                                        have t17117 := cv_eq (a := r17075.toInt) rfl (b := x7_lp17058.toInt) rfl c17112
                                        refine lv_iload hx hb dX12_best_328 (lv_at hl 1 rfl) ?_
                                        refine lv_if_gt (tgt := 361) hx hb dX12_best_330 (by decide) (fun c17118 => ?_) (fun c17118 => ?_)
                                        · skip
                                          have t17119 := cv_lt (a := 0) (by decide) (b := z17100.toInt) rfl c17118
                                          obtain ⟨z17120, e17121⟩ : ∃ y : Int32, y = x8_lp17058 + 1 := ⟨_, rfl⟩
                                          try (have t17122 := tadd e17121 rfl (b := 1) (by decide) (by omega))
                                          refine lv_iinc (v := z17120) (lv' := [(8, .int z17120), (11, .int z17103), (10, .int z17100), (9, .int r17075), (7, .int x7_lp17058), (6, .int x6_lp17058), (5, .int z17050), (4, .int x4_lp16906), (3, .int x3_lp16906), (0, .ref (g 0)), (1, .int p0), (2, .int p1)]) hx hb dX12_best_361 hl (k := 3) rfl (by rw [e17121]; rfl) (by decide) rfl (fun ls hl => ?_)
                                          refine lv_goto (tgt := 200) hx hb dX12_best_364 (by decide) ?_
                                          exact ih_lp17058 z17120 x7_lp17058 x6_lp17058 v17076 F17077 _ _ _ (by omega) (by omega) (frC (by decide) hf17078 (frC (by decide) hf_lp17069 hf_lp17058)) hI hF hP hS (lv_sub hl [0, 4, 5, 6, 7, 8, 9, 10, 11] rfl)
                                        · skip
                                          have t17123 := cv_nlt (a := 0) (by decide) (b := z17100.toInt) rfl c17118
                                          refine lv_iload hx hb dX12_best_333 (lv_at hl 1 rfl) ?_
                                          refine lv_if_ne (tgt := 353) hx hb dX12_best_335 (by decide) (fun c17124 => ?_) (fun c17124 => ?_)
                                          · skip
                                            have t17125 := cv_ne (a := z17100.toInt) rfl (b := 0) (by decide) c17124
                                            refine lv_iload hx hb dX12_best_353 (lv_at hl 3 rfl) ?_
                                            refine lv_istore (lv' := [(6, .int x8_lp17058), (11, .int z17103), (10, .int z17100), (9, .int r17075), (8, .int x8_lp17058), (7, .int x7_lp17058), (5, .int z17050), (4, .int x4_lp16906), (3, .int x3_lp16906), (0, .ref (g 0)), (1, .int p0), (2, .int p1)]) hx hb dX12_best_355 hl (by decide) rfl (fun ls hl => ?_)
                                            refine lv_iload hx hb dX12_best_357 (lv_at hl 3 rfl) ?_
                                            refine lv_istore (lv' := [(7, .int r17075), (6, .int x8_lp17058), (11, .int z17103), (10, .int z17100), (9, .int r17075), (8, .int x8_lp17058), (5, .int z17050), (4, .int x4_lp16906), (3, .int x3_lp16906), (0, .ref (g 0)), (1, .int p0), (2, .int p1)]) hx hb dX12_best_359 hl (by decide) rfl (fun ls hl => ?_)
                                            obtain ⟨z17126, e17127⟩ : ∃ y : Int32, y = x8_lp17058 + 1 := ⟨_, rfl⟩
                                            try (have t17128 := tadd e17127 rfl (b := 1) (by decide) (by omega))
                                            refine lv_iinc (v := z17126) (lv' := [(8, .int z17126), (7, .int r17075), (6, .int x8_lp17058), (11, .int z17103), (10, .int z17100), (9, .int r17075), (5, .int z17050), (4, .int x4_lp16906), (3, .int x3_lp16906), (0, .ref (g 0)), (1, .int p0), (2, .int p1)]) hx hb dX12_best_361 hl (k := 5) rfl (by rw [e17127]; rfl) (by decide) rfl (fun ls hl => ?_)
                                            refine lv_goto (tgt := 200) hx hb dX12_best_364 (by decide) ?_
                                            exact ih_lp17058 z17126 r17075 x8_lp17058 v17076 F17077 _ _ _ (by omega) (by omega) (frC (by decide) hf17078 (frC (by decide) hf_lp17069 hf_lp17058)) hI hF hP hS (lv_sub hl [0, 1, 2, 6, 7, 8, 9, 10, 11] rfl)
                                          · skip
                                            have t17129 := cv_eq (a := z17100.toInt) rfl (b := 0) (by decide) c17124
                                            refine lv_iload hx hb dX12_best_338 (lv_at hl 3 rfl) ?_
                                            refine lv_iload hx hb dX12_best_340 (lv_at hl 0 rfl) ?_
                                            refine lv_iand hx hb dX12_best_342 ?_
                                            refine lv_topi (fun z17130 e17131 => ?_)
                                            refine lv_iload hx hb dX12_best_343 (lv_at hl 0 rfl) ?_
                                            refine lv_ineg hx hb dX12_best_345 ?_
                                            refine lv_topi (fun z17133 e17134 => ?_)
                                            refine lv_iand hx hb dX12_best_346 ?_
                                            refine lv_topi (fun z17135 e17136 => ?_)
                                            refine lv_if_ne (tgt := 353) hx hb dX12_best_347 (by decide) (fun c17138 => ?_) (fun c17138 => ?_)
                                            · skip
                                              have t17139 := cv_ne (a := z17135.toInt) rfl (b := 0) (by decide) c17138
                                              refine lv_iload hx hb dX12_best_353 (lv_at hl 3 rfl) ?_
                                              refine lv_istore (lv' := [(6, .int x8_lp17058), (11, .int z17103), (10, .int z17100), (9, .int r17075), (8, .int x8_lp17058), (7, .int x7_lp17058), (5, .int z17050), (4, .int x4_lp16906), (3, .int x3_lp16906), (0, .ref (g 0)), (1, .int p0), (2, .int p1)]) hx hb dX12_best_355 hl (by decide) rfl (fun ls hl => ?_)
                                              refine lv_iload hx hb dX12_best_357 (lv_at hl 3 rfl) ?_
                                              refine lv_istore (lv' := [(7, .int r17075), (6, .int x8_lp17058), (11, .int z17103), (10, .int z17100), (9, .int r17075), (8, .int x8_lp17058), (5, .int z17050), (4, .int x4_lp16906), (3, .int x3_lp16906), (0, .ref (g 0)), (1, .int p0), (2, .int p1)]) hx hb dX12_best_359 hl (by decide) rfl (fun ls hl => ?_)
                                              obtain ⟨z17140, e17141⟩ : ∃ y : Int32, y = x8_lp17058 + 1 := ⟨_, rfl⟩
                                              try (have t17142 := tadd e17141 rfl (b := 1) (by decide) (by omega))
                                              refine lv_iinc (v := z17140) (lv' := [(8, .int z17140), (7, .int r17075), (6, .int x8_lp17058), (11, .int z17103), (10, .int z17100), (9, .int r17075), (5, .int z17050), (4, .int x4_lp16906), (3, .int x3_lp16906), (0, .ref (g 0)), (1, .int p0), (2, .int p1)]) hx hb dX12_best_361 hl (k := 5) rfl (by rw [e17141]; rfl) (by decide) rfl (fun ls hl => ?_)
                                              refine lv_goto (tgt := 200) hx hb dX12_best_364 (by decide) ?_
                                              exact ih_lp17058 z17140 r17075 x8_lp17058 v17076 F17077 _ _ _ (by omega) (by omega) (frC (by decide) hf17078 (frC (by decide) hf_lp17069 hf_lp17058)) hI hF hP hS (lv_sub hl [0, 1, 2, 6, 7, 8, 9, 10, 11] rfl)
                                            · skip
                                              have t17143 := cv_eq (a := z17135.toInt) rfl (b := 0) (by decide) c17138
                                              refine lv_goto (tgt := 361) hx hb dX12_best_350 (by decide) ?_
                                              obtain ⟨z17144, e17145⟩ : ∃ y : Int32, y = x8_lp17058 + 1 := ⟨_, rfl⟩
                                              try (have t17146 := tadd e17145 rfl (b := 1) (by decide) (by omega))
                                              refine lv_iinc (v := z17144) (lv' := [(8, .int z17144), (11, .int z17103), (10, .int z17100), (9, .int r17075), (7, .int x7_lp17058), (6, .int x6_lp17058), (5, .int z17050), (4, .int x4_lp16906), (3, .int x3_lp16906), (0, .ref (g 0)), (1, .int p0), (2, .int p1)]) hx hb dX12_best_361 hl (k := 3) rfl (by rw [e17145]; rfl) (by decide) rfl (fun ls hl => ?_)
                                              refine lv_goto (tgt := 200) hx hb dX12_best_364 (by decide) ?_
                                              exact ih_lp17058 z17144 x7_lp17058 x6_lp17058 v17076 F17077 _ _ _ (by omega) (by omega) (frC (by decide) hf17078 (frC (by decide) hf_lp17069 hf_lp17058)) hI hF hP hS (lv_sub hl [0, 4, 5, 6, 7, 8, 9, 10, 11] rfl)
                                · skip
                                  have t17147 := cv_nle (a := x3_lp16906.toInt) rfl (b := x9_lp17069.toInt) rfl c17071
                                  refine lv_aload_n hx hb dX12_best_230 rfl (lv_at hl 7 rfl) ?_
                                  refine va_get (D := (dC, dI)) (ci := 12) (v := .ref (g 42)) (C := RX12) (T := TX12) (N := 63) hx hb hwd inA_X12 hown hK hP 0 rfl rfl 56 (by decide) (hwd _ wk_224) (fun _ h9 => h9) rfl dX12_best_231 ?_
                                  refine lv_aload_n hx hb dX12_best_234 rfl (lv_at hl 7 rfl) ?_
                                  refine va_get (D := (dC, dI)) (ci := 12) (v := .ref (g 43)) (C := RX12) (T := TX12) (N := 63) hx hb hwd inA_X12 hown hK hP 0 rfl rfl 59 (by decide) (hwd _ wk_225) (fun _ h9 => h9) rfl dX12_best_235 ?_
                                  refine lv_iload hx hb dX12_best_238 (lv_at hl 0 rfl) ?_
                                  refine va_iald hx hb hK hP 43 42 rfl rfl (i := x9_lp17069) (vin (a := x9_lp17069.toInt) rfl (by omega)) dX12_best_240 ?_
                                  refine lv_topi (fun z17148 e17149 => ?_)
                                  have t17150 : 0 ≤ z17148.toInt ∧ z17148.toInt ≤ 99 := by rw [e17149]; exact hI.2 43 _ _ rfl _
                                  refine lv_iload hx hb dX12_best_241 (lv_at hl 1 rfl) ?_
                                  refine lv_iload hx hb dX12_best_243 (lv_at hl 0 rfl) ?_
                                  refine lv_ishr hx hb dX12_best_245 ?_
                                  refine lv_topi (fun z17151 e17152 => ?_)
                                  refine lv_iconst (v := 1) hx hb dX12_best_246 (by decide) ?_
                                  refine lv_iand hx hb dX12_best_247 ?_
                                  refine lv_topi (fun z17154 e17155 => ?_)
                                  refine lv_iconst (v := 1) hx hb dX12_best_248 (by decide) ?_
                                  refine lv_icmp_ne (tgt := 256) hx hb dX12_best_249 (by decide) (fun c17157 => ?_) (fun c17157 => ?_)
                                  · skip
                                    have t17158 := cv_ne (a := z17154.toInt) rfl (b := 1) (by decide) c17157
                                    refine lv_iconst (v := 0) hx hb dX12_best_256 (by decide) ?_
                                    refine va_zast hx hb hK hP (DM hg) hS 42 41 rfl rfl (i := z17148) (x := 0) (vin (a := z17148.toInt) rfl (by omega)) dX12_best_257 (fun H locs hP _ hS => ?_)
                                    have hP := va_P_eq (sM_42 g c _ _ _ _) hP
                                    have hI := IM.store0 hI 42 (z17148 : Int32).toNatClampNeg (vp_nar .boolean 0) rfl
                                    have hF := frUF (k := 42) (f := upd (F_lp17069 42) (z17148 : Int32).toNatClampNeg (vp_nar .boolean 0)) (by decide) hF
                                    have hP : va_P (dC, dI) classes (wM g c v_lp17069 (va_up F_lp17069 42 (upd (F_lp17069 42) (z17148 : Int32).toNatClampNeg (vp_nar .boolean 0))) rc) H := hP
                                    generalize (va_up F_lp17069 42 (upd (F_lp17069 42) (z17148 : Int32).toNatClampNeg (vp_nar .boolean 0))) = F17159 at hP hI hF
                                    obtain ⟨z17160, e17161⟩ : ∃ y : Int32, y = x9_lp17069 + 1 := ⟨_, rfl⟩
                                    try (have t17162 := tadd e17161 rfl (b := 1) (by decide) (by omega))
                                    refine lv_iinc (v := z17160) (lv' := [(9, .int z17160), (8, .int x8_lp17058), (7, .int x7_lp17058), (6, .int x6_lp17058), (5, .int z17050), (4, .int x4_lp16906), (3, .int x3_lp16906), (0, .ref (g 0)), (1, .int p0), (2, .int p1)]) hx hb dX12_best_258 hl (k := 0) rfl (by rw [e17161]; rfl) (by decide) rfl (fun ls hl => ?_)
                                    refine lv_goto (tgt := 224) hx hb dX12_best_261 (by decide) ?_
                                    exact ih_lp17069 z17160 v_lp17069 F17159 _ _ _ (by omega) (by omega) hf_lp17069 hI hF hP hS (lv_sub hl [0, 1, 2, 3, 4, 5, 6, 7, 8, 9] rfl)
                                  · skip
                                    have t17163 := cv_eq (a := z17154.toInt) rfl (b := 1) (by decide) c17157
                                    refine lv_iconst (v := 1) hx hb dX12_best_252 (by decide) ?_
                                    refine lv_goto (tgt := 257) hx hb dX12_best_253 (by decide) ?_
                                    refine va_zast hx hb hK hP (DM hg) hS 42 41 rfl rfl (i := z17148) (x := 1) (vin (a := z17148.toInt) rfl (by omega)) dX12_best_257 (fun H locs hP _ hS => ?_)
                                    have hP := va_P_eq (sM_42 g c _ _ _ _) hP
                                    have hI := IM.store0 hI 42 (z17148 : Int32).toNatClampNeg (vp_nar .boolean 1) rfl
                                    have hF := frUF (k := 42) (f := upd (F_lp17069 42) (z17148 : Int32).toNatClampNeg (vp_nar .boolean 1)) (by decide) hF
                                    have hP : va_P (dC, dI) classes (wM g c v_lp17069 (va_up F_lp17069 42 (upd (F_lp17069 42) (z17148 : Int32).toNatClampNeg (vp_nar .boolean 1))) rc) H := hP
                                    generalize (va_up F_lp17069 42 (upd (F_lp17069 42) (z17148 : Int32).toNatClampNeg (vp_nar .boolean 1))) = F17164 at hP hI hF
                                    obtain ⟨z17165, e17166⟩ : ∃ y : Int32, y = x9_lp17069 + 1 := ⟨_, rfl⟩
                                    try (have t17167 := tadd e17166 rfl (b := 1) (by decide) (by omega))
                                    refine lv_iinc (v := z17165) (lv' := [(9, .int z17165), (8, .int x8_lp17058), (7, .int x7_lp17058), (6, .int x6_lp17058), (5, .int z17050), (4, .int x4_lp16906), (3, .int x3_lp16906), (0, .ref (g 0)), (1, .int p0), (2, .int p1)]) hx hb dX12_best_258 hl (k := 0) rfl (by rw [e17166]; rfl) (by decide) rfl (fun ls hl => ?_)
                                    refine lv_goto (tgt := 224) hx hb dX12_best_261 (by decide) ?_
                                    exact ih_lp17069 z17165 v_lp17069 F17164 _ _ _ (by omega) (by omega) hf_lp17069 hI hF hP hS (lv_sub hl [0, 1, 2, 3, 4, 5, 6, 7, 8, 9] rfl)
                            obtain ⟨n9, hn9⟩ : ∃ n : Nat, 2147483648 - 0 ≤ (n : Int) := ⟨((2147483648 - 0 : Int)).toNat, by omega⟩
                            exact lp17069 n9 0 v_lp17058 F_lp17058 H _ ls (by have : (0 : Int32).toInt = 0 := (by decide); omega) (by have : (0 : Int32).toInt = 0 := (by decide); omega) (fun _ _ => rfl) hI hF hP hS hl
                          · skip
                            have t17168 := cv_ne (a := r17066.toInt) rfl (b := z17050.toInt) rfl c17067
                            refine lv_goto (tgt := 361) hx hb dX12_best_218 (by decide) ?_
                            obtain ⟨z17169, e17170⟩ : ∃ y : Int32, y = x8_lp17058 + 1 := ⟨_, rfl⟩
                            try (have t17171 := tadd e17170 rfl (b := 1) (by decide) (by omega))
                            refine lv_iinc (v := z17169) (lv' := [(8, .int z17169), (7, .int x7_lp17058), (6, .int x6_lp17058), (5, .int z17050), (4, .int x4_lp16906), (3, .int x3_lp16906), (0, .ref (g 0)), (1, .int p0), (2, .int p1)]) hx hb dX12_best_361 hl (k := 0) rfl (by rw [e17170]; rfl) (by decide) rfl (fun ls hl => ?_)
                            refine lv_goto (tgt := 200) hx hb dX12_best_364 (by decide) ?_
                            exact ih_lp17058 z17169 x7_lp17058 x6_lp17058 v_lp17058 F_lp17058 _ _ _ (by omega) (by omega) hf_lp17058 hI hF hP hS (lv_sub hl [0, 1, 2, 3, 4, 5, 6, 7, 8] rfl)
                    obtain ⟨n9, hn9⟩ : ∃ n : Nat, 2147483648 - 0 ≤ (n : Int) := ⟨((2147483648 - 0 : Int)).toNat, by omega⟩
                    exact lp17058 n9 0 0 (-1) v17054 F17055 H _ ls (by have : (0 : Int32).toInt = 0 := (by decide); have : (0 : Int32).toInt = 0 := (by decide); have : ((-1) : Int32).toInt = (-1) := (by decide); omega) (by have : (0 : Int32).toInt = 0 := (by decide); have : (0 : Int32).toInt = 0 := (by decide); have : ((-1) : Int32).toInt = (-1) := (by decide); omega) (fun _ _ => rfl) hI hF hP hS hl
                · skip
                  have t17172 := cv_nle (a := (v 14).toInt) rfl (b := x5_lp16906.toInt) rfl c16911
                  refine lv_aload_n hx hb dX12_best_68 rfl (lv_at hl 3 rfl) ?_
                  refine va_get (D := (dC, dI)) (ci := 12) (v := .ref (g 11)) (C := RX12) (T := TX12) (N := 63) hx hb hwd inA_X12 hown hK hP 0 rfl rfl 15 (by decide) (hwd _ wk_192) (fun _ h9 => h9) rfl dX12_best_69 ?_
                  refine lv_iload hx hb dX12_best_72 (lv_at hl 0 rfl) ?_
                  refine va_iald hx hb hK hP 11 10 rfl rfl (i := x5_lp16906) (vin (a := x5_lp16906.toInt) rfl (by omega)) dX12_best_74 ?_
                  refine lv_topi (fun z17173 e17174 => ?_)
                  have t17175 : 0 ≤ z17173.toInt ∧ z17173.toInt ≤ 9 := by rw [e17174]; exact hI.2 11 _ _ rfl _
                  have e17174 : z17173 = F 11 (x5_lp16906 : Int32).toNatClampNeg := e17174.trans (congrFun (hF 11 (by decide)) _)
                  refine lv_iload_n hx hb dX12_best_75 rfl (lv_at hl 5 rfl) ?_
                  refine lv_icmp_ne (tgt := 148) hx hb dX12_best_76 (by decide) (fun c17176 => ?_) (fun c17176 => ?_)
                  · skip
                    have t17177 := cv_ne (a := z17173.toInt) rfl (b := p1.toInt) rfl c17176
                    obtain ⟨z17178, e17179⟩ : ∃ y : Int32, y = x5_lp16906 + 1 := ⟨_, rfl⟩
                    try (have t17180 := tadd e17179 rfl (b := 1) (by decide) (by omega))
                    refine lv_iinc (v := z17178) (lv' := [(5, .int z17178), (4, .int x4_lp16906), (3, .int x3_lp16906), (0, .ref (g 0)), (1, .int p0), (2, .int p1)]) hx hb dX12_best_148 hl (k := 0) rfl (by rw [e17179]; rfl) (by decide) rfl (fun ls hl => ?_)
                    refine lv_goto (tgt := 59) hx hb dX12_best_151 (by decide) ?_
                    exact ih_lp16906 z17178 x4_lp16906 x3_lp16906 v_lp16906 F_lp16906 _ _ _ (by omega) (by omega) (by omega) (by omega) hf_lp16906 hI hF hP hS (lv_sub hl [0, 1, 2, 3, 4, 5] rfl)
                  · skip
                    have t17181 := cv_eq (a := z17173.toInt) rfl (b := p1.toInt) rfl c17176
                    refine lv_aload_n hx hb dX12_best_79 rfl (lv_at hl 3 rfl) ?_
                    refine va_get (D := (dC, dI)) (ci := 12) (v := .ref (g 13)) (C := RX12) (T := TX12) (N := 63) hx hb hwd inA_X12 hown hK hP 0 rfl rfl 17 (by decide) (hwd _ wk_194) (fun _ h9 => h9) rfl dX12_best_80 ?_
                    refine lv_iload hx hb dX12_best_83 (lv_at hl 0 rfl) ?_
                    refine va_iald hx hb hK hP 13 12 rfl rfl (i := x5_lp16906) (vin (a := x5_lp16906.toInt) rfl (by omega)) dX12_best_85 ?_
                    refine lv_topi (fun z17182 e17183 => ?_)
                    have t17184 : 0 ≤ z17182.toInt ∧ z17182.toInt ≤ 12 := by rw [e17183]; exact hI.2 13 _ _ rfl _
                    have e17183 : z17182 = F 13 (x5_lp16906 : Int32).toNatClampNeg := e17183.trans (congrFun (hF 13 (by decide)) _)
                    refine lv_iload_n hx hb dX12_best_86 rfl (lv_at hl 4 rfl) ?_
                    refine lv_icmp_eq (tgt := 105) hx hb dX12_best_87 (by decide) (fun c17185 => ?_) (fun c17185 => ?_)
                    · skip
                      have t17186 := cv_eq (a := z17182.toInt) rfl (b := p0.toInt) rfl c17185
                      refine lv_iload_n hx hb dX12_best_105 rfl (lv_at hl 2 rfl) ?_
                      refine lv_bipush (v := 8) hx hb dX12_best_106 (by decide) ?_
                      refine lv_icmp_ne (tgt := 114) hx hb dX12_best_108 (by decide) (fun c17187 => ?_) (fun c17187 => ?_)
                      · skip
                        have t17188 := cv_ne (a := x3_lp16906.toInt) rfl (b := 8) (by decide) c17187
                        refine lv_aload_n hx hb dX12_best_114 rfl (lv_at hl 3 rfl) ?_
                        refine va_get (D := (dC, dI)) (ci := 12) (v := .ref (g 43)) (C := RX12) (T := TX12) (N := 63) hx hb hwd inA_X12 hown hK hP 0 rfl rfl 59 (by decide) (hwd _ wk_225) (fun _ h9 => h9) rfl dX12_best_115 ?_
                        refine lv_iload_n hx hb dX12_best_118 rfl (lv_at hl 2 rfl) ?_
                        refine lv_iload hx hb dX12_best_119 (lv_at hl 0 rfl) ?_
                        refine va_iast hx hb hK hP (DM hg) hS 43 42 rfl rfl (i := x3_lp16906) (x := x5_lp16906) (vin (a := x3_lp16906.toInt) rfl (by omega)) dX12_best_121 (fun H locs hP _ hS => ?_)
                        have hP := va_P_eq (sM_43 g c _ _ _ _) hP
                        have hI := IM.store hI 43 (x3_lp16906 : Int32).toNatClampNeg x5_lp16906 rfl (by omega)
                        have hF := frUF (k := 43) (f := upd (F_lp16906 43) (x3_lp16906 : Int32).toNatClampNeg x5_lp16906) (by decide) hF
                        have hP : va_P (dC, dI) classes (wM g c v_lp16906 (va_up F_lp16906 43 (upd (F_lp16906 43) (x3_lp16906 : Int32).toNatClampNeg x5_lp16906)) rc) H := hP
                        generalize (va_up F_lp16906 43 (upd (F_lp16906 43) (x3_lp16906 : Int32).toNatClampNeg x5_lp16906)) = F17189 at hP hI hF
                        refine lv_iload hx hb dX12_best_122 (lv_at hl 1 rfl) ?_
                        refine lv_aload_n hx hb dX12_best_124 rfl (lv_at hl 3 rfl) ?_
                        refine va_get (D := (dC, dI)) (ci := 12) (v := .ref (g 13)) (C := RX12) (T := TX12) (N := 63) hx hb hwd inA_X12 hown hK hP 0 rfl rfl 17 (by decide) (hwd _ wk_194) (fun _ h9 => h9) rfl dX12_best_125 ?_
                        refine lv_iload hx hb dX12_best_128 (lv_at hl 0 rfl) ?_
                        refine va_iald hx hb hK hP 13 12 rfl rfl (i := x5_lp16906) (vin (a := x5_lp16906.toInt) rfl (by omega)) dX12_best_130 ?_
                        refine lv_topi (fun z17190 e17191 => ?_)
                        have t17192 : 0 ≤ z17190.toInt ∧ z17190.toInt ≤ 12 := by rw [e17191]; exact hI.2 13 _ _ rfl _
                        have e17191 : z17190 = F 13 (x5_lp16906 : Int32).toNatClampNeg := e17191.trans (congrFun (hF 13 (by decide)) _)
                        refine lv_iload_n hx hb dX12_best_131 rfl (lv_at hl 4 rfl) ?_
                        refine lv_icmp_ne (tgt := 141) hx hb dX12_best_132 (by decide) (fun c17193 => ?_) (fun c17193 => ?_)
                        · skip
                          have t17194 := cv_ne (a := z17190.toInt) rfl (b := p0.toInt) rfl c17193
                          refine lv_iconst (v := 0) hx hb dX12_best_141 (by decide) ?_
                          refine lv_ior hx hb dX12_best_142 ?_
                          refine lv_topi (fun z17195 e17196 => ?_)
                          refine lv_istore (lv' := [(4, .int z17195), (5, .int x5_lp16906), (3, .int x3_lp16906), (0, .ref (g 0)), (1, .int p0), (2, .int p1)]) hx hb dX12_best_143 hl (by decide) rfl (fun ls hl => ?_)
                          obtain ⟨z17198, e17199⟩ : ∃ y : Int32, y = x3_lp16906 + 1 := ⟨_, rfl⟩
                          try (have t17200 := tadd e17199 rfl (b := 1) (by decide) (by omega))
                          refine lv_iinc (v := z17198) (lv' := [(3, .int z17198), (4, .int z17195), (5, .int x5_lp16906), (0, .ref (g 0)), (1, .int p0), (2, .int p1)]) hx hb dX12_best_145 hl (k := 2) rfl (by rw [e17199]; rfl) (by decide) rfl (fun ls hl => ?_)
                          obtain ⟨z17201, e17202⟩ : ∃ y : Int32, y = x5_lp16906 + 1 := ⟨_, rfl⟩
                          try (have t17203 := tadd e17202 rfl (b := 1) (by decide) (by omega))
                          refine lv_iinc (v := z17201) (lv' := [(5, .int z17201), (3, .int z17198), (4, .int z17195), (0, .ref (g 0)), (1, .int p0), (2, .int p1)]) hx hb dX12_best_148 hl (k := 2) rfl (by rw [e17202]; rfl) (by decide) rfl (fun ls hl => ?_)
                          refine lv_goto (tgt := 59) hx hb dX12_best_151 (by decide) ?_
                          exact ih_lp16906 z17201 z17195 z17198 v_lp16906 F17189 _ _ _ (by omega) (by omega) (by omega) (by omega) hf_lp16906 hI hF hP hS (lv_sub hl [0, 2, 1, 3, 4, 5] rfl)
                        · skip
                          have t17204 := cv_eq (a := z17190.toInt) rfl (b := p0.toInt) rfl c17193
                          refine lv_iconst (v := 1) hx hb dX12_best_135 (by decide) ?_
                          refine lv_iload_n hx hb dX12_best_136 rfl (lv_at hl 2 rfl) ?_
                          refine lv_ishl hx hb dX12_best_137 ?_
                          refine lv_topi (fun z17205 e17206 => ?_)
                          have rr_z17205 := i32_rng z17205
                          refine lv_goto (tgt := 142) hx hb dX12_best_138 (by decide) ?_
                          refine lv_ior hx hb dX12_best_142 ?_
                          refine lv_topi (fun z17208 e17209 => ?_)
                          refine lv_istore (lv' := [(4, .int z17208), (5, .int x5_lp16906), (3, .int x3_lp16906), (0, .ref (g 0)), (1, .int p0), (2, .int p1)]) hx hb dX12_best_143 hl (by decide) rfl (fun ls hl => ?_)
                          obtain ⟨z17211, e17212⟩ : ∃ y : Int32, y = x3_lp16906 + 1 := ⟨_, rfl⟩
                          try (have t17213 := tadd e17212 rfl (b := 1) (by decide) (by omega))
                          refine lv_iinc (v := z17211) (lv' := [(3, .int z17211), (4, .int z17208), (5, .int x5_lp16906), (0, .ref (g 0)), (1, .int p0), (2, .int p1)]) hx hb dX12_best_145 hl (k := 2) rfl (by rw [e17212]; rfl) (by decide) rfl (fun ls hl => ?_)
                          obtain ⟨z17214, e17215⟩ : ∃ y : Int32, y = x5_lp16906 + 1 := ⟨_, rfl⟩
                          try (have t17216 := tadd e17215 rfl (b := 1) (by decide) (by omega))
                          refine lv_iinc (v := z17214) (lv' := [(5, .int z17214), (3, .int z17211), (4, .int z17208), (0, .ref (g 0)), (1, .int p0), (2, .int p1)]) hx hb dX12_best_148 hl (k := 2) rfl (by rw [e17215]; rfl) (by decide) rfl (fun ls hl => ?_)
                          refine lv_goto (tgt := 59) hx hb dX12_best_151 (by decide) ?_
                          exact ih_lp16906 z17214 z17208 z17211 v_lp16906 F17189 _ _ _ (by omega) (by omega) (by omega) (by omega) hf_lp16906 hI hF hP hS (lv_sub hl [0, 2, 1, 3, 4, 5] rfl)
                      · skip
                        have t17217 := cv_eq (a := x3_lp16906.toInt) rfl (b := 8) (by decide) c17187
                        refine lv_bipush (v := (-4)) hx hb dX12_best_111 (by decide) ?_
                        have hP9 : va_P (dC, dI) classes (wM g c v_lp16906 F_lp16906 rc) H := hP
                        exact W.iret (v := (-4)) hx hb hr (fun t ht hW => ⟨⟨(-4), (v_lp16906, F_lp16906, rc), rfl, ⟨hI, rfl, (frC (by decide) hf_lp16906 (fun _ _ => rfl)), hF, trivial⟩, (by show va_P _ _ _ t.heap; rw [ht]; exact hP9)⟩, hS.F ht⟩) hS.2.2 dX12_best_113
                    · skip
                      have t17218 := cv_ne (a := z17182.toInt) rfl (b := p0.toInt) rfl c17185
                      refine lv_aload_n hx hb dX12_best_90 rfl (lv_at hl 3 rfl) ?_
                      refine va_get (D := (dC, dI)) (ci := 12) (v := .ref (g 13)) (C := RX12) (T := TX12) (N := 63) hx hb hwd inA_X12 hown hK hP 0 rfl rfl 17 (by decide) (hwd _ wk_194) (fun _ h9 => h9) rfl dX12_best_91 ?_
                      refine lv_iload hx hb dX12_best_94 (lv_at hl 0 rfl) ?_
                      refine va_iald hx hb hK hP 13 12 rfl rfl (i := x5_lp16906) (vin (a := x5_lp16906.toInt) rfl (by omega)) dX12_best_96 ?_
                      refine lv_topi (fun z17219 e17220 => ?_)
                      have t17221 : 0 ≤ z17219.toInt ∧ z17219.toInt ≤ 12 := by rw [e17220]; exact hI.2 13 _ _ rfl _
                      have e17220 : z17219 = F 13 (x5_lp16906 : Int32).toNatClampNeg := e17220.trans (congrFun (hF 13 (by decide)) _)
                      refine lv_bipush (v := 11) hx hb dX12_best_97 (by decide) ?_
                      refine lv_icmp_eq (tgt := 105) hx hb dX12_best_99 (by decide) (fun c17222 => ?_) (fun c17222 => ?_)
                      · skip
                        have t17223 := cv_eq (a := z17219.toInt) rfl (b := 11) (by decide) c17222
                        refine lv_iload_n hx hb dX12_best_105 rfl (lv_at hl 2 rfl) ?_
                        refine lv_bipush (v := 8) hx hb dX12_best_106 (by decide) ?_
                        refine lv_icmp_ne (tgt := 114) hx hb dX12_best_108 (by decide) (fun c17224 => ?_) (fun c17224 => ?_)
                        · skip
                          have t17225 := cv_ne (a := x3_lp16906.toInt) rfl (b := 8) (by decide) c17224
                          refine lv_aload_n hx hb dX12_best_114 rfl (lv_at hl 3 rfl) ?_
                          refine va_get (D := (dC, dI)) (ci := 12) (v := .ref (g 43)) (C := RX12) (T := TX12) (N := 63) hx hb hwd inA_X12 hown hK hP 0 rfl rfl 59 (by decide) (hwd _ wk_225) (fun _ h9 => h9) rfl dX12_best_115 ?_
                          refine lv_iload_n hx hb dX12_best_118 rfl (lv_at hl 2 rfl) ?_
                          refine lv_iload hx hb dX12_best_119 (lv_at hl 0 rfl) ?_
                          refine va_iast hx hb hK hP (DM hg) hS 43 42 rfl rfl (i := x3_lp16906) (x := x5_lp16906) (vin (a := x3_lp16906.toInt) rfl (by omega)) dX12_best_121 (fun H locs hP _ hS => ?_)
                          have hP := va_P_eq (sM_43 g c _ _ _ _) hP
                          have hI := IM.store hI 43 (x3_lp16906 : Int32).toNatClampNeg x5_lp16906 rfl (by omega)
                          have hF := frUF (k := 43) (f := upd (F_lp16906 43) (x3_lp16906 : Int32).toNatClampNeg x5_lp16906) (by decide) hF
                          have hP : va_P (dC, dI) classes (wM g c v_lp16906 (va_up F_lp16906 43 (upd (F_lp16906 43) (x3_lp16906 : Int32).toNatClampNeg x5_lp16906)) rc) H := hP
                          generalize (va_up F_lp16906 43 (upd (F_lp16906 43) (x3_lp16906 : Int32).toNatClampNeg x5_lp16906)) = F17226 at hP hI hF
                          refine lv_iload hx hb dX12_best_122 (lv_at hl 1 rfl) ?_
                          refine lv_aload_n hx hb dX12_best_124 rfl (lv_at hl 3 rfl) ?_
                          refine va_get (D := (dC, dI)) (ci := 12) (v := .ref (g 13)) (C := RX12) (T := TX12) (N := 63) hx hb hwd inA_X12 hown hK hP 0 rfl rfl 17 (by decide) (hwd _ wk_194) (fun _ h9 => h9) rfl dX12_best_125 ?_
                          refine lv_iload hx hb dX12_best_128 (lv_at hl 0 rfl) ?_
                          refine va_iald hx hb hK hP 13 12 rfl rfl (i := x5_lp16906) (vin (a := x5_lp16906.toInt) rfl (by omega)) dX12_best_130 ?_
                          refine lv_topi (fun z17227 e17228 => ?_)
                          have t17229 : 0 ≤ z17227.toInt ∧ z17227.toInt ≤ 12 := by rw [e17228]; exact hI.2 13 _ _ rfl _
                          have e17228 : z17227 = F 13 (x5_lp16906 : Int32).toNatClampNeg := e17228.trans (congrFun (hF 13 (by decide)) _)
                          refine lv_iload_n hx hb dX12_best_131 rfl (lv_at hl 4 rfl) ?_
                          refine lv_icmp_ne (tgt := 141) hx hb dX12_best_132 (by decide) (fun c17230 => ?_) (fun c17230 => ?_)
                          · skip
                            have t17231 := cv_ne (a := z17227.toInt) rfl (b := p0.toInt) rfl c17230
                            refine lv_iconst (v := 0) hx hb dX12_best_141 (by decide) ?_
                            refine lv_ior hx hb dX12_best_142 ?_
                            refine lv_topi (fun z17232 e17233 => ?_)
                            refine lv_istore (lv' := [(4, .int z17232), (5, .int x5_lp16906), (3, .int x3_lp16906), (0, .ref (g 0)), (1, .int p0), (2, .int p1)]) hx hb dX12_best_143 hl (by decide) rfl (fun ls hl => ?_)
                            obtain ⟨z17235, e17236⟩ : ∃ y : Int32, y = x3_lp16906 + 1 := ⟨_, rfl⟩
                            try (have t17237 := tadd e17236 rfl (b := 1) (by decide) (by omega))
                            refine lv_iinc (v := z17235) (lv' := [(3, .int z17235), (4, .int z17232), (5, .int x5_lp16906), (0, .ref (g 0)), (1, .int p0), (2, .int p1)]) hx hb dX12_best_145 hl (k := 2) rfl (by rw [e17236]; rfl) (by decide) rfl (fun ls hl => ?_)
                            obtain ⟨z17238, e17239⟩ : ∃ y : Int32, y = x5_lp16906 + 1 := ⟨_, rfl⟩
                            try (have t17240 := tadd e17239 rfl (b := 1) (by decide) (by omega))
                            refine lv_iinc (v := z17238) (lv' := [(5, .int z17238), (3, .int z17235), (4, .int z17232), (0, .ref (g 0)), (1, .int p0), (2, .int p1)]) hx hb dX12_best_148 hl (k := 2) rfl (by rw [e17239]; rfl) (by decide) rfl (fun ls hl => ?_)
                            refine lv_goto (tgt := 59) hx hb dX12_best_151 (by decide) ?_
                            exact ih_lp16906 z17238 z17232 z17235 v_lp16906 F17226 _ _ _ (by omega) (by omega) (by omega) (by omega) hf_lp16906 hI hF hP hS (lv_sub hl [0, 2, 1, 3, 4, 5] rfl)
                          · skip
                            have t17241 := cv_eq (a := z17227.toInt) rfl (b := p0.toInt) rfl c17230
                            refine lv_iconst (v := 1) hx hb dX12_best_135 (by decide) ?_
                            refine lv_iload_n hx hb dX12_best_136 rfl (lv_at hl 2 rfl) ?_
                            refine lv_ishl hx hb dX12_best_137 ?_
                            refine lv_topi (fun z17242 e17243 => ?_)
                            have rr_z17242 := i32_rng z17242
                            refine lv_goto (tgt := 142) hx hb dX12_best_138 (by decide) ?_
                            refine lv_ior hx hb dX12_best_142 ?_
                            refine lv_topi (fun z17245 e17246 => ?_)
                            refine lv_istore (lv' := [(4, .int z17245), (5, .int x5_lp16906), (3, .int x3_lp16906), (0, .ref (g 0)), (1, .int p0), (2, .int p1)]) hx hb dX12_best_143 hl (by decide) rfl (fun ls hl => ?_)
                            obtain ⟨z17248, e17249⟩ : ∃ y : Int32, y = x3_lp16906 + 1 := ⟨_, rfl⟩
                            try (have t17250 := tadd e17249 rfl (b := 1) (by decide) (by omega))
                            refine lv_iinc (v := z17248) (lv' := [(3, .int z17248), (4, .int z17245), (5, .int x5_lp16906), (0, .ref (g 0)), (1, .int p0), (2, .int p1)]) hx hb dX12_best_145 hl (k := 2) rfl (by rw [e17249]; rfl) (by decide) rfl (fun ls hl => ?_)
                            obtain ⟨z17251, e17252⟩ : ∃ y : Int32, y = x5_lp16906 + 1 := ⟨_, rfl⟩
                            try (have t17253 := tadd e17252 rfl (b := 1) (by decide) (by omega))
                            refine lv_iinc (v := z17251) (lv' := [(5, .int z17251), (3, .int z17248), (4, .int z17245), (0, .ref (g 0)), (1, .int p0), (2, .int p1)]) hx hb dX12_best_148 hl (k := 2) rfl (by rw [e17252]; rfl) (by decide) rfl (fun ls hl => ?_)
                            refine lv_goto (tgt := 59) hx hb dX12_best_151 (by decide) ?_
                            exact ih_lp16906 z17251 z17245 z17248 v_lp16906 F17226 _ _ _ (by omega) (by omega) (by omega) (by omega) hf_lp16906 hI hF hP hS (lv_sub hl [0, 2, 1, 3, 4, 5] rfl)
                        · skip
                          have t17254 := cv_eq (a := x3_lp16906.toInt) rfl (b := 8) (by decide) c17224
                          refine lv_bipush (v := (-4)) hx hb dX12_best_111 (by decide) ?_
                          have hP9 : va_P (dC, dI) classes (wM g c v_lp16906 F_lp16906 rc) H := hP
                          exact W.iret (v := (-4)) hx hb hr (fun t ht hW => ⟨⟨(-4), (v_lp16906, F_lp16906, rc), rfl, ⟨hI, rfl, (frC (by decide) hf_lp16906 (fun _ _ => rfl)), hF, trivial⟩, (by show va_P _ _ _ t.heap; rw [ht]; exact hP9)⟩, hS.F ht⟩) hS.2.2 dX12_best_113
                      · skip
                        have t17255 := cv_ne (a := z17219.toInt) rfl (b := 11) (by decide) c17222
                        refine lv_goto (tgt := 148) hx hb dX12_best_102 (by decide) ?_
                        obtain ⟨z17256, e17257⟩ : ∃ y : Int32, y = x5_lp16906 + 1 := ⟨_, rfl⟩
                        try (have t17258 := tadd e17257 rfl (b := 1) (by decide) (by omega))
                        refine lv_iinc (v := z17256) (lv' := [(5, .int z17256), (4, .int x4_lp16906), (3, .int x3_lp16906), (0, .ref (g 0)), (1, .int p0), (2, .int p1)]) hx hb dX12_best_148 hl (k := 0) rfl (by rw [e17257]; rfl) (by decide) rfl (fun ls hl => ?_)
                        refine lv_goto (tgt := 59) hx hb dX12_best_151 (by decide) ?_
                        exact ih_lp16906 z17256 x4_lp16906 x3_lp16906 v_lp16906 F_lp16906 _ _ _ (by omega) (by omega) (by omega) (by omega) hf_lp16906 hI hF hP hS (lv_sub hl [0, 1, 2, 3, 4, 5] rfl)
            obtain ⟨n9, hn9⟩ : ∃ n : Nat, 2147483648 - 0 ≤ (n : Int) := ⟨((2147483648 - 0 : Int)).toNat, by omega⟩
            exact lp16906 n9 0 0 0 v F H _ ls (by have : (0 : Int32).toInt = 0 := (by decide); have : (0 : Int32).toInt = 0 := (by decide); have : (0 : Int32).toInt = 0 := (by decide); omega) (by have : (0 : Int32).toInt = 0 := (by decide); have : (0 : Int32).toInt = 0 := (by decide); have : (0 : Int32).toInt = 0 := (by decide); omega) (by have : (0 : Int32).toInt = 0 := (by decide); have : (0 : Int32).toInt = 0 := (by decide); have : (0 : Int32).toInt = 0 := (by decide); omega) (by have : (0 : Int32).toInt = 0 := (by decide); have : (0 : Int32).toInt = 0 := (by decide); have : (0 : Int32).toInt = 0 := (by decide); omega) (fun _ _ => rfl) hI hF hP hS hl
          · skip
            have t17259 := cv_eq (a := z16902.toInt) rfl (b := 0) (by decide) c16904
            refine lv_bipush (v := (-2)) hx hb dX12_best_48 (by decide) ?_
            have hP9 : va_P (dC, dI) classes (wM g c v F rc) H := hP
            exact W.iret (v := (-2)) hx hb hr (fun t ht hW => ⟨⟨(-2), (v, F, rc), rfl, ⟨hI, rfl, (fun _ _ => rfl), hF, trivial⟩, (by show va_P _ _ _ t.heap; rw [ht]; exact hP9)⟩, hS.F ht⟩) hS.2.2 dX12_best_50
    · skip
      have t17260 := cv_eq (a := r16885.toInt) rfl (b := 0) (by decide) c16886
      refine lv_iconst (v := (-1)) hx hb dX12_best_16 (by decide) ?_
      have hP9 : va_P (dC, dI) classes (wM g c v F rc) H := hP
      exact W.iret (v := (-1)) hx hb hr (fun t ht hW => ⟨⟨(-1), (v, F, rc), rfl, ⟨hI, rfl, (fun _ _ => rfl), hF, trivial⟩, (by show va_P _ _ _ t.heap; rw [ht]; exact hP9)⟩, hS.F ht⟩) hS.2.2 dX12_best_17
