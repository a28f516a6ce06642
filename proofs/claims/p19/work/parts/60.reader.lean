set_option maxHeartbeats 8000000 in
set_option maxRecDepth 100000 in
theorem c_X3_next (l : Launch) (dC : Nat → ClassId) (dI : Nat → Nat → Nat) (g : Nat → Nat) (c : Nat → ClassId) (adK adV : Nat → Nat) (v : Nat → Int32) (F : Nat → Nat → Int32) (nr sz : Nat) (hg : injX g) (hnr : nr < 10) (hI : IX v F) (hs : (0 ≤ (v 143).toInt ∧ (v 143).toInt ≤ (v 100).toInt) ∧ ((v 144).toInt = -1 ∨ 0 ≤ (v 144).toInt)) : Met l yX3_next (Cond.code yX3_next cX3_next 1 (some .int) :: wA) ({ frames := 2, cells := 0, slots := 0, locals := 80 }) (va_Pc [.ref (g 7)] (PX dC dI g c adK adV v F (g (44 + nr)) sz)) (va_Qi (fun (r : Int32) (u : Unit) => (0 ≤ (v 144).toInt ∧ r.toInt = -1) ∨ ((v 144).toInt = -1 ∧ r.toInt = sg (v 100) (F 39) (v 143).toInt ∧ (-1 ≤ r.toInt ∧ r.toInt ≤ 255) ∧ (r.toInt = -1 ∨ (v 143).toInt < (v 100).toInt))) (fun (_ : Unit) => BX dC dI g c (v, F, (g (44 + nr)))) (AX g sz)) 0 0 (AX g sz) := by
  refine Met.ofW (cc := cX3_next) (maxL := 1) (ret := (some .int)) (by decide) rfl ?_
  intro p e s m args below meth c0 s₁ B hml hv
  obtain ⟨rfl, hsz, hP, hK, hE⟩ := hv
  have hx := B.exec
  have hb := B.bytes
  have hr := B.returns
  have hts := atoms_spec (ws := Cond.code yX3_next cX3_next 1 (some .int) :: wA) B.pre
  have hwd : ∀ w ∈ wA, w.before _ s = true := fun w h => hts w (List.mem_cons_of_mem _ h)
  have hown : s.vm.findClass RX3 = some m.cls := findClass_of_methodNamed B.named
  have hlocks := B.notSynchronized
  subst hsz
  have hl := lv_entry ([.ref (g 7)]) (n := 1) (Nat.le_of_ble_eq_true rfl)
  rw [lg_entry_eq]
  generalize (lg_sl ([.ref (g 7)]) ++ List.replicate (1 - (lg_sl ([.ref (g 7)])).length) Slot.unset).toArray = ls at hl ⊢
  have hl : lv_has ls 1 [(0, .ref (g 7))] := hl
  obtain ⟨H, eH⟩ : ∃ z, z = s.heap := ⟨_, rfl⟩
  have hP : va_P (dC, dI) classes (wX g c v F (g (44 + nr))) H := by rw [eH]; exact hP
  have hS : va_S (AX g s.heap.size) s.heap H [] := by rw [eH]; exact va_S.rf
  refine my_heap eH ?_
  have hb100 : 0 ≤ (v 100).toInt ∧ (v 100).toInt ≤ 120 := hI.1 100 _ _ rfl
  refine lv_aload_n hx hb dX3_next_0 rfl (lv_at hl 0 rfl) ?_
  refine va_get (D := (dC, dI)) (ci := 3) (v := .int (v 144)) (C := RX3) (T := TX3) (N := 5) hx hb hwd inA_X3 hown hK hP 7 rfl rfl 4 (by decide) (hwd _ wk_854) (fun _ h9 => h9) rfl dX3_next_1 ?_
  refine lv_iconst (v := (-1)) hx hb dX3_next_4 (by decide) ?_
  refine lv_icmp_ne (tgt := 22) hx hb dX3_next_5 (by decide) (fun c3200 => ?_) (fun c3200 => ?_)
  · skip
    have t3201 := cv_ne (a := (v 144).toInt) rfl (b := (-1)) (by decide) c3200
    refine lv_iconst (v := (-1)) hx hb dX3_next_22 (by decide) ?_
    have hP9 : va_P (dC, dI) classes (wX g c v F (g (44 + nr))) H := hP
    exact W.iret (v := (-1)) hx hb hr (fun t ht hW => ⟨⟨(-1), (), rfl, (by show (0 ≤ (v 144).toInt ∧ ((-1) : Int32).toInt = -1) ∨ ((v 144).toInt = -1 ∧ ((-1) : Int32).toInt = sg (v 100) (F 39) (v 143).toInt ∧ (-1 ≤ ((-1) : Int32).toInt ∧ ((-1) : Int32).toInt ≤ 255) ∧ (((-1) : Int32).toInt = -1 ∨ (v 143).toInt < (v 100).toInt)); have : ((-1) : Int32).toInt = (-1) := (by decide); omega), (by show va_P _ _ _ t.heap; rw [ht]; exact hP9)⟩, hS.F ht⟩) hS.2.2 dX3_next_23
  · skip
    have t3202 := cv_eq (a := (v 144).toInt) rfl (b := (-1)) (by decide) c3200
    refine lv_aload_n hx hb dX3_next_8 rfl (lv_at hl 0 rfl) ?_
    refine va_get (D := (dC, dI)) (ci := 3) (v := .ref (g 5)) (C := RX3) (T := TX3) (N := 5) hx hb hwd inA_X3 hown hK hP 7 rfl rfl 0 (by decide) (hwd _ wk_118) (fun _ h9 => h9) rfl dX3_next_9 ?_
    refine lv_aload_n hx hb dX3_next_12 rfl (lv_at hl 0 rfl) ?_
    refine va_get (D := (dC, dI)) (ci := 3) (v := .int (v 143)) (C := RX3) (T := TX3) (N := 5) hx hb hwd inA_X3 hown hK hP 7 rfl rfl 3 (by decide) (hwd _ wk_853) (fun _ h9 => h9) rfl dX3_next_13 ?_
    have t3203 : 0 ≤ (v 100).toInt ∧ (v 100).toInt ≤ 120 := hI.1 100 _ _ rfl
    refine va_calli (va_runV (As := [.int (v 143)]) (rest := []) ⟨hx, hb, hml, hown, hwd⟩ (c_X10_at_e l dC dI g c adK adV v F (g (44 + nr)) H.size (v 143) hg hI ) (cwV 1 hwd (gV wk_870 wk_867 wk_868 wk_869 wk_30) rfl rfl rfl (by decide +kernel) ⟨Nat.le_of_ble_eq_true rfl, Nat.le_of_ble_eq_true rfl⟩) ⟨PX.blind, va_recv hK hP (ci := 10) (q0 := 5) rfl rfl, fun U hU hW => ⟨rfl, PX.at hK hE hP hS hU hW⟩⟩ rfl rfl hl.1 rfl (lv_room (Nat.le_of_ble_eq_true rfl)) dX3_next_16 ⟨Nat.le_of_ble_eq_true rfl, Nat.le_of_ble_eq_true rfl⟩) hS (fun q _ h => (freeX hS) q h) (freeX hS) (fun r3204 u t H1 locs ht hvm hw hB hz1 hk1 hS => ?_)
    unfold BX at hB
    rw [ht] at hB
    have hP : va_P (dC, dI) classes (wX g c v F (g (44 + nr))) H1 := hB
    replace hw : r3204.toInt = sg (v 100) (F 39) (v 143).toInt ∧ (-1 ≤ r3204.toInt ∧ r3204.toInt ≤ 255) ∧ (r3204.toInt = -1 ∨ (0 ≤ (v 143).toInt ∧ (v 143).toInt < (v 100).toInt)) := hw
    have hw_r3204 := hw
    clear hw
    generalize H1 = H at hP hS ⊢
    have rr_r3204 := i32_rng r3204
    refine lv_goto (tgt := 23) hx hb dX3_next_19 (by decide) ?_
    have hP9 : va_P (dC, dI) classes (wX g c v F (g (44 + nr))) H := hP
    exact W.iret (v := r3204) hx hb hr (fun t ht hW => ⟨⟨r3204, (), rfl, (by show (0 ≤ (v 144).toInt ∧ r3204.toInt = -1) ∨ ((v 144).toInt = -1 ∧ r3204.toInt = sg (v 100) (F 39) (v 143).toInt ∧ (-1 ≤ r3204.toInt ∧ r3204.toInt ≤ 255) ∧ (r3204.toInt = -1 ∨ (v 143).toInt < (v 100).toInt)); omega), (by show va_P _ _ _ t.heap; rw [ht]; exact hP9)⟩, hS.F ht⟩) hS.2.2 dX3_next_23
set_option maxHeartbeats 8000000 in
set_option maxRecDepth 100000 in
theorem c_X3_fail (l : Launch) (dC : Nat → ClassId) (dI : Nat → Nat → Nat) (g : Nat → Nat) (c : Nat → ClassId) (adK adV : Nat → Nat) (v : Nat → Int32) (F : Nat → Nat → Int32) (nr sz : Nat) (hg : injX g) (hnr : nr < 10) (hI : IX v F) (hs : (0 ≤ (v 143).toInt ∧ (v 143).toInt ≤ (v 100).toInt) ∧ ((v 144).toInt = -1 ∨ 0 ≤ (v 144).toInt)) : Met l yX3_fail (Cond.code yX3_fail cX3_fail 1 none :: wA) ({ frames := 1, cells := 0, slots := 0, locals := 40 }) (va_Pc [.ref (g 7)] (PX dC dI g c adK adV v F (g (44 + nr)) sz)) (va_Qv (fun (u : StX) => IX u.1 u.2.1 ∧ alX u.1 u.2.1 = alX v F ∧ u.2.2 = (g (44 + nr)) ∧ (∀ k, k ∉ ([144] : List Nat) → u.1 k = v k) ∧ ((0 ≤ (v 144).toInt ∧ (u.1 144).toInt = (v 144).toInt) ∨ ((v 144).toInt = -1 ∧ (u.1 144).toInt = (v 143).toInt))) (BX dC dI g c) (AX g sz)) 0 0 (AX g sz) := by
  refine Met.ofW (cc := cX3_fail) (maxL := 1) (ret := none) (by decide) rfl ?_
  intro p e s m args below meth c0 s₁ B hml hv
  obtain ⟨rfl, hsz, hP, hK, hE⟩ := hv
  have hx := B.exec
  have hb := B.bytes
  have hr := B.returns
  have hts := atoms_spec (ws := Cond.code yX3_fail cX3_fail 1 none :: wA) B.pre
  have hwd : ∀ w ∈ wA, w.before _ s = true := fun w h => hts w (List.mem_cons_of_mem _ h)
  have hown : s.vm.findClass RX3 = some m.cls := findClass_of_methodNamed B.named
  have hlocks := B.notSynchronized
  subst hsz
  have hl := lv_entry ([.ref (g 7)]) (n := 1) (Nat.le_of_ble_eq_true rfl)
  rw [lg_entry_eq]
  generalize (lg_sl ([.ref (g 7)]) ++ List.replicate (1 - (lg_sl ([.ref (g 7)])).length) Slot.unset).toArray = ls at hl ⊢
  have hl : lv_has ls 1 [(0, .ref (g 7))] := hl
  obtain ⟨H, eH⟩ : ∃ z, z = s.heap := ⟨_, rfl⟩
  have hP : va_P (dC, dI) classes (wX g c v F (g (44 + nr))) H := by rw [eH]; exact hP
  have hS : va_S (AX g s.heap.size) s.heap H [] := by rw [eH]; exact va_S.rf
  refine my_heap eH ?_
  have hal : alX v F = alX v F := rfl
  have hb100 : 0 ≤ (v 100).toInt ∧ (v 100).toInt ≤ 120 := hI.1 100 _ _ rfl
  refine lv_aload_n hx hb dX3_fail_0 rfl (lv_at hl 0 rfl) ?_
  refine va_get (D := (dC, dI)) (ci := 3) (v := .int (v 144)) (C := RX3) (T := TX3) (N := 5) hx hb hwd inA_X3 hown hK hP 7 rfl rfl 4 (by decide) (hwd _ wk_854) (fun _ h9 => h9) rfl dX3_fail_1 ?_
  refine lv_iconst (v := (-1)) hx hb dX3_fail_4 (by decide) ?_
  refine lv_icmp_ne (tgt := 16) hx hb dX3_fail_5 (by decide) (fun c3205 => ?_) (fun c3205 => ?_)
  · skip
    have t3206 := cv_ne (a := (v 144).toInt) rfl (b := (-1)) (by decide) c3205
    have hP9 : va_P (dC, dI) classes (wX g c v F (g (44 + nr))) H := hP
    exact W.vret hx hb hr (fun t ht hW => ⟨⟨(v, F, (g (44 + nr))), rfl, ⟨hI, hal, rfl, (fun _ _ => rfl), (by show (0 ≤ (v 144).toInt ∧ (v 144).toInt = (v 144).toInt) ∨ ((v 144).toInt = -1 ∧ (v 144).toInt = (v 143).toInt); omega)⟩, (by show va_P _ _ _ t.heap; rw [ht]; exact hP9)⟩, hS.F ht⟩) hS.2.2 dX3_fail_16
  · skip
    have t3207 := cv_eq (a := (v 144).toInt) rfl (b := (-1)) (by decide) c3205
    refine lv_aload_n hx hb dX3_fail_8 rfl (lv_at hl 0 rfl) ?_
    refine lv_aload_n hx hb dX3_fail_9 rfl (lv_at hl 0 rfl) ?_
    refine va_get (D := (dC, dI)) (ci := 3) (v := .int (v 143)) (C := RX3) (T := TX3) (N := 5) hx hb hwd inA_X3 hown hK hP 7 rfl rfl 3 (by decide) (hwd _ wk_853) (fun _ h9 => h9) rfl dX3_fail_10 ?_
    refine va_put (D := (dC, dI)) (ci := 3) (v := .int (v 143)) (ty := .int) (C := RX3) (T := TX3) (N := 5) (fs := fsX_7 g v (g (44 + nr))) hx hb hwd inA_X3 tyX3 tyX3_ok nmX3 hown hK hP (DX hg) hS 7 rfl rfl 4 (by decide) (hwd _ wk_854) (fun _ h9 => h9) rfl (by decide +kernel) rfl rfl (Nat.le_of_ble_eq_true rfl) dX3_fail_13 (fun H locs hP _ hS => ?_)
    have hP := va_P_eq (pX_144 g c _ _ _ _) hP
    have hI := IX.put0 hI 144 (v 143) rfl
    have hal := (alX_v _ _ 144 (v 143) (by decide) (by decide) (by decide) (by decide)).trans hal
    have hP9 : va_P (dC, dI) classes (wX g c (va_up v 144 (v 143)) F (g (44 + nr))) H := hP
    exact W.vret hx hb hr (fun t ht hW => ⟨⟨((va_up v 144 (v 143)), F, (g (44 + nr))), rfl, ⟨hI, hal, rfl, (frU (by decide) (fun _ _ => rfl)), (by show (0 ≤ (v 144).toInt ∧ (v 143).toInt = (v 144).toInt) ∨ ((v 144).toInt = -1 ∧ (v 143).toInt = (v 143).toInt); omega)⟩, (by show va_P _ _ _ t.heap; rw [ht]; exact hP9)⟩, hS.F ht⟩) hS.2.2 dX3_fail_16
set_option maxHeartbeats 8000000 in
set_option maxRecDepth 100000 in
theorem c_X3_take (l : Launch) (dC : Nat → ClassId) (dI : Nat → Nat → Nat) (g : Nat → Nat) (c : Nat → ClassId) (adK adV : Nat → Nat) (v : Nat → Int32) (F : Nat → Nat → Int32) (nr sz : Nat) (p0 : Int32) (hg : injX g) (hnr : nr < 10) (hI : IX v F) (h0 : 0 ≤ p0.toInt ∧ p0.toInt ≤ 127) (hs : (0 ≤ (v 143).toInt ∧ (v 143).toInt ≤ (v 100).toInt) ∧ ((v 144).toInt = -1 ∨ 0 ≤ (v 144).toInt)) : Met l yX3_take (Cond.code yX3_take cX3_take 2 none :: wA) ({ frames := 3, cells := 0, slots := 0, locals := 120 }) (va_Pc [.ref (g 7), .int p0] (PX dC dI g c adK adV v F (g (44 + nr)) sz)) (va_Qv (fun (u : StX) => IX u.1 u.2.1 ∧ alX u.1 u.2.1 = alX v F ∧ u.2.2 = (g (44 + nr)) ∧ (∀ k, k ∉ ([143, 144] : List Nat) → u.1 k = v k) ∧ ((0 ≤ (v 144).toInt ∧ (u.1 144).toInt = (v 144).toInt ∧ (u.1 143).toInt = (v 143).toInt) ∨ ((v 144).toInt = -1 ∧ sg (v 100) (F 39) (v 143).toInt = p0.toInt ∧ (u.1 144).toInt = -1 ∧ (u.1 143).toInt = (v 143).toInt + 1 ∧ (v 143).toInt < (v 100).toInt) ∨ ((v 144).toInt = -1 ∧ ¬ sg (v 100) (F 39) (v 143).toInt = p0.toInt ∧ (u.1 144).toInt = (v 143).toInt ∧ (u.1 143).toInt = (v 143).toInt))) (BX dC dI g c) (AX g sz)) 0 0 (AX g sz) := by
  refine Met.ofW (cc := cX3_take) (maxL := 2) (ret := none) (by decide) rfl ?_
  intro p e s m args below meth c0 s₁ B hml hv
  obtain ⟨rfl, hsz, hP, hK, hE⟩ := hv
  have hx := B.exec
  have hb := B.bytes
  have hr := B.returns
  have hts := atoms_spec (ws := Cond.code yX3_take cX3_take 2 none :: wA) B.pre
  have hwd : ∀ w ∈ wA, w.before _ s = true := fun w h => hts w (List.mem_cons_of_mem _ h)
  have hown : s.vm.findClass RX3 = some m.cls := findClass_of_methodNamed B.named
  have hlocks := B.notSynchronized
  subst hsz
  have hl := lv_entry ([.ref (g 7), .int p0]) (n := 2) (Nat.le_of_ble_eq_true rfl)
  rw [lg_entry_eq]
  generalize (lg_sl ([.ref (g 7), .int p0]) ++ List.replicate (2 - (lg_sl ([.ref (g 7), .int p0])).length) Slot.unset).toArray = ls at hl ⊢
  have hl : lv_has ls 2 [(0, .ref (g 7)), (1, .int p0)] := hl
  obtain ⟨H, eH⟩ : ∃ z, z = s.heap := ⟨_, rfl⟩
  have hP : va_P (dC, dI) classes (wX g c v F (g (44 + nr))) H := by rw [eH]; exact hP
  have hS : va_S (AX g s.heap.size) s.heap H [] := by rw [eH]; exact va_S.rf
  refine my_heap eH ?_
  have hal : alX v F = alX v F := rfl
  have rp0 := i32_rng p0
  have hb100 : 0 ≤ (v 100).toInt ∧ (v 100).toInt ≤ 120 := hI.1 100 _ _ rfl
  refine lv_aload_n hx hb dX3_take_0 rfl (lv_at hl 0 rfl) ?_
  have t3208 : 0 ≤ (v 100).toInt ∧ (v 100).toInt ≤ 120 := hI.1 100 _ _ rfl
  refine va_calli (va_runV (As := []) (rest := []) ⟨hx, hb, hml, hown, hwd⟩ (c_X3_next l dC dI g c adK adV v F nr H.size  hg hnr hI (by have h9 : v 143 = v 143 := rfl; (try rw [h9]); clear h9; have h9 : v 100 = v 100 := rfl; (try rw [h9]); clear h9; have h9 : v 144 = v 144 := rfl; (try rw [h9]); clear h9; omega)) (cwV 0 hwd (gV wk_866 wk_863 wk_864 wk_865 wk_38) rfl rfl rfl (by decide +kernel) ⟨Nat.le_of_ble_eq_true rfl, Nat.le_of_ble_eq_true rfl⟩) ⟨PX.blind, va_recv hK hP (ci := 3) (q0 := 7) rfl rfl, fun U hU hW => ⟨rfl, PX.at hK hE hP hS hU hW⟩⟩ rfl rfl hl.1 rfl (lv_room (Nat.le_of_ble_eq_true rfl)) dX3_take_1 ⟨Nat.le_of_ble_eq_true rfl, Nat.le_of_ble_eq_true rfl⟩) hS (fun q _ h => (freeX hS) q h) (freeX hS) (fun r3209 u t H1 locs ht hvm hw hB hz1 hk1 hS => ?_)
  unfold BX at hB
  rw [ht] at hB
  have hP : va_P (dC, dI) classes (wX g c v F (g (44 + nr))) H1 := hB
  replace hw : (0 ≤ (v 144).toInt ∧ r3209.toInt = -1) ∨ ((v 144).toInt = -1 ∧ r3209.toInt = sg (v 100) (F 39) (v 143).toInt ∧ (-1 ≤ r3209.toInt ∧ r3209.toInt ≤ 255) ∧ (r3209.toInt = -1 ∨ (v 143).toInt < (v 100).toInt)) := hw
  have hw_r3209 := hw
  clear hw
  generalize H1 = H at hP hS ⊢
  have rr_r3209 := i32_rng r3209
  refine lv_iload_n hx hb dX3_take_4 rfl (lv_at hl 1 rfl) ?_
  refine lv_icmp_ne (tgt := 21) hx hb dX3_take_5 (by decide) (fun c3210 => ?_) (fun c3210 => ?_)
  · skip
    have t3211 := cv_ne (a := r3209.toInt) rfl (b := p0.toInt) rfl c3210
    refine lv_aload_n hx hb dX3_take_21 rfl (lv_at hl 0 rfl) ?_
    refine va_callv (va_runV (As := []) (rest := []) ⟨hx, hb, hml, hown, hwd⟩ (c_X3_fail l dC dI g c adK adV v F nr H.size  hg hnr hI (by have h9 : v 143 = v 143 := rfl; (try rw [h9]); clear h9; have h9 : v 100 = v 100 := rfl; (try rw [h9]); clear h9; have h9 : v 144 = v 144 := rfl; (try rw [h9]); clear h9; omega)) (cwV 0 hwd (gV wk_878 wk_875 wk_876 wk_877 wk_38) rfl rfl rfl (by decide +kernel) ⟨Nat.le_of_ble_eq_true rfl, Nat.le_of_ble_eq_true rfl⟩) ⟨PX.blind, va_recv hK hP (ci := 3) (q0 := 7) rfl rfl, fun U hU hW => ⟨rfl, PX.at hK hE hP hS hU hW⟩⟩ rfl rfl hl.1 rfl (lv_room (Nat.le_of_ble_eq_true rfl)) dX3_take_22 ⟨Nat.le_of_ble_eq_true rfl, Nat.le_of_ble_eq_true rfl⟩) hS (fun q _ h => (freeX hS) q h) (freeX hS) (fun u t H1 locs ht hvm hw hB hz1 hk1 hS => ?_)
    unfold BX at hB
    rw [ht] at hB
    obtain ⟨v3213, F3214, rc9⟩ := u
    obtain ⟨hI, hal9, hrc, hf3215, hw⟩ := hw
    dsimp only at hI hal9 hrc hB hf3215 hw
    rw [hrc] at hB
    have hal := hal9.trans hal
    have hP : va_P (dC, dI) classes (wX g c v3213 F3214 (g (44 + nr))) H1 := hB
    replace hw : (0 ≤ (v 144).toInt ∧ (v3213 144).toInt = (v 144).toInt) ∨ ((v 144).toInt = -1 ∧ (v3213 144).toInt = (v 143).toInt) := hw
    have hw_r3212 := hw
    clear hw
    generalize H1 = H at hP hS ⊢
    have hP9 : va_P (dC, dI) classes (wX g c v3213 F3214 (g (44 + nr))) H := hP
    exact W.vret hx hb hr (fun t ht hW => ⟨⟨(v3213, F3214, (g (44 + nr))), rfl, ⟨hI, hal, rfl, (frC (by decide) hf3215 (fun _ _ => rfl)), (by show (0 ≤ (v 144).toInt ∧ (v3213 144).toInt = (v 144).toInt ∧ (v3213 143).toInt = (v 143).toInt) ∨ ((v 144).toInt = -1 ∧ sg (v 100) (F 39) (v 143).toInt = p0.toInt ∧ (v3213 144).toInt = -1 ∧ (v3213 143).toInt = (v 143).toInt + 1 ∧ (v 143).toInt < (v 100).toInt) ∨ ((v 144).toInt = -1 ∧ ¬ sg (v 100) (F 39) (v 143).toInt = p0.toInt ∧ (v3213 144).toInt = (v 143).toInt ∧ (v3213 143).toInt = (v 143).toInt); rw [show v3213 143 = v 143 from hf3215 143 (by decide)]; omega)⟩, (by show va_P _ _ _ t.heap; rw [ht]; exact hP9)⟩, hS.F ht⟩) hS.2.2 dX3_take_25
  · skip
    have t3216 := cv_eq (a := r3209.toInt) rfl (b := p0.toInt) rfl c3210
    refine lv_aload_n hx hb dX3_take_8 rfl (lv_at hl 0 rfl) ?_
    refine lv_dup hx hb dX3_take_9 rfl ?_
    refine va_get (D := (dC, dI)) (ci := 3) (v := .int (v 143)) (C := RX3) (T := TX3) (N := 5) hx hb hwd inA_X3 hown hK hP 7 rfl rfl 3 (by decide) (hwd _ wk_853) (fun _ h9 => h9) rfl dX3_take_10 ?_
    refine lv_iconst (v := 1) hx hb dX3_take_13 (by decide) ?_
    refine lv_iadd hx hb dX3_take_14 ?_
    refine lv_topi (fun z3217 e3218 => ?_)
    try (have t3219 := tadd e3218 (a := (v 143).toInt) rfl (b := 1) (by decide) (by omega))
    refine va_put (D := (dC, dI)) (ci := 3) (v := .int z3217) (ty := .int) (C := RX3) (T := TX3) (N := 5) (fs := fsX_7 g v (g (44 + nr))) hx hb hwd inA_X3 tyX3 tyX3_ok nmX3 hown hK hP (DX hg) hS 7 rfl rfl 3 (by decide) (hwd _ wk_853) (fun _ h9 => h9) rfl (by decide +kernel) rfl rfl (Nat.le_of_ble_eq_true rfl) dX3_take_15 (fun H locs hP _ hS => ?_)
    have hP := va_P_eq (pX_143 g c _ _ _ _) hP
    have hI := IX.put0 hI 143 z3217 rfl
    have hal := (alX_v _ _ 143 z3217 (by decide) (by decide) (by decide) (by decide)).trans hal
    refine lv_goto (tgt := 25) hx hb dX3_take_18 (by decide) ?_
    have hP9 : va_P (dC, dI) classes (wX g c (va_up v 143 z3217) F (g (44 + nr))) H := hP
    exact W.vret hx hb hr (fun t ht hW => ⟨⟨((va_up v 143 z3217), F, (g (44 + nr))), rfl, ⟨hI, hal, rfl, (frU (by decide) (fun _ _ => rfl)), (by show (0 ≤ (v 144).toInt ∧ (v 144).toInt = (v 144).toInt ∧ z3217.toInt = (v 143).toInt) ∨ ((v 144).toInt = -1 ∧ sg (v 100) (F 39) (v 143).toInt = p0.toInt ∧ (v 144).toInt = -1 ∧ z3217.toInt = (v 143).toInt + 1 ∧ (v 143).toInt < (v 100).toInt) ∨ ((v 144).toInt = -1 ∧ ¬ sg (v 100) (F 39) (v 143).toInt = p0.toInt ∧ (v 144).toInt = (v 143).toInt ∧ z3217.toInt = (v 143).toInt); omega)⟩, (by show va_P _ _ _ t.heap; rw [ht]; exact hP9)⟩, hS.F ht⟩) hS.2.2 dX3_take_25
set_option maxHeartbeats 8000000 in
set_option maxRecDepth 100000 in
theorem c_X3_opens (l : Launch) (dC : Nat → ClassId) (dI : Nat → Nat → Nat) (g : Nat → Nat) (c : Nat → ClassId) (adK adV : Nat → Nat) (v : Nat → Int32) (F : Nat → Nat → Int32) (nr sz : Nat) (p0 : Int32) (hg : injX g) (hnr : nr < 10) (hI : IX v F) (hs : (0 ≤ (v 143).toInt ∧ (v 143).toInt ≤ (v 100).toInt) ∧ ((v 144).toInt = -1 ∨ 0 ≤ (v 144).toInt)) : Met l yX3_opens (Cond.code yX3_opens cX3_opens 2 (some .boolean) :: wA) ({ frames := 2, cells := 0, slots := 0, locals := 80 }) (va_Pc [.ref (g 7), .int p0] (PX dC dI g c adK adV v F (g (44 + nr)) sz)) (va_Qi (fun (r : Int32) (u : StX) => IX u.1 u.2.1 ∧ alX u.1 u.2.1 = alX v F ∧ u.2.2 = (g (44 + nr)) ∧ (∀ k, k ∉ ([143, 144] : List Nat) → u.1 k = v k) ∧ ((r.toInt = 1 ∧ p0.toInt < 8 ∧ (u.1 143).toInt = (v 143).toInt + 1 ∧ (u.1 144).toInt = (v 144).toInt) ∨ (r.toInt = 0 ∧ 8 ≤ p0.toInt ∧ (u.1 143).toInt = (v 143).toInt ∧ ((0 ≤ (v 144).toInt ∧ (u.1 144).toInt = (v 144).toInt) ∨ ((v 144).toInt = -1 ∧ (u.1 144).toInt = (v 143).toInt))))) (BX dC dI g c) (AX g sz)) 0 0 (AX g sz) := by
  refine Met.ofW (cc := cX3_opens) (maxL := 2) (ret := (some .boolean)) (by decide) rfl ?_
  intro p e s m args below meth c0 s₁ B hml hv
  obtain ⟨rfl, hsz, hP, hK, hE⟩ := hv
  have hx := B.exec
  have hb := B.bytes
  have hr := B.returns
  have hts := atoms_spec (ws := Cond.code yX3_opens cX3_opens 2 (some .boolean) :: wA) B.pre
  have hwd : ∀ w ∈ wA, w.before _ s = true := fun w h => hts w (List.mem_cons_of_mem _ h)
  have hown : s.vm.findClass RX3 = some m.cls := findClass_of_methodNamed B.named
  have hlocks := B.notSynchronized
  subst hsz
  have hl := lv_entry ([.ref (g 7), .int p0]) (n := 2) (Nat.le_of_ble_eq_true rfl)
  rw [lg_entry_eq]
  generalize (lg_sl ([.ref (g 7), .int p0]) ++ List.replicate (2 - (lg_sl ([.ref (g 7), .int p0])).length) Slot.unset).toArray = ls at hl ⊢
  have hl : lv_has ls 2 [(0, .ref (g 7)), (1, .int p0)] := hl
  obtain ⟨H, eH⟩ : ∃ z, z = s.heap := ⟨_, rfl⟩
  have hP : va_P (dC, dI) classes (wX g c v F (g (44 + nr))) H := by rw [eH]; exact hP
  have hS : va_S (AX g s.heap.size) s.heap H [] := by rw [eH]; exact va_S.rf
  refine my_heap eH ?_
  have hal : alX v F = alX v F := rfl
  have rp0 := i32_rng p0
  have hb100 : 0 ≤ (v 100).toInt ∧ (v 100).toInt ≤ 120 := hI.1 100 _ _ rfl
  refine lv_iload_n hx hb dX3_opens_0 rfl (lv_at hl 1 rfl) ?_
  refine lv_bipush (v := 8) hx hb dX3_opens_1 (by decide) ?_
  refine lv_icmp_lt (tgt := 12) hx hb dX3_opens_3 (by decide) (fun c3220 => ?_) (fun c3220 => ?_)
  · skip
    have t3221 := cv_lt (a := p0.toInt) rfl (b := 8) (by decide) c3220
    refine lv_aload_n hx hb dX3_opens_12 rfl (lv_at hl 0 rfl) ?_
    refine lv_dup hx hb dX3_opens_13 rfl ?_
    refine va_get (D := (dC, dI)) (ci := 3) (v := .int (v 143)) (C := RX3) (T := TX3) (N := 5) hx hb hwd inA_X3 hown hK hP 7 rfl rfl 3 (by decide) (hwd _ wk_853) (fun _ h9 => h9) rfl dX3_opens_14 ?_
    refine lv_iconst (v := 1) hx hb dX3_opens_17 (by decide) ?_
    refine lv_iadd hx hb dX3_opens_18 ?_
    refine lv_topi (fun z3222 e3223 => ?_)
    try (have t3224 := tadd e3223 (a := (v 143).toInt) rfl (b := 1) (by decide) (by omega))
    refine va_put (D := (dC, dI)) (ci := 3) (v := .int z3222) (ty := .int) (C := RX3) (T := TX3) (N := 5) (fs := fsX_7 g v (g (44 + nr))) hx hb hwd inA_X3 tyX3 tyX3_ok nmX3 hown hK hP (DX hg) hS 7 rfl rfl 3 (by decide) (hwd _ wk_853) (fun _ h9 => h9) rfl (by decide +kernel) rfl rfl (Nat.le_of_ble_eq_true rfl) dX3_opens_19 (fun H locs hP _ hS => ?_)
    have hP := va_P_eq (pX_143 g c _ _ _ _) hP
    have hI := IX.put0 hI 143 z3222 rfl
    have hal := (alX_v _ _ 143 z3222 (by decide) (by decide) (by decide) (by decide)).trans hal
    refine lv_iconst (v := 1) hx hb dX3_opens_22 (by decide) ?_
    have hP9 : va_P (dC, dI) classes (wX g c (va_up v 143 z3222) F (g (44 + nr))) H := hP
    exact W.zret (v := 1) hx hb hr (rfl) (fun t ht hW => ⟨⟨1, ((va_up v 143 z3222), F, (g (44 + nr))), rfl, ⟨hI, hal, rfl, (frU (by decide) (fun _ _ => rfl)), (by show ((1 : Int32).toInt = 1 ∧ p0.toInt < 8 ∧ z3222.toInt = (v 143).toInt + 1 ∧ (v 144).toInt = (v 144).toInt) ∨ ((1 : Int32).toInt = 0 ∧ 8 ≤ p0.toInt ∧ z3222.toInt = (v 143).toInt ∧ ((0 ≤ (v 144).toInt ∧ (v 144).toInt = (v 144).toInt) ∨ ((v 144).toInt = -1 ∧ (v 144).toInt = (v 143).toInt))); have : (1 : Int32).toInt = 1 := (by decide); omega)⟩, (by show va_P _ _ _ t.heap; rw [ht]; exact hP9)⟩, hS.F ht⟩) hS.2.2 dX3_opens_23
  · skip
    have t3225 := cv_nlt (a := p0.toInt) rfl (b := 8) (by decide) c3220
    refine lv_aload_n hx hb dX3_opens_6 rfl (lv_at hl 0 rfl) ?_
    refine va_callv (va_runV (As := []) (rest := []) ⟨hx, hb, hml, hown, hwd⟩ (c_X3_fail l dC dI g c adK adV v F nr H.size  hg hnr hI (by have h9 : v 143 = v 143 := rfl; (try rw [h9]); clear h9; have h9 : v 100 = v 100 := rfl; (try rw [h9]); clear h9; have h9 : v 144 = v 144 := rfl; (try rw [h9]); clear h9; omega)) (cwV 0 hwd (gV wk_878 wk_875 wk_876 wk_877 wk_38) rfl rfl rfl (by decide +kernel) ⟨Nat.le_of_ble_eq_true rfl, Nat.le_of_ble_eq_true rfl⟩) ⟨PX.blind, va_recv hK hP (ci := 3) (q0 := 7) rfl rfl, fun U hU hW => ⟨rfl, PX.at hK hE hP hS hU hW⟩⟩ rfl rfl hl.1 rfl (lv_room (Nat.le_of_ble_eq_true rfl)) dX3_opens_7 ⟨Nat.le_of_ble_eq_true rfl, Nat.le_of_ble_eq_true rfl⟩) hS (fun q _ h => (freeX hS) q h) (freeX hS) (fun u t H1 locs ht hvm hw hB hz1 hk1 hS => ?_)
    unfold BX at hB
    rw [ht] at hB
    obtain ⟨v3227, F3228, rc9⟩ := u
    obtain ⟨hI, hal9, hrc, hf3229, hw⟩ := hw
    dsimp only at hI hal9 hrc hB hf3229 hw
    rw [hrc] at hB
    have hal := hal9.trans hal
    have hP : va_P (dC, dI) classes (wX g c v3227 F3228 (g (44 + nr))) H1 := hB
    replace hw : (0 ≤ (v 144).toInt ∧ (v3227 144).toInt = (v 144).toInt) ∨ ((v 144).toInt = -1 ∧ (v3227 144).toInt = (v 143).toInt) := hw
    have hw_r3226 := hw
    clear hw
    generalize H1 = H at hP hS ⊢
    refine lv_iconst (v := 0) hx hb dX3_opens_10 (by decide) ?_
    have hP9 : va_P (dC, dI) classes (wX g c v3227 F3228 (g (44 + nr))) H := hP
    exact W.zret (v := 0) hx hb hr (rfl) (fun t ht hW => ⟨⟨0, (v3227, F3228, (g (44 + nr))), rfl, ⟨hI, hal, rfl, (frC (by decide) hf3229 (fun _ _ => rfl)), (by show ((0 : Int32).toInt = 1 ∧ p0.toInt < 8 ∧ (v3227 143).toInt = (v 143).toInt + 1 ∧ (v3227 144).toInt = (v 144).toInt) ∨ ((0 : Int32).toInt = 0 ∧ 8 ≤ p0.toInt ∧ (v3227 143).toInt = (v 143).toInt ∧ ((0 ≤ (v 144).toInt ∧ (v3227 144).toInt = (v 144).toInt) ∨ ((v 144).toInt = -1 ∧ (v3227 144).toInt = (v 143).toInt))); rw [show v3227 143 = v 143 from hf3229 143 (by decide)]; have : (0 : Int32).toInt = 0 := (by decide); omega)⟩, (by show va_P _ _ _ t.heap; rw [ht]; exact hP9)⟩, hS.F ht⟩) hS.2.2 dX3_opens_11
set_option maxHeartbeats 8000000 in
set_option maxRecDepth 100000 in
theorem c_X3_put (l : Launch) (dC : Nat → ClassId) (dI : Nat → Nat → Nat) (g : Nat → Nat) (c : Nat → ClassId) (adK adV : Nat → Nat) (v : Nat → Int32) (F : Nat → Nat → Int32) (nr sz : Nat) (p0 : Int32) (p1 : Int32) (hg : injX g) (hnr : nr < 10) (hI : IX v F) (h0 : 0 ≤ p0.toInt ∧ p0.toInt ≤ 15) (h1 : 0 ≤ p1.toInt ∧ p1.toInt ≤ 134217727) : Met l yX3_put (Cond.code yX3_put cX3_put 3 (some .int) :: wA) ({ frames := 1, cells := 0, slots := 0, locals := 40 }) (va_Pc [.ref (g 7), .int p0, .int p1] (PX dC dI g c adK adV v F (g (44 + nr)) sz)) (va_Qi (fun (r : Int32) (u : StX) => IX u.1 u.2.1 ∧ alX u.1 u.2.1 = alX v F ∧ u.2.2 = (g (44 + nr)) ∧ (∀ k, k ∉ ([142] : List Nat) → u.1 k = v k) ∧ -1 ≤ r.toInt ∧ r.toInt ≤ 119) (BX dC dI g c) (AX g sz)) 0 0 (AX g sz) := by
  refine Met.ofW (cc := cX3_put) (maxL := 3) (ret := (some .int)) (by decide) rfl ?_
  intro p e s m args below meth c0 s₁ B hml hv
  obtain ⟨rfl, hsz, hP, hK, hE⟩ := hv
  have hx := B.exec
  have hb := B.bytes
  have hr := B.returns
  have hts := atoms_spec (ws := Cond.code yX3_put cX3_put 3 (some .int) :: wA) B.pre
  have hwd : ∀ w ∈ wA, w.before _ s = true := fun w h => hts w (List.mem_cons_of_mem _ h)
  have hown : s.vm.findClass RX3 = some m.cls := findClass_of_methodNamed B.named
  have hlocks := B.notSynchronized
  subst hsz
  have hl := lv_entry ([.ref (g 7), .int p0, .int p1]) (n := 3) (Nat.le_of_ble_eq_true rfl)
  rw [lg_entry_eq]
  generalize (lg_sl ([.ref (g 7), .int p0, .int p1]) ++ List.replicate (3 - (lg_sl ([.ref (g 7), .int p0, .int p1])).length) Slot.unset).toArray = ls at hl ⊢
  have hl : lv_has ls 3 [(0, .ref (g 7)), (1, .int p0), (2, .int p1)] := hl
  obtain ⟨H, eH⟩ : ∃ z, z = s.heap := ⟨_, rfl⟩
  have hP : va_P (dC, dI) classes (wX g c v F (g (44 + nr))) H := by rw [eH]; exact hP
  have hS : va_S (AX g s.heap.size) s.heap H [] := by rw [eH]; exact va_S.rf
  refine my_heap eH ?_
  have hal : alX v F = alX v F := rfl
  have rp0 := i32_rng p0
  have rp1 := i32_rng p1
  refine lv_aload_n hx hb dX3_put_0 rfl (lv_at hl 0 rfl) ?_
  refine va_get (D := (dC, dI)) (ci := 3) (v := .int (v 142)) (C := RX3) (T := TX3) (N := 5) hx hb hwd inA_X3 hown hK hP 7 rfl rfl 2 (by decide) (hwd _ wk_852) (fun _ h9 => h9) rfl dX3_put_1 ?_
  have t3230 : 0 ≤ (v 142).toInt ∧ (v 142).toInt ≤ 120 := hI.1 142 _ _ rfl
  refine lv_aload_n hx hb dX3_put_4 rfl (lv_at hl 0 rfl) ?_
  refine va_get (D := (dC, dI)) (ci := 3) (v := .ref (g (44 + nr))) (C := RX3) (T := TX3) (N := 5) hx hb hwd inA_X3 hown hK hP 7 rfl rfl 1 (by decide) (hwd _ wk_119) (fun _ h9 => h9) rfl dX3_put_5 ?_
  refine va_alen (v := 120) hx hb hK hP (44 + nr) (32 + nr) (rowW44 hnr) (rowT44 hnr) rfl dX3_put_8 ?_
  refine lv_icmp_ge (tgt := 36) hx hb dX3_put_9 (by decide) (fun c3231 => ?_) (fun c3231 => ?_)
  · skip
    have t3232 := cv_le (a := 120) (by decide) (b := (v 142).toInt) rfl c3231
    refine lv_aload_n hx hb dX3_put_36 rfl (lv_at hl 0 rfl) ?_
    refine va_get (D := (dC, dI)) (ci := 3) (v := .int (v 142)) (C := RX3) (T := TX3) (N := 5) hx hb hwd inA_X3 hown hK hP 7 rfl rfl 2 (by decide) (hwd _ wk_852) (fun _ h9 => h9) rfl dX3_put_37 ?_
    have t3233 : 0 ≤ (v 142).toInt ∧ (v 142).toInt ≤ 120 := hI.1 142 _ _ rfl
    refine lv_iconst (v := 1) hx hb dX3_put_40 (by decide) ?_
    refine lv_isub hx hb dX3_put_41 ?_
    refine lv_topi (fun z3234 e3235 => ?_)
    try (have t3236 := tsub e3235 (a := (v 142).toInt) rfl (b := 1) (by decide) (by omega))
    have hP9 : va_P (dC, dI) classes (wX g c v F (g (44 + nr))) H := hP
    exact W.iret (v := z3234) hx hb hr (fun t ht hW => ⟨⟨z3234, (v, F, (g (44 + nr))), rfl, ⟨hI, hal, rfl, (fun _ _ => rfl), by omega⟩, (by show va_P _ _ _ t.heap; rw [ht]; exact hP9)⟩, hS.F ht⟩) hS.2.2 dX3_put_42
  · skip
    have t3237 := cv_nle (a := 120) (by decide) (b := (v 142).toInt) rfl c3231
    refine lv_aload_n hx hb dX3_put_12 rfl (lv_at hl 0 rfl) ?_
    refine va_get (D := (dC, dI)) (ci := 3) (v := .ref (g (44 + nr))) (C := RX3) (T := TX3) (N := 5) hx hb hwd inA_X3 hown hK hP 7 rfl rfl 1 (by decide) (hwd _ wk_119) (fun _ h9 => h9) rfl dX3_put_13 ?_
    refine lv_aload_n hx hb dX3_put_16 rfl (lv_at hl 0 rfl) ?_
    refine va_get (D := (dC, dI)) (ci := 3) (v := .int (v 142)) (C := RX3) (T := TX3) (N := 5) hx hb hwd inA_X3 hown hK hP 7 rfl rfl 2 (by decide) (hwd _ wk_852) (fun _ h9 => h9) rfl dX3_put_17 ?_
    have t3238 : 0 ≤ (v 142).toInt ∧ (v 142).toInt ≤ 120 := hI.1 142 _ _ rfl
    refine lv_iload_n hx hb dX3_put_20 rfl (lv_at hl 1 rfl) ?_
    refine lv_iload_n hx hb dX3_put_21 rfl (lv_at hl 2 rfl) ?_
    refine lv_iconst (v := 4) hx hb dX3_put_22 (by decide) ?_
    refine lv_ishl hx hb dX3_put_23 ?_
    refine lv_topi (fun z3239 e3240 => ?_)
    have rr_z3239 := i32_rng z3239
    have tsz3239 := tshl4 e3240 (by omega)
    refine lv_ior hx hb dX3_put_24 ?_
    refine lv_topi (fun z3242 e3243 => ?_)
    have toz3242 := tor e3243 (by omega) (by omega)
    have trz3242 := i32_rng z3242
    refine va_iast hx hb hK hP (DX hg) hS (44 + nr) (32 + nr) (rowW44 hnr) (rowT44 hnr) (i := (v 142)) (x := z3242) (vin (a := (v 142).toInt) rfl (by omega)) dX3_put_25 (fun H locs hP _ hS => ?_)
    have hP := va_P_eq (sX_row44 g c _ _ _ hnr _) hP
    have hI := IX.store hI (44 + nr) (v 142 : Int32).toNatClampNeg z3242 (rowA44 hnr) (by omega)
    have hal := (alX_F _ _ (44 + nr) (upd (F (44 + nr)) (v 142 : Int32).toNatClampNeg z3242) (by omega) (by omega) (by omega) (by omega) (by omega)).trans hal
    have hP : va_P (dC, dI) classes (wX g c v (va_up F (44 + nr) (upd (F (44 + nr)) (v 142 : Int32).toNatClampNeg z3242)) (g (44 + nr))) H := hP
    generalize (va_up F (44 + nr) (upd (F (44 + nr)) (v 142 : Int32).toNatClampNeg z3242)) = F3245 at hP hI hal
    refine lv_aload_n hx hb dX3_put_26 rfl (lv_at hl 0 rfl) ?_
    refine lv_dup hx hb dX3_put_27 rfl ?_
    refine va_get (D := (dC, dI)) (ci := 3) (v := .int (v 142)) (C := RX3) (T := TX3) (N := 5) hx hb hwd inA_X3 hown hK hP 7 rfl rfl 2 (by decide) (hwd _ wk_852) (fun _ h9 => h9) rfl dX3_put_28 ?_
    have t3246 : 0 ≤ (v 142).toInt ∧ (v 142).toInt ≤ 120 := hI.1 142 _ _ rfl
    refine lv_iconst (v := 1) hx hb dX3_put_31 (by decide) ?_
    refine lv_iadd hx hb dX3_put_32 ?_
    refine lv_topi (fun z3247 e3248 => ?_)
    try (have t3249 := tadd e3248 (a := (v 142).toInt) rfl (b := 1) (by decide) (by omega))
    refine va_put (D := (dC, dI)) (ci := 3) (v := .int z3247) (ty := .int) (C := RX3) (T := TX3) (N := 5) (fs := fsX_7 g v (g (44 + nr))) hx hb hwd inA_X3 tyX3 tyX3_ok nmX3 hown hK hP (DX hg) hS 7 rfl rfl 2 (by decide) (hwd _ wk_852) (fun _ h9 => h9) rfl (by decide +kernel) rfl rfl (Nat.le_of_ble_eq_true rfl) dX3_put_33 (fun H locs hP _ hS => ?_)
    have hP := va_P_eq (pX_142 g c _ _ _ _) hP
    have hI := IX.put hI 142 z3247 rfl (by omega)
    have hal := (alX_v _ _ 142 z3247 (by decide) (by decide) (by decide) (by decide)).trans hal
    refine lv_aload_n hx hb dX3_put_36 rfl (lv_at hl 0 rfl) ?_
    refine va_get (D := (dC, dI)) (ci := 3) (v := .int z3247) (C := RX3) (T := TX3) (N := 5) hx hb hwd inA_X3 hown hK hP 7 rfl rfl 2 (by decide) (hwd _ wk_852) (fun _ h9 => h9) rfl dX3_put_37 ?_
    have t3250 : 0 ≤ z3247.toInt ∧ z3247.toInt ≤ 120 := hI.1 142 _ _ rfl
    refine lv_iconst (v := 1) hx hb dX3_put_40 (by decide) ?_
    refine lv_isub hx hb dX3_put_41 ?_
    refine lv_topi (fun z3251 e3252 => ?_)
    try (have t3253 := tsub e3252 (a := z3247.toInt) rfl (b := 1) (by decide) (by omega))
    have hP9 : va_P (dC, dI) classes (wX g c (va_up v 142 z3247) F3245 (g (44 + nr))) H := hP
    exact W.iret (v := z3251) hx hb hr (fun t ht hW => ⟨⟨z3251, ((va_up v 142 z3247), F3245, (g (44 + nr))), rfl, ⟨hI, hal, rfl, (frU (by decide) (fun _ _ => rfl)), by omega⟩, (by show va_P _ _ _ t.heap; rw [ht]; exact hP9)⟩, hS.F ht⟩) hS.2.2 dX3_put_42
set_option maxHeartbeats 8000000 in
set_option maxRecDepth 100000 in
theorem c_X3_leadHere (l : Launch) (dC : Nat → ClassId) (dI : Nat → Nat → Nat) (g : Nat → Nat) (c : Nat → ClassId) (adK adV : Nat → Nat) (v : Nat → Int32) (F : Nat → Nat → Int32) (nr sz : Nat) (p0 : Int32) (hg : injX g) (hnr : nr < 10) (hI : IX v F) : Met l yX3_leadHere (Cond.code yX3_leadHere cX3_leadHere 2 none :: wA) ({ frames := 1, cells := 0, slots := 0, locals := 40 }) (va_Pc [.ref (g 7), .int p0] (PX dC dI g c adK adV v F (g (44 + nr)) sz)) (va_Qv (fun (u : StX) => IX u.1 u.2.1 ∧ alX u.1 u.2.1 = alX v F ∧ u.2.2 = (g (44 + nr)) ∧ (∀ k, k ∉ ([] : List Nat) → u.1 k = v k) ∧ True) (BX dC dI g c) (AX g sz)) 0 0 (AX g sz) := by
  refine Met.ofW (cc := cX3_leadHere) (maxL := 2) (ret := none) (by decide) rfl ?_
  intro p e s m args below meth c0 s₁ B hml hv
  obtain ⟨rfl, hsz, hP, hK, hE⟩ := hv
  have hx := B.exec
  have hb := B.bytes
  have hr := B.returns
  have hts := atoms_spec (ws := Cond.code yX3_leadHere cX3_leadHere 2 none :: wA) B.pre
  have hwd : ∀ w ∈ wA, w.before _ s = true := fun w h => hts w (List.mem_cons_of_mem _ h)
  have hown : s.vm.findClass RX3 = some m.cls := findClass_of_methodNamed B.named
  have hlocks := B.notSynchronized
  subst hsz
  have hl := lv_entry ([.ref (g 7), .int p0]) (n := 2) (Nat.le_of_ble_eq_true rfl)
  rw [lg_entry_eq]
  generalize (lg_sl ([.ref (g 7), .int p0]) ++ List.replicate (2 - (lg_sl ([.ref (g 7), .int p0])).length) Slot.unset).toArray = ls at hl ⊢
  have hl : lv_has ls 2 [(0, .ref (g 7)), (1, .int p0)] := hl
  obtain ⟨H, eH⟩ : ∃ z, z = s.heap := ⟨_, rfl⟩
  have hP : va_P (dC, dI) classes (wX g c v F (g (44 + nr))) H := by rw [eH]; exact hP
  have hS : va_S (AX g s.heap.size) s.heap H [] := by rw [eH]; exact va_S.rf
  refine my_heap eH ?_
  have hal : alX v F = alX v F := rfl
  have rp0 := i32_rng p0
  refine lv_iload_n hx hb dX3_leadHere_0 rfl (lv_at hl 1 rfl) ?_
  refine lv_if_lt (tgt := 35) hx hb dX3_leadHere_1 (by decide) (fun c3254 => ?_) (fun c3254 => ?_)
  · skip
    have t3255 := cv_lt (a := p0.toInt) rfl (b := 0) (by decide) c3254
    have hP9 : va_P (dC, dI) classes (wX g c v F (g (44 + nr))) H := hP
    exact W.vret hx hb hr (fun t ht hW => ⟨⟨(v, F, (g (44 + nr))), rfl, ⟨hI, hal, rfl, (fun _ _ => rfl), trivial⟩, (by show va_P _ _ _ t.heap; rw [ht]; exact hP9)⟩, hS.F ht⟩) hS.2.2 dX3_leadHere_35
  · skip
    have t3256 := cv_nlt (a := p0.toInt) rfl (b := 0) (by decide) c3254
    refine lv_iload_n hx hb dX3_leadHere_4 rfl (lv_at hl 1 rfl) ?_
    refine lv_aload_n hx hb dX3_leadHere_5 rfl (lv_at hl 0 rfl) ?_
    refine va_get (D := (dC, dI)) (ci := 3) (v := .ref (g (44 + nr))) (C := RX3) (T := TX3) (N := 5) hx hb hwd inA_X3 hown hK hP 7 rfl rfl 1 (by decide) (hwd _ wk_119) (fun _ h9 => h9) rfl dX3_leadHere_6 ?_
    refine va_alen (v := 120) hx hb hK hP (44 + nr) (32 + nr) (rowW44 hnr) (rowT44 hnr) rfl dX3_leadHere_9 ?_
    refine lv_icmp_ge (tgt := 35) hx hb dX3_leadHere_10 (by decide) (fun c3257 => ?_) (fun c3257 => ?_)
    · skip
      have t3258 := cv_le (a := 120) (by decide) (b := p0.toInt) rfl c3257
      have hP9 : va_P (dC, dI) classes (wX g c v F (g (44 + nr))) H := hP
      exact W.vret hx hb hr (fun t ht hW => ⟨⟨(v, F, (g (44 + nr))), rfl, ⟨hI, hal, rfl, (fun _ _ => rfl), trivial⟩, (by show va_P _ _ _ t.heap; rw [ht]; exact hP9)⟩, hS.F ht⟩) hS.2.2 dX3_leadHere_35
    · skip
      have t3259 := cv_nle (a := 120) (by decide) (b := p0.toInt) rfl c3257
      refine lv_aload_n hx hb dX3_leadHere_13 rfl (lv_at hl 0 rfl) ?_
      refine va_get (D := (dC, dI)) (ci := 3) (v := .ref (g (44 + nr))) (C := RX3) (T := TX3) (N := 5) hx hb hwd inA_X3 hown hK hP 7 rfl rfl 1 (by decide) (hwd _ wk_119) (fun _ h9 => h9) rfl dX3_leadHere_14 ?_
      refine lv_iload_n hx hb dX3_leadHere_17 rfl (lv_at hl 1 rfl) ?_
      refine lv_aload_n hx hb dX3_leadHere_18 rfl (lv_at hl 0 rfl) ?_
      refine va_get (D := (dC, dI)) (ci := 3) (v := .ref (g (44 + nr))) (C := RX3) (T := TX3) (N := 5) hx hb hwd inA_X3 hown hK hP 7 rfl rfl 1 (by decide) (hwd _ wk_119) (fun _ h9 => h9) rfl dX3_leadHere_19 ?_
      refine lv_iload_n hx hb dX3_leadHere_22 rfl (lv_at hl 1 rfl) ?_
      refine va_iald hx hb hK hP (44 + nr) (32 + nr) (rowW44 hnr) (rowT44 hnr) (i := p0) (vin (a := p0.toInt) rfl (by omega)) dX3_leadHere_23 ?_
      refine lv_topi (fun z3260 e3261 => ?_)
      have t3262 : 0 ≤ z3260.toInt ∧ z3260.toInt ≤ 2147483647 := by rw [e3261]; exact hI.2 _ _ _ (rowA44 hnr) _
      refine lv_bipush (v := 15) hx hb dX3_leadHere_24 (by decide) ?_
      refine lv_iand hx hb dX3_leadHere_26 ?_
      refine lv_topi (fun z3263 e3264 => ?_)
      have taz3263 := tand e3264 (by decide)
      refine lv_aload_n hx hb dX3_leadHere_27 rfl (lv_at hl 0 rfl) ?_
      refine va_get (D := (dC, dI)) (ci := 3) (v := .int (v 142)) (C := RX3) (T := TX3) (N := 5) hx hb hwd inA_X3 hown hK hP 7 rfl rfl 2 (by decide) (hwd _ wk_852) (fun _ h9 => h9) rfl dX3_leadHere_28 ?_
      have t3266 : 0 ≤ (v 142).toInt ∧ (v 142).toInt ≤ 120 := hI.1 142 _ _ rfl
      refine lv_iconst (v := 4) hx hb dX3_leadHere_31 (by decide) ?_
      refine lv_ishl hx hb dX3_leadHere_32 ?_
      refine lv_topi (fun z3267 e3268 => ?_)
      have rr_z3267 := i32_rng z3267
      have tsz3267 := tshl4 e3268 (by omega)
      refine lv_ior hx hb dX3_leadHere_33 ?_
      refine lv_topi (fun z3270 e3271 => ?_)
      have toz3270 := tor e3271 (by omega) (by omega)
      have trz3270 := i32_rng z3270
      refine va_iast hx hb hK hP (DX hg) hS (44 + nr) (32 + nr) (rowW44 hnr) (rowT44 hnr) (i := p0) (x := z3270) (vin (a := p0.toInt) rfl (by omega)) dX3_leadHere_34 (fun H locs hP _ hS => ?_)
      have hP := va_P_eq (sX_row44 g c _ _ _ hnr _) hP
      have hI := IX.store hI (44 + nr) (p0 : Int32).toNatClampNeg z3270 (rowA44 hnr) (by omega)
      have hal := (alX_F _ _ (44 + nr) (upd (F (44 + nr)) (p0 : Int32).toNatClampNeg z3270) (by omega) (by omega) (by omega) (by omega) (by omega)).trans hal
      have hP : va_P (dC, dI) classes (wX g c v (va_up F (44 + nr) (upd (F (44 + nr)) (p0 : Int32).toNatClampNeg z3270)) (g (44 + nr))) H := hP
      generalize (va_up F (44 + nr) (upd (F (44 + nr)) (p0 : Int32).toNatClampNeg z3270)) = F3273 at hP hI hal
      have hP9 : va_P (dC, dI) classes (wX g c v F3273 (g (44 + nr))) H := hP
      exact W.vret hx hb hr (fun t ht hW => ⟨⟨(v, F3273, (g (44 + nr))), rfl, ⟨hI, hal, rfl, (fun _ _ => rfl), trivial⟩, (by show va_P _ _ _ t.heap; rw [ht]; exact hP9)⟩, hS.F ht⟩) hS.2.2 dX3_leadHere_35
set_option maxHeartbeats 8000000 in
set_option maxRecDepth 100000 in
theorem c_X3_readNumberOrName (l : Launch) (dC : Nat → ClassId) (dI : Nat → Nat → Nat) (g : Nat → Nat) (c : Nat → ClassId) (adK adV : Nat → Nat) (v : Nat → Int32) (F : Nat → Nat → Int32) (nr sz : Nat) (p0 : Int32) (hg : injX g) (hnr : nr < 10) (hI : IX v F) (hs : (0 ≤ (v 143).toInt ∧ (v 143).toInt ≤ (v 100).toInt) ∧ ((v 144).toInt = -1 ∨ 0 ≤ (v 144).toInt)) (hp : (0 ≤ (v 144).toInt ∧ p0.toInt = -1) ∨ ((v 144).toInt = -1 ∧ p0.toInt = sg (v 100) (F 39) (v 143).toInt ∧ (-1 ≤ p0.toInt ∧ p0.toInt ≤ 255) ∧ (p0.toInt = -1 ∨ (v 143).toInt < (v 100).toInt))) : Met l yX3_readNumberOrName (Cond.code yX3_readNumberOrName cX3_readNumberOrName 4 none :: wA) ({ frames := 5, cells := 0, slots := 0, locals := 200 }) (va_Pc [.ref (g 7), .int p0] (PX dC dI g c adK adV v F (g (44 + nr)) sz)) (va_Qv (fun (u : StX) => IX u.1 u.2.1 ∧ alX u.1 u.2.1 = alX v F ∧ u.2.2 = (g (44 + nr)) ∧ (∀ k, k ∉ ([142, 143, 144] : List Nat) → u.1 k = v k) ∧ (((0 ≤ (v 144).toInt ∧ (u.1 144).toInt = (v 144).toInt ∧ (u.1 143).toInt = (v 143).toInt) ∨ ((v 144).toInt = -1 ∧ (v 143).toInt ≤ (u.1 143).toInt ∧ (u.1 143).toInt ≤ (v 100).toInt ∧ ((u.1 144).toInt = -1 ∨ (u.1 144).toInt = (u.1 143).toInt))) ∧ nmx (v 100) (F 39) p0.toInt (v 144).toInt (v 143).toInt (u.1 144).toInt (u.1 143).toInt)) (BX dC dI g c) (AX g sz)) 0 0 (AX g sz) := by
  refine Met.ofW (cc := cX3_readNumberOrName) (maxL := 4) (ret := none) (by decide) rfl ?_
  intro p e s m args below meth c0 s₁ B hml hv
  obtain ⟨rfl, hsz, hP, hK, hE⟩ := hv
  have hx := B.exec
  have hb := B.bytes
  have hr := B.returns
  have hts := atoms_spec (ws := Cond.code yX3_readNumberOrName cX3_readNumberOrName 4 none :: wA) B.pre
  have hwd : ∀ w ∈ wA, w.before _ s = true := fun w h => hts w (List.mem_cons_of_mem _ h)
  have hown : s.vm.findClass RX3 = some m.cls := findClass_of_methodNamed B.named
  have hlocks := B.notSynchronized
  subst hsz
  have hl := lv_entry ([.ref (g 7), .int p0]) (n := 4) (Nat.le_of_ble_eq_true rfl)
  rw [lg_entry_eq]
  generalize (lg_sl ([.ref (g 7), .int p0]) ++ List.replicate (4 - (lg_sl ([.ref (g 7), .int p0])).length) Slot.unset).toArray = ls at hl ⊢
  have hl : lv_has ls 4 [(0, .ref (g 7)), (1, .int p0)] := hl
  obtain ⟨H, eH⟩ : ∃ z, z = s.heap := ⟨_, rfl⟩
  have hP : va_P (dC, dI) classes (wX g c v F (g (44 + nr))) H := by rw [eH]; exact hP
  have hS : va_S (AX g s.heap.size) s.heap H [] := by rw [eH]; exact va_S.rf
  refine my_heap eH ?_
  have hal : alX v F = alX v F := rfl
  have rp0 := i32_rng p0
  have hb100 : 0 ≤ (v 100).toInt ∧ (v 100).toInt ≤ 120 := hI.1 100 _ _ rfl
  refine lv_iload_n hx hb dX3_readNumberOrName_0 rfl (lv_at hl 1 rfl) ?_
  refine lv_iconst (v := (-1)) hx hb dX3_readNumberOrName_1 (by decide) ?_
  refine lv_icmp_ne (tgt := 9) hx hb dX3_readNumberOrName_2 (by decide) (fun c3274 => ?_) (fun c3274 => ?_)
  · skip
    have t3275 := cv_ne (a := p0.toInt) rfl (b := (-1)) (by decide) c3274
    refine va_ldcS hx hb hown hE.2.2.1 dX3_readNumberOrName_9 ?_
    refine lv_iload_n hx hb dX3_readNumberOrName_11 rfl (lv_at hl 1 rfl) ?_
    refine lv_i2c hx hb dX3_readNumberOrName_12 rfl ?_
    refine lv_topi (fun z3276 e3277 => ?_)
    have tcz3276 := tchar e3277 (by omega)
    refine va_calli (va_runV (As := [.int z3276]) (rest := []) ⟨hx, hb, hml, hown, hwd⟩ (c_J0_indexOf_0f7a4 l dC dI g c adK adV v F (g (44 + nr)) H.size z3276 hg hI ) (cwV 1 hwd (gV wk_906 wk_903 wk_904 wk_905 wk_153) rfl rfl rfl (by decide +kernel) ⟨Nat.le_of_ble_eq_true rfl, Nat.le_of_ble_eq_true rfl⟩) ⟨PX.blind, vk_recv hE.2.2.2.1 (i := 0) (by decide) hS, fun U hU hW => ⟨rfl, PX.at hK hE hP hS hU hW⟩⟩ rfl rfl hl.1 rfl (lv_room (Nat.le_of_ble_eq_true rfl)) dX3_readNumberOrName_13 ⟨Nat.le_of_ble_eq_true rfl, Nat.le_of_ble_eq_true rfl⟩) hS (fun q _ h => (freeX hS) q h) (freeX hS) (fun r3278 u t H1 locs ht hvm hw hB hz1 hk1 hS => ?_)
    unfold BX at hB
    rw [ht] at hB
    have hP : va_P (dC, dI) classes (wX g c v F (g (44 + nr))) H1 := hB
    have hw : ((0 ≤ r3278.toInt ∧ r3278.toInt ≤ 5) ∧ (z3276.toInt = 100 ∨ z3276.toInt = 104 ∨ z3276.toInt = 108 ∨ z3276.toInt = 119 ∨ z3276.toInt = 107 ∨ z3276.toInt = 110)) ∨ (r3278.toInt = -1 ∧ ¬ (z3276.toInt = 100 ∨ z3276.toInt = 104 ∨ z3276.toInt = 108 ∨ z3276.toInt = 119 ∨ z3276.toInt = 107 ∨ z3276.toInt = 110)) := hw
    generalize H1 = H at hP hS ⊢
    have hw_r3278 := hw
    refine lv_istore_n (lv' := [(2, .int r3278), (0, .ref (g 7)), (1, .int p0)]) hx hb dX3_readNumberOrName_16 rfl hl (by decide) rfl (fun ls hl => ?_)
    refine lv_iload_n hx hb dX3_readNumberOrName_17 rfl (lv_at hl 2 rfl) ?_
    refine lv_iconst (v := (-1)) hx hb dX3_readNumberOrName_18 (by decide) ?_
    refine lv_icmp_ne (tgt := 26) hx hb dX3_readNumberOrName_19 (by decide) (fun c3279 => ?_) (fun c3279 => ?_)
    · skip
      have t3280 := cv_ne (a := p0.toInt) rfl (b := (-1)) (by decide) c3279
      refine lv_aload_n hx hb dX3_readNumberOrName_26 rfl (lv_at hl 1 rfl) ?_
      refine va_get (D := (dC, dI)) (ci := 3) (v := .ref (g 5)) (C := RX3) (T := TX3) (N := 5) hx hb hwd inA_X3 hown hK hP 7 rfl rfl 0 (by decide) (hwd _ wk_118) (fun _ h9 => h9) rfl dX3_readNumberOrName_27 ?_
      refine lv_aload_n hx hb dX3_readNumberOrName_30 rfl (lv_at hl 1 rfl) ?_
      refine va_get (D := (dC, dI)) (ci := 3) (v := .int (v 143)) (C := RX3) (T := TX3) (N := 5) hx hb hwd inA_X3 hown hK hP 7 rfl rfl 3 (by decide) (hwd _ wk_853) (fun _ h9 => h9) rfl dX3_readNumberOrName_31 ?_
      have t3281 : 0 ≤ (v 100).toInt ∧ (v 100).toInt ≤ 120 := hI.1 100 _ _ rfl
      refine va_calli (va_runV (As := [.int (v 143)]) (rest := []) ⟨hx, hb, hml, hown, hwd⟩ (c_X10_digitsAt_e l dC dI g c adK adV v F (g (44 + nr)) H.size (v 143) hg hI (by omega)) (cwV 1 hwd (gV wk_979 wk_976 wk_977 wk_978 wk_30) rfl rfl rfl (by decide +kernel) ⟨Nat.le_of_ble_eq_true rfl, Nat.le_of_ble_eq_true rfl⟩) ⟨PX.blind, va_recv hK hP (ci := 10) (q0 := 5) rfl rfl, fun U hU hW => ⟨rfl, PX.at hK hE hP hS hU hW⟩⟩ rfl rfl hl.1 rfl (lv_room (Nat.le_of_ble_eq_true rfl)) dX3_readNumberOrName_34 ⟨Nat.le_of_ble_eq_true rfl, Nat.le_of_ble_eq_true rfl⟩) hS (fun q _ h => (freeX hS) q h) (freeX hS) (fun r3282 u t H1 locs ht hvm hw hB hz1 hk1 hS => ?_)
      unfold BX at hB
      rw [ht] at hB
      have hP : va_P (dC, dI) classes (wX g c v F (g (44 + nr))) H1 := hB
      replace hw : (0 ≤ r3282.toInt ∧ r3282.toInt ≤ 5) ∧ dgA (v 100) (F 39) (v 143).toInt r3282.toInt ∧ (r3282.toInt = 5 ∨ ¬ (48 ≤ sg (v 100) (F 39) ((v 143).toInt + r3282.toInt) ∧ sg (v 100) (F 39) ((v 143).toInt + r3282.toInt) ≤ 57)) ∧ (r3282.toInt = 0 ∨ (v 143).toInt + r3282.toInt ≤ (v 100).toInt) := hw
      have hw_r3282 := hw
      clear hw
      generalize H1 = H at hP hS ⊢
      have rr_r3282 := i32_rng r3282
      refine lv_istore_n (lv' := [(3, .int r3282), (2, .int r3278), (0, .ref (g 7)), (1, .int p0)]) hx hb dX3_readNumberOrName_37 rfl hl (by decide) rfl (fun ls hl => ?_)
      refine lv_iload_n hx hb dX3_readNumberOrName_38 rfl (lv_at hl 1 rfl) ?_
      refine lv_if_lt (tgt := 62) hx hb dX3_readNumberOrName_39 (by decide) (fun c3283 => ?_) (fun c3283 => ?_)
      · skip
        have t3284 := cv_lt (a := r3278.toInt) rfl (b := 0) (by decide) c3283
        refine lv_iload_n hx hb dX3_readNumberOrName_62 rfl (lv_at hl 0 rfl) ?_
        refine lv_if_le (tgt := 97) hx hb dX3_readNumberOrName_63 (by decide) (fun c3285 => ?_) (fun c3285 => ?_)
        · skip
          have t3286 := cv_le (a := r3282.toInt) rfl (b := 0) (by decide) c3285
          refine lv_aload_n hx hb dX3_readNumberOrName_97 rfl (lv_at hl 2 rfl) ?_
          refine va_callv (va_runV (As := []) (rest := []) ⟨hx, hb, hml, hown, hwd⟩ (c_X3_fail l dC dI g c adK adV v F nr H.size  hg hnr hI (by have h9 : v 143 = v 143 := rfl; (try rw [h9]); clear h9; have h9 : v 100 = v 100 := rfl; (try rw [h9]); clear h9; have h9 : v 144 = v 144 := rfl; (try rw [h9]); clear h9; omega)) (cwV 0 hwd (gV wk_878 wk_875 wk_876 wk_877 wk_38) rfl rfl rfl (by decide +kernel) ⟨Nat.le_of_ble_eq_true rfl, Nat.le_of_ble_eq_true rfl⟩) ⟨PX.blind, va_recv hK hP (ci := 3) (q0 := 7) rfl rfl, fun U hU hW => ⟨rfl, PX.at hK hE hP hS hU hW⟩⟩ rfl rfl hl.1 rfl (lv_room (Nat.le_of_ble_eq_true rfl)) dX3_readNumberOrName_98 ⟨Nat.le_of_ble_eq_true rfl, Nat.le_of_ble_eq_true rfl⟩) hS (fun q _ h => (freeX hS) q h) (freeX hS) (fun u t H1 locs ht hvm hw hB hz1 hk1 hS => ?_)
          unfold BX at hB
          rw [ht] at hB
          obtain ⟨v3288, F3289, rc9⟩ := u
          obtain ⟨hI, hal9, hrc, hf3290, hw⟩ := hw
          dsimp only at hI hal9 hrc hB hf3290 hw
          rw [hrc] at hB
          have hal := hal9.trans hal
          have hP : va_P (dC, dI) classes (wX g c v3288 F3289 (g (44 + nr))) H1 := hB
          replace hw : (0 ≤ (v 144).toInt ∧ (v3288 144).toInt = (v 144).toInt) ∨ ((v 144).toInt = -1 ∧ (v3288 144).toInt = (v 143).toInt) := hw
          have hw_r3287 := hw
          clear hw
          generalize H1 = H at hP hS ⊢
          have hP9 : va_P (dC, dI) classes (wX g c v3288 F3289 (g (44 + nr))) H := hP
          exact W.vret hx hb hr (fun t ht hW => ⟨⟨(v3288, F3289, (g (44 + nr))), rfl, ⟨hI, hal, rfl, (frC (by decide) hf3290 (fun _ _ => rfl)), (by show ((0 ≤ (v 144).toInt ∧ (v3288 144).toInt = (v 144).toInt ∧ (v3288 143).toInt = (v 143).toInt) ∨ ((v 144).toInt = -1 ∧ (v 143).toInt ≤ (v3288 143).toInt ∧ (v3288 143).toInt ≤ (v 100).toInt ∧ ((v3288 144).toInt = -1 ∨ (v3288 144).toInt = (v3288 143).toInt))) ∧ nmx (v 100) (F 39) p0.toInt (v 144).toInt (v 143).toInt (v3288 144).toInt (v3288 143).toInt; rw [show v3288 143 = v 143 from hf3290 143 (by decide)]; refine ⟨by omega, fun hf h45 h40 d9 => ?_⟩; exact rd.num (by omega) (by omega) (by omega) (by omega) (dg.ofT (m := r3282.toInt) (by omega) (by omega) hw_r3282.2.1 hw_r3282.2.2.1 (by omega)))⟩, (by show va_P _ _ _ t.heap; rw [ht]; exact hP9)⟩, hS.F ht⟩) hS.2.2 dX3_readNumberOrName_101
        · skip
          have t3291 := cv_nle (a := r3282.toInt) rfl (b := 0) (by decide) c3285
          refine lv_aload_n hx hb dX3_readNumberOrName_66 rfl (lv_at hl 2 rfl) ?_
          refine lv_iconst (v := 0) hx hb dX3_readNumberOrName_67 (by decide) ?_
          refine lv_aload_n hx hb dX3_readNumberOrName_68 rfl (lv_at hl 2 rfl) ?_
          refine va_get (D := (dC, dI)) (ci := 3) (v := .ref (g 5)) (C := RX3) (T := TX3) (N := 5) hx hb hwd inA_X3 hown hK hP 7 rfl rfl 0 (by decide) (hwd _ wk_118) (fun _ h9 => h9) rfl dX3_readNumberOrName_69 ?_
          refine lv_aload_n hx hb dX3_readNumberOrName_72 rfl (lv_at hl 2 rfl) ?_
          refine va_get (D := (dC, dI)) (ci := 3) (v := .int (v 143)) (C := RX3) (T := TX3) (N := 5) hx hb hwd inA_X3 hown hK hP 7 rfl rfl 3 (by decide) (hwd _ wk_853) (fun _ h9 => h9) rfl dX3_readNumberOrName_73 ?_
          refine lv_iload_n hx hb dX3_readNumberOrName_76 rfl (lv_at hl 0 rfl) ?_
          refine va_calli (va_runV (As := [.int (v 143), .int r3282]) (rest := [.int 0, .ref (g 7)]) ⟨hx, hb, hml, hown, hwd⟩ (c_X10_numberAt_e l dC dI g c adK adV v F (g (44 + nr)) H.size (v 143) r3282 hg hI (by omega) (by omega) (by have h9 : v 100 = v 100 := rfl; rw [h9]; exact hw_r3282.2.1)) (cwV 2 hwd (gV wk_988 wk_985 wk_986 wk_987 wk_30) rfl rfl rfl (by decide +kernel) ⟨Nat.le_of_ble_eq_true rfl, Nat.le_of_ble_eq_true rfl⟩) ⟨PX.blind, va_recv hK hP (ci := 10) (q0 := 5) rfl rfl, fun U hU hW => ⟨rfl, PX.at hK hE hP hS hU hW⟩⟩ rfl rfl hl.1 rfl (lv_room (Nat.le_of_ble_eq_true rfl)) dX3_readNumberOrName_77 ⟨Nat.le_of_ble_eq_true rfl, Nat.le_of_ble_eq_true rfl⟩) hS (fun q _ h => (freeX hS) q h) (freeX hS) (fun r3292 u t H1 locs ht hvm hw hB hz1 hk1 hS => ?_)
          unfold BX at hB
          rw [ht] at hB
          have hP : va_P (dC, dI) classes (wX g c v F (g (44 + nr))) H1 := hB
          have hw : 0 ≤ r3292.toInt ∧ r3292.toInt ≤ 99999 := hw
          generalize H1 = H at hP hS ⊢
          have hw_r3292 := hw
          refine va_calli (va_runV (As := [.int 0, .int r3292]) (rest := []) ⟨hx, hb, hml, hown, hwd⟩ (c_X3_put l dC dI g c adK adV v F nr H.size 0 r3292 hg hnr hI (by have : (0 : Int32).toInt = 0 := (by decide); omega) (by omega)) (cwV 2 hwd (gV wk_882 wk_879 wk_880 wk_881 wk_38) rfl rfl rfl (by decide +kernel) ⟨Nat.le_of_ble_eq_true rfl, Nat.le_of_ble_eq_true rfl⟩) ⟨PX.blind, va_recv hK hP (ci := 3) (q0 := 7) rfl rfl, fun U hU hW => ⟨rfl, PX.at hK hE hP hS hU hW⟩⟩ rfl rfl hl.1 rfl (lv_room (Nat.le_of_ble_eq_true rfl)) dX3_readNumberOrName_80 ⟨Nat.le_of_ble_eq_true rfl, Nat.le_of_ble_eq_true rfl⟩) hS (fun q _ h => (freeX hS) q h) (freeX hS) (fun r3293 u t H1 locs ht hvm hw hB hz1 hk1 hS => ?_)
          unfold BX at hB
          rw [ht] at hB
          obtain ⟨v3294, F3295, rc9⟩ := u
          obtain ⟨hI, hal9, hrc, hf3296, hw⟩ := hw
          dsimp only at hI hal9 hrc hB hf3296 hw
          rw [hrc] at hB
          have hal := hal9.trans hal
          have hP : va_P (dC, dI) classes (wX g c v3294 F3295 (g (44 + nr))) H1 := hB
          have hw : -1 ≤ r3293.toInt ∧ r3293.toInt ≤ 119 := hw
          have k3297 : (0 : Int32).toInt = 0 := by decide
          generalize H1 = H at hP hS ⊢
          have hw_r3293 := hw
          refine lv_pop hx hb dX3_readNumberOrName_83 rfl ?_
          refine lv_aload_n hx hb dX3_readNumberOrName_84 rfl (lv_at hl 2 rfl) ?_
          refine lv_dup hx hb dX3_readNumberOrName_85 rfl ?_
          refine va_get (D := (dC, dI)) (ci := 3) (v := .int (v3294 143)) (C := RX3) (T := TX3) (N := 5) hx hb hwd inA_X3 hown hK hP 7 rfl rfl 3 (by decide) (hwd _ wk_853) (fun _ h9 => h9) rfl dX3_readNumberOrName_86 ?_
          refine my_top (v := v 143) (hf3296 143 (by decide)) ?_
          refine lv_iload_n hx hb dX3_readNumberOrName_89 rfl (lv_at hl 0 rfl) ?_
          refine lv_iadd hx hb dX3_readNumberOrName_90 ?_
          refine lv_topi (fun z3298 e3299 => ?_)
          try (have t3300 := tadd e3299 (a := (v 143).toInt) rfl (b := r3282.toInt) rfl (by omega))
          refine va_put (D := (dC, dI)) (ci := 3) (v := .int z3298) (ty := .int) (C := RX3) (T := TX3) (N := 5) (fs := fsX_7 g v3294 (g (44 + nr))) hx hb hwd inA_X3 tyX3 tyX3_ok nmX3 hown hK hP (DX hg) hS 7 rfl rfl 3 (by decide) (hwd _ wk_853) (fun _ h9 => h9) rfl (by decide +kernel) rfl rfl (Nat.le_of_ble_eq_true rfl) dX3_readNumberOrName_91 (fun H locs hP _ hS => ?_)
          have hP := va_P_eq (pX_143 g c _ _ _ _) hP
          have hI := IX.put0 hI 143 z3298 rfl
          have hal := (alX_v _ _ 143 z3298 (by decide) (by decide) (by decide) (by decide)).trans hal
          refine lv_goto (tgt := 101) hx hb dX3_readNumberOrName_94 (by decide) ?_
          have hP9 : va_P (dC, dI) classes (wX g c (va_up v3294 143 z3298) F3295 (g (44 + nr))) H := hP
          exact W.vret hx hb hr (fun t ht hW => ⟨⟨((va_up v3294 143 z3298), F3295, (g (44 + nr))), rfl, ⟨hI, hal, rfl, (frU (by decide) (frC (by decide) hf3296 (fun _ _ => rfl))), (by show ((0 ≤ (v 144).toInt ∧ ((va_up v3294 143 z3298) 144).toInt = (v 144).toInt ∧ z3298.toInt = (v 143).toInt) ∨ ((v 144).toInt = -1 ∧ (v 143).toInt ≤ z3298.toInt ∧ z3298.toInt ≤ (v 100).toInt ∧ (((va_up v3294 143 z3298) 144).toInt = -1 ∨ ((va_up v3294 143 z3298) 144).toInt = z3298.toInt))) ∧ nmx (v 100) (F 39) p0.toInt (v 144).toInt (v 143).toInt ((va_up v3294 143 z3298) 144).toInt z3298.toInt; rw [show (va_up v3294 143 z3298) 144 = v 144 from hf3296 144 (by decide)]; refine ⟨by omega, fun hf h45 h40 d9 => ?_⟩; exact rd.num (by omega) (by omega) (by omega) (by omega) (dg.ofT (m := r3282.toInt) (by omega) (by omega) hw_r3282.2.1 hw_r3282.2.2.1 (by omega)))⟩, (by show va_P _ _ _ t.heap; rw [ht]; exact hP9)⟩, hS.F ht⟩) hS.2.2 dX3_readNumberOrName_101
      · skip
        have t3301 := cv_nlt (a := r3278.toInt) rfl (b := 0) (by decide) c3283
        refine lv_aload_n hx hb dX3_readNumberOrName_42 rfl (lv_at hl 2 rfl) ?_
        refine lv_iconst (v := 1) hx hb dX3_readNumberOrName_43 (by decide) ?_
        refine lv_iload_n hx hb dX3_readNumberOrName_44 rfl (lv_at hl 1 rfl) ?_
        refine va_calli (va_runV (As := [.int 1, .int r3278]) (rest := []) ⟨hx, hb, hml, hown, hwd⟩ (c_X3_put l dC dI g c adK adV v F nr H.size 1 r3278 hg hnr hI (by have : (1 : Int32).toInt = 1 := (by decide); omega) (by omega)) (cwV 2 hwd (gV wk_882 wk_879 wk_880 wk_881 wk_38) rfl rfl rfl (by decide +kernel) ⟨Nat.le_of_ble_eq_true rfl, Nat.le_of_ble_eq_true rfl⟩) ⟨PX.blind, va_recv hK hP (ci := 3) (q0 := 7) rfl rfl, fun U hU hW => ⟨rfl, PX.at hK hE hP hS hU hW⟩⟩ rfl rfl hl.1 rfl (lv_room (Nat.le_of_ble_eq_true rfl)) dX3_readNumberOrName_45 ⟨Nat.le_of_ble_eq_true rfl, Nat.le_of_ble_eq_true rfl⟩) hS (fun q _ h => (freeX hS) q h) (freeX hS) (fun r3302 u t H1 locs ht hvm hw hB hz1 hk1 hS => ?_)
        unfold BX at hB
        rw [ht] at hB
        obtain ⟨v3303, F3304, rc9⟩ := u
        obtain ⟨hI, hal9, hrc, hf3305, hw⟩ := hw
        dsimp only at hI hal9 hrc hB hf3305 hw
        rw [hrc] at hB
        have hal := hal9.trans hal
        have hP : va_P (dC, dI) classes (wX g c v3303 F3304 (g (44 + nr))) H1 := hB
        have hw : -1 ≤ r3302.toInt ∧ r3302.toInt ≤ 119 := hw
        have k3306 : (1 : Int32).toInt = 1 := by decide
        generalize H1 = H at hP hS ⊢
        have hw_r3302 := hw
        refine lv_pop hx hb dX3_readNumberOrName_48 rfl ?_
        refine lv_aload_n hx hb dX3_readNumberOrName_49 rfl (lv_at hl 2 rfl) ?_
        refine lv_dup hx hb dX3_readNumberOrName_50 rfl ?_
        refine va_get (D := (dC, dI)) (ci := 3) (v := .int (v3303 143)) (C := RX3) (T := TX3) (N := 5) hx hb hwd inA_X3 hown hK hP 7 rfl rfl 3 (by decide) (hwd _ wk_853) (fun _ h9 => h9) rfl dX3_readNumberOrName_51 ?_
        refine my_top (v := v 143) (hf3305 143 (by decide)) ?_
        refine lv_iconst (v := 1) hx hb dX3_readNumberOrName_54 (by decide) ?_
        refine lv_iadd hx hb dX3_readNumberOrName_55 ?_
        refine lv_topi (fun z3307 e3308 => ?_)
        try (have t3309 := tadd e3308 (a := (v 143).toInt) rfl (b := 1) (by decide) (by omega))
        refine va_put (D := (dC, dI)) (ci := 3) (v := .int z3307) (ty := .int) (C := RX3) (T := TX3) (N := 5) (fs := fsX_7 g v3303 (g (44 + nr))) hx hb hwd inA_X3 tyX3 tyX3_ok nmX3 hown hK hP (DX hg) hS 7 rfl rfl 3 (by decide) (hwd _ wk_853) (fun _ h9 => h9) rfl (by decide +kernel) rfl rfl (Nat.le_of_ble_eq_true rfl) dX3_readNumberOrName_56 (fun H locs hP _ hS => ?_)
        have hP := va_P_eq (pX_143 g c _ _ _ _) hP
        have hI := IX.put0 hI 143 z3307 rfl
        have hal := (alX_v _ _ 143 z3307 (by decide) (by decide) (by decide) (by decide)).trans hal
        refine lv_goto (tgt := 101) hx hb dX3_readNumberOrName_59 (by decide) ?_
        have hP9 : va_P (dC, dI) classes (wX g c (va_up v3303 143 z3307) F3304 (g (44 + nr))) H := hP
        exact W.vret hx hb hr (fun t ht hW => ⟨⟨((va_up v3303 143 z3307), F3304, (g (44 + nr))), rfl, ⟨hI, hal, rfl, (frU (by decide) (frC (by decide) hf3305 (fun _ _ => rfl))), (by show ((0 ≤ (v 144).toInt ∧ ((va_up v3303 143 z3307) 144).toInt = (v 144).toInt ∧ z3307.toInt = (v 143).toInt) ∨ ((v 144).toInt = -1 ∧ (v 143).toInt ≤ z3307.toInt ∧ z3307.toInt ≤ (v 100).toInt ∧ (((va_up v3303 143 z3307) 144).toInt = -1 ∨ ((va_up v3303 143 z3307) 144).toInt = z3307.toInt))) ∧ nmx (v 100) (F 39) p0.toInt (v 144).toInt (v 143).toInt ((va_up v3303 143 z3307) 144).toInt z3307.toInt; rw [show (va_up v3303 143 z3307) 144 = v 144 from hf3305 144 (by decide)]; refine ⟨by omega, fun hf h45 h40 d9 => ?_⟩; exact rd.name (by omega) (by omega) (by omega) (by omega))⟩, (by show va_P _ _ _ t.heap; rw [ht]; exact hP9)⟩, hS.F ht⟩) hS.2.2 dX3_readNumberOrName_101
    · skip
      have t3310 := cv_eq (a := p0.toInt) rfl (b := (-1)) (by decide) c3279
      refine lv_iconst (v := 0) hx hb dX3_readNumberOrName_22 (by decide) ?_
      refine lv_goto (tgt := 37) hx hb dX3_readNumberOrName_23 (by decide) ?_
      refine lv_istore_n (lv' := [(3, .int 0), (2, .int r3278), (0, .ref (g 7)), (1, .int p0)]) hx hb dX3_readNumberOrName_37 rfl hl (by decide) rfl (fun ls hl => ?_)
      refine lv_iload_n hx hb dX3_readNumberOrName_38 rfl (lv_at hl 1 rfl) ?_
      refine lv_if_lt (tgt := 62) hx hb dX3_readNumberOrName_39 (by decide) (fun c3311 => ?_) (fun c3311 => ?_)
      · skip
        have t3312 := cv_lt (a := r3278.toInt) rfl (b := 0) (by decide) c3311
        refine lv_iload_n hx hb dX3_readNumberOrName_62 rfl (lv_at hl 0 rfl) ?_
        refine lv_if_le (tgt := 97) hx hb dX3_readNumberOrName_63 (by decide) (fun c3313 => ?_) (fun c3313 => ?_)
        · skip
          refine lv_aload_n hx hb dX3_readNumberOrName_97 rfl (lv_at hl 2 rfl) ?_
          refine va_callv (va_runV (As := []) (rest := []) ⟨hx, hb, hml, hown, hwd⟩ (c_X3_fail l dC dI g c adK adV v F nr H.size  hg hnr hI (by have h9 : v 143 = v 143 := rfl; (try rw [h9]); clear h9; have h9 : v 100 = v 100 := rfl; (try rw [h9]); clear h9; have h9 : v 144 = v 144 := rfl; (try rw [h9]); clear h9; omega)) (cwV 0 hwd (gV wk_878 wk_875 wk_876 wk_877 wk_38) rfl rfl rfl (by decide +kernel) ⟨Nat.le_of_ble_eq_true rfl, Nat.le_of_ble_eq_true rfl⟩) ⟨PX.blind, va_recv hK hP (ci := 3) (q0 := 7) rfl rfl, fun U hU hW => ⟨rfl, PX.at hK hE hP hS hU hW⟩⟩ rfl rfl hl.1 rfl (lv_room (Nat.le_of_ble_eq_true rfl)) dX3_readNumberOrName_98 ⟨Nat.le_of_ble_eq_true rfl, Nat.le_of_ble_eq_true rfl⟩) hS (fun q _ h => (freeX hS) q h) (freeX hS) (fun u t H1 locs ht hvm hw hB hz1 hk1 hS => ?_)
          unfold BX at hB
          rw [ht] at hB
          obtain ⟨v3315, F3316, rc9⟩ := u
          obtain ⟨hI, hal9, hrc, hf3317, hw⟩ := hw
          dsimp only at hI hal9 hrc hB hf3317 hw
          rw [hrc] at hB
          have hal := hal9.trans hal
          have hP : va_P (dC, dI) classes (wX g c v3315 F3316 (g (44 + nr))) H1 := hB
          replace hw : (0 ≤ (v 144).toInt ∧ (v3315 144).toInt = (v 144).toInt) ∨ ((v 144).toInt = -1 ∧ (v3315 144).toInt = (v 143).toInt) := hw
          have hw_r3314 := hw
          clear hw
          generalize H1 = H at hP hS ⊢
          have hP9 : va_P (dC, dI) classes (wX g c v3315 F3316 (g (44 + nr))) H := hP
          exact W.vret hx hb hr (fun t ht hW => ⟨⟨(v3315, F3316, (g (44 + nr))), rfl, ⟨hI, hal, rfl, (frC (by decide) hf3317 (fun _ _ => rfl)), (by show ((0 ≤ (v 144).toInt ∧ (v3315 144).toInt = (v 144).toInt ∧ (v3315 143).toInt = (v 143).toInt) ∨ ((v 144).toInt = -1 ∧ (v 143).toInt ≤ (v3315 143).toInt ∧ (v3315 143).toInt ≤ (v 100).toInt ∧ ((v3315 144).toInt = -1 ∨ (v3315 144).toInt = (v3315 143).toInt))) ∧ nmx (v 100) (F 39) p0.toInt (v 144).toInt (v 143).toInt (v3315 144).toInt (v3315 143).toInt; rw [show v3315 143 = v 143 from hf3317 143 (by decide)]; refine ⟨by omega, fun hf h45 h40 d9 => ?_⟩; exact rd.num (by omega) (by omega) (by omega) (by omega) (dg.none (by omega) (by omega) (by omega) (by omega)))⟩, (by show va_P _ _ _ t.heap; rw [ht]; exact hP9)⟩, hS.F ht⟩) hS.2.2 dX3_readNumberOrName_101
        · exact absurd c3313 (by decide)
      · skip
        have t3318 := cv_nlt (a := r3278.toInt) rfl (b := 0) (by decide) c3311
        refine lv_aload_n hx hb dX3_readNumberOrName_42 rfl (lv_at hl 2 rfl) ?_
        refine lv_iconst (v := 1) hx hb dX3_readNumberOrName_43 (by decide) ?_
        refine lv_iload_n hx hb dX3_readNumberOrName_44 rfl (lv_at hl 1 rfl) ?_
        refine va_calli (va_runV (As := [.int 1, .int r3278]) (rest := []) ⟨hx, hb, hml, hown, hwd⟩ (c_X3_put l dC dI g c adK adV v F nr H.size 1 r3278 hg hnr hI (by have : (1 : Int32).toInt = 1 := (by decide); omega) (by omega)) (cwV 2 hwd (gV wk_882 wk_879 wk_880 wk_881 wk_38) rfl rfl rfl (by decide +kernel) ⟨Nat.le_of_ble_eq_true rfl, Nat.le_of_ble_eq_true rfl⟩) ⟨PX.blind, va_recv hK hP (ci := 3) (q0 := 7) rfl rfl, fun U hU hW => ⟨rfl, PX.at hK hE hP hS hU hW⟩⟩ rfl rfl hl.1 rfl (lv_room (Nat.le_of_ble_eq_true rfl)) dX3_readNumberOrName_45 ⟨Nat.le_of_ble_eq_true rfl, Nat.le_of_ble_eq_true rfl⟩) hS (fun q _ h => (freeX hS) q h) (freeX hS) (fun r3319 u t H1 locs ht hvm hw hB hz1 hk1 hS => ?_)
        unfold BX at hB
        rw [ht] at hB
        obtain ⟨v3320, F3321, rc9⟩ := u
        obtain ⟨hI, hal9, hrc, hf3322, hw⟩ := hw
        dsimp only at hI hal9 hrc hB hf3322 hw
        rw [hrc] at hB
        have hal := hal9.trans hal
        have hP : va_P (dC, dI) classes (wX g c v3320 F3321 (g (44 + nr))) H1 := hB
        have hw : -1 ≤ r3319.toInt ∧ r3319.toInt ≤ 119 := hw
        have k3323 : (1 : Int32).toInt = 1 := by decide
        generalize H1 = H at hP hS ⊢
        have hw_r3319 := hw
        refine lv_pop hx hb dX3_readNumberOrName_48 rfl ?_
        refine lv_aload_n hx hb dX3_readNumberOrName_49 rfl (lv_at hl 2 rfl) ?_
        refine lv_dup hx hb dX3_readNumberOrName_50 rfl ?_
        refine va_get (D := (dC, dI)) (ci := 3) (v := .int (v3320 143)) (C := RX3) (T := TX3) (N := 5) hx hb hwd inA_X3 hown hK hP 7 rfl rfl 3 (by decide) (hwd _ wk_853) (fun _ h9 => h9) rfl dX3_readNumberOrName_51 ?_
        refine my_top (v := v 143) (hf3322 143 (by decide)) ?_
        refine lv_iconst (v := 1) hx hb dX3_readNumberOrName_54 (by decide) ?_
        refine lv_iadd hx hb dX3_readNumberOrName_55 ?_
        refine lv_topi (fun z3324 e3325 => ?_)
        try (have t3326 := tadd e3325 (a := (v 143).toInt) rfl (b := 1) (by decide) (by omega))
        refine va_put (D := (dC, dI)) (ci := 3) (v := .int z3324) (ty := .int) (C := RX3) (T := TX3) (N := 5) (fs := fsX_7 g v3320 (g (44 + nr))) hx hb hwd inA_X3 tyX3 tyX3_ok nmX3 hown hK hP (DX hg) hS 7 rfl rfl 3 (by decide) (hwd _ wk_853) (fun _ h9 => h9) rfl (by decide +kernel) rfl rfl (Nat.le_of_ble_eq_true rfl) dX3_readNumberOrName_56 (fun H locs hP _ hS => ?_)
        have hP := va_P_eq (pX_143 g c _ _ _ _) hP
        have hI := IX.put0 hI 143 z3324 rfl
        have hal := (alX_v _ _ 143 z3324 (by decide) (by decide) (by decide) (by decide)).trans hal
        refine lv_goto (tgt := 101) hx hb dX3_readNumberOrName_59 (by decide) ?_
        have hP9 : va_P (dC, dI) classes (wX g c (va_up v3320 143 z3324) F3321 (g (44 + nr))) H := hP
        exact W.vret hx hb hr (fun t ht hW => ⟨⟨((va_up v3320 143 z3324), F3321, (g (44 + nr))), rfl, ⟨hI, hal, rfl, (frU (by decide) (frC (by decide) hf3322 (fun _ _ => rfl))), (by show ((0 ≤ (v 144).toInt ∧ ((va_up v3320 143 z3324) 144).toInt = (v 144).toInt ∧ z3324.toInt = (v 143).toInt) ∨ ((v 144).toInt = -1 ∧ (v 143).toInt ≤ z3324.toInt ∧ z3324.toInt ≤ (v 100).toInt ∧ (((va_up v3320 143 z3324) 144).toInt = -1 ∨ ((va_up v3320 143 z3324) 144).toInt = z3324.toInt))) ∧ nmx (v 100) (F 39) p0.toInt (v 144).toInt (v 143).toInt ((va_up v3320 143 z3324) 144).toInt z3324.toInt; rw [show (va_up v3320 143 z3324) 144 = v 144 from hf3322 144 (by decide)]; refine ⟨by omega, fun hf h45 h40 d9 => ?_⟩; exact rd.name (by omega) (by omega) (by omega) (by omega))⟩, (by show va_P _ _ _ t.heap; rw [ht]; exact hP9)⟩, hS.F ht⟩) hS.2.2 dX3_readNumberOrName_101
  · skip
    have t3327 := cv_eq (a := p0.toInt) rfl (b := (-1)) (by decide) c3274
    refine lv_iconst (v := (-1)) hx hb dX3_readNumberOrName_5 (by decide) ?_
    refine lv_goto (tgt := 16) hx hb dX3_readNumberOrName_6 (by decide) ?_
    refine lv_istore_n (lv' := [(2, .int (-1)), (0, .ref (g 7)), (1, .int p0)]) hx hb dX3_readNumberOrName_16 rfl hl (by decide) rfl (fun ls hl => ?_)
    refine lv_iload_n hx hb dX3_readNumberOrName_17 rfl (lv_at hl 2 rfl) ?_
    refine lv_iconst (v := (-1)) hx hb dX3_readNumberOrName_18 (by decide) ?_
    refine lv_icmp_ne (tgt := 26) hx hb dX3_readNumberOrName_19 (by decide) (fun c3328 => ?_) (fun c3328 => ?_)
    · skip
      have t3329 := cv_ne (a := p0.toInt) rfl (b := (-1)) (by decide) c3328
      refine lv_aload_n hx hb dX3_readNumberOrName_26 rfl (lv_at hl 1 rfl) ?_
      refine va_get (D := (dC, dI)) (ci := 3) (v := .ref (g 5)) (C := RX3) (T := TX3) (N := 5) hx hb hwd inA_X3 hown hK hP 7 rfl rfl 0 (by decide) (hwd _ wk_118) (fun _ h9 => h9) rfl dX3_readNumberOrName_27 ?_
      refine lv_aload_n hx hb dX3_readNumberOrName_30 rfl (lv_at hl 1 rfl) ?_
      refine va_get (D := (dC, dI)) (ci := 3) (v := .int (v 143)) (C := RX3) (T := TX3) (N := 5) hx hb hwd inA_X3 hown hK hP 7 rfl rfl 3 (by decide) (hwd _ wk_853) (fun _ h9 => h9) rfl dX3_readNumberOrName_31 ?_
      have t3330 : 0 ≤ (v 100).toInt ∧ (v 100).toInt ≤ 120 := hI.1 100 _ _ rfl
      refine va_calli (va_runV (As := [.int (v 143)]) (rest := []) ⟨hx, hb, hml, hown, hwd⟩ (c_X10_digitsAt_e l dC dI g c adK adV v F (g (44 + nr)) H.size (v 143) hg hI (by omega)) (cwV 1 hwd (gV wk_979 wk_976 wk_977 wk_978 wk_30) rfl rfl rfl (by decide +kernel) ⟨Nat.le_of_ble_eq_true rfl, Nat.le_of_ble_eq_true rfl⟩) ⟨PX.blind, va_recv hK hP (ci := 10) (q0 := 5) rfl rfl, fun U hU hW => ⟨rfl, PX.at hK hE hP hS hU hW⟩⟩ rfl rfl hl.1 rfl (lv_room (Nat.le_of_ble_eq_true rfl)) dX3_readNumberOrName_34 ⟨Nat.le_of_ble_eq_true rfl, Nat.le_of_ble_eq_true rfl⟩) hS (fun q _ h => (freeX hS) q h) (freeX hS) (fun r3331 u t H1 locs ht hvm hw hB hz1 hk1 hS => ?_)
      unfold BX at hB
      rw [ht] at hB
      have hP : va_P (dC, dI) classes (wX g c v F (g (44 + nr))) H1 := hB
      replace hw : (0 ≤ r3331.toInt ∧ r3331.toInt ≤ 5) ∧ dgA (v 100) (F 39) (v 143).toInt r3331.toInt ∧ (r3331.toInt = 5 ∨ ¬ (48 ≤ sg (v 100) (F 39) ((v 143).toInt + r3331.toInt) ∧ sg (v 100) (F 39) ((v 143).toInt + r3331.toInt) ≤ 57)) ∧ (r3331.toInt = 0 ∨ (v 143).toInt + r3331.toInt ≤ (v 100).toInt) := hw
      have hw_r3331 := hw
      clear hw
      generalize H1 = H at hP hS ⊢
      have rr_r3331 := i32_rng r3331
      refine lv_istore_n (lv' := [(3, .int r3331), (2, .int (-1)), (0, .ref (g 7)), (1, .int p0)]) hx hb dX3_readNumberOrName_37 rfl hl (by decide) rfl (fun ls hl => ?_)
      refine lv_iload_n hx hb dX3_readNumberOrName_38 rfl (lv_at hl 1 rfl) ?_
      refine lv_if_lt (tgt := 62) hx hb dX3_readNumberOrName_39 (by decide) (fun c3332 => ?_) (fun c3332 => ?_)
      · skip
        refine lv_iload_n hx hb dX3_readNumberOrName_62 rfl (lv_at hl 0 rfl) ?_
        refine lv_if_le (tgt := 97) hx hb dX3_readNumberOrName_63 (by decide) (fun c3333 => ?_) (fun c3333 => ?_)
        · skip
          have t3334 := cv_le (a := r3331.toInt) rfl (b := 0) (by decide) c3333
          refine lv_aload_n hx hb dX3_readNumberOrName_97 rfl (lv_at hl 2 rfl) ?_
          refine va_callv (va_runV (As := []) (rest := []) ⟨hx, hb, hml, hown, hwd⟩ (c_X3_fail l dC dI g c adK adV v F nr H.size  hg hnr hI (by have h9 : v 143 = v 143 := rfl; (try rw [h9]); clear h9; have h9 : v 100 = v 100 := rfl; (try rw [h9]); clear h9; have h9 : v 144 = v 144 := rfl; (try rw [h9]); clear h9; omega)) (cwV 0 hwd (gV wk_878 wk_875 wk_876 wk_877 wk_38) rfl rfl rfl (by decide +kernel) ⟨Nat.le_of_ble_eq_true rfl, Nat.le_of_ble_eq_true rfl⟩) ⟨PX.blind, va_recv hK hP (ci := 3) (q0 := 7) rfl rfl, fun U hU hW => ⟨rfl, PX.at hK hE hP hS hU hW⟩⟩ rfl rfl hl.1 rfl (lv_room (Nat.le_of_ble_eq_true rfl)) dX3_readNumberOrName_98 ⟨Nat.le_of_ble_eq_true rfl, Nat.le_of_ble_eq_true rfl⟩) hS (fun q _ h => (freeX hS) q h) (freeX hS) (fun u t H1 locs ht hvm hw hB hz1 hk1 hS => ?_)
          unfold BX at hB
          rw [ht] at hB
          obtain ⟨v3336, F3337, rc9⟩ := u
          obtain ⟨hI, hal9, hrc, hf3338, hw⟩ := hw
          dsimp only at hI hal9 hrc hB hf3338 hw
          rw [hrc] at hB
          have hal := hal9.trans hal
          have hP : va_P (dC, dI) classes (wX g c v3336 F3337 (g (44 + nr))) H1 := hB
          replace hw : (0 ≤ (v 144).toInt ∧ (v3336 144).toInt = (v 144).toInt) ∨ ((v 144).toInt = -1 ∧ (v3336 144).toInt = (v 143).toInt) := hw
          have hw_r3335 := hw
          clear hw
          generalize H1 = H at hP hS ⊢
          have hP9 : va_P (dC, dI) classes (wX g c v3336 F3337 (g (44 + nr))) H := hP
          exact W.vret hx hb hr (fun t ht hW => ⟨⟨(v3336, F3337, (g (44 + nr))), rfl, ⟨hI, hal, rfl, (frC (by decide) hf3338 (fun _ _ => rfl)), (by show ((0 ≤ (v 144).toInt ∧ (v3336 144).toInt = (v 144).toInt ∧ (v3336 143).toInt = (v 143).toInt) ∨ ((v 144).toInt = -1 ∧ (v 143).toInt ≤ (v3336 143).toInt ∧ (v3336 143).toInt ≤ (v 100).toInt ∧ ((v3336 144).toInt = -1 ∨ (v3336 144).toInt = (v3336 143).toInt))) ∧ nmx (v 100) (F 39) p0.toInt (v 144).toInt (v 143).toInt (v3336 144).toInt (v3336 143).toInt; rw [show v3336 143 = v 143 from hf3338 143 (by decide)]; refine ⟨by omega, fun hf h45 h40 d9 => ?_⟩; exact rd.num (by omega) (by omega) (by omega) (by omega) (dg.ofT (m := r3331.toInt) (by omega) (by omega) hw_r3331.2.1 hw_r3331.2.2.1 (by omega)))⟩, (by show va_P _ _ _ t.heap; rw [ht]; exact hP9)⟩, hS.F ht⟩) hS.2.2 dX3_readNumberOrName_101
        · skip
          have t3339 := cv_nle (a := r3331.toInt) rfl (b := 0) (by decide) c3333
          refine lv_aload_n hx hb dX3_readNumberOrName_66 rfl (lv_at hl 2 rfl) ?_
          refine lv_iconst (v := 0) hx hb dX3_readNumberOrName_67 (by decide) ?_
          refine lv_aload_n hx hb dX3_readNumberOrName_68 rfl (lv_at hl 2 rfl) ?_
          refine va_get (D := (dC, dI)) (ci := 3) (v := .ref (g 5)) (C := RX3) (T := TX3) (N := 5) hx hb hwd inA_X3 hown hK hP 7 rfl rfl 0 (by decide) (hwd _ wk_118) (fun _ h9 => h9) rfl dX3_readNumberOrName_69 ?_
          refine lv_aload_n hx hb dX3_readNumberOrName_72 rfl (lv_at hl 2 rfl) ?_
          refine va_get (D := (dC, dI)) (ci := 3) (v := .int (v 143)) (C := RX3) (T := TX3) (N := 5) hx hb hwd inA_X3 hown hK hP 7 rfl rfl 3 (by decide) (hwd _ wk_853) (fun _ h9 => h9) rfl dX3_readNumberOrName_73 ?_
          refine lv_iload_n hx hb dX3_readNumberOrName_76 rfl (lv_at hl 0 rfl) ?_
          refine va_calli (va_runV (As := [.int (v 143), .int r3331]) (rest := [.int 0, .ref (g 7)]) ⟨hx, hb, hml, hown, hwd⟩ (c_X10_numberAt_e l dC dI g c adK adV v F (g (44 + nr)) H.size (v 143) r3331 hg hI (by omega) (by omega) (by have h9 : v 100 = v 100 := rfl; rw [h9]; exact hw_r3331.2.1)) (cwV 2 hwd (gV wk_988 wk_985 wk_986 wk_987 wk_30) rfl rfl rfl (by decide +kernel) ⟨Nat.le_of_ble_eq_true rfl, Nat.le_of_ble_eq_true rfl⟩) ⟨PX.blind, va_recv hK hP (ci := 10) (q0 := 5) rfl rfl, fun U hU hW => ⟨rfl, PX.at hK hE hP hS hU hW⟩⟩ rfl rfl hl.1 rfl (lv_room (Nat.le_of_ble_eq_true rfl)) dX3_readNumberOrName_77 ⟨Nat.le_of_ble_eq_true rfl, Nat.le_of_ble_eq_true rfl⟩) hS (fun q _ h => (freeX hS) q h) (freeX hS) (fun r3340 u t H1 locs ht hvm hw hB hz1 hk1 hS => ?_)
          unfold BX at hB
          rw [ht] at hB
          have hP : va_P (dC, dI) classes (wX g c v F (g (44 + nr))) H1 := hB
          have hw : 0 ≤ r3340.toInt ∧ r3340.toInt ≤ 99999 := hw
          generalize H1 = H at hP hS ⊢
          have hw_r3340 := hw
          refine va_calli (va_runV (As := [.int 0, .int r3340]) (rest := []) ⟨hx, hb, hml, hown, hwd⟩ (c_X3_put l dC dI g c adK adV v F nr H.size 0 r3340 hg hnr hI (by have : (0 : Int32).toInt = 0 := (by decide); omega) (by omega)) (cwV 2 hwd (gV wk_882 wk_879 wk_880 wk_881 wk_38) rfl rfl rfl (by decide +kernel) ⟨Nat.le_of_ble_eq_true rfl, Nat.le_of_ble_eq_true rfl⟩) ⟨PX.blind, va_recv hK hP (ci := 3) (q0 := 7) rfl rfl, fun U hU hW => ⟨rfl, PX.at hK hE hP hS hU hW⟩⟩ rfl rfl hl.1 rfl (lv_room (Nat.le_of_ble_eq_true rfl)) dX3_readNumberOrName_80 ⟨Nat.le_of_ble_eq_true rfl, Nat.le_of_ble_eq_true rfl⟩) hS (fun q _ h => (freeX hS) q h) (freeX hS) (fun r3341 u t H1 locs ht hvm hw hB hz1 hk1 hS => ?_)
          unfold BX at hB
          rw [ht] at hB
          obtain ⟨v3342, F3343, rc9⟩ := u
          obtain ⟨hI, hal9, hrc, hf3344, hw⟩ := hw
          dsimp only at hI hal9 hrc hB hf3344 hw
          rw [hrc] at hB
          have hal := hal9.trans hal
          have hP : va_P (dC, dI) classes (wX g c v3342 F3343 (g (44 + nr))) H1 := hB
          have hw : -1 ≤ r3341.toInt ∧ r3341.toInt ≤ 119 := hw
          have k3345 : (0 : Int32).toInt = 0 := by decide
          generalize H1 = H at hP hS ⊢
          have hw_r3341 := hw
          refine lv_pop hx hb dX3_readNumberOrName_83 rfl ?_
          refine lv_aload_n hx hb dX3_readNumberOrName_84 rfl (lv_at hl 2 rfl) ?_
          refine lv_dup hx hb dX3_readNumberOrName_85 rfl ?_
          refine va_get (D := (dC, dI)) (ci := 3) (v := .int (v3342 143)) (C := RX3) (T := TX3) (N := 5) hx hb hwd inA_X3 hown hK hP 7 rfl rfl 3 (by decide) (hwd _ wk_853) (fun _ h9 => h9) rfl dX3_readNumberOrName_86 ?_
          refine my_top (v := v 143) (hf3344 143 (by decide)) ?_
          refine lv_iload_n hx hb dX3_readNumberOrName_89 rfl (lv_at hl 0 rfl) ?_
          refine lv_iadd hx hb dX3_readNumberOrName_90 ?_
          refine lv_topi (fun z3346 e3347 => ?_)
          try (have t3348 := tadd e3347 (a := (v 143).toInt) rfl (b := r3331.toInt) rfl (by omega))
          refine va_put (D := (dC, dI)) (ci := 3) (v := .int z3346) (ty := .int) (C := RX3) (T := TX3) (N := 5) (fs := fsX_7 g v3342 (g (44 + nr))) hx hb hwd inA_X3 tyX3 tyX3_ok nmX3 hown hK hP (DX hg) hS 7 rfl rfl 3 (by decide) (hwd _ wk_853) (fun _ h9 => h9) rfl (by decide +kernel) rfl rfl (Nat.le_of_ble_eq_true rfl) dX3_readNumberOrName_91 (fun H locs hP _ hS => ?_)
          have hP := va_P_eq (pX_143 g c _ _ _ _) hP
          have hI := IX.put0 hI 143 z3346 rfl
          have hal := (alX_v _ _ 143 z3346 (by decide) (by decide) (by decide) (by decide)).trans hal
          refine lv_goto (tgt := 101) hx hb dX3_readNumberOrName_94 (by decide) ?_
          have hP9 : va_P (dC, dI) classes (wX g c (va_up v3342 143 z3346) F3343 (g (44 + nr))) H := hP
          exact W.vret hx hb hr (fun t ht hW => ⟨⟨((va_up v3342 143 z3346), F3343, (g (44 + nr))), rfl, ⟨hI, hal, rfl, (frU (by decide) (frC (by decide) hf3344 (fun _ _ => rfl))), (by show ((0 ≤ (v 144).toInt ∧ ((va_up v3342 143 z3346) 144).toInt = (v 144).toInt ∧ z3346.toInt = (v 143).toInt) ∨ ((v 144).toInt = -1 ∧ (v 143).toInt ≤ z3346.toInt ∧ z3346.toInt ≤ (v 100).toInt ∧ (((va_up v3342 143 z3346) 144).toInt = -1 ∨ ((va_up v3342 143 z3346) 144).toInt = z3346.toInt))) ∧ nmx (v 100) (F 39) p0.toInt (v 144).toInt (v 143).toInt ((va_up v3342 143 z3346) 144).toInt z3346.toInt; rw [show (va_up v3342 143 z3346) 144 = v 144 from hf3344 144 (by decide)]; refine ⟨by omega, fun hf h45 h40 d9 => ?_⟩; exact rd.num (by omega) (by omega) (by omega) (by omega) (dg.ofT (m := r3331.toInt) (by omega) (by omega) hw_r3331.2.1 hw_r3331.2.2.1 (by omega)))⟩, (by show va_P _ _ _ t.heap; rw [ht]; exact hP9)⟩, hS.F ht⟩) hS.2.2 dX3_readNumberOrName_101
      · exact absurd c3332 (by decide)
    · skip
      have t3349 := cv_eq (a := p0.toInt) rfl (b := (-1)) (by decide) c3328
      refine lv_iconst (v := 0) hx hb dX3_readNumberOrName_22 (by decide) ?_
      refine lv_goto (tgt := 37) hx hb dX3_readNumberOrName_23 (by decide) ?_
      refine lv_istore_n (lv' := [(3, .int 0), (2, .int (-1)), (0, .ref (g 7)), (1, .int p0)]) hx hb dX3_readNumberOrName_37 rfl hl (by decide) rfl (fun ls hl => ?_)
      refine lv_iload_n hx hb dX3_readNumberOrName_38 rfl (lv_at hl 1 rfl) ?_
      refine lv_if_lt (tgt := 62) hx hb dX3_readNumberOrName_39 (by decide) (fun c3350 => ?_) (fun c3350 => ?_)
      · skip
        refine lv_iload_n hx hb dX3_readNumberOrName_62 rfl (lv_at hl 0 rfl) ?_
        refine lv_if_le (tgt := 97) hx hb dX3_readNumberOrName_63 (by decide) (fun c3351 => ?_) (fun c3351 => ?_)
        · skip
          refine lv_aload_n hx hb dX3_readNumberOrName_97 rfl (lv_at hl 2 rfl) ?_
          refine va_callv (va_runV (As := []) (rest := []) ⟨hx, hb, hml, hown, hwd⟩ (c_X3_fail l dC dI g c adK adV v F nr H.size  hg hnr hI (by have h9 : v 143 = v 143 := rfl; (try rw [h9]); clear h9; have h9 : v 100 = v 100 := rfl; (try rw [h9]); clear h9; have h9 : v 144 = v 144 := rfl; (try rw [h9]); clear h9; omega)) (cwV 0 hwd (gV wk_878 wk_875 wk_876 wk_877 wk_38) rfl rfl rfl (by decide +kernel) ⟨Nat.le_of_ble_eq_true rfl, Nat.le_of_ble_eq_true rfl⟩) ⟨PX.blind, va_recv hK hP (ci := 3) (q0 := 7) rfl rfl, fun U hU hW => ⟨rfl, PX.at hK hE hP hS hU hW⟩⟩ rfl rfl hl.1 rfl (lv_room (Nat.le_of_ble_eq_true rfl)) dX3_readNumberOrName_98 ⟨Nat.le_of_ble_eq_true rfl, Nat.le_of_ble_eq_true rfl⟩) hS (fun q _ h => (freeX hS) q h) (freeX hS) (fun u t H1 locs ht hvm hw hB hz1 hk1 hS => ?_)
          unfold BX at hB
          rw [ht] at hB
          obtain ⟨v3353, F3354, rc9⟩ := u
          obtain ⟨hI, hal9, hrc, hf3355, hw⟩ := hw
          dsimp only at hI hal9 hrc hB hf3355 hw
          rw [hrc] at hB
          have hal := hal9.trans hal
          have hP : va_P (dC, dI) classes (wX g c v3353 F3354 (g (44 + nr))) H1 := hB
          replace hw : (0 ≤ (v 144).toInt ∧ (v3353 144).toInt = (v 144).toInt) ∨ ((v 144).toInt = -1 ∧ (v3353 144).toInt = (v 143).toInt) := hw
          have hw_r3352 := hw
          clear hw
          generalize H1 = H at hP hS ⊢
          have hP9 : va_P (dC, dI) classes (wX g c v3353 F3354 (g (44 + nr))) H := hP
          exact W.vret hx hb hr (fun t ht hW => ⟨⟨(v3353, F3354, (g (44 + nr))), rfl, ⟨hI, hal, rfl, (frC (by decide) hf3355 (fun _ _ => rfl)), (by show ((0 ≤ (v 144).toInt ∧ (v3353 144).toInt = (v 144).toInt ∧ (v3353 143).toInt = (v 143).toInt) ∨ ((v 144).toInt = -1 ∧ (v 143).toInt ≤ (v3353 143).toInt ∧ (v3353 143).toInt ≤ (v 100).toInt ∧ ((v3353 144).toInt = -1 ∨ (v3353 144).toInt = (v3353 143).toInt))) ∧ nmx (v 100) (F 39) p0.toInt (v 144).toInt (v 143).toInt (v3353 144).toInt (v3353 143).toInt; rw [show v3353 143 = v 143 from hf3355 143 (by decide)]; refine ⟨by omega, fun hf h45 h40 d9 => ?_⟩; exact rd.num (by omega) (by omega) (by omega) (by omega) (dg.none (by omega) (by omega) (by omega) (by omega)))⟩, (by show va_P _ _ _ t.heap; rw [ht]; exact hP9)⟩, hS.F ht⟩) hS.2.2 dX3_readNumberOrName_101
        · exact absurd c3351 (by decide)
      · exact absurd c3350 (by decide)
