theorem nnL_pos {x k : Int} (h : (nnL x : Int) = k) : k = 0 ∨ 100 ≤ x := by
  unfold nnL at h
  repeat' split at h
  all_goals omega
def exI (Q : Int32 → Prop) : Prop := ∃ x, Q x
theorem nb.of {n : Int32} {B : Nat → Int32} {h f1 h1 f2 h2 : Int} (h0 : 0 ≤ h) (t : (sg n B h = 32 ∧ f1 < 0 ∧ h1 = h + 1) ∨ (¬ sg n B h = 32 ∧ f1 = h ∧ h1 = h)) (r : dgX n B f1 h1 f2 h2) (k : 0 ≤ f1 → f2 = f1 ∧ h2 = h1) : nb true n B h f2 h2 := by
  rcases t with ⟨t1, t2, t3⟩ | ⟨t1, t2, t3⟩
  · exact nb.yes h0 t1 t3 (r t2)
  · have := k (by omega)
    exact nb.no h0 t1 (by omega) (by omega)
def headX (n : Int32) (B : Nat → Int32) (f h k : Int) : Prop := (k = 0 → h = 0) ∧ (1 ≤ k → tx n B f h k)
theorem headX.zero {n : Int32} {B : Nat → Int32} {f h k : Int} (e : k = 0) (e2 : h = 0) : headX n B f h k := ⟨fun _ => e2, fun q => by omega⟩
theorem headX.of {n : Int32} {B : Nat → Int32} {f h k f' h' k' : Int} (w : tx n B f h k) (e1 : 1 ≤ k') (e2 : f' = f) (e3 : h' = h) (e4 : k' = k) : headX n B f' h' k' := ⟨fun q => by omega, fun _ => w.cast e2 e3 (fun _ => e4)⟩
theorem headX.step {c : Bool} {n : Int32} {B : Nat → Int32} {f h k h1 f1 g1 k1 : Int} (w : headX n B f h k) (h0 : 0 ≤ k) (hf : f < 0) (hn : 1 ≤ k → h < n.toInt) (eh : h1 = h) (l : ln c n B h1 f1 g1) (hk : k1 = k + 1) : tx n B f1 g1 k1 := by
  by_cases z : k = 0
  · exact tx.first l (by have := w.1 z; omega) (fun _ => by omega)
  · exact tx.step (w.2 (by omega)) hf (hn (by omega)) eh l (fun _ => hk)
def cread (n : Int32) (B : Nat → Int32) (f k : Int) : Prop := ∃ h, tx n B f h k ∧ (f < 0 → n.toInt ≤ h)
theorem cread.mk {n : Int32} {B : Nat → Int32} {f h k f' k' : Int} (w : tx n B f h k) (e : f' = f) (ek : k' = k) (q : f < 0 → n.toInt ≤ h) : cread n B f' k' := by
  subst e; subst ek; exact ⟨h, w, q⟩
theorem cans.of {n : Int32} {B : Nat → Int32} {f k r : Int} (w : cread n B f k) (ha : (f < 0 ∧ r = k ∧ 1 ≤ k) ∨ (0 ≤ f ∧ r = -100 - f)) : cans n B r := by
  obtain ⟨h, h1, h2⟩ := w
  exact cans.mk h1 h2 ha
set_option maxHeartbeats 8000000 in
set_option maxRecDepth 100000 in
theorem c_X0_take (l : Launch) (dC : Nat → ClassId) (dI : Nat → Nat → Nat) (g : Nat → Nat) (c : Nat → ClassId) (adK adV : Nat → Nat) (v : Nat → Int32) (F : Nat → Nat → Int32) (rc sz : Nat) (p0 : Int32) (hg : injX g) (hI : IX v F) (h0 : 0 ≤ p0.toInt ∧ p0.toInt ≤ 127) (hs : (0 ≤ (v 187).toInt ∧ (v 187).toInt ≤ (v 100).toInt) ∧ ((v 188).toInt = -1 ∨ 0 ≤ (v 188).toInt)) : Met l yX0_take (Cond.code yX0_take cX0_take 2 none :: wA) ({ frames := 2, cells := 0, slots := 0, locals := 80 }) (va_Pc [.ref (g 9), .int p0] (PX dC dI g c adK adV v F rc sz)) (va_Qv (fun (u : StX) => IX u.1 u.2.1 ∧ alX u.1 u.2.1 = alX v F ∧ u.2.2 = rc ∧ (∀ k, k ∉ ([187, 188] : List Nat) → u.1 k = v k) ∧ ((0 ≤ (v 188).toInt ∧ (u.1 188).toInt = (v 188).toInt ∧ (u.1 187).toInt = (v 187).toInt) ∨ ((v 188).toInt = -1 ∧ sg (v 100) (F 39) (v 187).toInt = p0.toInt ∧ (u.1 188).toInt = -1 ∧ (u.1 187).toInt = (v 187).toInt + 1 ∧ (v 187).toInt < (v 100).toInt) ∨ ((v 188).toInt = -1 ∧ ¬ sg (v 100) (F 39) (v 187).toInt = p0.toInt ∧ (u.1 188).toInt = (v 187).toInt ∧ (u.1 187).toInt = (v 187).toInt))) (BX dC dI g c) (AX g sz)) 0 0 (AX g sz) := by
  refine Met.ofW (cc := cX0_take) (maxL := 2) (ret := none) (by decide) rfl ?_
  intro p e s m args below meth c0 s₁ B hml hv
  obtain ⟨rfl, hsz, hP, hK, hE⟩ := hv
  have hx := B.exec
  have hb := B.bytes
  have hr := B.returns
  have hts := atoms_spec (ws := Cond.code yX0_take cX0_take 2 none :: wA) B.pre
  have hwd : ∀ w ∈ wA, w.before _ s = true := fun w h => hts w (List.mem_cons_of_mem _ h)
  have hown : s.vm.findClass RX0 = some m.cls := findClass_of_methodNamed B.named
  have hlocks := B.notSynchronized
  subst hsz
  have hl := lv_entry ([.ref (g 9), .int p0]) (n := 2) (Nat.le_of_ble_eq_true rfl)
  rw [lg_entry_eq]
  generalize (lg_sl ([.ref (g 9), .int p0]) ++ List.replicate (2 - (lg_sl ([.ref (g 9), .int p0])).length) Slot.unset).toArray = ls at hl ⊢
  have hl : lv_has ls 2 [(0, .ref (g 9)), (1, .int p0)] := hl
  obtain ⟨H, eH⟩ : ∃ z, z = s.heap := ⟨_, rfl⟩
  have hP : va_P (dC, dI) classes (wX g c v F rc) H := by rw [eH]; exact hP
  have hS : va_S (AX g s.heap.size) s.heap H [] := by rw [eH]; exact va_S.rf
  refine my_heap eH ?_
  have hal : alX v F = alX v F := rfl
  have rp0 := i32_rng p0
  have hb100 : 0 ≤ (v 100).toInt ∧ (v 100).toInt ≤ 120 := hI.1 100 _ _ rfl
  refine lv_aload_n hx hb dX0_take_0 rfl (lv_at hl 0 rfl) ?_
  refine va_get (D := (dC, dI)) (ci := 0) (v := .int (v 188)) (C := RX0) (T := TX0) (N := 9) hx hb hwd inA_X0 hown hK hP 9 rfl rfl 8 (by decide) (hwd _ wk_1096) (fun _ h9 => h9) rfl dX0_take_1 ?_
  refine lv_iconst (v := (-1)) hx hb dX0_take_4 (by decide) ?_
  refine lv_icmp_eq (tgt := 9) hx hb dX0_take_5 (by decide) (fun c4387 => ?_) (fun c4387 => ?_)
  · skip
    have t4388 := cv_eq (a := (v 188).toInt) rfl (b := (-1)) (by decide) c4387
    refine lv_aload_n hx hb dX0_take_9 rfl (lv_at hl 0 rfl) ?_
    refine va_get (D := (dC, dI)) (ci := 0) (v := .ref (g 5)) (C := RX0) (T := TX0) (N := 9) hx hb hwd inA_X0 hown hK hP 9 rfl rfl 0 (by decide) (hwd _ wk_138) (fun _ h9 => h9) rfl dX0_take_10 ?_
    refine lv_aload_n hx hb dX0_take_13 rfl (lv_at hl 0 rfl) ?_
    refine va_get (D := (dC, dI)) (ci := 0) (v := .int (v 187)) (C := RX0) (T := TX0) (N := 9) hx hb hwd inA_X0 hown hK hP 9 rfl rfl 7 (by decide) (hwd _ wk_1095) (fun _ h9 => h9) rfl dX0_take_14 ?_
    have t4389 : 0 ≤ (v 100).toInt ∧ (v 100).toInt ≤ 120 := hI.1 100 _ _ rfl
    refine va_calli (va_runV (As := [.int (v 187)]) (rest := []) ⟨hx, hb, hml, hown, hwd⟩ (c_X10_at_e l dC dI g c adK adV v F rc H.size (v 187) hg hI ) (cwV 1 hwd (gV wk_870 wk_1102 wk_868 wk_869 wk_30) rfl rfl rfl (by decide +kernel) ⟨Nat.le_of_ble_eq_true rfl, Nat.le_of_ble_eq_true rfl⟩) ⟨PX.blind, va_recv hK hP (ci := 10) (q0 := 5) rfl rfl, fun U hU hW => ⟨rfl, PX.at hK hE hP hS hU hW⟩⟩ rfl rfl hl.1 rfl (lv_room (Nat.le_of_ble_eq_true rfl)) dX0_take_17 ⟨Nat.le_of_ble_eq_true rfl, Nat.le_of_ble_eq_true rfl⟩) hS (fun q _ h => (freeX hS) q h) (freeX hS) (fun r4390 u t H1 locs ht hvm hw hB hz1 hk1 hS => ?_)
    unfold BX at hB
    rw [ht] at hB
    have hP : va_P (dC, dI) classes (wX g c v F rc) H1 := hB
    replace hw : r4390.toInt = sg (v 100) (F 39) (v 187).toInt ∧ (-1 ≤ r4390.toInt ∧ r4390.toInt ≤ 255) ∧ (r4390.toInt = -1 ∨ (0 ≤ (v 187).toInt ∧ (v 187).toInt < (v 100).toInt)) := hw
    have hw_r4390 := hw
    clear hw
    generalize H1 = H at hP hS ⊢
    have rr_r4390 := i32_rng r4390
    refine lv_iload_n hx hb dX0_take_20 rfl (lv_at hl 1 rfl) ?_
    refine lv_icmp_ne (tgt := 37) hx hb dX0_take_21 (by decide) (fun c4391 => ?_) (fun c4391 => ?_)
    · skip
      have t4392 := cv_ne (a := r4390.toInt) rfl (b := p0.toInt) rfl c4391
      refine lv_aload_n hx hb dX0_take_37 rfl (lv_at hl 0 rfl) ?_
      refine lv_aload_n hx hb dX0_take_38 rfl (lv_at hl 0 rfl) ?_
      refine va_get (D := (dC, dI)) (ci := 0) (v := .int (v 187)) (C := RX0) (T := TX0) (N := 9) hx hb hwd inA_X0 hown hK hP 9 rfl rfl 7 (by decide) (hwd _ wk_1095) (fun _ h9 => h9) rfl dX0_take_39 ?_
      refine va_put (D := (dC, dI)) (ci := 0) (v := .int (v 187)) (ty := .int) (C := RX0) (T := TX0) (N := 9) (fs := fsX_9 g v rc) hx hb hwd inA_X0 tyX0 tyX0_ok nmX0 hown hK hP (DX hg) hS 9 rfl rfl 8 (by decide) (hwd _ wk_1096) (fun _ h9 => h9) rfl (by decide +kernel) rfl rfl (Nat.le_of_ble_eq_true rfl) dX0_take_42 (fun H locs hP _ hS => ?_)
      have hP := va_P_eq (pX_188 g c _ _ _ _) hP
      have hI := IX.put0 hI 188 (v 187) rfl
      have hal := (alX_v _ _ 188 (v 187) (by decide) (by decide) (by decide) (by decide)).trans hal
      have hP9 : va_P (dC, dI) classes (wX g c (va_up v 188 (v 187)) F rc) H := hP
      exact W.vret hx hb hr (fun t ht hW => ⟨⟨((va_up v 188 (v 187)), F, rc), rfl, ⟨hI, hal, rfl, (frU (by decide) (fun _ _ => rfl)), (by show (0 ≤ (v 188).toInt ∧ (v 187).toInt = (v 188).toInt ∧ (v 187).toInt = (v 187).toInt) ∨ ((v 188).toInt = -1 ∧ sg (v 100) (F 39) (v 187).toInt = p0.toInt ∧ (v 187).toInt = -1 ∧ (v 187).toInt = (v 187).toInt + 1 ∧ (v 187).toInt < (v 100).toInt) ∨ ((v 188).toInt = -1 ∧ ¬ sg (v 100) (F 39) (v 187).toInt = p0.toInt ∧ (v 187).toInt = (v 187).toInt ∧ (v 187).toInt = (v 187).toInt); omega)⟩, (by show va_P _ _ _ t.heap; rw [ht]; exact hP9)⟩, hS.F ht⟩) hS.2.2 dX0_take_45
    · skip
      have t4393 := cv_eq (a := r4390.toInt) rfl (b := p0.toInt) rfl c4391
      refine lv_aload_n hx hb dX0_take_24 rfl (lv_at hl 0 rfl) ?_
      refine lv_dup hx hb dX0_take_25 rfl ?_
      refine va_get (D := (dC, dI)) (ci := 0) (v := .int (v 187)) (C := RX0) (T := TX0) (N := 9) hx hb hwd inA_X0 hown hK hP 9 rfl rfl 7 (by decide) (hwd _ wk_1095) (fun _ h9 => h9) rfl dX0_take_26 ?_
      refine lv_iconst (v := 1) hx hb dX0_take_29 (by decide) ?_
      refine lv_iadd hx hb dX0_take_30 ?_
      refine lv_topi (fun z4394 e4395 => ?_)
      try (have t4396 := tadd e4395 (a := (v 187).toInt) rfl (b := 1) (by decide) (by omega))
      refine va_put (D := (dC, dI)) (ci := 0) (v := .int z4394) (ty := .int) (C := RX0) (T := TX0) (N := 9) (fs := fsX_9 g v rc) hx hb hwd inA_X0 tyX0 tyX0_ok nmX0 hown hK hP (DX hg) hS 9 rfl rfl 7 (by decide) (hwd _ wk_1095) (fun _ h9 => h9) rfl (by decide +kernel) rfl rfl (Nat.le_of_ble_eq_true rfl) dX0_take_31 (fun H locs hP _ hS => ?_)
      have hP := va_P_eq (pX_187 g c _ _ _ _) hP
      have hI := IX.put0 hI 187 z4394 rfl
      have hal := (alX_v _ _ 187 z4394 (by decide) (by decide) (by decide) (by decide)).trans hal
      refine lv_goto (tgt := 45) hx hb dX0_take_34 (by decide) ?_
      have hP9 : va_P (dC, dI) classes (wX g c (va_up v 187 z4394) F rc) H := hP
      exact W.vret hx hb hr (fun t ht hW => ⟨⟨((va_up v 187 z4394), F, rc), rfl, ⟨hI, hal, rfl, (frU (by decide) (fun _ _ => rfl)), (by show (0 ≤ (v 188).toInt ∧ (v 188).toInt = (v 188).toInt ∧ z4394.toInt = (v 187).toInt) ∨ ((v 188).toInt = -1 ∧ sg (v 100) (F 39) (v 187).toInt = p0.toInt ∧ (v 188).toInt = -1 ∧ z4394.toInt = (v 187).toInt + 1 ∧ (v 187).toInt < (v 100).toInt) ∨ ((v 188).toInt = -1 ∧ ¬ sg (v 100) (F 39) (v 187).toInt = p0.toInt ∧ (v 188).toInt = (v 187).toInt ∧ z4394.toInt = (v 187).toInt); omega)⟩, (by show va_P _ _ _ t.heap; rw [ht]; exact hP9)⟩, hS.F ht⟩) hS.2.2 dX0_take_45
  · skip
    have t4397 := cv_ne (a := (v 188).toInt) rfl (b := (-1)) (by decide) c4387
    have hP9 : va_P (dC, dI) classes (wX g c v F rc) H := hP
    exact W.vret hx hb hr (fun t ht hW => ⟨⟨(v, F, rc), rfl, ⟨hI, hal, rfl, (fun _ _ => rfl), (by show (0 ≤ (v 188).toInt ∧ (v 188).toInt = (v 188).toInt ∧ (v 187).toInt = (v 187).toInt) ∨ ((v 188).toInt = -1 ∧ sg (v 100) (F 39) (v 187).toInt = p0.toInt ∧ (v 188).toInt = -1 ∧ (v 187).toInt = (v 187).toInt + 1 ∧ (v 187).toInt < (v 100).toInt) ∨ ((v 188).toInt = -1 ∧ ¬ sg (v 100) (F 39) (v 187).toInt = p0.toInt ∧ (v 188).toInt = (v 187).toInt ∧ (v 187).toInt = (v 187).toInt); omega)⟩, (by show va_P _ _ _ t.heap; rw [ht]; exact hP9)⟩, hS.F ht⟩) hS.2.2 dX0_take_8
set_option maxHeartbeats 8000000 in
set_option maxRecDepth 100000 in
theorem c_X0_readNumber (l : Launch) (dC : Nat → ClassId) (dI : Nat → Nat → Nat) (g : Nat → Nat) (c : Nat → ClassId) (adK adV : Nat → Nat) (v : Nat → Int32) (F : Nat → Nat → Int32) (rc sz : Nat) (p0 : Int32) (hg : injX g) (hI : IX v F) (h0 : 0 ≤ p0.toInt ∧ p0.toInt ≤ 119) (hs : (0 ≤ (v 187).toInt ∧ (v 187).toInt ≤ (v 100).toInt) ∧ ((v 188).toInt = -1 ∨ 0 ≤ (v 188).toInt)) : Met l yX0_readNumber (Cond.code yX0_readNumber cX0_readNumber 3 none :: wA) ({ frames := 4, cells := 0, slots := 0, locals := 160 }) (va_Pc [.ref (g 9), .int p0] (PX dC dI g c adK adV v F rc sz)) (va_Qv (fun (u : StX) => IX u.1 u.2.1 ∧ alX u.1 u.2.1 = alX v F ∧ u.2.2 = rc ∧ (∀ k, k ∉ ([187, 188] : List Nat) → u.1 k = v k) ∧ (((0 ≤ (v 188).toInt ∧ (u.1 188).toInt = (v 188).toInt ∧ (u.1 187).toInt = (v 187).toInt) ∨ ((v 188).toInt = -1 ∧ (u.1 188).toInt = -1 ∧ (v 187).toInt + 1 ≤ (u.1 187).toInt ∧ (u.1 187).toInt ≤ (v 100).toInt) ∨ ((v 188).toInt = -1 ∧ (u.1 188).toInt = (v 187).toInt ∧ (u.1 187).toInt = (v 187).toInt)) ∧ dgX (v 100) (F 39) (v 188).toInt (v 187).toInt (u.1 188).toInt (u.1 187).toInt)) (BX dC dI g c) (AX g sz)) 0 0 (AX g sz) := by
  refine Met.ofW (cc := cX0_readNumber) (maxL := 3) (ret := none) (by decide) rfl ?_
  intro p e s m args below meth c0 s₁ B hml hv
  obtain ⟨rfl, hsz, hP, hK, hE⟩ := hv
  have hx := B.exec
  have hb := B.bytes
  have hr := B.returns
  have hts := atoms_spec (ws := Cond.code yX0_readNumber cX0_readNumber 3 none :: wA) B.pre
  have hwd : ∀ w ∈ wA, w.before _ s = true := fun w h => hts w (List.mem_cons_of_mem _ h)
  have hown : s.vm.findClass RX0 = some m.cls := findClass_of_methodNamed B.named
  have hlocks := B.notSynchronized
  subst hsz
  have hl := lv_entry ([.ref (g 9), .int p0]) (n := 3) (Nat.le_of_ble_eq_true rfl)
  rw [lg_entry_eq]
  generalize (lg_sl ([.ref (g 9), .int p0]) ++ List.replicate (3 - (lg_sl ([.ref (g 9), .int p0])).length) Slot.unset).toArray = ls at hl ⊢
  have hl : lv_has ls 3 [(0, .ref (g 9)), (1, .int p0)] := hl
  obtain ⟨H, eH⟩ : ∃ z, z = s.heap := ⟨_, rfl⟩
  have hP : va_P (dC, dI) classes (wX g c v F rc) H := by rw [eH]; exact hP
  have hS : va_S (AX g s.heap.size) s.heap H [] := by rw [eH]; exact va_S.rf
  refine my_heap eH ?_
  have hal : alX v F = alX v F := rfl
  have rp0 := i32_rng p0
  have hb100 : 0 ≤ (v 100).toInt ∧ (v 100).toInt ≤ 120 := hI.1 100 _ _ rfl
  refine lv_aload_n hx hb dX0_readNumber_0 rfl (lv_at hl 0 rfl) ?_
  refine va_get (D := (dC, dI)) (ci := 0) (v := .int (v 188)) (C := RX0) (T := TX0) (N := 9) hx hb hwd inA_X0 hown hK hP 9 rfl rfl 8 (by decide) (hwd _ wk_1096) (fun _ h9 => h9) rfl dX0_readNumber_1 ?_
  refine lv_iconst (v := (-1)) hx hb dX0_readNumber_4 (by decide) ?_
  refine lv_icmp_eq (tgt := 9) hx hb dX0_readNumber_5 (by decide) (fun c4398 => ?_) (fun c4398 => ?_)
  · skip
    have t4399 := cv_eq (a := (v 188).toInt) rfl (b := (-1)) (by decide) c4398
    refine lv_aload_n hx hb dX0_readNumber_9 rfl (lv_at hl 0 rfl) ?_
    refine va_get (D := (dC, dI)) (ci := 0) (v := .ref (g 5)) (C := RX0) (T := TX0) (N := 9) hx hb hwd inA_X0 hown hK hP 9 rfl rfl 0 (by decide) (hwd _ wk_138) (fun _ h9 => h9) rfl dX0_readNumber_10 ?_
    refine lv_aload_n hx hb dX0_readNumber_13 rfl (lv_at hl 0 rfl) ?_
    refine va_get (D := (dC, dI)) (ci := 0) (v := .int (v 187)) (C := RX0) (T := TX0) (N := 9) hx hb hwd inA_X0 hown hK hP 9 rfl rfl 7 (by decide) (hwd _ wk_1095) (fun _ h9 => h9) rfl dX0_readNumber_14 ?_
    have t4400 : 0 ≤ (v 100).toInt ∧ (v 100).toInt ≤ 120 := hI.1 100 _ _ rfl
    refine va_calli (va_runV (As := [.int (v 187)]) (rest := []) ⟨hx, hb, hml, hown, hwd⟩ (c_X10_digitsAt_e l dC dI g c adK adV v F rc H.size (v 187) hg hI (by omega)) (cwV 1 hwd (gV wk_979 wk_1114 wk_977 wk_978 wk_30) rfl rfl rfl (by decide +kernel) ⟨Nat.le_of_ble_eq_true rfl, Nat.le_of_ble_eq_true rfl⟩) ⟨PX.blind, va_recv hK hP (ci := 10) (q0 := 5) rfl rfl, fun U hU hW => ⟨rfl, PX.at hK hE hP hS hU hW⟩⟩ rfl rfl hl.1 rfl (lv_room (Nat.le_of_ble_eq_true rfl)) dX0_readNumber_17 ⟨Nat.le_of_ble_eq_true rfl, Nat.le_of_ble_eq_true rfl⟩) hS (fun q _ h => (freeX hS) q h) (freeX hS) (fun r4401 u t H1 locs ht hvm hw hB hz1 hk1 hS => ?_)
    unfold BX at hB
    rw [ht] at hB
    have hP : va_P (dC, dI) classes (wX g c v F rc) H1 := hB
    replace hw : (0 ≤ r4401.toInt ∧ r4401.toInt ≤ 5) ∧ dgA (v 100) (F 39) (v 187).toInt r4401.toInt ∧ (r4401.toInt = 5 ∨ ¬ (48 ≤ sg (v 100) (F 39) ((v 187).toInt + r4401.toInt) ∧ sg (v 100) (F 39) ((v 187).toInt + r4401.toInt) ≤ 57)) ∧ (r4401.toInt = 0 ∨ (v 187).toInt + r4401.toInt ≤ (v 100).toInt) := hw
    have hw_r4401 := hw
    clear hw
    generalize H1 = H at hP hS ⊢
    have rr_r4401 := i32_rng r4401
    refine lv_istore_n (lv' := [(2, .int r4401), (0, .ref (g 9)), (1, .int p0)]) hx hb dX0_readNumber_20 rfl hl (by decide) rfl (fun ls hl => ?_)
    refine lv_iload_n hx hb dX0_readNumber_21 rfl (lv_at hl 0 rfl) ?_
    refine lv_if_ne (tgt := 34) hx hb dX0_readNumber_22 (by decide) (fun c4402 => ?_) (fun c4402 => ?_)
    · skip
      have t4403 := cv_ne (a := r4401.toInt) rfl (b := 0) (by decide) c4402
      refine lv_aload_n hx hb dX0_readNumber_34 rfl (lv_at hl 1 rfl) ?_
      refine va_get (D := (dC, dI)) (ci := 0) (v := .ref (g 72)) (C := RX0) (T := TX0) (N := 9) hx hb hwd inA_X0 hown hK hP 9 rfl rfl 5 (by decide) (hwd _ wk_137) (fun _ h9 => h9) rfl dX0_readNumber_35 ?_
      refine lv_iload_n hx hb dX0_readNumber_38 rfl (lv_at hl 2 rfl) ?_
      refine lv_aload_n hx hb dX0_readNumber_39 rfl (lv_at hl 1 rfl) ?_
      refine va_get (D := (dC, dI)) (ci := 0) (v := .ref (g 5)) (C := RX0) (T := TX0) (N := 9) hx hb hwd inA_X0 hown hK hP 9 rfl rfl 0 (by decide) (hwd _ wk_138) (fun _ h9 => h9) rfl dX0_readNumber_40 ?_
      refine lv_aload_n hx hb dX0_readNumber_43 rfl (lv_at hl 1 rfl) ?_
      refine va_get (D := (dC, dI)) (ci := 0) (v := .int (v 187)) (C := RX0) (T := TX0) (N := 9) hx hb hwd inA_X0 hown hK hP 9 rfl rfl 7 (by decide) (hwd _ wk_1095) (fun _ h9 => h9) rfl dX0_readNumber_44 ?_
      refine lv_iload_n hx hb dX0_readNumber_47 rfl (lv_at hl 0 rfl) ?_
      refine va_calli (va_runV (As := [.int (v 187), .int r4401]) (rest := [.int p0, .ref (g 72)]) ⟨hx, hb, hml, hown, hwd⟩ (c_X10_numberAt_e l dC dI g c adK adV v F rc H.size (v 187) r4401 hg hI (by omega) (by omega) (by have h9 : v 100 = v 100 := rfl; rw [h9]; exact hw_r4401.2.1)) (cwV 2 hwd (gV wk_988 wk_1115 wk_986 wk_987 wk_30) rfl rfl rfl (by decide +kernel) ⟨Nat.le_of_ble_eq_true rfl, Nat.le_of_ble_eq_true rfl⟩) ⟨PX.blind, va_recv hK hP (ci := 10) (q0 := 5) rfl rfl, fun U hU hW => ⟨rfl, PX.at hK hE hP hS hU hW⟩⟩ rfl rfl hl.1 rfl (lv_room (Nat.le_of_ble_eq_true rfl)) dX0_readNumber_48 ⟨Nat.le_of_ble_eq_true rfl, Nat.le_of_ble_eq_true rfl⟩) hS (fun q _ h => (freeX hS) q h) (freeX hS) (fun r4404 u t H1 locs ht hvm hw hB hz1 hk1 hS => ?_)
      unfold BX at hB
      rw [ht] at hB
      have hP : va_P (dC, dI) classes (wX g c v F rc) H1 := hB
      have hw : 0 ≤ r4404.toInt ∧ r4404.toInt ≤ 99999 := hw
      generalize H1 = H at hP hS ⊢
      have hw_r4404 := hw
      refine va_iast hx hb hK hP (DX hg) hS 72 60 rfl rfl (i := p0) (x := r4404) (vin (a := p0.toInt) rfl (by omega)) dX0_readNumber_51 (fun H locs hP _ hS => ?_)
      have hP := va_P_eq (sX_72 g c _ _ _ _) hP
      have hI := IX.store0 hI 72 (p0 : Int32).toNatClampNeg r4404 rfl
      have hal := (alX_F _ _ 72 (upd (F 72) (p0 : Int32).toNatClampNeg r4404) (by decide) (by decide) (by decide) (by decide) (by decide)).trans hal
      have hP : va_P (dC, dI) classes (wX g c v (va_up F 72 (upd (F 72) (p0 : Int32).toNatClampNeg r4404)) rc) H := hP
      generalize (va_up F 72 (upd (F 72) (p0 : Int32).toNatClampNeg r4404)) = F4405 at hP hI hal
      refine lv_aload_n hx hb dX0_readNumber_52 rfl (lv_at hl 1 rfl) ?_
      refine lv_dup hx hb dX0_readNumber_53 rfl ?_
      refine va_get (D := (dC, dI)) (ci := 0) (v := .int (v 187)) (C := RX0) (T := TX0) (N := 9) hx hb hwd inA_X0 hown hK hP 9 rfl rfl 7 (by decide) (hwd _ wk_1095) (fun _ h9 => h9) rfl dX0_readNumber_54 ?_
      refine lv_iload_n hx hb dX0_readNumber_57 rfl (lv_at hl 0 rfl) ?_
      refine lv_iadd hx hb dX0_readNumber_58 ?_
      refine lv_topi (fun z4406 e4407 => ?_)
      try (have t4408 := tadd e4407 (a := (v 187).toInt) rfl (b := r4401.toInt) rfl (by omega))
      refine va_put (D := (dC, dI)) (ci := 0) (v := .int z4406) (ty := .int) (C := RX0) (T := TX0) (N := 9) (fs := fsX_9 g v rc) hx hb hwd inA_X0 tyX0 tyX0_ok nmX0 hown hK hP (DX hg) hS 9 rfl rfl 7 (by decide) (hwd _ wk_1095) (fun _ h9 => h9) rfl (by decide +kernel) rfl rfl (Nat.le_of_ble_eq_true rfl) dX0_readNumber_59 (fun H locs hP _ hS => ?_)
      have hP := va_P_eq (pX_187 g c _ _ _ _) hP
      have hI := IX.put0 hI 187 z4406 rfl
      have hal := (alX_v _ _ 187 z4406 (by decide) (by decide) (by decide) (by decide)).trans hal
      have hP9 : va_P (dC, dI) classes (wX g c (va_up v 187 z4406) F4405 rc) H := hP
      exact W.vret hx hb hr (fun t ht hW => ⟨⟨((va_up v 187 z4406), F4405, rc), rfl, ⟨hI, hal, rfl, (frU (by decide) (fun _ _ => rfl)), (by show ((0 ≤ (v 188).toInt ∧ (v 188).toInt = (v 188).toInt ∧ z4406.toInt = (v 187).toInt) ∨ ((v 188).toInt = -1 ∧ (v 188).toInt = -1 ∧ (v 187).toInt + 1 ≤ z4406.toInt ∧ z4406.toInt ≤ (v 100).toInt) ∨ ((v 188).toInt = -1 ∧ (v 188).toInt = (v 187).toInt ∧ z4406.toInt = (v 187).toInt)) ∧ dgX (v 100) (F 39) (v 188).toInt (v 187).toInt (v 188).toInt z4406.toInt; exact ⟨by omega, fun hf => dg.ofT (m := r4401.toInt) (by omega) (by omega) hw_r4401.2.1 hw_r4401.2.2.1 (by omega)⟩)⟩, (by show va_P _ _ _ t.heap; rw [ht]; exact hP9)⟩, hS.F ht⟩) hS.2.2 dX0_readNumber_62
    · skip
      have t4409 := cv_eq (a := r4401.toInt) rfl (b := 0) (by decide) c4402
      refine lv_aload_n hx hb dX0_readNumber_25 rfl (lv_at hl 1 rfl) ?_
      refine lv_aload_n hx hb dX0_readNumber_26 rfl (lv_at hl 1 rfl) ?_
      refine va_get (D := (dC, dI)) (ci := 0) (v := .int (v 187)) (C := RX0) (T := TX0) (N := 9) hx hb hwd inA_X0 hown hK hP 9 rfl rfl 7 (by decide) (hwd _ wk_1095) (fun _ h9 => h9) rfl dX0_readNumber_27 ?_
      refine va_put (D := (dC, dI)) (ci := 0) (v := .int (v 187)) (ty := .int) (C := RX0) (T := TX0) (N := 9) (fs := fsX_9 g v rc) hx hb hwd inA_X0 tyX0 tyX0_ok nmX0 hown hK hP (DX hg) hS 9 rfl rfl 8 (by decide) (hwd _ wk_1096) (fun _ h9 => h9) rfl (by decide +kernel) rfl rfl (Nat.le_of_ble_eq_true rfl) dX0_readNumber_30 (fun H locs hP _ hS => ?_)
      have hP := va_P_eq (pX_188 g c _ _ _ _) hP
      have hI := IX.put0 hI 188 (v 187) rfl
      have hal := (alX_v _ _ 188 (v 187) (by decide) (by decide) (by decide) (by decide)).trans hal
      have hP9 : va_P (dC, dI) classes (wX g c (va_up v 188 (v 187)) F rc) H := hP
      exact W.vret hx hb hr (fun t ht hW => ⟨⟨((va_up v 188 (v 187)), F, rc), rfl, ⟨hI, hal, rfl, (frU (by decide) (fun _ _ => rfl)), (by show ((0 ≤ (v 188).toInt ∧ (v 187).toInt = (v 188).toInt ∧ (v 187).toInt = (v 187).toInt) ∨ ((v 188).toInt = -1 ∧ (v 187).toInt = -1 ∧ (v 187).toInt + 1 ≤ (v 187).toInt ∧ (v 187).toInt ≤ (v 100).toInt) ∨ ((v 188).toInt = -1 ∧ (v 187).toInt = (v 187).toInt ∧ (v 187).toInt = (v 187).toInt)) ∧ dgX (v 100) (F 39) (v 188).toInt (v 187).toInt (v 187).toInt (v 187).toInt; exact ⟨by omega, fun hf => dg.ofT (m := r4401.toInt) (by omega) (by omega) hw_r4401.2.1 hw_r4401.2.2.1 (by omega)⟩)⟩, (by show va_P _ _ _ t.heap; rw [ht]; exact hP9)⟩, hS.F ht⟩) hS.2.2 dX0_readNumber_33
  · skip
    have t4410 := cv_ne (a := (v 188).toInt) rfl (b := (-1)) (by decide) c4398
    have hP9 : va_P (dC, dI) classes (wX g c v F rc) H := hP
    exact W.vret hx hb hr (fun t ht hW => ⟨⟨(v, F, rc), rfl, ⟨hI, hal, rfl, (fun _ _ => rfl), (by show ((0 ≤ (v 188).toInt ∧ (v 188).toInt = (v 188).toInt ∧ (v 187).toInt = (v 187).toInt) ∨ ((v 188).toInt = -1 ∧ (v 188).toInt = -1 ∧ (v 187).toInt + 1 ≤ (v 187).toInt ∧ (v 187).toInt ≤ (v 100).toInt) ∨ ((v 188).toInt = -1 ∧ (v 188).toInt = (v 187).toInt ∧ (v 187).toInt = (v 187).toInt)) ∧ dgX (v 100) (F 39) (v 188).toInt (v 187).toInt (v 188).toInt (v 187).toInt; exact ⟨by omega, fun hf => absurd hf (by omega)⟩)⟩, (by show va_P _ _ _ t.heap; rw [ht]; exact hP9)⟩, hS.F ht⟩) hS.2.2 dX0_readNumber_8
set_option maxHeartbeats 8000000 in
set_option maxRecDepth 100000 in
theorem c_X0_readLine (l : Launch) (dC : Nat → ClassId) (dI : Nat → Nat → Nat) (g : Nat → Nat) (c : Nat → ClassId) (adK adV : Nat → Nat) (v : Nat → Int32) (F : Nat → Nat → Int32) (rc sz : Nat) (hg : injX g) (hI : IX v F) (hq0 : (v 186).toInt ≤ 29) (hs : (0 ≤ (v 187).toInt ∧ (v 187).toInt ≤ (v 100).toInt) ∧ (v 188).toInt = -1) : Met l yX0_readLine (Cond.code yX0_readLine cX0_readLine 4 none :: wA) ({ frames := 5, cells := 0, slots := 0, locals := 200 }) (va_Pc [.ref (g 9)] (PX dC dI g c adK adV v F rc sz)) (va_Qv (fun (u : StX) => IX u.1 u.2.1 ∧ alX u.1 u.2.1 = alX v F ∧ u.2.2 = rc ∧ (∀ k, k ∉ ([187, 188] : List Nat) → u.1 k = v k) ∧ ((((u.1 188).toInt = -1 ∧ (v 187).toInt + 4 ≤ (u.1 187).toInt ∧ (u.1 187).toInt ≤ (v 100).toInt) ∨ ((u.1 188).toInt = (u.1 187).toInt ∧ (v 187).toInt ≤ (u.1 187).toInt ∧ (u.1 187).toInt ≤ (v 100).toInt)) ∧ ln true (v 100) (F 39) (v 187).toInt (u.1 188).toInt (u.1 187).toInt)) (BX dC dI g c) (AX g sz)) 0 0 (AX g sz) := by
  refine Met.ofW (cc := cX0_readLine) (maxL := 4) (ret := none) (by decide) rfl ?_
  intro p e s m args below meth c0 s₁ B hml hv
  obtain ⟨rfl, hsz, hP, hK, hE⟩ := hv
  have hx := B.exec
  have hb := B.bytes
  have hr := B.returns
  have hts := atoms_spec (ws := Cond.code yX0_readLine cX0_readLine 4 none :: wA) B.pre
  have hwd : ∀ w ∈ wA, w.before _ s = true := fun w h => hts w (List.mem_cons_of_mem _ h)
  have hown : s.vm.findClass RX0 = some m.cls := findClass_of_methodNamed B.named
  have hlocks := B.notSynchronized
  subst hsz
  have hl := lv_entry ([.ref (g 9)]) (n := 4) (Nat.le_of_ble_eq_true rfl)
  rw [lg_entry_eq]
  generalize (lg_sl ([.ref (g 9)]) ++ List.replicate (4 - (lg_sl ([.ref (g 9)])).length) Slot.unset).toArray = ls at hl ⊢
  have hl : lv_has ls 4 [(0, .ref (g 9))] := hl
  obtain ⟨H, eH⟩ : ∃ z, z = s.heap := ⟨_, rfl⟩
  have hP : va_P (dC, dI) classes (wX g c v F rc) H := by rw [eH]; exact hP
  have hS : va_S (AX g s.heap.size) s.heap H [] := by rw [eH]; exact va_S.rf
  refine my_heap eH ?_
  have hal : alX v F = alX v F := rfl
  have hb100 : 0 ≤ (v 100).toInt ∧ (v 100).toInt ≤ 120 := hI.1 100 _ _ rfl
  have hb186 : 0 ≤ (v 186).toInt ∧ (v 186).toInt ≤ 30 := hI.1 186 _ _ rfl
  refine lv_aload_n hx hb dX0_readLine_0 rfl (lv_at hl 0 rfl) ?_
  refine va_get (D := (dC, dI)) (ci := 0) (v := .ref (g 5)) (C := RX0) (T := TX0) (N := 9) hx hb hwd inA_X0 hown hK hP 9 rfl rfl 0 (by decide) (hwd _ wk_138) (fun _ h9 => h9) rfl dX0_readLine_1 ?_
  refine lv_aload_n hx hb dX0_readLine_4 rfl (lv_at hl 0 rfl) ?_
  refine va_get (D := (dC, dI)) (ci := 0) (v := .int (v 187)) (C := RX0) (T := TX0) (N := 9) hx hb hwd inA_X0 hown hK hP 9 rfl rfl 7 (by decide) (hwd _ wk_1095) (fun _ h9 => h9) rfl dX0_readLine_5 ?_
  have t4411 : 0 ≤ (v 100).toInt ∧ (v 100).toInt ≤ 120 := hI.1 100 _ _ rfl
  refine va_calli (va_runV (As := [.int (v 187)]) (rest := []) ⟨hx, hb, hml, hown, hwd⟩ (c_X10_at_e l dC dI g c adK adV v F rc H.size (v 187) hg hI ) (cwV 1 hwd (gV wk_870 wk_1102 wk_868 wk_869 wk_30) rfl rfl rfl (by decide +kernel) ⟨Nat.le_of_ble_eq_true rfl, Nat.le_of_ble_eq_true rfl⟩) ⟨PX.blind, va_recv hK hP (ci := 10) (q0 := 5) rfl rfl, fun U hU hW => ⟨rfl, PX.at hK hE hP hS hU hW⟩⟩ rfl rfl hl.1 rfl (lv_room (Nat.le_of_ble_eq_true rfl)) dX0_readLine_8 ⟨Nat.le_of_ble_eq_true rfl, Nat.le_of_ble_eq_true rfl⟩) hS (fun q _ h => (freeX hS) q h) (freeX hS) (fun r4412 u t H1 locs ht hvm hw hB hz1 hk1 hS => ?_)
  unfold BX at hB
  rw [ht] at hB
  have hP : va_P (dC, dI) classes (wX g c v F rc) H1 := hB
  replace hw : r4412.toInt = sg (v 100) (F 39) (v 187).toInt ∧ (-1 ≤ r4412.toInt ∧ r4412.toInt ≤ 255) ∧ (r4412.toInt = -1 ∨ (0 ≤ (v 187).toInt ∧ (v 187).toInt < (v 100).toInt)) := hw
  have hw_r4412 := hw
  clear hw
  generalize H1 = H at hP hS ⊢
  have rr_r4412 := i32_rng r4412
  refine lv_istore_n (lv' := [(1, .int r4412), (0, .ref (g 9))]) hx hb dX0_readLine_11 rfl hl (by decide) rfl (fun ls hl => ?_)
  refine lv_iload_n hx hb dX0_readLine_12 rfl (lv_at hl 0 rfl) ?_
  refine va_calli (va_runS (As := [.int r4412]) (rest := []) ⟨hx, hb, hml, hown, hwd⟩ (c_X0_numbersBehind l dC dI g c adK adV v F rc H.size r4412 hg hI ) (va_cwS 1 hwd (gT wk_1105 wk_1103 wk_1104 wk_46) rfl rfl rfl (by decide +kernel) ⟨Nat.le_of_ble_eq_true rfl, Nat.le_of_ble_eq_true rfl⟩) ⟨PX.blind, fun U hU hW => ⟨rfl, PX.at hK hE hP hS hU hW⟩⟩ rfl rfl hl.1 rfl (lv_room (Nat.le_of_ble_eq_true rfl)) dX0_readLine_13 ⟨Nat.le_of_ble_eq_true rfl, Nat.le_of_ble_eq_true rfl⟩) hS (fun q _ h => (freeX hS) q h) (freeX hS) (fun r4413 u t H1 locs ht hvm hw hB hz1 hk1 hS => ?_)
  unfold BX at hB
  rw [ht] at hB
  have hP : va_P (dC, dI) classes (wX g c v F rc) H1 := hB
  have hw : (nnL r4412.toInt : Int) = r4413.toInt ∧ (0 ≤ r4413.toInt ∧ r4413.toInt ≤ 3) := hw
  generalize H1 = H at hP hS ⊢
  have np_r4413 := nnL_pos hw.1
  have hw_r4413 := hw
  refine lv_istore_n (lv' := [(2, .int r4413), (1, .int r4412), (0, .ref (g 9))]) hx hb dX0_readLine_16 rfl hl (by decide) rfl (fun ls hl => ?_)
  refine lv_iload_n hx hb dX0_readLine_17 rfl (lv_at hl 0 rfl) ?_
  refine lv_if_ne (tgt := 30) hx hb dX0_readLine_18 (by decide) (fun c4414 => ?_) (fun c4414 => ?_)
  · skip
    have t4415 := cv_ne (a := r4413.toInt) rfl (b := 0) (by decide) c4414
    refine lv_aload_n hx hb dX0_readLine_30 rfl (lv_at hl 2 rfl) ?_
    refine lv_dup hx hb dX0_readLine_31 rfl ?_
    refine va_get (D := (dC, dI)) (ci := 0) (v := .int (v 187)) (C := RX0) (T := TX0) (N := 9) hx hb hwd inA_X0 hown hK hP 9 rfl rfl 7 (by decide) (hwd _ wk_1095) (fun _ h9 => h9) rfl dX0_readLine_32 ?_
    refine lv_iconst (v := 1) hx hb dX0_readLine_35 (by decide) ?_
    refine lv_iadd hx hb dX0_readLine_36 ?_
    refine lv_topi (fun z4416 e4417 => ?_)
    try (have t4418 := tadd e4417 (a := (v 187).toInt) rfl (b := 1) (by decide) (by omega))
    refine va_put (D := (dC, dI)) (ci := 0) (v := .int z4416) (ty := .int) (C := RX0) (T := TX0) (N := 9) (fs := fsX_9 g v rc) hx hb hwd inA_X0 tyX0 tyX0_ok nmX0 hown hK hP (DX hg) hS 9 rfl rfl 7 (by decide) (hwd _ wk_1095) (fun _ h9 => h9) rfl (by decide +kernel) rfl rfl (Nat.le_of_ble_eq_true rfl) dX0_readLine_37 (fun H locs hP _ hS => ?_)
    have hP := va_P_eq (pX_187 g c _ _ _ _) hP
    have hI := IX.put0 hI 187 z4416 rfl
    have hal := (alX_v _ _ 187 z4416 (by decide) (by decide) (by decide) (by decide)).trans hal
    refine lv_aload_n hx hb dX0_readLine_40 rfl (lv_at hl 2 rfl) ?_
    refine va_get (D := (dC, dI)) (ci := 0) (v := .ref (g 72)) (C := RX0) (T := TX0) (N := 9) hx hb hwd inA_X0 hown hK hP 9 rfl rfl 5 (by decide) (hwd _ wk_137) (fun _ h9 => h9) rfl dX0_readLine_41 ?_
    refine lv_aload_n hx hb dX0_readLine_44 rfl (lv_at hl 2 rfl) ?_
    refine va_get (D := (dC, dI)) (ci := 0) (v := .int (v 186)) (C := RX0) (T := TX0) (N := 9) hx hb hwd inA_X0 hown hK hP 9 rfl rfl 6 (by decide) (hwd _ wk_1094) (fun _ h9 => h9) rfl dX0_readLine_45 ?_
    have t4419 : 0 ≤ (v 186).toInt ∧ (v 186).toInt ≤ 30 := hI.1 186 _ _ rfl
    refine lv_iconst (v := 4) hx hb dX0_readLine_48 (by decide) ?_
    refine lv_imul hx hb dX0_readLine_49 ?_
    refine lv_topi (fun z4420 e4421 => ?_)
    try (have t4422 := tmul e4421 (a := (v 186).toInt) rfl (b := 4) (by decide) (by omega))
    refine lv_iload_n hx hb dX0_readLine_50 rfl (lv_at hl 1 rfl) ?_
    refine va_iast hx hb hK hP (DX hg) hS 72 60 rfl rfl (i := z4420) (x := r4412) (vin (a := z4420.toInt) rfl (by omega)) dX0_readLine_51 (fun H locs hP _ hS => ?_)
    have hP := va_P_eq (sX_72 g c _ _ _ _) hP
    have hI := IX.store0 hI 72 (z4420 : Int32).toNatClampNeg r4412 rfl
    have hal := (alX_F _ _ 72 (upd (F 72) (z4420 : Int32).toNatClampNeg r4412) (by decide) (by decide) (by decide) (by decide) (by decide)).trans hal
    have hP : va_P (dC, dI) classes (wX g c (va_up v 187 z4416) (va_up F 72 (upd (F 72) (z4420 : Int32).toNatClampNeg r4412)) rc) H := hP
    generalize (va_up F 72 (upd (F 72) (z4420 : Int32).toNatClampNeg r4412)) = F4423 at hP hI hal
    refine lv_iconst (v := 1) hx hb dX0_readLine_52 (by decide) ?_
    refine lv_istore_n (lv' := [(3, .int 1), (2, .int r4413), (1, .int r4412), (0, .ref (g 9))]) hx hb dX0_readLine_53 rfl hl (by decide) rfl (fun ls hl => ?_)
    have lp4424 : ∀ (n : Nat) (x3_lp4424 : Int32) (v_lp4424 : Nat → Int32) (F_lp4424 : Nat → Nat → Int32) (H : Heap) (locs : List Loc) (ls : Array Slot), (1 ≤ x3_lp4424.toInt) → (x3_lp4424.toInt ≤ 4) → ((((v_lp4424 188).toInt = -1 ∧ (v 187).toInt + 2 * x3_lp4424.toInt ≤ (v_lp4424 187).toInt + 1 ∧ (v_lp4424 187).toInt ≤ (v 100).toInt) ∨ ((v_lp4424 188).toInt = (v_lp4424 187).toInt ∧ (v 187).toInt ≤ (v_lp4424 187).toInt ∧ (v_lp4424 187).toInt ≤ (v 100).toInt)) ∧ x3_lp4424.toInt ≤ r4413.toInt + 1) → (nz true (v 100) (F 39) r4413.toInt ((v 187).toInt + 1) (x3_lp4424.toInt - 1) (v_lp4424 188).toInt (v_lp4424 187).toInt) → (2147483648 - x3_lp4424.toInt ≤ (n : Int)) → (∀ k, k ∉ ([187, 188] : List Nat) → v_lp4424 k = (va_up v 187 z4416) k) → IX v_lp4424 F_lp4424 → alX v_lp4424 F_lp4424 = alX v F → va_P (dC, dI) classes (wX g c v_lp4424 F_lp4424 rc) H → va_S (AX g s.heap.size) s.heap H locs → lv_has ls 4 [(3, .int x3_lp4424), (2, .int r4413), (1, .int r4412), (0, .ref (g 9))] → W p l e (headSpec (Cond.code yX0_readLine cX0_readLine 4 none :: wA) ({ frames := 5, cells := 0, slots := 0, locals := 200 })).room s m ([.ref (g 9)] : List Value).toArray below meth c0 H locs 0 0 (MQ below (va_Qv (fun (u : StX) => IX u.1 u.2.1 ∧ alX u.1 u.2.1 = alX v F ∧ u.2.2 = rc ∧ (∀ k, k ∉ ([187, 188] : List Nat) → u.1 k = v k) ∧ ((((u.1 188).toInt = -1 ∧ (v 187).toInt + 4 ≤ (u.1 187).toInt ∧ (u.1 187).toInt ≤ (v 100).toInt) ∨ ((u.1 188).toInt = (u.1 187).toInt ∧ (v 187).toInt ≤ (u.1 187).toInt ∧ (u.1 187).toInt ≤ (v 100).toInt)) ∧ ln true (v 100) (F 39) (v 187).toInt (u.1 188).toInt (u.1 187).toInt)) (BX dC dI g c) (AX g s.heap.size)) ([.ref (g 9)] : List Value).toArray s 0 0 (AX g s.heap.size)) (F0 m 54 ls []) := by
      intro n
      induction n with
      | zero =>
        intro x3_lp4424 v_lp4424 F_lp4424 H locs ls t4425 t4426 t4427 t4428 hm hf_lp4424 hI hal hP hS hl
        exfalso
        have := i32_rng x3_lp4424
        have hI1 := hI.1
        omega
      | succ n ih_lp4424 =>
        intro x3_lp4424 v_lp4424 F_lp4424 H locs ls t4425 t4426 t4427 t4428 hm hf_lp4424 hI hal hP hS hl
        have rx3_lp4424 := i32_rng x3_lp4424
        refine lv_iload_n hx hb dX0_readLine_54 rfl (lv_at hl 0 rfl) ?_
        refine lv_iload_n hx hb dX0_readLine_55 rfl (lv_at hl 1 rfl) ?_
        refine lv_icmp_gt (tgt := 91) hx hb dX0_readLine_56 (by decide) (fun c4429 => ?_) (fun c4429 => ?_)
        · skip
          have t4430 := cv_lt (a := r4413.toInt) rfl (b := x3_lp4424.toInt) rfl c4429
          refine lv_aload_n hx hb dX0_readLine_91 rfl (lv_at hl 3 rfl) ?_
          refine lv_bipush (v := 59) hx hb dX0_readLine_92 (by decide) ?_
          have t4431 : 0 ≤ (v 100).toInt ∧ (v 100).toInt ≤ 120 := by have h9 := hI.1 100 _ _ rfl; rw [show v_lp4424 100 = v 100 from hf_lp4424 100 (by decide)] at h9; exact h9
          have hby39 : F_lp4424 39 = F 39 := congrArg (fun t : ALX => t.2.2.2.2.2.2.1) hal
          refine va_callv (va_runV (As := [.int 59]) (rest := []) ⟨hx, hb, hml, hown, hwd⟩ (c_X0_take l dC dI g c adK adV v_lp4424 F_lp4424 rc H.size 59 hg hI (by have : (59 : Int32).toInt = 59 := (by decide); omega) (by have h9 : v_lp4424 187 = v_lp4424 187 := rfl; (try rw [h9]); clear h9; have h9 : v_lp4424 100 = v 100 := hf_lp4424 100 (by decide); (try rw [h9]); clear h9; have h9 : v_lp4424 188 = v_lp4424 188 := rfl; (try rw [h9]); clear h9; omega)) (cwV 1 hwd (gV wk_1109 wk_1106 wk_1107 wk_1108 wk_46) rfl rfl rfl (by decide +kernel) ⟨Nat.le_of_ble_eq_true rfl, Nat.le_of_ble_eq_true rfl⟩) ⟨PX.blind, va_recv hK hP (ci := 0) (q0 := 9) rfl rfl, fun U hU hW => ⟨rfl, PX.at hK hE hP hS hU hW⟩⟩ rfl rfl hl.1 rfl (lv_room (Nat.le_of_ble_eq_true rfl)) dX0_readLine_94 ⟨Nat.le_of_ble_eq_true rfl, Nat.le_of_ble_eq_true rfl⟩) hS (fun q _ h => (freeX hS) q h) (freeX hS) (fun u t H1 locs ht hvm hw hB hz1 hk1 hS => ?_)
          unfold BX at hB
          rw [ht] at hB
          obtain ⟨v4433, F4434, rc9⟩ := u
          obtain ⟨hI, hal9, hrc, hf4435, hw⟩ := hw
          dsimp only at hI hal9 hrc hB hf4435 hw
          rw [hrc] at hB
          have hal := hal9.trans hal
          have hP : va_P (dC, dI) classes (wX g c v4433 F4434 rc) H1 := hB
          replace hw : (0 ≤ (v_lp4424 188).toInt ∧ (v4433 188).toInt = (v_lp4424 188).toInt ∧ (v4433 187).toInt = (v_lp4424 187).toInt) ∨ ((v_lp4424 188).toInt = -1 ∧ sg (v_lp4424 100) (F_lp4424 39) (v_lp4424 187).toInt = (59 : Int32).toInt ∧ (v4433 188).toInt = -1 ∧ (v4433 187).toInt = (v_lp4424 187).toInt + 1 ∧ (v_lp4424 187).toInt < (v_lp4424 100).toInt) ∨ ((v_lp4424 188).toInt = -1 ∧ ¬ sg (v_lp4424 100) (F_lp4424 39) (v_lp4424 187).toInt = (59 : Int32).toInt ∧ (v4433 188).toInt = (v_lp4424 187).toInt ∧ (v4433 187).toInt = (v_lp4424 187).toInt) := hw
          rw [show v_lp4424 100 = v 100 from hf_lp4424 100 (by decide)] at hw
          rw [hby39] at hw
          have hw_r4432 := hw
          clear hw
          have k4436 : (59 : Int32).toInt = 59 := by decide
          generalize H1 = H at hP hS ⊢
          have hP9 : va_P (dC, dI) classes (wX g c v4433 F4434 rc) H := hP
          exact W.vret hx hb hr (fun t ht hW => ⟨⟨(v4433, F4434, rc), rfl, ⟨hI, hal, rfl, (frC (by decide) hf4435 (frC (by decide) hf_lp4424 (frU (by decide) (fun _ _ => rfl)))), (by show (((v4433 188).toInt = -1 ∧ (v 187).toInt + 4 ≤ (v4433 187).toInt ∧ (v4433 187).toInt ≤ (v 100).toInt) ∨ ((v4433 188).toInt = (v4433 187).toInt ∧ (v 187).toInt ≤ (v4433 187).toInt ∧ (v4433 187).toInt ≤ (v 100).toInt)) ∧ ln true (v 100) (F 39) (v 187).toInt (v4433 188).toInt (v4433 187).toInt; exact ⟨by omega, ln.of (k := r4413.toInt) (by omega) (by rw [← hw_r4412.1]; exact hw_r4413.1) (by omega) rfl t4428 (fun q9 => by omega) (by omega)⟩)⟩, (by show va_P _ _ _ t.heap; rw [ht]; exact hP9)⟩, hS.F ht⟩) hS.2.2 dX0_readLine_97
        · skip
          have t4437 := cv_nlt (a := r4413.toInt) rfl (b := x3_lp4424.toInt) rfl c4429
          refine lv_aload_n hx hb dX0_readLine_59 rfl (lv_at hl 3 rfl) ?_
          refine va_get (D := (dC, dI)) (ci := 0) (v := .int (v_lp4424 188)) (C := RX0) (T := TX0) (N := 9) hx hb hwd inA_X0 hown hK hP 9 rfl rfl 8 (by decide) (hwd _ wk_1096) (fun _ h9 => h9) rfl dX0_readLine_60 ?_
          refine lv_iconst (v := (-1)) hx hb dX0_readLine_63 (by decide) ?_
          refine lv_icmp_ne (tgt := 91) hx hb dX0_readLine_64 (by decide) (fun c4438 => ?_) (fun c4438 => ?_)
          · skip
            have t4439 := cv_ne (a := (v_lp4424 188).toInt) rfl (b := (-1)) (by decide) c4438
            refine lv_aload_n hx hb dX0_readLine_91 rfl (lv_at hl 3 rfl) ?_
            refine lv_bipush (v := 59) hx hb dX0_readLine_92 (by decide) ?_
            have t4440 : 0 ≤ (v 100).toInt ∧ (v 100).toInt ≤ 120 := by have h9 := hI.1 100 _ _ rfl; rw [show v_lp4424 100 = v 100 from hf_lp4424 100 (by decide)] at h9; exact h9
            have hby39 : F_lp4424 39 = F 39 := congrArg (fun t : ALX => t.2.2.2.2.2.2.1) hal
            refine va_callv (va_runV (As := [.int 59]) (rest := []) ⟨hx, hb, hml, hown, hwd⟩ (c_X0_take l dC dI g c adK adV v_lp4424 F_lp4424 rc H.size 59 hg hI (by have : (59 : Int32).toInt = 59 := (by decide); omega) (by have h9 : v_lp4424 187 = v_lp4424 187 := rfl; (try rw [h9]); clear h9; have h9 : v_lp4424 100 = v 100 := hf_lp4424 100 (by decide); (try rw [h9]); clear h9; have h9 : v_lp4424 188 = v_lp4424 188 := rfl; (try rw [h9]); clear h9; omega)) (cwV 1 hwd (gV wk_1109 wk_1106 wk_1107 wk_1108 wk_46) rfl rfl rfl (by decide +kernel) ⟨Nat.le_of_ble_eq_true rfl, Nat.le_of_ble_eq_true rfl⟩) ⟨PX.blind, va_recv hK hP (ci := 0) (q0 := 9) rfl rfl, fun U hU hW => ⟨rfl, PX.at hK hE hP hS hU hW⟩⟩ rfl rfl hl.1 rfl (lv_room (Nat.le_of_ble_eq_true rfl)) dX0_readLine_94 ⟨Nat.le_of_ble_eq_true rfl, Nat.le_of_ble_eq_true rfl⟩) hS (fun q _ h => (freeX hS) q h) (freeX hS) (fun u t H1 locs ht hvm hw hB hz1 hk1 hS => ?_)
            unfold BX at hB
            rw [ht] at hB
            obtain ⟨v4442, F4443, rc9⟩ := u
            obtain ⟨hI, hal9, hrc, hf4444, hw⟩ := hw
            dsimp only at hI hal9 hrc hB hf4444 hw
            rw [hrc] at hB
            have hal := hal9.trans hal
            have hP : va_P (dC, dI) classes (wX g c v4442 F4443 rc) H1 := hB
            replace hw : (0 ≤ (v_lp4424 188).toInt ∧ (v4442 188).toInt = (v_lp4424 188).toInt ∧ (v4442 187).toInt = (v_lp4424 187).toInt) ∨ ((v_lp4424 188).toInt = -1 ∧ sg (v_lp4424 100) (F_lp4424 39) (v_lp4424 187).toInt = (59 : Int32).toInt ∧ (v4442 188).toInt = -1 ∧ (v4442 187).toInt = (v_lp4424 187).toInt + 1 ∧ (v_lp4424 187).toInt < (v_lp4424 100).toInt) ∨ ((v_lp4424 188).toInt = -1 ∧ ¬ sg (v_lp4424 100) (F_lp4424 39) (v_lp4424 187).toInt = (59 : Int32).toInt ∧ (v4442 188).toInt = (v_lp4424 187).toInt ∧ (v4442 187).toInt = (v_lp4424 187).toInt) := hw
            rw [show v_lp4424 100 = v 100 from hf_lp4424 100 (by decide)] at hw
            rw [hby39] at hw
            have hw_r4441 := hw
            clear hw
            have k4445 : (59 : Int32).toInt = 59 := by decide
            generalize H1 = H at hP hS ⊢
            have hP9 : va_P (dC, dI) classes (wX g c v4442 F4443 rc) H := hP
            exact W.vret hx hb hr (fun t ht hW => ⟨⟨(v4442, F4443, rc), rfl, ⟨hI, hal, rfl, (frC (by decide) hf4444 (frC (by decide) hf_lp4424 (frU (by decide) (fun _ _ => rfl)))), (by show (((v4442 188).toInt = -1 ∧ (v 187).toInt + 4 ≤ (v4442 187).toInt ∧ (v4442 187).toInt ≤ (v 100).toInt) ∨ ((v4442 188).toInt = (v4442 187).toInt ∧ (v 187).toInt ≤ (v4442 187).toInt ∧ (v4442 187).toInt ≤ (v 100).toInt)) ∧ ln true (v 100) (F 39) (v 187).toInt (v4442 188).toInt (v4442 187).toInt; exact ⟨by omega, ln.of (k := r4413.toInt) (by omega) (by rw [← hw_r4412.1]; exact hw_r4413.1) (by omega) rfl t4428 (fun q9 => by omega) (by omega)⟩)⟩, (by show va_P _ _ _ t.heap; rw [ht]; exact hP9)⟩, hS.F ht⟩) hS.2.2 dX0_readLine_97
          · skip
            have t4446 := cv_eq (a := (v_lp4424 188).toInt) rfl (b := (-1)) (by decide) c4438
            refine lv_aload_n hx hb dX0_readLine_67 rfl (lv_at hl 3 rfl) ?_
            refine lv_bipush (v := 32) hx hb dX0_readLine_68 (by decide) ?_
            have t4447 : 0 ≤ (v 100).toInt ∧ (v 100).toInt ≤ 120 := by have h9 := hI.1 100 _ _ rfl; rw [show v_lp4424 100 = v 100 from hf_lp4424 100 (by decide)] at h9; exact h9
            have hby39 : F_lp4424 39 = F 39 := congrArg (fun t : ALX => t.2.2.2.2.2.2.1) hal
            refine va_callv (va_runV (As := [.int 32]) (rest := []) ⟨hx, hb, hml, hown, hwd⟩ (c_X0_take l dC dI g c adK adV v_lp4424 F_lp4424 rc H.size 32 hg hI (by have : (32 : Int32).toInt = 32 := (by decide); omega) (by have h9 : v_lp4424 187 = v_lp4424 187 := rfl; (try rw [h9]); clear h9; have h9 : v_lp4424 100 = v 100 := hf_lp4424 100 (by decide); (try rw [h9]); clear h9; have h9 : v_lp4424 188 = v_lp4424 188 := rfl; (try rw [h9]); clear h9; omega)) (cwV 1 hwd (gV wk_1109 wk_1106 wk_1107 wk_1108 wk_46) rfl rfl rfl (by decide +kernel) ⟨Nat.le_of_ble_eq_true rfl, Nat.le_of_ble_eq_true rfl⟩) ⟨PX.blind, va_recv hK hP (ci := 0) (q0 := 9) rfl rfl, fun U hU hW => ⟨rfl, PX.at hK hE hP hS hU hW⟩⟩ rfl rfl hl.1 rfl (lv_room (Nat.le_of_ble_eq_true rfl)) dX0_readLine_70 ⟨Nat.le_of_ble_eq_true rfl, Nat.le_of_ble_eq_true rfl⟩) hS (fun q _ h => (freeX hS) q h) (freeX hS) (fun u t H1 locs ht hvm hw hB hz1 hk1 hS => ?_)
            unfold BX at hB
            rw [ht] at hB
            obtain ⟨v4449, F4450, rc9⟩ := u
            obtain ⟨hI, hal9, hrc, hf4451, hw⟩ := hw
            dsimp only at hI hal9 hrc hB hf4451 hw
            rw [hrc] at hB
            have hal := hal9.trans hal
            have hP : va_P (dC, dI) classes (wX g c v4449 F4450 rc) H1 := hB
            replace hw : (0 ≤ (v_lp4424 188).toInt ∧ (v4449 188).toInt = (v_lp4424 188).toInt ∧ (v4449 187).toInt = (v_lp4424 187).toInt) ∨ ((v_lp4424 188).toInt = -1 ∧ sg (v_lp4424 100) (F_lp4424 39) (v_lp4424 187).toInt = (32 : Int32).toInt ∧ (v4449 188).toInt = -1 ∧ (v4449 187).toInt = (v_lp4424 187).toInt + 1 ∧ (v_lp4424 187).toInt < (v_lp4424 100).toInt) ∨ ((v_lp4424 188).toInt = -1 ∧ ¬ sg (v_lp4424 100) (F_lp4424 39) (v_lp4424 187).toInt = (32 : Int32).toInt ∧ (v4449 188).toInt = (v_lp4424 187).toInt ∧ (v4449 187).toInt = (v_lp4424 187).toInt) := hw
            rw [show v_lp4424 100 = v 100 from hf_lp4424 100 (by decide)] at hw
            rw [hby39] at hw
            have hw_r4448 := hw
            clear hw
            have k4452 : (32 : Int32).toInt = 32 := by decide
            generalize H1 = H at hP hS ⊢
            refine lv_aload_n hx hb dX0_readLine_73 rfl (lv_at hl 3 rfl) ?_
            refine lv_aload_n hx hb dX0_readLine_74 rfl (lv_at hl 3 rfl) ?_
            refine va_get (D := (dC, dI)) (ci := 0) (v := .int (v4449 186)) (C := RX0) (T := TX0) (N := 9) hx hb hwd inA_X0 hown hK hP 9 rfl rfl 6 (by decide) (hwd _ wk_1094) (fun _ h9 => h9) rfl dX0_readLine_75 ?_
            refine my_top (v := v 186) ((hf4451 186 (by decide)).trans (hf_lp4424 186 (by decide))) ?_
            have t4453 : 0 ≤ (v 186).toInt ∧ (v 186).toInt ≤ 30 := by have h9 := hI.1 186 _ _ rfl; rw [show v4449 186 = v 186 from (hf4451 186 (by decide)).trans (hf_lp4424 186 (by decide))] at h9; exact h9
            refine lv_iconst (v := 4) hx hb dX0_readLine_78 (by decide) ?_
            refine lv_imul hx hb dX0_readLine_79 ?_
            refine lv_topi (fun z4454 e4455 => ?_)
            try (have t4456 := tmul e4455 (a := (v 186).toInt) rfl (b := 4) (by decide) (by omega))
            refine lv_iload_n hx hb dX0_readLine_80 rfl (lv_at hl 0 rfl) ?_
            refine lv_iadd hx hb dX0_readLine_81 ?_
            refine lv_topi (fun z4457 e4458 => ?_)
            try (have t4459 := tadd e4458 (a := z4454.toInt) rfl (b := x3_lp4424.toInt) rfl (by omega))
            have t4460 : 0 ≤ (v 100).toInt ∧ (v 100).toInt ≤ 120 := by have h9 := hI.1 100 _ _ rfl; rw [show v4449 100 = v 100 from (hf4451 100 (by decide)).trans (hf_lp4424 100 (by decide))] at h9; exact h9
            have hby39 : F4450 39 = F 39 := congrArg (fun t : ALX => t.2.2.2.2.2.2.1) hal
            refine va_callv (va_runV (As := [.int z4457]) (rest := []) ⟨hx, hb, hml, hown, hwd⟩ (c_X0_readNumber l dC dI g c adK adV v4449 F4450 rc H.size z4457 hg hI (by omega) (by have h9 : v4449 187 = v4449 187 := rfl; (try rw [h9]); clear h9; have h9 : v4449 100 = v 100 := (hf4451 100 (by decide)).trans (hf_lp4424 100 (by decide)); (try rw [h9]); clear h9; have h9 : v4449 188 = v4449 188 := rfl; (try rw [h9]); clear h9; omega)) (cwV 1 hwd (gV wk_1113 wk_1110 wk_1111 wk_1112 wk_46) rfl rfl rfl (by decide +kernel) ⟨Nat.le_of_ble_eq_true rfl, Nat.le_of_ble_eq_true rfl⟩) ⟨PX.blind, va_recv hK hP (ci := 0) (q0 := 9) rfl rfl, fun U hU hW => ⟨rfl, PX.at hK hE hP hS hU hW⟩⟩ rfl rfl hl.1 rfl (lv_room (Nat.le_of_ble_eq_true rfl)) dX0_readLine_82 ⟨Nat.le_of_ble_eq_true rfl, Nat.le_of_ble_eq_true rfl⟩) hS (fun q _ h => (freeX hS) q h) (freeX hS) (fun u t H1 locs ht hvm hw hB hz1 hk1 hS => ?_)
            unfold BX at hB
            rw [ht] at hB
            obtain ⟨v4462, F4463, rc9⟩ := u
            obtain ⟨hI, hal9, hrc, hf4464, hw⟩ := hw
            dsimp only at hI hal9 hrc hB hf4464 hw
            rw [hrc] at hB
            have hal := hal9.trans hal
            have hP : va_P (dC, dI) classes (wX g c v4462 F4463 rc) H1 := hB
            replace hw : ((0 ≤ (v4449 188).toInt ∧ (v4462 188).toInt = (v4449 188).toInt ∧ (v4462 187).toInt = (v4449 187).toInt) ∨ ((v4449 188).toInt = -1 ∧ (v4462 188).toInt = -1 ∧ (v4449 187).toInt + 1 ≤ (v4462 187).toInt ∧ (v4462 187).toInt ≤ (v4449 100).toInt) ∨ ((v4449 188).toInt = -1 ∧ (v4462 188).toInt = (v4449 187).toInt ∧ (v4462 187).toInt = (v4449 187).toInt)) ∧ dgX (v4449 100) (F4450 39) (v4449 188).toInt (v4449 187).toInt (v4462 188).toInt (v4462 187).toInt := hw
            rw [show v4449 100 = v 100 from (hf4451 100 (by decide)).trans (hf_lp4424 100 (by decide))] at hw
            rw [hby39] at hw
            have hw_r4461 := hw
            clear hw
            generalize H1 = H at hP hS ⊢
            obtain ⟨z4465, e4466⟩ : ∃ y : Int32, y = x3_lp4424 + 1 := ⟨_, rfl⟩
            try (have t4467 := tadd e4466 rfl (b := 1) (by decide) (by omega))
            refine lv_iinc (v := z4465) (lv' := [(3, .int z4465), (2, .int r4413), (1, .int r4412), (0, .ref (g 9))]) hx hb dX0_readLine_85 hl (k := 0) rfl (by rw [e4466]; rfl) (by decide) rfl (fun ls hl => ?_)
            refine lv_goto (tgt := 54) hx hb dX0_readLine_88 (by decide) ?_
            exact ih_lp4424 z4465 v4462 F4463 _ _ _ (by omega) (by omega) (by have h9 : v4462 188 = v4462 188 := rfl; (try rw [h9]); clear h9; have h9 : v4462 187 = v4462 187 := rfl; (try rw [h9]); clear h9; omega) (by have h9 : v4462 188 = v4462 188 := rfl; (try rw [h9]); clear h9; have h9 : v4462 187 = v4462 187 := rfl; (try rw [h9]); clear h9; exact nz.step t4428 (by omega) (by omega) rfl (nb.of (by omega) (by omega) hw_r4461.2 (fun q9 => by omega)) (by omega)) (by omega) (frC (by decide) hf4464 (frC (by decide) hf4451 hf_lp4424)) hI hal hP hS (lv_sub hl [0, 1, 2, 3] rfl)
    obtain ⟨n9, hn9⟩ : ∃ n : Nat, 2147483648 - 1 ≤ (n : Int) := ⟨((2147483648 - 1 : Int)).toNat, by omega⟩
    exact lp4424 n9 1 (va_up v 187 z4416) F4423 H _ ls (by have : (1 : Int32).toInt = 1 := (by decide); omega) (by have : (1 : Int32).toInt = 1 := (by decide); omega) (by have h9 : (va_up v 187 z4416) 188 = v 188 := rfl; (try rw [h9]); clear h9; have h9 : (va_up v 187 z4416) 187 = z4416 := rfl; (try rw [h9]); clear h9; have z9 : (1 : Int32).toInt = 1 := (by decide); omega) (by have h9 : (va_up v 187 z4416) 188 = v 188 := rfl; (try rw [h9]); clear h9; have h9 : (va_up v 187 z4416) 187 = z4416 := rfl; (try rw [h9]); clear h9; have z9 : (1 : Int32).toInt = 1 := (by decide); exact nz.start (by omega) (by omega) (by omega) (by omega)) (by have : (1 : Int32).toInt = 1 := (by decide); omega) (fun _ _ => rfl) hI hal hP hS hl
  · skip
    have t4468 := cv_eq (a := r4413.toInt) rfl (b := 0) (by decide) c4414
    refine lv_aload_n hx hb dX0_readLine_21 rfl (lv_at hl 2 rfl) ?_
    refine lv_aload_n hx hb dX0_readLine_22 rfl (lv_at hl 2 rfl) ?_
    refine va_get (D := (dC, dI)) (ci := 0) (v := .int (v 187)) (C := RX0) (T := TX0) (N := 9) hx hb hwd inA_X0 hown hK hP 9 rfl rfl 7 (by decide) (hwd _ wk_1095) (fun _ h9 => h9) rfl dX0_readLine_23 ?_
    refine va_put (D := (dC, dI)) (ci := 0) (v := .int (v 187)) (ty := .int) (C := RX0) (T := TX0) (N := 9) (fs := fsX_9 g v rc) hx hb hwd inA_X0 tyX0 tyX0_ok nmX0 hown hK hP (DX hg) hS 9 rfl rfl 8 (by decide) (hwd _ wk_1096) (fun _ h9 => h9) rfl (by decide +kernel) rfl rfl (Nat.le_of_ble_eq_true rfl) dX0_readLine_26 (fun H locs hP _ hS => ?_)
    have hP := va_P_eq (pX_188 g c _ _ _ _) hP
    have hI := IX.put0 hI 188 (v 187) rfl
    have hal := (alX_v _ _ 188 (v 187) (by decide) (by decide) (by decide) (by decide)).trans hal
    have hP9 : va_P (dC, dI) classes (wX g c (va_up v 188 (v 187)) F rc) H := hP
    exact W.vret hx hb hr (fun t ht hW => ⟨⟨((va_up v 188 (v 187)), F, rc), rfl, ⟨hI, hal, rfl, (frU (by decide) (fun _ _ => rfl)), (by show (((v 187).toInt = -1 ∧ (v 187).toInt + 4 ≤ (v 187).toInt ∧ (v 187).toInt ≤ (v 100).toInt) ∨ ((v 187).toInt = (v 187).toInt ∧ (v 187).toInt ≤ (v 187).toInt ∧ (v 187).toInt ≤ (v 100).toInt)) ∧ ln true (v 100) (F 39) (v 187).toInt (v 187).toInt (v 187).toInt; exact ⟨by omega, ln.no (by omega) (by rw [← hw_r4412.1]; have n9 := hw_r4413.1; omega) (by omega) (by omega)⟩)⟩, (by show va_P _ _ _ t.heap; rw [ht]; exact hP9)⟩, hS.F ht⟩) hS.2.2 dX0_readLine_29
set_option maxHeartbeats 8000000 in
set_option maxRecDepth 100000 in
theorem c_X0_read (l : Launch) (dC : Nat → ClassId) (dI : Nat → Nat → Nat) (g : Nat → Nat) (c : Nat → ClassId) (adK adV : Nat → Nat) (v : Nat → Int32) (F : Nat → Nat → Int32) (rc sz : Nat) (hg : injX g) (hI : IX v F) : Met l yX0_read (Cond.code yX0_read cX0_read 1 (some .int) :: wA) ({ frames := 6, cells := 0, slots := 0, locals := 240 }) (va_Pc [.ref (g 9)] (PX dC dI g c adK adV v F rc sz)) (va_Qi (fun (r : Int32) (u : StX) => IX u.1 u.2.1 ∧ alX u.1 u.2.1 = alX v F ∧ u.2.2 = rc ∧ (∀ k, k ∉ ([186, 187, 188] : List Nat) → u.1 k = v k) ∧ (cread (v 100) (F 39) r.toInt (u.1 186).toInt ∧ (r.toInt = -1 ∨ (0 ≤ r.toInt ∧ r.toInt ≤ 120)) ∧ (1 ≤ (u.1 186).toInt ∧ (u.1 186).toInt ≤ 30))) (BX dC dI g c) (AX g sz)) 0 0 (AX g sz) := by
  refine Met.ofW (cc := cX0_read) (maxL := 1) (ret := (some .int)) (by decide) rfl ?_
  intro p e s m args below meth c0 s₁ B hml hv
  obtain ⟨rfl, hsz, hP, hK, hE⟩ := hv
  have hx := B.exec
  have hb := B.bytes
  have hr := B.returns
  have hts := atoms_spec (ws := Cond.code yX0_read cX0_read 1 (some .int) :: wA) B.pre
  have hwd : ∀ w ∈ wA, w.before _ s = true := fun w h => hts w (List.mem_cons_of_mem _ h)
  have hown : s.vm.findClass RX0 = some m.cls := findClass_of_methodNamed B.named
  have hlocks := B.notSynchronized
  subst hsz
  have hl := lv_entry ([.ref (g 9)]) (n := 1) (Nat.le_of_ble_eq_true rfl)
  rw [lg_entry_eq]
  generalize (lg_sl ([.ref (g 9)]) ++ List.replicate (1 - (lg_sl ([.ref (g 9)])).length) Slot.unset).toArray = ls at hl ⊢
  have hl : lv_has ls 1 [(0, .ref (g 9))] := hl
  obtain ⟨H, eH⟩ : ∃ z, z = s.heap := ⟨_, rfl⟩
  have hP : va_P (dC, dI) classes (wX g c v F rc) H := by rw [eH]; exact hP
  have hS : va_S (AX g s.heap.size) s.heap H [] := by rw [eH]; exact va_S.rf
  refine my_heap eH ?_
  have hal : alX v F = alX v F := rfl
  have hb100 : 0 ≤ (v 100).toInt ∧ (v 100).toInt ≤ 120 := hI.1 100 _ _ rfl
  have k0 : (0 : Int32).toInt = 0 := by decide
  have km1 : (-1 : Int32).toInt = -1 := by decide
  refine lv_aload_n hx hb dX0_read_0 rfl (lv_at hl 0 rfl) ?_
  refine lv_iconst (v := 0) hx hb dX0_read_1 (by decide) ?_
  refine va_put (D := (dC, dI)) (ci := 0) (v := .int 0) (ty := .int) (C := RX0) (T := TX0) (N := 9) (fs := fsX_9 g v rc) hx hb hwd inA_X0 tyX0 tyX0_ok nmX0 hown hK hP (DX hg) hS 9 rfl rfl 6 (by decide) (hwd _ wk_1094) (fun _ h9 => h9) rfl (by decide +kernel) rfl rfl (Nat.le_of_ble_eq_true rfl) dX0_read_2 (fun H locs hP _ hS => ?_)
  have hP := va_P_eq (pX_186 g c _ _ _ _) hP
  have hI := IX.put hI 186 0 rfl (by have : (0 : Int32).toInt = 0 := (by decide); omega)
  have hal := (alX_v _ _ 186 0 (by decide) (by decide) (by decide) (by decide)).trans hal
  refine lv_aload_n hx hb dX0_read_5 rfl (lv_at hl 0 rfl) ?_
  refine lv_iconst (v := 0) hx hb dX0_read_6 (by decide) ?_
  refine va_put (D := (dC, dI)) (ci := 0) (v := .int 0) (ty := .int) (C := RX0) (T := TX0) (N := 9) (fs := fsX_9 g (va_up v 186 0) rc) hx hb hwd inA_X0 tyX0 tyX0_ok nmX0 hown hK hP (DX hg) hS 9 rfl rfl 7 (by decide) (hwd _ wk_1095) (fun _ h9 => h9) rfl (by decide +kernel) rfl rfl (Nat.le_of_ble_eq_true rfl) dX0_read_7 (fun H locs hP _ hS => ?_)
  have hP := va_P_eq (pX_187 g c _ _ _ _) hP
  have hI := IX.put0 hI 187 0 rfl
  have hal := (alX_v _ _ 187 0 (by decide) (by decide) (by decide) (by decide)).trans hal
  refine lv_aload_n hx hb dX0_read_10 rfl (lv_at hl 0 rfl) ?_
  refine lv_iconst (v := (-1)) hx hb dX0_read_11 (by decide) ?_
  refine va_put (D := (dC, dI)) (ci := 0) (v := .int (-1)) (ty := .int) (C := RX0) (T := TX0) (N := 9) (fs := fsX_9 g (va_up (va_up v 186 0) 187 0) rc) hx hb hwd inA_X0 tyX0 tyX0_ok nmX0 hown hK hP (DX hg) hS 9 rfl rfl 8 (by decide) (hwd _ wk_1096) (fun _ h9 => h9) rfl (by decide +kernel) rfl rfl (Nat.le_of_ble_eq_true rfl) dX0_read_12 (fun H locs hP _ hS => ?_)
  have hP := va_P_eq (pX_188 g c _ _ _ _) hP
  have hI := IX.put0 hI 188 (-1) rfl
  have hal := (alX_v _ _ 188 (-1) (by decide) (by decide) (by decide) (by decide)).trans hal
  have lp4469 : ∀ (n : Nat) (v_lp4469 : Nat → Int32) (F_lp4469 : Nat → Nat → Int32) (H : Heap) (locs : List Loc) (ls : Array Slot), ((v_lp4469 188).toInt = -1 ∧ 4 * (v_lp4469 186).toInt ≤ (v_lp4469 187).toInt ∧ (v_lp4469 187).toInt ≤ (v 100).toInt ∧ 0 ≤ (v_lp4469 186).toInt ∧ (1 ≤ (v_lp4469 186).toInt → (v_lp4469 187).toInt < (v 100).toInt)) → (headX (v 100) (F 39) (v_lp4469 188).toInt (v_lp4469 187).toInt (v_lp4469 186).toInt) → ((v_lp4469 186).toInt ≤ 29) → (30 - (v_lp4469 186).toInt ≤ (n : Int)) → (∀ k, k ∉ ([186, 187, 188] : List Nat) → v_lp4469 k = (va_up (va_up (va_up v 186 0) 187 0) 188 (-1)) k) → IX v_lp4469 F_lp4469 → alX v_lp4469 F_lp4469 = alX v F → va_P (dC, dI) classes (wX g c v_lp4469 F_lp4469 rc) H → va_S (AX g s.heap.size) s.heap H locs → lv_has ls 1 [(0, .ref (g 9))] → W p l e (headSpec (Cond.code yX0_read cX0_read 1 (some .int) :: wA) ({ frames := 6, cells := 0, slots := 0, locals := 240 })).room s m ([.ref (g 9)] : List Value).toArray below meth c0 H locs 0 0 (MQ below (va_Qi (fun (r : Int32) (u : StX) => IX u.1 u.2.1 ∧ alX u.1 u.2.1 = alX v F ∧ u.2.2 = rc ∧ (∀ k, k ∉ ([186, 187, 188] : List Nat) → u.1 k = v k) ∧ (cread (v 100) (F 39) r.toInt (u.1 186).toInt ∧ (r.toInt = -1 ∨ (0 ≤ r.toInt ∧ r.toInt ≤ 120)) ∧ (1 ≤ (u.1 186).toInt ∧ (u.1 186).toInt ≤ 30))) (BX dC dI g c) (AX g s.heap.size)) ([.ref (g 9)] : List Value).toArray s 0 0 (AX g s.heap.size)) (F0 m 15 ls []) := by
    intro n
    induction n with
    | zero =>
      intro v_lp4469 F_lp4469 H locs ls t4470 t4471 t4472 hm hf_lp4469 hI hal hP hS hl
      exfalso
      have hI1 := hI.1
      omega
    | succ n ih_lp4469 =>
      intro v_lp4469 F_lp4469 H locs ls t4470 t4471 t4472 hm hf_lp4469 hI hal hP hS hl
      refine lv_aload_n hx hb dX0_read_15 rfl (lv_at hl 0 rfl) ?_
      have t4473 : 0 ≤ (v 100).toInt ∧ (v 100).toInt ≤ 120 := by have h9 := hI.1 100 _ _ rfl; rw [show v_lp4469 100 = v 100 from hf_lp4469 100 (by decide)] at h9; exact h9
      have hby39 : F_lp4469 39 = F 39 := congrArg (fun t : ALX => t.2.2.2.2.2.2.1) hal
      refine va_callv (va_runV (As := []) (rest := []) ⟨hx, hb, hml, hown, hwd⟩ (c_X0_readLine l dC dI g c adK adV v_lp4469 F_lp4469 rc H.size  hg hI (by have h9 : v_lp4469 186 = v_lp4469 186 := rfl; rw [h9]; omega) (by have h9 : v_lp4469 187 = v_lp4469 187 := rfl; (try rw [h9]); clear h9; have h9 : v_lp4469 100 = v 100 := hf_lp4469 100 (by decide); (try rw [h9]); clear h9; have h9 : v_lp4469 188 = v_lp4469 188 := rfl; (try rw [h9]); clear h9; omega)) (cwV 0 hwd (gV wk_1101 wk_1098 wk_1099 wk_1100 wk_46) rfl rfl rfl (by decide +kernel) ⟨Nat.le_of_ble_eq_true rfl, Nat.le_of_ble_eq_true rfl⟩) ⟨PX.blind, va_recv hK hP (ci := 0) (q0 := 9) rfl rfl, fun U hU hW => ⟨rfl, PX.at hK hE hP hS hU hW⟩⟩ rfl rfl hl.1 rfl (lv_room (Nat.le_of_ble_eq_true rfl)) dX0_read_16 ⟨Nat.le_of_ble_eq_true rfl, Nat.le_of_ble_eq_true rfl⟩) hS (fun q _ h => (freeX hS) q h) (freeX hS) (fun u t H1 locs ht hvm hw hB hz1 hk1 hS => ?_)
      unfold BX at hB
      rw [ht] at hB
      obtain ⟨v4475, F4476, rc9⟩ := u
      obtain ⟨hI, hal9, hrc, hf4477, hw⟩ := hw
      dsimp only at hI hal9 hrc hB hf4477 hw
      rw [hrc] at hB
      have hal := hal9.trans hal
      have hP : va_P (dC, dI) classes (wX g c v4475 F4476 rc) H1 := hB
      replace hw : (((v4475 188).toInt = -1 ∧ (v_lp4469 187).toInt + 4 ≤ (v4475 187).toInt ∧ (v4475 187).toInt ≤ (v_lp4469 100).toInt) ∨ ((v4475 188).toInt = (v4475 187).toInt ∧ (v_lp4469 187).toInt ≤ (v4475 187).toInt ∧ (v4475 187).toInt ≤ (v_lp4469 100).toInt)) ∧ ln true (v_lp4469 100) (F_lp4469 39) (v_lp4469 187).toInt (v4475 188).toInt (v4475 187).toInt := hw
      rw [show v_lp4469 100 = v 100 from hf_lp4469 100 (by decide)] at hw
      rw [hby39] at hw
      have hw_r4474 := hw
      clear hw
      generalize H1 = H at hP hS ⊢
      have htx := headX.step t4471 (by omega) (by omega) (fun q9 => by omega) rfl hw_r4474.2 (k1 := (v_lp4469 186).toInt + 1) rfl
      refine lv_aload_n hx hb dX0_read_19 rfl (lv_at hl 0 rfl) ?_
      refine lv_dup hx hb dX0_read_20 rfl ?_
      refine va_get (D := (dC, dI)) (ci := 0) (v := .int (v4475 186)) (C := RX0) (T := TX0) (N := 9) hx hb hwd inA_X0 hown hK hP 9 rfl rfl 6 (by decide) (hwd _ wk_1094) (fun _ h9 => h9) rfl dX0_read_21 ?_
      refine my_top (v := v_lp4469 186) (hf4477 186 (by decide)) ?_
      have t4478 : 0 ≤ (v_lp4469 186).toInt ∧ (v_lp4469 186).toInt ≤ 30 := by have h9 := hI.1 186 _ _ rfl; rw [show v4475 186 = v_lp4469 186 from hf4477 186 (by decide)] at h9; exact h9
      refine lv_iconst (v := 1) hx hb dX0_read_24 (by decide) ?_
      refine lv_iadd hx hb dX0_read_25 ?_
      refine lv_topi (fun z4479 e4480 => ?_)
      try (have t4481 := tadd e4480 (a := (v_lp4469 186).toInt) rfl (b := 1) (by decide) (by omega))
      refine va_put (D := (dC, dI)) (ci := 0) (v := .int z4479) (ty := .int) (C := RX0) (T := TX0) (N := 9) (fs := fsX_9 g v4475 rc) hx hb hwd inA_X0 tyX0 tyX0_ok nmX0 hown hK hP (DX hg) hS 9 rfl rfl 6 (by decide) (hwd _ wk_1094) (fun _ h9 => h9) rfl (by decide +kernel) rfl rfl (Nat.le_of_ble_eq_true rfl) dX0_read_26 (fun H locs hP _ hS => ?_)
      have hP := va_P_eq (pX_186 g c _ _ _ _) hP
      have hI := IX.put hI 186 z4479 rfl (by omega)
      have hal := (alX_v _ _ 186 z4479 (by decide) (by decide) (by decide) (by decide)).trans hal
      refine lv_aload_n hx hb dX0_read_29 rfl (lv_at hl 0 rfl) ?_
      refine va_get (D := (dC, dI)) (ci := 0) (v := .int z4479) (C := RX0) (T := TX0) (N := 9) hx hb hwd inA_X0 hown hK hP 9 rfl rfl 6 (by decide) (hwd _ wk_1094) (fun _ h9 => h9) rfl dX0_read_30 ?_
      have t4482 : 0 ≤ z4479.toInt ∧ z4479.toInt ≤ 30 := hI.1 186 _ _ rfl
      refine lv_bipush (v := 30) hx hb dX0_read_33 (by decide) ?_
      refine lv_icmp_ge (tgt := 60) hx hb dX0_read_35 (by decide) (fun c4483 => ?_) (fun c4483 => ?_)
      · skip
        have t4484 := cv_le (a := 30) (by decide) (b := z4479.toInt) rfl c4483
        refine lv_aload_n hx hb dX0_read_60 rfl (lv_at hl 0 rfl) ?_
        refine va_get (D := (dC, dI)) (ci := 0) (v := .int (v4475 188)) (C := RX0) (T := TX0) (N := 9) hx hb hwd inA_X0 hown hK hP 9 rfl rfl 8 (by decide) (hwd _ wk_1096) (fun _ h9 => h9) rfl dX0_read_61 ?_
        have hP9 : va_P (dC, dI) classes (wX g c (va_up v4475 186 z4479) F4476 rc) H := hP
        exact W.iret (v := v4475 188) hx hb hr (fun t ht hW => ⟨⟨(v4475 188), ((va_up v4475 186 z4479), F4476, rc), rfl, ⟨hI, hal, rfl, (frU (by decide) (frC (by decide) hf4477 (frC (by decide) hf_lp4469 (frU (by decide) (frU (by decide) (frU (by decide) (fun _ _ => rfl))))))), (by show cread (v 100) (F 39) (v4475 188).toInt z4479.toInt ∧ ((v4475 188).toInt = -1 ∨ (0 ≤ (v4475 188).toInt ∧ (v4475 188).toInt ≤ 120)) ∧ (1 ≤ z4479.toInt ∧ z4479.toInt ≤ 30); exact ⟨cread.mk htx (by omega) (by omega) (fun q9 => by omega), by omega, by omega⟩)⟩, (by show va_P _ _ _ t.heap; rw [ht]; exact hP9)⟩, hS.F ht⟩) hS.2.2 dX0_read_64
      · skip
        have t4485 := cv_nle (a := 30) (by decide) (b := z4479.toInt) rfl c4483
        refine lv_aload_n hx hb dX0_read_38 rfl (lv_at hl 0 rfl) ?_
        refine va_get (D := (dC, dI)) (ci := 0) (v := .int (v4475 188)) (C := RX0) (T := TX0) (N := 9) hx hb hwd inA_X0 hown hK hP 9 rfl rfl 8 (by decide) (hwd _ wk_1096) (fun _ h9 => h9) rfl dX0_read_39 ?_
        refine lv_iconst (v := (-1)) hx hb dX0_read_42 (by decide) ?_
        refine lv_icmp_ne (tgt := 60) hx hb dX0_read_43 (by decide) (fun c4486 => ?_) (fun c4486 => ?_)
        · skip
          have t4487 := cv_ne (a := (v4475 188).toInt) rfl (b := (-1)) (by decide) c4486
          refine lv_aload_n hx hb dX0_read_60 rfl (lv_at hl 0 rfl) ?_
          refine va_get (D := (dC, dI)) (ci := 0) (v := .int (v4475 188)) (C := RX0) (T := TX0) (N := 9) hx hb hwd inA_X0 hown hK hP 9 rfl rfl 8 (by decide) (hwd _ wk_1096) (fun _ h9 => h9) rfl dX0_read_61 ?_
          have hP9 : va_P (dC, dI) classes (wX g c (va_up v4475 186 z4479) F4476 rc) H := hP
          exact W.iret (v := v4475 188) hx hb hr (fun t ht hW => ⟨⟨(v4475 188), ((va_up v4475 186 z4479), F4476, rc), rfl, ⟨hI, hal, rfl, (frU (by decide) (frC (by decide) hf4477 (frC (by decide) hf_lp4469 (frU (by decide) (frU (by decide) (frU (by decide) (fun _ _ => rfl))))))), (by show cread (v 100) (F 39) (v4475 188).toInt z4479.toInt ∧ ((v4475 188).toInt = -1 ∨ (0 ≤ (v4475 188).toInt ∧ (v4475 188).toInt ≤ 120)) ∧ (1 ≤ z4479.toInt ∧ z4479.toInt ≤ 30); exact ⟨cread.mk htx (by omega) (by omega) (fun q9 => by omega), by omega, by omega⟩)⟩, (by show va_P _ _ _ t.heap; rw [ht]; exact hP9)⟩, hS.F ht⟩) hS.2.2 dX0_read_64
        · skip
          have t4488 := cv_eq (a := (v4475 188).toInt) rfl (b := (-1)) (by decide) c4486
          refine lv_aload_n hx hb dX0_read_46 rfl (lv_at hl 0 rfl) ?_
          refine va_get (D := (dC, dI)) (ci := 0) (v := .int (v4475 187)) (C := RX0) (T := TX0) (N := 9) hx hb hwd inA_X0 hown hK hP 9 rfl rfl 7 (by decide) (hwd _ wk_1095) (fun _ h9 => h9) rfl dX0_read_47 ?_
          refine lv_aload_n hx hb dX0_read_50 rfl (lv_at hl 0 rfl) ?_
          refine va_get (D := (dC, dI)) (ci := 0) (v := .ref (g 5)) (C := RX0) (T := TX0) (N := 9) hx hb hwd inA_X0 hown hK hP 9 rfl rfl 0 (by decide) (hwd _ wk_138) (fun _ h9 => h9) rfl dX0_read_51 ?_
          refine va_get (D := (dC, dI)) (ci := 10) (v := .int (v4475 100)) (C := RX10) (T := TX10) (N := 2) hx hb hwd inA_X10 hown hK hP 5 rfl rfl 0 (by decide) (hwd _ wk_1097) (fun _ h9 => h9) rfl dX0_read_54 ?_
          refine my_top (v := v 100) ((hf4477 100 (by decide)).trans (hf_lp4469 100 (by decide))) ?_
          have t4489 : 0 ≤ (v 100).toInt ∧ (v 100).toInt ≤ 120 := by have h9 := hI.1 100 _ _ rfl; rw [show (va_up v4475 186 z4479) 100 = v 100 from (hf4477 100 (by decide)).trans (hf_lp4469 100 (by decide))] at h9; exact h9
          refine lv_icmp_lt (tgt := 15) hx hb dX0_read_57 (by decide) (fun c4490 => ?_) (fun c4490 => ?_)
          · skip
            have t4491 := cv_lt (a := (v4475 187).toInt) rfl (b := (v 100).toInt) rfl c4490
            exact ih_lp4469  (va_up v4475 186 z4479) F4476 _ _ _ (by have h9 : (va_up v4475 186 z4479) 188 = v4475 188 := rfl; (try rw [h9]); clear h9; have h9 : (va_up v4475 186 z4479) 187 = v4475 187 := rfl; (try rw [h9]); clear h9; have h9 : (va_up v4475 186 z4479) 186 = z4479 := rfl; (try rw [h9]); clear h9; omega) (by have h9 : (va_up v4475 186 z4479) 188 = v4475 188 := rfl; (try rw [h9]); clear h9; have h9 : (va_up v4475 186 z4479) 187 = v4475 187 := rfl; (try rw [h9]); clear h9; have h9 : (va_up v4475 186 z4479) 186 = z4479 := rfl; (try rw [h9]); clear h9; exact headX.of htx (by omega) (by omega) (by omega) (by omega)) (by have h9 : (va_up v4475 186 z4479) 186 = z4479 := rfl; rw [h9]; omega) (by have h9 : (va_up v4475 186 z4479) 186 = z4479 := rfl; rw [h9]; omega) (frU (by decide) (frC (by decide) hf4477 hf_lp4469)) hI hal hP hS (lv_sub hl [0] rfl)
          · skip
            have t4492 := cv_nlt (a := (v4475 187).toInt) rfl (b := (v 100).toInt) rfl c4490
            refine lv_aload_n hx hb dX0_read_60 rfl (lv_at hl 0 rfl) ?_
            refine va_get (D := (dC, dI)) (ci := 0) (v := .int (v4475 188)) (C := RX0) (T := TX0) (N := 9) hx hb hwd inA_X0 hown hK hP 9 rfl rfl 8 (by decide) (hwd _ wk_1096) (fun _ h9 => h9) rfl dX0_read_61 ?_
            have hP9 : va_P (dC, dI) classes (wX g c (va_up v4475 186 z4479) F4476 rc) H := hP
            exact W.iret (v := v4475 188) hx hb hr (fun t ht hW => ⟨⟨(v4475 188), ((va_up v4475 186 z4479), F4476, rc), rfl, ⟨hI, hal, rfl, (frU (by decide) (frC (by decide) hf4477 (frC (by decide) hf_lp4469 (frU (by decide) (frU (by decide) (frU (by decide) (fun _ _ => rfl))))))), (by show cread (v 100) (F 39) (v4475 188).toInt z4479.toInt ∧ ((v4475 188).toInt = -1 ∨ (0 ≤ (v4475 188).toInt ∧ (v4475 188).toInt ≤ 120)) ∧ (1 ≤ z4479.toInt ∧ z4479.toInt ≤ 30); exact ⟨cread.mk htx (by omega) (by omega) (fun q9 => by omega), by omega, by omega⟩)⟩, (by show va_P _ _ _ t.heap; rw [ht]; exact hP9)⟩, hS.F ht⟩) hS.2.2 dX0_read_64
  obtain ⟨n9, hn9⟩ : ∃ n : Nat, 30 - 0 ≤ (n : Int) := ⟨((30 - 0 : Int)).toNat, by omega⟩
  exact lp4469 n9  (va_up (va_up (va_up v 186 0) 187 0) 188 (-1)) F H _ ls (by have h9 : (va_up (va_up (va_up v 186 0) 187 0) 188 (-1)) 188 = (-1) := rfl; (try rw [h9]); clear h9; have : ((-1) : Int32).toInt = (-1) := (by decide); have h9 : (va_up (va_up (va_up v 186 0) 187 0) 188 (-1)) 187 = 0 := rfl; (try rw [h9]); clear h9; have : (0 : Int32).toInt = 0 := (by decide); have h9 : (va_up (va_up (va_up v 186 0) 187 0) 188 (-1)) 186 = 0 := rfl; (try rw [h9]); clear h9; have : (0 : Int32).toInt = 0 := (by decide); have z9 : (0 : Int32).toInt = 0 := (by decide); have z8 : (-1 : Int32).toInt = -1 := (by decide); omega) (by have h9 : (va_up (va_up (va_up v 186 0) 187 0) 188 (-1)) 188 = (-1) := rfl; (try rw [h9]); clear h9; have : ((-1) : Int32).toInt = (-1) := (by decide); have h9 : (va_up (va_up (va_up v 186 0) 187 0) 188 (-1)) 187 = 0 := rfl; (try rw [h9]); clear h9; have : (0 : Int32).toInt = 0 := (by decide); have h9 : (va_up (va_up (va_up v 186 0) 187 0) 188 (-1)) 186 = 0 := rfl; (try rw [h9]); clear h9; have : (0 : Int32).toInt = 0 := (by decide); have z9 : (0 : Int32).toInt = 0 := (by decide); have z8 : (-1 : Int32).toInt = -1 := (by decide); exact headX.zero (by omega) (by omega)) (by have h9 : (va_up (va_up (va_up v 186 0) 187 0) 188 (-1)) 186 = 0 := rfl; rw [h9]; have : (0 : Int32).toInt = 0 := (by decide); omega) (by have h9 : (va_up (va_up (va_up v 186 0) 187 0) 188 (-1)) 186 = 0 := rfl; rw [h9]; have : (0 : Int32).toInt = 0 := (by decide); omega) (fun _ _ => rfl) hI hal hP hS hl
