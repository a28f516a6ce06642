set_option maxHeartbeats 4000000 in
set_option maxRecDepth 100000 in
theorem c_X2_add (l : Launch) (dC : Nat → ClassId) (dI : Nat → Nat → Nat) (h0 : Nat) (g : Nat → Nat) (cg1 : ClassId) (fg1 : Nat → Int32) (cg2 : ClassId) (fg2 : Nat → Int32) (cg3 : ClassId) (fg3 : Nat → Int32) (sz : Nat) (p0 : Int32) (p1 : Int32) (p2 : Int32) (p3 : Int32) : Met l yX2_add (Cond.code yX2_add cX2_add 5 (some .int) :: wA) ({ frames := 1, cells := 0, slots := 0, locals := 40 }) (va_Pc [.ref h0, .int p0, .int p1, .int p2, .int p3] (fun U => U.heap.size = sz ∧ va_P (dC, dI) classes [(h0, .inr (2, o2 g)), (g 1, .inl (cg1, 30, .inl fg1)), (g 2, .inl (cg2, 10, .inl fg2)), (g 3, .inl (cg3, 10, .inl fg3))] U.heap ∧ va_K (dC, dI) classes [(cg1, .int), (cg2, .int), (cg3, .int)] U ∧ va_D (fun _ => True) [(h0, .inr (2, o2 g)), (g 1, .inl (cg1, 30, .inl fg1)), (g 2, .inl (cg2, 10, .inl fg2)), (g 3, .inl (cg3, 10, .inl fg3))])) (va_Qi (fun (r : Int32) (_ : Unit) => r = 0) (fun (_ : Unit) (_ : State) => True) (va_A [(h0, .inr (2, o2 g)), (g 1, .inl (cg1, 30, .inl fg1)), (g 2, .inl (cg2, 10, .inl fg2)), (g 3, .inl (cg3, 10, .inl fg3))] sz)) 0 0 (va_A [(h0, .inr (2, o2 g)), (g 1, .inl (cg1, 30, .inl fg1)), (g 2, .inl (cg2, 10, .inl fg2)), (g 3, .inl (cg3, 10, .inl fg3))] sz) := by
  refine Met.ofW (cc := cX2_add) (maxL := 5) (ret := (some .int)) (by decide) rfl ?_
  intro p e s m args below meth c s₁ B hml hv
  obtain ⟨rfl, hsz, hP, hK, hD0⟩ := hv
  have hx := B.exec
  have hb := B.bytes
  have hr := B.returns
  have hts := atoms_spec (ws := Cond.code yX2_add cX2_add 5 (some .int) :: wA) B.pre
  have hwd : ∀ w ∈ wA, w.before _ s = true := fun w h => hts w (List.mem_cons_of_mem _ h)
  have hown : s.vm.findClass RX2 = some m.cls := findClass_of_methodNamed B.named
  have hlocks := B.notSynchronized
  subst hsz
  have hD := hD0.self (sz := s.heap.size)
  generalize hAe : va_A [(h0, .inr (2, o2 g)), (g 1, .inl (cg1, 30, .inl fg1)), (g 2, .inl (cg2, 10, .inl fg2)), (g 3, .inl (cg3, 10, .inl fg3))] s.heap.size = A at hD ⊢
  have hA : ∀ q : Nat, s.heap.size ≤ q → A q := fun q h => by rw [← hAe]; exact Or.inr h
  have hS : va_S A s.heap s.heap [] := va_S.rf
  have hP : va_P (dC, dI) classes [(h0, .inr (2, o2 g)), (g 1, .inl (cg1, 30, .inl fg1)), (g 2, .inl (cg2, 10, .inl fg2)), (g 3, .inl (cg3, 10, .inl fg3))] s.heap := hP
  have hl := lv_entry ([.ref h0, .int p0, .int p1, .int p2, .int p3]) (n := 5) (Nat.le_of_ble_eq_true rfl)
  rw [lg_entry_eq]
  generalize (lg_sl ([.ref h0, .int p0, .int p1, .int p2, .int p3]) ++ List.replicate (5 - (lg_sl ([.ref h0, .int p0, .int p1, .int p2, .int p3])).length) Slot.unset).toArray = ls at hl ⊢
  have hl : lv_has ls 5 [(0, .ref h0), (1, .int p0), (2, .int p1), (3, .int p2), (4, .int p3)] := hl
  obtain ⟨H, eH⟩ : ∃ z, z = s.heap := ⟨_, rfl⟩
  have hP : va_P (dC, dI) classes [(h0, .inr (2, o2 g)), (g 1, .inl (cg1, 30, .inl fg1)), (g 2, .inl (cg2, 10, .inl fg2)), (g 3, .inl (cg3, 10, .inl fg3))] H := by rw [eH]; exact hP
  have hS : va_S A s.heap H [] := by rw [eH]; exact va_S.rf
  refine my_heap eH ?_
  refine lv_aload_n hx hb dX2_add_0 rfl (lv_at hl 0 rfl) ?_
  refine va_get (D := (dC, dI)) (ci := 2) (v := .int 0) (C := RX2) (T := TX2) (N := 4) hx hb hwd inA_X2 hown hK hP 0 rfl rfl 0 (by decide) (hwd _ wk_9) (fun _ h9 => h9) rfl dX2_add_1 ?_
  refine lv_bipush (v := 10) hx hb dX2_add_4 (by decide) ?_
  refine lv_icmp_lt (tgt := 12) hx hb dX2_add_6 (by decide) (fun c_136 => ?_) (fun c_136 => ?_)
  · skip
    refine lv_aload_n hx hb dX2_add_12 rfl (lv_at hl 0 rfl) ?_
    refine va_get (D := (dC, dI)) (ci := 2) (v := .ref (g 1)) (C := RX2) (T := TX2) (N := 4) hx hb hwd inA_X2 hown hK hP 0 rfl rfl 1 (by decide) (hwd _ wk_61) (fun _ h9 => h9) rfl dX2_add_13 ?_
    refine lv_aload_n hx hb dX2_add_16 rfl (lv_at hl 0 rfl) ?_
    refine va_get (D := (dC, dI)) (ci := 2) (v := .int 0) (C := RX2) (T := TX2) (N := 4) hx hb hwd inA_X2 hown hK hP 0 rfl rfl 0 (by decide) (hwd _ wk_9) (fun _ h9 => h9) rfl dX2_add_17 ?_
    refine lv_iconst (v := 3) hx hb dX2_add_20 (by decide) ?_
    refine lv_imul hx hb dX2_add_21 ?_
    refine my_top (v := 0) (by decide) ?_
    refine lv_iconst (v := 0) hx hb dX2_add_22 (by decide) ?_
    refine lv_iadd hx hb dX2_add_23 ?_
    refine my_top (v := 0) (by decide) ?_
    refine lv_iload_n hx hb dX2_add_24 rfl (lv_at hl 1 rfl) ?_
    refine va_iast hx hb hK hP hD hS 1 0 rfl rfl (i := 0) (x := p0) (vpc (by decide)) dX2_add_25 (fun H locs hP hD hS => ?_)
    have hP : va_P (dC, dI) classes [(h0, .inr (2, o2 g)), (g 1, .inl (cg1, 30, .inl (upd fg1 (Int32.toNatClampNeg 0) p0))), (g 2, .inl (cg2, 10, .inl fg2)), (g 3, .inl (cg3, 10, .inl fg3))] H := hP
    have hD : va_D A [(h0, .inr (2, o2 g)), (g 1, .inl (cg1, 30, .inl (upd fg1 (Int32.toNatClampNeg 0) p0))), (g 2, .inl (cg2, 10, .inl fg2)), (g 3, .inl (cg3, 10, .inl fg3))] := hD
    refine lv_aload_n hx hb dX2_add_26 rfl (lv_at hl 0 rfl) ?_
    refine va_get (D := (dC, dI)) (ci := 2) (v := .ref (g 1)) (C := RX2) (T := TX2) (N := 4) hx hb hwd inA_X2 hown hK hP 0 rfl rfl 1 (by decide) (hwd _ wk_61) (fun _ h9 => h9) rfl dX2_add_27 ?_
    refine lv_aload_n hx hb dX2_add_30 rfl (lv_at hl 0 rfl) ?_
    refine va_get (D := (dC, dI)) (ci := 2) (v := .int 0) (C := RX2) (T := TX2) (N := 4) hx hb hwd inA_X2 hown hK hP 0 rfl rfl 0 (by decide) (hwd _ wk_9) (fun _ h9 => h9) rfl dX2_add_31 ?_
    refine lv_iconst (v := 3) hx hb dX2_add_34 (by decide) ?_
    refine lv_imul hx hb dX2_add_35 ?_
    refine my_top (v := 0) (by decide) ?_
    refine lv_iconst (v := 1) hx hb dX2_add_36 (by decide) ?_
    refine lv_iadd hx hb dX2_add_37 ?_
    refine my_top (v := 1) (by decide) ?_
    refine lv_iload_n hx hb dX2_add_38 rfl (lv_at hl 2 rfl) ?_
    refine va_iast hx hb hK hP hD hS 1 0 rfl rfl (i := 1) (x := p1) (vpc (by decide)) dX2_add_39 (fun H locs hP hD hS => ?_)
    have hP : va_P (dC, dI) classes [(h0, .inr (2, o2 g)), (g 1, .inl (cg1, 30, .inl (upd (upd fg1 (Int32.toNatClampNeg 0) p0) (Int32.toNatClampNeg 1) p1))), (g 2, .inl (cg2, 10, .inl fg2)), (g 3, .inl (cg3, 10, .inl fg3))] H := hP
    have hD : va_D A [(h0, .inr (2, o2 g)), (g 1, .inl (cg1, 30, .inl (upd (upd fg1 (Int32.toNatClampNeg 0) p0) (Int32.toNatClampNeg 1) p1))), (g 2, .inl (cg2, 10, .inl fg2)), (g 3, .inl (cg3, 10, .inl fg3))] := hD
    refine lv_aload_n hx hb dX2_add_40 rfl (lv_at hl 0 rfl) ?_
    refine va_get (D := (dC, dI)) (ci := 2) (v := .ref (g 1)) (C := RX2) (T := TX2) (N := 4) hx hb hwd inA_X2 hown hK hP 0 rfl rfl 1 (by decide) (hwd _ wk_61) (fun _ h9 => h9) rfl dX2_add_41 ?_
    refine lv_aload_n hx hb dX2_add_44 rfl (lv_at hl 0 rfl) ?_
    refine va_get (D := (dC, dI)) (ci := 2) (v := .int 0) (C := RX2) (T := TX2) (N := 4) hx hb hwd inA_X2 hown hK hP 0 rfl rfl 0 (by decide) (hwd _ wk_9) (fun _ h9 => h9) rfl dX2_add_45 ?_
    refine lv_iconst (v := 3) hx hb dX2_add_48 (by decide) ?_
    refine lv_imul hx hb dX2_add_49 ?_
    refine my_top (v := 0) (by decide) ?_
    refine lv_iconst (v := 2) hx hb dX2_add_50 (by decide) ?_
    refine lv_iadd hx hb dX2_add_51 ?_
    refine my_top (v := 2) (by decide) ?_
    refine lv_iload_n hx hb dX2_add_52 rfl (lv_at hl 3 rfl) ?_
    refine va_iast hx hb hK hP hD hS 1 0 rfl rfl (i := 2) (x := p2) (vpc (by decide)) dX2_add_53 (fun H locs hP hD hS => ?_)
    have hP : va_P (dC, dI) classes [(h0, .inr (2, o2 g)), (g 1, .inl (cg1, 30, .inl (upd (upd (upd fg1 (Int32.toNatClampNeg 0) p0) (Int32.toNatClampNeg 1) p1) (Int32.toNatClampNeg 2) p2))), (g 2, .inl (cg2, 10, .inl fg2)), (g 3, .inl (cg3, 10, .inl fg3))] H := hP
    have hD : va_D A [(h0, .inr (2, o2 g)), (g 1, .inl (cg1, 30, .inl (upd (upd (upd fg1 (Int32.toNatClampNeg 0) p0) (Int32.toNatClampNeg 1) p1) (Int32.toNatClampNeg 2) p2))), (g 2, .inl (cg2, 10, .inl fg2)), (g 3, .inl (cg3, 10, .inl fg3))] := hD
    refine lv_aload_n hx hb dX2_add_54 rfl (lv_at hl 0 rfl) ?_
    refine va_get (D := (dC, dI)) (ci := 2) (v := .ref (g 2)) (C := RX2) (T := TX2) (N := 4) hx hb hwd inA_X2 hown hK hP 0 rfl rfl 2 (by decide) (hwd _ wk_62) (fun _ h9 => h9) rfl dX2_add_55 ?_
    refine lv_aload_n hx hb dX2_add_58 rfl (lv_at hl 0 rfl) ?_
    refine va_get (D := (dC, dI)) (ci := 2) (v := .int 0) (C := RX2) (T := TX2) (N := 4) hx hb hwd inA_X2 hown hK hP 0 rfl rfl 0 (by decide) (hwd _ wk_9) (fun _ h9 => h9) rfl dX2_add_59 ?_
    refine lv_iload hx hb dX2_add_62 (lv_at hl 4 rfl) ?_
    refine lv_sipush (v := 1000) hx hb dX2_add_64 (by decide) ?_
    refine lv_idiv hx hb dX2_add_67 (by decide) ?_
    refine va_iast hx hb hK hP hD hS 2 1 rfl rfl (i := 0) (x := (p3 / 1000)) (vpc (by decide)) dX2_add_68 (fun H locs hP hD hS => ?_)
    have hP : va_P (dC, dI) classes [(h0, .inr (2, o2 g)), (g 1, .inl (cg1, 30, .inl (upd (upd (upd fg1 (Int32.toNatClampNeg 0) p0) (Int32.toNatClampNeg 1) p1) (Int32.toNatClampNeg 2) p2))), (g 2, .inl (cg2, 10, .inl (upd fg2 (Int32.toNatClampNeg 0) (p3 / 1000)))), (g 3, .inl (cg3, 10, .inl fg3))] H := hP
    have hD : va_D A [(h0, .inr (2, o2 g)), (g 1, .inl (cg1, 30, .inl (upd (upd (upd fg1 (Int32.toNatClampNeg 0) p0) (Int32.toNatClampNeg 1) p1) (Int32.toNatClampNeg 2) p2))), (g 2, .inl (cg2, 10, .inl (upd fg2 (Int32.toNatClampNeg 0) (p3 / 1000)))), (g 3, .inl (cg3, 10, .inl fg3))] := hD
    refine lv_aload_n hx hb dX2_add_69 rfl (lv_at hl 0 rfl) ?_
    refine va_get (D := (dC, dI)) (ci := 2) (v := .ref (g 3)) (C := RX2) (T := TX2) (N := 4) hx hb hwd inA_X2 hown hK hP 0 rfl rfl 3 (by decide) (hwd _ wk_63) (fun _ h9 => h9) rfl dX2_add_70 ?_
    refine lv_aload_n hx hb dX2_add_73 rfl (lv_at hl 0 rfl) ?_
    refine va_get (D := (dC, dI)) (ci := 2) (v := .int 0) (C := RX2) (T := TX2) (N := 4) hx hb hwd inA_X2 hown hK hP 0 rfl rfl 0 (by decide) (hwd _ wk_9) (fun _ h9 => h9) rfl dX2_add_74 ?_
    refine lv_iload hx hb dX2_add_77 (lv_at hl 4 rfl) ?_
    refine lv_sipush (v := 1000) hx hb dX2_add_79 (by decide) ?_
    refine lv_irem hx hb dX2_add_82 (by decide) ?_
    refine va_iast hx hb hK hP hD hS 3 2 rfl rfl (i := 0) (x := (p3 - p3 / 1000 * 1000)) (vpc (by decide)) dX2_add_83 (fun H locs hP hD hS => ?_)
    have hP : va_P (dC, dI) classes [(h0, .inr (2, o2 g)), (g 1, .inl (cg1, 30, .inl (upd (upd (upd fg1 (Int32.toNatClampNeg 0) p0) (Int32.toNatClampNeg 1) p1) (Int32.toNatClampNeg 2) p2))), (g 2, .inl (cg2, 10, .inl (upd fg2 (Int32.toNatClampNeg 0) (p3 / 1000)))), (g 3, .inl (cg3, 10, .inl (upd fg3 (Int32.toNatClampNeg 0) (p3 - p3 / 1000 * 1000))))] H := hP
    have hD : va_D A [(h0, .inr (2, o2 g)), (g 1, .inl (cg1, 30, .inl (upd (upd (upd fg1 (Int32.toNatClampNeg 0) p0) (Int32.toNatClampNeg 1) p1) (Int32.toNatClampNeg 2) p2))), (g 2, .inl (cg2, 10, .inl (upd fg2 (Int32.toNatClampNeg 0) (p3 / 1000)))), (g 3, .inl (cg3, 10, .inl (upd fg3 (Int32.toNatClampNeg 0) (p3 - p3 / 1000 * 1000))))] := hD
    refine lv_aload_n hx hb dX2_add_84 rfl (lv_at hl 0 rfl) ?_
    refine lv_dup hx hb dX2_add_85 rfl ?_
    refine va_get (D := (dC, dI)) (ci := 2) (v := .int 0) (C := RX2) (T := TX2) (N := 4) hx hb hwd inA_X2 hown hK hP 0 rfl rfl 0 (by decide) (hwd _ wk_9) (fun _ h9 => h9) rfl dX2_add_86 ?_
    refine lv_dup_x1 hx hb dX2_add_89 rfl rfl ?_
    refine lv_iconst (v := 1) hx hb dX2_add_90 (by decide) ?_
    refine lv_iadd hx hb dX2_add_91 ?_
    refine my_top (v := 1) (by decide) ?_
    refine va_put (D := (dC, dI)) (ci := 2) (v := .int 1) (ty := .int) (C := RX2) (T := TX2) (N := 4) hx hb hwd inA_X2 tyX2 tyX2_ok nmX2 hown hK hP hD hS 0 rfl rfl 0 (by decide) (hwd _ wk_9) (fun _ h9 => h9) rfl (by decide +kernel) rfl rfl (Nat.le_of_ble_eq_true rfl) dX2_add_92 (fun H locs hP hD hS => ?_)
    have hP : va_P (dC, dI) classes [(h0, .inr (2, (o2 g).set 0 (.int 1))), (g 1, .inl (cg1, 30, .inl (upd (upd (upd fg1 (Int32.toNatClampNeg 0) p0) (Int32.toNatClampNeg 1) p1) (Int32.toNatClampNeg 2) p2))), (g 2, .inl (cg2, 10, .inl (upd fg2 (Int32.toNatClampNeg 0) (p3 / 1000)))), (g 3, .inl (cg3, 10, .inl (upd fg3 (Int32.toNatClampNeg 0) (p3 - p3 / 1000 * 1000))))] H := hP
    have hD : va_D A [(h0, .inr (2, (o2 g).set 0 (.int 1))), (g 1, .inl (cg1, 30, .inl (upd (upd (upd fg1 (Int32.toNatClampNeg 0) p0) (Int32.toNatClampNeg 1) p1) (Int32.toNatClampNeg 2) p2))), (g 2, .inl (cg2, 10, .inl (upd fg2 (Int32.toNatClampNeg 0) (p3 / 1000)))), (g 3, .inl (cg3, 10, .inl (upd fg3 (Int32.toNatClampNeg 0) (p3 - p3 / 1000 * 1000))))] := hD
    exact W.iret (v := 0) hx hb hr (fun t ht hW => ⟨⟨0, (), rfl, rfl, trivial⟩, hS.F ht⟩) hS.2.2 dX2_add_95
  · exact absurd c_136 (by decide)
set_option maxHeartbeats 4000000 in
set_option maxRecDepth 100000 in
theorem c_X11_kind (l : Launch) (dC : Nat → ClassId) (dI : Nat → Nat → Nat) (h0 : Nat) (g : Nat → Nat) (gk : Nat → Nat) (cgk1 : ClassId) (fgk1 : Nat → Int32) (cgk2 : ClassId) (fgk2 : Nat → Int32) (cgk3 : ClassId) (fgk3 : Nat → Int32) (sz : Nat) (p0 : Int32) (p1 : Int32) (p2 : Int32) (p3 : Int32) : Met l yX11_kind (Cond.code yX11_kind cX11_kind 5 (some .int) :: wA) ({ frames := 3, cells := 0, slots := 0, locals := 120 }) (va_Pc [.ref h0, .int p0, .int p1, .int p2, .int p3] (fun U => U.heap.size = sz ∧ va_P (dC, dI) classes [(h0, .inr (11, o11 g)), (g 0, .inr (2, o2 gk)), (gk 1, .inl (cgk1, 30, .inl fgk1)), (gk 2, .inl (cgk2, 10, .inl fgk2)), (gk 3, .inl (cgk3, 10, .inl fgk3))] U.heap ∧ va_K (dC, dI) classes [(cgk1, .int), (cgk2, .int), (cgk3, .int)] U ∧ va_D (fun _ => True) [(h0, .inr (11, o11 g)), (g 0, .inr (2, o2 gk)), (gk 1, .inl (cgk1, 30, .inl fgk1)), (gk 2, .inl (cgk2, 10, .inl fgk2)), (gk 3, .inl (cgk3, 10, .inl fgk3))])) (va_Qi (fun (r : Int32) (_ : Unit) => r = f_kind p0 p1 p2 p3) (fun (_ : Unit) (_ : State) => True) (va_A [(h0, .inr (11, o11 g)), (g 0, .inr (2, o2 gk)), (gk 1, .inl (cgk1, 30, .inl fgk1)), (gk 2, .inl (cgk2, 10, .inl fgk2)), (gk 3, .inl (cgk3, 10, .inl fgk3))] sz)) 0 0 (va_A [(h0, .inr (11, o11 g)), (g 0, .inr (2, o2 gk)), (gk 1, .inl (cgk1, 30, .inl fgk1)), (gk 2, .inl (cgk2, 10, .inl fgk2)), (gk 3, .inl (cgk3, 10, .inl fgk3))] sz) := by
  refine Met.ofW (cc := cX11_kind) (maxL := 5) (ret := (some .int)) (by decide) rfl ?_
  intro p e s m args below meth c s₁ B hml hv
  obtain ⟨rfl, hsz, hP, hK, hD0⟩ := hv
  have hx := B.exec
  have hb := B.bytes
  have hr := B.returns
  have hts := atoms_spec (ws := Cond.code yX11_kind cX11_kind 5 (some .int) :: wA) B.pre
  have hwd : ∀ w ∈ wA, w.before _ s = true := fun w h => hts w (List.mem_cons_of_mem _ h)
  have hown : s.vm.findClass RX11 = some m.cls := findClass_of_methodNamed B.named
  have hlocks := B.notSynchronized
  subst hsz
  have hD := hD0.self (sz := s.heap.size)
  generalize hAe : va_A [(h0, .inr (11, o11 g)), (g 0, .inr (2, o2 gk)), (gk 1, .inl (cgk1, 30, .inl fgk1)), (gk 2, .inl (cgk2, 10, .inl fgk2)), (gk 3, .inl (cgk3, 10, .inl fgk3))] s.heap.size = A at hD ⊢
  have hA : ∀ q : Nat, s.heap.size ≤ q → A q := fun q h => by rw [← hAe]; exact Or.inr h
  have hS : va_S A s.heap s.heap [] := va_S.rf
  have hP : va_P (dC, dI) classes [(h0, .inr (11, o11 g)), (g 0, .inr (2, o2 gk)), (gk 1, .inl (cgk1, 30, .inl fgk1)), (gk 2, .inl (cgk2, 10, .inl fgk2)), (gk 3, .inl (cgk3, 10, .inl fgk3))] s.heap := hP
  have hl := lv_entry ([.ref h0, .int p0, .int p1, .int p2, .int p3]) (n := 5) (Nat.le_of_ble_eq_true rfl)
  rw [lg_entry_eq]
  generalize (lg_sl ([.ref h0, .int p0, .int p1, .int p2, .int p3]) ++ List.replicate (5 - (lg_sl ([.ref h0, .int p0, .int p1, .int p2, .int p3])).length) Slot.unset).toArray = ls at hl ⊢
  have hl : lv_has ls 5 [(0, .ref h0), (1, .int p0), (2, .int p1), (3, .int p2), (4, .int p3)] := hl
  obtain ⟨H, eH⟩ : ∃ z, z = s.heap := ⟨_, rfl⟩
  have hP : va_P (dC, dI) classes [(h0, .inr (11, o11 g)), (g 0, .inr (2, o2 gk)), (gk 1, .inl (cgk1, 30, .inl fgk1)), (gk 2, .inl (cgk2, 10, .inl fgk2)), (gk 3, .inl (cgk3, 10, .inl fgk3))] H := by rw [eH]; exact hP
  have hS : va_S A s.heap H [] := by rw [eH]; exact va_S.rf
  refine my_heap eH ?_
  refine lv_iload_n hx hb dX11_kind_0 rfl (lv_at hl 1 rfl) ?_
  have hPc := hP.sub (ws' := []) [] rfl
  have hDc := hD.sub (ws' := []) [] (by decide) rfl
  have hKc := hK.sub (tys' := []) [] rfl
  have hFc := va_free (wc := []) hD hS hA [] rfl
  refine va_calli (va_runS (As := [.int p0]) (rest := []) ⟨hx, hb, hml, hown, hwd⟩ (c_X11_isTold l dC dI  H.size p0) (va_cwS 1 hwd (gT wk_64 wk_65 wk_66 wk_3) rfl rfl rfl (by decide +kernel) ⟨Nat.le_of_ble_eq_true rfl, Nat.le_of_ble_eq_true rfl⟩) ⟨fun a U g mk q => by obtain ⟨q0, q1, qP, qK, qD⟩ := q; exact ⟨q0, q1, qP, va_K.moved (u := U) (U := U.calling g mk a) (Vm.Alike.refl U.vm) qK, qD⟩, fun U hU hW => ⟨rfl, by rw [hU], by rw [hU]; exact hPc, va_K.moved hW.alike hKc, hDc.weaken (fun _ _ _ _ => trivial)⟩⟩ rfl rfl hl.1 rfl (lv_room (Nat.le_of_ble_eq_true rfl)) dX11_kind_1 ⟨Nat.le_of_ble_eq_true rfl, Nat.le_of_ble_eq_true rfl⟩) hS (fun q _ h => hFc q h) hFc (fun r_137 u t H1 locs ht hvm hw hB hz1 hk1 hS => ?_)
  obtain ⟨hP1, hK1, hD1⟩ := hB
  rw [ht] at hP1
  obtain ⟨hP, hD⟩ := va_join (wr := [(h0, .inr (11, o11 g)), (g 0, .inr (2, o2 gk)), (gk 1, .inl (cgk1, 30, .inl fgk1)), (gk 2, .inl (cgk2, 10, .inl fgk2)), (gk 3, .inl (cgk3, 10, .inl fgk3))]) (w1 := []) hP hD [] [0, 1, 2, 3, 4] rfl rfl (by decide) (by decide) hk1 hFc hP1 hD1
  generalize H1 = H at hP hS ⊢
  have hP : va_P (dC, dI) classes [(h0, .inr (11, o11 g)), (g 0, .inr (2, o2 gk)), (gk 1, .inl (cgk1, 30, .inl fgk1)), (gk 2, .inl (cgk2, 10, .inl fgk2)), (gk 3, .inl (cgk3, 10, .inl fgk3))] H := hP
  have hD : va_D A [(h0, .inr (11, o11 g)), (g 0, .inr (2, o2 gk)), (gk 1, .inl (cgk1, 30, .inl fgk1)), (gk 2, .inl (cgk2, 10, .inl fgk2)), (gk 3, .inl (cgk3, 10, .inl fgk3))] := hD
  try dsimp only at hw
  subst hw
  refine lv_if_eq (tgt := 32) hx hb dX11_kind_4 (by decide) (fun c_138 => ?_) (fun c_138 => ?_)
  · skip
    refine lv_iconst (v := (-1)) hx hb dX11_kind_32 (by decide) ?_
    exact W.iret (v := (-1)) hx hb hr (fun t ht hW => ⟨⟨(-1), (), rfl, by unfold f_kind; rw [if_pos c_138], trivial⟩, hS.F ht⟩) hS.2.2 dX11_kind_33
  · skip
    refine lv_iload_n hx hb dX11_kind_7 rfl (lv_at hl 2 rfl) ?_
    have hPc := hP.sub (ws' := []) [] rfl
    have hDc := hD.sub (ws' := []) [] (by decide) rfl
    have hKc := hK.sub (tys' := []) [] rfl
    have hFc := va_free (wc := []) hD hS hA [] rfl
    refine va_calli (va_runS (As := [.int p1]) (rest := []) ⟨hx, hb, hml, hown, hwd⟩ (c_X11_isTold l dC dI  H.size p1) (va_cwS 1 hwd (gT wk_64 wk_65 wk_66 wk_3) rfl rfl rfl (by decide +kernel) ⟨Nat.le_of_ble_eq_true rfl, Nat.le_of_ble_eq_true rfl⟩) ⟨fun a U g mk q => by obtain ⟨q0, q1, qP, qK, qD⟩ := q; exact ⟨q0, q1, qP, va_K.moved (u := U) (U := U.calling g mk a) (Vm.Alike.refl U.vm) qK, qD⟩, fun U hU hW => ⟨rfl, by rw [hU], by rw [hU]; exact hPc, va_K.moved hW.alike hKc, hDc.weaken (fun _ _ _ _ => trivial)⟩⟩ rfl rfl hl.1 rfl (lv_room (Nat.le_of_ble_eq_true rfl)) dX11_kind_8 ⟨Nat.le_of_ble_eq_true rfl, Nat.le_of_ble_eq_true rfl⟩) hS (fun q _ h => hFc q h) hFc (fun r_139 u t H1 locs ht hvm hw hB hz1 hk1 hS => ?_)
    obtain ⟨hP1, hK1, hD1⟩ := hB
    rw [ht] at hP1
    obtain ⟨hP, hD⟩ := va_join (wr := [(h0, .inr (11, o11 g)), (g 0, .inr (2, o2 gk)), (gk 1, .inl (cgk1, 30, .inl fgk1)), (gk 2, .inl (cgk2, 10, .inl fgk2)), (gk 3, .inl (cgk3, 10, .inl fgk3))]) (w1 := []) hP hD [] [0, 1, 2, 3, 4] rfl rfl (by decide) (by decide) hk1 hFc hP1 hD1
    generalize H1 = H at hP hS ⊢
    have hP : va_P (dC, dI) classes [(h0, .inr (11, o11 g)), (g 0, .inr (2, o2 gk)), (gk 1, .inl (cgk1, 30, .inl fgk1)), (gk 2, .inl (cgk2, 10, .inl fgk2)), (gk 3, .inl (cgk3, 10, .inl fgk3))] H := hP
    have hD : va_D A [(h0, .inr (11, o11 g)), (g 0, .inr (2, o2 gk)), (gk 1, .inl (cgk1, 30, .inl fgk1)), (gk 2, .inl (cgk2, 10, .inl fgk2)), (gk 3, .inl (cgk3, 10, .inl fgk3))] := hD
    try dsimp only at hw
    subst hw
    refine lv_if_eq (tgt := 32) hx hb dX11_kind_11 (by decide) (fun c_140 => ?_) (fun c_140 => ?_)
    · skip
      refine lv_iconst (v := (-1)) hx hb dX11_kind_32 (by decide) ?_
      exact W.iret (v := (-1)) hx hb hr (fun t ht hW => ⟨⟨(-1), (), rfl, by unfold f_kind; rw [if_neg c_138, if_pos c_140], trivial⟩, hS.F ht⟩) hS.2.2 dX11_kind_33
    · skip
      refine lv_iload_n hx hb dX11_kind_14 rfl (lv_at hl 3 rfl) ?_
      have hPc := hP.sub (ws' := []) [] rfl
      have hDc := hD.sub (ws' := []) [] (by decide) rfl
      have hKc := hK.sub (tys' := []) [] rfl
      have hFc := va_free (wc := []) hD hS hA [] rfl
      refine va_calli (va_runS (As := [.int p2]) (rest := []) ⟨hx, hb, hml, hown, hwd⟩ (c_X11_isTold l dC dI  H.size p2) (va_cwS 1 hwd (gT wk_64 wk_65 wk_66 wk_3) rfl rfl rfl (by decide +kernel) ⟨Nat.le_of_ble_eq_true rfl, Nat.le_of_ble_eq_true rfl⟩) ⟨fun a U g mk q => by obtain ⟨q0, q1, qP, qK, qD⟩ := q; exact ⟨q0, q1, qP, va_K.moved (u := U) (U := U.calling g mk a) (Vm.Alike.refl U.vm) qK, qD⟩, fun U hU hW => ⟨rfl, by rw [hU], by rw [hU]; exact hPc, va_K.moved hW.alike hKc, hDc.weaken (fun _ _ _ _ => trivial)⟩⟩ rfl rfl hl.1 rfl (lv_room (Nat.le_of_ble_eq_true rfl)) dX11_kind_15 ⟨Nat.le_of_ble_eq_true rfl, Nat.le_of_ble_eq_true rfl⟩) hS (fun q _ h => hFc q h) hFc (fun r_141 u t H1 locs ht hvm hw hB hz1 hk1 hS => ?_)
      obtain ⟨hP1, hK1, hD1⟩ := hB
      rw [ht] at hP1
      obtain ⟨hP, hD⟩ := va_join (wr := [(h0, .inr (11, o11 g)), (g 0, .inr (2, o2 gk)), (gk 1, .inl (cgk1, 30, .inl fgk1)), (gk 2, .inl (cgk2, 10, .inl fgk2)), (gk 3, .inl (cgk3, 10, .inl fgk3))]) (w1 := []) hP hD [] [0, 1, 2, 3, 4] rfl rfl (by decide) (by decide) hk1 hFc hP1 hD1
      generalize H1 = H at hP hS ⊢
      have hP : va_P (dC, dI) classes [(h0, .inr (11, o11 g)), (g 0, .inr (2, o2 gk)), (gk 1, .inl (cgk1, 30, .inl fgk1)), (gk 2, .inl (cgk2, 10, .inl fgk2)), (gk 3, .inl (cgk3, 10, .inl fgk3))] H := hP
      have hD : va_D A [(h0, .inr (11, o11 g)), (g 0, .inr (2, o2 gk)), (gk 1, .inl (cgk1, 30, .inl fgk1)), (gk 2, .inl (cgk2, 10, .inl fgk2)), (gk 3, .inl (cgk3, 10, .inl fgk3))] := hD
      try dsimp only at hw
      subst hw
      refine lv_if_eq (tgt := 32) hx hb dX11_kind_18 (by decide) (fun c_142 => ?_) (fun c_142 => ?_)
      · skip
        refine lv_iconst (v := (-1)) hx hb dX11_kind_32 (by decide) ?_
        exact W.iret (v := (-1)) hx hb hr (fun t ht hW => ⟨⟨(-1), (), rfl, by unfold f_kind; rw [if_neg c_138, if_neg c_140, if_pos c_142], trivial⟩, hS.F ht⟩) hS.2.2 dX11_kind_33
      · skip
        refine lv_iload hx hb dX11_kind_21 (lv_at hl 4 rfl) ?_
        refine lv_iconst (v := 0) hx hb dX11_kind_23 (by decide) ?_
        refine lv_ldc (v := 999999) hx hb hown (hwd _ wk_67) dX11_kind_24 ?_
        have hPc := hP.sub (ws' := []) [] rfl
        have hDc := hD.sub (ws' := []) [] (by decide) rfl
        have hKc := hK.sub (tys' := []) [] rfl
        have hFc := va_free (wc := []) hD hS hA [] rfl
        refine va_calli (va_runS (As := [.int p3, .int 0, .int 999999]) (rest := []) ⟨hx, hb, hml, hown, hwd⟩ (c_X11_within l dC dI  H.size p3 0 999999) (va_cwS 3 hwd (gT wk_0 wk_1 wk_2 wk_3) rfl rfl rfl (by decide +kernel) ⟨Nat.le_of_ble_eq_true rfl, Nat.le_of_ble_eq_true rfl⟩) ⟨fun a U g mk q => by obtain ⟨q0, q1, qP, qK, qD⟩ := q; exact ⟨q0, q1, qP, va_K.moved (u := U) (U := U.calling g mk a) (Vm.Alike.refl U.vm) qK, qD⟩, fun U hU hW => ⟨rfl, by rw [hU], by rw [hU]; exact hPc, va_K.moved hW.alike hKc, hDc.weaken (fun _ _ _ _ => trivial)⟩⟩ rfl rfl hl.1 rfl (lv_room (Nat.le_of_ble_eq_true rfl)) dX11_kind_26 ⟨Nat.le_of_ble_eq_true rfl, Nat.le_of_ble_eq_true rfl⟩) hS (fun q _ h => hFc q h) hFc (fun r_143 u t H1 locs ht hvm hw hB hz1 hk1 hS => ?_)
        obtain ⟨hP1, hK1, hD1⟩ := hB
        rw [ht] at hP1
        obtain ⟨hP, hD⟩ := va_join (wr := [(h0, .inr (11, o11 g)), (g 0, .inr (2, o2 gk)), (gk 1, .inl (cgk1, 30, .inl fgk1)), (gk 2, .inl (cgk2, 10, .inl fgk2)), (gk 3, .inl (cgk3, 10, .inl fgk3))]) (w1 := []) hP hD [] [0, 1, 2, 3, 4] rfl rfl (by decide) (by decide) hk1 hFc hP1 hD1
        generalize H1 = H at hP hS ⊢
        have hP : va_P (dC, dI) classes [(h0, .inr (11, o11 g)), (g 0, .inr (2, o2 gk)), (gk 1, .inl (cgk1, 30, .inl fgk1)), (gk 2, .inl (cgk2, 10, .inl fgk2)), (gk 3, .inl (cgk3, 10, .inl fgk3))] H := hP
        have hD : va_D A [(h0, .inr (11, o11 g)), (g 0, .inr (2, o2 gk)), (gk 1, .inl (cgk1, 30, .inl fgk1)), (gk 2, .inl (cgk2, 10, .inl fgk2)), (gk 3, .inl (cgk3, 10, .inl fgk3))] := hD
        try dsimp only at hw
        subst hw
        refine lv_if_ne (tgt := 34) hx hb dX11_kind_29 (by decide) (fun c_144 => ?_) (fun c_144 => ?_)
        · skip
          refine lv_aload_n hx hb dX11_kind_34 rfl (lv_at hl 0 rfl) ?_
          refine va_get (D := (dC, dI)) (ci := 11) (v := .ref (g 0)) (C := RX11) (T := TX11) (N := 14) hx hb hwd inA_X11 hown hK hP 0 rfl rfl 0 (by decide) (hwd _ wk_29) (fun _ h9 => h9) rfl dX11_kind_35 ?_
          refine lv_iload_n hx hb dX11_kind_38 rfl (lv_at hl 1 rfl) ?_
          refine lv_iload_n hx hb dX11_kind_39 rfl (lv_at hl 2 rfl) ?_
          refine lv_iload_n hx hb dX11_kind_40 rfl (lv_at hl 3 rfl) ?_
          refine lv_iload hx hb dX11_kind_41 (lv_at hl 4 rfl) ?_
          have hPc := hP.sub (ws' := [(g 0, .inr (2, o2 gk)), (gk 1, .inl (cgk1, 30, .inl fgk1)), (gk 2, .inl (cgk2, 10, .inl fgk2)), (gk 3, .inl (cgk3, 10, .inl fgk3))]) [1, 2, 3, 4] rfl
          have hDc := hD.sub (ws' := [(g 0, .inr (2, o2 gk)), (gk 1, .inl (cgk1, 30, .inl fgk1)), (gk 2, .inl (cgk2, 10, .inl fgk2)), (gk 3, .inl (cgk3, 10, .inl fgk3))]) [1, 2, 3, 4] (by decide) rfl
          have hKc := hK.sub (tys' := [(cgk1, .int), (cgk2, .int), (cgk3, .int)]) [0, 1, 2] rfl
          have hFc := va_free (wc := [(g 0, .inr (2, o2 gk)), (gk 1, .inl (cgk1, 30, .inl fgk1)), (gk 2, .inl (cgk2, 10, .inl fgk2)), (gk 3, .inl (cgk3, 10, .inl fgk3))]) hD hS hA [1, 2, 3, 4] rfl
          refine va_calli (va_runV (As := [.int p0, .int p1, .int p2, .int p3]) (rest := []) ⟨hx, hb, hml, hown, hwd⟩ (c_X2_add l dC dI (g 0) gk cgk1 fgk1 cgk2 fgk2 cgk3 fgk3 H.size p0 p1 p2 p3) (cwV 4 hwd (gV wk_68 wk_69 wk_70 wk_71 wk_34) rfl rfl rfl (by decide +kernel) ⟨Nat.le_of_ble_eq_true rfl, Nat.le_of_ble_eq_true rfl⟩) ⟨fun a U g mk q => by obtain ⟨q0, q1, qP, qK, qD⟩ := q; exact ⟨q0, q1, qP, va_K.moved (u := U) (U := U.calling g mk a) (Vm.Alike.refl U.vm) qK, qD⟩, va_recv hKc hPc (ci := 2) (q0 := 0) rfl rfl, fun U hU hW => ⟨rfl, by rw [hU], by rw [hU]; exact hPc, va_K.moved hW.alike hKc, hDc.weaken (fun _ _ _ _ => trivial)⟩⟩ rfl rfl hl.1 rfl (lv_room (Nat.le_of_ble_eq_true rfl)) dX11_kind_43 ⟨Nat.le_of_ble_eq_true rfl, Nat.le_of_ble_eq_true rfl⟩) hS (fun q _ h => hFc q h) hFc (fun r_145 u t H1 locs ht hvm hw hB hz1 hk1 hS => ?_)
          have hP1 : va_P (dC, dI) classes [] H1 := fun k q h => by simp at h
          have hD1 : va_D (va_A [(g 0, .inr (2, o2 gk)), (gk 1, .inl (cgk1, 30, .inl fgk1)), (gk 2, .inl (cgk2, 10, .inl fgk2)), (gk 3, .inl (cgk3, 10, .inl fgk3))] H.size) [] := ⟨fun i j p q h => by simp at h, fun k q h => by simp at h⟩
          obtain ⟨hP, hD⟩ := va_join (wr := [(h0, .inr (11, o11 g))]) (w1 := []) hP hD [1, 2, 3, 4] [0] rfl rfl (by decide) (by decide) hk1 hFc hP1 hD1
          generalize H1 = H at hP hS ⊢
          have hP : va_P (dC, dI) classes [(h0, .inr (11, o11 g))] H := hP
          have hD : va_D A [(h0, .inr (11, o11 g))] := hD
          try dsimp only at hw
          subst hw
          exact W.iret (v := 0) hx hb hr (fun t ht hW => ⟨⟨0, (), rfl, by unfold f_kind; rw [if_neg c_138, if_neg c_140, if_neg c_142, if_neg c_144], trivial⟩, hS.F ht⟩) hS.2.2 dX11_kind_46
        · skip
          refine lv_iconst (v := (-1)) hx hb dX11_kind_32 (by decide) ?_
          exact W.iret (v := (-1)) hx hb hr (fun t ht hW => ⟨⟨(-1), (), rfl, by unfold f_kind; rw [if_neg c_138, if_neg c_140, if_neg c_142, if_pos c_144], trivial⟩, hS.F ht⟩) hS.2.2 dX11_kind_33
set_option maxHeartbeats 4000000 in
set_option maxRecDepth 100000 in
theorem c_X12_kind (l : Launch) (dC : Nat → ClassId) (dI : Nat → Nat → Nat) (h0 : Nat) (g : Nat → Nat) (c3 : ClassId) (f3 : Nat → Int32) (c4 : ClassId) (f4 : Nat → Int32) (c5 : ClassId) (f5 : Nat → Int32) (sz : Nat) (p0 : Int32) (p1 : Int32) (p2 : Int32) (p3 : Int32) : Met l yX12_kind (Cond.code yX12_kind cX12_kind 5 (some .int) :: wA) ({ frames := 2, cells := 0, slots := 0, locals := 80 }) (va_Pc [.ref h0, .int p0, .int p1, .int p2, .int p3] (fun U => U.heap.size = sz ∧ va_P (dC, dI) classes [(h0, .inr (12, oM g 0)), (g 3, .inl (c3, 30, .inl f3)), (g 4, .inl (c4, 10, .inl f4)), (g 5, .inl (c5, 10, .inl f5))] U.heap ∧ va_K (dC, dI) classes [(c3, .int), (c4, .int), (c5, .int)] U ∧ va_D (fun _ => True) [(h0, .inr (12, oM g 0)), (g 3, .inl (c3, 30, .inl f3)), (g 4, .inl (c4, 10, .inl f4)), (g 5, .inl (c5, 10, .inl f5))])) (va_Qi (fun (r : Int32) (_ : Unit) => r = f_kind p0 p1 p2 p3) (fun (_ : Unit) (_ : State) => True) (va_A [(h0, .inr (12, oM g 0)), (g 3, .inl (c3, 30, .inl f3)), (g 4, .inl (c4, 10, .inl f4)), (g 5, .inl (c5, 10, .inl f5))] sz)) 0 0 (va_A [(h0, .inr (12, oM g 0)), (g 3, .inl (c3, 30, .inl f3)), (g 4, .inl (c4, 10, .inl f4)), (g 5, .inl (c5, 10, .inl f5))] sz) := by
  refine Met.ofW (cc := cX12_kind) (maxL := 5) (ret := (some .int)) (by decide) rfl ?_
  intro p e s m args below meth c s₁ B hml hv
  obtain ⟨rfl, hsz, hP, hK, hD0⟩ := hv
  have hx := B.exec
  have hb := B.bytes
  have hr := B.returns
  have hts := atoms_spec (ws := Cond.code yX12_kind cX12_kind 5 (some .int) :: wA) B.pre
  have hwd : ∀ w ∈ wA, w.before _ s = true := fun w h => hts w (List.mem_cons_of_mem _ h)
  have hown : s.vm.findClass RX12 = some m.cls := findClass_of_methodNamed B.named
  have hlocks := B.notSynchronized
  subst hsz
  have hD := hD0.self (sz := s.heap.size)
  generalize hAe : va_A [(h0, .inr (12, oM g 0)), (g 3, .inl (c3, 30, .inl f3)), (g 4, .inl (c4, 10, .inl f4)), (g 5, .inl (c5, 10, .inl f5))] s.heap.size = A at hD ⊢
  have hA : ∀ q : Nat, s.heap.size ≤ q → A q := fun q h => by rw [← hAe]; exact Or.inr h
  have hS : va_S A s.heap s.heap [] := va_S.rf
  have hP : va_P (dC, dI) classes [(h0, .inr (12, oM g 0)), (g 3, .inl (c3, 30, .inl f3)), (g 4, .inl (c4, 10, .inl f4)), (g 5, .inl (c5, 10, .inl f5))] s.heap := hP
  have hl := lv_entry ([.ref h0, .int p0, .int p1, .int p2, .int p3]) (n := 5) (Nat.le_of_ble_eq_true rfl)
  rw [lg_entry_eq]
  generalize (lg_sl ([.ref h0, .int p0, .int p1, .int p2, .int p3]) ++ List.replicate (5 - (lg_sl ([.ref h0, .int p0, .int p1, .int p2, .int p3])).length) Slot.unset).toArray = ls at hl ⊢
  have hl : lv_has ls 5 [(0, .ref h0), (1, .int p0), (2, .int p1), (3, .int p2), (4, .int p3)] := hl
  obtain ⟨H, eH⟩ : ∃ z, z = s.heap := ⟨_, rfl⟩
  have hP : va_P (dC, dI) classes [(h0, .inr (12, oM g 0)), (g 3, .inl (c3, 30, .inl f3)), (g 4, .inl (c4, 10, .inl f4)), (g 5, .inl (c5, 10, .inl f5))] H := by rw [eH]; exact hP
  have hS : va_S A s.heap H [] := by rw [eH]; exact va_S.rf
  refine my_heap eH ?_
  refine lv_iload_n hx hb dX12_kind_0 rfl (lv_at hl 1 rfl) ?_
  refine lv_iconst (v := 0) hx hb dX12_kind_1 (by decide) ?_
  refine lv_ldc (v := 99999) hx hb hown (hwd _ wk_72) dX12_kind_2 ?_
  have hPc := hP.sub (ws' := []) [] rfl
  have hDc := hD.sub (ws' := []) [] (by decide) rfl
  have hKc := hK.sub (tys' := []) [] rfl
  have hFc := va_free (wc := []) hD hS hA [] rfl
  refine va_calli (va_runS (As := [.int p0, .int 0, .int 99999]) (rest := []) ⟨hx, hb, hml, hown, hwd⟩ (c_X12_in l dC dI  H.size p0 0 99999) (va_cwS 3 hwd (gT wk_5 wk_6 wk_7 wk_8) rfl rfl rfl (by decide +kernel) ⟨Nat.le_of_ble_eq_true rfl, Nat.le_of_ble_eq_true rfl⟩) ⟨fun a U g mk q => by obtain ⟨q0, q1, qP, qK, qD⟩ := q; exact ⟨q0, q1, qP, va_K.moved (u := U) (U := U.calling g mk a) (Vm.Alike.refl U.vm) qK, qD⟩, fun U hU hW => ⟨rfl, by rw [hU], by rw [hU]; exact hPc, va_K.moved hW.alike hKc, hDc.weaken (fun _ _ _ _ => trivial)⟩⟩ rfl rfl hl.1 rfl (lv_room (Nat.le_of_ble_eq_true rfl)) dX12_kind_4 ⟨Nat.le_of_ble_eq_true rfl, Nat.le_of_ble_eq_true rfl⟩) hS (fun q _ h => hFc q h) hFc (fun r_146 u t H1 locs ht hvm hw hB hz1 hk1 hS => ?_)
  obtain ⟨hP1, hK1, hD1⟩ := hB
  rw [ht] at hP1
  obtain ⟨hP, hD⟩ := va_join (wr := [(h0, .inr (12, oM g 0)), (g 3, .inl (c3, 30, .inl f3)), (g 4, .inl (c4, 10, .inl f4)), (g 5, .inl (c5, 10, .inl f5))]) (w1 := []) hP hD [] [0, 1, 2, 3] rfl rfl (by decide) (by decide) hk1 hFc hP1 hD1
  generalize H1 = H at hP hS ⊢
  have hP : va_P (dC, dI) classes [(h0, .inr (12, oM g 0)), (g 3, .inl (c3, 30, .inl f3)), (g 4, .inl (c4, 10, .inl f4)), (g 5, .inl (c5, 10, .inl f5))] H := hP
  have hD : va_D A [(h0, .inr (12, oM g 0)), (g 3, .inl (c3, 30, .inl f3)), (g 4, .inl (c4, 10, .inl f4)), (g 5, .inl (c5, 10, .inl f5))] := hD
  try dsimp only at hw
  subst hw
  refine lv_if_eq (tgt := 41) hx hb dX12_kind_7 (by decide) (fun c_147 => ?_) (fun c_147 => ?_)
  · skip
    refine lv_iconst (v := (-1)) hx hb dX12_kind_41 (by decide) ?_
    exact W.iret (v := (-1)) hx hb hr (fun t ht hW => ⟨⟨(-1), (), rfl, by unfold f_kind; rw [if_pos c_147], trivial⟩, hS.F ht⟩) hS.2.2 dX12_kind_42
  · skip
    refine lv_iload_n hx hb dX12_kind_10 rfl (lv_at hl 2 rfl) ?_
    refine lv_iconst (v := 0) hx hb dX12_kind_11 (by decide) ?_
    refine lv_ldc (v := 99999) hx hb hown (hwd _ wk_72) dX12_kind_12 ?_
    have hPc := hP.sub (ws' := []) [] rfl
    have hDc := hD.sub (ws' := []) [] (by decide) rfl
    have hKc := hK.sub (tys' := []) [] rfl
    have hFc := va_free (wc := []) hD hS hA [] rfl
    refine va_calli (va_runS (As := [.int p1, .int 0, .int 99999]) (rest := []) ⟨hx, hb, hml, hown, hwd⟩ (c_X12_in l dC dI  H.size p1 0 99999) (va_cwS 3 hwd (gT wk_5 wk_6 wk_7 wk_8) rfl rfl rfl (by decide +kernel) ⟨Nat.le_of_ble_eq_true rfl, Nat.le_of_ble_eq_true rfl⟩) ⟨fun a U g mk q => by obtain ⟨q0, q1, qP, qK, qD⟩ := q; exact ⟨q0, q1, qP, va_K.moved (u := U) (U := U.calling g mk a) (Vm.Alike.refl U.vm) qK, qD⟩, fun U hU hW => ⟨rfl, by rw [hU], by rw [hU]; exact hPc, va_K.moved hW.alike hKc, hDc.weaken (fun _ _ _ _ => trivial)⟩⟩ rfl rfl hl.1 rfl (lv_room (Nat.le_of_ble_eq_true rfl)) dX12_kind_14 ⟨Nat.le_of_ble_eq_true rfl, Nat.le_of_ble_eq_true rfl⟩) hS (fun q _ h => hFc q h) hFc (fun r_148 u t H1 locs ht hvm hw hB hz1 hk1 hS => ?_)
    obtain ⟨hP1, hK1, hD1⟩ := hB
    rw [ht] at hP1
    obtain ⟨hP, hD⟩ := va_join (wr := [(h0, .inr (12, oM g 0)), (g 3, .inl (c3, 30, .inl f3)), (g 4, .inl (c4, 10, .inl f4)), (g 5, .inl (c5, 10, .inl f5))]) (w1 := []) hP hD [] [0, 1, 2, 3] rfl rfl (by decide) (by decide) hk1 hFc hP1 hD1
    generalize H1 = H at hP hS ⊢
    have hP : va_P (dC, dI) classes [(h0, .inr (12, oM g 0)), (g 3, .inl (c3, 30, .inl f3)), (g 4, .inl (c4, 10, .inl f4)), (g 5, .inl (c5, 10, .inl f5))] H := hP
    have hD : va_D A [(h0, .inr (12, oM g 0)), (g 3, .inl (c3, 30, .inl f3)), (g 4, .inl (c4, 10, .inl f4)), (g 5, .inl (c5, 10, .inl f5))] := hD
    try dsimp only at hw
    subst hw
    refine lv_if_eq (tgt := 41) hx hb dX12_kind_17 (by decide) (fun c_149 => ?_) (fun c_149 => ?_)
    · skip
      refine lv_iconst (v := (-1)) hx hb dX12_kind_41 (by decide) ?_
      exact W.iret (v := (-1)) hx hb hr (fun t ht hW => ⟨⟨(-1), (), rfl, by unfold f_kind; rw [if_neg c_147, if_pos c_149], trivial⟩, hS.F ht⟩) hS.2.2 dX12_kind_42
    · skip
      refine lv_iload_n hx hb dX12_kind_20 rfl (lv_at hl 3 rfl) ?_
      refine lv_iconst (v := 0) hx hb dX12_kind_21 (by decide) ?_
      refine lv_ldc (v := 99999) hx hb hown (hwd _ wk_72) dX12_kind_22 ?_
      have hPc := hP.sub (ws' := []) [] rfl
      have hDc := hD.sub (ws' := []) [] (by decide) rfl
      have hKc := hK.sub (tys' := []) [] rfl
      have hFc := va_free (wc := []) hD hS hA [] rfl
      refine va_calli (va_runS (As := [.int p2, .int 0, .int 99999]) (rest := []) ⟨hx, hb, hml, hown, hwd⟩ (c_X12_in l dC dI  H.size p2 0 99999) (va_cwS 3 hwd (gT wk_5 wk_6 wk_7 wk_8) rfl rfl rfl (by decide +kernel) ⟨Nat.le_of_ble_eq_true rfl, Nat.le_of_ble_eq_true rfl⟩) ⟨fun a U g mk q => by obtain ⟨q0, q1, qP, qK, qD⟩ := q; exact ⟨q0, q1, qP, va_K.moved (u := U) (U := U.calling g mk a) (Vm.Alike.refl U.vm) qK, qD⟩, fun U hU hW => ⟨rfl, by rw [hU], by rw [hU]; exact hPc, va_K.moved hW.alike hKc, hDc.weaken (fun _ _ _ _ => trivial)⟩⟩ rfl rfl hl.1 rfl (lv_room (Nat.le_of_ble_eq_true rfl)) dX12_kind_24 ⟨Nat.le_of_ble_eq_true rfl, Nat.le_of_ble_eq_true rfl⟩) hS (fun q _ h => hFc q h) hFc (fun r_150 u t H1 locs ht hvm hw hB hz1 hk1 hS => ?_)
      obtain ⟨hP1, hK1, hD1⟩ := hB
      rw [ht] at hP1
      obtain ⟨hP, hD⟩ := va_join (wr := [(h0, .inr (12, oM g 0)), (g 3, .inl (c3, 30, .inl f3)), (g 4, .inl (c4, 10, .inl f4)), (g 5, .inl (c5, 10, .inl f5))]) (w1 := []) hP hD [] [0, 1, 2, 3] rfl rfl (by decide) (by decide) hk1 hFc hP1 hD1
      generalize H1 = H at hP hS ⊢
      have hP : va_P (dC, dI) classes [(h0, .inr (12, oM g 0)), (g 3, .inl (c3, 30, .inl f3)), (g 4, .inl (c4, 10, .inl f4)), (g 5, .inl (c5, 10, .inl f5))] H := hP
      have hD : va_D A [(h0, .inr (12, oM g 0)), (g 3, .inl (c3, 30, .inl f3)), (g 4, .inl (c4, 10, .inl f4)), (g 5, .inl (c5, 10, .inl f5))] := hD
      try dsimp only at hw
      subst hw
      refine lv_if_eq (tgt := 41) hx hb dX12_kind_27 (by decide) (fun c_151 => ?_) (fun c_151 => ?_)
      · skip
        refine lv_iconst (v := (-1)) hx hb dX12_kind_41 (by decide) ?_
        exact W.iret (v := (-1)) hx hb hr (fun t ht hW => ⟨⟨(-1), (), rfl, by unfold f_kind; rw [if_neg c_147, if_neg c_149, if_pos c_151], trivial⟩, hS.F ht⟩) hS.2.2 dX12_kind_42
      · skip
        refine lv_iload hx hb dX12_kind_30 (lv_at hl 4 rfl) ?_
        refine lv_iconst (v := 0) hx hb dX12_kind_32 (by decide) ?_
        refine lv_ldc (v := 999999) hx hb hown (hwd _ wk_73) dX12_kind_33 ?_
        have hPc := hP.sub (ws' := []) [] rfl
        have hDc := hD.sub (ws' := []) [] (by decide) rfl
        have hKc := hK.sub (tys' := []) [] rfl
        have hFc := va_free (wc := []) hD hS hA [] rfl
        refine va_calli (va_runS (As := [.int p3, .int 0, .int 999999]) (rest := []) ⟨hx, hb, hml, hown, hwd⟩ (c_X12_in l dC dI  H.size p3 0 999999) (va_cwS 3 hwd (gT wk_5 wk_6 wk_7 wk_8) rfl rfl rfl (by decide +kernel) ⟨Nat.le_of_ble_eq_true rfl, Nat.le_of_ble_eq_true rfl⟩) ⟨fun a U g mk q => by obtain ⟨q0, q1, qP, qK, qD⟩ := q; exact ⟨q0, q1, qP, va_K.moved (u := U) (U := U.calling g mk a) (Vm.Alike.refl U.vm) qK, qD⟩, fun U hU hW => ⟨rfl, by rw [hU], by rw [hU]; exact hPc, va_K.moved hW.alike hKc, hDc.weaken (fun _ _ _ _ => trivial)⟩⟩ rfl rfl hl.1 rfl (lv_room (Nat.le_of_ble_eq_true rfl)) dX12_kind_35 ⟨Nat.le_of_ble_eq_true rfl, Nat.le_of_ble_eq_true rfl⟩) hS (fun q _ h => hFc q h) hFc (fun r_152 u t H1 locs ht hvm hw hB hz1 hk1 hS => ?_)
        obtain ⟨hP1, hK1, hD1⟩ := hB
        rw [ht] at hP1
        obtain ⟨hP, hD⟩ := va_join (wr := [(h0, .inr (12, oM g 0)), (g 3, .inl (c3, 30, .inl f3)), (g 4, .inl (c4, 10, .inl f4)), (g 5, .inl (c5, 10, .inl f5))]) (w1 := []) hP hD [] [0, 1, 2, 3] rfl rfl (by decide) (by decide) hk1 hFc hP1 hD1
        generalize H1 = H at hP hS ⊢
        have hP : va_P (dC, dI) classes [(h0, .inr (12, oM g 0)), (g 3, .inl (c3, 30, .inl f3)), (g 4, .inl (c4, 10, .inl f4)), (g 5, .inl (c5, 10, .inl f5))] H := hP
        have hD : va_D A [(h0, .inr (12, oM g 0)), (g 3, .inl (c3, 30, .inl f3)), (g 4, .inl (c4, 10, .inl f4)), (g 5, .inl (c5, 10, .inl f5))] := hD
        try dsimp only at hw
        subst hw
        refine lv_if_ne (tgt := 43) hx hb dX12_kind_38 (by decide) (fun c_153 => ?_) (fun c_153 => ?_)
        · skip
          refine lv_aload_n hx hb dX12_kind_43 rfl (lv_at hl 0 rfl) ?_
          refine va_get (D := (dC, dI)) (ci := 12) (v := .int 0) (C := RX12) (T := TX12) (N := 63) hx hb hwd inA_X12 hown hK hP 0 rfl rfl 2 (by decide) (hwd _ wk_13) (fun _ h9 => h9) rfl dX12_kind_44 ?_
          refine lv_bipush (v := 10) hx hb dX12_kind_47 (by decide) ?_
          refine lv_icmp_ne (tgt := 55) hx hb dX12_kind_49 (by decide) (fun c_154 => ?_) (fun c_154 => ?_)
          · skip
            refine lv_aload_n hx hb dX12_kind_55 rfl (lv_at hl 0 rfl) ?_
            refine va_get (D := (dC, dI)) (ci := 12) (v := .ref (g 3)) (C := RX12) (T := TX12) (N := 63) hx hb hwd inA_X12 hown hK hP 0 rfl rfl 3 (by decide) (hwd _ wk_74) (fun _ h9 => h9) rfl dX12_kind_56 ?_
            refine lv_iconst (v := 3) hx hb dX12_kind_59 (by decide) ?_
            refine lv_aload_n hx hb dX12_kind_60 rfl (lv_at hl 0 rfl) ?_
            refine va_get (D := (dC, dI)) (ci := 12) (v := .int 0) (C := RX12) (T := TX12) (N := 63) hx hb hwd inA_X12 hown hK hP 0 rfl rfl 2 (by decide) (hwd _ wk_13) (fun _ h9 => h9) rfl dX12_kind_61 ?_
            refine lv_imul hx hb dX12_kind_64 ?_
            refine my_top (v := 0) (by decide) ?_
            refine lv_iload_n hx hb dX12_kind_65 rfl (lv_at hl 1 rfl) ?_
            refine va_iast hx hb hK hP hD hS 1 0 rfl rfl (i := 0) (x := p0) (vpc (by decide)) dX12_kind_66 (fun H locs hP hD hS => ?_)
            have hP : va_P (dC, dI) classes [(h0, .inr (12, oM g 0)), (g 3, .inl (c3, 30, .inl (upd f3 (Int32.toNatClampNeg 0) p0))), (g 4, .inl (c4, 10, .inl f4)), (g 5, .inl (c5, 10, .inl f5))] H := hP
            have hD : va_D A [(h0, .inr (12, oM g 0)), (g 3, .inl (c3, 30, .inl (upd f3 (Int32.toNatClampNeg 0) p0))), (g 4, .inl (c4, 10, .inl f4)), (g 5, .inl (c5, 10, .inl f5))] := hD
            refine lv_aload_n hx hb dX12_kind_67 rfl (lv_at hl 0 rfl) ?_
            refine va_get (D := (dC, dI)) (ci := 12) (v := .ref (g 3)) (C := RX12) (T := TX12) (N := 63) hx hb hwd inA_X12 hown hK hP 0 rfl rfl 3 (by decide) (hwd _ wk_74) (fun _ h9 => h9) rfl dX12_kind_68 ?_
            refine lv_iconst (v := 3) hx hb dX12_kind_71 (by decide) ?_
            refine lv_aload_n hx hb dX12_kind_72 rfl (lv_at hl 0 rfl) ?_
            refine va_get (D := (dC, dI)) (ci := 12) (v := .int 0) (C := RX12) (T := TX12) (N := 63) hx hb hwd inA_X12 hown hK hP 0 rfl rfl 2 (by decide) (hwd _ wk_13) (fun _ h9 => h9) rfl dX12_kind_73 ?_
            refine lv_imul hx hb dX12_kind_76 ?_
            refine my_top (v := 0) (by decide) ?_
            refine lv_iconst (v := 1) hx hb dX12_kind_77 (by decide) ?_
            refine lv_iadd hx hb dX12_kind_78 ?_
            refine my_top (v := 1) (by decide) ?_
            refine lv_iload_n hx hb dX12_kind_79 rfl (lv_at hl 2 rfl) ?_
            refine va_iast hx hb hK hP hD hS 1 0 rfl rfl (i := 1) (x := p1) (vpc (by decide)) dX12_kind_80 (fun H locs hP hD hS => ?_)
            have hP : va_P (dC, dI) classes [(h0, .inr (12, oM g 0)), (g 3, .inl (c3, 30, .inl (upd (upd f3 (Int32.toNatClampNeg 0) p0) (Int32.toNatClampNeg 1) p1))), (g 4, .inl (c4, 10, .inl f4)), (g 5, .inl (c5, 10, .inl f5))] H := hP
            have hD : va_D A [(h0, .inr (12, oM g 0)), (g 3, .inl (c3, 30, .inl (upd (upd f3 (Int32.toNatClampNeg 0) p0) (Int32.toNatClampNeg 1) p1))), (g 4, .inl (c4, 10, .inl f4)), (g 5, .inl (c5, 10, .inl f5))] := hD
            refine lv_aload_n hx hb dX12_kind_81 rfl (lv_at hl 0 rfl) ?_
            refine va_get (D := (dC, dI)) (ci := 12) (v := .ref (g 3)) (C := RX12) (T := TX12) (N := 63) hx hb hwd inA_X12 hown hK hP 0 rfl rfl 3 (by decide) (hwd _ wk_74) (fun _ h9 => h9) rfl dX12_kind_82 ?_
            refine lv_iconst (v := 3) hx hb dX12_kind_85 (by decide) ?_
            refine lv_aload_n hx hb dX12_kind_86 rfl (lv_at hl 0 rfl) ?_
            refine va_get (D := (dC, dI)) (ci := 12) (v := .int 0) (C := RX12) (T := TX12) (N := 63) hx hb hwd inA_X12 hown hK hP 0 rfl rfl 2 (by decide) (hwd _ wk_13) (fun _ h9 => h9) rfl dX12_kind_87 ?_
            refine lv_imul hx hb dX12_kind_90 ?_
            refine my_top (v := 0) (by decide) ?_
            refine lv_iconst (v := 2) hx hb dX12_kind_91 (by decide) ?_
            refine lv_iadd hx hb dX12_kind_92 ?_
            refine my_top (v := 2) (by decide) ?_
            refine lv_iload_n hx hb dX12_kind_93 rfl (lv_at hl 3 rfl) ?_
            refine va_iast hx hb hK hP hD hS 1 0 rfl rfl (i := 2) (x := p2) (vpc (by decide)) dX12_kind_94 (fun H locs hP hD hS => ?_)
            have hP : va_P (dC, dI) classes [(h0, .inr (12, oM g 0)), (g 3, .inl (c3, 30, .inl (upd (upd (upd f3 (Int32.toNatClampNeg 0) p0) (Int32.toNatClampNeg 1) p1) (Int32.toNatClampNeg 2) p2))), (g 4, .inl (c4, 10, .inl f4)), (g 5, .inl (c5, 10, .inl f5))] H := hP
            have hD : va_D A [(h0, .inr (12, oM g 0)), (g 3, .inl (c3, 30, .inl (upd (upd (upd f3 (Int32.toNatClampNeg 0) p0) (Int32.toNatClampNeg 1) p1) (Int32.toNatClampNeg 2) p2))), (g 4, .inl (c4, 10, .inl f4)), (g 5, .inl (c5, 10, .inl f5))] := hD
            refine lv_aload_n hx hb dX12_kind_95 rfl (lv_at hl 0 rfl) ?_
            refine va_get (D := (dC, dI)) (ci := 12) (v := .ref (g 4)) (C := RX12) (T := TX12) (N := 63) hx hb hwd inA_X12 hown hK hP 0 rfl rfl 4 (by decide) (hwd _ wk_75) (fun _ h9 => h9) rfl dX12_kind_96 ?_
            refine lv_aload_n hx hb dX12_kind_99 rfl (lv_at hl 0 rfl) ?_
            refine va_get (D := (dC, dI)) (ci := 12) (v := .int 0) (C := RX12) (T := TX12) (N := 63) hx hb hwd inA_X12 hown hK hP 0 rfl rfl 2 (by decide) (hwd _ wk_13) (fun _ h9 => h9) rfl dX12_kind_100 ?_
            refine lv_iload hx hb dX12_kind_103 (lv_at hl 4 rfl) ?_
            refine lv_sipush (v := 1000) hx hb dX12_kind_105 (by decide) ?_
            refine lv_idiv hx hb dX12_kind_108 (by decide) ?_
            refine va_iast hx hb hK hP hD hS 2 1 rfl rfl (i := 0) (x := (p3 / 1000)) (vpc (by decide)) dX12_kind_109 (fun H locs hP hD hS => ?_)
            have hP : va_P (dC, dI) classes [(h0, .inr (12, oM g 0)), (g 3, .inl (c3, 30, .inl (upd (upd (upd f3 (Int32.toNatClampNeg 0) p0) (Int32.toNatClampNeg 1) p1) (Int32.toNatClampNeg 2) p2))), (g 4, .inl (c4, 10, .inl (upd f4 (Int32.toNatClampNeg 0) (p3 / 1000)))), (g 5, .inl (c5, 10, .inl f5))] H := hP
            have hD : va_D A [(h0, .inr (12, oM g 0)), (g 3, .inl (c3, 30, .inl (upd (upd (upd f3 (Int32.toNatClampNeg 0) p0) (Int32.toNatClampNeg 1) p1) (Int32.toNatClampNeg 2) p2))), (g 4, .inl (c4, 10, .inl (upd f4 (Int32.toNatClampNeg 0) (p3 / 1000)))), (g 5, .inl (c5, 10, .inl f5))] := hD
            refine lv_aload_n hx hb dX12_kind_110 rfl (lv_at hl 0 rfl) ?_
            refine va_get (D := (dC, dI)) (ci := 12) (v := .ref (g 5)) (C := RX12) (T := TX12) (N := 63) hx hb hwd inA_X12 hown hK hP 0 rfl rfl 5 (by decide) (hwd _ wk_76) (fun _ h9 => h9) rfl dX12_kind_111 ?_
            refine lv_aload_n hx hb dX12_kind_114 rfl (lv_at hl 0 rfl) ?_
            refine va_get (D := (dC, dI)) (ci := 12) (v := .int 0) (C := RX12) (T := TX12) (N := 63) hx hb hwd inA_X12 hown hK hP 0 rfl rfl 2 (by decide) (hwd _ wk_13) (fun _ h9 => h9) rfl dX12_kind_115 ?_
            refine lv_iload hx hb dX12_kind_118 (lv_at hl 4 rfl) ?_
            refine lv_sipush (v := 1000) hx hb dX12_kind_120 (by decide) ?_
            refine lv_irem hx hb dX12_kind_123 (by decide) ?_
            refine va_iast hx hb hK hP hD hS 3 2 rfl rfl (i := 0) (x := (p3 - p3 / 1000 * 1000)) (vpc (by decide)) dX12_kind_124 (fun H locs hP hD hS => ?_)
            have hP : va_P (dC, dI) classes [(h0, .inr (12, oM g 0)), (g 3, .inl (c3, 30, .inl (upd (upd (upd f3 (Int32.toNatClampNeg 0) p0) (Int32.toNatClampNeg 1) p1) (Int32.toNatClampNeg 2) p2))), (g 4, .inl (c4, 10, .inl (upd f4 (Int32.toNatClampNeg 0) (p3 / 1000)))), (g 5, .inl (c5, 10, .inl (upd f5 (Int32.toNatClampNeg 0) (p3 - p3 / 1000 * 1000))))] H := hP
            have hD : va_D A [(h0, .inr (12, oM g 0)), (g 3, .inl (c3, 30, .inl (upd (upd (upd f3 (Int32.toNatClampNeg 0) p0) (Int32.toNatClampNeg 1) p1) (Int32.toNatClampNeg 2) p2))), (g 4, .inl (c4, 10, .inl (upd f4 (Int32.toNatClampNeg 0) (p3 / 1000)))), (g 5, .inl (c5, 10, .inl (upd f5 (Int32.toNatClampNeg 0) (p3 - p3 / 1000 * 1000))))] := hD
            refine lv_aload_n hx hb dX12_kind_125 rfl (lv_at hl 0 rfl) ?_
            refine lv_dup hx hb dX12_kind_126 rfl ?_
            refine va_get (D := (dC, dI)) (ci := 12) (v := .int 0) (C := RX12) (T := TX12) (N := 63) hx hb hwd inA_X12 hown hK hP 0 rfl rfl 2 (by decide) (hwd _ wk_13) (fun _ h9 => h9) rfl dX12_kind_127 ?_
            refine lv_iconst (v := 1) hx hb dX12_kind_130 (by decide) ?_
            refine lv_iadd hx hb dX12_kind_131 ?_
            refine my_top (v := 1) (by decide) ?_
            refine va_put (D := (dC, dI)) (ci := 12) (v := .int 1) (ty := .int) (C := RX12) (T := TX12) (N := 63) hx hb hwd inA_X12 tyX12 tyX12_ok nmX12 hown hK hP hD hS 0 rfl rfl 2 (by decide) (hwd _ wk_13) (fun _ h9 => h9) rfl (by decide +kernel) rfl rfl (Nat.le_of_ble_eq_true rfl) dX12_kind_132 (fun H locs hP hD hS => ?_)
            have hP : va_P (dC, dI) classes [(h0, .inr (12, (oM g 0).set 2 (.int 1))), (g 3, .inl (c3, 30, .inl (upd (upd (upd f3 (Int32.toNatClampNeg 0) p0) (Int32.toNatClampNeg 1) p1) (Int32.toNatClampNeg 2) p2))), (g 4, .inl (c4, 10, .inl (upd f4 (Int32.toNatClampNeg 0) (p3 / 1000)))), (g 5, .inl (c5, 10, .inl (upd f5 (Int32.toNatClampNeg 0) (p3 - p3 / 1000 * 1000))))] H := hP
            have hD : va_D A [(h0, .inr (12, (oM g 0).set 2 (.int 1))), (g 3, .inl (c3, 30, .inl (upd (upd (upd f3 (Int32.toNatClampNeg 0) p0) (Int32.toNatClampNeg 1) p1) (Int32.toNatClampNeg 2) p2))), (g 4, .inl (c4, 10, .inl (upd f4 (Int32.toNatClampNeg 0) (p3 / 1000)))), (g 5, .inl (c5, 10, .inl (upd f5 (Int32.toNatClampNeg 0) (p3 - p3 / 1000 * 1000))))] := hD
            refine lv_aload_n hx hb dX12_kind_135 rfl (lv_at hl 0 rfl) ?_
            refine va_get (D := (dC, dI)) (ci := 12) (v := .int 1) (C := RX12) (T := TX12) (N := 63) hx hb hwd inA_X12 hown hK hP 0 rfl rfl 2 (by decide) (hwd _ wk_13) (fun _ h9 => h9) rfl dX12_kind_136 ?_
            refine lv_iconst (v := 1) hx hb dX12_kind_139 (by decide) ?_
            refine lv_isub hx hb dX12_kind_140 ?_
            refine my_top (v := 0) (by decide) ?_
            exact W.iret (v := 0) hx hb hr (fun t ht hW => ⟨⟨0, (), rfl, by unfold f_kind; rw [if_neg c_147, if_neg c_149, if_neg c_151, if_neg c_153], trivial⟩, hS.F ht⟩) hS.2.2 dX12_kind_141
          · exact absurd c_154 (by decide)
        · skip
          refine lv_iconst (v := (-1)) hx hb dX12_kind_41 (by decide) ?_
          exact W.iret (v := (-1)) hx hb hr (fun t ht hW => ⟨⟨(-1), (), rfl, by unfold f_kind; rw [if_neg c_147, if_neg c_149, if_neg c_151, if_pos c_153], trivial⟩, hS.F ht⟩) hS.2.2 dX12_kind_42
set_option maxHeartbeats 4000000 in
set_option maxRecDepth 100000 in
theorem c_X8_add (l : Launch) (dC : Nat → ClassId) (dI : Nat → Nat → Nat) (h0 : Nat) (g : Nat → Nat) (cg1 : ClassId) (fg1 : Nat → Int32) (cg4 : ClassId) (fg4 : Nat → Int32) (cg5 : ClassId) (fg5 : Nat → Int32) (sz : Nat) (p0 : Int32) : Met l yX8_add (Cond.code yX8_add cX8_add 2 (some .int) :: wA) ({ frames := 1, cells := 0, slots := 0, locals := 40 }) (va_Pc [.ref h0, .int p0] (fun U => U.heap.size = sz ∧ va_P (dC, dI) classes [(h0, .inr (8, o8 g)), (g 1, .inl (cg1, 10, .inl fg1)), (g 4, .inl (cg4, 10, .inl fg4)), (g 5, .inl (cg5, 10, .inl fg5))] U.heap ∧ va_K (dC, dI) classes [(cg1, .int), (cg4, .int), (cg5, .int)] U ∧ va_D (fun _ => True) [(h0, .inr (8, o8 g)), (g 1, .inl (cg1, 10, .inl fg1)), (g 4, .inl (cg4, 10, .inl fg4)), (g 5, .inl (cg5, 10, .inl fg5))])) (va_Qi (fun (r : Int32) (_ : Unit) => r = 0) (fun (_ : Unit) (_ : State) => True) (va_A [(h0, .inr (8, o8 g)), (g 1, .inl (cg1, 10, .inl fg1)), (g 4, .inl (cg4, 10, .inl fg4)), (g 5, .inl (cg5, 10, .inl fg5))] sz)) 0 0 (va_A [(h0, .inr (8, o8 g)), (g 1, .inl (cg1, 10, .inl fg1)), (g 4, .inl (cg4, 10, .inl fg4)), (g 5, .inl (cg5, 10, .inl fg5))] sz) := by
  refine Met.ofW (cc := cX8_add) (maxL := 2) (ret := (some .int)) (by decide) rfl ?_
  intro p e s m args below meth c s₁ B hml hv
  obtain ⟨rfl, hsz, hP, hK, hD0⟩ := hv
  have hx := B.exec
  have hb := B.bytes
  have hr := B.returns
  have hts := atoms_spec (ws := Cond.code yX8_add cX8_add 2 (some .int) :: wA) B.pre
  have hwd : ∀ w ∈ wA, w.before _ s = true := fun w h => hts w (List.mem_cons_of_mem _ h)
  have hown : s.vm.findClass RX8 = some m.cls := findClass_of_methodNamed B.named
  have hlocks := B.notSynchronized
  subst hsz
  have hD := hD0.self (sz := s.heap.size)
  generalize hAe : va_A [(h0, .inr (8, o8 g)), (g 1, .inl (cg1, 10, .inl fg1)), (g 4, .inl (cg4, 10, .inl fg4)), (g 5, .inl (cg5, 10, .inl fg5))] s.heap.size = A at hD ⊢
  have hA : ∀ q : Nat, s.heap.size ≤ q → A q := fun q h => by rw [← hAe]; exact Or.inr h
  have hS : va_S A s.heap s.heap [] := va_S.rf
  have hP : va_P (dC, dI) classes [(h0, .inr (8, o8 g)), (g 1, .inl (cg1, 10, .inl fg1)), (g 4, .inl (cg4, 10, .inl fg4)), (g 5, .inl (cg5, 10, .inl fg5))] s.heap := hP
  have hl := lv_entry ([.ref h0, .int p0]) (n := 2) (Nat.le_of_ble_eq_true rfl)
  rw [lg_entry_eq]
  generalize (lg_sl ([.ref h0, .int p0]) ++ List.replicate (2 - (lg_sl ([.ref h0, .int p0])).length) Slot.unset).toArray = ls at hl ⊢
  have hl : lv_has ls 2 [(0, .ref h0), (1, .int p0)] := hl
  obtain ⟨H, eH⟩ : ∃ z, z = s.heap := ⟨_, rfl⟩
  have hP : va_P (dC, dI) classes [(h0, .inr (8, o8 g)), (g 1, .inl (cg1, 10, .inl fg1)), (g 4, .inl (cg4, 10, .inl fg4)), (g 5, .inl (cg5, 10, .inl fg5))] H := by rw [eH]; exact hP
  have hS : va_S A s.heap H [] := by rw [eH]; exact va_S.rf
  refine my_heap eH ?_
  refine lv_aload_n hx hb dX8_add_0 rfl (lv_at hl 0 rfl) ?_
  refine va_get (D := (dC, dI)) (ci := 8) (v := .int 0) (C := RX8) (T := TX8) (N := 10) hx hb hwd inA_X8 hown hK hP 0 rfl rfl 0 (by decide) (hwd _ wk_12) (fun _ h9 => h9) rfl dX8_add_1 ?_
  refine lv_bipush (v := 10) hx hb dX8_add_4 (by decide) ?_
  refine lv_icmp_lt (tgt := 12) hx hb dX8_add_6 (by decide) (fun c_155 => ?_) (fun c_155 => ?_)
  · skip
    refine lv_aload_n hx hb dX8_add_12 rfl (lv_at hl 0 rfl) ?_
    refine va_get (D := (dC, dI)) (ci := 8) (v := .ref (g 1)) (C := RX8) (T := TX8) (N := 10) hx hb hwd inA_X8 hown hK hP 0 rfl rfl 1 (by decide) (hwd _ wk_77) (fun _ h9 => h9) rfl dX8_add_13 ?_
    refine lv_aload_n hx hb dX8_add_16 rfl (lv_at hl 0 rfl) ?_
    refine va_get (D := (dC, dI)) (ci := 8) (v := .int 0) (C := RX8) (T := TX8) (N := 10) hx hb hwd inA_X8 hown hK hP 0 rfl rfl 0 (by decide) (hwd _ wk_12) (fun _ h9 => h9) rfl dX8_add_17 ?_
    refine lv_iload_n hx hb dX8_add_20 rfl (lv_at hl 1 rfl) ?_
    refine va_iast hx hb hK hP hD hS 1 0 rfl rfl (i := 0) (x := p0) (vpc (by decide)) dX8_add_21 (fun H locs hP hD hS => ?_)
    have hP : va_P (dC, dI) classes [(h0, .inr (8, o8 g)), (g 1, .inl (cg1, 10, .inl (upd fg1 (Int32.toNatClampNeg 0) p0))), (g 4, .inl (cg4, 10, .inl fg4)), (g 5, .inl (cg5, 10, .inl fg5))] H := hP
    have hD : va_D A [(h0, .inr (8, o8 g)), (g 1, .inl (cg1, 10, .inl (upd fg1 (Int32.toNatClampNeg 0) p0))), (g 4, .inl (cg4, 10, .inl fg4)), (g 5, .inl (cg5, 10, .inl fg5))] := hD
    refine lv_aload_n hx hb dX8_add_22 rfl (lv_at hl 0 rfl) ?_
    refine va_get (D := (dC, dI)) (ci := 8) (v := .ref (g 4)) (C := RX8) (T := TX8) (N := 10) hx hb hwd inA_X8 hown hK hP 0 rfl rfl 4 (by decide) (hwd _ wk_78) (fun _ h9 => h9) rfl dX8_add_23 ?_
    refine lv_aload_n hx hb dX8_add_26 rfl (lv_at hl 0 rfl) ?_
    refine va_get (D := (dC, dI)) (ci := 8) (v := .int 0) (C := RX8) (T := TX8) (N := 10) hx hb hwd inA_X8 hown hK hP 0 rfl rfl 0 (by decide) (hwd _ wk_12) (fun _ h9 => h9) rfl dX8_add_27 ?_
    refine lv_iconst (v := (-1)) hx hb dX8_add_30 (by decide) ?_
    refine va_iast hx hb hK hP hD hS 2 1 rfl rfl (i := 0) (x := (-1)) (vpc (by decide)) dX8_add_31 (fun H locs hP hD hS => ?_)
    have hP : va_P (dC, dI) classes [(h0, .inr (8, o8 g)), (g 1, .inl (cg1, 10, .inl (upd fg1 (Int32.toNatClampNeg 0) p0))), (g 4, .inl (cg4, 10, .inl (upd fg4 (Int32.toNatClampNeg 0) (-1)))), (g 5, .inl (cg5, 10, .inl fg5))] H := hP
    have hD : va_D A [(h0, .inr (8, o8 g)), (g 1, .inl (cg1, 10, .inl (upd fg1 (Int32.toNatClampNeg 0) p0))), (g 4, .inl (cg4, 10, .inl (upd fg4 (Int32.toNatClampNeg 0) (-1)))), (g 5, .inl (cg5, 10, .inl fg5))] := hD
    refine lv_aload_n hx hb dX8_add_32 rfl (lv_at hl 0 rfl) ?_
    refine va_get (D := (dC, dI)) (ci := 8) (v := .ref (g 5)) (C := RX8) (T := TX8) (N := 10) hx hb hwd inA_X8 hown hK hP 0 rfl rfl 5 (by decide) (hwd _ wk_79) (fun _ h9 => h9) rfl dX8_add_33 ?_
    refine lv_aload_n hx hb dX8_add_36 rfl (lv_at hl 0 rfl) ?_
    refine va_get (D := (dC, dI)) (ci := 8) (v := .int 0) (C := RX8) (T := TX8) (N := 10) hx hb hwd inA_X8 hown hK hP 0 rfl rfl 0 (by decide) (hwd _ wk_12) (fun _ h9 => h9) rfl dX8_add_37 ?_
    refine lv_iconst (v := (-1)) hx hb dX8_add_40 (by decide) ?_
    refine va_iast hx hb hK hP hD hS 3 2 rfl rfl (i := 0) (x := (-1)) (vpc (by decide)) dX8_add_41 (fun H locs hP hD hS => ?_)
    have hP : va_P (dC, dI) classes [(h0, .inr (8, o8 g)), (g 1, .inl (cg1, 10, .inl (upd fg1 (Int32.toNatClampNeg 0) p0))), (g 4, .inl (cg4, 10, .inl (upd fg4 (Int32.toNatClampNeg 0) (-1)))), (g 5, .inl (cg5, 10, .inl (upd fg5 (Int32.toNatClampNeg 0) (-1))))] H := hP
    have hD : va_D A [(h0, .inr (8, o8 g)), (g 1, .inl (cg1, 10, .inl (upd fg1 (Int32.toNatClampNeg 0) p0))), (g 4, .inl (cg4, 10, .inl (upd fg4 (Int32.toNatClampNeg 0) (-1)))), (g 5, .inl (cg5, 10, .inl (upd fg5 (Int32.toNatClampNeg 0) (-1))))] := hD
    refine lv_aload_n hx hb dX8_add_42 rfl (lv_at hl 0 rfl) ?_
    refine lv_dup hx hb dX8_add_43 rfl ?_
    refine va_get (D := (dC, dI)) (ci := 8) (v := .int 0) (C := RX8) (T := TX8) (N := 10) hx hb hwd inA_X8 hown hK hP 0 rfl rfl 0 (by decide) (hwd _ wk_12) (fun _ h9 => h9) rfl dX8_add_44 ?_
    refine lv_dup_x1 hx hb dX8_add_47 rfl rfl ?_
    refine lv_iconst (v := 1) hx hb dX8_add_48 (by decide) ?_
    refine lv_iadd hx hb dX8_add_49 ?_
    refine my_top (v := 1) (by decide) ?_
    refine va_put (D := (dC, dI)) (ci := 8) (v := .int 1) (ty := .int) (C := RX8) (T := TX8) (N := 10) hx hb hwd inA_X8 tyX8 tyX8_ok nmX8 hown hK hP hD hS 0 rfl rfl 0 (by decide) (hwd _ wk_12) (fun _ h9 => h9) rfl (by decide +kernel) rfl rfl (Nat.le_of_ble_eq_true rfl) dX8_add_50 (fun H locs hP hD hS => ?_)
    have hP : va_P (dC, dI) classes [(h0, .inr (8, (o8 g).set 0 (.int 1))), (g 1, .inl (cg1, 10, .inl (upd fg1 (Int32.toNatClampNeg 0) p0))), (g 4, .inl (cg4, 10, .inl (upd fg4 (Int32.toNatClampNeg 0) (-1)))), (g 5, .inl (cg5, 10, .inl (upd fg5 (Int32.toNatClampNeg 0) (-1))))] H := hP
    have hD : va_D A [(h0, .inr (8, (o8 g).set 0 (.int 1))), (g 1, .inl (cg1, 10, .inl (upd fg1 (Int32.toNatClampNeg 0) p0))), (g 4, .inl (cg4, 10, .inl (upd fg4 (Int32.toNatClampNeg 0) (-1)))), (g 5, .inl (cg5, 10, .inl (upd fg5 (Int32.toNatClampNeg 0) (-1))))] := hD
    exact W.iret (v := 0) hx hb hr (fun t ht hW => ⟨⟨0, (), rfl, rfl, trivial⟩, hS.F ht⟩) hS.2.2 dX8_add_53
  · exact absurd c_155 (by decide)
set_option maxHeartbeats 4000000 in
set_option maxRecDepth 100000 in
theorem c_X11_plane (l : Launch) (dC : Nat → ClassId) (dI : Nat → Nat → Nat) (h0 : Nat) (g : Nat → Nat) (ga : Nat → Nat) (cga1 : ClassId) (fga1 : Nat → Int32) (cga4 : ClassId) (fga4 : Nat → Int32) (cga5 : ClassId) (fga5 : Nat → Int32) (sz : Nat) (p0 : Int32) : Met l yX11_plane (Cond.code yX11_plane cX11_plane 2 (some .int) :: wA) ({ frames := 2, cells := 0, slots := 0, locals := 80 }) (va_Pc [.ref h0, .int p0] (fun U => U.heap.size = sz ∧ va_P (dC, dI) classes [(h0, .inr (11, o11 g)), (g 1, .inr (8, o8 ga)), (ga 1, .inl (cga1, 10, .inl fga1)), (ga 4, .inl (cga4, 10, .inl fga4)), (ga 5, .inl (cga5, 10, .inl fga5))] U.heap ∧ va_K (dC, dI) classes [(cga1, .int), (cga4, .int), (cga5, .int)] U ∧ va_D (fun _ => True) [(h0, .inr (11, o11 g)), (g 1, .inr (8, o8 ga)), (ga 1, .inl (cga1, 10, .inl fga1)), (ga 4, .inl (cga4, 10, .inl fga4)), (ga 5, .inl (cga5, 10, .inl fga5))])) (va_Qi (fun (r : Int32) (_ : Unit) => r = f_plane p0) (fun (_ : Unit) (_ : State) => True) (va_A [(h0, .inr (11, o11 g)), (g 1, .inr (8, o8 ga)), (ga 1, .inl (cga1, 10, .inl fga1)), (ga 4, .inl (cga4, 10, .inl fga4)), (ga 5, .inl (cga5, 10, .inl fga5))] sz)) 0 0 (va_A [(h0, .inr (11, o11 g)), (g 1, .inr (8, o8 ga)), (ga 1, .inl (cga1, 10, .inl fga1)), (ga 4, .inl (cga4, 10, .inl fga4)), (ga 5, .inl (cga5, 10, .inl fga5))] sz) := by
  refine Met.ofW (cc := cX11_plane) (maxL := 2) (ret := (some .int)) (by decide) rfl ?_
  intro p e s m args below meth c s₁ B hml hv
  obtain ⟨rfl, hsz, hP, hK, hD0⟩ := hv
  have hx := B.exec
  have hb := B.bytes
  have hr := B.returns
  have hts := atoms_spec (ws := Cond.code yX11_plane cX11_plane 2 (some .int) :: wA) B.pre
  have hwd : ∀ w ∈ wA, w.before _ s = true := fun w h => hts w (List.mem_cons_of_mem _ h)
  have hown : s.vm.findClass RX11 = some m.cls := findClass_of_methodNamed B.named
  have hlocks := B.notSynchronized
  subst hsz
  have hD := hD0.self (sz := s.heap.size)
  generalize hAe : va_A [(h0, .inr (11, o11 g)), (g 1, .inr (8, o8 ga)), (ga 1, .inl (cga1, 10, .inl fga1)), (ga 4, .inl (cga4, 10, .inl fga4)), (ga 5, .inl (cga5, 10, .inl fga5))] s.heap.size = A at hD ⊢
  have hA : ∀ q : Nat, s.heap.size ≤ q → A q := fun q h => by rw [← hAe]; exact Or.inr h
  have hS : va_S A s.heap s.heap [] := va_S.rf
  have hP : va_P (dC, dI) classes [(h0, .inr (11, o11 g)), (g 1, .inr (8, o8 ga)), (ga 1, .inl (cga1, 10, .inl fga1)), (ga 4, .inl (cga4, 10, .inl fga4)), (ga 5, .inl (cga5, 10, .inl fga5))] s.heap := hP
  have hl := lv_entry ([.ref h0, .int p0]) (n := 2) (Nat.le_of_ble_eq_true rfl)
  rw [lg_entry_eq]
  generalize (lg_sl ([.ref h0, .int p0]) ++ List.replicate (2 - (lg_sl ([.ref h0, .int p0])).length) Slot.unset).toArray = ls at hl ⊢
  have hl : lv_has ls 2 [(0, .ref h0), (1, .int p0)] := hl
  obtain ⟨H, eH⟩ : ∃ z, z = s.heap := ⟨_, rfl⟩
  have hP : va_P (dC, dI) classes [(h0, .inr (11, o11 g)), (g 1, .inr (8, o8 ga)), (ga 1, .inl (cga1, 10, .inl fga1)), (ga 4, .inl (cga4, 10, .inl fga4)), (ga 5, .inl (cga5, 10, .inl fga5))] H := by rw [eH]; exact hP
  have hS : va_S A s.heap H [] := by rw [eH]; exact va_S.rf
  refine my_heap eH ?_
  refine lv_iload_n hx hb dX11_plane_0 rfl (lv_at hl 1 rfl) ?_
  refine lv_iconst (v := 0) hx hb dX11_plane_1 (by decide) ?_
  refine lv_ldc (v := 999999) hx hb hown (hwd _ wk_67) dX11_plane_2 ?_
  have hPc := hP.sub (ws' := []) [] rfl
  have hDc := hD.sub (ws' := []) [] (by decide) rfl
  have hKc := hK.sub (tys' := []) [] rfl
  have hFc := va_free (wc := []) hD hS hA [] rfl
  refine va_calli (va_runS (As := [.int p0, .int 0, .int 999999]) (rest := []) ⟨hx, hb, hml, hown, hwd⟩ (c_X11_within l dC dI  H.size p0 0 999999) (va_cwS 3 hwd (gT wk_0 wk_1 wk_2 wk_3) rfl rfl rfl (by decide +kernel) ⟨Nat.le_of_ble_eq_true rfl, Nat.le_of_ble_eq_true rfl⟩) ⟨fun a U g mk q => by obtain ⟨q0, q1, qP, qK, qD⟩ := q; exact ⟨q0, q1, qP, va_K.moved (u := U) (U := U.calling g mk a) (Vm.Alike.refl U.vm) qK, qD⟩, fun U hU hW => ⟨rfl, by rw [hU], by rw [hU]; exact hPc, va_K.moved hW.alike hKc, hDc.weaken (fun _ _ _ _ => trivial)⟩⟩ rfl rfl hl.1 rfl (lv_room (Nat.le_of_ble_eq_true rfl)) dX11_plane_4 ⟨Nat.le_of_ble_eq_true rfl, Nat.le_of_ble_eq_true rfl⟩) hS (fun q _ h => hFc q h) hFc (fun r_156 u t H1 locs ht hvm hw hB hz1 hk1 hS => ?_)
  obtain ⟨hP1, hK1, hD1⟩ := hB
  rw [ht] at hP1
  obtain ⟨hP, hD⟩ := va_join (wr := [(h0, .inr (11, o11 g)), (g 1, .inr (8, o8 ga)), (ga 1, .inl (cga1, 10, .inl fga1)), (ga 4, .inl (cga4, 10, .inl fga4)), (ga 5, .inl (cga5, 10, .inl fga5))]) (w1 := []) hP hD [] [0, 1, 2, 3, 4] rfl rfl (by decide) (by decide) hk1 hFc hP1 hD1
  generalize H1 = H at hP hS ⊢
  have hP : va_P (dC, dI) classes [(h0, .inr (11, o11 g)), (g 1, .inr (8, o8 ga)), (ga 1, .inl (cga1, 10, .inl fga1)), (ga 4, .inl (cga4, 10, .inl fga4)), (ga 5, .inl (cga5, 10, .inl fga5))] H := hP
  have hD : va_D A [(h0, .inr (11, o11 g)), (g 1, .inr (8, o8 ga)), (ga 1, .inl (cga1, 10, .inl fga1)), (ga 4, .inl (cga4, 10, .inl fga4)), (ga 5, .inl (cga5, 10, .inl fga5))] := hD
  try dsimp only at hw
  subst hw
  refine lv_if_ne (tgt := 12) hx hb dX11_plane_7 (by decide) (fun c_157 => ?_) (fun c_157 => ?_)
  · skip
    refine lv_aload_n hx hb dX11_plane_12 rfl (lv_at hl 0 rfl) ?_
    refine va_get (D := (dC, dI)) (ci := 11) (v := .ref (g 1)) (C := RX11) (T := TX11) (N := 14) hx hb hwd inA_X11 hown hK hP 0 rfl rfl 1 (by decide) (hwd _ wk_22) (fun _ h9 => h9) rfl dX11_plane_13 ?_
    refine lv_iload_n hx hb dX11_plane_16 rfl (lv_at hl 1 rfl) ?_
    have hPc := hP.sub (ws' := [(g 1, .inr (8, o8 ga)), (ga 1, .inl (cga1, 10, .inl fga1)), (ga 4, .inl (cga4, 10, .inl fga4)), (ga 5, .inl (cga5, 10, .inl fga5))]) [1, 2, 3, 4] rfl
    have hDc := hD.sub (ws' := [(g 1, .inr (8, o8 ga)), (ga 1, .inl (cga1, 10, .inl fga1)), (ga 4, .inl (cga4, 10, .inl fga4)), (ga 5, .inl (cga5, 10, .inl fga5))]) [1, 2, 3, 4] (by decide) rfl
    have hKc := hK.sub (tys' := [(cga1, .int), (cga4, .int), (cga5, .int)]) [0, 1, 2] rfl
    have hFc := va_free (wc := [(g 1, .inr (8, o8 ga)), (ga 1, .inl (cga1, 10, .inl fga1)), (ga 4, .inl (cga4, 10, .inl fga4)), (ga 5, .inl (cga5, 10, .inl fga5))]) hD hS hA [1, 2, 3, 4] rfl
    refine va_calli (va_runV (As := [.int p0]) (rest := []) ⟨hx, hb, hml, hown, hwd⟩ (c_X8_add l dC dI (g 1) ga cga1 fga1 cga4 fga4 cga5 fga5 H.size p0) (cwV 1 hwd (gV wk_80 wk_81 wk_82 wk_83 wk_27) rfl rfl rfl (by decide +kernel) ⟨Nat.le_of_ble_eq_true rfl, Nat.le_of_ble_eq_true rfl⟩) ⟨fun a U g mk q => by obtain ⟨q0, q1, qP, qK, qD⟩ := q; exact ⟨q0, q1, qP, va_K.moved (u := U) (U := U.calling g mk a) (Vm.Alike.refl U.vm) qK, qD⟩, va_recv hKc hPc (ci := 8) (q0 := 0) rfl rfl, fun U hU hW => ⟨rfl, by rw [hU], by rw [hU]; exact hPc, va_K.moved hW.alike hKc, hDc.weaken (fun _ _ _ _ => trivial)⟩⟩ rfl rfl hl.1 rfl (lv_room (Nat.le_of_ble_eq_true rfl)) dX11_plane_17 ⟨Nat.le_of_ble_eq_true rfl, Nat.le_of_ble_eq_true rfl⟩) hS (fun q _ h => hFc q h) hFc (fun r_158 u t H1 locs ht hvm hw hB hz1 hk1 hS => ?_)
    have hP1 : va_P (dC, dI) classes [] H1 := fun k q h => by simp at h
    have hD1 : va_D (va_A [(g 1, .inr (8, o8 ga)), (ga 1, .inl (cga1, 10, .inl fga1)), (ga 4, .inl (cga4, 10, .inl fga4)), (ga 5, .inl (cga5, 10, .inl fga5))] H.size) [] := ⟨fun i j p q h => by simp at h, fun k q h => by simp at h⟩
    obtain ⟨hP, hD⟩ := va_join (wr := [(h0, .inr (11, o11 g))]) (w1 := []) hP hD [1, 2, 3, 4] [0] rfl rfl (by decide) (by decide) hk1 hFc hP1 hD1
    generalize H1 = H at hP hS ⊢
    have hP : va_P (dC, dI) classes [(h0, .inr (11, o11 g))] H := hP
    have hD : va_D A [(h0, .inr (11, o11 g))] := hD
    try dsimp only at hw
    subst hw
    exact W.iret (v := 0) hx hb hr (fun t ht hW => ⟨⟨0, (), rfl, by unfold f_plane; rw [if_neg c_157], trivial⟩, hS.F ht⟩) hS.2.2 dX11_plane_20
  · skip
    refine lv_iconst (v := (-1)) hx hb dX11_plane_10 (by decide) ?_
    exact W.iret (v := (-1)) hx hb hr (fun t ht hW => ⟨⟨(-1), (), rfl, by unfold f_plane; rw [if_pos c_157], trivial⟩, hS.F ht⟩) hS.2.2 dX11_plane_11
set_option maxHeartbeats 4000000 in
set_option maxRecDepth 100000 in
theorem c_X12_plane (l : Launch) (dC : Nat → ClassId) (dI : Nat → Nat → Nat) (h0 : Nat) (g : Nat → Nat) (c7 : ClassId) (f7 : Nat → Int32) (c10 : ClassId) (f10 : Nat → Int32) (c11 : ClassId) (f11 : Nat → Int32) (c49 : ClassId) (f49 : Nat → Int32) (sz : Nat) (p0 : Int32) : Met l yX12_plane (Cond.code yX12_plane cX12_plane 2 (some .int) :: wA) ({ frames := 2, cells := 0, slots := 0, locals := 80 }) (va_Pc [.ref h0, .int p0] (fun U => U.heap.size = sz ∧ va_P (dC, dI) classes [(h0, .inr (12, oM g 0)), (g 7, .inl (c7, 10, .inl f7)), (g 10, .inl (c10, 10, .inl f10)), (g 11, .inl (c11, 10, .inl f11)), (g 49, .inl (c49, 10, .inl f49))] U.heap ∧ va_K (dC, dI) classes [(c7, .int), (c10, .int), (c11, .int), (c49, .int)] U ∧ va_D (fun _ => True) [(h0, .inr (12, oM g 0)), (g 7, .inl (c7, 10, .inl f7)), (g 10, .inl (c10, 10, .inl f10)), (g 11, .inl (c11, 10, .inl f11)), (g 49, .inl (c49, 10, .inl f49))])) (va_Qi (fun (r : Int32) (_ : Unit) => r = f_plane p0) (fun (_ : Unit) (_ : State) => True) (va_A [(h0, .inr (12, oM g 0)), (g 7, .inl (c7, 10, .inl f7)), (g 10, .inl (c10, 10, .inl f10)), (g 11, .inl (c11, 10, .inl f11)), (g 49, .inl (c49, 10, .inl f49))] sz)) 0 0 (va_A [(h0, .inr (12, oM g 0)), (g 7, .inl (c7, 10, .inl f7)), (g 10, .inl (c10, 10, .inl f10)), (g 11, .inl (c11, 10, .inl f11)), (g 49, .inl (c49, 10, .inl f49))] sz) := by
  refine Met.ofW (cc := cX12_plane) (maxL := 2) (ret := (some .int)) (by decide) rfl ?_
  intro p e s m args below meth c s₁ B hml hv
  obtain ⟨rfl, hsz, hP, hK, hD0⟩ := hv
  have hx := B.exec
  have hb := B.bytes
  have hr := B.returns
  have hts := atoms_spec (ws := Cond.code yX12_plane cX12_plane 2 (some .int) :: wA) B.pre
  have hwd : ∀ w ∈ wA, w.before _ s = true := fun w h => hts w (List.mem_cons_of_mem _ h)
  have hown : s.vm.findClass RX12 = some m.cls := findClass_of_methodNamed B.named
  have hlocks := B.notSynchronized
  subst hsz
  have hD := hD0.self (sz := s.heap.size)
  generalize hAe : va_A [(h0, .inr (12, oM g 0)), (g 7, .inl (c7, 10, .inl f7)), (g 10, .inl (c10, 10, .inl f10)), (g 11, .inl (c11, 10, .inl f11)), (g 49, .inl (c49, 10, .inl f49))] s.heap.size = A at hD ⊢
  have hA : ∀ q : Nat, s.heap.size ≤ q → A q := fun q h => by rw [← hAe]; exact Or.inr h
  have hS : va_S A s.heap s.heap [] := va_S.rf
  have hP : va_P (dC, dI) classes [(h0, .inr (12, oM g 0)), (g 7, .inl (c7, 10, .inl f7)), (g 10, .inl (c10, 10, .inl f10)), (g 11, .inl (c11, 10, .inl f11)), (g 49, .inl (c49, 10, .inl f49))] s.heap := hP
  have hl := lv_entry ([.ref h0, .int p0]) (n := 2) (Nat.le_of_ble_eq_true rfl)
  rw [lg_entry_eq]
  generalize (lg_sl ([.ref h0, .int p0]) ++ List.replicate (2 - (lg_sl ([.ref h0, .int p0])).length) Slot.unset).toArray = ls at hl ⊢
  have hl : lv_has ls 2 [(0, .ref h0), (1, .int p0)] := hl
  obtain ⟨H, eH⟩ : ∃ z, z = s.heap := ⟨_, rfl⟩
  have hP : va_P (dC, dI) classes [(h0, .inr (12, oM g 0)), (g 7, .inl (c7, 10, .inl f7)), (g 10, .inl (c10, 10, .inl f10)), (g 11, .inl (c11, 10, .inl f11)), (g 49, .inl (c49, 10, .inl f49))] H := by rw [eH]; exact hP
  have hS : va_S A s.heap H [] := by rw [eH]; exact va_S.rf
  refine my_heap eH ?_
  refine lv_iload_n hx hb dX12_plane_0 rfl (lv_at hl 1 rfl) ?_
  refine lv_iconst (v := 0) hx hb dX12_plane_1 (by decide) ?_
  refine lv_ldc (v := 999999) hx hb hown (hwd _ wk_73) dX12_plane_2 ?_
  have hPc := hP.sub (ws' := []) [] rfl
  have hDc := hD.sub (ws' := []) [] (by decide) rfl
  have hKc := hK.sub (tys' := []) [] rfl
  have hFc := va_free (wc := []) hD hS hA [] rfl
  refine va_calli (va_runS (As := [.int p0, .int 0, .int 999999]) (rest := []) ⟨hx, hb, hml, hown, hwd⟩ (c_X12_in l dC dI  H.size p0 0 999999) (va_cwS 3 hwd (gT wk_5 wk_6 wk_7 wk_8) rfl rfl rfl (by decide +kernel) ⟨Nat.le_of_ble_eq_true rfl, Nat.le_of_ble_eq_true rfl⟩) ⟨fun a U g mk q => by obtain ⟨q0, q1, qP, qK, qD⟩ := q; exact ⟨q0, q1, qP, va_K.moved (u := U) (U := U.calling g mk a) (Vm.Alike.refl U.vm) qK, qD⟩, fun U hU hW => ⟨rfl, by rw [hU], by rw [hU]; exact hPc, va_K.moved hW.alike hKc, hDc.weaken (fun _ _ _ _ => trivial)⟩⟩ rfl rfl hl.1 rfl (lv_room (Nat.le_of_ble_eq_true rfl)) dX12_plane_4 ⟨Nat.le_of_ble_eq_true rfl, Nat.le_of_ble_eq_true rfl⟩) hS (fun q _ h => hFc q h) hFc (fun r_159 u t H1 locs ht hvm hw hB hz1 hk1 hS => ?_)
  obtain ⟨hP1, hK1, hD1⟩ := hB
  rw [ht] at hP1
  obtain ⟨hP, hD⟩ := va_join (wr := [(h0, .inr (12, oM g 0)), (g 7, .inl (c7, 10, .inl f7)), (g 10, .inl (c10, 10, .inl f10)), (g 11, .inl (c11, 10, .inl f11)), (g 49, .inl (c49, 10, .inl f49))]) (w1 := []) hP hD [] [0, 1, 2, 3, 4] rfl rfl (by decide) (by decide) hk1 hFc hP1 hD1
  generalize H1 = H at hP hS ⊢
  have hP : va_P (dC, dI) classes [(h0, .inr (12, oM g 0)), (g 7, .inl (c7, 10, .inl f7)), (g 10, .inl (c10, 10, .inl f10)), (g 11, .inl (c11, 10, .inl f11)), (g 49, .inl (c49, 10, .inl f49))] H := hP
  have hD : va_D A [(h0, .inr (12, oM g 0)), (g 7, .inl (c7, 10, .inl f7)), (g 10, .inl (c10, 10, .inl f10)), (g 11, .inl (c11, 10, .inl f11)), (g 49, .inl (c49, 10, .inl f49))] := hD
  try dsimp only at hw
  subst hw
  refine lv_if_ne (tgt := 12) hx hb dX12_plane_7 (by decide) (fun c_160 => ?_) (fun c_160 => ?_)
  · skip
    refine lv_aload_n hx hb dX12_plane_12 rfl (lv_at hl 0 rfl) ?_
    refine va_get (D := (dC, dI)) (ci := 12) (v := .int 0) (C := RX12) (T := TX12) (N := 63) hx hb hwd inA_X12 hown hK hP 0 rfl rfl 6 (by decide) (hwd _ wk_14) (fun _ h9 => h9) rfl dX12_plane_13 ?_
    refine lv_bipush (v := 10) hx hb dX12_plane_16 (by decide) ?_
    refine lv_icmp_ne (tgt := 24) hx hb dX12_plane_18 (by decide) (fun c_161 => ?_) (fun c_161 => ?_)
    · skip
      refine lv_aload_n hx hb dX12_plane_24 rfl (lv_at hl 0 rfl) ?_
      refine va_get (D := (dC, dI)) (ci := 12) (v := .ref (g 7)) (C := RX12) (T := TX12) (N := 63) hx hb hwd inA_X12 hown hK hP 0 rfl rfl 7 (by decide) (hwd _ wk_84) (fun _ h9 => h9) rfl dX12_plane_25 ?_
      refine lv_aload_n hx hb dX12_plane_28 rfl (lv_at hl 0 rfl) ?_
      refine va_get (D := (dC, dI)) (ci := 12) (v := .int 0) (C := RX12) (T := TX12) (N := 63) hx hb hwd inA_X12 hown hK hP 0 rfl rfl 6 (by decide) (hwd _ wk_14) (fun _ h9 => h9) rfl dX12_plane_29 ?_
      refine lv_iload_n hx hb dX12_plane_32 rfl (lv_at hl 1 rfl) ?_
      refine va_iast hx hb hK hP hD hS 1 0 rfl rfl (i := 0) (x := p0) (vpc (by decide)) dX12_plane_33 (fun H locs hP hD hS => ?_)
      have hP : va_P (dC, dI) classes [(h0, .inr (12, oM g 0)), (g 7, .inl (c7, 10, .inl (upd f7 (Int32.toNatClampNeg 0) p0))), (g 10, .inl (c10, 10, .inl f10)), (g 11, .inl (c11, 10, .inl f11)), (g 49, .inl (c49, 10, .inl f49))] H := hP
      have hD : va_D A [(h0, .inr (12, oM g 0)), (g 7, .inl (c7, 10, .inl (upd f7 (Int32.toNatClampNeg 0) p0))), (g 10, .inl (c10, 10, .inl f10)), (g 11, .inl (c11, 10, .inl f11)), (g 49, .inl (c49, 10, .inl f49))] := hD
      refine lv_aload_n hx hb dX12_plane_34 rfl (lv_at hl 0 rfl) ?_
      refine va_get (D := (dC, dI)) (ci := 12) (v := .ref (g 10)) (C := RX12) (T := TX12) (N := 63) hx hb hwd inA_X12 hown hK hP 0 rfl rfl 10 (by decide) (hwd _ wk_85) (fun _ h9 => h9) rfl dX12_plane_35 ?_
      refine lv_aload_n hx hb dX12_plane_38 rfl (lv_at hl 0 rfl) ?_
      refine va_get (D := (dC, dI)) (ci := 12) (v := .int 0) (C := RX12) (T := TX12) (N := 63) hx hb hwd inA_X12 hown hK hP 0 rfl rfl 6 (by decide) (hwd _ wk_14) (fun _ h9 => h9) rfl dX12_plane_39 ?_
      refine lv_iconst (v := (-1)) hx hb dX12_plane_42 (by decide) ?_
      refine va_iast hx hb hK hP hD hS 2 1 rfl rfl (i := 0) (x := (-1)) (vpc (by decide)) dX12_plane_43 (fun H locs hP hD hS => ?_)
      have hP : va_P (dC, dI) classes [(h0, .inr (12, oM g 0)), (g 7, .inl (c7, 10, .inl (upd f7 (Int32.toNatClampNeg 0) p0))), (g 10, .inl (c10, 10, .inl (upd f10 (Int32.toNatClampNeg 0) (-1)))), (g 11, .inl (c11, 10, .inl f11)), (g 49, .inl (c49, 10, .inl f49))] H := hP
      have hD : va_D A [(h0, .inr (12, oM g 0)), (g 7, .inl (c7, 10, .inl (upd f7 (Int32.toNatClampNeg 0) p0))), (g 10, .inl (c10, 10, .inl (upd f10 (Int32.toNatClampNeg 0) (-1)))), (g 11, .inl (c11, 10, .inl f11)), (g 49, .inl (c49, 10, .inl f49))] := hD
      refine lv_aload_n hx hb dX12_plane_44 rfl (lv_at hl 0 rfl) ?_
      refine va_get (D := (dC, dI)) (ci := 12) (v := .ref (g 11)) (C := RX12) (T := TX12) (N := 63) hx hb hwd inA_X12 hown hK hP 0 rfl rfl 11 (by decide) (hwd _ wk_86) (fun _ h9 => h9) rfl dX12_plane_45 ?_
      refine lv_aload_n hx hb dX12_plane_48 rfl (lv_at hl 0 rfl) ?_
      refine va_get (D := (dC, dI)) (ci := 12) (v := .int 0) (C := RX12) (T := TX12) (N := 63) hx hb hwd inA_X12 hown hK hP 0 rfl rfl 6 (by decide) (hwd _ wk_14) (fun _ h9 => h9) rfl dX12_plane_49 ?_
      refine lv_iconst (v := (-1)) hx hb dX12_plane_52 (by decide) ?_
      refine va_iast hx hb hK hP hD hS 3 2 rfl rfl (i := 0) (x := (-1)) (vpc (by decide)) dX12_plane_53 (fun H locs hP hD hS => ?_)
      have hP : va_P (dC, dI) classes [(h0, .inr (12, oM g 0)), (g 7, .inl (c7, 10, .inl (upd f7 (Int32.toNatClampNeg 0) p0))), (g 10, .inl (c10, 10, .inl (upd f10 (Int32.toNatClampNeg 0) (-1)))), (g 11, .inl (c11, 10, .inl (upd f11 (Int32.toNatClampNeg 0) (-1)))), (g 49, .inl (c49, 10, .inl f49))] H := hP
      have hD : va_D A [(h0, .inr (12, oM g 0)), (g 7, .inl (c7, 10, .inl (upd f7 (Int32.toNatClampNeg 0) p0))), (g 10, .inl (c10, 10, .inl (upd f10 (Int32.toNatClampNeg 0) (-1)))), (g 11, .inl (c11, 10, .inl (upd f11 (Int32.toNatClampNeg 0) (-1)))), (g 49, .inl (c49, 10, .inl f49))] := hD
      refine lv_aload_n hx hb dX12_plane_54 rfl (lv_at hl 0 rfl) ?_
      refine va_get (D := (dC, dI)) (ci := 12) (v := .ref (g 49)) (C := RX12) (T := TX12) (N := 63) hx hb hwd inA_X12 hown hK hP 0 rfl rfl 49 (by decide) (hwd _ wk_87) (fun _ h9 => h9) rfl dX12_plane_55 ?_
      refine lv_aload_n hx hb dX12_plane_58 rfl (lv_at hl 0 rfl) ?_
      refine va_get (D := (dC, dI)) (ci := 12) (v := .int 0) (C := RX12) (T := TX12) (N := 63) hx hb hwd inA_X12 hown hK hP 0 rfl rfl 6 (by decide) (hwd _ wk_14) (fun _ h9 => h9) rfl dX12_plane_59 ?_
      refine lv_iconst (v := (-1)) hx hb dX12_plane_62 (by decide) ?_
      refine va_iast hx hb hK hP hD hS 4 3 rfl rfl (i := 0) (x := (-1)) (vpc (by decide)) dX12_plane_63 (fun H locs hP hD hS => ?_)
      have hP : va_P (dC, dI) classes [(h0, .inr (12, oM g 0)), (g 7, .inl (c7, 10, .inl (upd f7 (Int32.toNatClampNeg 0) p0))), (g 10, .inl (c10, 10, .inl (upd f10 (Int32.toNatClampNeg 0) (-1)))), (g 11, .inl (c11, 10, .inl (upd f11 (Int32.toNatClampNeg 0) (-1)))), (g 49, .inl (c49, 10, .inl (upd f49 (Int32.toNatClampNeg 0) (-1))))] H := hP
      have hD : va_D A [(h0, .inr (12, oM g 0)), (g 7, .inl (c7, 10, .inl (upd f7 (Int32.toNatClampNeg 0) p0))), (g 10, .inl (c10, 10, .inl (upd f10 (Int32.toNatClampNeg 0) (-1)))), (g 11, .inl (c11, 10, .inl (upd f11 (Int32.toNatClampNeg 0) (-1)))), (g 49, .inl (c49, 10, .inl (upd f49 (Int32.toNatClampNeg 0) (-1))))] := hD
      refine lv_aload_n hx hb dX12_plane_64 rfl (lv_at hl 0 rfl) ?_
      refine lv_dup hx hb dX12_plane_65 rfl ?_
      refine va_get (D := (dC, dI)) (ci := 12) (v := .int 0) (C := RX12) (T := TX12) (N := 63) hx hb hwd inA_X12 hown hK hP 0 rfl rfl 6 (by decide) (hwd _ wk_14) (fun _ h9 => h9) rfl dX12_plane_66 ?_
      refine lv_iconst (v := 1) hx hb dX12_plane_69 (by decide) ?_
      refine lv_iadd hx hb dX12_plane_70 ?_
      refine my_top (v := 1) (by decide) ?_
      refine va_put (D := (dC, dI)) (ci := 12) (v := .int 1) (ty := .int) (C := RX12) (T := TX12) (N := 63) hx hb hwd inA_X12 tyX12 tyX12_ok nmX12 hown hK hP hD hS 0 rfl rfl 6 (by decide) (hwd _ wk_14) (fun _ h9 => h9) rfl (by decide +kernel) rfl rfl (Nat.le_of_ble_eq_true rfl) dX12_plane_71 (fun H locs hP hD hS => ?_)
      have hP : va_P (dC, dI) classes [(h0, .inr (12, (oM g 0).set 6 (.int 1))), (g 7, .inl (c7, 10, .inl (upd f7 (Int32.toNatClampNeg 0) p0))), (g 10, .inl (c10, 10, .inl (upd f10 (Int32.toNatClampNeg 0) (-1)))), (g 11, .inl (c11, 10, .inl (upd f11 (Int32.toNatClampNeg 0) (-1)))), (g 49, .inl (c49, 10, .inl (upd f49 (Int32.toNatClampNeg 0) (-1))))] H := hP
      have hD : va_D A [(h0, .inr (12, (oM g 0).set 6 (.int 1))), (g 7, .inl (c7, 10, .inl (upd f7 (Int32.toNatClampNeg 0) p0))), (g 10, .inl (c10, 10, .inl (upd f10 (Int32.toNatClampNeg 0) (-1)))), (g 11, .inl (c11, 10, .inl (upd f11 (Int32.toNatClampNeg 0) (-1)))), (g 49, .inl (c49, 10, .inl (upd f49 (Int32.toNatClampNeg 0) (-1))))] := hD
      refine lv_aload_n hx hb dX12_plane_74 rfl (lv_at hl 0 rfl) ?_
      refine va_get (D := (dC, dI)) (ci := 12) (v := .int 1) (C := RX12) (T := TX12) (N := 63) hx hb hwd inA_X12 hown hK hP 0 rfl rfl 6 (by decide) (hwd _ wk_14) (fun _ h9 => h9) rfl dX12_plane_75 ?_
      refine lv_iconst (v := 1) hx hb dX12_plane_78 (by decide) ?_
      refine lv_isub hx hb dX12_plane_79 ?_
      refine my_top (v := 0) (by decide) ?_
      exact W.iret (v := 0) hx hb hr (fun t ht hW => ⟨⟨0, (), rfl, by unfold f_plane; rw [if_neg c_160], trivial⟩, hS.F ht⟩) hS.2.2 dX12_plane_80
    · exact absurd c_161 (by decide)
  · skip
    refine lv_iconst (v := (-1)) hx hb dX12_plane_10 (by decide) ?_
    exact W.iret (v := (-1)) hx hb hr (fun t ht hW => ⟨⟨(-1), (), rfl, by unfold f_plane; rw [if_pos c_160], trivial⟩, hS.F ht⟩) hS.2.2 dX12_plane_11
set_option maxHeartbeats 4000000 in
set_option maxRecDepth 100000 in
theorem c_X7_age (l : Launch) (dC : Nat → ClassId) (dI : Nat → Nat → Nat) (h0 : Nat) (g : Nat → Nat) (sz : Nat) (p0 : Int32) : Met l yX7_age (Cond.code yX7_age cX7_age 3 none :: wA) ({ frames := 1, cells := 0, slots := 0, locals := 40 }) (va_Pc [.ref h0, .int p0] (fun U => U.heap.size = sz ∧ va_P (dC, dI) classes [(h0, .inr (7, o7 g))] U.heap ∧ va_K (dC, dI) classes [] U ∧ va_D (fun _ => True) [(h0, .inr (7, o7 g))])) (va_Qv (fun _ : Unit => True) (fun (_ : Unit) (t : State) => va_P (dC, dI) classes [(h0, .inr (7, o7 g))] t.heap ∧ va_K (dC, dI) classes [] t ∧ va_D (va_A [(h0, .inr (7, o7 g))] sz) [(h0, .inr (7, o7 g))]) (va_A [(h0, .inr (7, o7 g))] sz)) 0 0 (va_A [(h0, .inr (7, o7 g))] sz) := by
  refine Met.ofW (cc := cX7_age) (maxL := 3) (ret := none) (by decide) rfl ?_
  intro p e s m args below meth c s₁ B hml hv
  obtain ⟨rfl, hsz, hP, hK, hD0⟩ := hv
  have hx := B.exec
  have hb := B.bytes
  have hr := B.returns
  have hts := atoms_spec (ws := Cond.code yX7_age cX7_age 3 none :: wA) B.pre
  have hwd : ∀ w ∈ wA, w.before _ s = true := fun w h => hts w (List.mem_cons_of_mem _ h)
  have hown : s.vm.findClass RX7 = some m.cls := findClass_of_methodNamed B.named
  have hlocks := B.notSynchronized
  subst hsz
  have hD := hD0.self (sz := s.heap.size)
  generalize hAe : va_A [(h0, .inr (7, o7 g))] s.heap.size = A at hD ⊢
  have hA : ∀ q : Nat, s.heap.size ≤ q → A q := fun q h => by rw [← hAe]; exact Or.inr h
  have hS : va_S A s.heap s.heap [] := va_S.rf
  have hP : va_P (dC, dI) classes [(h0, .inr (7, o7 g))] s.heap := hP
  have hl := lv_entry ([.ref h0, .int p0]) (n := 3) (Nat.le_of_ble_eq_true rfl)
  rw [lg_entry_eq]
  generalize (lg_sl ([.ref h0, .int p0]) ++ List.replicate (3 - (lg_sl ([.ref h0, .int p0])).length) Slot.unset).toArray = ls at hl ⊢
  have hl : lv_has ls 3 [(0, .ref h0), (1, .int p0)] := hl
  obtain ⟨H, eH⟩ : ∃ z, z = s.heap := ⟨_, rfl⟩
  have hP : va_P (dC, dI) classes [(h0, .inr (7, o7 g))] H := by rw [eH]; exact hP
  have hS : va_S A s.heap H [] := by rw [eH]; exact va_S.rf
  refine my_heap eH ?_
  refine lv_iconst (v := 0) hx hb dX7_age_0 (by decide) ?_
  refine lv_istore_n (lv' := [(2, .int 0), (0, .ref h0), (1, .int p0)]) hx hb dX7_age_1 rfl hl (by decide) rfl (fun ls hl => ?_)
  refine lv_iload_n hx hb dX7_age_2 rfl (lv_at hl 0 rfl) ?_
  refine lv_aload_n hx hb dX7_age_3 rfl (lv_at hl 1 rfl) ?_
  refine va_get (D := (dC, dI)) (ci := 7) (v := .int 0) (C := RX7) (T := TX7) (N := 7) hx hb hwd inA_X7 hown hK hP 0 rfl rfl 1 (by decide) (hwd _ wk_11) (fun _ h9 => h9) rfl dX7_age_4 ?_
  refine lv_icmp_ge (tgt := 41) hx hb dX7_age_7 (by decide) (fun c_162 => ?_) (fun c_162 => ?_)
  · skip
    have hP9 : va_P (dC, dI) classes [(h0, .inr (7, o7 g))] H := hP.sub [0] rfl
    have hD9 : va_D A [(h0, .inr (7, o7 g))] := hD.sub [0] (by decide) rfl
    have hK9 : va_K (dC, dI) classes [] s := hK.sub [] rfl
    exact W.vret hx hb hr (fun t ht hW => ⟨⟨(), rfl, trivial, by rw [ht]; exact hP9, va_K.moved hW.alike hK9, hD9⟩, hS.F ht⟩) hS.2.2 dX7_age_41
  · exact absurd c_162 (by decide)
set_option maxHeartbeats 4000000 in
set_option maxRecDepth 100000 in
theorem c_X11_days (l : Launch) (dC : Nat → ClassId) (dI : Nat → Nat → Nat) (h0 : Nat) (g : Nat → Nat) (gp : Nat → Nat) (sz : Nat) (p0 : Int32) : Met l yX11_days (Cond.code yX11_days cX11_days 2 (some .int) :: wA) ({ frames := 2, cells := 0, slots := 0, locals := 80 }) (va_Pc [.ref h0, .int p0] (fun U => U.heap.size = sz ∧ va_P (dC, dI) classes [(h0, .inr (11, o11 g)), (g 2, .inr (7, o7 gp))] U.heap ∧ va_K (dC, dI) classes [] U ∧ va_D (fun _ => True) [(h0, .inr (11, o11 g)), (g 2, .inr (7, o7 gp))])) (va_Qi (fun (r : Int32) (_ : Unit) => r = f_days p0) (fun (_ : Unit) (_ : State) => True) (va_A [(h0, .inr (11, o11 g)), (g 2, .inr (7, o7 gp))] sz)) 0 0 (va_A [(h0, .inr (11, o11 g)), (g 2, .inr (7, o7 gp))] sz) := by
  refine Met.ofW (cc := cX11_days) (maxL := 2) (ret := (some .int)) (by decide) rfl ?_
  intro p e s m args below meth c s₁ B hml hv
  obtain ⟨rfl, hsz, hP, hK, hD0⟩ := hv
  have hx := B.exec
  have hb := B.bytes
  have hr := B.returns
  have hts := atoms_spec (ws := Cond.code yX11_days cX11_days 2 (some .int) :: wA) B.pre
  have hwd : ∀ w ∈ wA, w.before _ s = true := fun w h => hts w (List.mem_cons_of_mem _ h)
  have hown : s.vm.findClass RX11 = some m.cls := findClass_of_methodNamed B.named
  have hlocks := B.notSynchronized
  subst hsz
  have hD := hD0.self (sz := s.heap.size)
  generalize hAe : va_A [(h0, .inr (11, o11 g)), (g 2, .inr (7, o7 gp))] s.heap.size = A at hD ⊢
  have hA : ∀ q : Nat, s.heap.size ≤ q → A q := fun q h => by rw [← hAe]; exact Or.inr h
  have hS : va_S A s.heap s.heap [] := va_S.rf
  have hP : va_P (dC, dI) classes [(h0, .inr (11, o11 g)), (g 2, .inr (7, o7 gp))] s.heap := hP
  have hl := lv_entry ([.ref h0, .int p0]) (n := 2) (Nat.le_of_ble_eq_true rfl)
  rw [lg_entry_eq]
  generalize (lg_sl ([.ref h0, .int p0]) ++ List.replicate (2 - (lg_sl ([.ref h0, .int p0])).length) Slot.unset).toArray = ls at hl ⊢
  have hl : lv_has ls 2 [(0, .ref h0), (1, .int p0)] := hl
  obtain ⟨H, eH⟩ : ∃ z, z = s.heap := ⟨_, rfl⟩
  have hP : va_P (dC, dI) classes [(h0, .inr (11, o11 g)), (g 2, .inr (7, o7 gp))] H := by rw [eH]; exact hP
  have hS : va_S A s.heap H [] := by rw [eH]; exact va_S.rf
  refine my_heap eH ?_
  refine lv_iload_n hx hb dX11_days_0 rfl (lv_at hl 1 rfl) ?_
  refine lv_iconst (v := 1) hx hb dX11_days_1 (by decide) ?_
  refine lv_sipush (v := 400) hx hb dX11_days_2 (by decide) ?_
  have hPc := hP.sub (ws' := []) [] rfl
  have hDc := hD.sub (ws' := []) [] (by decide) rfl
  have hKc := hK.sub (tys' := []) [] rfl
  have hFc := va_free (wc := []) hD hS hA [] rfl
  refine va_calli (va_runS (As := [.int p0, .int 1, .int 400]) (rest := []) ⟨hx, hb, hml, hown, hwd⟩ (c_X11_within l dC dI  H.size p0 1 400) (va_cwS 3 hwd (gT wk_0 wk_1 wk_2 wk_3) rfl rfl rfl (by decide +kernel) ⟨Nat.le_of_ble_eq_true rfl, Nat.le_of_ble_eq_true rfl⟩) ⟨fun a U g mk q => by obtain ⟨q0, q1, qP, qK, qD⟩ := q; exact ⟨q0, q1, qP, va_K.moved (u := U) (U := U.calling g mk a) (Vm.Alike.refl U.vm) qK, qD⟩, fun U hU hW => ⟨rfl, by rw [hU], by rw [hU]; exact hPc, va_K.moved hW.alike hKc, hDc.weaken (fun _ _ _ _ => trivial)⟩⟩ rfl rfl hl.1 rfl (lv_room (Nat.le_of_ble_eq_true rfl)) dX11_days_5 ⟨Nat.le_of_ble_eq_true rfl, Nat.le_of_ble_eq_true rfl⟩) hS (fun q _ h => hFc q h) hFc (fun r_163 u t H1 locs ht hvm hw hB hz1 hk1 hS => ?_)
  obtain ⟨hP1, hK1, hD1⟩ := hB
  rw [ht] at hP1
  obtain ⟨hP, hD⟩ := va_join (wr := [(h0, .inr (11, o11 g)), (g 2, .inr (7, o7 gp))]) (w1 := []) hP hD [] [0, 1] rfl rfl (by decide) (by decide) hk1 hFc hP1 hD1
  generalize H1 = H at hP hS ⊢
  have hP : va_P (dC, dI) classes [(h0, .inr (11, o11 g)), (g 2, .inr (7, o7 gp))] H := hP
  have hD : va_D A [(h0, .inr (11, o11 g)), (g 2, .inr (7, o7 gp))] := hD
  try dsimp only at hw
  subst hw
  refine lv_if_eq (tgt := 23) hx hb dX11_days_8 (by decide) (fun c_164 => ?_) (fun c_164 => ?_)
  · skip
    refine lv_iconst (v := (-1)) hx hb dX11_days_23 (by decide) ?_
    exact W.iret (v := (-1)) hx hb hr (fun t ht hW => ⟨⟨(-1), (), rfl, by unfold f_days; rw [if_pos c_164], trivial⟩, hS.F ht⟩) hS.2.2 dX11_days_24
  · skip
    refine lv_aload_n hx hb dX11_days_11 rfl (lv_at hl 0 rfl) ?_
    refine va_get (D := (dC, dI)) (ci := 11) (v := .int 0) (C := RX11) (T := TX11) (N := 14) hx hb hwd inA_X11 hown hK hP 0 rfl rfl 11 (by decide) (hwd _ wk_88) (fun _ h9 => h9) rfl dX11_days_12 ?_
    refine lv_iload_n hx hb dX11_days_15 rfl (lv_at hl 1 rfl) ?_
    refine lv_iadd hx hb dX11_days_16 ?_
    refine lv_sipush (v := 9999) hx hb dX11_days_17 (by decide) ?_
    refine lv_icmp_le (tgt := 25) hx hb dX11_days_20 (by decide) (fun c_165 => ?_) (fun c_165 => ?_)
    · skip
      refine lv_aload_n hx hb dX11_days_25 rfl (lv_at hl 0 rfl) ?_
      refine lv_dup hx hb dX11_days_26 rfl ?_
      refine va_get (D := (dC, dI)) (ci := 11) (v := .int 0) (C := RX11) (T := TX11) (N := 14) hx hb hwd inA_X11 hown hK hP 0 rfl rfl 11 (by decide) (hwd _ wk_88) (fun _ h9 => h9) rfl dX11_days_27 ?_
      refine lv_iload_n hx hb dX11_days_30 rfl (lv_at hl 1 rfl) ?_
      refine lv_iadd hx hb dX11_days_31 ?_
      refine va_put (D := (dC, dI)) (ci := 11) (v := .int (0 + p0)) (ty := .int) (C := RX11) (T := TX11) (N := 14) hx hb hwd inA_X11 tyX11 tyX11_ok nmX11 hown hK hP hD hS 0 rfl rfl 11 (by decide) (hwd _ wk_88) (fun _ h9 => h9) rfl (by decide +kernel) rfl rfl (Nat.le_of_ble_eq_true rfl) dX11_days_32 (fun H locs hP hD hS => ?_)
      have hP : va_P (dC, dI) classes [(h0, .inr (11, (o11 g).set 11 (.int (0 + p0)))), (g 2, .inr (7, o7 gp))] H := hP
      have hD : va_D A [(h0, .inr (11, (o11 g).set 11 (.int (0 + p0)))), (g 2, .inr (7, o7 gp))] := hD
      refine lv_aload_n hx hb dX11_days_35 rfl (lv_at hl 0 rfl) ?_
      refine va_get (D := (dC, dI)) (ci := 11) (v := .ref (g 2)) (C := RX11) (T := TX11) (N := 14) hx hb hwd inA_X11 hown hK hP 0 rfl rfl 2 (by decide) (hwd _ wk_16) (fun _ h9 => h9) rfl dX11_days_36 ?_
      refine lv_iload_n hx hb dX11_days_39 rfl (lv_at hl 1 rfl) ?_
      have hPc := hP.sub (ws' := [(g 2, .inr (7, o7 gp))]) [1] rfl
      have hDc := hD.sub (ws' := [(g 2, .inr (7, o7 gp))]) [1] (by decide) rfl
      have hKc := hK.sub (tys' := []) [] rfl
      have hFc := va_free (wc := [(g 2, .inr (7, o7 gp))]) hD hS hA [1] rfl
      refine va_callv (va_runV (As := [.int p0]) (rest := []) ⟨hx, hb, hml, hown, hwd⟩ (c_X7_age l dC dI (g 2) gp H.size p0) (cwV 1 hwd (gV wk_89 wk_90 wk_91 wk_92 wk_21) rfl rfl rfl (by decide +kernel) ⟨Nat.le_of_ble_eq_true rfl, Nat.le_of_ble_eq_true rfl⟩) ⟨fun a U g mk q => by obtain ⟨q0, q1, qP, qK, qD⟩ := q; exact ⟨q0, q1, qP, va_K.moved (u := U) (U := U.calling g mk a) (Vm.Alike.refl U.vm) qK, qD⟩, va_recv hKc hPc (ci := 7) (q0 := 0) rfl rfl, fun U hU hW => ⟨rfl, by rw [hU], by rw [hU]; exact hPc, va_K.moved hW.alike hKc, hDc.weaken (fun _ _ _ _ => trivial)⟩⟩ rfl rfl hl.1 rfl (lv_room (Nat.le_of_ble_eq_true rfl)) dX11_days_40 ⟨Nat.le_of_ble_eq_true rfl, Nat.le_of_ble_eq_true rfl⟩) hS (fun q _ h => hFc q h) hFc (fun u t H1 locs ht hvm hw hB hz1 hk1 hS => ?_)
      obtain ⟨hP1, hK1, hD1⟩ := hB
      rw [ht] at hP1
      obtain ⟨hP, hD⟩ := va_join (wr := [(h0, .inr (11, (o11 g).set 11 (.int (0 + p0))))]) (w1 := [(g 2, .inr (7, o7 gp))]) hP hD [1] [0] rfl rfl (by decide) (by decide) hk1 hFc hP1 hD1
      generalize H1 = H at hP hS ⊢
      have hP : va_P (dC, dI) classes [(h0, .inr (11, (o11 g).set 11 (.int (0 + p0)))), (g 2, .inr (7, o7 gp))] H := hP
      have hD : va_D A [(h0, .inr (11, (o11 g).set 11 (.int (0 + p0)))), (g 2, .inr (7, o7 gp))] := hD
      refine lv_aload_n hx hb dX11_days_43 rfl (lv_at hl 0 rfl) ?_
      refine va_get (D := (dC, dI)) (ci := 11) (v := .int (0 + p0)) (C := RX11) (T := TX11) (N := 14) hx hb hwd inA_X11 hown hK hP 0 rfl rfl 11 (by decide) (hwd _ wk_88) (fun _ h9 => h9) rfl dX11_days_44 ?_
      exact W.iret (v := 0 + p0) hx hb hr (fun t ht hW => ⟨⟨(0 + p0), (), rfl, by unfold f_days; rw [if_neg c_164, if_pos c_165], trivial⟩, hS.F ht⟩) hS.2.2 dX11_days_47
    · skip
      refine lv_iconst (v := (-1)) hx hb dX11_days_23 (by decide) ?_
      exact W.iret (v := (-1)) hx hb hr (fun t ht hW => ⟨⟨(-1), (), rfl, by unfold f_days; rw [if_neg c_164, if_neg c_165], trivial⟩, hS.F ht⟩) hS.2.2 dX11_days_24
set_option maxHeartbeats 4000000 in
set_option maxRecDepth 100000 in
theorem c_X12_days (l : Launch) (dC : Nat → ClassId) (dI : Nat → Nat → Nat) (h0 : Nat) (g : Nat → Nat) (sz : Nat) (p0 : Int32) : Met l yX12_days (Cond.code yX12_days cX12_days 3 (some .int) :: wA) ({ frames := 2, cells := 0, slots := 0, locals := 80 }) (va_Pc [.ref h0, .int p0] (fun U => U.heap.size = sz ∧ va_P (dC, dI) classes [(h0, .inr (12, oM g 0))] U.heap ∧ va_K (dC, dI) classes [] U ∧ va_D (fun _ => True) [(h0, .inr (12, oM g 0))])) (va_Qi (fun (r : Int32) (_ : Unit) => r = f_days p0) (fun (_ : Unit) (_ : State) => True) (va_A [(h0, .inr (12, oM g 0))] sz)) 0 0 (va_A [(h0, .inr (12, oM g 0))] sz) := by
  refine Met.ofW (cc := cX12_days) (maxL := 3) (ret := (some .int)) (by decide) rfl ?_
  intro p e s m args below meth c s₁ B hml hv
  obtain ⟨rfl, hsz, hP, hK, hD0⟩ := hv
  have hx := B.exec
  have hb := B.bytes
  have hr := B.returns
  have hts := atoms_spec (ws := Cond.code yX12_days cX12_days 3 (some .int) :: wA) B.pre
  have hwd : ∀ w ∈ wA, w.before _ s = true := fun w h => hts w (List.mem_cons_of_mem _ h)
  have hown : s.vm.findClass RX12 = some m.cls := findClass_of_methodNamed B.named
  have hlocks := B.notSynchronized
  subst hsz
  have hD := hD0.self (sz := s.heap.size)
  generalize hAe : va_A [(h0, .inr (12, oM g 0))] s.heap.size = A at hD ⊢
  have hA : ∀ q : Nat, s.heap.size ≤ q → A q := fun q h => by rw [← hAe]; exact Or.inr h
  have hS : va_S A s.heap s.heap [] := va_S.rf
  have hP : va_P (dC, dI) classes [(h0, .inr (12, oM g 0))] s.heap := hP
  have hl := lv_entry ([.ref h0, .int p0]) (n := 3) (Nat.le_of_ble_eq_true rfl)
  rw [lg_entry_eq]
  generalize (lg_sl ([.ref h0, .int p0]) ++ List.replicate (3 - (lg_sl ([.ref h0, .int p0])).length) Slot.unset).toArray = ls at hl ⊢
  have hl : lv_has ls 3 [(0, .ref h0), (1, .int p0)] := hl
  obtain ⟨H, eH⟩ : ∃ z, z = s.heap := ⟨_, rfl⟩
  have hP : va_P (dC, dI) classes [(h0, .inr (12, oM g 0))] H := by rw [eH]; exact hP
  have hS : va_S A s.heap H [] := by rw [eH]; exact va_S.rf
  refine my_heap eH ?_
  refine lv_iload_n hx hb dX12_days_0 rfl (lv_at hl 1 rfl) ?_
  refine lv_iconst (v := 1) hx hb dX12_days_1 (by decide) ?_
  refine lv_sipush (v := 400) hx hb dX12_days_2 (by decide) ?_
  have hPc := hP.sub (ws' := []) [] rfl
  have hDc := hD.sub (ws' := []) [] (by decide) rfl
  have hKc := hK.sub (tys' := []) [] rfl
  have hFc := va_free (wc := []) hD hS hA [] rfl
  refine va_calli (va_runS (As := [.int p0, .int 1, .int 400]) (rest := []) ⟨hx, hb, hml, hown, hwd⟩ (c_X12_in l dC dI  H.size p0 1 400) (va_cwS 3 hwd (gT wk_5 wk_6 wk_7 wk_8) rfl rfl rfl (by decide +kernel) ⟨Nat.le_of_ble_eq_true rfl, Nat.le_of_ble_eq_true rfl⟩) ⟨fun a U g mk q => by obtain ⟨q0, q1, qP, qK, qD⟩ := q; exact ⟨q0, q1, qP, va_K.moved (u := U) (U := U.calling g mk a) (Vm.Alike.refl U.vm) qK, qD⟩, fun U hU hW => ⟨rfl, by rw [hU], by rw [hU]; exact hPc, va_K.moved hW.alike hKc, hDc.weaken (fun _ _ _ _ => trivial)⟩⟩ rfl rfl hl.1 rfl (lv_room (Nat.le_of_ble_eq_true rfl)) dX12_days_5 ⟨Nat.le_of_ble_eq_true rfl, Nat.le_of_ble_eq_true rfl⟩) hS (fun q _ h => hFc q h) hFc (fun r_167 u t H1 locs ht hvm hw hB hz1 hk1 hS => ?_)
  obtain ⟨hP1, hK1, hD1⟩ := hB
  rw [ht] at hP1
  obtain ⟨hP, hD⟩ := va_join (wr := [(h0, .inr (12, oM g 0))]) (w1 := []) hP hD [] [0] rfl rfl (by decide) (by decide) hk1 hFc hP1 hD1
  generalize H1 = H at hP hS ⊢
  have hP : va_P (dC, dI) classes [(h0, .inr (12, oM g 0))] H := hP
  have hD : va_D A [(h0, .inr (12, oM g 0))] := hD
  try dsimp only at hw
  subst hw
  refine lv_if_eq (tgt := 23) hx hb dX12_days_8 (by decide) (fun c_168 => ?_) (fun c_168 => ?_)
  · skip
    refine lv_iconst (v := (-1)) hx hb dX12_days_23 (by decide) ?_
    exact W.iret (v := (-1)) hx hb hr (fun t ht hW => ⟨⟨(-1), (), rfl, by unfold f_days; rw [if_pos c_168], trivial⟩, hS.F ht⟩) hS.2.2 dX12_days_24
  · skip
    refine lv_aload_n hx hb dX12_days_11 rfl (lv_at hl 0 rfl) ?_
    refine va_get (D := (dC, dI)) (ci := 12) (v := .int 0) (C := RX12) (T := TX12) (N := 63) hx hb hwd inA_X12 hown hK hP 0 rfl rfl 1 (by decide) (hwd _ wk_93) (fun _ h9 => h9) rfl dX12_days_12 ?_
    refine lv_iload_n hx hb dX12_days_15 rfl (lv_at hl 1 rfl) ?_
    refine lv_iadd hx hb dX12_days_16 ?_
    refine lv_sipush (v := 9999) hx hb dX12_days_17 (by decide) ?_
    refine lv_icmp_le (tgt := 25) hx hb dX12_days_20 (by decide) (fun c_169 => ?_) (fun c_169 => ?_)
    · skip
      refine lv_aload_n hx hb dX12_days_25 rfl (lv_at hl 0 rfl) ?_
      refine lv_dup hx hb dX12_days_26 rfl ?_
      refine va_get (D := (dC, dI)) (ci := 12) (v := .int 0) (C := RX12) (T := TX12) (N := 63) hx hb hwd inA_X12 hown hK hP 0 rfl rfl 1 (by decide) (hwd _ wk_93) (fun _ h9 => h9) rfl dX12_days_27 ?_
      refine lv_iload_n hx hb dX12_days_30 rfl (lv_at hl 1 rfl) ?_
      refine lv_iadd hx hb dX12_days_31 ?_
      refine va_put (D := (dC, dI)) (ci := 12) (v := .int (0 + p0)) (ty := .int) (C := RX12) (T := TX12) (N := 63) hx hb hwd inA_X12 tyX12 tyX12_ok nmX12 hown hK hP hD hS 0 rfl rfl 1 (by decide) (hwd _ wk_93) (fun _ h9 => h9) rfl (by decide +kernel) rfl rfl (Nat.le_of_ble_eq_true rfl) dX12_days_32 (fun H locs hP hD hS => ?_)
      have hP : va_P (dC, dI) classes [(h0, .inr (12, (oM g 0).set 1 (.int (0 + p0))))] H := hP
      have hD : va_D A [(h0, .inr (12, (oM g 0).set 1 (.int (0 + p0))))] := hD
      refine lv_iconst (v := 0) hx hb dX12_days_35 (by decide) ?_
      refine lv_istore_n (lv' := [(2, .int 0), (0, .ref h0), (1, .int p0)]) hx hb dX12_days_36 rfl hl (by decide) rfl (fun ls hl => ?_)
      refine lv_iload_n hx hb dX12_days_37 rfl (lv_at hl 0 rfl) ?_
      refine lv_aload_n hx hb dX12_days_38 rfl (lv_at hl 1 rfl) ?_
      refine va_get (D := (dC, dI)) (ci := 12) (v := .int 0) (C := RX12) (T := TX12) (N := 63) hx hb hwd inA_X12 hown hK hP 0 rfl rfl 14 (by decide) (hwd _ wk_15) (fun _ h9 => h9) rfl dX12_days_39 ?_
      refine lv_icmp_ge (tgt := 76) hx hb dX12_days_42 (by decide) (fun c_170 => ?_) (fun c_170 => ?_)
      · skip
        refine lv_aload_n hx hb dX12_days_76 rfl (lv_at hl 1 rfl) ?_
        refine va_get (D := (dC, dI)) (ci := 12) (v := .int (0 + p0)) (C := RX12) (T := TX12) (N := 63) hx hb hwd inA_X12 hown hK hP 0 rfl rfl 1 (by decide) (hwd _ wk_93) (fun _ h9 => h9) rfl dX12_days_77 ?_
        exact W.iret (v := 0 + p0) hx hb hr (fun t ht hW => ⟨⟨(0 + p0), (), rfl, by unfold f_days; rw [if_neg c_168, if_pos c_169], trivial⟩, hS.F ht⟩) hS.2.2 dX12_days_80
      · exact absurd c_170 (by decide)
    · skip
      refine lv_iconst (v := (-1)) hx hb dX12_days_23 (by decide) ?_
      exact W.iret (v := (-1)) hx hb hr (fun t ht hW => ⟨⟨(-1), (), rfl, by unfold f_days; rw [if_neg c_168, if_neg c_169], trivial⟩, hS.F ht⟩) hS.2.2 dX12_days_24
set_option maxHeartbeats 4000000 in
set_option maxRecDepth 100000 in
theorem c_X10_take (l : Launch) (dC : Nat → ClassId) (dI : Nat → Nat → Nat) (h0 : Nat) (g : Nat → Nat) (cg1 : ClassId) (fg1 : Nat → Int32) (sz : Nat) (p0 : Int32) (p1 : Int32) (hn : ¬ wi p0 1 4 = 0) : Met l yX10_take (Cond.code yX10_take cX10_take 4 (some .int) :: wA) ({ frames := 1, cells := 0, slots := 0, locals := 40 }) (va_Pc [.ref h0, .int p0, .int p1] (fun U => U.heap.size = sz ∧ va_P (dC, dI) classes [(h0, .inr (10, o10 g)), (g 1, .inl (cg1, 120, .inl fg1))] U.heap ∧ va_K (dC, dI) classes [(cg1, .int)] U ∧ va_D (fun _ => True) [(h0, .inr (10, o10 g)), (g 1, .inl (cg1, 120, .inl fg1))])) (va_Qi (fun (r : Int32) (_ : Unit) => r = f_feed p0) (fun (_ : Unit) (_ : State) => True) (va_A [(h0, .inr (10, o10 g)), (g 1, .inl (cg1, 120, .inl fg1))] sz)) 0 0 (va_A [(h0, .inr (10, o10 g)), (g 1, .inl (cg1, 120, .inl fg1))] sz) := by
  refine Met.ofW (cc := cX10_take) (maxL := 4) (ret := (some .int)) (by decide) rfl ?_
  intro p e s m args below meth c s₁ B hml hv
  obtain ⟨rfl, hsz, hP, hK, hD0⟩ := hv
  have hx := B.exec
  have hb := B.bytes
  have hr := B.returns
  have hts := atoms_spec (ws := Cond.code yX10_take cX10_take 4 (some .int) :: wA) B.pre
  have hwd : ∀ w ∈ wA, w.before _ s = true := fun w h => hts w (List.mem_cons_of_mem _ h)
  have hown : s.vm.findClass RX10 = some m.cls := findClass_of_methodNamed B.named
  have hlocks := B.notSynchronized
  subst hsz
  have hD := hD0.self (sz := s.heap.size)
  generalize hAe : va_A [(h0, .inr (10, o10 g)), (g 1, .inl (cg1, 120, .inl fg1))] s.heap.size = A at hD ⊢
  have hA : ∀ q : Nat, s.heap.size ≤ q → A q := fun q h => by rw [← hAe]; exact Or.inr h
  have hS : va_S A s.heap s.heap [] := va_S.rf
  have hP : va_P (dC, dI) classes [(h0, .inr (10, o10 g)), (g 1, .inl (cg1, 120, .inl fg1))] s.heap := hP
  have hl := lv_entry ([.ref h0, .int p0, .int p1]) (n := 4) (Nat.le_of_ble_eq_true rfl)
  rw [lg_entry_eq]
  generalize (lg_sl ([.ref h0, .int p0, .int p1]) ++ List.replicate (4 - (lg_sl ([.ref h0, .int p0, .int p1])).length) Slot.unset).toArray = ls at hl ⊢
  have hl : lv_has ls 4 [(0, .ref h0), (1, .int p0), (2, .int p1)] := hl
  obtain ⟨H, eH⟩ : ∃ z, z = s.heap := ⟨_, rfl⟩
  have hP : va_P (dC, dI) classes [(h0, .inr (10, o10 g)), (g 1, .inl (cg1, 120, .inl fg1))] H := by rw [eH]; exact hP
  have hS : va_S A s.heap H [] := by rw [eH]; exact va_S.rf
  refine my_heap eH ?_
  refine lv_aload_n hx hb dX10_take_0 rfl (lv_at hl 0 rfl) ?_
  refine va_get (D := (dC, dI)) (ci := 10) (v := .int 0) (C := RX10) (T := TX10) (N := 2) hx hb hwd inA_X10 hown hK hP 0 rfl rfl 0 (by decide) (hwd _ wk_94) (fun _ h9 => h9) rfl dX10_take_1 ?_
  refine lv_iload_n hx hb dX10_take_4 rfl (lv_at hl 1 rfl) ?_
  refine lv_iadd hx hb dX10_take_5 ?_
  refine lv_bipush (v := 120) hx hb dX10_take_6 (by decide) ?_
  refine lv_icmp_le (tgt := 14) hx hb dX10_take_8 (by decide) (fun c_171 => ?_) (fun c_171 => ?_)
  · skip
    refine lv_iconst (v := 0) hx hb dX10_take_14 (by decide) ?_
    refine lv_istore_n (lv' := [(3, .int 0), (0, .ref h0), (1, .int p0), (2, .int p1)]) hx hb dX10_take_15 rfl hl (by decide) rfl (fun ls hl => ?_)
    refine lv_iload_n hx hb dX10_take_16 rfl (lv_at hl 0 rfl) ?_
    refine lv_iload_n hx hb dX10_take_17 rfl (lv_at hl 2 rfl) ?_
    refine lv_icmp_ge (tgt := 48) hx hb dX10_take_18 (by decide) (fun c_172 => ?_) (fun c_172 => ?_)
    · skip
      refine lv_aload_n hx hb dX10_take_48 rfl (lv_at hl 1 rfl) ?_
      refine lv_dup hx hb dX10_take_49 rfl ?_
      refine va_get (D := (dC, dI)) (ci := 10) (v := .int 0) (C := RX10) (T := TX10) (N := 2) hx hb hwd inA_X10 hown hK hP 0 rfl rfl 0 (by decide) (hwd _ wk_94) (fun _ h9 => h9) rfl dX10_take_50 ?_
      refine lv_iload_n hx hb dX10_take_53 rfl (lv_at hl 2 rfl) ?_
      refine lv_iadd hx hb dX10_take_54 ?_
      refine va_put (D := (dC, dI)) (ci := 10) (v := .int (0 + p0)) (ty := .int) (C := RX10) (T := TX10) (N := 2) hx hb hwd inA_X10 tyX10 tyX10_ok nmX10 hown hK hP hD hS 0 rfl rfl 0 (by decide) (hwd _ wk_94) (fun _ h9 => h9) rfl (by decide +kernel) rfl rfl (Nat.le_of_ble_eq_true rfl) dX10_take_55 (fun H locs hP hD hS => ?_)
      have hP : va_P (dC, dI) classes [(h0, .inr (10, (o10 g).set 0 (.int (0 + p0)))), (g 1, .inl (cg1, 120, .inl fg1))] H := hP
      have hD : va_D A [(h0, .inr (10, (o10 g).set 0 (.int (0 + p0)))), (g 1, .inl (cg1, 120, .inl fg1))] := hD
      refine lv_aload_n hx hb dX10_take_58 rfl (lv_at hl 1 rfl) ?_
      refine va_get (D := (dC, dI)) (ci := 10) (v := .int (0 + p0)) (C := RX10) (T := TX10) (N := 2) hx hb hwd inA_X10 hown hK hP 0 rfl rfl 0 (by decide) (hwd _ wk_94) (fun _ h9 => h9) rfl dX10_take_59 ?_
      exact W.iret (v := 0 + p0) hx hb hr (fun t ht hW => ⟨⟨(0 + p0), (), rfl, by unfold f_feed; rw [if_neg hn, if_pos c_171], trivial⟩, hS.F ht⟩) hS.2.2 dX10_take_62
    · skip
      refine lv_aload_n hx hb dX10_take_21 rfl (lv_at hl 1 rfl) ?_
      refine va_get (D := (dC, dI)) (ci := 10) (v := .ref (g 1)) (C := RX10) (T := TX10) (N := 2) hx hb hwd inA_X10 hown hK hP 0 rfl rfl 1 (by decide) (hwd _ wk_95) (fun _ h9 => h9) rfl dX10_take_22 ?_
      refine lv_aload_n hx hb dX10_take_25 rfl (lv_at hl 1 rfl) ?_
      refine va_get (D := (dC, dI)) (ci := 10) (v := .int 0) (C := RX10) (T := TX10) (N := 2) hx hb hwd inA_X10 hown hK hP 0 rfl rfl 0 (by decide) (hwd _ wk_94) (fun _ h9 => h9) rfl dX10_take_26 ?_
      refine lv_iload_n hx hb dX10_take_29 rfl (lv_at hl 0 rfl) ?_
      refine lv_iadd hx hb dX10_take_30 ?_
      refine my_top (v := 0) (by decide) ?_
      refine lv_iload_n hx hb dX10_take_31 rfl (lv_at hl 3 rfl) ?_
      refine lv_bipush (v := 8) hx hb dX10_take_32 (by decide) ?_
      refine lv_iload_n hx hb dX10_take_34 rfl (lv_at hl 0 rfl) ?_
      refine lv_imul hx hb dX10_take_35 ?_
      refine my_top (v := 0) (by decide) ?_
      refine lv_ishr hx hb dX10_take_36 ?_
      refine lv_sipush (v := 255) hx hb dX10_take_37 (by decide) ?_
      refine lv_iand hx hb dX10_take_40 ?_
      refine va_iast hx hb hK hP hD hS 1 0 rfl rfl (i := 0) (x := ((p1 >>> (0 &&& 31)) &&& 255)) (vpc (by decide)) dX10_take_41 (fun H locs hP hD hS => ?_)
      have hP : va_P (dC, dI) classes [(h0, .inr (10, o10 g)), (g 1, .inl (cg1, 120, .inl (upd fg1 (Int32.toNatClampNeg 0) ((p1 >>> (0 &&& 31)) &&& 255))))] H := hP
      have hD : va_D A [(h0, .inr (10, o10 g)), (g 1, .inl (cg1, 120, .inl (upd fg1 (Int32.toNatClampNeg 0) ((p1 >>> (0 &&& 31)) &&& 255))))] := hD
      refine lv_iinc (v := 1) (lv' := [(3, .int 1), (0, .ref h0), (1, .int p0), (2, .int p1)]) hx hb dX10_take_42 hl (k := 0) rfl (by decide) (by decide) rfl (fun ls hl => ?_)
      refine lv_goto (tgt := 16) hx hb dX10_take_45 (by decide) ?_
      refine lv_iload_n hx hb dX10_take_16 rfl (lv_at hl 0 rfl) ?_
      refine lv_iload_n hx hb dX10_take_17 rfl (lv_at hl 2 rfl) ?_
      refine lv_icmp_ge (tgt := 48) hx hb dX10_take_18 (by decide) (fun c_173 => ?_) (fun c_173 => ?_)
      · skip
        refine lv_aload_n hx hb dX10_take_48 rfl (lv_at hl 1 rfl) ?_
        refine lv_dup hx hb dX10_take_49 rfl ?_
        refine va_get (D := (dC, dI)) (ci := 10) (v := .int 0) (C := RX10) (T := TX10) (N := 2) hx hb hwd inA_X10 hown hK hP 0 rfl rfl 0 (by decide) (hwd _ wk_94) (fun _ h9 => h9) rfl dX10_take_50 ?_
        refine lv_iload_n hx hb dX10_take_53 rfl (lv_at hl 2 rfl) ?_
        refine lv_iadd hx hb dX10_take_54 ?_
        refine va_put (D := (dC, dI)) (ci := 10) (v := .int (0 + p0)) (ty := .int) (C := RX10) (T := TX10) (N := 2) hx hb hwd inA_X10 tyX10 tyX10_ok nmX10 hown hK hP hD hS 0 rfl rfl 0 (by decide) (hwd _ wk_94) (fun _ h9 => h9) rfl (by decide +kernel) rfl rfl (Nat.le_of_ble_eq_true rfl) dX10_take_55 (fun H locs hP hD hS => ?_)
        have hP : va_P (dC, dI) classes [(h0, .inr (10, (o10 g).set 0 (.int (0 + p0)))), (g 1, .inl (cg1, 120, .inl (upd fg1 (Int32.toNatClampNeg 0) ((p1 >>> (0 &&& 31)) &&& 255))))] H := hP
        have hD : va_D A [(h0, .inr (10, (o10 g).set 0 (.int (0 + p0)))), (g 1, .inl (cg1, 120, .inl (upd fg1 (Int32.toNatClampNeg 0) ((p1 >>> (0 &&& 31)) &&& 255))))] := hD
        refine lv_aload_n hx hb dX10_take_58 rfl (lv_at hl 1 rfl) ?_
        refine va_get (D := (dC, dI)) (ci := 10) (v := .int (0 + p0)) (C := RX10) (T := TX10) (N := 2) hx hb hwd inA_X10 hown hK hP 0 rfl rfl 0 (by decide) (hwd _ wk_94) (fun _ h9 => h9) rfl dX10_take_59 ?_
        exact W.iret (v := 0 + p0) hx hb hr (fun t ht hW => ⟨⟨(0 + p0), (), rfl, by unfold f_feed; rw [if_neg hn, if_pos c_171], trivial⟩, hS.F ht⟩) hS.2.2 dX10_take_62
      · skip
        refine lv_aload_n hx hb dX10_take_21 rfl (lv_at hl 1 rfl) ?_
        refine va_get (D := (dC, dI)) (ci := 10) (v := .ref (g 1)) (C := RX10) (T := TX10) (N := 2) hx hb hwd inA_X10 hown hK hP 0 rfl rfl 1 (by decide) (hwd _ wk_95) (fun _ h9 => h9) rfl dX10_take_22 ?_
        refine lv_aload_n hx hb dX10_take_25 rfl (lv_at hl 1 rfl) ?_
        refine va_get (D := (dC, dI)) (ci := 10) (v := .int 0) (C := RX10) (T := TX10) (N := 2) hx hb hwd inA_X10 hown hK hP 0 rfl rfl 0 (by decide) (hwd _ wk_94) (fun _ h9 => h9) rfl dX10_take_26 ?_
        refine lv_iload_n hx hb dX10_take_29 rfl (lv_at hl 0 rfl) ?_
        refine lv_iadd hx hb dX10_take_30 ?_
        refine my_top (v := 1) (by decide) ?_
        refine lv_iload_n hx hb dX10_take_31 rfl (lv_at hl 3 rfl) ?_
        refine lv_bipush (v := 8) hx hb dX10_take_32 (by decide) ?_
        refine lv_iload_n hx hb dX10_take_34 rfl (lv_at hl 0 rfl) ?_
        refine lv_imul hx hb dX10_take_35 ?_
        refine my_top (v := 8) (by decide) ?_
        refine lv_ishr hx hb dX10_take_36 ?_
        refine lv_sipush (v := 255) hx hb dX10_take_37 (by decide) ?_
        refine lv_iand hx hb dX10_take_40 ?_
        refine va_iast hx hb hK hP hD hS 1 0 rfl rfl (i := 1) (x := ((p1 >>> (8 &&& 31)) &&& 255)) (vpc (by decide)) dX10_take_41 (fun H locs hP hD hS => ?_)
        have hP : va_P (dC, dI) classes [(h0, .inr (10, o10 g)), (g 1, .inl (cg1, 120, .inl (upd (upd fg1 (Int32.toNatClampNeg 0) ((p1 >>> (0 &&& 31)) &&& 255)) (Int32.toNatClampNeg 1) ((p1 >>> (8 &&& 31)) &&& 255))))] H := hP
        have hD : va_D A [(h0, .inr (10, o10 g)), (g 1, .inl (cg1, 120, .inl (upd (upd fg1 (Int32.toNatClampNeg 0) ((p1 >>> (0 &&& 31)) &&& 255)) (Int32.toNatClampNeg 1) ((p1 >>> (8 &&& 31)) &&& 255))))] := hD
        refine lv_iinc (v := 2) (lv' := [(3, .int 2), (0, .ref h0), (1, .int p0), (2, .int p1)]) hx hb dX10_take_42 hl (k := 0) rfl (by decide) (by decide) rfl (fun ls hl => ?_)
        refine lv_goto (tgt := 16) hx hb dX10_take_45 (by decide) ?_
        refine lv_iload_n hx hb dX10_take_16 rfl (lv_at hl 0 rfl) ?_
        refine lv_iload_n hx hb dX10_take_17 rfl (lv_at hl 2 rfl) ?_
        refine lv_icmp_ge (tgt := 48) hx hb dX10_take_18 (by decide) (fun c_174 => ?_) (fun c_174 => ?_)
        · skip
          refine lv_aload_n hx hb dX10_take_48 rfl (lv_at hl 1 rfl) ?_
          refine lv_dup hx hb dX10_take_49 rfl ?_
          refine va_get (D := (dC, dI)) (ci := 10) (v := .int 0) (C := RX10) (T := TX10) (N := 2) hx hb hwd inA_X10 hown hK hP 0 rfl rfl 0 (by decide) (hwd _ wk_94) (fun _ h9 => h9) rfl dX10_take_50 ?_
          refine lv_iload_n hx hb dX10_take_53 rfl (lv_at hl 2 rfl) ?_
          refine lv_iadd hx hb dX10_take_54 ?_
          refine va_put (D := (dC, dI)) (ci := 10) (v := .int (0 + p0)) (ty := .int) (C := RX10) (T := TX10) (N := 2) hx hb hwd inA_X10 tyX10 tyX10_ok nmX10 hown hK hP hD hS 0 rfl rfl 0 (by decide) (hwd _ wk_94) (fun _ h9 => h9) rfl (by decide +kernel) rfl rfl (Nat.le_of_ble_eq_true rfl) dX10_take_55 (fun H locs hP hD hS => ?_)
          have hP : va_P (dC, dI) classes [(h0, .inr (10, (o10 g).set 0 (.int (0 + p0)))), (g 1, .inl (cg1, 120, .inl (upd (upd fg1 (Int32.toNatClampNeg 0) ((p1 >>> (0 &&& 31)) &&& 255)) (Int32.toNatClampNeg 1) ((p1 >>> (8 &&& 31)) &&& 255))))] H := hP
          have hD : va_D A [(h0, .inr (10, (o10 g).set 0 (.int (0 + p0)))), (g 1, .inl (cg1, 120, .inl (upd (upd fg1 (Int32.toNatClampNeg 0) ((p1 >>> (0 &&& 31)) &&& 255)) (Int32.toNatClampNeg 1) ((p1 >>> (8 &&& 31)) &&& 255))))] := hD
          refine lv_aload_n hx hb dX10_take_58 rfl (lv_at hl 1 rfl) ?_
          refine va_get (D := (dC, dI)) (ci := 10) (v := .int (0 + p0)) (C := RX10) (T := TX10) (N := 2) hx hb hwd inA_X10 hown hK hP 0 rfl rfl 0 (by decide) (hwd _ wk_94) (fun _ h9 => h9) rfl dX10_take_59 ?_
          exact W.iret (v := 0 + p0) hx hb hr (fun t ht hW => ⟨⟨(0 + p0), (), rfl, by unfold f_feed; rw [if_neg hn, if_pos c_171], trivial⟩, hS.F ht⟩) hS.2.2 dX10_take_62
        · skip
          refine lv_aload_n hx hb dX10_take_21 rfl (lv_at hl 1 rfl) ?_
          refine va_get (D := (dC, dI)) (ci := 10) (v := .ref (g 1)) (C := RX10) (T := TX10) (N := 2) hx hb hwd inA_X10 hown hK hP 0 rfl rfl 1 (by decide) (hwd _ wk_95) (fun _ h9 => h9) rfl dX10_take_22 ?_
          refine lv_aload_n hx hb dX10_take_25 rfl (lv_at hl 1 rfl) ?_
          refine va_get (D := (dC, dI)) (ci := 10) (v := .int 0) (C := RX10) (T := TX10) (N := 2) hx hb hwd inA_X10 hown hK hP 0 rfl rfl 0 (by decide) (hwd _ wk_94) (fun _ h9 => h9) rfl dX10_take_26 ?_
          refine lv_iload_n hx hb dX10_take_29 rfl (lv_at hl 0 rfl) ?_
          refine lv_iadd hx hb dX10_take_30 ?_
          refine my_top (v := 2) (by decide) ?_
          refine lv_iload_n hx hb dX10_take_31 rfl (lv_at hl 3 rfl) ?_
          refine lv_bipush (v := 8) hx hb dX10_take_32 (by decide) ?_
          refine lv_iload_n hx hb dX10_take_34 rfl (lv_at hl 0 rfl) ?_
          refine lv_imul hx hb dX10_take_35 ?_
          refine my_top (v := 16) (by decide) ?_
          refine lv_ishr hx hb dX10_take_36 ?_
          refine lv_sipush (v := 255) hx hb dX10_take_37 (by decide) ?_
          refine lv_iand hx hb dX10_take_40 ?_
          refine va_iast hx hb hK hP hD hS 1 0 rfl rfl (i := 2) (x := ((p1 >>> (16 &&& 31)) &&& 255)) (vpc (by decide)) dX10_take_41 (fun H locs hP hD hS => ?_)
          have hP : va_P (dC, dI) classes [(h0, .inr (10, o10 g)), (g 1, .inl (cg1, 120, .inl (upd (upd (upd fg1 (Int32.toNatClampNeg 0) ((p1 >>> (0 &&& 31)) &&& 255)) (Int32.toNatClampNeg 1) ((p1 >>> (8 &&& 31)) &&& 255)) (Int32.toNatClampNeg 2) ((p1 >>> (16 &&& 31)) &&& 255))))] H := hP
          have hD : va_D A [(h0, .inr (10, o10 g)), (g 1, .inl (cg1, 120, .inl (upd (upd (upd fg1 (Int32.toNatClampNeg 0) ((p1 >>> (0 &&& 31)) &&& 255)) (Int32.toNatClampNeg 1) ((p1 >>> (8 &&& 31)) &&& 255)) (Int32.toNatClampNeg 2) ((p1 >>> (16 &&& 31)) &&& 255))))] := hD
          refine lv_iinc (v := 3) (lv' := [(3, .int 3), (0, .ref h0), (1, .int p0), (2, .int p1)]) hx hb dX10_take_42 hl (k := 0) rfl (by decide) (by decide) rfl (fun ls hl => ?_)
          refine lv_goto (tgt := 16) hx hb dX10_take_45 (by decide) ?_
          refine lv_iload_n hx hb dX10_take_16 rfl (lv_at hl 0 rfl) ?_
          refine lv_iload_n hx hb dX10_take_17 rfl (lv_at hl 2 rfl) ?_
          refine lv_icmp_ge (tgt := 48) hx hb dX10_take_18 (by decide) (fun c_175 => ?_) (fun c_175 => ?_)
          · skip
            refine lv_aload_n hx hb dX10_take_48 rfl (lv_at hl 1 rfl) ?_
            refine lv_dup hx hb dX10_take_49 rfl ?_
            refine va_get (D := (dC, dI)) (ci := 10) (v := .int 0) (C := RX10) (T := TX10) (N := 2) hx hb hwd inA_X10 hown hK hP 0 rfl rfl 0 (by decide) (hwd _ wk_94) (fun _ h9 => h9) rfl dX10_take_50 ?_
            refine lv_iload_n hx hb dX10_take_53 rfl (lv_at hl 2 rfl) ?_
            refine lv_iadd hx hb dX10_take_54 ?_
            refine va_put (D := (dC, dI)) (ci := 10) (v := .int (0 + p0)) (ty := .int) (C := RX10) (T := TX10) (N := 2) hx hb hwd inA_X10 tyX10 tyX10_ok nmX10 hown hK hP hD hS 0 rfl rfl 0 (by decide) (hwd _ wk_94) (fun _ h9 => h9) rfl (by decide +kernel) rfl rfl (Nat.le_of_ble_eq_true rfl) dX10_take_55 (fun H locs hP hD hS => ?_)
            have hP : va_P (dC, dI) classes [(h0, .inr (10, (o10 g).set 0 (.int (0 + p0)))), (g 1, .inl (cg1, 120, .inl (upd (upd (upd fg1 (Int32.toNatClampNeg 0) ((p1 >>> (0 &&& 31)) &&& 255)) (Int32.toNatClampNeg 1) ((p1 >>> (8 &&& 31)) &&& 255)) (Int32.toNatClampNeg 2) ((p1 >>> (16 &&& 31)) &&& 255))))] H := hP
            have hD : va_D A [(h0, .inr (10, (o10 g).set 0 (.int (0 + p0)))), (g 1, .inl (cg1, 120, .inl (upd (upd (upd fg1 (Int32.toNatClampNeg 0) ((p1 >>> (0 &&& 31)) &&& 255)) (Int32.toNatClampNeg 1) ((p1 >>> (8 &&& 31)) &&& 255)) (Int32.toNatClampNeg 2) ((p1 >>> (16 &&& 31)) &&& 255))))] := hD
            refine lv_aload_n hx hb dX10_take_58 rfl (lv_at hl 1 rfl) ?_
            refine va_get (D := (dC, dI)) (ci := 10) (v := .int (0 + p0)) (C := RX10) (T := TX10) (N := 2) hx hb hwd inA_X10 hown hK hP 0 rfl rfl 0 (by decide) (hwd _ wk_94) (fun _ h9 => h9) rfl dX10_take_59 ?_
            exact W.iret (v := 0 + p0) hx hb hr (fun t ht hW => ⟨⟨(0 + p0), (), rfl, by unfold f_feed; rw [if_neg hn, if_pos c_171], trivial⟩, hS.F ht⟩) hS.2.2 dX10_take_62
          · skip
            refine lv_aload_n hx hb dX10_take_21 rfl (lv_at hl 1 rfl) ?_
            refine va_get (D := (dC, dI)) (ci := 10) (v := .ref (g 1)) (C := RX10) (T := TX10) (N := 2) hx hb hwd inA_X10 hown hK hP 0 rfl rfl 1 (by decide) (hwd _ wk_95) (fun _ h9 => h9) rfl dX10_take_22 ?_
            refine lv_aload_n hx hb dX10_take_25 rfl (lv_at hl 1 rfl) ?_
            refine va_get (D := (dC, dI)) (ci := 10) (v := .int 0) (C := RX10) (T := TX10) (N := 2) hx hb hwd inA_X10 hown hK hP 0 rfl rfl 0 (by decide) (hwd _ wk_94) (fun _ h9 => h9) rfl dX10_take_26 ?_
            refine lv_iload_n hx hb dX10_take_29 rfl (lv_at hl 0 rfl) ?_
            refine lv_iadd hx hb dX10_take_30 ?_
            refine my_top (v := 3) (by decide) ?_
            refine lv_iload_n hx hb dX10_take_31 rfl (lv_at hl 3 rfl) ?_
            refine lv_bipush (v := 8) hx hb dX10_take_32 (by decide) ?_
            refine lv_iload_n hx hb dX10_take_34 rfl (lv_at hl 0 rfl) ?_
            refine lv_imul hx hb dX10_take_35 ?_
            refine my_top (v := 24) (by decide) ?_
            refine lv_ishr hx hb dX10_take_36 ?_
            refine lv_sipush (v := 255) hx hb dX10_take_37 (by decide) ?_
            refine lv_iand hx hb dX10_take_40 ?_
            refine va_iast hx hb hK hP hD hS 1 0 rfl rfl (i := 3) (x := ((p1 >>> (24 &&& 31)) &&& 255)) (vpc (by decide)) dX10_take_41 (fun H locs hP hD hS => ?_)
            have hP : va_P (dC, dI) classes [(h0, .inr (10, o10 g)), (g 1, .inl (cg1, 120, .inl (upd (upd (upd (upd fg1 (Int32.toNatClampNeg 0) ((p1 >>> (0 &&& 31)) &&& 255)) (Int32.toNatClampNeg 1) ((p1 >>> (8 &&& 31)) &&& 255)) (Int32.toNatClampNeg 2) ((p1 >>> (16 &&& 31)) &&& 255)) (Int32.toNatClampNeg 3) ((p1 >>> (24 &&& 31)) &&& 255))))] H := hP
            have hD : va_D A [(h0, .inr (10, o10 g)), (g 1, .inl (cg1, 120, .inl (upd (upd (upd (upd fg1 (Int32.toNatClampNeg 0) ((p1 >>> (0 &&& 31)) &&& 255)) (Int32.toNatClampNeg 1) ((p1 >>> (8 &&& 31)) &&& 255)) (Int32.toNatClampNeg 2) ((p1 >>> (16 &&& 31)) &&& 255)) (Int32.toNatClampNeg 3) ((p1 >>> (24 &&& 31)) &&& 255))))] := hD
            refine lv_iinc (v := 4) (lv' := [(3, .int 4), (0, .ref h0), (1, .int p0), (2, .int p1)]) hx hb dX10_take_42 hl (k := 0) rfl (by decide) (by decide) rfl (fun ls hl => ?_)
            refine lv_goto (tgt := 16) hx hb dX10_take_45 (by decide) ?_
            refine lv_iload_n hx hb dX10_take_16 rfl (lv_at hl 0 rfl) ?_
            refine lv_iload_n hx hb dX10_take_17 rfl (lv_at hl 2 rfl) ?_
            refine lv_icmp_ge (tgt := 48) hx hb dX10_take_18 (by decide) (fun c_176 => ?_) (fun c_176 => ?_)
            · skip
              refine lv_aload_n hx hb dX10_take_48 rfl (lv_at hl 1 rfl) ?_
              refine lv_dup hx hb dX10_take_49 rfl ?_
              refine va_get (D := (dC, dI)) (ci := 10) (v := .int 0) (C := RX10) (T := TX10) (N := 2) hx hb hwd inA_X10 hown hK hP 0 rfl rfl 0 (by decide) (hwd _ wk_94) (fun _ h9 => h9) rfl dX10_take_50 ?_
              refine lv_iload_n hx hb dX10_take_53 rfl (lv_at hl 2 rfl) ?_
              refine lv_iadd hx hb dX10_take_54 ?_
              refine va_put (D := (dC, dI)) (ci := 10) (v := .int (0 + p0)) (ty := .int) (C := RX10) (T := TX10) (N := 2) hx hb hwd inA_X10 tyX10 tyX10_ok nmX10 hown hK hP hD hS 0 rfl rfl 0 (by decide) (hwd _ wk_94) (fun _ h9 => h9) rfl (by decide +kernel) rfl rfl (Nat.le_of_ble_eq_true rfl) dX10_take_55 (fun H locs hP hD hS => ?_)
              have hP : va_P (dC, dI) classes [(h0, .inr (10, (o10 g).set 0 (.int (0 + p0)))), (g 1, .inl (cg1, 120, .inl (upd (upd (upd (upd fg1 (Int32.toNatClampNeg 0) ((p1 >>> (0 &&& 31)) &&& 255)) (Int32.toNatClampNeg 1) ((p1 >>> (8 &&& 31)) &&& 255)) (Int32.toNatClampNeg 2) ((p1 >>> (16 &&& 31)) &&& 255)) (Int32.toNatClampNeg 3) ((p1 >>> (24 &&& 31)) &&& 255))))] H := hP
              have hD : va_D A [(h0, .inr (10, (o10 g).set 0 (.int (0 + p0)))), (g 1, .inl (cg1, 120, .inl (upd (upd (upd (upd fg1 (Int32.toNatClampNeg 0) ((p1 >>> (0 &&& 31)) &&& 255)) (Int32.toNatClampNeg 1) ((p1 >>> (8 &&& 31)) &&& 255)) (Int32.toNatClampNeg 2) ((p1 >>> (16 &&& 31)) &&& 255)) (Int32.toNatClampNeg 3) ((p1 >>> (24 &&& 31)) &&& 255))))] := hD
              refine lv_aload_n hx hb dX10_take_58 rfl (lv_at hl 1 rfl) ?_
              refine va_get (D := (dC, dI)) (ci := 10) (v := .int (0 + p0)) (C := RX10) (T := TX10) (N := 2) hx hb hwd inA_X10 hown hK hP 0 rfl rfl 0 (by decide) (hwd _ wk_94) (fun _ h9 => h9) rfl dX10_take_59 ?_
              exact W.iret (v := 0 + p0) hx hb hr (fun t ht hW => ⟨⟨(0 + p0), (), rfl, by unfold f_feed; rw [if_neg hn, if_pos c_171], trivial⟩, hS.F ht⟩) hS.2.2 dX10_take_62
            · exact absurd (wi_le hn) c_176
  · skip
    refine lv_bipush (v := (-3)) hx hb dX10_take_11 (by decide) ?_
    exact W.iret (v := (-3)) hx hb hr (fun t ht hW => ⟨⟨(-3), (), rfl, by unfold f_feed; rw [if_neg hn, if_neg c_171], trivial⟩, hS.F ht⟩) hS.2.2 dX10_take_13
set_option maxHeartbeats 4000000 in
set_option maxRecDepth 100000 in
theorem c_X11_feed (l : Launch) (dC : Nat → ClassId) (dI : Nat → Nat → Nat) (h0 : Nat) (g : Nat → Nat) (gt : Nat → Nat) (cgt1 : ClassId) (fgt1 : Nat → Int32) (sz : Nat) (p0 : Int32) (p1 : Int32) : Met l yX11_feed (Cond.code yX11_feed cX11_feed 3 (some .int) :: wA) ({ frames := 2, cells := 0, slots := 0, locals := 80 }) (va_Pc [.ref h0, .int p0, .int p1] (fun U => U.heap.size = sz ∧ va_P (dC, dI) classes [(h0, .inr (11, o11 g)), (g 4, .inr (10, o10 gt)), (gt 1, .inl (cgt1, 120, .inl fgt1))] U.heap ∧ va_K (dC, dI) classes [(cgt1, .int)] U ∧ va_D (fun _ => True) [(h0, .inr (11, o11 g)), (g 4, .inr (10, o10 gt)), (gt 1, .inl (cgt1, 120, .inl fgt1))])) (va_Qi (fun (r : Int32) (_ : Unit) => r = f_feed p0) (fun (_ : Unit) (_ : State) => True) (va_A [(h0, .inr (11, o11 g)), (g 4, .inr (10, o10 gt)), (gt 1, .inl (cgt1, 120, .inl fgt1))] sz)) 0 0 (va_A [(h0, .inr (11, o11 g)), (g 4, .inr (10, o10 gt)), (gt 1, .inl (cgt1, 120, .inl fgt1))] sz) := by
  refine Met.ofW (cc := cX11_feed) (maxL := 3) (ret := (some .int)) (by decide) rfl ?_
  intro p e s m args below meth c s₁ B hml hv
  obtain ⟨rfl, hsz, hP, hK, hD0⟩ := hv
  have hx := B.exec
  have hb := B.bytes
  have hr := B.returns
  have hts := atoms_spec (ws := Cond.code yX11_feed cX11_feed 3 (some .int) :: wA) B.pre
  have hwd : ∀ w ∈ wA, w.before _ s = true := fun w h => hts w (List.mem_cons_of_mem _ h)
  have hown : s.vm.findClass RX11 = some m.cls := findClass_of_methodNamed B.named
  have hlocks := B.notSynchronized
  subst hsz
  have hD := hD0.self (sz := s.heap.size)
  generalize hAe : va_A [(h0, .inr (11, o11 g)), (g 4, .inr (10, o10 gt)), (gt 1, .inl (cgt1, 120, .inl fgt1))] s.heap.size = A at hD ⊢
  have hA : ∀ q : Nat, s.heap.size ≤ q → A q := fun q h => by rw [← hAe]; exact Or.inr h
  have hS : va_S A s.heap s.heap [] := va_S.rf
  have hP : va_P (dC, dI) classes [(h0, .inr (11, o11 g)), (g 4, .inr (10, o10 gt)), (gt 1, .inl (cgt1, 120, .inl fgt1))] s.heap := hP
  have hl := lv_entry ([.ref h0, .int p0, .int p1]) (n := 3) (Nat.le_of_ble_eq_true rfl)
  rw [lg_entry_eq]
  generalize (lg_sl ([.ref h0, .int p0, .int p1]) ++ List.replicate (3 - (lg_sl ([.ref h0, .int p0, .int p1])).length) Slot.unset).toArray = ls at hl ⊢
  have hl : lv_has ls 3 [(0, .ref h0), (1, .int p0), (2, .int p1)] := hl
  obtain ⟨H, eH⟩ : ∃ z, z = s.heap := ⟨_, rfl⟩
  have hP : va_P (dC, dI) classes [(h0, .inr (11, o11 g)), (g 4, .inr (10, o10 gt)), (gt 1, .inl (cgt1, 120, .inl fgt1))] H := by rw [eH]; exact hP
  have hS : va_S A s.heap H [] := by rw [eH]; exact va_S.rf
  refine my_heap eH ?_
  refine lv_iload_n hx hb dX11_feed_0 rfl (lv_at hl 1 rfl) ?_
  refine lv_iconst (v := 1) hx hb dX11_feed_1 (by decide) ?_
  refine lv_iconst (v := 4) hx hb dX11_feed_2 (by decide) ?_
  have hPc := hP.sub (ws' := []) [] rfl
  have hDc := hD.sub (ws' := []) [] (by decide) rfl
  have hKc := hK.sub (tys' := []) [] rfl
  have hFc := va_free (wc := []) hD hS hA [] rfl
  refine va_calli (va_runS (As := [.int p0, .int 1, .int 4]) (rest := []) ⟨hx, hb, hml, hown, hwd⟩ (c_X11_within l dC dI  H.size p0 1 4) (va_cwS 3 hwd (gT wk_0 wk_1 wk_2 wk_3) rfl rfl rfl (by decide +kernel) ⟨Nat.le_of_ble_eq_true rfl, Nat.le_of_ble_eq_true rfl⟩) ⟨fun a U g mk q => by obtain ⟨q0, q1, qP, qK, qD⟩ := q; exact ⟨q0, q1, qP, va_K.moved (u := U) (U := U.calling g mk a) (Vm.Alike.refl U.vm) qK, qD⟩, fun U hU hW => ⟨rfl, by rw [hU], by rw [hU]; exact hPc, va_K.moved hW.alike hKc, hDc.weaken (fun _ _ _ _ => trivial)⟩⟩ rfl rfl hl.1 rfl (lv_room (Nat.le_of_ble_eq_true rfl)) dX11_feed_3 ⟨Nat.le_of_ble_eq_true rfl, Nat.le_of_ble_eq_true rfl⟩) hS (fun q _ h => hFc q h) hFc (fun r_177 u t H1 locs ht hvm hw hB hz1 hk1 hS => ?_)
  obtain ⟨hP1, hK1, hD1⟩ := hB
  rw [ht] at hP1
  obtain ⟨hP, hD⟩ := va_join (wr := [(h0, .inr (11, o11 g)), (g 4, .inr (10, o10 gt)), (gt 1, .inl (cgt1, 120, .inl fgt1))]) (w1 := []) hP hD [] [0, 1, 2] rfl rfl (by decide) (by decide) hk1 hFc hP1 hD1
  generalize H1 = H at hP hS ⊢
  have hP : va_P (dC, dI) classes [(h0, .inr (11, o11 g)), (g 4, .inr (10, o10 gt)), (gt 1, .inl (cgt1, 120, .inl fgt1))] H := hP
  have hD : va_D A [(h0, .inr (11, o11 g)), (g 4, .inr (10, o10 gt)), (gt 1, .inl (cgt1, 120, .inl fgt1))] := hD
  try dsimp only at hw
  subst hw
  refine lv_if_ne (tgt := 11) hx hb dX11_feed_6 (by decide) (fun c_178 => ?_) (fun c_178 => ?_)
  · skip
    refine lv_aload_n hx hb dX11_feed_11 rfl (lv_at hl 0 rfl) ?_
    refine va_get (D := (dC, dI)) (ci := 11) (v := .ref (g 4)) (C := RX11) (T := TX11) (N := 14) hx hb hwd inA_X11 hown hK hP 0 rfl rfl 4 (by decide) (hwd _ wk_96) (fun _ h9 => h9) rfl dX11_feed_12 ?_
    refine lv_iload_n hx hb dX11_feed_15 rfl (lv_at hl 1 rfl) ?_
    refine lv_iload_n hx hb dX11_feed_16 rfl (lv_at hl 2 rfl) ?_
    have hPc := hP.sub (ws' := [(g 4, .inr (10, o10 gt)), (gt 1, .inl (cgt1, 120, .inl fgt1))]) [1, 2] rfl
    have hDc := hD.sub (ws' := [(g 4, .inr (10, o10 gt)), (gt 1, .inl (cgt1, 120, .inl fgt1))]) [1, 2] (by decide) rfl
    have hKc := hK.sub (tys' := [(cgt1, .int)]) [0] rfl
    have hFc := va_free (wc := [(g 4, .inr (10, o10 gt)), (gt 1, .inl (cgt1, 120, .inl fgt1))]) hD hS hA [1, 2] rfl
    refine va_calli (va_runV (As := [.int p0, .int p1]) (rest := []) ⟨hx, hb, hml, hown, hwd⟩ (c_X10_take l dC dI (g 4) gt cgt1 fgt1 H.size p0 p1 c_178) (cwV 2 hwd (gV wk_97 wk_98 wk_99 wk_100 wk_101) rfl rfl rfl (by decide +kernel) ⟨Nat.le_of_ble_eq_true rfl, Nat.le_of_ble_eq_true rfl⟩) ⟨fun a U g mk q => by obtain ⟨q0, q1, qP, qK, qD⟩ := q; exact ⟨q0, q1, qP, va_K.moved (u := U) (U := U.calling g mk a) (Vm.Alike.refl U.vm) qK, qD⟩, va_recv hKc hPc (ci := 10) (q0 := 0) rfl rfl, fun U hU hW => ⟨rfl, by rw [hU], by rw [hU]; exact hPc, va_K.moved hW.alike hKc, hDc.weaken (fun _ _ _ _ => trivial)⟩⟩ rfl rfl hl.1 rfl (lv_room (Nat.le_of_ble_eq_true rfl)) dX11_feed_17 ⟨Nat.le_of_ble_eq_true rfl, Nat.le_of_ble_eq_true rfl⟩) hS (fun q _ h => hFc q h) hFc (fun r_179 u t H1 locs ht hvm hw hB hz1 hk1 hS => ?_)
    have hP1 : va_P (dC, dI) classes [] H1 := fun k q h => by simp at h
    have hD1 : va_D (va_A [(g 4, .inr (10, o10 gt)), (gt 1, .inl (cgt1, 120, .inl fgt1))] H.size) [] := ⟨fun i j p q h => by simp at h, fun k q h => by simp at h⟩
    obtain ⟨hP, hD⟩ := va_join (wr := [(h0, .inr (11, o11 g))]) (w1 := []) hP hD [1, 2] [0] rfl rfl (by decide) (by decide) hk1 hFc hP1 hD1
    generalize H1 = H at hP hS ⊢
    have hP : va_P (dC, dI) classes [(h0, .inr (11, o11 g))] H := hP
    have hD : va_D A [(h0, .inr (11, o11 g))] := hD
    try dsimp only at hw
    subst hw
    exact W.iret (v := f_feed p0) hx hb hr (fun t ht hW => ⟨⟨(f_feed p0), (), rfl, rfl, trivial⟩, hS.F ht⟩) hS.2.2 dX11_feed_20
  · skip
    refine lv_iconst (v := (-1)) hx hb dX11_feed_9 (by decide) ?_
    exact W.iret (v := (-1)) hx hb hr (fun t ht hW => ⟨⟨(-1), (), rfl, by unfold f_feed; rw [if_pos c_178], trivial⟩, hS.F ht⟩) hS.2.2 dX11_feed_10
set_option maxHeartbeats 4000000 in
set_option maxRecDepth 100000 in
theorem c_X12_feed (l : Launch) (dC : Nat → ClassId) (dI : Nat → Nat → Nat) (h0 : Nat) (g : Nat → Nat) (c29 : ClassId) (f29 : Nat → Int32) (sz : Nat) (p0 : Int32) (p1 : Int32) : Met l yX12_feed (Cond.code yX12_feed cX12_feed 4 (some .int) :: wA) ({ frames := 2, cells := 0, slots := 0, locals := 80 }) (va_Pc [.ref h0, .int p0, .int p1] (fun U => U.heap.size = sz ∧ va_P (dC, dI) classes [(h0, .inr (12, oM g 0)), (g 29, .inl (c29, 120, .inl f29))] U.heap ∧ va_K (dC, dI) classes [(c29, .byte)] U ∧ va_D (fun _ => True) [(h0, .inr (12, oM g 0)), (g 29, .inl (c29, 120, .inl f29))])) (va_Qi (fun (r : Int32) (_ : Unit) => r = f_feed p0) (fun (_ : Unit) (_ : State) => True) (va_A [(h0, .inr (12, oM g 0)), (g 29, .inl (c29, 120, .inl f29))] sz)) 0 0 (va_A [(h0, .inr (12, oM g 0)), (g 29, .inl (c29, 120, .inl f29))] sz) := by
  refine Met.ofW (cc := cX12_feed) (maxL := 4) (ret := (some .int)) (by decide) rfl ?_
  intro p e s m args below meth c s₁ B hml hv
  obtain ⟨rfl, hsz, hP, hK, hD0⟩ := hv
  have hx := B.exec
  have hb := B.bytes
  have hr := B.returns
  have hts := atoms_spec (ws := Cond.code yX12_feed cX12_feed 4 (some .int) :: wA) B.pre
  have hwd : ∀ w ∈ wA, w.before _ s = true := fun w h => hts w (List.mem_cons_of_mem _ h)
  have hown : s.vm.findClass RX12 = some m.cls := findClass_of_methodNamed B.named
  have hlocks := B.notSynchronized
  subst hsz
  have hD := hD0.self (sz := s.heap.size)
  generalize hAe : va_A [(h0, .inr (12, oM g 0)), (g 29, .inl (c29, 120, .inl f29))] s.heap.size = A at hD ⊢
  have hA : ∀ q : Nat, s.heap.size ≤ q → A q := fun q h => by rw [← hAe]; exact Or.inr h
  have hS : va_S A s.heap s.heap [] := va_S.rf
  have hP : va_P (dC, dI) classes [(h0, .inr (12, oM g 0)), (g 29, .inl (c29, 120, .inl f29))] s.heap := hP
  have hl := lv_entry ([.ref h0, .int p0, .int p1]) (n := 4) (Nat.le_of_ble_eq_true rfl)
  rw [lg_entry_eq]
  generalize (lg_sl ([.ref h0, .int p0, .int p1]) ++ List.replicate (4 - (lg_sl ([.ref h0, .int p0, .int p1])).length) Slot.unset).toArray = ls at hl ⊢
  have hl : lv_has ls 4 [(0, .ref h0), (1, .int p0), (2, .int p1)] := hl
  obtain ⟨H, eH⟩ : ∃ z, z = s.heap := ⟨_, rfl⟩
  have hP : va_P (dC, dI) classes [(h0, .inr (12, oM g 0)), (g 29, .inl (c29, 120, .inl f29))] H := by rw [eH]; exact hP
  have hS : va_S A s.heap H [] := by rw [eH]; exact va_S.rf
  refine my_heap eH ?_
  refine lv_iload_n hx hb dX12_feed_0 rfl (lv_at hl 1 rfl) ?_
  refine lv_iconst (v := 1) hx hb dX12_feed_1 (by decide) ?_
  refine lv_iconst (v := 4) hx hb dX12_feed_2 (by decide) ?_
  have hPc := hP.sub (ws' := []) [] rfl
  have hDc := hD.sub (ws' := []) [] (by decide) rfl
  have hKc := hK.sub (tys' := []) [] rfl
  have hFc := va_free (wc := []) hD hS hA [] rfl
  refine va_calli (va_runS (As := [.int p0, .int 1, .int 4]) (rest := []) ⟨hx, hb, hml, hown, hwd⟩ (c_X12_in l dC dI  H.size p0 1 4) (va_cwS 3 hwd (gT wk_5 wk_6 wk_7 wk_8) rfl rfl rfl (by decide +kernel) ⟨Nat.le_of_ble_eq_true rfl, Nat.le_of_ble_eq_true rfl⟩) ⟨fun a U g mk q => by obtain ⟨q0, q1, qP, qK, qD⟩ := q; exact ⟨q0, q1, qP, va_K.moved (u := U) (U := U.calling g mk a) (Vm.Alike.refl U.vm) qK, qD⟩, fun U hU hW => ⟨rfl, by rw [hU], by rw [hU]; exact hPc, va_K.moved hW.alike hKc, hDc.weaken (fun _ _ _ _ => trivial)⟩⟩ rfl rfl hl.1 rfl (lv_room (Nat.le_of_ble_eq_true rfl)) dX12_feed_3 ⟨Nat.le_of_ble_eq_true rfl, Nat.le_of_ble_eq_true rfl⟩) hS (fun q _ h => hFc q h) hFc (fun r_180 u t H1 locs ht hvm hw hB hz1 hk1 hS => ?_)
  obtain ⟨hP1, hK1, hD1⟩ := hB
  rw [ht] at hP1
  obtain ⟨hP, hD⟩ := va_join (wr := [(h0, .inr (12, oM g 0)), (g 29, .inl (c29, 120, .inl f29))]) (w1 := []) hP hD [] [0, 1] rfl rfl (by decide) (by decide) hk1 hFc hP1 hD1
  generalize H1 = H at hP hS ⊢
  have hP : va_P (dC, dI) classes [(h0, .inr (12, oM g 0)), (g 29, .inl (c29, 120, .inl f29))] H := hP
  have hD : va_D A [(h0, .inr (12, oM g 0)), (g 29, .inl (c29, 120, .inl f29))] := hD
  try dsimp only at hw
  subst hw
  refine lv_if_ne (tgt := 11) hx hb dX12_feed_6 (by decide) (fun c_181 => ?_) (fun c_181 => ?_)
  · skip
    refine lv_aload_n hx hb dX12_feed_11 rfl (lv_at hl 0 rfl) ?_
    refine va_get (D := (dC, dI)) (ci := 12) (v := .int 0) (C := RX12) (T := TX12) (N := 63) hx hb hwd inA_X12 hown hK hP 0 rfl rfl 30 (by decide) (hwd _ wk_102) (fun _ h9 => h9) rfl dX12_feed_12 ?_
    refine lv_iload_n hx hb dX12_feed_15 rfl (lv_at hl 1 rfl) ?_
    refine lv_iadd hx hb dX12_feed_16 ?_
    refine lv_bipush (v := 120) hx hb dX12_feed_17 (by decide) ?_
    refine lv_icmp_le (tgt := 25) hx hb dX12_feed_19 (by decide) (fun c_182 => ?_) (fun c_182 => ?_)
    · skip
      refine lv_iconst (v := 0) hx hb dX12_feed_25 (by decide) ?_
      refine lv_istore_n (lv' := [(3, .int 0), (0, .ref h0), (1, .int p0), (2, .int p1)]) hx hb dX12_feed_26 rfl hl (by decide) rfl (fun ls hl => ?_)
      refine lv_iload_n hx hb dX12_feed_27 rfl (lv_at hl 0 rfl) ?_
      refine lv_iload_n hx hb dX12_feed_28 rfl (lv_at hl 2 rfl) ?_
      refine lv_icmp_ge (tgt := 64) hx hb dX12_feed_29 (by decide) (fun c_183 => ?_) (fun c_183 => ?_)
      · exact absurd c_183 (wi_pos c_181)
      · skip
        refine lv_aload_n hx hb dX12_feed_32 rfl (lv_at hl 1 rfl) ?_
        refine va_get (D := (dC, dI)) (ci := 12) (v := .ref (g 29)) (C := RX12) (T := TX12) (N := 63) hx hb hwd inA_X12 hown hK hP 0 rfl rfl 29 (by decide) (hwd _ wk_103) (fun _ h9 => h9) rfl dX12_feed_33 ?_
        refine lv_aload_n hx hb dX12_feed_36 rfl (lv_at hl 1 rfl) ?_
        refine va_get (D := (dC, dI)) (ci := 12) (v := .int 0) (C := RX12) (T := TX12) (N := 63) hx hb hwd inA_X12 hown hK hP 0 rfl rfl 30 (by decide) (hwd _ wk_102) (fun _ h9 => h9) rfl dX12_feed_37 ?_
        refine lv_iload_n hx hb dX12_feed_40 rfl (lv_at hl 3 rfl) ?_
        refine lv_bipush (v := 8) hx hb dX12_feed_41 (by decide) ?_
        refine lv_iload_n hx hb dX12_feed_43 rfl (lv_at hl 0 rfl) ?_
        refine lv_imul hx hb dX12_feed_44 ?_
        refine my_top (v := 0) (by decide) ?_
        refine lv_ishr hx hb dX12_feed_45 ?_
        refine lv_i2b hx hb dX12_feed_46 rfl ?_
        refine va_bast hx hb hK hP hD hS 1 0 rfl rfl (i := 0) (x := ((p1 >>> (0 &&& 31)).toInt8.toInt32)) (vpc (by decide)) dX12_feed_47 (fun H locs hP hD hS => ?_)
        have hP : va_P (dC, dI) classes [(h0, .inr (12, oM g 0)), (g 29, .inl (c29, 120, .inl (upd f29 (Int32.toNatClampNeg 0) (vp_nar .byte ((p1 >>> (0 &&& 31)).toInt8.toInt32)))))] H := hP
        have hD : va_D A [(h0, .inr (12, oM g 0)), (g 29, .inl (c29, 120, .inl (upd f29 (Int32.toNatClampNeg 0) (vp_nar .byte ((p1 >>> (0 &&& 31)).toInt8.toInt32)))))] := hD
        refine lv_aload_n hx hb dX12_feed_48 rfl (lv_at hl 1 rfl) ?_
        refine lv_dup hx hb dX12_feed_49 rfl ?_
        refine va_get (D := (dC, dI)) (ci := 12) (v := .int 0) (C := RX12) (T := TX12) (N := 63) hx hb hwd inA_X12 hown hK hP 0 rfl rfl 30 (by decide) (hwd _ wk_102) (fun _ h9 => h9) rfl dX12_feed_50 ?_
        refine lv_iconst (v := 1) hx hb dX12_feed_53 (by decide) ?_
        refine lv_iadd hx hb dX12_feed_54 ?_
        refine my_top (v := 1) (by decide) ?_
        refine va_put (D := (dC, dI)) (ci := 12) (v := .int 1) (ty := .int) (C := RX12) (T := TX12) (N := 63) hx hb hwd inA_X12 tyX12 tyX12_ok nmX12 hown hK hP hD hS 0 rfl rfl 30 (by decide) (hwd _ wk_102) (fun _ h9 => h9) rfl (by decide +kernel) rfl rfl (Nat.le_of_ble_eq_true rfl) dX12_feed_55 (fun H locs hP hD hS => ?_)
        have hP : va_P (dC, dI) classes [(h0, .inr (12, (oM g 0).set 30 (.int 1))), (g 29, .inl (c29, 120, .inl (upd f29 (Int32.toNatClampNeg 0) (vp_nar .byte ((p1 >>> (0 &&& 31)).toInt8.toInt32)))))] H := hP
        have hD : va_D A [(h0, .inr (12, (oM g 0).set 30 (.int 1))), (g 29, .inl (c29, 120, .inl (upd f29 (Int32.toNatClampNeg 0) (vp_nar .byte ((p1 >>> (0 &&& 31)).toInt8.toInt32)))))] := hD
        refine lv_iinc (v := 1) (lv' := [(3, .int 1), (0, .ref h0), (1, .int p0), (2, .int p1)]) hx hb dX12_feed_58 hl (k := 0) rfl (by decide) (by decide) rfl (fun ls hl => ?_)
        refine lv_goto (tgt := 27) hx hb dX12_feed_61 (by decide) ?_
        refine lv_iload_n hx hb dX12_feed_27 rfl (lv_at hl 0 rfl) ?_
        refine lv_iload_n hx hb dX12_feed_28 rfl (lv_at hl 2 rfl) ?_
        refine lv_icmp_ge (tgt := 64) hx hb dX12_feed_29 (by decide) (fun c_184 => ?_) (fun c_184 => ?_)
        · skip
          refine lv_aload_n hx hb dX12_feed_64 rfl (lv_at hl 1 rfl) ?_
          refine va_get (D := (dC, dI)) (ci := 12) (v := .int 1) (C := RX12) (T := TX12) (N := 63) hx hb hwd inA_X12 hown hK hP 0 rfl rfl 30 (by decide) (hwd _ wk_102) (fun _ h9 => h9) rfl dX12_feed_65 ?_
          exact W.iret (v := 1) hx hb hr (fun t ht hW => ⟨⟨1, (), rfl, by have e9 := i32_sand c_183 c_184 (by decide); subst e9; decide, trivial⟩, hS.F ht⟩) hS.2.2 dX12_feed_68
        · skip
          refine lv_aload_n hx hb dX12_feed_32 rfl (lv_at hl 1 rfl) ?_
          refine va_get (D := (dC, dI)) (ci := 12) (v := .ref (g 29)) (C := RX12) (T := TX12) (N := 63) hx hb hwd inA_X12 hown hK hP 0 rfl rfl 29 (by decide) (hwd _ wk_103) (fun _ h9 => h9) rfl dX12_feed_33 ?_
          refine lv_aload_n hx hb dX12_feed_36 rfl (lv_at hl 1 rfl) ?_
          refine va_get (D := (dC, dI)) (ci := 12) (v := .int 1) (C := RX12) (T := TX12) (N := 63) hx hb hwd inA_X12 hown hK hP 0 rfl rfl 30 (by decide) (hwd _ wk_102) (fun _ h9 => h9) rfl dX12_feed_37 ?_
          refine lv_iload_n hx hb dX12_feed_40 rfl (lv_at hl 3 rfl) ?_
          refine lv_bipush (v := 8) hx hb dX12_feed_41 (by decide) ?_
          refine lv_iload_n hx hb dX12_feed_43 rfl (lv_at hl 0 rfl) ?_
          refine lv_imul hx hb dX12_feed_44 ?_
          refine my_top (v := 8) (by decide) ?_
          refine lv_ishr hx hb dX12_feed_45 ?_
          refine lv_i2b hx hb dX12_feed_46 rfl ?_
          refine va_bast hx hb hK hP hD hS 1 0 rfl rfl (i := 1) (x := ((p1 >>> (8 &&& 31)).toInt8.toInt32)) (vpc (by decide)) dX12_feed_47 (fun H locs hP hD hS => ?_)
          have hP : va_P (dC, dI) classes [(h0, .inr (12, (oM g 0).set 30 (.int 1))), (g 29, .inl (c29, 120, .inl (upd (upd f29 (Int32.toNatClampNeg 0) (vp_nar .byte ((p1 >>> (0 &&& 31)).toInt8.toInt32))) (Int32.toNatClampNeg 1) (vp_nar .byte ((p1 >>> (8 &&& 31)).toInt8.toInt32)))))] H := hP
          have hD : va_D A [(h0, .inr (12, (oM g 0).set 30 (.int 1))), (g 29, .inl (c29, 120, .inl (upd (upd f29 (Int32.toNatClampNeg 0) (vp_nar .byte ((p1 >>> (0 &&& 31)).toInt8.toInt32))) (Int32.toNatClampNeg 1) (vp_nar .byte ((p1 >>> (8 &&& 31)).toInt8.toInt32)))))] := hD
          refine lv_aload_n hx hb dX12_feed_48 rfl (lv_at hl 1 rfl) ?_
          refine lv_dup hx hb dX12_feed_49 rfl ?_
          refine va_get (D := (dC, dI)) (ci := 12) (v := .int 1) (C := RX12) (T := TX12) (N := 63) hx hb hwd inA_X12 hown hK hP 0 rfl rfl 30 (by decide) (hwd _ wk_102) (fun _ h9 => h9) rfl dX12_feed_50 ?_
          refine lv_iconst (v := 1) hx hb dX12_feed_53 (by decide) ?_
          refine lv_iadd hx hb dX12_feed_54 ?_
          refine my_top (v := 2) (by decide) ?_
          refine va_put (D := (dC, dI)) (ci := 12) (v := .int 2) (ty := .int) (C := RX12) (T := TX12) (N := 63) hx hb hwd inA_X12 tyX12 tyX12_ok nmX12 hown hK hP hD hS 0 rfl rfl 30 (by decide) (hwd _ wk_102) (fun _ h9 => h9) rfl (by decide +kernel) rfl rfl (Nat.le_of_ble_eq_true rfl) dX12_feed_55 (fun H locs hP hD hS => ?_)
          have hP : va_P (dC, dI) classes [(h0, .inr (12, ((oM g 0).set 30 (.int 1)).set 30 (.int 2))), (g 29, .inl (c29, 120, .inl (upd (upd f29 (Int32.toNatClampNeg 0) (vp_nar .byte ((p1 >>> (0 &&& 31)).toInt8.toInt32))) (Int32.toNatClampNeg 1) (vp_nar .byte ((p1 >>> (8 &&& 31)).toInt8.toInt32)))))] H := hP
          have hD : va_D A [(h0, .inr (12, ((oM g 0).set 30 (.int 1)).set 30 (.int 2))), (g 29, .inl (c29, 120, .inl (upd (upd f29 (Int32.toNatClampNeg 0) (vp_nar .byte ((p1 >>> (0 &&& 31)).toInt8.toInt32))) (Int32.toNatClampNeg 1) (vp_nar .byte ((p1 >>> (8 &&& 31)).toInt8.toInt32)))))] := hD
          refine lv_iinc (v := 2) (lv' := [(3, .int 2), (0, .ref h0), (1, .int p0), (2, .int p1)]) hx hb dX12_feed_58 hl (k := 0) rfl (by decide) (by decide) rfl (fun ls hl => ?_)
          refine lv_goto (tgt := 27) hx hb dX12_feed_61 (by decide) ?_
          refine lv_iload_n hx hb dX12_feed_27 rfl (lv_at hl 0 rfl) ?_
          refine lv_iload_n hx hb dX12_feed_28 rfl (lv_at hl 2 rfl) ?_
          refine lv_icmp_ge (tgt := 64) hx hb dX12_feed_29 (by decide) (fun c_185 => ?_) (fun c_185 => ?_)
          · skip
            refine lv_aload_n hx hb dX12_feed_64 rfl (lv_at hl 1 rfl) ?_
            refine va_get (D := (dC, dI)) (ci := 12) (v := .int 2) (C := RX12) (T := TX12) (N := 63) hx hb hwd inA_X12 hown hK hP 0 rfl rfl 30 (by decide) (hwd _ wk_102) (fun _ h9 => h9) rfl dX12_feed_65 ?_
            exact W.iret (v := 2) hx hb hr (fun t ht hW => ⟨⟨2, (), rfl, by have e9 := i32_sand c_184 c_185 (by decide); subst e9; decide, trivial⟩, hS.F ht⟩) hS.2.2 dX12_feed_68
          · skip
            refine lv_aload_n hx hb dX12_feed_32 rfl (lv_at hl 1 rfl) ?_
            refine va_get (D := (dC, dI)) (ci := 12) (v := .ref (g 29)) (C := RX12) (T := TX12) (N := 63) hx hb hwd inA_X12 hown hK hP 0 rfl rfl 29 (by decide) (hwd _ wk_103) (fun _ h9 => h9) rfl dX12_feed_33 ?_
            refine lv_aload_n hx hb dX12_feed_36 rfl (lv_at hl 1 rfl) ?_
            refine va_get (D := (dC, dI)) (ci := 12) (v := .int 2) (C := RX12) (T := TX12) (N := 63) hx hb hwd inA_X12 hown hK hP 0 rfl rfl 30 (by decide) (hwd _ wk_102) (fun _ h9 => h9) rfl dX12_feed_37 ?_
            refine lv_iload_n hx hb dX12_feed_40 rfl (lv_at hl 3 rfl) ?_
            refine lv_bipush (v := 8) hx hb dX12_feed_41 (by decide) ?_
            refine lv_iload_n hx hb dX12_feed_43 rfl (lv_at hl 0 rfl) ?_
            refine lv_imul hx hb dX12_feed_44 ?_
            refine my_top (v := 16) (by decide) ?_
            refine lv_ishr hx hb dX12_feed_45 ?_
            refine lv_i2b hx hb dX12_feed_46 rfl ?_
            refine va_bast hx hb hK hP hD hS 1 0 rfl rfl (i := 2) (x := ((p1 >>> (16 &&& 31)).toInt8.toInt32)) (vpc (by decide)) dX12_feed_47 (fun H locs hP hD hS => ?_)
            have hP : va_P (dC, dI) classes [(h0, .inr (12, ((oM g 0).set 30 (.int 1)).set 30 (.int 2))), (g 29, .inl (c29, 120, .inl (upd (upd (upd f29 (Int32.toNatClampNeg 0) (vp_nar .byte ((p1 >>> (0 &&& 31)).toInt8.toInt32))) (Int32.toNatClampNeg 1) (vp_nar .byte ((p1 >>> (8 &&& 31)).toInt8.toInt32))) (Int32.toNatClampNeg 2) (vp_nar .byte ((p1 >>> (16 &&& 31)).toInt8.toInt32)))))] H := hP
            have hD : va_D A [(h0, .inr (12, ((oM g 0).set 30 (.int 1)).set 30 (.int 2))), (g 29, .inl (c29, 120, .inl (upd (upd (upd f29 (Int32.toNatClampNeg 0) (vp_nar .byte ((p1 >>> (0 &&& 31)).toInt8.toInt32))) (Int32.toNatClampNeg 1) (vp_nar .byte ((p1 >>> (8 &&& 31)).toInt8.toInt32))) (Int32.toNatClampNeg 2) (vp_nar .byte ((p1 >>> (16 &&& 31)).toInt8.toInt32)))))] := hD
            refine lv_aload_n hx hb dX12_feed_48 rfl (lv_at hl 1 rfl) ?_
            refine lv_dup hx hb dX12_feed_49 rfl ?_
            refine va_get (D := (dC, dI)) (ci := 12) (v := .int 2) (C := RX12) (T := TX12) (N := 63) hx hb hwd inA_X12 hown hK hP 0 rfl rfl 30 (by decide) (hwd _ wk_102) (fun _ h9 => h9) rfl dX12_feed_50 ?_
            refine lv_iconst (v := 1) hx hb dX12_feed_53 (by decide) ?_
            refine lv_iadd hx hb dX12_feed_54 ?_
            refine my_top (v := 3) (by decide) ?_
            refine va_put (D := (dC, dI)) (ci := 12) (v := .int 3) (ty := .int) (C := RX12) (T := TX12) (N := 63) hx hb hwd inA_X12 tyX12 tyX12_ok nmX12 hown hK hP hD hS 0 rfl rfl 30 (by decide) (hwd _ wk_102) (fun _ h9 => h9) rfl (by decide +kernel) rfl rfl (Nat.le_of_ble_eq_true rfl) dX12_feed_55 (fun H locs hP hD hS => ?_)
            have hP : va_P (dC, dI) classes [(h0, .inr (12, (((oM g 0).set 30 (.int 1)).set 30 (.int 2)).set 30 (.int 3))), (g 29, .inl (c29, 120, .inl (upd (upd (upd f29 (Int32.toNatClampNeg 0) (vp_nar .byte ((p1 >>> (0 &&& 31)).toInt8.toInt32))) (Int32.toNatClampNeg 1) (vp_nar .byte ((p1 >>> (8 &&& 31)).toInt8.toInt32))) (Int32.toNatClampNeg 2) (vp_nar .byte ((p1 >>> (16 &&& 31)).toInt8.toInt32)))))] H := hP
            have hD : va_D A [(h0, .inr (12, (((oM g 0).set 30 (.int 1)).set 30 (.int 2)).set 30 (.int 3))), (g 29, .inl (c29, 120, .inl (upd (upd (upd f29 (Int32.toNatClampNeg 0) (vp_nar .byte ((p1 >>> (0 &&& 31)).toInt8.toInt32))) (Int32.toNatClampNeg 1) (vp_nar .byte ((p1 >>> (8 &&& 31)).toInt8.toInt32))) (Int32.toNatClampNeg 2) (vp_nar .byte ((p1 >>> (16 &&& 31)).toInt8.toInt32)))))] := hD
            refine lv_iinc (v := 3) (lv' := [(3, .int 3), (0, .ref h0), (1, .int p0), (2, .int p1)]) hx hb dX12_feed_58 hl (k := 0) rfl (by decide) (by decide) rfl (fun ls hl => ?_)
            refine lv_goto (tgt := 27) hx hb dX12_feed_61 (by decide) ?_
            refine lv_iload_n hx hb dX12_feed_27 rfl (lv_at hl 0 rfl) ?_
            refine lv_iload_n hx hb dX12_feed_28 rfl (lv_at hl 2 rfl) ?_
            refine lv_icmp_ge (tgt := 64) hx hb dX12_feed_29 (by decide) (fun c_186 => ?_) (fun c_186 => ?_)
            · skip
              refine lv_aload_n hx hb dX12_feed_64 rfl (lv_at hl 1 rfl) ?_
              refine va_get (D := (dC, dI)) (ci := 12) (v := .int 3) (C := RX12) (T := TX12) (N := 63) hx hb hwd inA_X12 hown hK hP 0 rfl rfl 30 (by decide) (hwd _ wk_102) (fun _ h9 => h9) rfl dX12_feed_65 ?_
              exact W.iret (v := 3) hx hb hr (fun t ht hW => ⟨⟨3, (), rfl, by have e9 := i32_sand c_185 c_186 (by decide); subst e9; decide, trivial⟩, hS.F ht⟩) hS.2.2 dX12_feed_68
            · skip
              refine lv_aload_n hx hb dX12_feed_32 rfl (lv_at hl 1 rfl) ?_
              refine va_get (D := (dC, dI)) (ci := 12) (v := .ref (g 29)) (C := RX12) (T := TX12) (N := 63) hx hb hwd inA_X12 hown hK hP 0 rfl rfl 29 (by decide) (hwd _ wk_103) (fun _ h9 => h9) rfl dX12_feed_33 ?_
              refine lv_aload_n hx hb dX12_feed_36 rfl (lv_at hl 1 rfl) ?_
              refine va_get (D := (dC, dI)) (ci := 12) (v := .int 3) (C := RX12) (T := TX12) (N := 63) hx hb hwd inA_X12 hown hK hP 0 rfl rfl 30 (by decide) (hwd _ wk_102) (fun _ h9 => h9) rfl dX12_feed_37 ?_
              refine lv_iload_n hx hb dX12_feed_40 rfl (lv_at hl 3 rfl) ?_
              refine lv_bipush (v := 8) hx hb dX12_feed_41 (by decide) ?_
              refine lv_iload_n hx hb dX12_feed_43 rfl (lv_at hl 0 rfl) ?_
              refine lv_imul hx hb dX12_feed_44 ?_
              refine my_top (v := 24) (by decide) ?_
              refine lv_ishr hx hb dX12_feed_45 ?_
              refine lv_i2b hx hb dX12_feed_46 rfl ?_
              refine va_bast hx hb hK hP hD hS 1 0 rfl rfl (i := 3) (x := ((p1 >>> (24 &&& 31)).toInt8.toInt32)) (vpc (by decide)) dX12_feed_47 (fun H locs hP hD hS => ?_)
              have hP : va_P (dC, dI) classes [(h0, .inr (12, (((oM g 0).set 30 (.int 1)).set 30 (.int 2)).set 30 (.int 3))), (g 29, .inl (c29, 120, .inl (upd (upd (upd (upd f29 (Int32.toNatClampNeg 0) (vp_nar .byte ((p1 >>> (0 &&& 31)).toInt8.toInt32))) (Int32.toNatClampNeg 1) (vp_nar .byte ((p1 >>> (8 &&& 31)).toInt8.toInt32))) (Int32.toNatClampNeg 2) (vp_nar .byte ((p1 >>> (16 &&& 31)).toInt8.toInt32))) (Int32.toNatClampNeg 3) (vp_nar .byte ((p1 >>> (24 &&& 31)).toInt8.toInt32)))))] H := hP
              have hD : va_D A [(h0, .inr (12, (((oM g 0).set 30 (.int 1)).set 30 (.int 2)).set 30 (.int 3))), (g 29, .inl (c29, 120, .inl (upd (upd (upd (upd f29 (Int32.toNatClampNeg 0) (vp_nar .byte ((p1 >>> (0 &&& 31)).toInt8.toInt32))) (Int32.toNatClampNeg 1) (vp_nar .byte ((p1 >>> (8 &&& 31)).toInt8.toInt32))) (Int32.toNatClampNeg 2) (vp_nar .byte ((p1 >>> (16 &&& 31)).toInt8.toInt32))) (Int32.toNatClampNeg 3) (vp_nar .byte ((p1 >>> (24 &&& 31)).toInt8.toInt32)))))] := hD
              refine lv_aload_n hx hb dX12_feed_48 rfl (lv_at hl 1 rfl) ?_
              refine lv_dup hx hb dX12_feed_49 rfl ?_
              refine va_get (D := (dC, dI)) (ci := 12) (v := .int 3) (C := RX12) (T := TX12) (N := 63) hx hb hwd inA_X12 hown hK hP 0 rfl rfl 30 (by decide) (hwd _ wk_102) (fun _ h9 => h9) rfl dX12_feed_50 ?_
              refine lv_iconst (v := 1) hx hb dX12_feed_53 (by decide) ?_
              refine lv_iadd hx hb dX12_feed_54 ?_
              refine my_top (v := 4) (by decide) ?_
              refine va_put (D := (dC, dI)) (ci := 12) (v := .int 4) (ty := .int) (C := RX12) (T := TX12) (N := 63) hx hb hwd inA_X12 tyX12 tyX12_ok nmX12 hown hK hP hD hS 0 rfl rfl 30 (by decide) (hwd _ wk_102) (fun _ h9 => h9) rfl (by decide +kernel) rfl rfl (Nat.le_of_ble_eq_true rfl) dX12_feed_55 (fun H locs hP hD hS => ?_)
              have hP : va_P (dC, dI) classes [(h0, .inr (12, ((((oM g 0).set 30 (.int 1)).set 30 (.int 2)).set 30 (.int 3)).set 30 (.int 4))), (g 29, .inl (c29, 120, .inl (upd (upd (upd (upd f29 (Int32.toNatClampNeg 0) (vp_nar .byte ((p1 >>> (0 &&& 31)).toInt8.toInt32))) (Int32.toNatClampNeg 1) (vp_nar .byte ((p1 >>> (8 &&& 31)).toInt8.toInt32))) (Int32.toNatClampNeg 2) (vp_nar .byte ((p1 >>> (16 &&& 31)).toInt8.toInt32))) (Int32.toNatClampNeg 3) (vp_nar .byte ((p1 >>> (24 &&& 31)).toInt8.toInt32)))))] H := hP
              have hD : va_D A [(h0, .inr (12, ((((oM g 0).set 30 (.int 1)).set 30 (.int 2)).set 30 (.int 3)).set 30 (.int 4))), (g 29, .inl (c29, 120, .inl (upd (upd (upd (upd f29 (Int32.toNatClampNeg 0) (vp_nar .byte ((p1 >>> (0 &&& 31)).toInt8.toInt32))) (Int32.toNatClampNeg 1) (vp_nar .byte ((p1 >>> (8 &&& 31)).toInt8.toInt32))) (Int32.toNatClampNeg 2) (vp_nar .byte ((p1 >>> (16 &&& 31)).toInt8.toInt32))) (Int32.toNatClampNeg 3) (vp_nar .byte ((p1 >>> (24 &&& 31)).toInt8.toInt32)))))] := hD
              refine lv_iinc (v := 4) (lv' := [(3, .int 4), (0, .ref h0), (1, .int p0), (2, .int p1)]) hx hb dX12_feed_58 hl (k := 0) rfl (by decide) (by decide) rfl (fun ls hl => ?_)
              refine lv_goto (tgt := 27) hx hb dX12_feed_61 (by decide) ?_
              refine lv_iload_n hx hb dX12_feed_27 rfl (lv_at hl 0 rfl) ?_
              refine lv_iload_n hx hb dX12_feed_28 rfl (lv_at hl 2 rfl) ?_
              refine lv_icmp_ge (tgt := 64) hx hb dX12_feed_29 (by decide) (fun c_187 => ?_) (fun c_187 => ?_)
              · skip
                refine lv_aload_n hx hb dX12_feed_64 rfl (lv_at hl 1 rfl) ?_
                refine va_get (D := (dC, dI)) (ci := 12) (v := .int 4) (C := RX12) (T := TX12) (N := 63) hx hb hwd inA_X12 hown hK hP 0 rfl rfl 30 (by decide) (hwd _ wk_102) (fun _ h9 => h9) rfl dX12_feed_65 ?_
                exact W.iret (v := 4) hx hb hr (fun t ht hW => ⟨⟨4, (), rfl, by have e9 := i32_sand c_186 c_187 (by decide); subst e9; decide, trivial⟩, hS.F ht⟩) hS.2.2 dX12_feed_68
              · exact absurd (wi_le c_181) c_187
    · skip
      refine lv_bipush (v := (-3)) hx hb dX12_feed_22 (by decide) ?_
      exact W.iret (v := (-3)) hx hb hr (fun t ht hW => ⟨⟨(-3), (), rfl, by unfold f_feed; rw [if_neg c_181, if_neg c_182], trivial⟩, hS.F ht⟩) hS.2.2 dX12_feed_24
  · skip
    refine lv_iconst (v := (-1)) hx hb dX12_feed_9 (by decide) ?_
    exact W.iret (v := (-1)) hx hb hr (fun t ht hW => ⟨⟨(-1), (), rfl, by unfold f_feed; rw [if_pos c_181], trivial⟩, hS.F ht⟩) hS.2.2 dX12_feed_10
