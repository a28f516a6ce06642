set_option maxHeartbeats 4000000 in
set_option maxRecDepth 100000 in
theorem whole_start {p : Program} {e : Env} {s : State} {m : MethodId} {below : List Frame} {meth : Method} {c : Code} (l : Launch) {b L : Nat} {xs : Nat → Int32} (hL : L ≤ 7) (C0 : lw_At p s m meth c b L xs) : W p l e room_1 s m #[Value.ref b] below meth c s.heap [] 0 0 (lw_Z below #[Value.ref b] s) (entryFrame m ([Value.ref b] : List Value).toArray 4) := by
  obtain ⟨hx, hb, hr, hml, hown, hts, hX, hbl, hlocks, hgv⟩ := id C0
  have hown : s.vm.findClass RL = some m.cls := hown
  have hwd : ∀ w ∈ wA, w.before #[Value.ref b] s = true := fun w h => hts w (wA_in w h)
  have hA : ∀ q : Nat, s.heap.size ≤ q → (fun q : Nat => s.heap.size ≤ q) q := fun _ h => h
  have hbA : ¬ (fun q : Nat => s.heap.size ≤ q) b := Nat.not_le.mpr hbl
  obtain ⟨cc0, iS0, hKn0⟩ := u_known (C := RX0) (T := TX0) (N := 9) (n := 9) hwd inA_X0 (hts (.instantiable RX0 9) (by decide +kernel))
  obtain ⟨cc1, iS1, hKn1⟩ := u_known (C := RX1) (T := TX1) (N := 13) (n := 13) hwd inA_X1 (hts (.instantiable RX1 13) (by decide +kernel))
  obtain ⟨cc2, iS2, hKn2⟩ := u_known (C := RX2) (T := TX2) (N := 4) (n := 4) hwd inA_X2 (hts (.instantiable RX2 4) (by decide +kernel))
  obtain ⟨cc3, iS3, hKn3⟩ := u_known (C := RX3) (T := TX3) (N := 5) (n := 5) hwd inA_X3 (hts (.instantiable RX3 5) (by decide +kernel))
  obtain ⟨cc4, iS4, hKn4⟩ := u_known (C := RX4) (T := TX4) (N := 7) (n := 7) hwd inA_X4 (hts (.instantiable RX4 7) (by decide +kernel))
  obtain ⟨cc5, iS5, hKn5⟩ := u_known (C := RX5) (T := TX5) (N := 6) (n := 6) hwd inA_X5 (hts (.instantiable RX5 6) (by decide +kernel))
  obtain ⟨cc6, iS6, hKn6⟩ := u_known (C := RX6) (T := TX6) (N := 5) (n := 5) hwd inA_X6 (hts (.instantiable RX6 5) (by decide +kernel))
  obtain ⟨cc7, iS7, hKn7⟩ := u_known (C := RX7) (T := TX7) (N := 7) (n := 7) hwd inA_X7 (hts (.instantiable RX7 7) (by decide +kernel))
  obtain ⟨cc8, iS8, hKn8⟩ := u_known (C := RX8) (T := TX8) (N := 10) (n := 10) hwd inA_X8 (hts (.instantiable RX8 10) (by decide +kernel))
  obtain ⟨cc9, iS9, hKn9⟩ := u_known (C := RX9) (T := TX9) (N := 11) (n := 11) hwd inA_X9 (hts (.instantiable RX9 11) (by decide +kernel))
  obtain ⟨cc10, iS10, hKn10⟩ := u_known (C := RX10) (T := TX10) (N := 2) (n := 2) hwd inA_X10 (hts (.instantiable RX10 2) (by decide +kernel))
  obtain ⟨cc11, iS11, hKn11⟩ := u_known (C := RX11) (T := TX11) (N := 14) (n := 14) hwd inA_X11 (hts (.instantiable RX11 14) (by decide +kernel))
  obtain ⟨cc12, iS12, hKn12⟩ := u_known (C := RX12) (T := TX12) (N := 63) (n := 63) hwd inA_X12 (hts (.instantiable RX12 63) (by decide +kernel))
  obtain ⟨dC, dI, hKc⟩ : ∃ (dC : Nat → ClassId) (dI : Nat → Nat → Nat), ∀ (k : Nat) (q : vw_C), classes[k]? = some q → u_Kn s q.1 q.2.1 q.2.2 (dC k) (dI k) := by
    refine ⟨fun k => [cc0, cc1, cc2, cc3, cc4, cc5, cc6, cc7, cc8, cc9, cc10, cc11, cc12].getD k cc0, fun k => [iS0, iS1, iS2, iS3, iS4, iS5, iS6, iS7, iS8, iS9, iS10, iS11, iS12].getD k iS0, ?_⟩
    intro k q hq
    match k, hq with
    | 0, hq => cases hq; exact hKn0
    | 1, hq => cases hq; exact hKn1
    | 2, hq => cases hq; exact hKn2
    | 3, hq => cases hq; exact hKn3
    | 4, hq => cases hq; exact hKn4
    | 5, hq => cases hq; exact hKn5
    | 6, hq => cases hq; exact hKn6
    | 7, hq => cases hq; exact hKn7
    | 8, hq => cases hq; exact hKn8
    | 9, hq => cases hq; exact hKn9
    | 10, hq => cases hq; exact hKn10
    | 11, hq => cases hq; exact hKn11
    | 12, hq => cases hq; exact hKn12
    | k + 13, hq => simp [classes] at hq
  have hS : va_S (fun q : Nat => s.heap.size ≤ q) s.heap s.heap [] := va_S.rf
  have hK : va_K (dC, dI) classes [] s := ⟨hKc, fun k q h => by simp at h⟩
  have hP : va_P (dC, dI) classes [] s.heap := fun k q h => by simp at h
  have hD : va_D (fun q : Nat => s.heap.size ≤ q) [] := ⟨fun i j p q h => by simp at h, fun k q h => by simp at h⟩
  have hs9 := flat_of_before _ hgv
  have hA9 : ∀ a : Nat, a < s.heap.size → ¬ (fun q : Nat => s.heap.size ≤ q) a := fun a h => Nat.not_le.mpr h
  have hNw9 : va_Nw (.methodLinkNest RX11 9 yX2_init "PlanesBack") s := va_Nw.of rfl (hts _ (by decide +kernel))
  have hNw18 : va_Nw (.methodLinkNest RX11 18 yX8_init "PlanesBack") s := va_Nw.of rfl (hts _ (by decide +kernel))
  have hNw25 : va_Nw (.methodLinkNest RX11 25 yX9_init "PlanesBack") s := va_Nw.of rfl (hts _ (by decide +kernel))
  have hNw41 : va_Nw (.methodLinkNest RX11 41 yX10_init "PlanesBack") s := va_Nw.of rfl (hts _ (by decide +kernel))
  have hNw48 : va_Nw (.methodLinkNest RX11 48 yX4_init "PlanesBack") s := va_Nw.of rfl (hts _ (by decide +kernel))
  have hAOA : (Cond.arrayOver (.array .int)).before #[] s = true := hts (.arrayOver (.array .int)) (by decide +kernel)
  have hSZ : va_Z "java/lang/String" "COMPACT_STRINGS" "Z" (.int 1) (fun q : Nat => s.heap.size ≤ q) s s.heap := va_Zof (hts (.laysStatic "java/lang/String" "COMPACT_STRINGS" "Z") (by decide +kernel)) (hts (.initialized "java/lang/String") (by decide +kernel)) (va_eqi (hs9 _ (by decide +kernel))) hA9
  obtain ⟨adK, adV, hSS, hev⟩ := vk_Sof (args := #[Value.ref b]) (s := s) (N := 1) (tm := fun _ => Term.string "PlanesBack$Lives" 11) (len := [6]) (byt := [[100, 104, 108, 119, 107, 110]]) (A := (fun q : Nat => s.heap.size ≤ q)) (fun i hi => by obtain rfl : i = 0 := (by omega); decide) (fun i hi => hs9 _ (by decide +kernel)) (fun i hi => hs9 _ (by decide +kernel)) (fun i hi => hs9 _ (by decide +kernel)) (fun i hi => by obtain rfl : i = 0 := (by omega); exact hs9 _ (by decide +kernel)) (fun i hi j hj => by obtain rfl : i = 0 := (by omega); rcases (show j = 0 ∨ j = 1 ∨ j = 2 ∨ j = 3 ∨ j = 4 ∨ j = 5 by have : j < 6 := hj; omega) with rfl | rfl | rfl | rfl | rfl | rfl <;> exact hs9 _ (by decide +kernel)) (fun i j hi hj hij => absurd (show i = j by omega) hij) hA9
  have hSR : vk_R RX5 11 "dhlwkn" (adK 0) s := vk_R.of (hts (.stringRef RX5 11 "dhlwkn") (by decide +kernel)) (hev 0 (by decide))
  have hl := lv_entry ([.ref b]) (n := 4) (Nat.le_of_ble_eq_true rfl)
  rw [lg_entry_eq]
  generalize (lg_sl ([.ref b]) ++ List.replicate (4 - (lg_sl ([.ref b])).length) Slot.unset).toArray = ls at hl ⊢
  have hl : lv_has ls 4 [(0, .ref b)] := hl
  obtain ⟨H, eH⟩ : ∃ z, z = s.heap := ⟨_, rfl⟩
  have hP : va_P (dC, dI) classes [] H := fun k q h => by simp at h
  have hS : va_S (fun q : Nat => s.heap.size ≤ q) s.heap H [] := by rw [eH]; exact va_S.rf
  refine my_heap eH ?_
  refine va_new (ci := 11) (fs := [.null, .null, .null, .null, .null, .null, .null, .null, .null, .null, .null, .int 0, .int 0, .int 0]) (C := RX11) (T := TX11) (N := 14) hx hb hwd inA_X11 tyX11 tyX11_ok hown (hwd _ wk_684) (hwd _ wk_685) (hwd _ wk_3) hK hP hD hS hA rfl dvX11 (Nat.le_of_ble_eq_true rfl) (Nat.le_of_ble_eq_true rfl) dL_law_0 (fun q_587 H hP hD hS => ?_)
  have hP : va_P (dC, dI) classes [(q_587, .inr (11, [.null, .null, .null, .null, .null, .null, .null, .null, .null, .null, .null, .int 0, .int 0, .int 0]))] H := hP
  have hD : va_D (fun q : Nat => s.heap.size ≤ q) [(q_587, .inr (11, [.null, .null, .null, .null, .null, .null, .null, .null, .null, .null, .null, .int 0, .int 0, .int 0]))] := hD
  refine W.widen (k := 1) (n := 14) (Nat.le_of_ble_eq_true rfl) (Nat.le_of_ble_eq_true rfl) ?_
  refine lv_dup hx hb dL_law_3 rfl ?_
  have hPc := hP.sub (ws' := [(q_587, .inr (11, [.null, .null, .null, .null, .null, .null, .null, .null, .null, .null, .null, .int 0, .int 0, .int 0]))]) [0] rfl
  have hDc := hD.sub (ws' := [(q_587, .inr (11, [.null, .null, .null, .null, .null, .null, .null, .null, .null, .null, .null, .int 0, .int 0, .int 0]))]) [0] (by decide) rfl
  have hKc := hK.sub (tys' := []) [] rfl
  have hFc := va_free (wc := [(q_587, .inr (11, [.null, .null, .null, .null, .null, .null, .null, .null, .null, .null, .null, .int 0, .int 0, .int 0]))]) hD hS hA [0] rfl
  refine va_callv (va_runI (As := []) (rest := [.ref q_587]) ⟨hx, hb, hml, hown, hwd⟩ (c_X11_init l dC dI q_587 adK adV H.size) (cwI 0 hwd (gS wk_686) rfl rfl rfl (hwd _ wk_3) (hwd _ wk_687) (hwd _ wk_688) rfl (by decide +kernel) ⟨Nat.le_of_ble_eq_true rfl, Nat.le_of_ble_eq_true rfl⟩) ⟨fun a U g mk q => by obtain ⟨q0, q1, qP, qK, qD, qx0, qx1, qx2, qx3, qx4, qx5, qx6, qx7, qx8⟩ := q; exact ⟨q0, q1, qP, va_K.moved (u := U) (U := U.calling g mk a) (Vm.Alike.refl U.vm) qK, qD, va_Nw.same rfl (u := U) (U := U.calling g mk a) rfl qx0, va_Nw.same rfl (u := U) (U := U.calling g mk a) rfl qx1, va_Nw.same rfl (u := U) (U := U.calling g mk a) rfl qx2, va_Nw.same rfl (u := U) (U := U.calling g mk a) rfl qx3, va_Nw.same rfl (u := U) (U := U.calling g mk a) rfl qx4, my_AO.moved (s := U) (U := U.calling g mk a) (Vm.Alike.refl U.vm) qx5, vk_R.same (u := U) (U := U.calling g mk a) rfl qx6, vk_S.moved (u := U) (U := U.calling g mk a) (Vm.Alike.refl U.vm) qx7, va_Z.moved (u := U) (U := U.calling g mk a) (Vm.Alike.refl U.vm) qx8⟩, fun U hU hW => ⟨rfl, by rw [hU], by rw [hU]; exact hPc, va_K.moved hW.alike hKc, hDc.weaken (fun _ _ _ _ => trivial), va_Nw.warmM hW hNw9, va_Nw.warmM hW hNw18, va_Nw.warmM hW hNw25, va_Nw.warmM hW hNw41, va_Nw.warmM hW hNw48, my_AO.moved hW.alike hAOA, vk_R.warm hW hSR, by rw [hU]; exact ((hSS.kept hS.2.1).narrow hFc).moved hW.alike, by rw [hU]; exact ((hSZ.kept hS.2.1).narrow hFc).moved hW.alike⟩⟩ rfl rfl hl.1 rfl (lv_room (Nat.le_of_ble_eq_true rfl)) dL_law_4 ⟨Nat.le_of_ble_eq_true rfl, Nat.le_of_ble_eq_true rfl⟩) hS (fun q _ h => hFc q h) hFc (fun u t H1 locs ht hvm hw hB hz1 hk1 hS => ?_)
  obtain ⟨g_588, gk_589, ga_590, gp_591, gs_592, gt_593, gl_594, go_595, cd_596, r_597, ck1_598, ck2_599, ck3_600, ca1_601, ca4_602, ca5_603, ct1_604, cl4_605, hP1, hK1, hD1⟩ := hB
  rw [ht] at hP1
  have hK1 := va_K.moved hvm.symm hK1
  have hK : va_K (dC, dI) classes [(ck1_598, .int), (ck2_599, .int), (ck3_600, .int), (ca1_601, .int), (ca4_602, .int), (ca5_603, .int), (ct1_604, .int), (cl4_605, (.array .int))] s := hK.app hK1
  obtain ⟨hP, hD⟩ := va_join (wr := []) (w1 := [(q_587, .inr (11, o11 g_588)), (g_588 0, .inr (2, o2 gk_589)), (gk_589 1, .inl (ck1_598, 30, .inl (fun _ => 0))), (gk_589 2, .inl (ck2_599, 10, .inl (fun _ => 0))), (gk_589 3, .inl (ck3_600, 10, .inl (fun _ => 0))), (g_588 1, .inr (8, o8 ga_590)), (ga_590 1, .inl (ca1_601, 10, .inl (fun _ => 0))), (ga_590 4, .inl (ca4_602, 10, .inl (fun _ => 0))), (ga_590 5, .inl (ca5_603, 10, .inl (fun _ => 0))), (g_588 2, .inr (7, o7 gp_591)), (g_588 3, .inr (9, o9 gs_592)), (g_588 4, .inr (10, o10 gt_593)), (gt_593 1, .inl (ct1_604, 120, .inl (fun _ => 0))), (g_588 5, .inr (4, o4 gl_594)), (gl_594 4, .inl (cl4_605, 10, .inr (.inr (.inr (.inr (fun i => if i < 10 then some (r_597 i) else none)))))), (g_588 6, .inr (3, [.ref (g_588 4), .ref cd_596, .int 0, .int 0, .int 0])), (g_588 7, .inr (6, o6 go_595))]) hP hD [0] [] rfl rfl (by decide) (by decide) hk1 hFc hP1 hD1
  generalize H1 = H at hP hS ⊢
  have hP : va_P (dC, dI) classes [(q_587, .inr (11, o11 g_588)), (g_588 0, .inr (2, o2 gk_589)), (gk_589 1, .inl (ck1_598, 30, .inl (fun _ => 0))), (gk_589 2, .inl (ck2_599, 10, .inl (fun _ => 0))), (gk_589 3, .inl (ck3_600, 10, .inl (fun _ => 0))), (g_588 1, .inr (8, o8 ga_590)), (ga_590 1, .inl (ca1_601, 10, .inl (fun _ => 0))), (ga_590 4, .inl (ca4_602, 10, .inl (fun _ => 0))), (ga_590 5, .inl (ca5_603, 10, .inl (fun _ => 0))), (g_588 2, .inr (7, o7 gp_591)), (g_588 3, .inr (9, o9 gs_592)), (g_588 4, .inr (10, o10 gt_593)), (gt_593 1, .inl (ct1_604, 120, .inl (fun _ => 0))), (g_588 5, .inr (4, o4 gl_594)), (gl_594 4, .inl (cl4_605, 10, .inr (.inr (.inr (.inr (fun i => if i < 10 then some (r_597 i) else none)))))), (g_588 6, .inr (3, [.ref (g_588 4), .ref cd_596, .int 0, .int 0, .int 0])), (g_588 7, .inr (6, o6 go_595))] H := hP
  have hD : va_D (fun q : Nat => s.heap.size ≤ q) [(q_587, .inr (11, o11 g_588)), (g_588 0, .inr (2, o2 gk_589)), (gk_589 1, .inl (ck1_598, 30, .inl (fun _ => 0))), (gk_589 2, .inl (ck2_599, 10, .inl (fun _ => 0))), (gk_589 3, .inl (ck3_600, 10, .inl (fun _ => 0))), (g_588 1, .inr (8, o8 ga_590)), (ga_590 1, .inl (ca1_601, 10, .inl (fun _ => 0))), (ga_590 4, .inl (ca4_602, 10, .inl (fun _ => 0))), (ga_590 5, .inl (ca5_603, 10, .inl (fun _ => 0))), (g_588 2, .inr (7, o7 gp_591)), (g_588 3, .inr (9, o9 gs_592)), (g_588 4, .inr (10, o10 gt_593)), (gt_593 1, .inl (ct1_604, 120, .inl (fun _ => 0))), (g_588 5, .inr (4, o4 gl_594)), (gl_594 4, .inl (cl4_605, 10, .inr (.inr (.inr (.inr (fun i => if i < 10 then some (r_597 i) else none)))))), (g_588 6, .inr (3, [.ref (g_588 4), .ref cd_596, .int 0, .int 0, .int 0])), (g_588 7, .inr (6, o6 go_595))] := hD
  refine W.widen (k := 80) (n := 9340) (Nat.le_of_ble_eq_true rfl) (Nat.le_of_ble_eq_true rfl) ?_
  refine lv_astore_n (lv' := [(1, .ref q_587), (0, .ref b)]) hx hb dL_law_7 rfl hl (by decide) rfl (fun ls hl => ?_)
  refine va_new (ci := 12) (fs := [.int 0, .int 0, .int 0, .null, .null, .null, .int 0, .null, .null, .null, .null, .null, .null, .null, .int 0, .null, .null, .null, .null, .int 0, .null, .null, .null, .null, .null, .null, .null, .null, .null, .null, .int 0, .int 0, .null, .null, .null, .null, .null, .int 0, .int 0, .int 0, .int 0, .int 0, .int 0, .null, .null, .int 0, .null, .null, .null, .null, .null, .null, .null, .null, .null, .null, .null, .int 0, .int 0, .null, .int 0, .null, .null]) (C := RX12) (T := TX12) (N := 63) hx hb hwd inA_X12 tyX12 tyX12_ok hown (hwd _ wk_689) (hwd _ wk_690) (hwd _ wk_8) hK hP hD hS hA rfl dvX12 (Nat.le_of_ble_eq_true rfl) (Nat.le_of_ble_eq_true rfl) dL_law_8 (fun q_607 H hP hD hS => ?_)
  have hP : va_P (dC, dI) classes [(q_587, .inr (11, o11 g_588)), (g_588 0, .inr (2, o2 gk_589)), (gk_589 1, .inl (ck1_598, 30, .inl (fun _ => 0))), (gk_589 2, .inl (ck2_599, 10, .inl (fun _ => 0))), (gk_589 3, .inl (ck3_600, 10, .inl (fun _ => 0))), (g_588 1, .inr (8, o8 ga_590)), (ga_590 1, .inl (ca1_601, 10, .inl (fun _ => 0))), (ga_590 4, .inl (ca4_602, 10, .inl (fun _ => 0))), (ga_590 5, .inl (ca5_603, 10, .inl (fun _ => 0))), (g_588 2, .inr (7, o7 gp_591)), (g_588 3, .inr (9, o9 gs_592)), (g_588 4, .inr (10, o10 gt_593)), (gt_593 1, .inl (ct1_604, 120, .inl (fun _ => 0))), (g_588 5, .inr (4, o4 gl_594)), (gl_594 4, .inl (cl4_605, 10, .inr (.inr (.inr (.inr (fun i => if i < 10 then some (r_597 i) else none)))))), (g_588 6, .inr (3, [.ref (g_588 4), .ref cd_596, .int 0, .int 0, .int 0])), (g_588 7, .inr (6, o6 go_595)), (q_607, .inr (12, [.int 0, .int 0, .int 0, .null, .null, .null, .int 0, .null, .null, .null, .null, .null, .null, .null, .int 0, .null, .null, .null, .null, .int 0, .null, .null, .null, .null, .null, .null, .null, .null, .null, .null, .int 0, .int 0, .null, .null, .null, .null, .null, .int 0, .int 0, .int 0, .int 0, .int 0, .int 0, .null, .null, .int 0, .null, .null, .null, .null, .null, .null, .null, .null, .null, .null, .null, .int 0, .int 0, .null, .int 0, .null, .null]))] H := hP
  have hD : va_D (fun q : Nat => s.heap.size ≤ q) [(q_587, .inr (11, o11 g_588)), (g_588 0, .inr (2, o2 gk_589)), (gk_589 1, .inl (ck1_598, 30, .inl (fun _ => 0))), (gk_589 2, .inl (ck2_599, 10, .inl (fun _ => 0))), (gk_589 3, .inl (ck3_600, 10, .inl (fun _ => 0))), (g_588 1, .inr (8, o8 ga_590)), (ga_590 1, .inl (ca1_601, 10, .inl (fun _ => 0))), (ga_590 4, .inl (ca4_602, 10, .inl (fun _ => 0))), (ga_590 5, .inl (ca5_603, 10, .inl (fun _ => 0))), (g_588 2, .inr (7, o7 gp_591)), (g_588 3, .inr (9, o9 gs_592)), (g_588 4, .inr (10, o10 gt_593)), (gt_593 1, .inl (ct1_604, 120, .inl (fun _ => 0))), (g_588 5, .inr (4, o4 gl_594)), (gl_594 4, .inl (cl4_605, 10, .inr (.inr (.inr (.inr (fun i => if i < 10 then some (r_597 i) else none)))))), (g_588 6, .inr (3, [.ref (g_588 4), .ref cd_596, .int 0, .int 0, .int 0])), (g_588 7, .inr (6, o6 go_595)), (q_607, .inr (12, [.int 0, .int 0, .int 0, .null, .null, .null, .int 0, .null, .null, .null, .null, .null, .null, .null, .int 0, .null, .null, .null, .null, .int 0, .null, .null, .null, .null, .null, .null, .null, .null, .null, .null, .int 0, .int 0, .null, .null, .null, .null, .null, .int 0, .int 0, .int 0, .int 0, .int 0, .int 0, .null, .null, .int 0, .null, .null, .null, .null, .null, .null, .null, .null, .null, .null, .null, .int 0, .int 0, .null, .int 0, .null, .null]))] := hD
  refine W.widen (k := 81) (n := 9403) (Nat.le_of_ble_eq_true rfl) (Nat.le_of_ble_eq_true rfl) ?_
  refine lv_dup hx hb dL_law_11 rfl ?_
  have hPc := hP.sub (ws' := [(q_607, .inr (12, [.int 0, .int 0, .int 0, .null, .null, .null, .int 0, .null, .null, .null, .null, .null, .null, .null, .int 0, .null, .null, .null, .null, .int 0, .null, .null, .null, .null, .null, .null, .null, .null, .null, .null, .int 0, .int 0, .null, .null, .null, .null, .null, .int 0, .int 0, .int 0, .int 0, .int 0, .int 0, .null, .null, .int 0, .null, .null, .null, .null, .null, .null, .null, .null, .null, .null, .null, .int 0, .int 0, .null, .int 0, .null, .null]))]) [17] rfl
  have hDc := hD.sub (ws' := [(q_607, .inr (12, [.int 0, .int 0, .int 0, .null, .null, .null, .int 0, .null, .null, .null, .null, .null, .null, .null, .int 0, .null, .null, .null, .null, .int 0, .null, .null, .null, .null, .null, .null, .null, .null, .null, .null, .int 0, .int 0, .null, .null, .null, .null, .null, .int 0, .int 0, .int 0, .int 0, .int 0, .int 0, .null, .null, .int 0, .null, .null, .null, .null, .null, .null, .null, .null, .null, .null, .null, .int 0, .int 0, .null, .int 0, .null, .null]))]) [17] (by decide) rfl
  have hKc := hK.sub (tys' := []) [] rfl
  have hFc := va_free (wc := [(q_607, .inr (12, [.int 0, .int 0, .int 0, .null, .null, .null, .int 0, .null, .null, .null, .null, .null, .null, .null, .int 0, .null, .null, .null, .null, .int 0, .null, .null, .null, .null, .null, .null, .null, .null, .null, .null, .int 0, .int 0, .null, .null, .null, .null, .null, .int 0, .int 0, .int 0, .int 0, .int 0, .int 0, .null, .null, .int 0, .null, .null, .null, .null, .null, .null, .null, .null, .null, .null, .null, .int 0, .int 0, .null, .int 0, .null, .null]))]) hD hS hA [17] rfl
  refine va_callv (va_runI (As := []) (rest := [.ref q_607]) ⟨hx, hb, hml, hown, hwd⟩ (c_X12_init l dC dI q_607 H.size) (cwI 0 hwd (gS wk_691) rfl rfl rfl (hwd _ wk_8) (hwd _ wk_692) (hwd _ wk_693) rfl (by decide +kernel) ⟨Nat.le_of_ble_eq_true rfl, Nat.le_of_ble_eq_true rfl⟩) ⟨fun a U g mk q => by obtain ⟨q0, q1, qP, qK, qD⟩ := q; exact ⟨q0, q1, qP, va_K.moved (u := U) (U := U.calling g mk a) (Vm.Alike.refl U.vm) qK, qD⟩, fun U hU hW => ⟨rfl, by rw [hU], by rw [hU]; exact hPc, va_K.moved hW.alike hKc, hDc.weaken (fun _ _ _ _ => trivial)⟩⟩ rfl rfl hl.1 rfl (lv_room (Nat.le_of_ble_eq_true rfl)) dL_law_12 ⟨Nat.le_of_ble_eq_true rfl, Nat.le_of_ble_eq_true rfl⟩) hS (fun q _ h => hFc q h) hFc (fun u t H1 locs ht hvm hw hB hz1 hk1 hS => ?_)
  obtain ⟨gz_608, c3_609, c4_610, c5_611, c7_612, c10_613, c11_614, c49_615, c29_616, hP1, hK1, hD1⟩ := hB
  rw [ht] at hP1
  have hK1 := va_K.moved hvm.symm hK1
  have hK : va_K (dC, dI) classes [(ck1_598, .int), (ck2_599, .int), (ck3_600, .int), (ca1_601, .int), (ca4_602, .int), (ca5_603, .int), (ct1_604, .int), (cl4_605, (.array .int)), (c3_609, .int), (c4_610, .int), (c5_611, .int), (c7_612, .int), (c10_613, .int), (c11_614, .int), (c49_615, .int), (c29_616, .byte)] s := hK.app hK1
  obtain ⟨hP, hD⟩ := va_join (wr := [(q_587, .inr (11, o11 g_588)), (g_588 0, .inr (2, o2 gk_589)), (gk_589 1, .inl (ck1_598, 30, .inl (fun _ => 0))), (gk_589 2, .inl (ck2_599, 10, .inl (fun _ => 0))), (gk_589 3, .inl (ck3_600, 10, .inl (fun _ => 0))), (g_588 1, .inr (8, o8 ga_590)), (ga_590 1, .inl (ca1_601, 10, .inl (fun _ => 0))), (ga_590 4, .inl (ca4_602, 10, .inl (fun _ => 0))), (ga_590 5, .inl (ca5_603, 10, .inl (fun _ => 0))), (g_588 2, .inr (7, o7 gp_591)), (g_588 3, .inr (9, o9 gs_592)), (g_588 4, .inr (10, o10 gt_593)), (gt_593 1, .inl (ct1_604, 120, .inl (fun _ => 0))), (g_588 5, .inr (4, o4 gl_594)), (gl_594 4, .inl (cl4_605, 10, .inr (.inr (.inr (.inr (fun i => if i < 10 then some (r_597 i) else none)))))), (g_588 6, .inr (3, [.ref (g_588 4), .ref cd_596, .int 0, .int 0, .int 0])), (g_588 7, .inr (6, o6 go_595))]) (w1 := [(q_607, .inr (12, oM gz_608 0)), (gz_608 3, .inl (c3_609, 30, .inl (fun _ => 0))), (gz_608 4, .inl (c4_610, 10, .inl (fun _ => 0))), (gz_608 5, .inl (c5_611, 10, .inl (fun _ => 0))), (gz_608 7, .inl (c7_612, 10, .inl (fun _ => 0))), (gz_608 10, .inl (c10_613, 10, .inl (fun _ => 0))), (gz_608 11, .inl (c11_614, 10, .inl (fun _ => 0))), (gz_608 49, .inl (c49_615, 10, .inl (fun _ => 0))), (gz_608 29, .inl (c29_616, 120, .inl (fun _ => 0)))]) hP hD [17] [0, 1, 2, 3, 4, 5, 6, 7, 8, 9, 10, 11, 12, 13, 14, 15, 16] rfl rfl (by decide) (by decide) hk1 hFc hP1 hD1
  generalize H1 = H at hP hS ⊢
  have hP : va_P (dC, dI) classes [(q_587, .inr (11, o11 g_588)), (g_588 0, .inr (2, o2 gk_589)), (gk_589 1, .inl (ck1_598, 30, .inl (fun _ => 0))), (gk_589 2, .inl (ck2_599, 10, .inl (fun _ => 0))), (gk_589 3, .inl (ck3_600, 10, .inl (fun _ => 0))), (g_588 1, .inr (8, o8 ga_590)), (ga_590 1, .inl (ca1_601, 10, .inl (fun _ => 0))), (ga_590 4, .inl (ca4_602, 10, .inl (fun _ => 0))), (ga_590 5, .inl (ca5_603, 10, .inl (fun _ => 0))), (g_588 2, .inr (7, o7 gp_591)), (g_588 3, .inr (9, o9 gs_592)), (g_588 4, .inr (10, o10 gt_593)), (gt_593 1, .inl (ct1_604, 120, .inl (fun _ => 0))), (g_588 5, .inr (4, o4 gl_594)), (gl_594 4, .inl (cl4_605, 10, .inr (.inr (.inr (.inr (fun i => if i < 10 then some (r_597 i) else none)))))), (g_588 6, .inr (3, [.ref (g_588 4), .ref cd_596, .int 0, .int 0, .int 0])), (g_588 7, .inr (6, o6 go_595)), (q_607, .inr (12, oM gz_608 0)), (gz_608 3, .inl (c3_609, 30, .inl (fun _ => 0))), (gz_608 4, .inl (c4_610, 10, .inl (fun _ => 0))), (gz_608 5, .inl (c5_611, 10, .inl (fun _ => 0))), (gz_608 7, .inl (c7_612, 10, .inl (fun _ => 0))), (gz_608 10, .inl (c10_613, 10, .inl (fun _ => 0))), (gz_608 11, .inl (c11_614, 10, .inl (fun _ => 0))), (gz_608 49, .inl (c49_615, 10, .inl (fun _ => 0))), (gz_608 29, .inl (c29_616, 120, .inl (fun _ => 0)))] H := hP
  have hD : va_D (fun q : Nat => s.heap.size ≤ q) [(q_587, .inr (11, o11 g_588)), (g_588 0, .inr (2, o2 gk_589)), (gk_589 1, .inl (ck1_598, 30, .inl (fun _ => 0))), (gk_589 2, .inl (ck2_599, 10, .inl (fun _ => 0))), (gk_589 3, .inl (ck3_600, 10, .inl (fun _ => 0))), (g_588 1, .inr (8, o8 ga_590)), (ga_590 1, .inl (ca1_601, 10, .inl (fun _ => 0))), (ga_590 4, .inl (ca4_602, 10, .inl (fun _ => 0))), (ga_590 5, .inl (ca5_603, 10, .inl (fun _ => 0))), (g_588 2, .inr (7, o7 gp_591)), (g_588 3, .inr (9, o9 gs_592)), (g_588 4, .inr (10, o10 gt_593)), (gt_593 1, .inl (ct1_604, 120, .inl (fun _ => 0))), (g_588 5, .inr (4, o4 gl_594)), (gl_594 4, .inl (cl4_605, 10, .inr (.inr (.inr (.inr (fun i => if i < 10 then some (r_597 i) else none)))))), (g_588 6, .inr (3, [.ref (g_588 4), .ref cd_596, .int 0, .int 0, .int 0])), (g_588 7, .inr (6, o6 go_595)), (q_607, .inr (12, oM gz_608 0)), (gz_608 3, .inl (c3_609, 30, .inl (fun _ => 0))), (gz_608 4, .inl (c4_610, 10, .inl (fun _ => 0))), (gz_608 5, .inl (c5_611, 10, .inl (fun _ => 0))), (gz_608 7, .inl (c7_612, 10, .inl (fun _ => 0))), (gz_608 10, .inl (c10_613, 10, .inl (fun _ => 0))), (gz_608 11, .inl (c11_614, 10, .inl (fun _ => 0))), (gz_608 49, .inl (c49_615, 10, .inl (fun _ => 0))), (gz_608 29, .inl (c29_616, 120, .inl (fun _ => 0)))] := hD
  refine W.widen (k := 126) (n := 19787) (Nat.le_of_ble_eq_true rfl) (Nat.le_of_ble_eq_true rfl) ?_
  refine lv_astore_n (lv' := [(2, .ref q_607), (1, .ref q_587), (0, .ref b)]) hx hb dL_law_15 rfl hl (by decide) rfl (fun ls hl => ?_)
  refine lv_iconst (v := 0) hx hb dL_law_16 (by decide) ?_
  refine lv_istore_n (lv' := [(3, .int 0), (2, .ref q_607), (1, .ref q_587), (0, .ref b)]) hx hb dL_law_17 rfl hl (by decide) rfl (fun ls hl => ?_)
  refine lv_iload_n hx hb dL_law_18 rfl (lv_at hl 0 rfl) ?_
  refine lv_aload_n hx hb dL_law_19 rfl (lv_at hl 3 rfl) ?_
  refine va_slen hx hb hX hbl hbA hS dL_law_20 ?_
  refine lv_bipush (v := 7) hx hb dL_law_21 (by decide) ?_
  refine lv_isub hx hb dL_law_23 ?_
  refine lv_icmp_gt (tgt := 1491) hx hb dL_law_24 (by decide) (fun c9 => ?_) (fun c9 => ?_)
  · refine lv_iconst (v := 1) hx hb dL_law_1491 (by decide) ?_
    refine va_forget (fun q hq => hS.2.2 q hq) ?_
    refine W.widen (k := 600000) (n := 7302249) (Nat.le_of_ble_eq_true rfl) (Nat.le_of_ble_eq_true rfl) ?_
    exact lw_ret hx hb hr hlocks dL_law_1492
  obtain rfl : L = 7 := by
    rcases (show L = 0 ∨ L = 1 ∨ L = 2 ∨ L = 3 ∨ L = 4 ∨ L = 5 ∨ L = 6 ∨ L = 7 by omega) with rfl | rfl | rfl | rfl | rfl | rfl | rfl | rfl
    · exact absurd (by decide) c9
    · exact absurd (by decide) c9
    · exact absurd (by decide) c9
    · exact absurd (by decide) c9
    · exact absurd (by decide) c9
    · exact absurd (by decide) c9
    · exact absurd (by decide) c9
    · rfl
  refine lv_aload_n hx hb dL_law_27 rfl (lv_at hl 3 rfl) ?_
  refine lv_iload_n hx hb dL_law_28 rfl (lv_at hl 0 rfl) ?_
  refine va_sld hx hb hX hbl hbA hS (i := 0) (vpc (by decide)) dL_law_29 ?_
  refine lv_bipush (v := 63) hx hb dL_law_30 (by decide) ?_
  refine lv_iand hx hb dL_law_32 ?_
  refine lv_topi (fun x9 ex9 => ?_)
  by_cases hlo : x9.toInt < 0
  · refine lv_tableOut (tgt := 1485) hx hb dL_law_33 (Or.inl hlo) (by decide) ?_
    exact law_tail C0 (Nat.le_of_ble_eq_true rfl) (Nat.le_of_ble_eq_true rfl) hS hl
  by_cases hhi : 34 < x9.toInt
  · refine lv_tableOut (tgt := 1485) hx hb dL_law_33 (Or.inr hhi) (by decide) ?_
    exact law_tail C0 (Nat.le_of_ble_eq_true rfl) (Nat.le_of_ble_eq_true rfl) hS hl
  rcases (show x9.toInt = 0 ∨ x9.toInt = 1 ∨ x9.toInt = 2 ∨ x9.toInt = 3 ∨ x9.toInt = 4 ∨ x9.toInt = 5 ∨ x9.toInt = 6 ∨ x9.toInt = 7 ∨ x9.toInt = 8 ∨ x9.toInt = 9 ∨ x9.toInt = 10 ∨ x9.toInt = 11 ∨ x9.toInt = 12 ∨ x9.toInt = 13 ∨ x9.toInt = 14 ∨ x9.toInt = 15 ∨ x9.toInt = 16 ∨ x9.toInt = 17 ∨ x9.toInt = 18 ∨ x9.toInt = 19 ∨ x9.toInt = 20 ∨ x9.toInt = 21 ∨ x9.toInt = 22 ∨ x9.toInt = 23 ∨ x9.toInt = 24 ∨ x9.toInt = 25 ∨ x9.toInt = 26 ∨ x9.toInt = 27 ∨ x9.toInt = 28 ∨ x9.toInt = 29 ∨ x9.toInt = 30 ∨ x9.toInt = 31 ∨ x9.toInt = 32 ∨ x9.toInt = 33 ∨ x9.toInt = 34 by omega) with hk | hk | hk | hk | hk | hk | hk | hk | hk | hk | hk | hk | hk | hk | hk | hk | hk | hk | hk | hk | hk | hk | hk | hk | hk | hk | hk | hk | hk | hk | hk | hk | hk | hk | hk
  · refine lv_tableIn (off := 155) (tgt := 188) hx hb dL_law_33 hlo hhi (by rw [hk]; decide) (by decide) ?_
    exact law_case_0 C0 hK hP hD hS hl
  · refine lv_tableIn (off := 208) (tgt := 241) hx hb dL_law_33 hlo hhi (by rw [hk]; decide) (by decide) ?_
    exact law_case_1 C0 hK hP hD hS hl
  · refine lv_tableIn (off := 231) (tgt := 264) hx hb dL_law_33 hlo hhi (by rw [hk]; decide) (by decide) ?_
    exact law_case_2 C0 hK hP hD hS hl
  · refine lv_tableIn (off := 274) (tgt := 307) hx hb dL_law_33 hlo hhi (by rw [hk]; decide) (by decide) ?_
    exact law_case_3 C0 hK hP hD hS hl
  · refine lv_tableIn (off := 297) (tgt := 330) hx hb dL_law_33 hlo hhi (by rw [hk]; decide) (by decide) ?_
    exact law_case_4 C0 hK hP hD hS hl
  · refine lv_tableIn (off := 340) (tgt := 373) hx hb dL_law_33 hlo hhi (by rw [hk]; decide) (by decide) ?_
    exact law_case_5 C0 hK hP hD hS hl
  · refine lv_tableIn (off := 373) (tgt := 406) hx hb dL_law_33 hlo hhi (by rw [hk]; decide) (by decide) ?_
    exact law_case_6 C0 hK hP hD hS hl
  · refine lv_tableIn (off := 406) (tgt := 439) hx hb dL_law_33 hlo hhi (by rw [hk]; decide) (by decide) ?_
    exact law_case_7 C0 hK hP hD hS hl
  · refine lv_tableIn (off := 469) (tgt := 502) hx hb dL_law_33 hlo hhi (by rw [hk]; decide) (by decide) ?_
    exact law_case_8 C0 hK hP hD hS hl
  · refine lv_tableIn (off := 502) (tgt := 535) hx hb dL_law_33 hlo hhi (by rw [hk]; decide) (by decide) ?_
    exact law_case_9 C0 hK hP hD hS hl
  · refine lv_tableIn (off := 535) (tgt := 568) hx hb dL_law_33 hlo hhi (by rw [hk]; decide) (by decide) ?_
    exact law_case_10 C0 hK hP hD hS hl
  · refine lv_tableIn (off := 568) (tgt := 601) hx hb dL_law_33 hlo hhi (by rw [hk]; decide) (by decide) ?_
    exact law_case_11 C0 hK hP hD hS hl
  · refine lv_tableIn (off := 601) (tgt := 634) hx hb dL_law_33 hlo hhi (by rw [hk]; decide) (by decide) ?_
    exact law_case_12 C0 hK hP hD hS hl
  · refine lv_tableIn (off := 644) (tgt := 677) hx hb dL_law_33 hlo hhi (by rw [hk]; decide) (by decide) ?_
    exact law_case_13 C0 hK hP hD hS hl
  · refine lv_tableIn (off := 677) (tgt := 710) hx hb dL_law_33 hlo hhi (by rw [hk]; decide) (by decide) ?_
    exact law_case_14 C0 hK hP hD hS hl
  · refine lv_tableIn (off := 720) (tgt := 753) hx hb dL_law_33 hlo hhi (by rw [hk]; decide) (by decide) ?_
    exact law_case_15 C0 hK hP hD hS hl
  · refine lv_tableIn (off := 763) (tgt := 796) hx hb dL_law_33 hlo hhi (by rw [hk]; decide) (by decide) ?_
    exact law_case_16 C0 hK hP hD hS hl
  · refine lv_tableIn (off := 838) (tgt := 871) hx hb dL_law_33 hlo hhi (by rw [hk]; decide) (by decide) ?_
    exact law_case_17 C0 hK hP hD hS hl
  · refine lv_tableIn (off := 871) (tgt := 904) hx hb dL_law_33 hlo hhi (by rw [hk]; decide) (by decide) ?_
    exact law_case_18 C0 hK hP hD hS hl
  · refine lv_tableIn (off := 894) (tgt := 927) hx hb dL_law_33 hlo hhi (by rw [hk]; decide) (by decide) ?_
    exact law_case_19 C0 hK hP hD hS hl
  · refine lv_tableIn (off := 937) (tgt := 970) hx hb dL_law_33 hlo hhi (by rw [hk]; decide) (by decide) ?_
    exact law_case_20 C0 hK hP hD hS hl
  · refine lv_tableIn (off := 970) (tgt := 1003) hx hb dL_law_33 hlo hhi (by rw [hk]; decide) (by decide) ?_
    exact law_case_21 C0 hK hP hD hS hl
  · refine lv_tableIn (off := 1003) (tgt := 1036) hx hb dL_law_33 hlo hhi (by rw [hk]; decide) (by decide) ?_
    exact law_case_22 C0 hK hP hD hS hl
  · refine lv_tableIn (off := 1046) (tgt := 1079) hx hb dL_law_33 hlo hhi (by rw [hk]; decide) (by decide) ?_
    exact law_case_23 C0 hK hP hD hS hl
  · refine lv_tableIn (off := 1099) (tgt := 1132) hx hb dL_law_33 hlo hhi (by rw [hk]; decide) (by decide) ?_
    exact law_case_24 C0 hK hP hD hS hl
  · refine lv_tableIn (off := 1152) (tgt := 1185) hx hb dL_law_33 hlo hhi (by rw [hk]; decide) (by decide) ?_
    exact law_case_25 C0 hK hP hD hS hl
  · refine lv_tableIn (off := 1175) (tgt := 1208) hx hb dL_law_33 hlo hhi (by rw [hk]; decide) (by decide) ?_
    exact law_case_26 C0 hK hP hD hS hl
  · refine lv_tableIn (off := 1208) (tgt := 1241) hx hb dL_law_33 hlo hhi (by rw [hk]; decide) (by decide) ?_
    exact law_case_27 C0 hK hP hD hS hl
  · refine lv_tableIn (off := 1221) (tgt := 1254) hx hb dL_law_33 hlo hhi (by rw [hk]; decide) (by decide) ?_
    exact law_case_28 C0 hK hP hD hS hl
  · refine lv_tableIn (off := 1254) (tgt := 1287) hx hb dL_law_33 hlo hhi (by rw [hk]; decide) (by decide) ?_
    exact law_case_29 C0 hK hP hD hS hl
  · refine lv_tableIn (off := 1287) (tgt := 1320) hx hb dL_law_33 hlo hhi (by rw [hk]; decide) (by decide) ?_
    exact law_case_30 C0 hK hP hD hS hl
  · refine lv_tableIn (off := 1320) (tgt := 1353) hx hb dL_law_33 hlo hhi (by rw [hk]; decide) (by decide) ?_
    exact law_case_31 C0 hK hP hD hS hl
  · refine lv_tableIn (off := 1343) (tgt := 1376) hx hb dL_law_33 hlo hhi (by rw [hk]; decide) (by decide) ?_
    exact law_case_32 C0 hK hP hD hS hl
  · refine lv_tableIn (off := 1386) (tgt := 1419) hx hb dL_law_33 hlo hhi (by rw [hk]; decide) (by decide) ?_
    exact law_case_33 C0 hK hP hD hS hl
  · refine lv_tableIn (off := 1429) (tgt := 1462) hx hb dL_law_33 hlo hhi (by rw [hk]; decide) (by decide) ?_
    exact law_case_34 C0 hK hP hD hS hl

set_option maxHeartbeats 4000000 in
theorem lw_walk (l : Launch) (b : Addr) (xs : List Int32) : MetFree l x (headSpec (Jvm.Cond.code x code maxLocals ret :: tables_1) room_1) (lw_P b xs) (fun _ _ _ _ _ => True) lw_Q := by
  refine MetFree.of_bodyS (code := code) (maxLocals := maxLocals) (ret := ret) (by decide) ?_ ?_
  · intro args s m h hn
    obtain ⟨meth, c, h1, h2, h3, h4, h5, h6, -, -⟩ := Cond.code_spec hn (atoms_spec (ws := Jvm.Cond.code x code maxLocals ret :: tables_1) h _ List.mem_cons_self)
    exact ⟨meth, c, h1, h2, h3, h4, h5, h6⟩
  · intro p e s m args below meth c s₁ B hml0 hP _
    obtain ⟨rfl, hx, hbd, hgv⟩ := hP
    obtain ⟨scr, harrAt, hlist, hof, hsmall⟩ := hx
    obtain ⟨hcb, hkn, -, -⟩ := State.arrayAt?_spec harrAt
    have hown : s.vm.findClass R_law = some m.cls := findClass_of_methodNamed B.named
    have hts0 : ∀ c ∈ (Jvm.Cond.code x code maxLocals ret :: tables_1), c.before #[Value.ref b] s = true := atoms_spec (ws := Jvm.Cond.code x code maxLocals ret :: tables_1) B.pre
    have hts : ∀ w ∈ lw_tbl, w.before #[Value.ref b] s = true := k2_hts_sels lw_privs (fun w hw => hts0 w (List.mem_cons_of_mem _ hw)) lw_privs_ok
    have hml : c.maxLocals = 4 := B.maxLocals_eq (hts0 _ List.mem_cons_self)
    have X₀ : Stand p l e room_1 s m #[Value.ref b] below meth c s₁ [] 0 0 := Stand.of_body B
    have hh0 : s₁.heap = s.heap := by rw [B.state]; rfl
    have hsz : scr.slots.size = xs.length := by rw [← Array.length_toList, hlist, List.length_map]
    have hval : ∀ j : Nat, j < xs.length → scr.slots[j]? = some (.int (xs.getD j 0)) := fun j hj => by
      rw [← Array.getElem?_toList, hlist]
      simp [hj]
    have hbl : b < s.heap.size := (Array.getElem?_eq_some_iff.mp hcb).1
    have hX : va_X b xs.length (fun j => xs.getD j 0) s s.heap := ⟨scr, hcb, hof, hkn, hsz, hval⟩
    have K : W p l e room_1 s m #[Value.ref b] below meth c s₁.heap [] 0 0 (lw_Z below #[Value.ref b] s) (entryFrame m ([Value.ref b] : List Value).toArray 4) := by
      rw [hh0]
      exact whole_start l hbd ⟨B.exec, B.bytes, B.returns, hml, hown, hts, hX, hbl, B.notSynchronized, hgv⟩
    obtain ⟨t, a1, o, b1, b2, b3⟩ := K s₁ rfl X₀
    exact ⟨t, o, a1, b1, b2, b3⟩
theorem lw_pre_spec {args : Array Value} {s : State} (h : (Jvm.Cond.and given_1 narrow_1).before args s = true) (hr : rest_1_c.before args s = true) : ∃ (b : Addr) (xs : List Int32), lw_P b xs args s := by
  have hs := flat_of_before _ h
  have hq := flat_of_before _ hr
  have hc : (Cond.count 1).before args s = true := hs _ (by decide +kernel)
  have harr : (Cond.arrayOf (.arg 0) .int).before args s = true := hs _ (by decide +kernel)
  have hle : (Cond.le (.length (.arg 0)) (.int 7)).before args s = true := hs _ (by decide +kernel)
  have hlen : (Cond.isInt (.length (.arg 0))).before args s = true := hq _ (by decide +kernel)
  have hall : (Cond.all (.arg 0) (.isInt (.elem (.arg 0) (.index 0)))).before args s = true := hq _ (by decide +kernel)
  obtain ⟨b, xs, hb, hx⟩ := State.ints_of_pre rfl harr hlen hall
  have hsm : xs.length < 2 ^ 31 := hx.choose_spec.2.2.2
  have hev : (Term.length (.arg 0)).eval args s none [] s = some (.int xs.length.toInt32) := hx.length_eval hb
  have hv := Cond.le_ints hev (show (Term.int 7).eval args s none [] s = some (.int 7) from rfl)
  have hd : xs.length.toInt32 ≤ 7 := by
    simpa [Cond.before, Cond.holds, hv] using hle
  have hN : xs.length ≤ 7 := (Int32.ofNat_le_ofNat hsm (by decide)).mp (show Int32.ofNat xs.length ≤ Int32.ofNat 7 from hd)
  exact ⟨b, xs, Cond.one_arg hc (show args[0]? = some (.ref b) from hb), hx, hN, h⟩
theorem lw_comes (l : Launch) : Comes l x (Jvm.Cond.code x code maxLocals ret :: tables_1) room_1 (fun tb e args s => Calls_1 tb e args s ∧ rest_1 tb e args s ∧ Pre_1 tb e args s)
    (fun _ _ args s o t => lw_Q args s o t) := by
  intro p e ha hc hk s m args below hf hfit hheap happ hpre
  obtain ⟨b, xs, hP⟩ := lw_pre_spec hpre.2.2 hpre.2.1
  obtain ⟨k, o, h1, h2, h3, hQ⟩ := lw_walk l b xs p e ha hc hk s m args below hf ((Spec.applies_iff_loose hf).mp happ).1 hP trivial
  exact ⟨k, o, h1, h2, h3, hQ⟩
theorem lw_frame {s t : State} {o : Outcome} {args : Array Value} (h : Framed s o t [] 600000 7302249) :
    Framed s o t (fieldLocs frame_1_writes args s ++ arrayLocs frame_1_arrays args s ++ staticLocs frame_1_statics s) 600000 7302249 := h
theorem lw_limb (L : Cond) (hL : ∀ (args : Array Value) (s t : State), L.after args s (.returned (some (.int 1))) t = true) :
    ArmFor flags0 classFile x code maxLocals ret World_1 tables_1 room_1 Calls_1 rest_1 Pre_1
      (fun tb e a s o t => postC L tb e a s o t ∧ Framed s o t (fieldLocs frame_1_writes a s ++ arrayLocs frame_1_arrays a s ++ staticLocs frame_1_statics s) 600000 7302249) := by
  intro l _ _ _ p e ha hc hk s m args below hf hfit hheap happ hpre
  obtain ⟨k, o, h1, h2, h3, rfl, hF⟩ := lw_comes l p e ha hc hk s m args below hf hfit hheap happ hpre
  exact ⟨k, _, h1, h2, h3, hL args s _, lw_frame hF⟩
theorem i_vc : Claimed_1_1 ∧ Claimed_1_2 := ⟨lw_limb limb_1_1 (fun args s t => by simp [limb_1_1, Cond.after, Cond.holds, Cond.value]), lw_limb limb_1_2 (fun args s t => Cond.after_iff.mpr (by
  first | (rw [show limb_1_2 = Cond.eq .result (.int 1) from rfl, Cond.eq_ints (x := 1) (y := 1) rfl rfl]; simp; done) | (simp [limb_1_2, Cond.value, Term.eval]; done)))⟩

