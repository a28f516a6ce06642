theorem IX_0 : IX v0X F0X := by
  refine ⟨fun k lo hi h => ?_, fun k lo hi h j => ?_⟩
  · unfold bX at h
    split at h
    all_goals first | (cases h; done) | (cases h; decide)
  · unfold aX at h
    split at h
    all_goals first | (cases h; done) | (cases h; show _ ≤ (0 : Int32).toInt ∧ (0 : Int32).toInt ≤ _; decide)
theorem IM_0 : IM v0M F0M := by
  refine ⟨fun k lo hi h => ?_, fun k lo hi h j => ?_⟩
  · unfold bM at h
    split at h
    all_goals first | (cases h; done) | (cases h; decide)
  · unfold aM at h
    split at h
    all_goals first | (cases h; done) | (cases h; show _ ≤ (0 : Int32).toInt ∧ (0 : Int32).toInt ≤ _; decide)
theorem LI_0 : LI v0X F0X v0M F0M := ⟨IX_0, IM_0, fun i h => absurd h (by have : (v0M 14).toInt = 0 := (by decide); omega), fun i h => absurd h (by have : (v0M 31).toInt = 0 := (by decide); omega), by decide, by decide, by decide, by decide, rfl, rfl⟩
theorem va_P.lft {D : va_G} {cl : List vw_C} {a b : va_W} {H : Heap} (h : va_P D cl (a ++ b) H) : va_P D cl a H := fun k q hq => h k q (by rw [List.getElem?_append_left (List.getElem?_eq_some_iff.mp hq).1]; exact hq)
set_option maxHeartbeats 8000000 in
set_option maxRecDepth 100000 in
theorem whole_start {p : Program} {e : Env} {s : State} {m : MethodId} {below : List Frame} {meth : Method} {c : Code} (l : Launch) {b L : Nat} {xs : Nat → Int32} (hL : L ≤ 3584) (C0 : lw_At p s m meth c b L xs) : W p l e room_1 s m #[Value.ref b] below meth c s.heap [] 0 0 (lw_Z below #[Value.ref b] s) (entryFrame m ([Value.ref b] : List Value).toArray 4) := by
  obtain ⟨hx, hb, hr, hml, hown, hts, hX, hbl, hlocks, hgv⟩ := id C0
  have hown : s.vm.findClass RL = some m.cls := hown
  have hwd : ∀ w ∈ wA, w.before #[Value.ref b] s = true := fun w h => hts w (wA_in w h)
  have hbA : ¬ (fun q : Nat => s.heap.size ≤ q) b := Nat.not_le.mpr hbl
  have hA : ∀ q : Nat, s.heap.size ≤ q → (fun q : Nat => s.heap.size ≤ q) q := fun _ h => h
  obtain ⟨cc0, iS0, hKn0⟩ := u_known (C := RX0) (T := TX0) (N := 9) (n := 9) hwd inA_X0 (hts (.instantiable RX0 9) (by decide +kernel))
  obtain ⟨cc1, iS1, hKn1⟩ := u_known (C := RX1) (T := TX1) (N := 13) (n := 13) hwd inA_X1 (hts (.instantiable RX1 13) (by decide +kernel))
  obtain ⟨cc2, iS2, hKn2⟩ := u_known (C := RX2) (T := TX2) (N := 4) (n := 4) hwd inA_X2 (hts (.instantiable RX2 4) (by decide +kernel))
  obtain ⟨cc3, iS3, hKn3⟩ := u_known (C := RX3) (T := TX3) (N := 5) (n := 5) hwd inA_X3 (hts (.instantiable RX3 5) (by decide +kernel))
  obtain ⟨cc4, iS4, hKn4⟩ := u_known (C := RX4) (T := TX4) (N := 7) (n := 7) hwd inA_X4 (hts (.instantiable RX4 7) (by decide +kernel))
  obtain ⟨cc5, iS5, hKn5⟩ := u_known (C := RX5) (T := TX5) (N := 6) (n := 6) hwd inA_X5 (hts (.instantiable RX5 6) (by decide +kernel))
  obtain ⟨cc6, iS6, hKn6⟩ := u_known (C := RX6) (T := TX6) (N := 5) (n := 5) hwd inA_X6 (hts (.instantiable RX6 5) (by decide +kernel))
  obtain ⟨cc7, iS7, hKn7⟩ := u_known (C := RX7) (T := TX7) (N := 7) (n := 7) hwd inA_X7 (hts (.instantiable RX7 7) (by decide +kernel))
  obtain ⟨cc8, iS8, hKn8⟩ := u_known (C := RX8) (T := TX8) (N := 10) (n := 10) hwd inA_X8 (hts (.instantiable RX8 10) (by decide +kernel))
  obtain ⟨cc9, iS9, hKn9⟩ := u_known (C := RX9) (T := TX9) (N := 11) (n := 11) hwd inA_X9 (hts (.instantiable RX9 11) (by decide +kernel))
  obtain ⟨cc10, iS10, hKn10⟩ := u_known (C := RX10) (T := TX10) (N := 2) (n := 2) hwd inA_X10 (hts (.instantiable RX10 2) (by decide +kernel))
  obtain ⟨cc11, iS11, hKn11⟩ := u_known (C := RX11) (T := TX11) (N := 14) (n := 14) hwd inA_X11 (hts (.instantiable RX11 14) (by decide +kernel))
  obtain ⟨cc12, iS12, hKn12⟩ := u_known (C := RX12) (T := TX12) (N := 63) (n := 63) hwd inA_X12 (hts (.instantiable RX12 63) (by decide +kernel))
  obtain ⟨dC, dI, hKc⟩ : ∃ (dC : Nat → ClassId) (dI : Nat → Nat → Nat), ∀ (k : Nat) (q : vw_C), classes[k]? = some q → u_Kn s q.1 q.2.1 q.2.2 (dC k) (dI k) := by
    refine ⟨fun k => [cc0, cc1, cc2, cc3, cc4, cc5, cc6, cc7, cc8, cc9, cc10, cc11, cc12].getD k cc0, fun k => [iS0, iS1, iS2, iS3, iS4, iS5, iS6, iS7, iS8, iS9, iS10, iS11, iS12].getD k iS0, ?_⟩
    intro k q hq
    match k, hq with
    | 0, hq => cases hq; exact hKn0
    | 1, hq => cases hq; exact hKn1
    | 2, hq => cases hq; exact hKn2
    | 3, hq => cases hq; exact hKn3
    | 4, hq => cases hq; exact hKn4
    | 5, hq => cases hq; exact hKn5
    | 6, hq => cases hq; exact hKn6
    | 7, hq => cases hq; exact hKn7
    | 8, hq => cases hq; exact hKn8
    | 9, hq => cases hq; exact hKn9
    | 10, hq => cases hq; exact hKn10
    | 11, hq => cases hq; exact hKn11
    | 12, hq => cases hq; exact hKn12
    | k + 13, hq => simp [classes] at hq
  have hK : va_K (dC, dI) classes [] s := ⟨hKc, fun k q h => by simp at h⟩
  have hD : va_D (fun q : Nat => s.heap.size ≤ q) [] := ⟨fun i j p q h => by simp at h, fun k q h => by simp at h⟩
  have hs9 := flat_of_before _ hgv
  have hA9 : ∀ a : Nat, a < s.heap.size → ¬ (fun q : Nat => s.heap.size ≤ q) a := fun a h => Nat.not_le.mpr h
  have hNw9 : va_Nw (.methodLinkNest RX11 9 yX2_init "PlanesBack") s := va_Nw.of rfl (hts _ (by decide +kernel))
  have hNw18 : va_Nw (.methodLinkNest RX11 18 yX8_init "PlanesBack") s := va_Nw.of rfl (hts _ (by decide +kernel))
  have hNw25 : va_Nw (.methodLinkNest RX11 25 yX9_init "PlanesBack") s := va_Nw.of rfl (hts _ (by decide +kernel))
  have hNw41 : va_Nw (.methodLinkNest RX11 41 yX10_init "PlanesBack") s := va_Nw.of rfl (hts _ (by decide +kernel))
  have hNw48 : va_Nw (.methodLinkNest RX11 48 yX4_init "PlanesBack") s := va_Nw.of rfl (hts _ (by decide +kernel))
  have hNwA : va_Nw (.methodLinkNest RX8 55 yX11_held "PlanesBack") s := va_Nw.of rfl (hts _ (by decide +kernel))
  have hNwB : va_Nw (.methodLinkNest RX1 123 yX11_held "PlanesBack") s := va_Nw.of rfl (hts _ (by decide +kernel))
  have hAOA : (Cond.arrayOver (.array .int)).before #[] s = true := hts (.arrayOver (.array .int)) (by decide +kernel)
  have hSZ : va_Z "java/lang/String" "COMPACT_STRINGS" "Z" (.int 1) (fun q : Nat => s.heap.size ≤ q) s s.heap := va_Zof (hts (.laysStatic "java/lang/String" "COMPACT_STRINGS" "Z") (by decide +kernel)) (hts (.initialized "java/lang/String") (by decide +kernel)) (va_eqi (hs9 _ (by decide +kernel))) hA9
  obtain ⟨adK, adV, hSS, hev⟩ := vk_Sof (args := #[Value.ref b]) (s := s) (N := 1) (tm := fun _ => Term.string "PlanesBack$Lives" 11) (len := [6]) (byt := [[100, 104, 108, 119, 107, 110]]) (A := (fun q : Nat => s.heap.size ≤ q)) (fun i hi => by obtain rfl : i = 0 := (by omega); decide) (fun i hi => hs9 _ (by decide +kernel)) (fun i hi => hs9 _ (by decide +kernel)) (fun i hi => hs9 _ (by decide +kernel)) (fun i hi => by obtain rfl : i = 0 := (by omega); exact hs9 _ (by decide +kernel)) (fun i hi j hj => by obtain rfl : i = 0 := (by omega); rcases (show j = 0 ∨ j = 1 ∨ j = 2 ∨ j = 3 ∨ j = 4 ∨ j = 5 by have : j < 6 := hj; omega) with rfl | rfl | rfl | rfl | rfl | rfl <;> exact hs9 _ (by decide +kernel)) (fun i j hi hj hij => absurd (show i = j by omega) hij) hA9
  have hSR : vk_R RX5 11 "dhlwkn" (adK 0) s := vk_R.of (hts (.stringRef RX5 11 "dhlwkn") (by decide +kernel)) (hev 0 (by decide))
  have hSR3 : vk_R RX3 79 "dhlwkn" (adK 0) s := vk_R.of (hts (.stringRef RX3 79 "dhlwkn") (by decide +kernel)) (va_eqR (hs9 (.eq (.string "PlanesBack$Lives" 11) (.string "PlanesBack$LawReader" 79)) (by decide +kernel)) (hev 0 (by decide)))
  have hE : EX adK adV (fun q : Nat => s.heap.size ≤ q) s := ⟨hNwA, hNwB, hSR3, hSS, hSZ⟩
  have hl := lv_entry ([.ref b]) (n := 4) (Nat.le_of_ble_eq_true rfl)
  rw [lg_entry_eq]
  generalize (lg_sl ([.ref b]) ++ List.replicate (4 - (lg_sl ([.ref b])).length) Slot.unset).toArray = ls at hl ⊢
  have hl : lv_has ls 4 [(0, .ref b)] := hl
  obtain ⟨H, eH⟩ : ∃ z, z = s.heap := ⟨_, rfl⟩
  have hP : va_P (dC, dI) classes [] H := fun k q h => by simp at h
  have hS : va_S (fun q : Nat => s.heap.size ≤ q) s.heap H [] := by rw [eH]; exact va_S.rf
  refine my_heap eH ?_
  refine va_new (ci := 11) (fs := [.null, .null, .null, .null, .null, .null, .null, .null, .null, .null, .null, .int 0, .int 0, .int 0]) (C := RX11) (T := TX11) (N := 14) hx hb hwd inA_X11 tyX11 tyX11_ok hown (hwd _ wk_0) (hwd _ wk_1) (hwd _ wk_2) hK hP hD hS hA rfl dvX11 (Nat.le_of_ble_eq_true rfl) (Nat.le_of_ble_eq_true rfl) dL_law_0 (fun q11 H hP hD hS => ?_)
  refine W.widen (k := 1) (n := 14) (Nat.le_of_ble_eq_true rfl) (Nat.le_of_ble_eq_true rfl) ?_
  refine lv_dup hx hb dL_law_3 rfl ?_
  have hPc : va_P (dC, dI) classes [(q11, .inr (11, [.null, .null, .null, .null, .null, .null, .null, .null, .null, .null, .null, .int 0, .int 0, .int 0]))] H := hP
  have hDc : va_D (fun q : Nat => s.heap.size ≤ q) [(q11, .inr (11, [.null, .null, .null, .null, .null, .null, .null, .null, .null, .null, .null, .int 0, .int 0, .int 0]))] := hD
  have hFc := va_free (wc := [(q11, .inr (11, [.null, .null, .null, .null, .null, .null, .null, .null, .null, .null, .null, .int 0, .int 0, .int 0]))]) hDc hS hA [0] rfl
  refine va_callv (va_runI (As := []) (rest := [.ref q11]) ⟨hx, hb, hml, hown, hwd⟩ (c_X11_init l dC dI q11 adK adV H.size) (cwI 0 hwd (gS wk_8) rfl rfl rfl (hwd _ wk_2) (hwd _ wk_6) (hwd _ wk_7) rfl (by decide +kernel) ⟨Nat.le_of_ble_eq_true rfl, Nat.le_of_ble_eq_true rfl⟩) ⟨fun a U g mk q => by obtain ⟨q0, q1, qP, qK, qD, qx0, qx1, qx2, qx3, qx4, qx5, qx6, qx7, qx8⟩ := q; exact ⟨q0, q1, qP, va_K.moved (u := U) (U := U.calling g mk a) (Vm.Alike.refl U.vm) qK, qD, va_Nw.same rfl (u := U) (U := U.calling g mk a) rfl qx0, va_Nw.same rfl (u := U) (U := U.calling g mk a) rfl qx1, va_Nw.same rfl (u := U) (U := U.calling g mk a) rfl qx2, va_Nw.same rfl (u := U) (U := U.calling g mk a) rfl qx3, va_Nw.same rfl (u := U) (U := U.calling g mk a) rfl qx4, my_AO.moved (s := U) (U := U.calling g mk a) (Vm.Alike.refl U.vm) qx5, vk_R.same (u := U) (U := U.calling g mk a) rfl qx6, vk_S.moved (u := U) (U := U.calling g mk a) (Vm.Alike.refl U.vm) qx7, va_Z.moved (u := U) (U := U.calling g mk a) (Vm.Alike.refl U.vm) qx8⟩, fun U hU hW => ⟨rfl, by rw [hU], by rw [hU]; exact hPc, va_K.moved hW.alike hK, hDc.weaken (fun _ _ _ _ => trivial), va_Nw.warmM hW hNw9, va_Nw.warmM hW hNw18, va_Nw.warmM hW hNw25, va_Nw.warmM hW hNw41, va_Nw.warmM hW hNw48, my_AO.moved hW.alike hAOA, vk_R.warm hW hSR, by rw [hU]; exact ((hSS.kept hS.2.1).narrow hFc).moved hW.alike, by rw [hU]; exact ((hSZ.kept hS.2.1).narrow hFc).moved hW.alike⟩⟩ rfl rfl hl.1 rfl (lv_room (Nat.le_of_ble_eq_true rfl)) dL_law_4 ⟨Nat.le_of_ble_eq_true rfl, Nat.le_of_ble_eq_true rfl⟩) hS (fun q _ h => hFc q h) hFc (fun u t H1 locs ht hvm hw hB hz1 hk1 hS => ?_)
  refine W.widen (k := 80) (n := 9340) (Nat.le_of_ble_eq_true rfl) (Nat.le_of_ble_eq_true rfl) ?_
  obtain ⟨gX, cX, rc, hg0, hPX, hKX, hDX⟩ := hB
  rw [ht] at hPX
  have hKX := va_K.moved hvm.symm hKX
  have hgX := injX_of hDX
  have hXA : ∀ k, k < 79 → s.heap.size ≤ gX k := fun k hk => (wX_get gX cX v0X F0X rc hk).elim (fun e he => hFc _ (hDX.2 k _ he))
  have hDX := hDX.weaken (B := (fun q : Nat => s.heap.size ≤ q)) (fun k q _ h => hFc _ h)
  refine lv_astore_n (lv' := [(1, .ref q11), (0, .ref b)]) hx hb dL_law_7 rfl hl (by decide) rfl (fun ls hl => ?_)
  generalize H1 = H at hPX hS ⊢
  have hP := hPX
  have hD := hDX
  refine va_new (ci := 12) (fs := [.int 0, .int 0, .int 0, .null, .null, .null, .int 0, .null, .null, .null, .null, .null, .null, .null, .int 0, .null, .null, .null, .null, .int 0, .null, .null, .null, .null, .null, .null, .null, .null, .null, .null, .int 0, .int 0, .null, .null, .null, .null, .null, .int 0, .int 0, .int 0, .int 0, .int 0, .int 0, .null, .null, .int 0, .null, .null, .null, .null, .null, .null, .null, .null, .null, .null, .null, .int 0, .int 0, .null, .int 0, .null, .null]) (C := RX12) (T := TX12) (N := 63) hx hb hwd inA_X12 tyX12 tyX12_ok hown (hwd _ wk_3) (hwd _ wk_4) (hwd _ wk_5) hK hP hD hS hA rfl dvX12 (Nat.le_of_ble_eq_true rfl) (Nat.le_of_ble_eq_true rfl) dL_law_8 (fun q12 H hP hD hS => ?_)
  refine W.widen (k := 81) (n := 9403) (Nat.le_of_ble_eq_true rfl) (Nat.le_of_ble_eq_true rfl) ?_
  refine lv_dup hx hb dL_law_11 rfl ?_
  have hPX := hP.lft
  have hPc : va_P (dC, dI) classes [(q12, .inr (12, [.int 0, .int 0, .int 0, .null, .null, .null, .int 0, .null, .null, .null, .null, .null, .null, .null, .int 0, .null, .null, .null, .null, .int 0, .null, .null, .null, .null, .null, .null, .null, .null, .null, .null, .int 0, .int 0, .null, .null, .null, .null, .null, .int 0, .int 0, .int 0, .int 0, .int 0, .int 0, .null, .null, .int 0, .null, .null, .null, .null, .null, .null, .null, .null, .null, .null, .null, .int 0, .int 0, .null, .int 0, .null, .null]))] H := hP.sub [79] rfl
  have hDc : va_D (fun q : Nat => s.heap.size ≤ q) [(q12, .inr (12, [.int 0, .int 0, .int 0, .null, .null, .null, .int 0, .null, .null, .null, .null, .null, .null, .null, .int 0, .null, .null, .null, .null, .int 0, .null, .null, .null, .null, .null, .null, .null, .null, .null, .null, .int 0, .int 0, .null, .null, .null, .null, .null, .int 0, .int 0, .int 0, .int 0, .int 0, .int 0, .null, .null, .int 0, .null, .null, .null, .null, .null, .null, .null, .null, .null, .null, .null, .int 0, .int 0, .null, .int 0, .null, .null]))] := hD.sub [79] (by decide) rfl
  have hFc := va_free (wc := [(q12, .inr (12, [.int 0, .int 0, .int 0, .null, .null, .null, .int 0, .null, .null, .null, .null, .null, .null, .null, .int 0, .null, .null, .null, .null, .int 0, .null, .null, .null, .null, .null, .null, .null, .null, .null, .null, .int 0, .int 0, .null, .null, .null, .null, .null, .int 0, .int 0, .int 0, .int 0, .int 0, .int 0, .null, .null, .int 0, .null, .null, .null, .null, .null, .null, .null, .null, .null, .null, .null, .int 0, .int 0, .null, .int 0, .null, .null]))]) hDc hS hA [0] rfl
  have hqX : ∀ k, k < 79 → gX k ≠ q12 := fun k hk e9 => (wX_get gX cX v0X F0X rc hk).elim (fun e1 he => by have := hD.1 k 79 _ (q12, _) (by rw [List.getElem?_append_left (List.getElem?_eq_some_iff.mp he).1]; exact he) rfl e9; omega)
  have hltX : ∀ k, k < 79 → gX k < H.size := fun k hk => (wX_get gX cX v0X F0X rc hk).elim (fun e1 he => (hPX k _ he).lt)
  refine va_callv (va_runI (As := []) (rest := [.ref q12]) ⟨hx, hb, hml, hown, hwd⟩ (c_X12_init l dC dI q12 H.size) (cwI 0 hwd (gS wk_180) rfl rfl rfl (hwd _ wk_5) (hwd _ wk_178) (hwd _ wk_179) rfl (by decide +kernel) ⟨Nat.le_of_ble_eq_true rfl, Nat.le_of_ble_eq_true rfl⟩) ⟨fun a U g mk q => by obtain ⟨q0, q1, qP, qK, qD⟩ := q; exact ⟨q0, q1, qP, va_K.moved (u := U) (U := U.calling g mk a) (Vm.Alike.refl U.vm) qK, qD⟩, fun U hU hW => ⟨rfl, by rw [hU], by rw [hU]; exact hPc, va_K.moved hW.alike hK, hDc.weaken (fun _ _ _ _ => trivial)⟩⟩ rfl rfl hl.1 rfl (lv_room (Nat.le_of_ble_eq_true rfl)) dL_law_12 ⟨Nat.le_of_ble_eq_true rfl, Nat.le_of_ble_eq_true rfl⟩) hS (fun q _ h => hFc q h) hFc (fun u t H1 locs ht hvm hw hB hz1 hk1 hS => ?_)
  refine W.widen (k := 126) (n := 19787) (Nat.le_of_ble_eq_true rfl) (Nat.le_of_ble_eq_true rfl) ?_
  obtain ⟨gM, cM, hg1, hPM, hKM, hDM⟩ := hB
  rw [ht] at hPM
  have hKM := va_K.moved hvm.symm hKM
  have hgM := injM_of hDM
  have hMA : ∀ k, k < 46 → s.heap.size ≤ gM k := fun k hk => (wM_get gM cM v0M F0M 0 hk).elim (fun e he => hFc _ (hDM.2 k _ he))
  have hA1 : ∀ q, va_A [(q12, .inr (12, [.int 0, .int 0, .int 0, .null, .null, .null, .int 0, .null, .null, .null, .null, .null, .null, .null, .int 0, .null, .null, .null, .null, .int 0, .null, .null, .null, .null, .null, .null, .null, .null, .null, .null, .int 0, .int 0, .null, .null, .null, .null, .null, .int 0, .int 0, .int 0, .int 0, .int 0, .int 0, .null, .null, .int 0, .null, .null, .null, .null, .null, .null, .null, .null, .null, .null, .null, .int 0, .int 0, .null, .int 0, .null, .null]))] H.size q → q = q12 ∨ H.size ≤ q := fun q h => h.elim (fun ⟨k, e1, he⟩ => by match k, he with | 0, he => (cases he; exact Or.inl rfl) | k + 1, he => simp at he) Or.inr
  have hXM : ∀ i j, i < 79 → j < 46 → gX i ≠ gM j := fun i j hi hj e9 => (wM_get gM cM v0M F0M 0 hj).elim (fun e he => (hA1 _ (hDM.2 j _ he)).elim (fun h => hqX i hi (e9.trans h)) (fun h => by have := hltX i hi; have h : H.size ≤ gM j := h; omega))
  have hPX := hPX.kept (H1 := H1) (fun k q hq => hk1 _ ((hPX k q hq).lt) (fun hh => (hA1 _ hh).elim (fun h => hqX k (wX_at hq).1 (by rw [← (wX_at hq).2]; exact h)) (fun h => by have := (hPX k q hq).lt; omega)))
  generalize H1 = H at hPX hPM hS ⊢
  refine lv_astore_n (lv' := [(2, .ref q12), (1, .ref q11), (0, .ref b)]) hx hb dL_law_15 rfl hl (by decide) rfl (fun ls hl => ?_)
  refine lv_iconst (v := 0) hx hb dL_law_16 (by decide) ?_
  refine lv_istore_n (lv' := [(3, .int 0), (2, .ref q12), (1, .ref q11), (0, .ref b)]) hx hb dL_law_17 rfl hl (by decide) rfl (fun ls hl => ?_)
  rw [← hg0, ← hg1] at hl
  exact law_loop hL C0 ⟨hgX, hgM, hXA, hMA, hXM, hKX, hKM, hE⟩ 3700 0 v0X F0X rc v0M F0M _ _ ls (by decide) (by decide) (by decide) LI_0 hPX hPM hS hl
