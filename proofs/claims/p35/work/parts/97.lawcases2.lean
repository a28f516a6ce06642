set_option maxHeartbeats 4000000 in
set_option maxRecDepth 100000 in
theorem law_case_18 {p : Program} {l : Launch} {e : Env} {s : State} {m : MethodId} {below : List Frame} {meth : Method} {c : Code} {dC : Nat → ClassId} {dI : Nat → Nat → Nat} {b L : Nat} {xs : Nat → Int32} {gX gM adK adV : Nat → Nat} {cX cM : Nat → ClassId} (hL : L ≤ 3584) (C0 : lw_At p s m meth c b L xs) (hLS : LSta s dC dI gX cX gM cM adK adV) {i : Int32} (hi : 0 ≤ i.toInt ∧ i.toInt + 7 ≤ (L : Int)) {v : Nat → Int32} {F : Nat → Nat → Int32} {rc : Nat} {v' : Nat → Int32} {F' : Nat → Nat → Int32} {H : Heap} {locs : List Loc} {ls : Array Slot} (hLI : LI v F v' F') (hPX : va_P (dC, dI) classes (wX gX cX v F rc) H) (hPM : va_P (dC, dI) classes (wM gM cM v' F' 0) H) (hS : va_S (fun q : Nat => s.heap.size ≤ q) s.heap H locs) (hl : lv_has ls 4 [(3, .int i), (2, .ref (gM 0)), (1, .ref (gX 0)), (0, .ref b)]) (hK : ∀ (v : Nat → Int32) (F : Nat → Nat → Int32) (rc : Nat) (v' : Nat → Int32) (F' : Nat → Nat → Int32) (H : Heap) (locs : List Loc) (ls : Array Slot), LI v F v' F' → va_P (dC, dI) classes (wX gX cX v F rc) H → va_P (dC, dI) classes (wM gM cM v' F' 0) H → va_S (fun q : Nat => s.heap.size ≤ q) s.heap H locs → lv_has ls 4 [(3, .int i), (2, .ref (gM 0)), (1, .ref (gX 0)), (0, .ref b)] → W p l e room_1 s m #[Value.ref b] below meth c H locs 126 19787 (lw_Z below #[Value.ref b] s) (F0 m 1485 ls [])) : W p l e room_1 s m #[Value.ref b] below meth c H locs 126 19787 (lw_Z below #[Value.ref b] s) (F0 m 904 ls []) := by
  obtain ⟨hx, hb, hr, hml, hown, hts, hX, hbl, hlocks, hgv⟩ := id C0
  have hown : s.vm.findClass RL = some m.cls := hown
  have hwd : ∀ w ∈ wA, w.before #[Value.ref b] s = true := fun w h => hts w (wA_in w h)
  have hbA : ¬ (fun q : Nat => s.heap.size ≤ q) b := Nat.not_le.mpr hbl
  refine lv_aload_n hx hb dL_law_904 rfl (lv_at hl 2 rfl) ?_
  refine lv_aload_n hx hb dL_law_905 rfl (lv_at hl 3 rfl) ?_
  refine lv_iload_n hx hb dL_law_906 rfl (lv_at hl 0 rfl) ?_
  refine lv_iconst (v := 1) hx hb dL_law_907 (by decide) ?_
  refine lv_iadd hx hb dL_law_908 ?_
  refine lv_topi (fun z1 ez1 => ?_)
  have tz1 := tadd ez1 rfl (b := 1) (by decide) (by omega)
  refine va_sld hx hb hX hbl hbA hS (i := z1) (vin rfl (by omega)) dL_law_909 ?_
  refine lv_topi (fun a1 ea1 => ?_)
  refine va_calli (va_runV (As := [.int a1]) (rest := []) ⟨hx, hb, hml, hown, hwd⟩ (c_X11_law l dC dI gX cX adK adV v F rc H.size a1 hLS.1 hLI.1) (cwV 1 hwd (gV wk_843 wk_840 wk_841 wk_842 wk_2) rfl rfl rfl (by decide +kernel) ⟨Nat.le_of_ble_eq_true rfl, Nat.le_of_ble_eq_true rfl⟩) ⟨PX.blind, va_recv hLS.2.2.2.2.2.1 hPX (ci := 11) (q0 := 0) rfl rfl, fun U hU hW => ⟨rfl, by rw [hU], by rw [hU]; exact hPX, va_K.moved hW.alike hLS.2.2.2.2.2.1, hLS.2.2.2.2.2.2.2.at hS (hLS.fX hS.1) hU hW⟩⟩ rfl rfl hl.1 rfl (lv_room (Nat.le_of_ble_eq_true rfl)) dL_law_910 ⟨Nat.le_of_ble_eq_true rfl, Nat.le_of_ble_eq_true rfl⟩) hS (fun q _ h => (hLS.fX hS.1) q h) (hLS.fX hS.1) (fun r1 u t H1 locs ht hvm hw hB hz1 hk1 hS => ?_)
  unfold BX at hB
  rw [ht] at hB
  have hPM := hLS.kM hPM hk1
  obtain ⟨v1, F1, rc1⟩ := u
  obtain ⟨hI1, hal1, -, -, -⟩ := hw
  dsimp only at hI1 hal1 hB
  have q1 := alX_c hal1
  have hPX : va_P (dC, dI) classes (wX gX cX v1 F1 rc1) H1 := hB
  generalize H1 = H at hPX hPM hS ⊢
  refine lv_pop hx hb dL_law_913 rfl ?_
  refine lv_aload_n hx hb dL_law_914 rfl (lv_at hl 1 rfl) ?_
  refine lv_aload_n hx hb dL_law_915 rfl (lv_at hl 3 rfl) ?_
  refine lv_iload_n hx hb dL_law_916 rfl (lv_at hl 0 rfl) ?_
  refine lv_iconst (v := 1) hx hb dL_law_917 (by decide) ?_
  refine lv_iadd hx hb dL_law_918 ?_
  refine lv_topi (fun z2 ez2 => ?_)
  have tz2 := tadd ez2 rfl (b := 1) (by decide) (by omega)
  refine va_sld hx hb hX hbl hbA hS (i := z2) (vin rfl (by omega)) dL_law_919 ?_
  refine my_top (v := a1) (by rw [ea1, ez2, ez1]) ?_
  refine va_calli (va_runV (As := [.int a1]) (rest := []) ⟨hx, hb, hml, hown, hwd⟩ (c_X12_law l dC dI gM cM adK adV v' F' 0 H.size a1 hLS.2.1 hLI.2.1 hLI.2.2.2.1) (cwV 1 hwd (gV wk_1001 wk_998 wk_999 wk_1000 wk_5) rfl rfl rfl (by decide +kernel) ⟨Nat.le_of_ble_eq_true rfl, Nat.le_of_ble_eq_true rfl⟩) ⟨PM.blind, va_recv hLS.2.2.2.2.2.2.1 hPM (ci := 12) (q0 := 0) rfl rfl, fun U hU hW => ⟨rfl, by rw [hU], by rw [hU]; exact hPM, va_K.moved hW.alike hLS.2.2.2.2.2.2.1, trivial⟩⟩ rfl rfl hl.1 rfl (lv_room (Nat.le_of_ble_eq_true rfl)) dL_law_920 ⟨Nat.le_of_ble_eq_true rfl, Nat.le_of_ble_eq_true rfl⟩) hS (fun q _ h => (hLS.fM hS.1) q h) (hLS.fM hS.1) (fun r2 u t H1 locs ht hvm hw hB hz1 hk1 hS => ?_)
  unfold BM at hB
  rw [ht] at hB
  have hPX := hLS.kX hPX hk1
  obtain ⟨v2, F2, rc2⟩ := u
  obtain ⟨hI2, hrc2, hf2, hG2, hw2⟩ := hw
  dsimp only at hI2 hrc2 hf2 hG2 hw2 hB
  rw [hrc2] at hB
  have hPM : va_P (dC, dI) classes (wM gM cM v2 F2 0) H1 := hB
  have g1 := congrArg Int32.toInt (hf2 1 (by decide))
  have g2 := congrArg Int32.toInt (hf2 2 (by decide))
  have g6 := congrArg Int32.toInt (hf2 6 (by decide))
  have g45 := congrArg Int32.toInt (hf2 45 (by decide))
  generalize H1 = H at hPX hPM hS ⊢
  have tie := hLI.2.2.2.2
  have hLI9 : LI v1 F1 v2 F2 := ⟨hI1, hI2, (JO.to hLI.2.2.1 (hf2 14 (by decide)) (hf2 19 (by decide)) (hG2 13 (by decide)) (hG2 15 (by decide)) (hG2 18 (by decide))), hw2, by omega, by omega, by omega, by omega, (q1.2.1.trans (hLI.2.2.2.2.2.2.2.2.1.trans (hG2 44 (by decide)).symm)), (q1.2.2.trans (hLI.2.2.2.2.2.2.2.2.2.trans (hG2 45 (by decide)).symm))⟩
  refine lv_pop hx hb dL_law_923 rfl ?_
  refine lv_goto (tgt := 1485) hx hb dL_law_924 (by decide) ?_
  exact hK v1 F1 rc1 v2 F2 H _ ls hLI9 hPX hPM hS hl
set_option maxHeartbeats 4000000 in
set_option maxRecDepth 100000 in
theorem law_case_19 {p : Program} {l : Launch} {e : Env} {s : State} {m : MethodId} {below : List Frame} {meth : Method} {c : Code} {dC : Nat → ClassId} {dI : Nat → Nat → Nat} {b L : Nat} {xs : Nat → Int32} {gX gM adK adV : Nat → Nat} {cX cM : Nat → ClassId} (hL : L ≤ 3584) (C0 : lw_At p s m meth c b L xs) (hLS : LSta s dC dI gX cX gM cM adK adV) {i : Int32} (hi : 0 ≤ i.toInt ∧ i.toInt + 7 ≤ (L : Int)) {v : Nat → Int32} {F : Nat → Nat → Int32} {rc : Nat} {v' : Nat → Int32} {F' : Nat → Nat → Int32} {H : Heap} {locs : List Loc} {ls : Array Slot} (hLI : LI v F v' F') (hPX : va_P (dC, dI) classes (wX gX cX v F rc) H) (hPM : va_P (dC, dI) classes (wM gM cM v' F' 0) H) (hS : va_S (fun q : Nat => s.heap.size ≤ q) s.heap H locs) (hl : lv_has ls 4 [(3, .int i), (2, .ref (gM 0)), (1, .ref (gX 0)), (0, .ref b)]) (hK : ∀ (v : Nat → Int32) (F : Nat → Nat → Int32) (rc : Nat) (v' : Nat → Int32) (F' : Nat → Nat → Int32) (H : Heap) (locs : List Loc) (ls : Array Slot), LI v F v' F' → va_P (dC, dI) classes (wX gX cX v F rc) H → va_P (dC, dI) classes (wM gM cM v' F' 0) H → va_S (fun q : Nat => s.heap.size ≤ q) s.heap H locs → lv_has ls 4 [(3, .int i), (2, .ref (gM 0)), (1, .ref (gX 0)), (0, .ref b)] → W p l e room_1 s m #[Value.ref b] below meth c H locs 126 19787 (lw_Z below #[Value.ref b] s) (F0 m 1485 ls [])) : W p l e room_1 s m #[Value.ref b] below meth c H locs 126 19787 (lw_Z below #[Value.ref b] s) (F0 m 927 ls []) := by
  obtain ⟨hx, hb, hr, hml, hown, hts, hX, hbl, hlocks, hgv⟩ := id C0
  have hown : s.vm.findClass RL = some m.cls := hown
  have hwd : ∀ w ∈ wA, w.before #[Value.ref b] s = true := fun w h => hts w (wA_in w h)
  have hbA : ¬ (fun q : Nat => s.heap.size ≤ q) b := Nat.not_le.mpr hbl
  refine lv_aload_n hx hb dL_law_927 rfl (lv_at hl 2 rfl) ?_
  refine lv_aload_n hx hb dL_law_928 rfl (lv_at hl 3 rfl) ?_
  refine lv_iload_n hx hb dL_law_929 rfl (lv_at hl 0 rfl) ?_
  refine lv_iconst (v := 1) hx hb dL_law_930 (by decide) ?_
  refine lv_iadd hx hb dL_law_931 ?_
  refine lv_topi (fun z1 ez1 => ?_)
  have tz1 := tadd ez1 rfl (b := 1) (by decide) (by omega)
  refine va_sld hx hb hX hbl hbA hS (i := z1) (vin rfl (by omega)) dL_law_932 ?_
  refine lv_topi (fun a1 ea1 => ?_)
  refine lv_aload_n hx hb dL_law_933 rfl (lv_at hl 3 rfl) ?_
  refine lv_iload_n hx hb dL_law_934 rfl (lv_at hl 0 rfl) ?_
  refine lv_iconst (v := 2) hx hb dL_law_935 (by decide) ?_
  refine lv_iadd hx hb dL_law_936 ?_
  refine lv_topi (fun z2 ez2 => ?_)
  have tz2 := tadd ez2 rfl (b := 2) (by decide) (by omega)
  refine va_sld hx hb hX hbl hbA hS (i := z2) (vin rfl (by omega)) dL_law_937 ?_
  refine lv_topi (fun a2 ea2 => ?_)
  refine lv_aload_n hx hb dL_law_938 rfl (lv_at hl 3 rfl) ?_
  refine lv_iload_n hx hb dL_law_939 rfl (lv_at hl 0 rfl) ?_
  refine lv_iconst (v := 3) hx hb dL_law_940 (by decide) ?_
  refine lv_iadd hx hb dL_law_941 ?_
  refine lv_topi (fun z3 ez3 => ?_)
  have tz3 := tadd ez3 rfl (b := 3) (by decide) (by omega)
  refine va_sld hx hb hX hbl hbA hS (i := z3) (vin rfl (by omega)) dL_law_942 ?_
  refine lv_topi (fun a3 ea3 => ?_)
  refine va_calli (va_runV (As := [.int a1, .int a2, .int a3]) (rest := []) ⟨hx, hb, hml, hown, hwd⟩ (c_X11_lost l dC dI gX cX adK adV v F rc H.size a1 a2 a3 hLS.1 hLI.1) (cwV 3 hwd (gV wk_1050 wk_1047 wk_1048 wk_1049 wk_2) rfl rfl rfl (by decide +kernel) ⟨Nat.le_of_ble_eq_true rfl, Nat.le_of_ble_eq_true rfl⟩) ⟨PX.blind, va_recv hLS.2.2.2.2.2.1 hPX (ci := 11) (q0 := 0) rfl rfl, fun U hU hW => ⟨rfl, by rw [hU], by rw [hU]; exact hPX, va_K.moved hW.alike hLS.2.2.2.2.2.1, hLS.2.2.2.2.2.2.2.at hS (hLS.fX hS.1) hU hW⟩⟩ rfl rfl hl.1 rfl (lv_room (Nat.le_of_ble_eq_true rfl)) dL_law_943 ⟨Nat.le_of_ble_eq_true rfl, Nat.le_of_ble_eq_true rfl⟩) hS (fun q _ h => (hLS.fX hS.1) q h) (hLS.fX hS.1) (fun r1 u t H1 locs ht hvm hw hB hz1 hk1 hS => ?_)
  unfold BX at hB
  rw [ht] at hB
  have hPM := hLS.kM hPM hk1
  obtain ⟨v1, F1, rc1⟩ := u
  obtain ⟨hI1, hal1, -, -, -⟩ := hw
  dsimp only at hI1 hal1 hB
  have q1 := alX_c hal1
  have hPX : va_P (dC, dI) classes (wX gX cX v1 F1 rc1) H1 := hB
  generalize H1 = H at hPX hPM hS ⊢
  refine lv_pop hx hb dL_law_946 rfl ?_
  refine lv_aload_n hx hb dL_law_947 rfl (lv_at hl 1 rfl) ?_
  refine lv_aload_n hx hb dL_law_948 rfl (lv_at hl 3 rfl) ?_
  refine lv_iload_n hx hb dL_law_949 rfl (lv_at hl 0 rfl) ?_
  refine lv_iconst (v := 1) hx hb dL_law_950 (by decide) ?_
  refine lv_iadd hx hb dL_law_951 ?_
  refine lv_topi (fun z4 ez4 => ?_)
  have tz4 := tadd ez4 rfl (b := 1) (by decide) (by omega)
  refine va_sld hx hb hX hbl hbA hS (i := z4) (vin rfl (by omega)) dL_law_952 ?_
  refine my_top (v := a1) (by rw [ea1, ez4, ez1]) ?_
  refine lv_aload_n hx hb dL_law_953 rfl (lv_at hl 3 rfl) ?_
  refine lv_iload_n hx hb dL_law_954 rfl (lv_at hl 0 rfl) ?_
  refine lv_iconst (v := 2) hx hb dL_law_955 (by decide) ?_
  refine lv_iadd hx hb dL_law_956 ?_
  refine lv_topi (fun z5 ez5 => ?_)
  have tz5 := tadd ez5 rfl (b := 2) (by decide) (by omega)
  refine va_sld hx hb hX hbl hbA hS (i := z5) (vin rfl (by omega)) dL_law_957 ?_
  refine my_top (v := a2) (by rw [ea2, ez5, ez2]) ?_
  refine lv_aload_n hx hb dL_law_958 rfl (lv_at hl 3 rfl) ?_
  refine lv_iload_n hx hb dL_law_959 rfl (lv_at hl 0 rfl) ?_
  refine lv_iconst (v := 3) hx hb dL_law_960 (by decide) ?_
  refine lv_iadd hx hb dL_law_961 ?_
  refine lv_topi (fun z6 ez6 => ?_)
  have tz6 := tadd ez6 rfl (b := 3) (by decide) (by omega)
  refine va_sld hx hb hX hbl hbA hS (i := z6) (vin rfl (by omega)) dL_law_962 ?_
  refine my_top (v := a3) (by rw [ea3, ez6, ez3]) ?_
  refine va_calli (va_runV (As := [.int a1, .int a2, .int a3]) (rest := []) ⟨hx, hb, hml, hown, hwd⟩ (c_X12_lost l dC dI gM cM adK adV v' F' 0 H.size a1 a2 a3 hLS.2.1 hLI.2.1 hLI.2.2.2.1) (cwV 3 hwd (gV wk_1056 wk_1053 wk_1054 wk_1055 wk_5) rfl rfl rfl (by decide +kernel) ⟨Nat.le_of_ble_eq_true rfl, Nat.le_of_ble_eq_true rfl⟩) ⟨PM.blind, va_recv hLS.2.2.2.2.2.2.1 hPM (ci := 12) (q0 := 0) rfl rfl, fun U hU hW => ⟨rfl, by rw [hU], by rw [hU]; exact hPM, va_K.moved hW.alike hLS.2.2.2.2.2.2.1, trivial⟩⟩ rfl rfl hl.1 rfl (lv_room (Nat.le_of_ble_eq_true rfl)) dL_law_963 ⟨Nat.le_of_ble_eq_true rfl, Nat.le_of_ble_eq_true rfl⟩) hS (fun q _ h => (hLS.fM hS.1) q h) (hLS.fM hS.1) (fun r2 u t H1 locs ht hvm hw hB hz1 hk1 hS => ?_)
  unfold BM at hB
  rw [ht] at hB
  have hPX := hLS.kX hPX hk1
  obtain ⟨v2, F2, rc2⟩ := u
  obtain ⟨hI2, hrc2, hf2, hG2, hw2⟩ := hw
  dsimp only at hI2 hrc2 hf2 hG2 hw2 hB
  rw [hrc2] at hB
  have hPM : va_P (dC, dI) classes (wM gM cM v2 F2 0) H1 := hB
  have g1 := congrArg Int32.toInt (hf2 1 (by decide))
  have g2 := congrArg Int32.toInt (hf2 2 (by decide))
  have g6 := congrArg Int32.toInt (hf2 6 (by decide))
  have g45 := congrArg Int32.toInt (hf2 45 (by decide))
  generalize H1 = H at hPX hPM hS ⊢
  have tie := hLI.2.2.2.2
  have hLI9 : LI v1 F1 v2 F2 := ⟨hI1, hI2, (JO.to hLI.2.2.1 (hf2 14 (by decide)) (hf2 19 (by decide)) (hG2 13 (by decide)) (hG2 15 (by decide)) (hG2 18 (by decide))), (JL.to hLI.2.2.2.1 (hf2 31 (by decide)) (hG2 28 (by decide)) (hG2 29 (by decide)) (hG2 27 (by decide))), by omega, by omega, by omega, by omega, (q1.2.1.trans (hLI.2.2.2.2.2.2.2.2.1.trans (hG2 44 (by decide)).symm)), (q1.2.2.trans (hLI.2.2.2.2.2.2.2.2.2.trans (hG2 45 (by decide)).symm))⟩
  refine lv_pop hx hb dL_law_966 rfl ?_
  refine lv_goto (tgt := 1485) hx hb dL_law_967 (by decide) ?_
  exact hK v1 F1 rc1 v2 F2 H _ ls hLI9 hPX hPM hS hl
set_option maxHeartbeats 4000000 in
set_option maxRecDepth 100000 in
theorem law_case_20 {p : Program} {l : Launch} {e : Env} {s : State} {m : MethodId} {below : List Frame} {meth : Method} {c : Code} {dC : Nat → ClassId} {dI : Nat → Nat → Nat} {b L : Nat} {xs : Nat → Int32} {gX gM adK adV : Nat → Nat} {cX cM : Nat → ClassId} (hL : L ≤ 3584) (C0 : lw_At p s m meth c b L xs) (hLS : LSta s dC dI gX cX gM cM adK adV) {i : Int32} (hi : 0 ≤ i.toInt ∧ i.toInt + 7 ≤ (L : Int)) {v : Nat → Int32} {F : Nat → Nat → Int32} {rc : Nat} {v' : Nat → Int32} {F' : Nat → Nat → Int32} {H : Heap} {locs : List Loc} {ls : Array Slot} (hLI : LI v F v' F') (hPX : va_P (dC, dI) classes (wX gX cX v F rc) H) (hPM : va_P (dC, dI) classes (wM gM cM v' F' 0) H) (hS : va_S (fun q : Nat => s.heap.size ≤ q) s.heap H locs) (hl : lv_has ls 4 [(3, .int i), (2, .ref (gM 0)), (1, .ref (gX 0)), (0, .ref b)]) (hK : ∀ (v : Nat → Int32) (F : Nat → Nat → Int32) (rc : Nat) (v' : Nat → Int32) (F' : Nat → Nat → Int32) (H : Heap) (locs : List Loc) (ls : Array Slot), LI v F v' F' → va_P (dC, dI) classes (wX gX cX v F rc) H → va_P (dC, dI) classes (wM gM cM v' F' 0) H → va_S (fun q : Nat => s.heap.size ≤ q) s.heap H locs → lv_has ls 4 [(3, .int i), (2, .ref (gM 0)), (1, .ref (gX 0)), (0, .ref b)] → W p l e room_1 s m #[Value.ref b] below meth c H locs 126 19787 (lw_Z below #[Value.ref b] s) (F0 m 1485 ls [])) : W p l e room_1 s m #[Value.ref b] below meth c H locs 126 19787 (lw_Z below #[Value.ref b] s) (F0 m 970 ls []) := by
  obtain ⟨hx, hb, hr, hml, hown, hts, hX, hbl, hlocks, hgv⟩ := id C0
  have hown : s.vm.findClass RL = some m.cls := hown
  have hwd : ∀ w ∈ wA, w.before #[Value.ref b] s = true := fun w h => hts w (wA_in w h)
  have hbA : ¬ (fun q : Nat => s.heap.size ≤ q) b := Nat.not_le.mpr hbl
  refine lv_aload_n hx hb dL_law_970 rfl (lv_at hl 2 rfl) ?_
  refine lv_aload_n hx hb dL_law_971 rfl (lv_at hl 3 rfl) ?_
  refine lv_iload_n hx hb dL_law_972 rfl (lv_at hl 0 rfl) ?_
  refine lv_iconst (v := 1) hx hb dL_law_973 (by decide) ?_
  refine lv_iadd hx hb dL_law_974 ?_
  refine lv_topi (fun z1 ez1 => ?_)
  have tz1 := tadd ez1 rfl (b := 1) (by decide) (by omega)
  refine va_sld hx hb hX hbl hbA hS (i := z1) (vin rfl (by omega)) dL_law_975 ?_
  refine lv_topi (fun a1 ea1 => ?_)
  refine lv_aload_n hx hb dL_law_976 rfl (lv_at hl 3 rfl) ?_
  refine lv_iload_n hx hb dL_law_977 rfl (lv_at hl 0 rfl) ?_
  refine lv_iconst (v := 2) hx hb dL_law_978 (by decide) ?_
  refine lv_iadd hx hb dL_law_979 ?_
  refine lv_topi (fun z2 ez2 => ?_)
  have tz2 := tadd ez2 rfl (b := 2) (by decide) (by omega)
  refine va_sld hx hb hX hbl hbA hS (i := z2) (vin rfl (by omega)) dL_law_980 ?_
  refine lv_topi (fun a2 ea2 => ?_)
  refine va_calli (va_runV (As := [.int a1, .int a2]) (rest := []) ⟨hx, hb, hml, hown, hwd⟩ (c_X11_order_x l dC dI gX cX adK adV v F rc H.size a1 a2 hLS.1 hLI.1) (cwV 2 hwd (gV wk_1060 wk_1057 wk_1058 wk_1059 wk_2) rfl rfl rfl (by decide +kernel) ⟨Nat.le_of_ble_eq_true rfl, Nat.le_of_ble_eq_true rfl⟩) ⟨PX.blind, va_recv hLS.2.2.2.2.2.1 hPX (ci := 11) (q0 := 0) rfl rfl, fun U hU hW => ⟨rfl, by rw [hU], by rw [hU]; exact hPX, va_K.moved hW.alike hLS.2.2.2.2.2.1, hLS.2.2.2.2.2.2.2.at hS (hLS.fX hS.1) hU hW⟩⟩ rfl rfl hl.1 rfl (lv_room (Nat.le_of_ble_eq_true rfl)) dL_law_981 ⟨Nat.le_of_ble_eq_true rfl, Nat.le_of_ble_eq_true rfl⟩) hS (fun q _ h => (hLS.fX hS.1) q h) (hLS.fX hS.1) (fun r1 u t H1 locs ht hvm hw hB hz1 hk1 hS => ?_)
  unfold BX at hB
  rw [ht] at hB
  have hPM := hLS.kM hPM hk1
  obtain ⟨v1, F1, rc1⟩ := u
  obtain ⟨hI1, hal1, -, -, -⟩ := hw
  dsimp only at hI1 hal1 hB
  have q1 := sum_3 (by have := hLI.1.1 161 _ _ rfl; omega) hal1
  have hPX : va_P (dC, dI) classes (wX gX cX v1 F1 rc1) H1 := hB
  generalize H1 = H at hPX hPM hS ⊢
  refine lv_pop hx hb dL_law_984 rfl ?_
  refine lv_aload_n hx hb dL_law_985 rfl (lv_at hl 1 rfl) ?_
  refine lv_aload_n hx hb dL_law_986 rfl (lv_at hl 3 rfl) ?_
  refine lv_iload_n hx hb dL_law_987 rfl (lv_at hl 0 rfl) ?_
  refine lv_iconst (v := 1) hx hb dL_law_988 (by decide) ?_
  refine lv_iadd hx hb dL_law_989 ?_
  refine lv_topi (fun z3 ez3 => ?_)
  have tz3 := tadd ez3 rfl (b := 1) (by decide) (by omega)
  refine va_sld hx hb hX hbl hbA hS (i := z3) (vin rfl (by omega)) dL_law_990 ?_
  refine my_top (v := a1) (by rw [ea1, ez3, ez1]) ?_
  refine lv_aload_n hx hb dL_law_991 rfl (lv_at hl 3 rfl) ?_
  refine lv_iload_n hx hb dL_law_992 rfl (lv_at hl 0 rfl) ?_
  refine lv_iconst (v := 2) hx hb dL_law_993 (by decide) ?_
  refine lv_iadd hx hb dL_law_994 ?_
  refine lv_topi (fun z4 ez4 => ?_)
  have tz4 := tadd ez4 rfl (b := 2) (by decide) (by omega)
  refine va_sld hx hb hX hbl hbA hS (i := z4) (vin rfl (by omega)) dL_law_995 ?_
  refine my_top (v := a2) (by rw [ea2, ez4, ez2]) ?_
  refine va_calli (va_runV (As := [.int a1, .int a2]) (rest := []) ⟨hx, hb, hml, hown, hwd⟩ (c_X12_order l dC dI gM cM adK adV v' F' 0 H.size a1 a2 hLS.2.1 hLI.2.1) (cwV 2 hwd (gV wk_1068 wk_1065 wk_1066 wk_1067 wk_5) rfl rfl rfl (by decide +kernel) ⟨Nat.le_of_ble_eq_true rfl, Nat.le_of_ble_eq_true rfl⟩) ⟨PM.blind, va_recv hLS.2.2.2.2.2.2.1 hPM (ci := 12) (q0 := 0) rfl rfl, fun U hU hW => ⟨rfl, by rw [hU], by rw [hU]; exact hPM, va_K.moved hW.alike hLS.2.2.2.2.2.2.1, trivial⟩⟩ rfl rfl hl.1 rfl (lv_room (Nat.le_of_ble_eq_true rfl)) dL_law_996 ⟨Nat.le_of_ble_eq_true rfl, Nat.le_of_ble_eq_true rfl⟩) hS (fun q _ h => (hLS.fM hS.1) q h) (hLS.fM hS.1) (fun r2 u t H1 locs ht hvm hw hB hz1 hk1 hS => ?_)
  unfold BM at hB
  rw [ht] at hB
  have hPX := hLS.kX hPX hk1
  obtain ⟨v2, F2, rc2⟩ := u
  obtain ⟨hI2, hrc2, hf2, hG2, hw2⟩ := hw
  dsimp only at hI2 hrc2 hf2 hG2 hw2 hB
  rw [hrc2] at hB
  have hPM : va_P (dC, dI) classes (wM gM cM v2 F2 0) H1 := hB
  have g1 := congrArg Int32.toInt (hf2 1 (by decide))
  have g2 := congrArg Int32.toInt (hf2 2 (by decide))
  have g6 := congrArg Int32.toInt (hf2 6 (by decide))
  generalize H1 = H at hPX hPM hS ⊢
  have tie := hLI.2.2.2.2
  have hb2 := hLI.2.1.1 45 _ _ rfl
  have hLI9 : LI v1 F1 v2 F2 := ⟨hI1, hI2, (JO.to hLI.2.2.1 (hf2 14 (by decide)) (hf2 19 (by decide)) (hG2 13 (by decide)) (hG2 15 (by decide)) (hG2 18 (by decide))), (JL.to hLI.2.2.2.1 (hf2 31 (by decide)) (hG2 28 (by decide)) (hG2 29 (by decide)) (hG2 27 (by decide))), by omega, by omega, by omega, by omega, (q1.2.2.1.trans (hLI.2.2.2.2.2.2.2.2.1.trans (hG2 44 (by decide)).symm)), (q1.2.2.2.trans (hLI.2.2.2.2.2.2.2.2.2.trans (hG2 45 (by decide)).symm))⟩
  refine lv_pop hx hb dL_law_999 rfl ?_
  refine lv_goto (tgt := 1485) hx hb dL_law_1000 (by decide) ?_
  exact hK v1 F1 rc1 v2 F2 H _ ls hLI9 hPX hPM hS hl
set_option maxHeartbeats 4000000 in
set_option maxRecDepth 100000 in
theorem law_case_21 {p : Program} {l : Launch} {e : Env} {s : State} {m : MethodId} {below : List Frame} {meth : Method} {c : Code} {dC : Nat → ClassId} {dI : Nat → Nat → Nat} {b L : Nat} {xs : Nat → Int32} {gX gM adK adV : Nat → Nat} {cX cM : Nat → ClassId} (hL : L ≤ 3584) (C0 : lw_At p s m meth c b L xs) (hLS : LSta s dC dI gX cX gM cM adK adV) {i : Int32} (hi : 0 ≤ i.toInt ∧ i.toInt + 7 ≤ (L : Int)) {v : Nat → Int32} {F : Nat → Nat → Int32} {rc : Nat} {v' : Nat → Int32} {F' : Nat → Nat → Int32} {H : Heap} {locs : List Loc} {ls : Array Slot} (hLI : LI v F v' F') (hPX : va_P (dC, dI) classes (wX gX cX v F rc) H) (hPM : va_P (dC, dI) classes (wM gM cM v' F' 0) H) (hS : va_S (fun q : Nat => s.heap.size ≤ q) s.heap H locs) (hl : lv_has ls 4 [(3, .int i), (2, .ref (gM 0)), (1, .ref (gX 0)), (0, .ref b)]) (hK : ∀ (v : Nat → Int32) (F : Nat → Nat → Int32) (rc : Nat) (v' : Nat → Int32) (F' : Nat → Nat → Int32) (H : Heap) (locs : List Loc) (ls : Array Slot), LI v F v' F' → va_P (dC, dI) classes (wX gX cX v F rc) H → va_P (dC, dI) classes (wM gM cM v' F' 0) H → va_S (fun q : Nat => s.heap.size ≤ q) s.heap H locs → lv_has ls 4 [(3, .int i), (2, .ref (gM 0)), (1, .ref (gX 0)), (0, .ref b)] → W p l e room_1 s m #[Value.ref b] below meth c H locs 126 19787 (lw_Z below #[Value.ref b] s) (F0 m 1485 ls [])) : W p l e room_1 s m #[Value.ref b] below meth c H locs 126 19787 (lw_Z below #[Value.ref b] s) (F0 m 1003 ls []) := by
  obtain ⟨hx, hb, hr, hml, hown, hts, hX, hbl, hlocks, hgv⟩ := id C0
  have hown : s.vm.findClass RL = some m.cls := hown
  have hwd : ∀ w ∈ wA, w.before #[Value.ref b] s = true := fun w h => hts w (wA_in w h)
  have hbA : ¬ (fun q : Nat => s.heap.size ≤ q) b := Nat.not_le.mpr hbl
  refine lv_aload_n hx hb dL_law_1003 rfl (lv_at hl 2 rfl) ?_
  refine lv_aload_n hx hb dL_law_1004 rfl (lv_at hl 3 rfl) ?_
  refine lv_iload_n hx hb dL_law_1005 rfl (lv_at hl 0 rfl) ?_
  refine lv_iconst (v := 1) hx hb dL_law_1006 (by decide) ?_
  refine lv_iadd hx hb dL_law_1007 ?_
  refine lv_topi (fun z1 ez1 => ?_)
  have tz1 := tadd ez1 rfl (b := 1) (by decide) (by omega)
  refine va_sld hx hb hX hbl hbA hS (i := z1) (vin rfl (by omega)) dL_law_1008 ?_
  refine lv_topi (fun a1 ea1 => ?_)
  refine lv_aload_n hx hb dL_law_1009 rfl (lv_at hl 3 rfl) ?_
  refine lv_iload_n hx hb dL_law_1010 rfl (lv_at hl 0 rfl) ?_
  refine lv_iconst (v := 2) hx hb dL_law_1011 (by decide) ?_
  refine lv_iadd hx hb dL_law_1012 ?_
  refine lv_topi (fun z2 ez2 => ?_)
  have tz2 := tadd ez2 rfl (b := 2) (by decide) (by omega)
  refine va_sld hx hb hX hbl hbA hS (i := z2) (vin rfl (by omega)) dL_law_1013 ?_
  refine lv_topi (fun a2 ea2 => ?_)
  refine va_calli (va_runV (As := [.int a1, .int a2]) (rest := []) ⟨hx, hb, hml, hown, hwd⟩ (c_X11_done l dC dI gX cX adK adV v F rc H.size a1 a2 hLS.1 hLI.1) (cwV 2 hwd (gV wk_1072 wk_1069 wk_1070 wk_1071 wk_2) rfl rfl rfl (by decide +kernel) ⟨Nat.le_of_ble_eq_true rfl, Nat.le_of_ble_eq_true rfl⟩) ⟨PX.blind, va_recv hLS.2.2.2.2.2.1 hPX (ci := 11) (q0 := 0) rfl rfl, fun U hU hW => ⟨rfl, by rw [hU], by rw [hU]; exact hPX, va_K.moved hW.alike hLS.2.2.2.2.2.1, hLS.2.2.2.2.2.2.2.at hS (hLS.fX hS.1) hU hW⟩⟩ rfl rfl hl.1 rfl (lv_room (Nat.le_of_ble_eq_true rfl)) dL_law_1014 ⟨Nat.le_of_ble_eq_true rfl, Nat.le_of_ble_eq_true rfl⟩) hS (fun q _ h => (hLS.fX hS.1) q h) (hLS.fX hS.1) (fun r1 u t H1 locs ht hvm hw hB hz1 hk1 hS => ?_)
  unfold BX at hB
  rw [ht] at hB
  have hPM := hLS.kM hPM hk1
  obtain ⟨v1, F1, rc1⟩ := u
  obtain ⟨hI1, hal1, -, -, -⟩ := hw
  dsimp only at hI1 hal1 hB
  have q1 := alX_c hal1
  have hPX : va_P (dC, dI) classes (wX gX cX v1 F1 rc1) H1 := hB
  generalize H1 = H at hPX hPM hS ⊢
  refine lv_pop hx hb dL_law_1017 rfl ?_
  refine lv_aload_n hx hb dL_law_1018 rfl (lv_at hl 1 rfl) ?_
  refine lv_aload_n hx hb dL_law_1019 rfl (lv_at hl 3 rfl) ?_
  refine lv_iload_n hx hb dL_law_1020 rfl (lv_at hl 0 rfl) ?_
  refine lv_iconst (v := 1) hx hb dL_law_1021 (by decide) ?_
  refine lv_iadd hx hb dL_law_1022 ?_
  refine lv_topi (fun z3 ez3 => ?_)
  have tz3 := tadd ez3 rfl (b := 1) (by decide) (by omega)
  refine va_sld hx hb hX hbl hbA hS (i := z3) (vin rfl (by omega)) dL_law_1023 ?_
  refine my_top (v := a1) (by rw [ea1, ez3, ez1]) ?_
  refine lv_aload_n hx hb dL_law_1024 rfl (lv_at hl 3 rfl) ?_
  refine lv_iload_n hx hb dL_law_1025 rfl (lv_at hl 0 rfl) ?_
  refine lv_iconst (v := 2) hx hb dL_law_1026 (by decide) ?_
  refine lv_iadd hx hb dL_law_1027 ?_
  refine lv_topi (fun z4 ez4 => ?_)
  have tz4 := tadd ez4 rfl (b := 2) (by decide) (by omega)
  refine va_sld hx hb hX hbl hbA hS (i := z4) (vin rfl (by omega)) dL_law_1028 ?_
  refine my_top (v := a2) (by rw [ea2, ez4, ez2]) ?_
  refine va_calli (va_runV (As := [.int a1, .int a2]) (rest := []) ⟨hx, hb, hml, hown, hwd⟩ (c_X12_done l dC dI gM cM adK adV v' F' 0 H.size a1 a2 hLS.2.1 hLI.2.1) (cwV 2 hwd (gV wk_1085 wk_1082 wk_1083 wk_1084 wk_5) rfl rfl rfl (by decide +kernel) ⟨Nat.le_of_ble_eq_true rfl, Nat.le_of_ble_eq_true rfl⟩) ⟨PM.blind, va_recv hLS.2.2.2.2.2.2.1 hPM (ci := 12) (q0 := 0) rfl rfl, fun U hU hW => ⟨rfl, by rw [hU], by rw [hU]; exact hPM, va_K.moved hW.alike hLS.2.2.2.2.2.2.1, trivial⟩⟩ rfl rfl hl.1 rfl (lv_room (Nat.le_of_ble_eq_true rfl)) dL_law_1029 ⟨Nat.le_of_ble_eq_true rfl, Nat.le_of_ble_eq_true rfl⟩) hS (fun q _ h => (hLS.fM hS.1) q h) (hLS.fM hS.1) (fun r2 u t H1 locs ht hvm hw hB hz1 hk1 hS => ?_)
  unfold BM at hB
  rw [ht] at hB
  have hPX := hLS.kX hPX hk1
  obtain ⟨v2, F2, rc2⟩ := u
  obtain ⟨hI2, hrc2, hf2, hG2, hw2⟩ := hw
  dsimp only at hI2 hrc2 hf2 hG2 hw2 hB
  rw [hrc2] at hB
  have hPM : va_P (dC, dI) classes (wM gM cM v2 F2 0) H1 := hB
  have g1 := congrArg Int32.toInt (hf2 1 (by decide))
  have g2 := congrArg Int32.toInt (hf2 2 (by decide))
  have g6 := congrArg Int32.toInt (hf2 6 (by decide))
  have g45 := congrArg Int32.toInt (hf2 45 (by decide))
  generalize H1 = H at hPX hPM hS ⊢
  have tie := hLI.2.2.2.2
  have hLI9 : LI v1 F1 v2 F2 := ⟨hI1, hI2, (JO.to hLI.2.2.1 (hf2 14 (by decide)) (hf2 19 (by decide)) (hG2 13 (by decide)) (hG2 15 (by decide)) (hG2 18 (by decide))), (JL.to hLI.2.2.2.1 (hf2 31 (by decide)) (hG2 28 (by decide)) (hG2 29 (by decide)) (hG2 27 (by decide))), by omega, by omega, by omega, by omega, (q1.2.1.trans (hLI.2.2.2.2.2.2.2.2.1.trans (hG2 44 (by decide)).symm)), (q1.2.2.trans (hLI.2.2.2.2.2.2.2.2.2.trans (hG2 45 (by decide)).symm))⟩
  refine lv_pop hx hb dL_law_1032 rfl ?_
  refine lv_goto (tgt := 1485) hx hb dL_law_1033 (by decide) ?_
  exact hK v1 F1 rc1 v2 F2 H _ ls hLI9 hPX hPM hS hl
set_option maxHeartbeats 4000000 in
set_option maxRecDepth 100000 in
theorem law_case_22 {p : Program} {l : Launch} {e : Env} {s : State} {m : MethodId} {below : List Frame} {meth : Method} {c : Code} {dC : Nat → ClassId} {dI : Nat → Nat → Nat} {b L : Nat} {xs : Nat → Int32} {gX gM adK adV : Nat → Nat} {cX cM : Nat → ClassId} (hL : L ≤ 3584) (C0 : lw_At p s m meth c b L xs) (hLS : LSta s dC dI gX cX gM cM adK adV) {i : Int32} (hi : 0 ≤ i.toInt ∧ i.toInt + 7 ≤ (L : Int)) {v : Nat → Int32} {F : Nat → Nat → Int32} {rc : Nat} {v' : Nat → Int32} {F' : Nat → Nat → Int32} {H : Heap} {locs : List Loc} {ls : Array Slot} (hLI : LI v F v' F') (hPX : va_P (dC, dI) classes (wX gX cX v F rc) H) (hPM : va_P (dC, dI) classes (wM gM cM v' F' 0) H) (hS : va_S (fun q : Nat => s.heap.size ≤ q) s.heap H locs) (hl : lv_has ls 4 [(3, .int i), (2, .ref (gM 0)), (1, .ref (gX 0)), (0, .ref b)]) (hK : ∀ (v : Nat → Int32) (F : Nat → Nat → Int32) (rc : Nat) (v' : Nat → Int32) (F' : Nat → Nat → Int32) (H : Heap) (locs : List Loc) (ls : Array Slot), LI v F v' F' → va_P (dC, dI) classes (wX gX cX v F rc) H → va_P (dC, dI) classes (wM gM cM v' F' 0) H → va_S (fun q : Nat => s.heap.size ≤ q) s.heap H locs → lv_has ls 4 [(3, .int i), (2, .ref (gM 0)), (1, .ref (gX 0)), (0, .ref b)] → W p l e room_1 s m #[Value.ref b] below meth c H locs 126 19787 (lw_Z below #[Value.ref b] s) (F0 m 1485 ls [])) : W p l e room_1 s m #[Value.ref b] below meth c H locs 126 19787 (lw_Z below #[Value.ref b] s) (F0 m 1036 ls []) := by
  obtain ⟨hx, hb, hr, hml, hown, hts, hX, hbl, hlocks, hgv⟩ := id C0
  have hown : s.vm.findClass RL = some m.cls := hown
  have hwd : ∀ w ∈ wA, w.before #[Value.ref b] s = true := fun w h => hts w (wA_in w h)
  have hbA : ¬ (fun q : Nat => s.heap.size ≤ q) b := Nat.not_le.mpr hbl
  refine lv_aload_n hx hb dL_law_1036 rfl (lv_at hl 2 rfl) ?_
  refine lv_aload_n hx hb dL_law_1037 rfl (lv_at hl 3 rfl) ?_
  refine lv_iload_n hx hb dL_law_1038 rfl (lv_at hl 0 rfl) ?_
  refine lv_iconst (v := 1) hx hb dL_law_1039 (by decide) ?_
  refine lv_iadd hx hb dL_law_1040 ?_
  refine lv_topi (fun z1 ez1 => ?_)
  have tz1 := tadd ez1 rfl (b := 1) (by decide) (by omega)
  refine va_sld hx hb hX hbl hbA hS (i := z1) (vin rfl (by omega)) dL_law_1041 ?_
  refine lv_topi (fun a1 ea1 => ?_)
  refine lv_aload_n hx hb dL_law_1042 rfl (lv_at hl 3 rfl) ?_
  refine lv_iload_n hx hb dL_law_1043 rfl (lv_at hl 0 rfl) ?_
  refine lv_iconst (v := 2) hx hb dL_law_1044 (by decide) ?_
  refine lv_iadd hx hb dL_law_1045 ?_
  refine lv_topi (fun z2 ez2 => ?_)
  have tz2 := tadd ez2 rfl (b := 2) (by decide) (by omega)
  refine va_sld hx hb hX hbl hbA hS (i := z2) (vin rfl (by omega)) dL_law_1046 ?_
  refine lv_topi (fun a2 ea2 => ?_)
  refine lv_aload_n hx hb dL_law_1047 rfl (lv_at hl 3 rfl) ?_
  refine lv_iload_n hx hb dL_law_1048 rfl (lv_at hl 0 rfl) ?_
  refine lv_iconst (v := 3) hx hb dL_law_1049 (by decide) ?_
  refine lv_iadd hx hb dL_law_1050 ?_
  refine lv_topi (fun z3 ez3 => ?_)
  have tz3 := tadd ez3 rfl (b := 3) (by decide) (by omega)
  refine va_sld hx hb hX hbl hbA hS (i := z3) (vin rfl (by omega)) dL_law_1051 ?_
  refine lv_topi (fun a3 ea3 => ?_)
  refine va_calli (va_runV (As := [.int a1, .int a2, .int a3]) (rest := []) ⟨hx, hb, hml, hown, hwd⟩ (c_X11_contract l dC dI gX cX adK adV v F rc H.size a1 a2 a3 hLS.1 hLI.1) (cwV 3 hwd (gV wk_1089 wk_1086 wk_1087 wk_1088 wk_2) rfl rfl rfl (by decide +kernel) ⟨Nat.le_of_ble_eq_true rfl, Nat.le_of_ble_eq_true rfl⟩) ⟨PX.blind, va_recv hLS.2.2.2.2.2.1 hPX (ci := 11) (q0 := 0) rfl rfl, fun U hU hW => ⟨rfl, by rw [hU], by rw [hU]; exact hPX, va_K.moved hW.alike hLS.2.2.2.2.2.1, hLS.2.2.2.2.2.2.2.at hS (hLS.fX hS.1) hU hW⟩⟩ rfl rfl hl.1 rfl (lv_room (Nat.le_of_ble_eq_true rfl)) dL_law_1052 ⟨Nat.le_of_ble_eq_true rfl, Nat.le_of_ble_eq_true rfl⟩) hS (fun q _ h => (hLS.fX hS.1) q h) (hLS.fX hS.1) (fun r1 u t H1 locs ht hvm hw hB hz1 hk1 hS => ?_)
  unfold BX at hB
  rw [ht] at hB
  have hPM := hLS.kM hPM hk1
  obtain ⟨v1, F1, rc1⟩ := u
  obtain ⟨hI1, hal1, -, -, -⟩ := hw
  dsimp only at hI1 hal1 hB
  have q1 := alX_c hal1
  have hPX : va_P (dC, dI) classes (wX gX cX v1 F1 rc1) H1 := hB
  generalize H1 = H at hPX hPM hS ⊢
  refine lv_pop hx hb dL_law_1055 rfl ?_
  refine lv_aload_n hx hb dL_law_1056 rfl (lv_at hl 1 rfl) ?_
  refine lv_aload_n hx hb dL_law_1057 rfl (lv_at hl 3 rfl) ?_
  refine lv_iload_n hx hb dL_law_1058 rfl (lv_at hl 0 rfl) ?_
  refine lv_iconst (v := 1) hx hb dL_law_1059 (by decide) ?_
  refine lv_iadd hx hb dL_law_1060 ?_
  refine lv_topi (fun z4 ez4 => ?_)
  have tz4 := tadd ez4 rfl (b := 1) (by decide) (by omega)
  refine va_sld hx hb hX hbl hbA hS (i := z4) (vin rfl (by omega)) dL_law_1061 ?_
  refine my_top (v := a1) (by rw [ea1, ez4, ez1]) ?_
  refine lv_aload_n hx hb dL_law_1062 rfl (lv_at hl 3 rfl) ?_
  refine lv_iload_n hx hb dL_law_1063 rfl (lv_at hl 0 rfl) ?_
  refine lv_iconst (v := 2) hx hb dL_law_1064 (by decide) ?_
  refine lv_iadd hx hb dL_law_1065 ?_
  refine lv_topi (fun z5 ez5 => ?_)
  have tz5 := tadd ez5 rfl (b := 2) (by decide) (by omega)
  refine va_sld hx hb hX hbl hbA hS (i := z5) (vin rfl (by omega)) dL_law_1066 ?_
  refine my_top (v := a2) (by rw [ea2, ez5, ez2]) ?_
  refine lv_aload_n hx hb dL_law_1067 rfl (lv_at hl 3 rfl) ?_
  refine lv_iload_n hx hb dL_law_1068 rfl (lv_at hl 0 rfl) ?_
  refine lv_iconst (v := 3) hx hb dL_law_1069 (by decide) ?_
  refine lv_iadd hx hb dL_law_1070 ?_
  refine lv_topi (fun z6 ez6 => ?_)
  have tz6 := tadd ez6 rfl (b := 3) (by decide) (by omega)
  refine va_sld hx hb hX hbl hbA hS (i := z6) (vin rfl (by omega)) dL_law_1071 ?_
  refine my_top (v := a3) (by rw [ea3, ez6, ez3]) ?_
  refine va_calli (va_runV (As := [.int a1, .int a2, .int a3]) (rest := []) ⟨hx, hb, hml, hown, hwd⟩ (c_X12_contract l dC dI gM cM adK adV v' F' 0 H.size a1 a2 a3 hLS.2.1 hLI.2.1) (cwV 3 hwd (gV wk_1127 wk_1124 wk_1125 wk_1126 wk_5) rfl rfl rfl (by decide +kernel) ⟨Nat.le_of_ble_eq_true rfl, Nat.le_of_ble_eq_true rfl⟩) ⟨PM.blind, va_recv hLS.2.2.2.2.2.2.1 hPM (ci := 12) (q0 := 0) rfl rfl, fun U hU hW => ⟨rfl, by rw [hU], by rw [hU]; exact hPM, va_K.moved hW.alike hLS.2.2.2.2.2.2.1, trivial⟩⟩ rfl rfl hl.1 rfl (lv_room (Nat.le_of_ble_eq_true rfl)) dL_law_1072 ⟨Nat.le_of_ble_eq_true rfl, Nat.le_of_ble_eq_true rfl⟩) hS (fun q _ h => (hLS.fM hS.1) q h) (hLS.fM hS.1) (fun r2 u t H1 locs ht hvm hw hB hz1 hk1 hS => ?_)
  unfold BM at hB
  rw [ht] at hB
  have hPX := hLS.kX hPX hk1
  obtain ⟨v2, F2, rc2⟩ := u
  obtain ⟨hI2, hrc2, hf2, hG2, hw2⟩ := hw
  dsimp only at hI2 hrc2 hf2 hG2 hw2 hB
  rw [hrc2] at hB
  have hPM : va_P (dC, dI) classes (wM gM cM v2 F2 0) H1 := hB
  have g1 := congrArg Int32.toInt (hf2 1 (by decide))
  have g2 := congrArg Int32.toInt (hf2 2 (by decide))
  have g6 := congrArg Int32.toInt (hf2 6 (by decide))
  have g45 := congrArg Int32.toInt (hf2 45 (by decide))
  generalize H1 = H at hPX hPM hS ⊢
  have tie := hLI.2.2.2.2
  have hLI9 : LI v1 F1 v2 F2 := ⟨hI1, hI2, (JO.to hLI.2.2.1 (hf2 14 (by decide)) (hf2 19 (by decide)) (hG2 13 (by decide)) (hG2 15 (by decide)) (hG2 18 (by decide))), (JL.to hLI.2.2.2.1 (hf2 31 (by decide)) (hG2 28 (by decide)) (hG2 29 (by decide)) (hG2 27 (by decide))), by omega, by omega, by omega, by omega, (q1.2.1.trans (hLI.2.2.2.2.2.2.2.2.1.trans (hG2 44 (by decide)).symm)), (q1.2.2.trans (hLI.2.2.2.2.2.2.2.2.2.trans (hG2 45 (by decide)).symm))⟩
  refine lv_pop hx hb dL_law_1075 rfl ?_
  refine lv_goto (tgt := 1485) hx hb dL_law_1076 (by decide) ?_
  exact hK v1 F1 rc1 v2 F2 H _ ls hLI9 hPX hPM hS hl
set_option maxHeartbeats 4000000 in
set_option maxRecDepth 100000 in
theorem law_case_23 {p : Program} {l : Launch} {e : Env} {s : State} {m : MethodId} {below : List Frame} {meth : Method} {c : Code} {dC : Nat → ClassId} {dI : Nat → Nat → Nat} {b L : Nat} {xs : Nat → Int32} {gX gM adK adV : Nat → Nat} {cX cM : Nat → ClassId} (hL : L ≤ 3584) (C0 : lw_At p s m meth c b L xs) (hLS : LSta s dC dI gX cX gM cM adK adV) {i : Int32} (hi : 0 ≤ i.toInt ∧ i.toInt + 7 ≤ (L : Int)) {v : Nat → Int32} {F : Nat → Nat → Int32} {rc : Nat} {v' : Nat → Int32} {F' : Nat → Nat → Int32} {H : Heap} {locs : List Loc} {ls : Array Slot} (hLI : LI v F v' F') (hPX : va_P (dC, dI) classes (wX gX cX v F rc) H) (hPM : va_P (dC, dI) classes (wM gM cM v' F' 0) H) (hS : va_S (fun q : Nat => s.heap.size ≤ q) s.heap H locs) (hl : lv_has ls 4 [(3, .int i), (2, .ref (gM 0)), (1, .ref (gX 0)), (0, .ref b)]) (hK : ∀ (v : Nat → Int32) (F : Nat → Nat → Int32) (rc : Nat) (v' : Nat → Int32) (F' : Nat → Nat → Int32) (H : Heap) (locs : List Loc) (ls : Array Slot), LI v F v' F' → va_P (dC, dI) classes (wX gX cX v F rc) H → va_P (dC, dI) classes (wM gM cM v' F' 0) H → va_S (fun q : Nat => s.heap.size ≤ q) s.heap H locs → lv_has ls 4 [(3, .int i), (2, .ref (gM 0)), (1, .ref (gX 0)), (0, .ref b)] → W p l e room_1 s m #[Value.ref b] below meth c H locs 126 19787 (lw_Z below #[Value.ref b] s) (F0 m 1485 ls [])) : W p l e room_1 s m #[Value.ref b] below meth c H locs 126 19787 (lw_Z below #[Value.ref b] s) (F0 m 1079 ls []) := by
  obtain ⟨hx, hb, hr, hml, hown, hts, hX, hbl, hlocks, hgv⟩ := id C0
  have hown : s.vm.findClass RL = some m.cls := hown
  have hwd : ∀ w ∈ wA, w.before #[Value.ref b] s = true := fun w h => hts w (wA_in w h)
  have hbA : ¬ (fun q : Nat => s.heap.size ≤ q) b := Nat.not_le.mpr hbl
  refine lv_aload_n hx hb dL_law_1079 rfl (lv_at hl 2 rfl) ?_
  refine lv_aload_n hx hb dL_law_1080 rfl (lv_at hl 3 rfl) ?_
  refine lv_iload_n hx hb dL_law_1081 rfl (lv_at hl 0 rfl) ?_
  refine lv_iconst (v := 1) hx hb dL_law_1082 (by decide) ?_
  refine lv_iadd hx hb dL_law_1083 ?_
  refine lv_topi (fun z1 ez1 => ?_)
  have tz1 := tadd ez1 rfl (b := 1) (by decide) (by omega)
  refine va_sld hx hb hX hbl hbA hS (i := z1) (vin rfl (by omega)) dL_law_1084 ?_
  refine lv_topi (fun a1 ea1 => ?_)
  refine lv_aload_n hx hb dL_law_1085 rfl (lv_at hl 3 rfl) ?_
  refine lv_iload_n hx hb dL_law_1086 rfl (lv_at hl 0 rfl) ?_
  refine lv_iconst (v := 2) hx hb dL_law_1087 (by decide) ?_
  refine lv_iadd hx hb dL_law_1088 ?_
  refine lv_topi (fun z2 ez2 => ?_)
  have tz2 := tadd ez2 rfl (b := 2) (by decide) (by omega)
  refine va_sld hx hb hX hbl hbA hS (i := z2) (vin rfl (by omega)) dL_law_1089 ?_
  refine lv_topi (fun a2 ea2 => ?_)
  refine lv_aload_n hx hb dL_law_1090 rfl (lv_at hl 3 rfl) ?_
  refine lv_iload_n hx hb dL_law_1091 rfl (lv_at hl 0 rfl) ?_
  refine lv_iconst (v := 3) hx hb dL_law_1092 (by decide) ?_
  refine lv_iadd hx hb dL_law_1093 ?_
  refine lv_topi (fun z3 ez3 => ?_)
  have tz3 := tadd ez3 rfl (b := 3) (by decide) (by omega)
  refine va_sld hx hb hX hbl hbA hS (i := z3) (vin rfl (by omega)) dL_law_1094 ?_
  refine lv_topi (fun a3 ea3 => ?_)
  refine lv_aload_n hx hb dL_law_1095 rfl (lv_at hl 3 rfl) ?_
  refine lv_iload_n hx hb dL_law_1096 rfl (lv_at hl 0 rfl) ?_
  refine lv_iconst (v := 4) hx hb dL_law_1097 (by decide) ?_
  refine lv_iadd hx hb dL_law_1098 ?_
  refine lv_topi (fun z4 ez4 => ?_)
  have tz4 := tadd ez4 rfl (b := 4) (by decide) (by omega)
  refine va_sld hx hb hX hbl hbA hS (i := z4) (vin rfl (by omega)) dL_law_1099 ?_
  refine lv_topi (fun a4 ea4 => ?_)
  refine va_calli (va_runV (As := [.int a1, .int a2, .int a3, .int a4]) (rest := []) ⟨hx, hb, hml, hown, hwd⟩ (c_X11_lacks l dC dI gX cX adK adV v F rc H.size a1 a2 a3 a4 hLS.1 hLI.1) (cwV 4 hwd (gV wk_1142 wk_1139 wk_1140 wk_1141 wk_2) rfl rfl rfl (by decide +kernel) ⟨Nat.le_of_ble_eq_true rfl, Nat.le_of_ble_eq_true rfl⟩) ⟨PX.blind, va_recv hLS.2.2.2.2.2.1 hPX (ci := 11) (q0 := 0) rfl rfl, fun U hU hW => ⟨rfl, by rw [hU], by rw [hU]; exact hPX, va_K.moved hW.alike hLS.2.2.2.2.2.1, hLS.2.2.2.2.2.2.2.at hS (hLS.fX hS.1) hU hW⟩⟩ rfl rfl hl.1 rfl (lv_room (Nat.le_of_ble_eq_true rfl)) dL_law_1100 ⟨Nat.le_of_ble_eq_true rfl, Nat.le_of_ble_eq_true rfl⟩) hS (fun q _ h => (hLS.fX hS.1) q h) (hLS.fX hS.1) (fun r1 u t H1 locs ht hvm hw hB hz1 hk1 hS => ?_)
  unfold BX at hB
  rw [ht] at hB
  have hPM := hLS.kM hPM hk1
  obtain ⟨v1, F1, rc1⟩ := u
  obtain ⟨hI1, hal1, -, -, -⟩ := hw
  dsimp only at hI1 hal1 hB
  have q1 := alX_c hal1
  have hPX : va_P (dC, dI) classes (wX gX cX v1 F1 rc1) H1 := hB
  generalize H1 = H at hPX hPM hS ⊢
  refine lv_pop hx hb dL_law_1103 rfl ?_
  refine lv_aload_n hx hb dL_law_1104 rfl (lv_at hl 1 rfl) ?_
  refine lv_aload_n hx hb dL_law_1105 rfl (lv_at hl 3 rfl) ?_
  refine lv_iload_n hx hb dL_law_1106 rfl (lv_at hl 0 rfl) ?_
  refine lv_iconst (v := 1) hx hb dL_law_1107 (by decide) ?_
  refine lv_iadd hx hb dL_law_1108 ?_
  refine lv_topi (fun z5 ez5 => ?_)
  have tz5 := tadd ez5 rfl (b := 1) (by decide) (by omega)
  refine va_sld hx hb hX hbl hbA hS (i := z5) (vin rfl (by omega)) dL_law_1109 ?_
  refine my_top (v := a1) (by rw [ea1, ez5, ez1]) ?_
  refine lv_aload_n hx hb dL_law_1110 rfl (lv_at hl 3 rfl) ?_
  refine lv_iload_n hx hb dL_law_1111 rfl (lv_at hl 0 rfl) ?_
  refine lv_iconst (v := 2) hx hb dL_law_1112 (by decide) ?_
  refine lv_iadd hx hb dL_law_1113 ?_
  refine lv_topi (fun z6 ez6 => ?_)
  have tz6 := tadd ez6 rfl (b := 2) (by decide) (by omega)
  refine va_sld hx hb hX hbl hbA hS (i := z6) (vin rfl (by omega)) dL_law_1114 ?_
  refine my_top (v := a2) (by rw [ea2, ez6, ez2]) ?_
  refine lv_aload_n hx hb dL_law_1115 rfl (lv_at hl 3 rfl) ?_
  refine lv_iload_n hx hb dL_law_1116 rfl (lv_at hl 0 rfl) ?_
  refine lv_iconst (v := 3) hx hb dL_law_1117 (by decide) ?_
  refine lv_iadd hx hb dL_law_1118 ?_
  refine lv_topi (fun z7 ez7 => ?_)
  have tz7 := tadd ez7 rfl (b := 3) (by decide) (by omega)
  refine va_sld hx hb hX hbl hbA hS (i := z7) (vin rfl (by omega)) dL_law_1119 ?_
  refine my_top (v := a3) (by rw [ea3, ez7, ez3]) ?_
  refine lv_aload_n hx hb dL_law_1120 rfl (lv_at hl 3 rfl) ?_
  refine lv_iload_n hx hb dL_law_1121 rfl (lv_at hl 0 rfl) ?_
  refine lv_iconst (v := 4) hx hb dL_law_1122 (by decide) ?_
  refine lv_iadd hx hb dL_law_1123 ?_
  refine lv_topi (fun z8 ez8 => ?_)
  have tz8 := tadd ez8 rfl (b := 4) (by decide) (by omega)
  refine va_sld hx hb hX hbl hbA hS (i := z8) (vin rfl (by omega)) dL_law_1124 ?_
  refine my_top (v := a4) (by rw [ea4, ez8, ez4]) ?_
  refine va_calli (va_runV (As := [.int a1, .int a2, .int a3, .int a4]) (rest := []) ⟨hx, hb, hml, hown, hwd⟩ (c_X12_lacks l dC dI gM cM adK adV v' F' 0 H.size a1 a2 a3 a4 hLS.2.1 hLI.2.1 hLI.2.2.2.1) (cwV 4 hwd (gV wk_1197 wk_1194 wk_1195 wk_1196 wk_5) rfl rfl rfl (by decide +kernel) ⟨Nat.le_of_ble_eq_true rfl, Nat.le_of_ble_eq_true rfl⟩) ⟨PM.blind, va_recv hLS.2.2.2.2.2.2.1 hPM (ci := 12) (q0 := 0) rfl rfl, fun U hU hW => ⟨rfl, by rw [hU], by rw [hU]; exact hPM, va_K.moved hW.alike hLS.2.2.2.2.2.2.1, trivial⟩⟩ rfl rfl hl.1 rfl (lv_room (Nat.le_of_ble_eq_true rfl)) dL_law_1125 ⟨Nat.le_of_ble_eq_true rfl, Nat.le_of_ble_eq_true rfl⟩) hS (fun q _ h => (hLS.fM hS.1) q h) (hLS.fM hS.1) (fun r2 u t H1 locs ht hvm hw hB hz1 hk1 hS => ?_)
  unfold BM at hB
  rw [ht] at hB
  have hPX := hLS.kX hPX hk1
  obtain ⟨v2, F2, rc2⟩ := u
  obtain ⟨hI2, hrc2, hf2, hG2, hw2⟩ := hw
  dsimp only at hI2 hrc2 hf2 hG2 hw2 hB
  rw [hrc2] at hB
  have hPM : va_P (dC, dI) classes (wM gM cM v2 F2 0) H1 := hB
  have g1 := congrArg Int32.toInt (hf2 1 (by decide))
  have g2 := congrArg Int32.toInt (hf2 2 (by decide))
  have g6 := congrArg Int32.toInt (hf2 6 (by decide))
  have g45 := congrArg Int32.toInt (hf2 45 (by decide))
  generalize H1 = H at hPX hPM hS ⊢
  have tie := hLI.2.2.2.2
  have hLI9 : LI v1 F1 v2 F2 := ⟨hI1, hI2, (JO.to hLI.2.2.1 (hf2 14 (by decide)) (hf2 19 (by decide)) (hG2 13 (by decide)) (hG2 15 (by decide)) (hG2 18 (by decide))), (JL.to hLI.2.2.2.1 (hf2 31 (by decide)) (hG2 28 (by decide)) (hG2 29 (by decide)) (hG2 27 (by decide))), by omega, by omega, by omega, by omega, (q1.2.1.trans (hLI.2.2.2.2.2.2.2.2.1.trans (hG2 44 (by decide)).symm)), (q1.2.2.trans (hLI.2.2.2.2.2.2.2.2.2.trans (hG2 45 (by decide)).symm))⟩
  refine lv_pop hx hb dL_law_1128 rfl ?_
  refine lv_goto (tgt := 1485) hx hb dL_law_1129 (by decide) ?_
  exact hK v1 F1 rc1 v2 F2 H _ ls hLI9 hPX hPM hS hl
set_option maxHeartbeats 4000000 in
set_option maxRecDepth 100000 in
theorem law_case_24 {p : Program} {l : Launch} {e : Env} {s : State} {m : MethodId} {below : List Frame} {meth : Method} {c : Code} {dC : Nat → ClassId} {dI : Nat → Nat → Nat} {b L : Nat} {xs : Nat → Int32} {gX gM adK adV : Nat → Nat} {cX cM : Nat → ClassId} (hL : L ≤ 3584) (C0 : lw_At p s m meth c b L xs) (hLS : LSta s dC dI gX cX gM cM adK adV) {i : Int32} (hi : 0 ≤ i.toInt ∧ i.toInt + 7 ≤ (L : Int)) {v : Nat → Int32} {F : Nat → Nat → Int32} {rc : Nat} {v' : Nat → Int32} {F' : Nat → Nat → Int32} {H : Heap} {locs : List Loc} {ls : Array Slot} (hLI : LI v F v' F') (hPX : va_P (dC, dI) classes (wX gX cX v F rc) H) (hPM : va_P (dC, dI) classes (wM gM cM v' F' 0) H) (hS : va_S (fun q : Nat => s.heap.size ≤ q) s.heap H locs) (hl : lv_has ls 4 [(3, .int i), (2, .ref (gM 0)), (1, .ref (gX 0)), (0, .ref b)]) (hK : ∀ (v : Nat → Int32) (F : Nat → Nat → Int32) (rc : Nat) (v' : Nat → Int32) (F' : Nat → Nat → Int32) (H : Heap) (locs : List Loc) (ls : Array Slot), LI v F v' F' → va_P (dC, dI) classes (wX gX cX v F rc) H → va_P (dC, dI) classes (wM gM cM v' F' 0) H → va_S (fun q : Nat => s.heap.size ≤ q) s.heap H locs → lv_has ls 4 [(3, .int i), (2, .ref (gM 0)), (1, .ref (gX 0)), (0, .ref b)] → W p l e room_1 s m #[Value.ref b] below meth c H locs 126 19787 (lw_Z below #[Value.ref b] s) (F0 m 1485 ls [])) : W p l e room_1 s m #[Value.ref b] below meth c H locs 126 19787 (lw_Z below #[Value.ref b] s) (F0 m 1132 ls []) := by
  obtain ⟨hx, hb, hr, hml, hown, hts, hX, hbl, hlocks, hgv⟩ := id C0
  have hown : s.vm.findClass RL = some m.cls := hown
  have hwd : ∀ w ∈ wA, w.before #[Value.ref b] s = true := fun w h => hts w (wA_in w h)
  have hbA : ¬ (fun q : Nat => s.heap.size ≤ q) b := Nat.not_le.mpr hbl
  refine lv_aload_n hx hb dL_law_1132 rfl (lv_at hl 2 rfl) ?_
  refine lv_aload_n hx hb dL_law_1133 rfl (lv_at hl 3 rfl) ?_
  refine lv_iload_n hx hb dL_law_1134 rfl (lv_at hl 0 rfl) ?_
  refine lv_iconst (v := 1) hx hb dL_law_1135 (by decide) ?_
  refine lv_iadd hx hb dL_law_1136 ?_
  refine lv_topi (fun z1 ez1 => ?_)
  have tz1 := tadd ez1 rfl (b := 1) (by decide) (by omega)
  refine va_sld hx hb hX hbl hbA hS (i := z1) (vin rfl (by omega)) dL_law_1137 ?_
  refine lv_topi (fun a1 ea1 => ?_)
  refine lv_aload_n hx hb dL_law_1138 rfl (lv_at hl 3 rfl) ?_
  refine lv_iload_n hx hb dL_law_1139 rfl (lv_at hl 0 rfl) ?_
  refine lv_iconst (v := 2) hx hb dL_law_1140 (by decide) ?_
  refine lv_iadd hx hb dL_law_1141 ?_
  refine lv_topi (fun z2 ez2 => ?_)
  have tz2 := tadd ez2 rfl (b := 2) (by decide) (by omega)
  refine va_sld hx hb hX hbl hbA hS (i := z2) (vin rfl (by omega)) dL_law_1142 ?_
  refine lv_topi (fun a2 ea2 => ?_)
  refine lv_aload_n hx hb dL_law_1143 rfl (lv_at hl 3 rfl) ?_
  refine lv_iload_n hx hb dL_law_1144 rfl (lv_at hl 0 rfl) ?_
  refine lv_iconst (v := 3) hx hb dL_law_1145 (by decide) ?_
  refine lv_iadd hx hb dL_law_1146 ?_
  refine lv_topi (fun z3 ez3 => ?_)
  have tz3 := tadd ez3 rfl (b := 3) (by decide) (by omega)
  refine va_sld hx hb hX hbl hbA hS (i := z3) (vin rfl (by omega)) dL_law_1147 ?_
  refine lv_topi (fun a3 ea3 => ?_)
  refine lv_aload_n hx hb dL_law_1148 rfl (lv_at hl 3 rfl) ?_
  refine lv_iload_n hx hb dL_law_1149 rfl (lv_at hl 0 rfl) ?_
  refine lv_iconst (v := 4) hx hb dL_law_1150 (by decide) ?_
  refine lv_iadd hx hb dL_law_1151 ?_
  refine lv_topi (fun z4 ez4 => ?_)
  have tz4 := tadd ez4 rfl (b := 4) (by decide) (by omega)
  refine va_sld hx hb hX hbl hbA hS (i := z4) (vin rfl (by omega)) dL_law_1152 ?_
  refine lv_topi (fun a4 ea4 => ?_)
  refine va_calli (va_runV (As := [.int a1, .int a2, .int a3, .int a4]) (rest := []) ⟨hx, hb, hml, hown, hwd⟩ (c_X11_costs l dC dI gX cX adK adV v F rc H.size a1 a2 a3 a4 hLS.1 hLI.1) (cwV 4 hwd (gV wk_1217 wk_1214 wk_1215 wk_1216 wk_2) rfl rfl rfl (by decide +kernel) ⟨Nat.le_of_ble_eq_true rfl, Nat.le_of_ble_eq_true rfl⟩) ⟨PX.blind, va_recv hLS.2.2.2.2.2.1 hPX (ci := 11) (q0 := 0) rfl rfl, fun U hU hW => ⟨rfl, by rw [hU], by rw [hU]; exact hPX, va_K.moved hW.alike hLS.2.2.2.2.2.1, hLS.2.2.2.2.2.2.2.at hS (hLS.fX hS.1) hU hW⟩⟩ rfl rfl hl.1 rfl (lv_room (Nat.le_of_ble_eq_true rfl)) dL_law_1153 ⟨Nat.le_of_ble_eq_true rfl, Nat.le_of_ble_eq_true rfl⟩) hS (fun q _ h => (hLS.fX hS.1) q h) (hLS.fX hS.1) (fun r1 u t H1 locs ht hvm hw hB hz1 hk1 hS => ?_)
  unfold BX at hB
  rw [ht] at hB
  have hPM := hLS.kM hPM hk1
  obtain ⟨v1, F1, rc1⟩ := u
  obtain ⟨hI1, hal1, -, -, -⟩ := hw
  dsimp only at hI1 hal1 hB
  have q1 := alX_c hal1
  have hPX : va_P (dC, dI) classes (wX gX cX v1 F1 rc1) H1 := hB
  generalize H1 = H at hPX hPM hS ⊢
  refine lv_pop hx hb dL_law_1156 rfl ?_
  refine lv_aload_n hx hb dL_law_1157 rfl (lv_at hl 1 rfl) ?_
  refine lv_aload_n hx hb dL_law_1158 rfl (lv_at hl 3 rfl) ?_
  refine lv_iload_n hx hb dL_law_1159 rfl (lv_at hl 0 rfl) ?_
  refine lv_iconst (v := 1) hx hb dL_law_1160 (by decide) ?_
  refine lv_iadd hx hb dL_law_1161 ?_
  refine lv_topi (fun z5 ez5 => ?_)
  have tz5 := tadd ez5 rfl (b := 1) (by decide) (by omega)
  refine va_sld hx hb hX hbl hbA hS (i := z5) (vin rfl (by omega)) dL_law_1162 ?_
  refine my_top (v := a1) (by rw [ea1, ez5, ez1]) ?_
  refine lv_aload_n hx hb dL_law_1163 rfl (lv_at hl 3 rfl) ?_
  refine lv_iload_n hx hb dL_law_1164 rfl (lv_at hl 0 rfl) ?_
  refine lv_iconst (v := 2) hx hb dL_law_1165 (by decide) ?_
  refine lv_iadd hx hb dL_law_1166 ?_
  refine lv_topi (fun z6 ez6 => ?_)
  have tz6 := tadd ez6 rfl (b := 2) (by decide) (by omega)
  refine va_sld hx hb hX hbl hbA hS (i := z6) (vin rfl (by omega)) dL_law_1167 ?_
  refine my_top (v := a2) (by rw [ea2, ez6, ez2]) ?_
  refine lv_aload_n hx hb dL_law_1168 rfl (lv_at hl 3 rfl) ?_
  refine lv_iload_n hx hb dL_law_1169 rfl (lv_at hl 0 rfl) ?_
  refine lv_iconst (v := 3) hx hb dL_law_1170 (by decide) ?_
  refine lv_iadd hx hb dL_law_1171 ?_
  refine lv_topi (fun z7 ez7 => ?_)
  have tz7 := tadd ez7 rfl (b := 3) (by decide) (by omega)
  refine va_sld hx hb hX hbl hbA hS (i := z7) (vin rfl (by omega)) dL_law_1172 ?_
  refine my_top (v := a3) (by rw [ea3, ez7, ez3]) ?_
  refine lv_aload_n hx hb dL_law_1173 rfl (lv_at hl 3 rfl) ?_
  refine lv_iload_n hx hb dL_law_1174 rfl (lv_at hl 0 rfl) ?_
  refine lv_iconst (v := 4) hx hb dL_law_1175 (by decide) ?_
  refine lv_iadd hx hb dL_law_1176 ?_
  refine lv_topi (fun z8 ez8 => ?_)
  have tz8 := tadd ez8 rfl (b := 4) (by decide) (by omega)
  refine va_sld hx hb hX hbl hbA hS (i := z8) (vin rfl (by omega)) dL_law_1177 ?_
  refine my_top (v := a4) (by rw [ea4, ez8, ez4]) ?_
  refine va_calli (va_runV (As := [.int a1, .int a2, .int a3, .int a4]) (rest := []) ⟨hx, hb, hml, hown, hwd⟩ (c_X12_costs l dC dI gM cM adK adV v' F' 0 H.size a1 a2 a3 a4 hLS.2.1 hLI.2.1 hLI.2.2.2.1) (cwV 4 hwd (gV wk_1243 wk_1240 wk_1241 wk_1242 wk_5) rfl rfl rfl (by decide +kernel) ⟨Nat.le_of_ble_eq_true rfl, Nat.le_of_ble_eq_true rfl⟩) ⟨PM.blind, va_recv hLS.2.2.2.2.2.2.1 hPM (ci := 12) (q0 := 0) rfl rfl, fun U hU hW => ⟨rfl, by rw [hU], by rw [hU]; exact hPM, va_K.moved hW.alike hLS.2.2.2.2.2.2.1, trivial⟩⟩ rfl rfl hl.1 rfl (lv_room (Nat.le_of_ble_eq_true rfl)) dL_law_1178 ⟨Nat.le_of_ble_eq_true rfl, Nat.le_of_ble_eq_true rfl⟩) hS (fun q _ h => (hLS.fM hS.1) q h) (hLS.fM hS.1) (fun r2 u t H1 locs ht hvm hw hB hz1 hk1 hS => ?_)
  unfold BM at hB
  rw [ht] at hB
  have hPX := hLS.kX hPX hk1
  obtain ⟨v2, F2, rc2⟩ := u
  obtain ⟨hI2, hrc2, hf2, hG2, hw2⟩ := hw
  dsimp only at hI2 hrc2 hf2 hG2 hw2 hB
  rw [hrc2] at hB
  have hPM : va_P (dC, dI) classes (wM gM cM v2 F2 0) H1 := hB
  have g1 := congrArg Int32.toInt (hf2 1 (by decide))
  have g2 := congrArg Int32.toInt (hf2 2 (by decide))
  have g6 := congrArg Int32.toInt (hf2 6 (by decide))
  have g45 := congrArg Int32.toInt (hf2 45 (by decide))
  generalize H1 = H at hPX hPM hS ⊢
  have tie := hLI.2.2.2.2
  have hLI9 : LI v1 F1 v2 F2 := ⟨hI1, hI2, (JO.to hLI.2.2.1 (hf2 14 (by decide)) (hf2 19 (by decide)) (hG2 13 (by decide)) (hG2 15 (by decide)) (hG2 18 (by decide))), (JL.to hLI.2.2.2.1 (hf2 31 (by decide)) (hG2 28 (by decide)) (hG2 29 (by decide)) (hG2 27 (by decide))), by omega, by omega, by omega, by omega, (q1.2.1.trans (hLI.2.2.2.2.2.2.2.2.1.trans (hG2 44 (by decide)).symm)), (q1.2.2.trans (hLI.2.2.2.2.2.2.2.2.2.trans (hG2 45 (by decide)).symm))⟩
  refine lv_pop hx hb dL_law_1181 rfl ?_
  refine lv_goto (tgt := 1485) hx hb dL_law_1182 (by decide) ?_
  exact hK v1 F1 rc1 v2 F2 H _ ls hLI9 hPX hPM hS hl
set_option maxHeartbeats 4000000 in
set_option maxRecDepth 100000 in
theorem law_case_25 {p : Program} {l : Launch} {e : Env} {s : State} {m : MethodId} {below : List Frame} {meth : Method} {c : Code} {dC : Nat → ClassId} {dI : Nat → Nat → Nat} {b L : Nat} {xs : Nat → Int32} {gX gM adK adV : Nat → Nat} {cX cM : Nat → ClassId} (hL : L ≤ 3584) (C0 : lw_At p s m meth c b L xs) (hLS : LSta s dC dI gX cX gM cM adK adV) {i : Int32} (hi : 0 ≤ i.toInt ∧ i.toInt + 7 ≤ (L : Int)) {v : Nat → Int32} {F : Nat → Nat → Int32} {rc : Nat} {v' : Nat → Int32} {F' : Nat → Nat → Int32} {H : Heap} {locs : List Loc} {ls : Array Slot} (hLI : LI v F v' F') (hPX : va_P (dC, dI) classes (wX gX cX v F rc) H) (hPM : va_P (dC, dI) classes (wM gM cM v' F' 0) H) (hS : va_S (fun q : Nat => s.heap.size ≤ q) s.heap H locs) (hl : lv_has ls 4 [(3, .int i), (2, .ref (gM 0)), (1, .ref (gX 0)), (0, .ref b)]) (hK : ∀ (v : Nat → Int32) (F : Nat → Nat → Int32) (rc : Nat) (v' : Nat → Int32) (F' : Nat → Nat → Int32) (H : Heap) (locs : List Loc) (ls : Array Slot), LI v F v' F' → va_P (dC, dI) classes (wX gX cX v F rc) H → va_P (dC, dI) classes (wM gM cM v' F' 0) H → va_S (fun q : Nat => s.heap.size ≤ q) s.heap H locs → lv_has ls 4 [(3, .int i), (2, .ref (gM 0)), (1, .ref (gX 0)), (0, .ref b)] → W p l e room_1 s m #[Value.ref b] below meth c H locs 126 19787 (lw_Z below #[Value.ref b] s) (F0 m 1485 ls [])) : W p l e room_1 s m #[Value.ref b] below meth c H locs 126 19787 (lw_Z below #[Value.ref b] s) (F0 m 1185 ls []) := by
  obtain ⟨hx, hb, hr, hml, hown, hts, hX, hbl, hlocks, hgv⟩ := id C0
  have hown : s.vm.findClass RL = some m.cls := hown
  have hwd : ∀ w ∈ wA, w.before #[Value.ref b] s = true := fun w h => hts w (wA_in w h)
  have hbA : ¬ (fun q : Nat => s.heap.size ≤ q) b := Nat.not_le.mpr hbl
  refine lv_aload_n hx hb dL_law_1185 rfl (lv_at hl 2 rfl) ?_
  refine lv_aload_n hx hb dL_law_1186 rfl (lv_at hl 3 rfl) ?_
  refine lv_iload_n hx hb dL_law_1187 rfl (lv_at hl 0 rfl) ?_
  refine lv_iconst (v := 1) hx hb dL_law_1188 (by decide) ?_
  refine lv_iadd hx hb dL_law_1189 ?_
  refine lv_topi (fun z1 ez1 => ?_)
  have tz1 := tadd ez1 rfl (b := 1) (by decide) (by omega)
  refine va_sld hx hb hX hbl hbA hS (i := z1) (vin rfl (by omega)) dL_law_1190 ?_
  refine lv_topi (fun a1 ea1 => ?_)
  refine va_calli (va_runV (As := [.int a1]) (rest := []) ⟨hx, hb, hml, hown, hwd⟩ (c_X11_giveBack l dC dI gX cX adK adV v F rc H.size a1 hLS.1 hLI.1) (cwV 1 hwd (gV wk_1255 wk_1252 wk_1253 wk_1254 wk_2) rfl rfl rfl (by decide +kernel) ⟨Nat.le_of_ble_eq_true rfl, Nat.le_of_ble_eq_true rfl⟩) ⟨PX.blind, va_recv hLS.2.2.2.2.2.1 hPX (ci := 11) (q0 := 0) rfl rfl, fun U hU hW => ⟨rfl, by rw [hU], by rw [hU]; exact hPX, va_K.moved hW.alike hLS.2.2.2.2.2.1, hLS.2.2.2.2.2.2.2.at hS (hLS.fX hS.1) hU hW⟩⟩ rfl rfl hl.1 rfl (lv_room (Nat.le_of_ble_eq_true rfl)) dL_law_1191 ⟨Nat.le_of_ble_eq_true rfl, Nat.le_of_ble_eq_true rfl⟩) hS (fun q _ h => (hLS.fX hS.1) q h) (hLS.fX hS.1) (fun r1 u t H1 locs ht hvm hw hB hz1 hk1 hS => ?_)
  unfold BX at hB
  rw [ht] at hB
  have hPM := hLS.kM hPM hk1
  obtain ⟨v1, F1, rc1⟩ := u
  obtain ⟨hI1, hal1, -, -, -⟩ := hw
  dsimp only at hI1 hal1 hB
  have q1 := alX_c hal1
  have hPX : va_P (dC, dI) classes (wX gX cX v1 F1 rc1) H1 := hB
  generalize H1 = H at hPX hPM hS ⊢
  refine lv_pop hx hb dL_law_1194 rfl ?_
  refine lv_aload_n hx hb dL_law_1195 rfl (lv_at hl 1 rfl) ?_
  refine lv_aload_n hx hb dL_law_1196 rfl (lv_at hl 3 rfl) ?_
  refine lv_iload_n hx hb dL_law_1197 rfl (lv_at hl 0 rfl) ?_
  refine lv_iconst (v := 1) hx hb dL_law_1198 (by decide) ?_
  refine lv_iadd hx hb dL_law_1199 ?_
  refine lv_topi (fun z2 ez2 => ?_)
  have tz2 := tadd ez2 rfl (b := 1) (by decide) (by omega)
  refine va_sld hx hb hX hbl hbA hS (i := z2) (vin rfl (by omega)) dL_law_1200 ?_
  refine my_top (v := a1) (by rw [ea1, ez2, ez1]) ?_
  refine va_calli (va_runV (As := [.int a1]) (rest := []) ⟨hx, hb, hml, hown, hwd⟩ (c_X12_giveBack l dC dI gM cM adK adV v' F' 0 H.size a1 hLS.2.1 hLI.2.1 hLI.2.2.1 hLI.2.2.2.1) (cwV 1 hwd (gV wk_1267 wk_1264 wk_1265 wk_1266 wk_5) rfl rfl rfl (by decide +kernel) ⟨Nat.le_of_ble_eq_true rfl, Nat.le_of_ble_eq_true rfl⟩) ⟨PM.blind, va_recv hLS.2.2.2.2.2.2.1 hPM (ci := 12) (q0 := 0) rfl rfl, fun U hU hW => ⟨rfl, by rw [hU], by rw [hU]; exact hPM, va_K.moved hW.alike hLS.2.2.2.2.2.2.1, trivial⟩⟩ rfl rfl hl.1 rfl (lv_room (Nat.le_of_ble_eq_true rfl)) dL_law_1201 ⟨Nat.le_of_ble_eq_true rfl, Nat.le_of_ble_eq_true rfl⟩) hS (fun q _ h => (hLS.fM hS.1) q h) (hLS.fM hS.1) (fun r2 u t H1 locs ht hvm hw hB hz1 hk1 hS => ?_)
  unfold BM at hB
  rw [ht] at hB
  have hPX := hLS.kX hPX hk1
  obtain ⟨v2, F2, rc2⟩ := u
  obtain ⟨hI2, hrc2, hf2, hG2, hw2⟩ := hw
  dsimp only at hI2 hrc2 hf2 hG2 hw2 hB
  rw [hrc2] at hB
  have hPM : va_P (dC, dI) classes (wM gM cM v2 F2 0) H1 := hB
  have g1 := congrArg Int32.toInt (hf2 1 (by decide))
  have g2 := congrArg Int32.toInt (hf2 2 (by decide))
  have g6 := congrArg Int32.toInt (hf2 6 (by decide))
  have g45 := congrArg Int32.toInt (hf2 45 (by decide))
  generalize H1 = H at hPX hPM hS ⊢
  have tie := hLI.2.2.2.2
  have hLI9 : LI v1 F1 v2 F2 := ⟨hI1, hI2, hw2, (JL.to hLI.2.2.2.1 (hf2 31 (by decide)) (hG2 28 (by decide)) (hG2 29 (by decide)) (hG2 27 (by decide))), by omega, by omega, by omega, by omega, (q1.2.1.trans (hLI.2.2.2.2.2.2.2.2.1.trans (hG2 44 (by decide)).symm)), (q1.2.2.trans (hLI.2.2.2.2.2.2.2.2.2.trans (hG2 45 (by decide)).symm))⟩
  refine lv_pop hx hb dL_law_1204 rfl ?_
  refine lv_goto (tgt := 1485) hx hb dL_law_1205 (by decide) ?_
  exact hK v1 F1 rc1 v2 F2 H _ ls hLI9 hPX hPM hS hl
set_option maxHeartbeats 4000000 in
set_option maxRecDepth 100000 in
theorem law_case_26 {p : Program} {l : Launch} {e : Env} {s : State} {m : MethodId} {below : List Frame} {meth : Method} {c : Code} {dC : Nat → ClassId} {dI : Nat → Nat → Nat} {b L : Nat} {xs : Nat → Int32} {gX gM adK adV : Nat → Nat} {cX cM : Nat → ClassId} (hL : L ≤ 3584) (C0 : lw_At p s m meth c b L xs) (hLS : LSta s dC dI gX cX gM cM adK adV) {i : Int32} (hi : 0 ≤ i.toInt ∧ i.toInt + 7 ≤ (L : Int)) {v : Nat → Int32} {F : Nat → Nat → Int32} {rc : Nat} {v' : Nat → Int32} {F' : Nat → Nat → Int32} {H : Heap} {locs : List Loc} {ls : Array Slot} (hLI : LI v F v' F') (hPX : va_P (dC, dI) classes (wX gX cX v F rc) H) (hPM : va_P (dC, dI) classes (wM gM cM v' F' 0) H) (hS : va_S (fun q : Nat => s.heap.size ≤ q) s.heap H locs) (hl : lv_has ls 4 [(3, .int i), (2, .ref (gM 0)), (1, .ref (gX 0)), (0, .ref b)]) (hK : ∀ (v : Nat → Int32) (F : Nat → Nat → Int32) (rc : Nat) (v' : Nat → Int32) (F' : Nat → Nat → Int32) (H : Heap) (locs : List Loc) (ls : Array Slot), LI v F v' F' → va_P (dC, dI) classes (wX gX cX v F rc) H → va_P (dC, dI) classes (wM gM cM v' F' 0) H → va_S (fun q : Nat => s.heap.size ≤ q) s.heap H locs → lv_has ls 4 [(3, .int i), (2, .ref (gM 0)), (1, .ref (gX 0)), (0, .ref b)] → W p l e room_1 s m #[Value.ref b] below meth c H locs 126 19787 (lw_Z below #[Value.ref b] s) (F0 m 1485 ls [])) : W p l e room_1 s m #[Value.ref b] below meth c H locs 126 19787 (lw_Z below #[Value.ref b] s) (F0 m 1208 ls []) := by
  obtain ⟨hx, hb, hr, hml, hown, hts, hX, hbl, hlocks, hgv⟩ := id C0
  have hown : s.vm.findClass RL = some m.cls := hown
  have hwd : ∀ w ∈ wA, w.before #[Value.ref b] s = true := fun w h => hts w (wA_in w h)
  have hbA : ¬ (fun q : Nat => s.heap.size ≤ q) b := Nat.not_le.mpr hbl
  refine lv_aload_n hx hb dL_law_1208 rfl (lv_at hl 2 rfl) ?_
  refine lv_aload_n hx hb dL_law_1209 rfl (lv_at hl 3 rfl) ?_
  refine lv_iload_n hx hb dL_law_1210 rfl (lv_at hl 0 rfl) ?_
  refine lv_iconst (v := 1) hx hb dL_law_1211 (by decide) ?_
  refine lv_iadd hx hb dL_law_1212 ?_
  refine lv_topi (fun z1 ez1 => ?_)
  have tz1 := tadd ez1 rfl (b := 1) (by decide) (by omega)
  refine va_sld hx hb hX hbl hbA hS (i := z1) (vin rfl (by omega)) dL_law_1213 ?_
  refine lv_topi (fun a1 ea1 => ?_)
  refine lv_aload_n hx hb dL_law_1214 rfl (lv_at hl 3 rfl) ?_
  refine lv_iload_n hx hb dL_law_1215 rfl (lv_at hl 0 rfl) ?_
  refine lv_iconst (v := 2) hx hb dL_law_1216 (by decide) ?_
  refine lv_iadd hx hb dL_law_1217 ?_
  refine lv_topi (fun z2 ez2 => ?_)
  have tz2 := tadd ez2 rfl (b := 2) (by decide) (by omega)
  refine va_sld hx hb hX hbl hbA hS (i := z2) (vin rfl (by omega)) dL_law_1218 ?_
  refine lv_topi (fun a2 ea2 => ?_)
  refine va_calli (va_runV (As := [.int a1, .int a2]) (rest := []) ⟨hx, hb, hml, hown, hwd⟩ (c_X11_best l dC dI gX cX adK adV v F rc H.size a1 a2 hLS.1 hLI.1) (cwV 2 hwd (gV wk_1271 wk_1268 wk_1269 wk_1270 wk_2) rfl rfl rfl (by decide +kernel) ⟨Nat.le_of_ble_eq_true rfl, Nat.le_of_ble_eq_true rfl⟩) ⟨PX.blind, va_recv hLS.2.2.2.2.2.1 hPX (ci := 11) (q0 := 0) rfl rfl, fun U hU hW => ⟨rfl, by rw [hU], by rw [hU]; exact hPX, va_K.moved hW.alike hLS.2.2.2.2.2.1, hLS.2.2.2.2.2.2.2.at hS (hLS.fX hS.1) hU hW⟩⟩ rfl rfl hl.1 rfl (lv_room (Nat.le_of_ble_eq_true rfl)) dL_law_1219 ⟨Nat.le_of_ble_eq_true rfl, Nat.le_of_ble_eq_true rfl⟩) hS (fun q _ h => (hLS.fX hS.1) q h) (hLS.fX hS.1) (fun r1 u t H1 locs ht hvm hw hB hz1 hk1 hS => ?_)
  unfold BX at hB
  rw [ht] at hB
  have hPM := hLS.kM hPM hk1
  obtain ⟨v1, F1, rc1⟩ := u
  obtain ⟨hI1, hal1, -, -, -⟩ := hw
  dsimp only at hI1 hal1 hB
  have q1 := alX_c hal1
  have hPX : va_P (dC, dI) classes (wX gX cX v1 F1 rc1) H1 := hB
  generalize H1 = H at hPX hPM hS ⊢
  refine lv_pop hx hb dL_law_1222 rfl ?_
  refine lv_aload_n hx hb dL_law_1223 rfl (lv_at hl 1 rfl) ?_
  refine lv_aload_n hx hb dL_law_1224 rfl (lv_at hl 3 rfl) ?_
  refine lv_iload_n hx hb dL_law_1225 rfl (lv_at hl 0 rfl) ?_
  refine lv_iconst (v := 1) hx hb dL_law_1226 (by decide) ?_
  refine lv_iadd hx hb dL_law_1227 ?_
  refine lv_topi (fun z3 ez3 => ?_)
  have tz3 := tadd ez3 rfl (b := 1) (by decide) (by omega)
  refine va_sld hx hb hX hbl hbA hS (i := z3) (vin rfl (by omega)) dL_law_1228 ?_
  refine my_top (v := a1) (by rw [ea1, ez3, ez1]) ?_
  refine lv_aload_n hx hb dL_law_1229 rfl (lv_at hl 3 rfl) ?_
  refine lv_iload_n hx hb dL_law_1230 rfl (lv_at hl 0 rfl) ?_
  refine lv_iconst (v := 2) hx hb dL_law_1231 (by decide) ?_
  refine lv_iadd hx hb dL_law_1232 ?_
  refine lv_topi (fun z4 ez4 => ?_)
  have tz4 := tadd ez4 rfl (b := 2) (by decide) (by omega)
  refine va_sld hx hb hX hbl hbA hS (i := z4) (vin rfl (by omega)) dL_law_1233 ?_
  refine my_top (v := a2) (by rw [ea2, ez4, ez2]) ?_
  refine va_calli (va_runV (As := [.int a1, .int a2]) (rest := []) ⟨hx, hb, hml, hown, hwd⟩ (c_X12_best l dC dI gM cM adK adV v' F' 0 H.size a1 a2 hLS.2.1 hLI.2.1 hLI.2.2.2.1) (cwV 2 hwd (gV wk_1303 wk_1300 wk_1301 wk_1302 wk_5) rfl rfl rfl (by decide +kernel) ⟨Nat.le_of_ble_eq_true rfl, Nat.le_of_ble_eq_true rfl⟩) ⟨PM.blind, va_recv hLS.2.2.2.2.2.2.1 hPM (ci := 12) (q0 := 0) rfl rfl, fun U hU hW => ⟨rfl, by rw [hU], by rw [hU]; exact hPM, va_K.moved hW.alike hLS.2.2.2.2.2.2.1, trivial⟩⟩ rfl rfl hl.1 rfl (lv_room (Nat.le_of_ble_eq_true rfl)) dL_law_1234 ⟨Nat.le_of_ble_eq_true rfl, Nat.le_of_ble_eq_true rfl⟩) hS (fun q _ h => (hLS.fM hS.1) q h) (hLS.fM hS.1) (fun r2 u t H1 locs ht hvm hw hB hz1 hk1 hS => ?_)
  unfold BM at hB
  rw [ht] at hB
  have hPX := hLS.kX hPX hk1
  obtain ⟨v2, F2, rc2⟩ := u
  obtain ⟨hI2, hrc2, hf2, hG2, hw2⟩ := hw
  dsimp only at hI2 hrc2 hf2 hG2 hw2 hB
  rw [hrc2] at hB
  have hPM : va_P (dC, dI) classes (wM gM cM v2 F2 0) H1 := hB
  have g1 := congrArg Int32.toInt (hf2 1 (by decide))
  have g2 := congrArg Int32.toInt (hf2 2 (by decide))
  have g6 := congrArg Int32.toInt (hf2 6 (by decide))
  have g45 := congrArg Int32.toInt (hf2 45 (by decide))
  generalize H1 = H at hPX hPM hS ⊢
  have tie := hLI.2.2.2.2
  have hLI9 : LI v1 F1 v2 F2 := ⟨hI1, hI2, (JO.to hLI.2.2.1 (hf2 14 (by decide)) (hf2 19 (by decide)) (hG2 13 (by decide)) (hG2 15 (by decide)) (hG2 18 (by decide))), (JL.to hLI.2.2.2.1 (hf2 31 (by decide)) (hG2 28 (by decide)) (hG2 29 (by decide)) (hG2 27 (by decide))), by omega, by omega, by omega, by omega, (q1.2.1.trans (hLI.2.2.2.2.2.2.2.2.1.trans (hG2 44 (by decide)).symm)), (q1.2.2.trans (hLI.2.2.2.2.2.2.2.2.2.trans (hG2 45 (by decide)).symm))⟩
  refine lv_pop hx hb dL_law_1237 rfl ?_
  refine lv_goto (tgt := 1485) hx hb dL_law_1238 (by decide) ?_
  exact hK v1 F1 rc1 v2 F2 H _ ls hLI9 hPX hPM hS hl
