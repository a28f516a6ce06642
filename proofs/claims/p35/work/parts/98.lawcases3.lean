set_option maxHeartbeats 4000000 in
set_option maxRecDepth 100000 in
theorem law_case_27 {p : Program} {l : Launch} {e : Env} {s : State} {m : MethodId} {below : List Frame} {meth : Method} {c : Code} {dC : Nat → ClassId} {dI : Nat → Nat → Nat} {b L : Nat} {xs : Nat → Int32} {gX gM adK adV : Nat → Nat} {cX cM : Nat → ClassId} (hL : L ≤ 3584) (C0 : lw_At p s m meth c b L xs) (hLS : LSta s dC dI gX cX gM cM adK adV) {i : Int32} (hi : 0 ≤ i.toInt ∧ i.toInt + 7 ≤ (L : Int)) {v : Nat → Int32} {F : Nat → Nat → Int32} {rc : Nat} {v' : Nat → Int32} {F' : Nat → Nat → Int32} {H : Heap} {locs : List Loc} {ls : Array Slot} (hLI : LI v F v' F') (hPX : va_P (dC, dI) classes (wX gX cX v F rc) H) (hPM : va_P (dC, dI) classes (wM gM cM v' F' 0) H) (hS : va_S (fun q : Nat => s.heap.size ≤ q) s.heap H locs) (hl : lv_has ls 4 [(3, .int i), (2, .ref (gM 0)), (1, .ref (gX 0)), (0, .ref b)]) (hK : ∀ (v : Nat → Int32) (F : Nat → Nat → Int32) (rc : Nat) (v' : Nat → Int32) (F' : Nat → Nat → Int32) (H : Heap) (locs : List Loc) (ls : Array Slot), LI v F v' F' → va_P (dC, dI) classes (wX gX cX v F rc) H → va_P (dC, dI) classes (wM gM cM v' F' 0) H → va_S (fun q : Nat => s.heap.size ≤ q) s.heap H locs → lv_has ls 4 [(3, .int i), (2, .ref (gM 0)), (1, .ref (gX 0)), (0, .ref b)] → W p l e room_1 s m #[Value.ref b] below meth c H locs 126 19787 (lw_Z below #[Value.ref b] s) (F0 m 1485 ls [])) : W p l e room_1 s m #[Value.ref b] below meth c H locs 126 19787 (lw_Z below #[Value.ref b] s) (F0 m 1241 ls []) := by
  obtain ⟨hx, hb, hr, hml, hown, hts, hX, hbl, hlocks, hgv⟩ := id C0
  have hown : s.vm.findClass RL = some m.cls := hown
  have hwd : ∀ w ∈ wA, w.before #[Value.ref b] s = true := fun w h => hts w (wA_in w h)
  have hbA : ¬ (fun q : Nat => s.heap.size ≤ q) b := Nat.not_le.mpr hbl
  refine lv_aload_n hx hb dL_law_1241 rfl (lv_at hl 2 rfl) ?_
  refine va_calli (va_runV (As := []) (rest := []) ⟨hx, hb, hml, hown, hwd⟩ (c_X11_bestCost l dC dI gX cX adK adV v F rc H.size  hLS.1 hLI.1) (cwV 0 hwd (gV wk_1312 wk_1309 wk_1310 wk_1311 wk_2) rfl rfl rfl (by decide +kernel) ⟨Nat.le_of_ble_eq_true rfl, Nat.le_of_ble_eq_true rfl⟩) ⟨PX.blind, va_recv hLS.2.2.2.2.2.1 hPX (ci := 11) (q0 := 0) rfl rfl, fun U hU hW => ⟨rfl, by rw [hU], by rw [hU]; exact hPX, va_K.moved hW.alike hLS.2.2.2.2.2.1, hLS.2.2.2.2.2.2.2.at hS (hLS.fX hS.1) hU hW⟩⟩ rfl rfl hl.1 rfl (lv_room (Nat.le_of_ble_eq_true rfl)) dL_law_1242 ⟨Nat.le_of_ble_eq_true rfl, Nat.le_of_ble_eq_true rfl⟩) hS (fun q _ h => (hLS.fX hS.1) q h) (hLS.fX hS.1) (fun r1 u t H1 locs ht hvm hw hB hz1 hk1 hS => ?_)
  unfold BX at hB
  rw [ht] at hB
  have hPM := hLS.kM hPM hk1
  have hPX : va_P (dC, dI) classes (wX gX cX v F rc) H1 := hB
  have hI1 := hLI.1
  generalize H1 = H at hPX hPM hS ⊢
  refine lv_pop hx hb dL_law_1245 rfl ?_
  refine lv_aload_n hx hb dL_law_1246 rfl (lv_at hl 1 rfl) ?_
  refine va_calli (va_runV (As := []) (rest := []) ⟨hx, hb, hml, hown, hwd⟩ (c_X12_bestCost l dC dI gM cM adK adV v' F' 0 H.size  hLS.2.1 hLI.2.1) (cwV 0 hwd (gV wk_1316 wk_1313 wk_1314 wk_1315 wk_5) rfl rfl rfl (by decide +kernel) ⟨Nat.le_of_ble_eq_true rfl, Nat.le_of_ble_eq_true rfl⟩) ⟨PM.blind, va_recv hLS.2.2.2.2.2.2.1 hPM (ci := 12) (q0 := 0) rfl rfl, fun U hU hW => ⟨rfl, by rw [hU], by rw [hU]; exact hPM, va_K.moved hW.alike hLS.2.2.2.2.2.2.1, trivial⟩⟩ rfl rfl hl.1 rfl (lv_room (Nat.le_of_ble_eq_true rfl)) dL_law_1247 ⟨Nat.le_of_ble_eq_true rfl, Nat.le_of_ble_eq_true rfl⟩) hS (fun q _ h => (hLS.fM hS.1) q h) (hLS.fM hS.1) (fun r2 u t H1 locs ht hvm hw hB hz1 hk1 hS => ?_)
  unfold BM at hB
  rw [ht] at hB
  have hPX := hLS.kX hPX hk1
  have hPM : va_P (dC, dI) classes (wM gM cM v' F' 0) H1 := hB
  have hI2 := hLI.2.1
  generalize H1 = H at hPX hPM hS ⊢
  have tie := hLI.2.2.2.2
  have hLI9 : LI v F v' F' := ⟨hI1, hI2, hLI.2.2.1, hLI.2.2.2.1, by omega, by omega, by omega, by omega, (rfl.trans (hLI.2.2.2.2.2.2.2.2.1.trans rfl)), (rfl.trans (hLI.2.2.2.2.2.2.2.2.2.trans rfl))⟩
  refine lv_pop hx hb dL_law_1250 rfl ?_
  refine lv_goto (tgt := 1485) hx hb dL_law_1251 (by decide) ?_
  exact hK v F rc v' F' H _ ls hLI9 hPX hPM hS hl
set_option maxHeartbeats 4000000 in
set_option maxRecDepth 100000 in
theorem law_case_28 {p : Program} {l : Launch} {e : Env} {s : State} {m : MethodId} {below : List Frame} {meth : Method} {c : Code} {dC : Nat → ClassId} {dI : Nat → Nat → Nat} {b L : Nat} {xs : Nat → Int32} {gX gM adK adV : Nat → Nat} {cX cM : Nat → ClassId} (hL : L ≤ 3584) (C0 : lw_At p s m meth c b L xs) (hLS : LSta s dC dI gX cX gM cM adK adV) {i : Int32} (hi : 0 ≤ i.toInt ∧ i.toInt + 7 ≤ (L : Int)) {v : Nat → Int32} {F : Nat → Nat → Int32} {rc : Nat} {v' : Nat → Int32} {F' : Nat → Nat → Int32} {H : Heap} {locs : List Loc} {ls : Array Slot} (hLI : LI v F v' F') (hPX : va_P (dC, dI) classes (wX gX cX v F rc) H) (hPM : va_P (dC, dI) classes (wM gM cM v' F' 0) H) (hS : va_S (fun q : Nat => s.heap.size ≤ q) s.heap H locs) (hl : lv_has ls 4 [(3, .int i), (2, .ref (gM 0)), (1, .ref (gX 0)), (0, .ref b)]) (hK : ∀ (v : Nat → Int32) (F : Nat → Nat → Int32) (rc : Nat) (v' : Nat → Int32) (F' : Nat → Nat → Int32) (H : Heap) (locs : List Loc) (ls : Array Slot), LI v F v' F' → va_P (dC, dI) classes (wX gX cX v F rc) H → va_P (dC, dI) classes (wM gM cM v' F' 0) H → va_S (fun q : Nat => s.heap.size ≤ q) s.heap H locs → lv_has ls 4 [(3, .int i), (2, .ref (gM 0)), (1, .ref (gX 0)), (0, .ref b)] → W p l e room_1 s m #[Value.ref b] below meth c H locs 126 19787 (lw_Z below #[Value.ref b] s) (F0 m 1485 ls [])) : W p l e room_1 s m #[Value.ref b] below meth c H locs 126 19787 (lw_Z below #[Value.ref b] s) (F0 m 1254 ls []) := by
  obtain ⟨hx, hb, hr, hml, hown, hts, hX, hbl, hlocks, hgv⟩ := id C0
  have hown : s.vm.findClass RL = some m.cls := hown
  have hwd : ∀ w ∈ wA, w.before #[Value.ref b] s = true := fun w h => hts w (wA_in w h)
  have hbA : ¬ (fun q : Nat => s.heap.size ≤ q) b := Nat.not_le.mpr hbl
  refine lv_aload_n hx hb dL_law_1254 rfl (lv_at hl 2 rfl) ?_
  refine lv_aload_n hx hb dL_law_1255 rfl (lv_at hl 3 rfl) ?_
  refine lv_iload_n hx hb dL_law_1256 rfl (lv_at hl 0 rfl) ?_
  refine lv_iconst (v := 1) hx hb dL_law_1257 (by decide) ?_
  refine lv_iadd hx hb dL_law_1258 ?_
  refine lv_topi (fun z1 ez1 => ?_)
  have tz1 := tadd ez1 rfl (b := 1) (by decide) (by omega)
  refine va_sld hx hb hX hbl hbA hS (i := z1) (vin rfl (by omega)) dL_law_1259 ?_
  refine lv_topi (fun a1 ea1 => ?_)
  refine lv_aload_n hx hb dL_law_1260 rfl (lv_at hl 3 rfl) ?_
  refine lv_iload_n hx hb dL_law_1261 rfl (lv_at hl 0 rfl) ?_
  refine lv_iconst (v := 2) hx hb dL_law_1262 (by decide) ?_
  refine lv_iadd hx hb dL_law_1263 ?_
  refine lv_topi (fun z2 ez2 => ?_)
  have tz2 := tadd ez2 rfl (b := 2) (by decide) (by omega)
  refine va_sld hx hb hX hbl hbA hS (i := z2) (vin rfl (by omega)) dL_law_1264 ?_
  refine lv_topi (fun a2 ea2 => ?_)
  refine va_calli (va_runV (As := [.int a1, .int a2]) (rest := []) ⟨hx, hb, hml, hown, hwd⟩ (c_X11_reserve l dC dI gX cX adK adV v F rc H.size a1 a2 hLS.1 hLI.1) (cwV 2 hwd (gV wk_1320 wk_1317 wk_1318 wk_1319 wk_2) rfl rfl rfl (by decide +kernel) ⟨Nat.le_of_ble_eq_true rfl, Nat.le_of_ble_eq_true rfl⟩) ⟨PX.blind, va_recv hLS.2.2.2.2.2.1 hPX (ci := 11) (q0 := 0) rfl rfl, fun U hU hW => ⟨rfl, by rw [hU], by rw [hU]; exact hPX, va_K.moved hW.alike hLS.2.2.2.2.2.1, hLS.2.2.2.2.2.2.2.at hS (hLS.fX hS.1) hU hW⟩⟩ rfl rfl hl.1 rfl (lv_room (Nat.le_of_ble_eq_true rfl)) dL_law_1265 ⟨Nat.le_of_ble_eq_true rfl, Nat.le_of_ble_eq_true rfl⟩) hS (fun q _ h => (hLS.fX hS.1) q h) (hLS.fX hS.1) (fun r1 u t H1 locs ht hvm hw hB hz1 hk1 hS => ?_)
  unfold BX at hB
  rw [ht] at hB
  have hPM := hLS.kM hPM hk1
  have hPX : va_P (dC, dI) classes (wX gX cX v F rc) H1 := hB
  have hI1 := hLI.1
  generalize H1 = H at hPX hPM hS ⊢
  refine lv_pop hx hb dL_law_1268 rfl ?_
  refine lv_aload_n hx hb dL_law_1269 rfl (lv_at hl 1 rfl) ?_
  refine lv_aload_n hx hb dL_law_1270 rfl (lv_at hl 3 rfl) ?_
  refine lv_iload_n hx hb dL_law_1271 rfl (lv_at hl 0 rfl) ?_
  refine lv_iconst (v := 1) hx hb dL_law_1272 (by decide) ?_
  refine lv_iadd hx hb dL_law_1273 ?_
  refine lv_topi (fun z3 ez3 => ?_)
  have tz3 := tadd ez3 rfl (b := 1) (by decide) (by omega)
  refine va_sld hx hb hX hbl hbA hS (i := z3) (vin rfl (by omega)) dL_law_1274 ?_
  refine my_top (v := a1) (by rw [ea1, ez3, ez1]) ?_
  refine lv_aload_n hx hb dL_law_1275 rfl (lv_at hl 3 rfl) ?_
  refine lv_iload_n hx hb dL_law_1276 rfl (lv_at hl 0 rfl) ?_
  refine lv_iconst (v := 2) hx hb dL_law_1277 (by decide) ?_
  refine lv_iadd hx hb dL_law_1278 ?_
  refine lv_topi (fun z4 ez4 => ?_)
  have tz4 := tadd ez4 rfl (b := 2) (by decide) (by omega)
  refine va_sld hx hb hX hbl hbA hS (i := z4) (vin rfl (by omega)) dL_law_1279 ?_
  refine my_top (v := a2) (by rw [ea2, ez4, ez2]) ?_
  refine va_calli (va_runV (As := [.int a1, .int a2]) (rest := []) ⟨hx, hb, hml, hown, hwd⟩ (c_X12_reserve l dC dI gM cM adK adV v' F' 0 H.size a1 a2 hLS.2.1 hLI.2.1) (cwV 2 hwd (gV wk_1325 wk_1322 wk_1323 wk_1324 wk_5) rfl rfl rfl (by decide +kernel) ⟨Nat.le_of_ble_eq_true rfl, Nat.le_of_ble_eq_true rfl⟩) ⟨PM.blind, va_recv hLS.2.2.2.2.2.2.1 hPM (ci := 12) (q0 := 0) rfl rfl, fun U hU hW => ⟨rfl, by rw [hU], by rw [hU]; exact hPM, va_K.moved hW.alike hLS.2.2.2.2.2.2.1, trivial⟩⟩ rfl rfl hl.1 rfl (lv_room (Nat.le_of_ble_eq_true rfl)) dL_law_1280 ⟨Nat.le_of_ble_eq_true rfl, Nat.le_of_ble_eq_true rfl⟩) hS (fun q _ h => (hLS.fM hS.1) q h) (hLS.fM hS.1) (fun r2 u t H1 locs ht hvm hw hB hz1 hk1 hS => ?_)
  unfold BM at hB
  rw [ht] at hB
  have hPX := hLS.kX hPX hk1
  have hPM : va_P (dC, dI) classes (wM gM cM v' F' 0) H1 := hB
  have hI2 := hLI.2.1
  generalize H1 = H at hPX hPM hS ⊢
  have tie := hLI.2.2.2.2
  have hLI9 : LI v F v' F' := ⟨hI1, hI2, hLI.2.2.1, hLI.2.2.2.1, by omega, by omega, by omega, by omega, (rfl.trans (hLI.2.2.2.2.2.2.2.2.1.trans rfl)), (rfl.trans (hLI.2.2.2.2.2.2.2.2.2.trans rfl))⟩
  refine lv_pop hx hb dL_law_1283 rfl ?_
  refine lv_goto (tgt := 1485) hx hb dL_law_1284 (by decide) ?_
  exact hK v F rc v' F' H _ ls hLI9 hPX hPM hS hl
set_option maxHeartbeats 4000000 in
set_option maxRecDepth 100000 in
theorem law_case_29 {p : Program} {l : Launch} {e : Env} {s : State} {m : MethodId} {below : List Frame} {meth : Method} {c : Code} {dC : Nat → ClassId} {dI : Nat → Nat → Nat} {b L : Nat} {xs : Nat → Int32} {gX gM adK adV : Nat → Nat} {cX cM : Nat → ClassId} (hL : L ≤ 3584) (C0 : lw_At p s m meth c b L xs) (hLS : LSta s dC dI gX cX gM cM adK adV) {i : Int32} (hi : 0 ≤ i.toInt ∧ i.toInt + 7 ≤ (L : Int)) {v : Nat → Int32} {F : Nat → Nat → Int32} {rc : Nat} {v' : Nat → Int32} {F' : Nat → Nat → Int32} {H : Heap} {locs : List Loc} {ls : Array Slot} (hLI : LI v F v' F') (hPX : va_P (dC, dI) classes (wX gX cX v F rc) H) (hPM : va_P (dC, dI) classes (wM gM cM v' F' 0) H) (hS : va_S (fun q : Nat => s.heap.size ≤ q) s.heap H locs) (hl : lv_has ls 4 [(3, .int i), (2, .ref (gM 0)), (1, .ref (gX 0)), (0, .ref b)]) (hK : ∀ (v : Nat → Int32) (F : Nat → Nat → Int32) (rc : Nat) (v' : Nat → Int32) (F' : Nat → Nat → Int32) (H : Heap) (locs : List Loc) (ls : Array Slot), LI v F v' F' → va_P (dC, dI) classes (wX gX cX v F rc) H → va_P (dC, dI) classes (wM gM cM v' F' 0) H → va_S (fun q : Nat => s.heap.size ≤ q) s.heap H locs → lv_has ls 4 [(3, .int i), (2, .ref (gM 0)), (1, .ref (gX 0)), (0, .ref b)] → W p l e room_1 s m #[Value.ref b] below meth c H locs 126 19787 (lw_Z below #[Value.ref b] s) (F0 m 1485 ls [])) : W p l e room_1 s m #[Value.ref b] below meth c H locs 126 19787 (lw_Z below #[Value.ref b] s) (F0 m 1287 ls []) := by
  obtain ⟨hx, hb, hr, hml, hown, hts, hX, hbl, hlocks, hgv⟩ := id C0
  have hown : s.vm.findClass RL = some m.cls := hown
  have hwd : ∀ w ∈ wA, w.before #[Value.ref b] s = true := fun w h => hts w (wA_in w h)
  have hbA : ¬ (fun q : Nat => s.heap.size ≤ q) b := Nat.not_le.mpr hbl
  refine lv_aload_n hx hb dL_law_1287 rfl (lv_at hl 2 rfl) ?_
  refine lv_aload_n hx hb dL_law_1288 rfl (lv_at hl 3 rfl) ?_
  refine lv_iload_n hx hb dL_law_1289 rfl (lv_at hl 0 rfl) ?_
  refine lv_iconst (v := 1) hx hb dL_law_1290 (by decide) ?_
  refine lv_iadd hx hb dL_law_1291 ?_
  refine lv_topi (fun z1 ez1 => ?_)
  have tz1 := tadd ez1 rfl (b := 1) (by decide) (by omega)
  refine va_sld hx hb hX hbl hbA hS (i := z1) (vin rfl (by omega)) dL_law_1292 ?_
  refine lv_topi (fun a1 ea1 => ?_)
  refine lv_aload_n hx hb dL_law_1293 rfl (lv_at hl 3 rfl) ?_
  refine lv_iload_n hx hb dL_law_1294 rfl (lv_at hl 0 rfl) ?_
  refine lv_iconst (v := 2) hx hb dL_law_1295 (by decide) ?_
  refine lv_iadd hx hb dL_law_1296 ?_
  refine lv_topi (fun z2 ez2 => ?_)
  have tz2 := tadd ez2 rfl (b := 2) (by decide) (by omega)
  refine va_sld hx hb hX hbl hbA hS (i := z2) (vin rfl (by omega)) dL_law_1297 ?_
  refine lv_topi (fun a2 ea2 => ?_)
  refine va_calli (va_runV (As := [.int a1, .int a2]) (rest := []) ⟨hx, hb, hml, hown, hwd⟩ (c_X11_claim l dC dI gX cX adK adV v F rc H.size a1 a2 hLS.1 hLI.1) (cwV 2 hwd (gV wk_1329 wk_1326 wk_1327 wk_1328 wk_2) rfl rfl rfl (by decide +kernel) ⟨Nat.le_of_ble_eq_true rfl, Nat.le_of_ble_eq_true rfl⟩) ⟨PX.blind, va_recv hLS.2.2.2.2.2.1 hPX (ci := 11) (q0 := 0) rfl rfl, fun U hU hW => ⟨rfl, by rw [hU], by rw [hU]; exact hPX, va_K.moved hW.alike hLS.2.2.2.2.2.1, hLS.2.2.2.2.2.2.2.at hS (hLS.fX hS.1) hU hW⟩⟩ rfl rfl hl.1 rfl (lv_room (Nat.le_of_ble_eq_true rfl)) dL_law_1298 ⟨Nat.le_of_ble_eq_true rfl, Nat.le_of_ble_eq_true rfl⟩) hS (fun q _ h => (hLS.fX hS.1) q h) (hLS.fX hS.1) (fun r1 u t H1 locs ht hvm hw hB hz1 hk1 hS => ?_)
  unfold BX at hB
  rw [ht] at hB
  have hPM := hLS.kM hPM hk1
  obtain ⟨v1, F1, rc1⟩ := u
  obtain ⟨hI1, hal1, -, -, -⟩ := hw
  dsimp only at hI1 hal1 hB
  have q1 := alX_c hal1
  have hPX : va_P (dC, dI) classes (wX gX cX v1 F1 rc1) H1 := hB
  generalize H1 = H at hPX hPM hS ⊢
  refine lv_pop hx hb dL_law_1301 rfl ?_
  refine lv_aload_n hx hb dL_law_1302 rfl (lv_at hl 1 rfl) ?_
  refine lv_aload_n hx hb dL_law_1303 rfl (lv_at hl 3 rfl) ?_
  refine lv_iload_n hx hb dL_law_1304 rfl (lv_at hl 0 rfl) ?_
  refine lv_iconst (v := 1) hx hb dL_law_1305 (by decide) ?_
  refine lv_iadd hx hb dL_law_1306 ?_
  refine lv_topi (fun z3 ez3 => ?_)
  have tz3 := tadd ez3 rfl (b := 1) (by decide) (by omega)
  refine va_sld hx hb hX hbl hbA hS (i := z3) (vin rfl (by omega)) dL_law_1307 ?_
  refine my_top (v := a1) (by rw [ea1, ez3, ez1]) ?_
  refine lv_aload_n hx hb dL_law_1308 rfl (lv_at hl 3 rfl) ?_
  refine lv_iload_n hx hb dL_law_1309 rfl (lv_at hl 0 rfl) ?_
  refine lv_iconst (v := 2) hx hb dL_law_1310 (by decide) ?_
  refine lv_iadd hx hb dL_law_1311 ?_
  refine lv_topi (fun z4 ez4 => ?_)
  have tz4 := tadd ez4 rfl (b := 2) (by decide) (by omega)
  refine va_sld hx hb hX hbl hbA hS (i := z4) (vin rfl (by omega)) dL_law_1312 ?_
  refine my_top (v := a2) (by rw [ea2, ez4, ez2]) ?_
  refine va_calli (va_runV (As := [.int a1, .int a2]) (rest := []) ⟨hx, hb, hml, hown, hwd⟩ (c_X12_claim l dC dI gM cM adK adV v' F' 0 H.size a1 a2 hLS.2.1 hLI.2.1 hLI.2.2.1) (cwV 2 hwd (gV wk_1347 wk_1344 wk_1345 wk_1346 wk_5) rfl rfl rfl (by decide +kernel) ⟨Nat.le_of_ble_eq_true rfl, Nat.le_of_ble_eq_true rfl⟩) ⟨PM.blind, va_recv hLS.2.2.2.2.2.2.1 hPM (ci := 12) (q0 := 0) rfl rfl, fun U hU hW => ⟨rfl, by rw [hU], by rw [hU]; exact hPM, va_K.moved hW.alike hLS.2.2.2.2.2.2.1, trivial⟩⟩ rfl rfl hl.1 rfl (lv_room (Nat.le_of_ble_eq_true rfl)) dL_law_1313 ⟨Nat.le_of_ble_eq_true rfl, Nat.le_of_ble_eq_true rfl⟩) hS (fun q _ h => (hLS.fM hS.1) q h) (hLS.fM hS.1) (fun r2 u t H1 locs ht hvm hw hB hz1 hk1 hS => ?_)
  unfold BM at hB
  rw [ht] at hB
  have hPX := hLS.kX hPX hk1
  obtain ⟨v2, F2, rc2⟩ := u
  obtain ⟨hI2, hrc2, hf2, hG2, hw2⟩ := hw
  dsimp only at hI2 hrc2 hf2 hG2 hw2 hB
  rw [hrc2] at hB
  have hPM : va_P (dC, dI) classes (wM gM cM v2 F2 0) H1 := hB
  have g1 := congrArg Int32.toInt (hf2 1 (by decide))
  have g2 := congrArg Int32.toInt (hf2 2 (by decide))
  have g6 := congrArg Int32.toInt (hf2 6 (by decide))
  have g45 := congrArg Int32.toInt (hf2 45 (by decide))
  generalize H1 = H at hPX hPM hS ⊢
  have tie := hLI.2.2.2.2
  have hLI9 : LI v1 F1 v2 F2 := ⟨hI1, hI2, (JO.to hLI.2.2.1 (hf2 14 (by decide)) (hf2 19 (by decide)) (hG2 13 (by decide)) (hG2 15 (by decide)) (hG2 18 (by decide))), (JL.to hLI.2.2.2.1 (hf2 31 (by decide)) (hG2 28 (by decide)) (hG2 29 (by decide)) (hG2 27 (by decide))), by omega, by omega, by omega, by omega, (q1.2.1.trans (hLI.2.2.2.2.2.2.2.2.1.trans (hG2 44 (by decide)).symm)), (q1.2.2.trans (hLI.2.2.2.2.2.2.2.2.2.trans (hG2 45 (by decide)).symm))⟩
  refine lv_pop hx hb dL_law_1316 rfl ?_
  refine lv_goto (tgt := 1485) hx hb dL_law_1317 (by decide) ?_
  exact hK v1 F1 rc1 v2 F2 H _ ls hLI9 hPX hPM hS hl
set_option maxHeartbeats 4000000 in
set_option maxRecDepth 100000 in
theorem law_case_30 {p : Program} {l : Launch} {e : Env} {s : State} {m : MethodId} {below : List Frame} {meth : Method} {c : Code} {dC : Nat → ClassId} {dI : Nat → Nat → Nat} {b L : Nat} {xs : Nat → Int32} {gX gM adK adV : Nat → Nat} {cX cM : Nat → ClassId} (hL : L ≤ 3584) (C0 : lw_At p s m meth c b L xs) (hLS : LSta s dC dI gX cX gM cM adK adV) {i : Int32} (hi : 0 ≤ i.toInt ∧ i.toInt + 7 ≤ (L : Int)) {v : Nat → Int32} {F : Nat → Nat → Int32} {rc : Nat} {v' : Nat → Int32} {F' : Nat → Nat → Int32} {H : Heap} {locs : List Loc} {ls : Array Slot} (hLI : LI v F v' F') (hPX : va_P (dC, dI) classes (wX gX cX v F rc) H) (hPM : va_P (dC, dI) classes (wM gM cM v' F' 0) H) (hS : va_S (fun q : Nat => s.heap.size ≤ q) s.heap H locs) (hl : lv_has ls 4 [(3, .int i), (2, .ref (gM 0)), (1, .ref (gX 0)), (0, .ref b)]) (hK : ∀ (v : Nat → Int32) (F : Nat → Nat → Int32) (rc : Nat) (v' : Nat → Int32) (F' : Nat → Nat → Int32) (H : Heap) (locs : List Loc) (ls : Array Slot), LI v F v' F' → va_P (dC, dI) classes (wX gX cX v F rc) H → va_P (dC, dI) classes (wM gM cM v' F' 0) H → va_S (fun q : Nat => s.heap.size ≤ q) s.heap H locs → lv_has ls 4 [(3, .int i), (2, .ref (gM 0)), (1, .ref (gX 0)), (0, .ref b)] → W p l e room_1 s m #[Value.ref b] below meth c H locs 126 19787 (lw_Z below #[Value.ref b] s) (F0 m 1485 ls [])) : W p l e room_1 s m #[Value.ref b] below meth c H locs 126 19787 (lw_Z below #[Value.ref b] s) (F0 m 1320 ls []) := by
  obtain ⟨hx, hb, hr, hml, hown, hts, hX, hbl, hlocks, hgv⟩ := id C0
  have hown : s.vm.findClass RL = some m.cls := hown
  have hwd : ∀ w ∈ wA, w.before #[Value.ref b] s = true := fun w h => hts w (wA_in w h)
  have hbA : ¬ (fun q : Nat => s.heap.size ≤ q) b := Nat.not_le.mpr hbl
  refine lv_aload_n hx hb dL_law_1320 rfl (lv_at hl 2 rfl) ?_
  refine lv_aload_n hx hb dL_law_1321 rfl (lv_at hl 3 rfl) ?_
  refine lv_iload_n hx hb dL_law_1322 rfl (lv_at hl 0 rfl) ?_
  refine lv_iconst (v := 1) hx hb dL_law_1323 (by decide) ?_
  refine lv_iadd hx hb dL_law_1324 ?_
  refine lv_topi (fun z1 ez1 => ?_)
  have tz1 := tadd ez1 rfl (b := 1) (by decide) (by omega)
  refine va_sld hx hb hX hbl hbA hS (i := z1) (vin rfl (by omega)) dL_law_1325 ?_
  refine lv_topi (fun a1 ea1 => ?_)
  refine lv_aload_n hx hb dL_law_1326 rfl (lv_at hl 3 rfl) ?_
  refine lv_iload_n hx hb dL_law_1327 rfl (lv_at hl 0 rfl) ?_
  refine lv_iconst (v := 2) hx hb dL_law_1328 (by decide) ?_
  refine lv_iadd hx hb dL_law_1329 ?_
  refine lv_topi (fun z2 ez2 => ?_)
  have tz2 := tadd ez2 rfl (b := 2) (by decide) (by omega)
  refine va_sld hx hb hX hbl hbA hS (i := z2) (vin rfl (by omega)) dL_law_1330 ?_
  refine lv_topi (fun a2 ea2 => ?_)
  refine va_calli (va_runV (As := [.int a1, .int a2]) (rest := []) ⟨hx, hb, hml, hown, hwd⟩ (c_X11_half l dC dI gX cX adK adV v F rc H.size a1 a2 hLS.1 hLI.1) (cwV 2 hwd (gV wk_1352 wk_1349 wk_1350 wk_1351 wk_2) rfl rfl rfl (by decide +kernel) ⟨Nat.le_of_ble_eq_true rfl, Nat.le_of_ble_eq_true rfl⟩) ⟨PX.blind, va_recv hLS.2.2.2.2.2.1 hPX (ci := 11) (q0 := 0) rfl rfl, fun U hU hW => ⟨rfl, by rw [hU], by rw [hU]; exact hPX, va_K.moved hW.alike hLS.2.2.2.2.2.1, hLS.2.2.2.2.2.2.2.at hS (hLS.fX hS.1) hU hW⟩⟩ rfl rfl hl.1 rfl (lv_room (Nat.le_of_ble_eq_true rfl)) dL_law_1331 ⟨Nat.le_of_ble_eq_true rfl, Nat.le_of_ble_eq_true rfl⟩) hS (fun q _ h => (hLS.fX hS.1) q h) (hLS.fX hS.1) (fun r1 u t H1 locs ht hvm hw hB hz1 hk1 hS => ?_)
  unfold BX at hB
  rw [ht] at hB
  have hPM := hLS.kM hPM hk1
  obtain ⟨v1, F1, rc1⟩ := u
  obtain ⟨hI1, hal1, -, -, -⟩ := hw
  dsimp only at hI1 hal1 hB
  have q1 := alX_c hal1
  have hPX : va_P (dC, dI) classes (wX gX cX v1 F1 rc1) H1 := hB
  generalize H1 = H at hPX hPM hS ⊢
  refine lv_pop hx hb dL_law_1334 rfl ?_
  refine lv_aload_n hx hb dL_law_1335 rfl (lv_at hl 1 rfl) ?_
  refine lv_aload_n hx hb dL_law_1336 rfl (lv_at hl 3 rfl) ?_
  refine lv_iload_n hx hb dL_law_1337 rfl (lv_at hl 0 rfl) ?_
  refine lv_iconst (v := 1) hx hb dL_law_1338 (by decide) ?_
  refine lv_iadd hx hb dL_law_1339 ?_
  refine lv_topi (fun z3 ez3 => ?_)
  have tz3 := tadd ez3 rfl (b := 1) (by decide) (by omega)
  refine va_sld hx hb hX hbl hbA hS (i := z3) (vin rfl (by omega)) dL_law_1340 ?_
  refine my_top (v := a1) (by rw [ea1, ez3, ez1]) ?_
  refine lv_aload_n hx hb dL_law_1341 rfl (lv_at hl 3 rfl) ?_
  refine lv_iload_n hx hb dL_law_1342 rfl (lv_at hl 0 rfl) ?_
  refine lv_iconst (v := 2) hx hb dL_law_1343 (by decide) ?_
  refine lv_iadd hx hb dL_law_1344 ?_
  refine lv_topi (fun z4 ez4 => ?_)
  have tz4 := tadd ez4 rfl (b := 2) (by decide) (by omega)
  refine va_sld hx hb hX hbl hbA hS (i := z4) (vin rfl (by omega)) dL_law_1345 ?_
  refine my_top (v := a2) (by rw [ea2, ez4, ez2]) ?_
  refine va_calli (va_runV (As := [.int a1, .int a2]) (rest := []) ⟨hx, hb, hml, hown, hwd⟩ (c_X12_half l dC dI gM cM adK adV v' F' 0 H.size a1 a2 hLS.2.1 hLI.2.1 hLI.2.2.2.1) (cwV 2 hwd (gV wk_1374 wk_1371 wk_1372 wk_1373 wk_5) rfl rfl rfl (by decide +kernel) ⟨Nat.le_of_ble_eq_true rfl, Nat.le_of_ble_eq_true rfl⟩) ⟨PM.blind, va_recv hLS.2.2.2.2.2.2.1 hPM (ci := 12) (q0 := 0) rfl rfl, fun U hU hW => ⟨rfl, by rw [hU], by rw [hU]; exact hPM, va_K.moved hW.alike hLS.2.2.2.2.2.2.1, trivial⟩⟩ rfl rfl hl.1 rfl (lv_room (Nat.le_of_ble_eq_true rfl)) dL_law_1346 ⟨Nat.le_of_ble_eq_true rfl, Nat.le_of_ble_eq_true rfl⟩) hS (fun q _ h => (hLS.fM hS.1) q h) (hLS.fM hS.1) (fun r2 u t H1 locs ht hvm hw hB hz1 hk1 hS => ?_)
  unfold BM at hB
  rw [ht] at hB
  have hPX := hLS.kX hPX hk1
  obtain ⟨v2, F2, rc2⟩ := u
  obtain ⟨hI2, hrc2, hf2, hG2, hw2⟩ := hw
  dsimp only at hI2 hrc2 hf2 hG2 hw2 hB
  rw [hrc2] at hB
  have hPM : va_P (dC, dI) classes (wM gM cM v2 F2 0) H1 := hB
  have g1 := congrArg Int32.toInt (hf2 1 (by decide))
  have g2 := congrArg Int32.toInt (hf2 2 (by decide))
  have g6 := congrArg Int32.toInt (hf2 6 (by decide))
  have g45 := congrArg Int32.toInt (hf2 45 (by decide))
  generalize H1 = H at hPX hPM hS ⊢
  have tie := hLI.2.2.2.2
  have hLI9 : LI v1 F1 v2 F2 := ⟨hI1, hI2, (JO.to hLI.2.2.1 (hf2 14 (by decide)) (hf2 19 (by decide)) (hG2 13 (by decide)) (hG2 15 (by decide)) (hG2 18 (by decide))), (JL.to hLI.2.2.2.1 (hf2 31 (by decide)) (hG2 28 (by decide)) (hG2 29 (by decide)) (hG2 27 (by decide))), by omega, by omega, by omega, by omega, (q1.2.1.trans (hLI.2.2.2.2.2.2.2.2.1.trans (hG2 44 (by decide)).symm)), (q1.2.2.trans (hLI.2.2.2.2.2.2.2.2.2.trans (hG2 45 (by decide)).symm))⟩
  refine lv_pop hx hb dL_law_1349 rfl ?_
  refine lv_goto (tgt := 1485) hx hb dL_law_1350 (by decide) ?_
  exact hK v1 F1 rc1 v2 F2 H _ ls hLI9 hPX hPM hS hl
set_option maxHeartbeats 4000000 in
set_option maxRecDepth 100000 in
theorem law_case_31 {p : Program} {l : Launch} {e : Env} {s : State} {m : MethodId} {below : List Frame} {meth : Method} {c : Code} {dC : Nat → ClassId} {dI : Nat → Nat → Nat} {b L : Nat} {xs : Nat → Int32} {gX gM adK adV : Nat → Nat} {cX cM : Nat → ClassId} (hL : L ≤ 3584) (C0 : lw_At p s m meth c b L xs) (hLS : LSta s dC dI gX cX gM cM adK adV) {i : Int32} (hi : 0 ≤ i.toInt ∧ i.toInt + 7 ≤ (L : Int)) {v : Nat → Int32} {F : Nat → Nat → Int32} {rc : Nat} {v' : Nat → Int32} {F' : Nat → Nat → Int32} {H : Heap} {locs : List Loc} {ls : Array Slot} (hLI : LI v F v' F') (hPX : va_P (dC, dI) classes (wX gX cX v F rc) H) (hPM : va_P (dC, dI) classes (wM gM cM v' F' 0) H) (hS : va_S (fun q : Nat => s.heap.size ≤ q) s.heap H locs) (hl : lv_has ls 4 [(3, .int i), (2, .ref (gM 0)), (1, .ref (gX 0)), (0, .ref b)]) (hK : ∀ (v : Nat → Int32) (F : Nat → Nat → Int32) (rc : Nat) (v' : Nat → Int32) (F' : Nat → Nat → Int32) (H : Heap) (locs : List Loc) (ls : Array Slot), LI v F v' F' → va_P (dC, dI) classes (wX gX cX v F rc) H → va_P (dC, dI) classes (wM gM cM v' F' 0) H → va_S (fun q : Nat => s.heap.size ≤ q) s.heap H locs → lv_has ls 4 [(3, .int i), (2, .ref (gM 0)), (1, .ref (gX 0)), (0, .ref b)] → W p l e room_1 s m #[Value.ref b] below meth c H locs 126 19787 (lw_Z below #[Value.ref b] s) (F0 m 1485 ls [])) : W p l e room_1 s m #[Value.ref b] below meth c H locs 126 19787 (lw_Z below #[Value.ref b] s) (F0 m 1353 ls []) := by
  obtain ⟨hx, hb, hr, hml, hown, hts, hX, hbl, hlocks, hgv⟩ := id C0
  have hown : s.vm.findClass RL = some m.cls := hown
  have hwd : ∀ w ∈ wA, w.before #[Value.ref b] s = true := fun w h => hts w (wA_in w h)
  have hbA : ¬ (fun q : Nat => s.heap.size ≤ q) b := Nat.not_le.mpr hbl
  refine lv_aload_n hx hb dL_law_1353 rfl (lv_at hl 2 rfl) ?_
  refine lv_aload_n hx hb dL_law_1354 rfl (lv_at hl 3 rfl) ?_
  refine lv_iload_n hx hb dL_law_1355 rfl (lv_at hl 0 rfl) ?_
  refine lv_iconst (v := 1) hx hb dL_law_1356 (by decide) ?_
  refine lv_iadd hx hb dL_law_1357 ?_
  refine lv_topi (fun z1 ez1 => ?_)
  have tz1 := tadd ez1 rfl (b := 1) (by decide) (by omega)
  refine va_sld hx hb hX hbl hbA hS (i := z1) (vin rfl (by omega)) dL_law_1358 ?_
  refine lv_topi (fun a1 ea1 => ?_)
  refine va_calli (va_runV (As := [.int a1]) (rest := []) ⟨hx, hb, hml, hown, hwd⟩ (c_X11_insure l dC dI gX cX adK adV v F rc H.size a1 hLS.1 hLI.1) (cwV 1 hwd (gV wk_1386 wk_1383 wk_1384 wk_1385 wk_2) rfl rfl rfl (by decide +kernel) ⟨Nat.le_of_ble_eq_true rfl, Nat.le_of_ble_eq_true rfl⟩) ⟨PX.blind, va_recv hLS.2.2.2.2.2.1 hPX (ci := 11) (q0 := 0) rfl rfl, fun U hU hW => ⟨rfl, by rw [hU], by rw [hU]; exact hPX, va_K.moved hW.alike hLS.2.2.2.2.2.1, hLS.2.2.2.2.2.2.2.at hS (hLS.fX hS.1) hU hW⟩⟩ rfl rfl hl.1 rfl (lv_room (Nat.le_of_ble_eq_true rfl)) dL_law_1359 ⟨Nat.le_of_ble_eq_true rfl, Nat.le_of_ble_eq_true rfl⟩) hS (fun q _ h => (hLS.fX hS.1) q h) (hLS.fX hS.1) (fun r1 u t H1 locs ht hvm hw hB hz1 hk1 hS => ?_)
  unfold BX at hB
  rw [ht] at hB
  have hPM := hLS.kM hPM hk1
  obtain ⟨v1, F1, rc1⟩ := u
  obtain ⟨hI1, hal1, -, -, -⟩ := hw
  dsimp only at hI1 hal1 hB
  have q1 := alX_c hal1
  have hPX : va_P (dC, dI) classes (wX gX cX v1 F1 rc1) H1 := hB
  generalize H1 = H at hPX hPM hS ⊢
  refine lv_pop hx hb dL_law_1362 rfl ?_
  refine lv_aload_n hx hb dL_law_1363 rfl (lv_at hl 1 rfl) ?_
  refine lv_aload_n hx hb dL_law_1364 rfl (lv_at hl 3 rfl) ?_
  refine lv_iload_n hx hb dL_law_1365 rfl (lv_at hl 0 rfl) ?_
  refine lv_iconst (v := 1) hx hb dL_law_1366 (by decide) ?_
  refine lv_iadd hx hb dL_law_1367 ?_
  refine lv_topi (fun z2 ez2 => ?_)
  have tz2 := tadd ez2 rfl (b := 1) (by decide) (by omega)
  refine va_sld hx hb hX hbl hbA hS (i := z2) (vin rfl (by omega)) dL_law_1368 ?_
  refine my_top (v := a1) (by rw [ea1, ez2, ez1]) ?_
  refine va_calli (va_runV (As := [.int a1]) (rest := []) ⟨hx, hb, hml, hown, hwd⟩ (c_X12_insure l dC dI gM cM adK adV v' F' 0 H.size a1 hLS.2.1 hLI.2.1 hLI.2.2.2.1) (cwV 1 hwd (gV wk_1391 wk_1388 wk_1389 wk_1390 wk_5) rfl rfl rfl (by decide +kernel) ⟨Nat.le_of_ble_eq_true rfl, Nat.le_of_ble_eq_true rfl⟩) ⟨PM.blind, va_recv hLS.2.2.2.2.2.2.1 hPM (ci := 12) (q0 := 0) rfl rfl, fun U hU hW => ⟨rfl, by rw [hU], by rw [hU]; exact hPM, va_K.moved hW.alike hLS.2.2.2.2.2.2.1, trivial⟩⟩ rfl rfl hl.1 rfl (lv_room (Nat.le_of_ble_eq_true rfl)) dL_law_1369 ⟨Nat.le_of_ble_eq_true rfl, Nat.le_of_ble_eq_true rfl⟩) hS (fun q _ h => (hLS.fM hS.1) q h) (hLS.fM hS.1) (fun r2 u t H1 locs ht hvm hw hB hz1 hk1 hS => ?_)
  unfold BM at hB
  rw [ht] at hB
  have hPX := hLS.kX hPX hk1
  obtain ⟨v2, F2, rc2⟩ := u
  obtain ⟨hI2, hrc2, hf2, hG2, hw2⟩ := hw
  dsimp only at hI2 hrc2 hf2 hG2 hw2 hB
  rw [hrc2] at hB
  have hPM : va_P (dC, dI) classes (wM gM cM v2 F2 0) H1 := hB
  have g1 := congrArg Int32.toInt (hf2 1 (by decide))
  have g2 := congrArg Int32.toInt (hf2 2 (by decide))
  have g6 := congrArg Int32.toInt (hf2 6 (by decide))
  have g45 := congrArg Int32.toInt (hf2 45 (by decide))
  generalize H1 = H at hPX hPM hS ⊢
  have tie := hLI.2.2.2.2
  have hLI9 : LI v1 F1 v2 F2 := ⟨hI1, hI2, (JO.to hLI.2.2.1 (hf2 14 (by decide)) (hf2 19 (by decide)) (hG2 13 (by decide)) (hG2 15 (by decide)) (hG2 18 (by decide))), (JL.to hLI.2.2.2.1 (hf2 31 (by decide)) (hG2 28 (by decide)) (hG2 29 (by decide)) (hG2 27 (by decide))), by omega, by omega, by omega, by omega, (q1.2.1.trans (hLI.2.2.2.2.2.2.2.2.1.trans (hG2 44 (by decide)).symm)), (q1.2.2.trans (hLI.2.2.2.2.2.2.2.2.2.trans (hG2 45 (by decide)).symm))⟩
  refine lv_pop hx hb dL_law_1372 rfl ?_
  refine lv_goto (tgt := 1485) hx hb dL_law_1373 (by decide) ?_
  exact hK v1 F1 rc1 v2 F2 H _ ls hLI9 hPX hPM hS hl
set_option maxHeartbeats 4000000 in
set_option maxRecDepth 100000 in
theorem law_case_32 {p : Program} {l : Launch} {e : Env} {s : State} {m : MethodId} {below : List Frame} {meth : Method} {c : Code} {dC : Nat → ClassId} {dI : Nat → Nat → Nat} {b L : Nat} {xs : Nat → Int32} {gX gM adK adV : Nat → Nat} {cX cM : Nat → ClassId} (hL : L ≤ 3584) (C0 : lw_At p s m meth c b L xs) (hLS : LSta s dC dI gX cX gM cM adK adV) {i : Int32} (hi : 0 ≤ i.toInt ∧ i.toInt + 7 ≤ (L : Int)) {v : Nat → Int32} {F : Nat → Nat → Int32} {rc : Nat} {v' : Nat → Int32} {F' : Nat → Nat → Int32} {H : Heap} {locs : List Loc} {ls : Array Slot} (hLI : LI v F v' F') (hPX : va_P (dC, dI) classes (wX gX cX v F rc) H) (hPM : va_P (dC, dI) classes (wM gM cM v' F' 0) H) (hS : va_S (fun q : Nat => s.heap.size ≤ q) s.heap H locs) (hl : lv_has ls 4 [(3, .int i), (2, .ref (gM 0)), (1, .ref (gX 0)), (0, .ref b)]) (hK : ∀ (v : Nat → Int32) (F : Nat → Nat → Int32) (rc : Nat) (v' : Nat → Int32) (F' : Nat → Nat → Int32) (H : Heap) (locs : List Loc) (ls : Array Slot), LI v F v' F' → va_P (dC, dI) classes (wX gX cX v F rc) H → va_P (dC, dI) classes (wM gM cM v' F' 0) H → va_S (fun q : Nat => s.heap.size ≤ q) s.heap H locs → lv_has ls 4 [(3, .int i), (2, .ref (gM 0)), (1, .ref (gX 0)), (0, .ref b)] → W p l e room_1 s m #[Value.ref b] below meth c H locs 126 19787 (lw_Z below #[Value.ref b] s) (F0 m 1485 ls [])) : W p l e room_1 s m #[Value.ref b] below meth c H locs 126 19787 (lw_Z below #[Value.ref b] s) (F0 m 1376 ls []) := by
  obtain ⟨hx, hb, hr, hml, hown, hts, hX, hbl, hlocks, hgv⟩ := id C0
  have hown : s.vm.findClass RL = some m.cls := hown
  have hwd : ∀ w ∈ wA, w.before #[Value.ref b] s = true := fun w h => hts w (wA_in w h)
  have hbA : ¬ (fun q : Nat => s.heap.size ≤ q) b := Nat.not_le.mpr hbl
  refine lv_aload_n hx hb dL_law_1376 rfl (lv_at hl 2 rfl) ?_
  refine lv_aload_n hx hb dL_law_1377 rfl (lv_at hl 3 rfl) ?_
  refine lv_iload_n hx hb dL_law_1378 rfl (lv_at hl 0 rfl) ?_
  refine lv_iconst (v := 1) hx hb dL_law_1379 (by decide) ?_
  refine lv_iadd hx hb dL_law_1380 ?_
  refine lv_topi (fun z1 ez1 => ?_)
  have tz1 := tadd ez1 rfl (b := 1) (by decide) (by omega)
  refine va_sld hx hb hX hbl hbA hS (i := z1) (vin rfl (by omega)) dL_law_1381 ?_
  refine lv_topi (fun a1 ea1 => ?_)
  refine lv_aload_n hx hb dL_law_1382 rfl (lv_at hl 3 rfl) ?_
  refine lv_iload_n hx hb dL_law_1383 rfl (lv_at hl 0 rfl) ?_
  refine lv_iconst (v := 2) hx hb dL_law_1384 (by decide) ?_
  refine lv_iadd hx hb dL_law_1385 ?_
  refine lv_topi (fun z2 ez2 => ?_)
  have tz2 := tadd ez2 rfl (b := 2) (by decide) (by omega)
  refine va_sld hx hb hX hbl hbA hS (i := z2) (vin rfl (by omega)) dL_law_1386 ?_
  refine lv_topi (fun a2 ea2 => ?_)
  refine lv_aload_n hx hb dL_law_1387 rfl (lv_at hl 3 rfl) ?_
  refine lv_iload_n hx hb dL_law_1388 rfl (lv_at hl 0 rfl) ?_
  refine lv_iconst (v := 3) hx hb dL_law_1389 (by decide) ?_
  refine lv_iadd hx hb dL_law_1390 ?_
  refine lv_topi (fun z3 ez3 => ?_)
  have tz3 := tadd ez3 rfl (b := 3) (by decide) (by omega)
  refine va_sld hx hb hX hbl hbA hS (i := z3) (vin rfl (by omega)) dL_law_1391 ?_
  refine lv_topi (fun a3 ea3 => ?_)
  refine va_calli (va_runV (As := [.int a1, .int a2, .int a3]) (rest := []) ⟨hx, hb, hml, hown, hwd⟩ (c_X11_link_x l dC dI gX cX adK adV v F rc H.size a1 a2 a3 hLS.1 hLI.1) (cwV 3 hwd (gV wk_1395 wk_1392 wk_1393 wk_1394 wk_2) rfl rfl rfl (by decide +kernel) ⟨Nat.le_of_ble_eq_true rfl, Nat.le_of_ble_eq_true rfl⟩) ⟨PX.blind, va_recv hLS.2.2.2.2.2.1 hPX (ci := 11) (q0 := 0) rfl rfl, fun U hU hW => ⟨rfl, by rw [hU], by rw [hU]; exact hPX, va_K.moved hW.alike hLS.2.2.2.2.2.1, hLS.2.2.2.2.2.2.2.at hS (hLS.fX hS.1) hU hW⟩⟩ rfl rfl hl.1 rfl (lv_room (Nat.le_of_ble_eq_true rfl)) dL_law_1392 ⟨Nat.le_of_ble_eq_true rfl, Nat.le_of_ble_eq_true rfl⟩) hS (fun q _ h => (hLS.fX hS.1) q h) (hLS.fX hS.1) (fun r1 u t H1 locs ht hvm hw hB hz1 hk1 hS => ?_)
  unfold BX at hB
  rw [ht] at hB
  have hPM := hLS.kM hPM hk1
  obtain ⟨v1, F1, rc1⟩ := u
  obtain ⟨hI1, hal1, -, -, -⟩ := hw
  dsimp only at hI1 hal1 hB
  have hPX : va_P (dC, dI) classes (wX gX cX v1 F1 rc1) H1 := hB
  generalize H1 = H at hPX hPM hS ⊢
  refine lv_pop hx hb dL_law_1395 rfl ?_
  refine lv_aload_n hx hb dL_law_1396 rfl (lv_at hl 1 rfl) ?_
  refine lv_aload_n hx hb dL_law_1397 rfl (lv_at hl 3 rfl) ?_
  refine lv_iload_n hx hb dL_law_1398 rfl (lv_at hl 0 rfl) ?_
  refine lv_iconst (v := 1) hx hb dL_law_1399 (by decide) ?_
  refine lv_iadd hx hb dL_law_1400 ?_
  refine lv_topi (fun z4 ez4 => ?_)
  have tz4 := tadd ez4 rfl (b := 1) (by decide) (by omega)
  refine va_sld hx hb hX hbl hbA hS (i := z4) (vin rfl (by omega)) dL_law_1401 ?_
  refine my_top (v := a1) (by rw [ea1, ez4, ez1]) ?_
  refine lv_aload_n hx hb dL_law_1402 rfl (lv_at hl 3 rfl) ?_
  refine lv_iload_n hx hb dL_law_1403 rfl (lv_at hl 0 rfl) ?_
  refine lv_iconst (v := 2) hx hb dL_law_1404 (by decide) ?_
  refine lv_iadd hx hb dL_law_1405 ?_
  refine lv_topi (fun z5 ez5 => ?_)
  have tz5 := tadd ez5 rfl (b := 2) (by decide) (by omega)
  refine va_sld hx hb hX hbl hbA hS (i := z5) (vin rfl (by omega)) dL_law_1406 ?_
  refine my_top (v := a2) (by rw [ea2, ez5, ez2]) ?_
  refine lv_aload_n hx hb dL_law_1407 rfl (lv_at hl 3 rfl) ?_
  refine lv_iload_n hx hb dL_law_1408 rfl (lv_at hl 0 rfl) ?_
  refine lv_iconst (v := 3) hx hb dL_law_1409 (by decide) ?_
  refine lv_iadd hx hb dL_law_1410 ?_
  refine lv_topi (fun z6 ez6 => ?_)
  have tz6 := tadd ez6 rfl (b := 3) (by decide) (by omega)
  refine va_sld hx hb hX hbl hbA hS (i := z6) (vin rfl (by omega)) dL_law_1411 ?_
  refine my_top (v := a3) (by rw [ea3, ez6, ez3]) ?_
  refine va_calli (va_runV (As := [.int a1, .int a2, .int a3]) (rest := []) ⟨hx, hb, hml, hown, hwd⟩ (c_X12_link l dC dI gM cM adK adV v' F' 0 H.size a1 a2 a3 hLS.2.1 hLI.2.1) (cwV 3 hwd (gV wk_1403 wk_1400 wk_1401 wk_1402 wk_5) rfl rfl rfl (by decide +kernel) ⟨Nat.le_of_ble_eq_true rfl, Nat.le_of_ble_eq_true rfl⟩) ⟨PM.blind, va_recv hLS.2.2.2.2.2.2.1 hPM (ci := 12) (q0 := 0) rfl rfl, fun U hU hW => ⟨rfl, by rw [hU], by rw [hU]; exact hPM, va_K.moved hW.alike hLS.2.2.2.2.2.2.1, trivial⟩⟩ rfl rfl hl.1 rfl (lv_room (Nat.le_of_ble_eq_true rfl)) dL_law_1412 ⟨Nat.le_of_ble_eq_true rfl, Nat.le_of_ble_eq_true rfl⟩) hS (fun q _ h => (hLS.fM hS.1) q h) (hLS.fM hS.1) (fun r2 u t H1 locs ht hvm hw hB hz1 hk1 hS => ?_)
  unfold BM at hB
  rw [ht] at hB
  have hPX := hLS.kX hPX hk1
  obtain ⟨v2, F2, rc2⟩ := u
  obtain ⟨hI2, hrc2, hf2, hG2, hw2⟩ := hw
  dsimp only at hI2 hrc2 hf2 hG2 hw2 hB
  rw [hrc2] at hB
  have hPM : va_P (dC, dI) classes (wM gM cM v2 F2 0) H1 := hB
  have g1 := congrArg Int32.toInt (hf2 1 (by decide))
  have g2 := congrArg Int32.toInt (hf2 2 (by decide))
  have g6 := congrArg Int32.toInt (hf2 6 (by decide))
  have g45 := congrArg Int32.toInt (hf2 45 (by decide))
  generalize H1 = H at hPX hPM hS ⊢
  have tie := hLI.2.2.2.2
  have q1 := sum_L tie.2.1 hLI.2.2.2.2.2.2.2.2.1 hLI.2.2.2.2.2.2.2.2.2 (by have := hLI.1.2 20 _ _ rfl a1.toNatClampNeg; omega) hal1 hw2
  have hLI9 : LI v1 F1 v2 F2 := ⟨hI1, hI2, (JO.to hLI.2.2.1 (hf2 14 (by decide)) (hf2 19 (by decide)) (hG2 13 (by decide)) (hG2 15 (by decide)) (hG2 18 (by decide))), (JL.to hLI.2.2.2.1 (hf2 31 (by decide)) (hG2 28 (by decide)) (hG2 29 (by decide)) (hG2 27 (by decide))), by omega, by omega, by omega, by omega, q1.2.1, q1.2.2⟩
  refine lv_pop hx hb dL_law_1415 rfl ?_
  refine lv_goto (tgt := 1485) hx hb dL_law_1416 (by decide) ?_
  exact hK v1 F1 rc1 v2 F2 H _ ls hLI9 hPX hPM hS hl
set_option maxHeartbeats 4000000 in
set_option maxRecDepth 100000 in
theorem law_case_33 {p : Program} {l : Launch} {e : Env} {s : State} {m : MethodId} {below : List Frame} {meth : Method} {c : Code} {dC : Nat → ClassId} {dI : Nat → Nat → Nat} {b L : Nat} {xs : Nat → Int32} {gX gM adK adV : Nat → Nat} {cX cM : Nat → ClassId} (hL : L ≤ 3584) (C0 : lw_At p s m meth c b L xs) (hLS : LSta s dC dI gX cX gM cM adK adV) {i : Int32} (hi : 0 ≤ i.toInt ∧ i.toInt + 7 ≤ (L : Int)) {v : Nat → Int32} {F : Nat → Nat → Int32} {rc : Nat} {v' : Nat → Int32} {F' : Nat → Nat → Int32} {H : Heap} {locs : List Loc} {ls : Array Slot} (hLI : LI v F v' F') (hPX : va_P (dC, dI) classes (wX gX cX v F rc) H) (hPM : va_P (dC, dI) classes (wM gM cM v' F' 0) H) (hS : va_S (fun q : Nat => s.heap.size ≤ q) s.heap H locs) (hl : lv_has ls 4 [(3, .int i), (2, .ref (gM 0)), (1, .ref (gX 0)), (0, .ref b)]) (hK : ∀ (v : Nat → Int32) (F : Nat → Nat → Int32) (rc : Nat) (v' : Nat → Int32) (F' : Nat → Nat → Int32) (H : Heap) (locs : List Loc) (ls : Array Slot), LI v F v' F' → va_P (dC, dI) classes (wX gX cX v F rc) H → va_P (dC, dI) classes (wM gM cM v' F' 0) H → va_S (fun q : Nat => s.heap.size ≤ q) s.heap H locs → lv_has ls 4 [(3, .int i), (2, .ref (gM 0)), (1, .ref (gX 0)), (0, .ref b)] → W p l e room_1 s m #[Value.ref b] below meth c H locs 126 19787 (lw_Z below #[Value.ref b] s) (F0 m 1485 ls [])) : W p l e room_1 s m #[Value.ref b] below meth c H locs 126 19787 (lw_Z below #[Value.ref b] s) (F0 m 1419 ls []) := by
  obtain ⟨hx, hb, hr, hml, hown, hts, hX, hbl, hlocks, hgv⟩ := id C0
  have hown : s.vm.findClass RL = some m.cls := hown
  have hwd : ∀ w ∈ wA, w.before #[Value.ref b] s = true := fun w h => hts w (wA_in w h)
  have hbA : ¬ (fun q : Nat => s.heap.size ≤ q) b := Nat.not_le.mpr hbl
  refine lv_aload_n hx hb dL_law_1419 rfl (lv_at hl 2 rfl) ?_
  refine lv_aload_n hx hb dL_law_1420 rfl (lv_at hl 3 rfl) ?_
  refine lv_iload_n hx hb dL_law_1421 rfl (lv_at hl 0 rfl) ?_
  refine lv_iconst (v := 1) hx hb dL_law_1422 (by decide) ?_
  refine lv_iadd hx hb dL_law_1423 ?_
  refine lv_topi (fun z1 ez1 => ?_)
  have tz1 := tadd ez1 rfl (b := 1) (by decide) (by omega)
  refine va_sld hx hb hX hbl hbA hS (i := z1) (vin rfl (by omega)) dL_law_1424 ?_
  refine lv_topi (fun a1 ea1 => ?_)
  refine lv_aload_n hx hb dL_law_1425 rfl (lv_at hl 3 rfl) ?_
  refine lv_iload_n hx hb dL_law_1426 rfl (lv_at hl 0 rfl) ?_
  refine lv_iconst (v := 2) hx hb dL_law_1427 (by decide) ?_
  refine lv_iadd hx hb dL_law_1428 ?_
  refine lv_topi (fun z2 ez2 => ?_)
  have tz2 := tadd ez2 rfl (b := 2) (by decide) (by omega)
  refine va_sld hx hb hX hbl hbA hS (i := z2) (vin rfl (by omega)) dL_law_1429 ?_
  refine lv_topi (fun a2 ea2 => ?_)
  refine lv_aload_n hx hb dL_law_1430 rfl (lv_at hl 3 rfl) ?_
  refine lv_iload_n hx hb dL_law_1431 rfl (lv_at hl 0 rfl) ?_
  refine lv_iconst (v := 3) hx hb dL_law_1432 (by decide) ?_
  refine lv_iadd hx hb dL_law_1433 ?_
  refine lv_topi (fun z3 ez3 => ?_)
  have tz3 := tadd ez3 rfl (b := 3) (by decide) (by omega)
  refine va_sld hx hb hX hbl hbA hS (i := z3) (vin rfl (by omega)) dL_law_1434 ?_
  refine lv_topi (fun a3 ea3 => ?_)
  refine va_calli (va_runV (As := [.int a1, .int a2, .int a3]) (rest := []) ⟨hx, hb, hml, hown, hwd⟩ (c_X11_net_x l dC dI gX cX adK adV v F rc H.size a1 a2 a3 hLS.1 hLI.1) (cwV 3 hwd (gV wk_1407 wk_1404 wk_1405 wk_1406 wk_2) rfl rfl rfl (by decide +kernel) ⟨Nat.le_of_ble_eq_true rfl, Nat.le_of_ble_eq_true rfl⟩) ⟨PX.blind, va_recv hLS.2.2.2.2.2.1 hPX (ci := 11) (q0 := 0) rfl rfl, fun U hU hW => ⟨rfl, by rw [hU], by rw [hU]; exact hPX, va_K.moved hW.alike hLS.2.2.2.2.2.1, hLS.2.2.2.2.2.2.2.at hS (hLS.fX hS.1) hU hW⟩⟩ rfl rfl hl.1 rfl (lv_room (Nat.le_of_ble_eq_true rfl)) dL_law_1435 ⟨Nat.le_of_ble_eq_true rfl, Nat.le_of_ble_eq_true rfl⟩) hS (fun q _ h => (hLS.fX hS.1) q h) (hLS.fX hS.1) (fun r1 u t H1 locs ht hvm hw hB hz1 hk1 hS => ?_)
  unfold BX at hB
  rw [ht] at hB
  have hPM := hLS.kM hPM hk1
  have hPX : va_P (dC, dI) classes (wX gX cX v F rc) H1 := hB
  have hI1 := hLI.1
  have hw1 := hw
  generalize H1 = H at hPX hPM hS ⊢
  refine lv_aload_n hx hb dL_law_1438 rfl (lv_at hl 1 rfl) ?_
  refine lv_aload_n hx hb dL_law_1439 rfl (lv_at hl 3 rfl) ?_
  refine lv_iload_n hx hb dL_law_1440 rfl (lv_at hl 0 rfl) ?_
  refine lv_iconst (v := 1) hx hb dL_law_1441 (by decide) ?_
  refine lv_iadd hx hb dL_law_1442 ?_
  refine lv_topi (fun z4 ez4 => ?_)
  have tz4 := tadd ez4 rfl (b := 1) (by decide) (by omega)
  refine va_sld hx hb hX hbl hbA hS (i := z4) (vin rfl (by omega)) dL_law_1443 ?_
  refine my_top (v := a1) (by rw [ea1, ez4, ez1]) ?_
  refine lv_aload_n hx hb dL_law_1444 rfl (lv_at hl 3 rfl) ?_
  refine lv_iload_n hx hb dL_law_1445 rfl (lv_at hl 0 rfl) ?_
  refine lv_iconst (v := 2) hx hb dL_law_1446 (by decide) ?_
  refine lv_iadd hx hb dL_law_1447 ?_
  refine lv_topi (fun z5 ez5 => ?_)
  have tz5 := tadd ez5 rfl (b := 2) (by decide) (by omega)
  refine va_sld hx hb hX hbl hbA hS (i := z5) (vin rfl (by omega)) dL_law_1448 ?_
  refine my_top (v := a2) (by rw [ea2, ez5, ez2]) ?_
  refine lv_aload_n hx hb dL_law_1449 rfl (lv_at hl 3 rfl) ?_
  refine lv_iload_n hx hb dL_law_1450 rfl (lv_at hl 0 rfl) ?_
  refine lv_iconst (v := 3) hx hb dL_law_1451 (by decide) ?_
  refine lv_iadd hx hb dL_law_1452 ?_
  refine lv_topi (fun z6 ez6 => ?_)
  have tz6 := tadd ez6 rfl (b := 3) (by decide) (by omega)
  refine va_sld hx hb hX hbl hbA hS (i := z6) (vin rfl (by omega)) dL_law_1453 ?_
  refine my_top (v := a3) (by rw [ea3, ez6, ez3]) ?_
  refine va_calli (va_runV (As := [.int a1, .int a2, .int a3]) (rest := [.int r1]) ⟨hx, hb, hml, hown, hwd⟩ (c_X12_net l dC dI gM cM adK adV v' F' 0 H.size a1 a2 a3 hLS.2.1 hLI.2.1) (cwV 3 hwd (gV wk_1416 wk_1413 wk_1414 wk_1415 wk_5) rfl rfl rfl (by decide +kernel) ⟨Nat.le_of_ble_eq_true rfl, Nat.le_of_ble_eq_true rfl⟩) ⟨PM.blind, va_recv hLS.2.2.2.2.2.2.1 hPM (ci := 12) (q0 := 0) rfl rfl, fun U hU hW => ⟨rfl, by rw [hU], by rw [hU]; exact hPM, va_K.moved hW.alike hLS.2.2.2.2.2.2.1, trivial⟩⟩ rfl rfl hl.1 rfl (lv_room (Nat.le_of_ble_eq_true rfl)) dL_law_1454 ⟨Nat.le_of_ble_eq_true rfl, Nat.le_of_ble_eq_true rfl⟩) hS (fun q _ h => (hLS.fM hS.1) q h) (hLS.fM hS.1) (fun r2 u t H1 locs ht hvm hw hB hz1 hk1 hS => ?_)
  unfold BM at hB
  rw [ht] at hB
  have hPX := hLS.kX hPX hk1
  have hPM : va_P (dC, dI) classes (wM gM cM v' F' 0) H1 := hB
  have hI2 := hLI.2.1
  have hw2 := hw
  generalize H1 = H at hPX hPM hS ⊢
  have tie := hLI.2.2.2.2
  have hLI9 : LI v F v' F' := ⟨hI1, hI2, hLI.2.2.1, hLI.2.2.2.1, by omega, by omega, by omega, by omega, (rfl.trans (hLI.2.2.2.2.2.2.2.2.1.trans rfl)), (rfl.trans (hLI.2.2.2.2.2.2.2.2.2.trans rfl))⟩
  have e9 : r1 = r2 := by rw [hw1, hw2, hLI.2.2.2.2.2.2.2.2.1, hLI.2.2.2.2.2.2.2.2.2, Int32.toInt_inj.mp hLI.2.2.2.2.2.1]
  refine lv_icmp_eq (tgt := 1485) hx hb dL_law_1457 (by decide) (fun _ => ?_) (fun c9 => absurd e9 c9)
  exact hK v F rc v' F' H _ ls hLI9 hPX hPM hS hl
set_option maxHeartbeats 4000000 in
set_option maxRecDepth 100000 in
theorem law_case_34 {p : Program} {l : Launch} {e : Env} {s : State} {m : MethodId} {below : List Frame} {meth : Method} {c : Code} {dC : Nat → ClassId} {dI : Nat → Nat → Nat} {b L : Nat} {xs : Nat → Int32} {gX gM adK adV : Nat → Nat} {cX cM : Nat → ClassId} (hL : L ≤ 3584) (C0 : lw_At p s m meth c b L xs) (hLS : LSta s dC dI gX cX gM cM adK adV) {i : Int32} (hi : 0 ≤ i.toInt ∧ i.toInt + 7 ≤ (L : Int)) {v : Nat → Int32} {F : Nat → Nat → Int32} {rc : Nat} {v' : Nat → Int32} {F' : Nat → Nat → Int32} {H : Heap} {locs : List Loc} {ls : Array Slot} (hLI : LI v F v' F') (hPX : va_P (dC, dI) classes (wX gX cX v F rc) H) (hPM : va_P (dC, dI) classes (wM gM cM v' F' 0) H) (hS : va_S (fun q : Nat => s.heap.size ≤ q) s.heap H locs) (hl : lv_has ls 4 [(3, .int i), (2, .ref (gM 0)), (1, .ref (gX 0)), (0, .ref b)]) (hK : ∀ (v : Nat → Int32) (F : Nat → Nat → Int32) (rc : Nat) (v' : Nat → Int32) (F' : Nat → Nat → Int32) (H : Heap) (locs : List Loc) (ls : Array Slot), LI v F v' F' → va_P (dC, dI) classes (wX gX cX v F rc) H → va_P (dC, dI) classes (wM gM cM v' F' 0) H → va_S (fun q : Nat => s.heap.size ≤ q) s.heap H locs → lv_has ls 4 [(3, .int i), (2, .ref (gM 0)), (1, .ref (gX 0)), (0, .ref b)] → W p l e room_1 s m #[Value.ref b] below meth c H locs 126 19787 (lw_Z below #[Value.ref b] s) (F0 m 1485 ls [])) : W p l e room_1 s m #[Value.ref b] below meth c H locs 126 19787 (lw_Z below #[Value.ref b] s) (F0 m 1462 ls []) := by
  obtain ⟨hx, hb, hr, hml, hown, hts, hX, hbl, hlocks, hgv⟩ := id C0
  have hown : s.vm.findClass RL = some m.cls := hown
  have hwd : ∀ w ∈ wA, w.before #[Value.ref b] s = true := fun w h => hts w (wA_in w h)
  have hbA : ¬ (fun q : Nat => s.heap.size ≤ q) b := Nat.not_le.mpr hbl
  refine lv_aload_n hx hb dL_law_1462 rfl (lv_at hl 2 rfl) ?_
  refine lv_aload_n hx hb dL_law_1463 rfl (lv_at hl 3 rfl) ?_
  refine lv_iload_n hx hb dL_law_1464 rfl (lv_at hl 0 rfl) ?_
  refine lv_iconst (v := 1) hx hb dL_law_1465 (by decide) ?_
  refine lv_iadd hx hb dL_law_1466 ?_
  refine lv_topi (fun z1 ez1 => ?_)
  have tz1 := tadd ez1 rfl (b := 1) (by decide) (by omega)
  refine va_sld hx hb hX hbl hbA hS (i := z1) (vin rfl (by omega)) dL_law_1467 ?_
  refine lv_topi (fun a1 ea1 => ?_)
  refine va_calli (va_runV (As := [.int a1]) (rest := []) ⟨hx, hb, hml, hown, hwd⟩ (c_X11_count l dC dI gX cX adK adV v F rc H.size a1 hLS.1 hLI.1) (cwV 1 hwd (gV wk_1420 wk_1417 wk_1418 wk_1419 wk_2) rfl rfl rfl (by decide +kernel) ⟨Nat.le_of_ble_eq_true rfl, Nat.le_of_ble_eq_true rfl⟩) ⟨PX.blind, va_recv hLS.2.2.2.2.2.1 hPX (ci := 11) (q0 := 0) rfl rfl, fun U hU hW => ⟨rfl, by rw [hU], by rw [hU]; exact hPX, va_K.moved hW.alike hLS.2.2.2.2.2.1, hLS.2.2.2.2.2.2.2.at hS (hLS.fX hS.1) hU hW⟩⟩ rfl rfl hl.1 rfl (lv_room (Nat.le_of_ble_eq_true rfl)) dL_law_1468 ⟨Nat.le_of_ble_eq_true rfl, Nat.le_of_ble_eq_true rfl⟩) hS (fun q _ h => (hLS.fX hS.1) q h) (hLS.fX hS.1) (fun r1 u t H1 locs ht hvm hw hB hz1 hk1 hS => ?_)
  unfold BX at hB
  rw [ht] at hB
  have hPM := hLS.kM hPM hk1
  have hPX : va_P (dC, dI) classes (wX gX cX v F rc) H1 := hB
  have hI1 := hLI.1
  generalize H1 = H at hPX hPM hS ⊢
  refine lv_pop hx hb dL_law_1471 rfl ?_
  refine lv_aload_n hx hb dL_law_1472 rfl (lv_at hl 1 rfl) ?_
  refine lv_aload_n hx hb dL_law_1473 rfl (lv_at hl 3 rfl) ?_
  refine lv_iload_n hx hb dL_law_1474 rfl (lv_at hl 0 rfl) ?_
  refine lv_iconst (v := 1) hx hb dL_law_1475 (by decide) ?_
  refine lv_iadd hx hb dL_law_1476 ?_
  refine lv_topi (fun z2 ez2 => ?_)
  have tz2 := tadd ez2 rfl (b := 1) (by decide) (by omega)
  refine va_sld hx hb hX hbl hbA hS (i := z2) (vin rfl (by omega)) dL_law_1477 ?_
  refine my_top (v := a1) (by rw [ea1, ez2, ez1]) ?_
  refine va_calli (va_runV (As := [.int a1]) (rest := []) ⟨hx, hb, hml, hown, hwd⟩ (c_X12_count l dC dI gM cM adK adV v' F' 0 H.size a1 hLS.2.1 hLI.2.1) (cwV 1 hwd (gV wk_1432 wk_1429 wk_1430 wk_1431 wk_5) rfl rfl rfl (by decide +kernel) ⟨Nat.le_of_ble_eq_true rfl, Nat.le_of_ble_eq_true rfl⟩) ⟨PM.blind, va_recv hLS.2.2.2.2.2.2.1 hPM (ci := 12) (q0 := 0) rfl rfl, fun U hU hW => ⟨rfl, by rw [hU], by rw [hU]; exact hPM, va_K.moved hW.alike hLS.2.2.2.2.2.2.1, trivial⟩⟩ rfl rfl hl.1 rfl (lv_room (Nat.le_of_ble_eq_true rfl)) dL_law_1478 ⟨Nat.le_of_ble_eq_true rfl, Nat.le_of_ble_eq_true rfl⟩) hS (fun q _ h => (hLS.fM hS.1) q h) (hLS.fM hS.1) (fun r2 u t H1 locs ht hvm hw hB hz1 hk1 hS => ?_)
  unfold BM at hB
  rw [ht] at hB
  have hPX := hLS.kX hPX hk1
  have hPM : va_P (dC, dI) classes (wM gM cM v' F' 0) H1 := hB
  have hI2 := hLI.2.1
  generalize H1 = H at hPX hPM hS ⊢
  have tie := hLI.2.2.2.2
  have hLI9 : LI v F v' F' := ⟨hI1, hI2, hLI.2.2.1, hLI.2.2.2.1, by omega, by omega, by omega, by omega, (rfl.trans (hLI.2.2.2.2.2.2.2.2.1.trans rfl)), (rfl.trans (hLI.2.2.2.2.2.2.2.2.2.trans rfl))⟩
  refine lv_pop hx hb dL_law_1481 rfl ?_
  refine lv_goto (tgt := 1485) hx hb dL_law_1482 (by decide) ?_
  exact hK v F rc v' F' H _ ls hLI9 hPX hPM hS hl
