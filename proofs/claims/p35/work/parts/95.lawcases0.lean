set_option maxHeartbeats 4000000 in
set_option maxRecDepth 100000 in
theorem law_case_0 {p : Program} {l : Launch} {e : Env} {s : State} {m : MethodId} {below : List Frame} {meth : Method} {c : Code} {dC : Nat → ClassId} {dI : Nat → Nat → Nat} {b L : Nat} {xs : Nat → Int32} {gX gM adK adV : Nat → Nat} {cX cM : Nat → ClassId} (hL : L ≤ 3584) (C0 : lw_At p s m meth c b L xs) (hLS : LSta s dC dI gX cX gM cM adK adV) {i : Int32} (hi : 0 ≤ i.toInt ∧ i.toInt + 7 ≤ (L : Int)) {v : Nat → Int32} {F : Nat → Nat → Int32} {rc : Nat} {v' : Nat → Int32} {F' : Nat → Nat → Int32} {H : Heap} {locs : List Loc} {ls : Array Slot} (hLI : LI v F v' F') (hPX : va_P (dC, dI) classes (wX gX cX v F rc) H) (hPM : va_P (dC, dI) classes (wM gM cM v' F' 0) H) (hS : va_S (fun q : Nat => s.heap.size ≤ q) s.heap H locs) (hl : lv_has ls 4 [(3, .int i), (2, .ref (gM 0)), (1, .ref (gX 0)), (0, .ref b)]) (hK : ∀ (v : Nat → Int32) (F : Nat → Nat → Int32) (rc : Nat) (v' : Nat → Int32) (F' : Nat → Nat → Int32) (H : Heap) (locs : List Loc) (ls : Array Slot), LI v F v' F' → va_P (dC, dI) classes (wX gX cX v F rc) H → va_P (dC, dI) classes (wM gM cM v' F' 0) H → va_S (fun q : Nat => s.heap.size ≤ q) s.heap H locs → lv_has ls 4 [(3, .int i), (2, .ref (gM 0)), (1, .ref (gX 0)), (0, .ref b)] → W p l e room_1 s m #[Value.ref b] below meth c H locs 126 19787 (lw_Z below #[Value.ref b] s) (F0 m 1485 ls [])) : W p l e room_1 s m #[Value.ref b] below meth c H locs 126 19787 (lw_Z below #[Value.ref b] s) (F0 m 188 ls []) := by
  obtain ⟨hx, hb, hr, hml, hown, hts, hX, hbl, hlocks, hgv⟩ := id C0
  have hown : s.vm.findClass RL = some m.cls := hown
  have hwd : ∀ w ∈ wA, w.before #[Value.ref b] s = true := fun w h => hts w (wA_in w h)
  have hbA : ¬ (fun q : Nat => s.heap.size ≤ q) b := Nat.not_le.mpr hbl
  refine lv_aload_n hx hb dL_law_188 rfl (lv_at hl 2 rfl) ?_
  refine lv_aload_n hx hb dL_law_189 rfl (lv_at hl 3 rfl) ?_
  refine lv_iload_n hx hb dL_law_190 rfl (lv_at hl 0 rfl) ?_
  refine lv_iconst (v := 1) hx hb dL_law_191 (by decide) ?_
  refine lv_iadd hx hb dL_law_192 ?_
  refine lv_topi (fun z1 ez1 => ?_)
  have tz1 := tadd ez1 rfl (b := 1) (by decide) (by omega)
  refine va_sld hx hb hX hbl hbA hS (i := z1) (vin rfl (by omega)) dL_law_193 ?_
  refine lv_topi (fun a1 ea1 => ?_)
  refine lv_aload_n hx hb dL_law_194 rfl (lv_at hl 3 rfl) ?_
  refine lv_iload_n hx hb dL_law_195 rfl (lv_at hl 0 rfl) ?_
  refine lv_iconst (v := 2) hx hb dL_law_196 (by decide) ?_
  refine lv_iadd hx hb dL_law_197 ?_
  refine lv_topi (fun z2 ez2 => ?_)
  have tz2 := tadd ez2 rfl (b := 2) (by decide) (by omega)
  refine va_sld hx hb hX hbl hbA hS (i := z2) (vin rfl (by omega)) dL_law_198 ?_
  refine lv_topi (fun a2 ea2 => ?_)
  refine lv_aload_n hx hb dL_law_199 rfl (lv_at hl 3 rfl) ?_
  refine lv_iload_n hx hb dL_law_200 rfl (lv_at hl 0 rfl) ?_
  refine lv_iconst (v := 3) hx hb dL_law_201 (by decide) ?_
  refine lv_iadd hx hb dL_law_202 ?_
  refine lv_topi (fun z3 ez3 => ?_)
  have tz3 := tadd ez3 rfl (b := 3) (by decide) (by omega)
  refine va_sld hx hb hX hbl hbA hS (i := z3) (vin rfl (by omega)) dL_law_203 ?_
  refine lv_topi (fun a3 ea3 => ?_)
  refine lv_aload_n hx hb dL_law_204 rfl (lv_at hl 3 rfl) ?_
  refine lv_iload_n hx hb dL_law_205 rfl (lv_at hl 0 rfl) ?_
  refine lv_iconst (v := 4) hx hb dL_law_206 (by decide) ?_
  refine lv_iadd hx hb dL_law_207 ?_
  refine lv_topi (fun z4 ez4 => ?_)
  have tz4 := tadd ez4 rfl (b := 4) (by decide) (by omega)
  refine va_sld hx hb hX hbl hbA hS (i := z4) (vin rfl (by omega)) dL_law_208 ?_
  refine lv_topi (fun a4 ea4 => ?_)
  refine va_calli (va_runV (As := [.int a1, .int a2, .int a3, .int a4]) (rest := []) ⟨hx, hb, hml, hown, hwd⟩ (c_X11_kind l dC dI gX cX adK adV v F rc H.size a1 a2 a3 a4 hLS.1 hLI.1) (cwV 4 hwd (gV wk_231 wk_228 wk_229 wk_230 wk_2) rfl rfl rfl (by decide +kernel) ⟨Nat.le_of_ble_eq_true rfl, Nat.le_of_ble_eq_true rfl⟩) ⟨PX.blind, va_recv hLS.2.2.2.2.2.1 hPX (ci := 11) (q0 := 0) rfl rfl, fun U hU hW => ⟨rfl, by rw [hU], by rw [hU]; exact hPX, va_K.moved hW.alike hLS.2.2.2.2.2.1, hLS.2.2.2.2.2.2.2.at hS (hLS.fX hS.1) hU hW⟩⟩ rfl rfl hl.1 rfl (lv_room (Nat.le_of_ble_eq_true rfl)) dL_law_209 ⟨Nat.le_of_ble_eq_true rfl, Nat.le_of_ble_eq_true rfl⟩) hS (fun q _ h => (hLS.fX hS.1) q h) (hLS.fX hS.1) (fun r1 u t H1 locs ht hvm hw hB hz1 hk1 hS => ?_)
  unfold BX at hB
  rw [ht] at hB
  have hPM := hLS.kM hPM hk1
  obtain ⟨v1, F1, rc1⟩ := u
  obtain ⟨hI1, hal1, -, -, -⟩ := hw
  dsimp only at hI1 hal1 hB
  have q1 := sum_0 (by have := hLI.1.1 20 _ _ rfl; omega) hal1
  have hPX : va_P (dC, dI) classes (wX gX cX v1 F1 rc1) H1 := hB
  generalize H1 = H at hPX hPM hS ⊢
  refine lv_pop hx hb dL_law_212 rfl ?_
  refine lv_aload_n hx hb dL_law_213 rfl (lv_at hl 1 rfl) ?_
  refine lv_aload_n hx hb dL_law_214 rfl (lv_at hl 3 rfl) ?_
  refine lv_iload_n hx hb dL_law_215 rfl (lv_at hl 0 rfl) ?_
  refine lv_iconst (v := 1) hx hb dL_law_216 (by decide) ?_
  refine lv_iadd hx hb dL_law_217 ?_
  refine lv_topi (fun z5 ez5 => ?_)
  have tz5 := tadd ez5 rfl (b := 1) (by decide) (by omega)
  refine va_sld hx hb hX hbl hbA hS (i := z5) (vin rfl (by omega)) dL_law_218 ?_
  refine my_top (v := a1) (by rw [ea1, ez5, ez1]) ?_
  refine lv_aload_n hx hb dL_law_219 rfl (lv_at hl 3 rfl) ?_
  refine lv_iload_n hx hb dL_law_220 rfl (lv_at hl 0 rfl) ?_
  refine lv_iconst (v := 2) hx hb dL_law_221 (by decide) ?_
  refine lv_iadd hx hb dL_law_222 ?_
  refine lv_topi (fun z6 ez6 => ?_)
  have tz6 := tadd ez6 rfl (b := 2) (by decide) (by omega)
  refine va_sld hx hb hX hbl hbA hS (i := z6) (vin rfl (by omega)) dL_law_223 ?_
  refine my_top (v := a2) (by rw [ea2, ez6, ez2]) ?_
  refine lv_aload_n hx hb dL_law_224 rfl (lv_at hl 3 rfl) ?_
  refine lv_iload_n hx hb dL_law_225 rfl (lv_at hl 0 rfl) ?_
  refine lv_iconst (v := 3) hx hb dL_law_226 (by decide) ?_
  refine lv_iadd hx hb dL_law_227 ?_
  refine lv_topi (fun z7 ez7 => ?_)
  have tz7 := tadd ez7 rfl (b := 3) (by decide) (by omega)
  refine va_sld hx hb hX hbl hbA hS (i := z7) (vin rfl (by omega)) dL_law_228 ?_
  refine my_top (v := a3) (by rw [ea3, ez7, ez3]) ?_
  refine lv_aload_n hx hb dL_law_229 rfl (lv_at hl 3 rfl) ?_
  refine lv_iload_n hx hb dL_law_230 rfl (lv_at hl 0 rfl) ?_
  refine lv_iconst (v := 4) hx hb dL_law_231 (by decide) ?_
  refine lv_iadd hx hb dL_law_232 ?_
  refine lv_topi (fun z8 ez8 => ?_)
  have tz8 := tadd ez8 rfl (b := 4) (by decide) (by omega)
  refine va_sld hx hb hX hbl hbA hS (i := z8) (vin rfl (by omega)) dL_law_233 ?_
  refine my_top (v := a4) (by rw [ea4, ez8, ez4]) ?_
  refine va_calli (va_runV (As := [.int a1, .int a2, .int a3, .int a4]) (rest := []) ⟨hx, hb, hml, hown, hwd⟩ (c_X12_kind l dC dI gM cM adK adV v' F' 0 H.size a1 a2 a3 a4 hLS.2.1 hLI.2.1) (cwV 4 hwd (gV wk_248 wk_245 wk_246 wk_247 wk_5) rfl rfl rfl (by decide +kernel) ⟨Nat.le_of_ble_eq_true rfl, Nat.le_of_ble_eq_true rfl⟩) ⟨PM.blind, va_recv hLS.2.2.2.2.2.2.1 hPM (ci := 12) (q0 := 0) rfl rfl, fun U hU hW => ⟨rfl, by rw [hU], by rw [hU]; exact hPM, va_K.moved hW.alike hLS.2.2.2.2.2.2.1, trivial⟩⟩ rfl rfl hl.1 rfl (lv_room (Nat.le_of_ble_eq_true rfl)) dL_law_234 ⟨Nat.le_of_ble_eq_true rfl, Nat.le_of_ble_eq_true rfl⟩) hS (fun q _ h => (hLS.fM hS.1) q h) (hLS.fM hS.1) (fun r2 u t H1 locs ht hvm hw hB hz1 hk1 hS => ?_)
  unfold BM at hB
  rw [ht] at hB
  have hPX := hLS.kX hPX hk1
  obtain ⟨v2, F2, rc2⟩ := u
  obtain ⟨hI2, hrc2, hf2, hG2, hw2⟩ := hw
  dsimp only at hI2 hrc2 hf2 hG2 hw2 hB
  rw [hrc2] at hB
  have hPM : va_P (dC, dI) classes (wM gM cM v2 F2 0) H1 := hB
  have g1 := congrArg Int32.toInt (hf2 1 (by decide))
  have g6 := congrArg Int32.toInt (hf2 6 (by decide))
  have g45 := congrArg Int32.toInt (hf2 45 (by decide))
  generalize H1 = H at hPX hPM hS ⊢
  have tie := hLI.2.2.2.2
  have hb2 := hLI.2.1.1 2 _ _ rfl
  have hLI9 : LI v1 F1 v2 F2 := ⟨hI1, hI2, (JO.to hLI.2.2.1 (hf2 14 (by decide)) (hf2 19 (by decide)) (hG2 13 (by decide)) (hG2 15 (by decide)) (hG2 18 (by decide))), (JL.to hLI.2.2.2.1 (hf2 31 (by decide)) (hG2 28 (by decide)) (hG2 29 (by decide)) (hG2 27 (by decide))), by omega, by omega, by omega, by omega, (q1.2.2.1.trans (hLI.2.2.2.2.2.2.2.2.1.trans (hG2 44 (by decide)).symm)), (q1.2.2.2.trans (hLI.2.2.2.2.2.2.2.2.2.trans (hG2 45 (by decide)).symm))⟩
  refine lv_pop hx hb dL_law_237 rfl ?_
  refine lv_goto (tgt := 1485) hx hb dL_law_238 (by decide) ?_
  exact hK v1 F1 rc1 v2 F2 H _ ls hLI9 hPX hPM hS hl
set_option maxHeartbeats 4000000 in
set_option maxRecDepth 100000 in
theorem law_case_1 {p : Program} {l : Launch} {e : Env} {s : State} {m : MethodId} {below : List Frame} {meth : Method} {c : Code} {dC : Nat → ClassId} {dI : Nat → Nat → Nat} {b L : Nat} {xs : Nat → Int32} {gX gM adK adV : Nat → Nat} {cX cM : Nat → ClassId} (hL : L ≤ 3584) (C0 : lw_At p s m meth c b L xs) (hLS : LSta s dC dI gX cX gM cM adK adV) {i : Int32} (hi : 0 ≤ i.toInt ∧ i.toInt + 7 ≤ (L : Int)) {v : Nat → Int32} {F : Nat → Nat → Int32} {rc : Nat} {v' : Nat → Int32} {F' : Nat → Nat → Int32} {H : Heap} {locs : List Loc} {ls : Array Slot} (hLI : LI v F v' F') (hPX : va_P (dC, dI) classes (wX gX cX v F rc) H) (hPM : va_P (dC, dI) classes (wM gM cM v' F' 0) H) (hS : va_S (fun q : Nat => s.heap.size ≤ q) s.heap H locs) (hl : lv_has ls 4 [(3, .int i), (2, .ref (gM 0)), (1, .ref (gX 0)), (0, .ref b)]) (hK : ∀ (v : Nat → Int32) (F : Nat → Nat → Int32) (rc : Nat) (v' : Nat → Int32) (F' : Nat → Nat → Int32) (H : Heap) (locs : List Loc) (ls : Array Slot), LI v F v' F' → va_P (dC, dI) classes (wX gX cX v F rc) H → va_P (dC, dI) classes (wM gM cM v' F' 0) H → va_S (fun q : Nat => s.heap.size ≤ q) s.heap H locs → lv_has ls 4 [(3, .int i), (2, .ref (gM 0)), (1, .ref (gX 0)), (0, .ref b)] → W p l e room_1 s m #[Value.ref b] below meth c H locs 126 19787 (lw_Z below #[Value.ref b] s) (F0 m 1485 ls [])) : W p l e room_1 s m #[Value.ref b] below meth c H locs 126 19787 (lw_Z below #[Value.ref b] s) (F0 m 241 ls []) := by
  obtain ⟨hx, hb, hr, hml, hown, hts, hX, hbl, hlocks, hgv⟩ := id C0
  have hown : s.vm.findClass RL = some m.cls := hown
  have hwd : ∀ w ∈ wA, w.before #[Value.ref b] s = true := fun w h => hts w (wA_in w h)
  have hbA : ¬ (fun q : Nat => s.heap.size ≤ q) b := Nat.not_le.mpr hbl
  refine lv_aload_n hx hb dL_law_241 rfl (lv_at hl 2 rfl) ?_
  refine lv_aload_n hx hb dL_law_242 rfl (lv_at hl 3 rfl) ?_
  refine lv_iload_n hx hb dL_law_243 rfl (lv_at hl 0 rfl) ?_
  refine lv_iconst (v := 1) hx hb dL_law_244 (by decide) ?_
  refine lv_iadd hx hb dL_law_245 ?_
  refine lv_topi (fun z1 ez1 => ?_)
  have tz1 := tadd ez1 rfl (b := 1) (by decide) (by omega)
  refine va_sld hx hb hX hbl hbA hS (i := z1) (vin rfl (by omega)) dL_law_246 ?_
  refine lv_topi (fun a1 ea1 => ?_)
  refine va_calli (va_runV (As := [.int a1]) (rest := []) ⟨hx, hb, hml, hown, hwd⟩ (c_X11_plane l dC dI gX cX adK adV v F rc H.size a1 hLS.1 hLI.1) (cwV 1 hwd (gV wk_258 wk_255 wk_256 wk_257 wk_2) rfl rfl rfl (by decide +kernel) ⟨Nat.le_of_ble_eq_true rfl, Nat.le_of_ble_eq_true rfl⟩) ⟨PX.blind, va_recv hLS.2.2.2.2.2.1 hPX (ci := 11) (q0 := 0) rfl rfl, fun U hU hW => ⟨rfl, by rw [hU], by rw [hU]; exact hPX, va_K.moved hW.alike hLS.2.2.2.2.2.1, hLS.2.2.2.2.2.2.2.at hS (hLS.fX hS.1) hU hW⟩⟩ rfl rfl hl.1 rfl (lv_room (Nat.le_of_ble_eq_true rfl)) dL_law_247 ⟨Nat.le_of_ble_eq_true rfl, Nat.le_of_ble_eq_true rfl⟩) hS (fun q _ h => (hLS.fX hS.1) q h) (hLS.fX hS.1) (fun r1 u t H1 locs ht hvm hw hB hz1 hk1 hS => ?_)
  unfold BX at hB
  rw [ht] at hB
  have hPM := hLS.kM hPM hk1
  obtain ⟨v1, F1, rc1⟩ := u
  obtain ⟨hI1, hal1, -, -, -⟩ := hw
  dsimp only at hI1 hal1 hB
  have q1 := sum_1 (by have := hLI.1.1 40 _ _ rfl; omega) hal1
  have hPX : va_P (dC, dI) classes (wX gX cX v1 F1 rc1) H1 := hB
  generalize H1 = H at hPX hPM hS ⊢
  refine lv_pop hx hb dL_law_250 rfl ?_
  refine lv_aload_n hx hb dL_law_251 rfl (lv_at hl 1 rfl) ?_
  refine lv_aload_n hx hb dL_law_252 rfl (lv_at hl 3 rfl) ?_
  refine lv_iload_n hx hb dL_law_253 rfl (lv_at hl 0 rfl) ?_
  refine lv_iconst (v := 1) hx hb dL_law_254 (by decide) ?_
  refine lv_iadd hx hb dL_law_255 ?_
  refine lv_topi (fun z2 ez2 => ?_)
  have tz2 := tadd ez2 rfl (b := 1) (by decide) (by omega)
  refine va_sld hx hb hX hbl hbA hS (i := z2) (vin rfl (by omega)) dL_law_256 ?_
  refine my_top (v := a1) (by rw [ea1, ez2, ez1]) ?_
  refine va_calli (va_runV (As := [.int a1]) (rest := []) ⟨hx, hb, hml, hown, hwd⟩ (c_X12_plane l dC dI gM cM adK adV v' F' 0 H.size a1 hLS.2.1 hLI.2.1) (cwV 1 hwd (gV wk_267 wk_264 wk_265 wk_266 wk_5) rfl rfl rfl (by decide +kernel) ⟨Nat.le_of_ble_eq_true rfl, Nat.le_of_ble_eq_true rfl⟩) ⟨PM.blind, va_recv hLS.2.2.2.2.2.2.1 hPM (ci := 12) (q0 := 0) rfl rfl, fun U hU hW => ⟨rfl, by rw [hU], by rw [hU]; exact hPM, va_K.moved hW.alike hLS.2.2.2.2.2.2.1, trivial⟩⟩ rfl rfl hl.1 rfl (lv_room (Nat.le_of_ble_eq_true rfl)) dL_law_257 ⟨Nat.le_of_ble_eq_true rfl, Nat.le_of_ble_eq_true rfl⟩) hS (fun q _ h => (hLS.fM hS.1) q h) (hLS.fM hS.1) (fun r2 u t H1 locs ht hvm hw hB hz1 hk1 hS => ?_)
  unfold BM at hB
  rw [ht] at hB
  have hPX := hLS.kX hPX hk1
  obtain ⟨v2, F2, rc2⟩ := u
  obtain ⟨hI2, hrc2, hf2, hG2, hw2⟩ := hw
  dsimp only at hI2 hrc2 hf2 hG2 hw2 hB
  rw [hrc2] at hB
  have hPM : va_P (dC, dI) classes (wM gM cM v2 F2 0) H1 := hB
  have g1 := congrArg Int32.toInt (hf2 1 (by decide))
  have g2 := congrArg Int32.toInt (hf2 2 (by decide))
  have g45 := congrArg Int32.toInt (hf2 45 (by decide))
  generalize H1 = H at hPX hPM hS ⊢
  have tie := hLI.2.2.2.2
  have hb2 := hLI.2.1.1 6 _ _ rfl
  have hLI9 : LI v1 F1 v2 F2 := ⟨hI1, hI2, (JO.to hLI.2.2.1 (hf2 14 (by decide)) (hf2 19 (by decide)) (hG2 13 (by decide)) (hG2 15 (by decide)) (hG2 18 (by decide))), (JL.to hLI.2.2.2.1 (hf2 31 (by decide)) (hG2 28 (by decide)) (hG2 29 (by decide)) (hG2 27 (by decide))), by omega, by omega, by omega, by omega, (q1.2.2.1.trans (hLI.2.2.2.2.2.2.2.2.1.trans (hG2 44 (by decide)).symm)), (q1.2.2.2.trans (hLI.2.2.2.2.2.2.2.2.2.trans (hG2 45 (by decide)).symm))⟩
  refine lv_pop hx hb dL_law_260 rfl ?_
  refine lv_goto (tgt := 1485) hx hb dL_law_261 (by decide) ?_
  exact hK v1 F1 rc1 v2 F2 H _ ls hLI9 hPX hPM hS hl
set_option maxHeartbeats 4000000 in
set_option maxRecDepth 100000 in
theorem law_case_2 {p : Program} {l : Launch} {e : Env} {s : State} {m : MethodId} {below : List Frame} {meth : Method} {c : Code} {dC : Nat → ClassId} {dI : Nat → Nat → Nat} {b L : Nat} {xs : Nat → Int32} {gX gM adK adV : Nat → Nat} {cX cM : Nat → ClassId} (hL : L ≤ 3584) (C0 : lw_At p s m meth c b L xs) (hLS : LSta s dC dI gX cX gM cM adK adV) {i : Int32} (hi : 0 ≤ i.toInt ∧ i.toInt + 7 ≤ (L : Int)) {v : Nat → Int32} {F : Nat → Nat → Int32} {rc : Nat} {v' : Nat → Int32} {F' : Nat → Nat → Int32} {H : Heap} {locs : List Loc} {ls : Array Slot} (hLI : LI v F v' F') (hPX : va_P (dC, dI) classes (wX gX cX v F rc) H) (hPM : va_P (dC, dI) classes (wM gM cM v' F' 0) H) (hS : va_S (fun q : Nat => s.heap.size ≤ q) s.heap H locs) (hl : lv_has ls 4 [(3, .int i), (2, .ref (gM 0)), (1, .ref (gX 0)), (0, .ref b)]) (hK : ∀ (v : Nat → Int32) (F : Nat → Nat → Int32) (rc : Nat) (v' : Nat → Int32) (F' : Nat → Nat → Int32) (H : Heap) (locs : List Loc) (ls : Array Slot), LI v F v' F' → va_P (dC, dI) classes (wX gX cX v F rc) H → va_P (dC, dI) classes (wM gM cM v' F' 0) H → va_S (fun q : Nat => s.heap.size ≤ q) s.heap H locs → lv_has ls 4 [(3, .int i), (2, .ref (gM 0)), (1, .ref (gX 0)), (0, .ref b)] → W p l e room_1 s m #[Value.ref b] below meth c H locs 126 19787 (lw_Z below #[Value.ref b] s) (F0 m 1485 ls [])) : W p l e room_1 s m #[Value.ref b] below meth c H locs 126 19787 (lw_Z below #[Value.ref b] s) (F0 m 264 ls []) := by
  obtain ⟨hx, hb, hr, hml, hown, hts, hX, hbl, hlocks, hgv⟩ := id C0
  have hown : s.vm.findClass RL = some m.cls := hown
  have hwd : ∀ w ∈ wA, w.before #[Value.ref b] s = true := fun w h => hts w (wA_in w h)
  have hbA : ¬ (fun q : Nat => s.heap.size ≤ q) b := Nat.not_le.mpr hbl
  refine lv_aload_n hx hb dL_law_264 rfl (lv_at hl 2 rfl) ?_
  refine lv_aload_n hx hb dL_law_265 rfl (lv_at hl 3 rfl) ?_
  refine lv_iload_n hx hb dL_law_266 rfl (lv_at hl 0 rfl) ?_
  refine lv_iconst (v := 1) hx hb dL_law_267 (by decide) ?_
  refine lv_iadd hx hb dL_law_268 ?_
  refine lv_topi (fun z1 ez1 => ?_)
  have tz1 := tadd ez1 rfl (b := 1) (by decide) (by omega)
  refine va_sld hx hb hX hbl hbA hS (i := z1) (vin rfl (by omega)) dL_law_269 ?_
  refine lv_topi (fun a1 ea1 => ?_)
  refine lv_aload_n hx hb dL_law_270 rfl (lv_at hl 3 rfl) ?_
  refine lv_iload_n hx hb dL_law_271 rfl (lv_at hl 0 rfl) ?_
  refine lv_iconst (v := 2) hx hb dL_law_272 (by decide) ?_
  refine lv_iadd hx hb dL_law_273 ?_
  refine lv_topi (fun z2 ez2 => ?_)
  have tz2 := tadd ez2 rfl (b := 2) (by decide) (by omega)
  refine va_sld hx hb hX hbl hbA hS (i := z2) (vin rfl (by omega)) dL_law_274 ?_
  refine lv_topi (fun a2 ea2 => ?_)
  refine lv_aload_n hx hb dL_law_275 rfl (lv_at hl 3 rfl) ?_
  refine lv_iload_n hx hb dL_law_276 rfl (lv_at hl 0 rfl) ?_
  refine lv_iconst (v := 3) hx hb dL_law_277 (by decide) ?_
  refine lv_iadd hx hb dL_law_278 ?_
  refine lv_topi (fun z3 ez3 => ?_)
  have tz3 := tadd ez3 rfl (b := 3) (by decide) (by omega)
  refine va_sld hx hb hX hbl hbA hS (i := z3) (vin rfl (by omega)) dL_law_279 ?_
  refine lv_topi (fun a3 ea3 => ?_)
  refine va_calli (va_runV (As := [.int a1, .int a2, .int a3]) (rest := []) ⟨hx, hb, hml, hown, hwd⟩ (c_X11_need l dC dI gX cX adK adV v F rc H.size a1 a2 a3 hLS.1 hLI.1) (cwV 3 hwd (gV wk_272 wk_269 wk_270 wk_271 wk_2) rfl rfl rfl (by decide +kernel) ⟨Nat.le_of_ble_eq_true rfl, Nat.le_of_ble_eq_true rfl⟩) ⟨PX.blind, va_recv hLS.2.2.2.2.2.1 hPX (ci := 11) (q0 := 0) rfl rfl, fun U hU hW => ⟨rfl, by rw [hU], by rw [hU]; exact hPX, va_K.moved hW.alike hLS.2.2.2.2.2.1, hLS.2.2.2.2.2.2.2.at hS (hLS.fX hS.1) hU hW⟩⟩ rfl rfl hl.1 rfl (lv_room (Nat.le_of_ble_eq_true rfl)) dL_law_280 ⟨Nat.le_of_ble_eq_true rfl, Nat.le_of_ble_eq_true rfl⟩) hS (fun q _ h => (hLS.fX hS.1) q h) (hLS.fX hS.1) (fun r1 u t H1 locs ht hvm hw hB hz1 hk1 hS => ?_)
  unfold BX at hB
  rw [ht] at hB
  have hPM := hLS.kM hPM hk1
  obtain ⟨v1, F1, rc1⟩ := u
  obtain ⟨hI1, hal1, -, -, -⟩ := hw
  dsimp only at hI1 hal1 hB
  have q1 := alX_c hal1
  have hPX : va_P (dC, dI) classes (wX gX cX v1 F1 rc1) H1 := hB
  generalize H1 = H at hPX hPM hS ⊢
  refine lv_pop hx hb dL_law_283 rfl ?_
  refine lv_aload_n hx hb dL_law_284 rfl (lv_at hl 1 rfl) ?_
  refine lv_aload_n hx hb dL_law_285 rfl (lv_at hl 3 rfl) ?_
  refine lv_iload_n hx hb dL_law_286 rfl (lv_at hl 0 rfl) ?_
  refine lv_iconst (v := 1) hx hb dL_law_287 (by decide) ?_
  refine lv_iadd hx hb dL_law_288 ?_
  refine lv_topi (fun z4 ez4 => ?_)
  have tz4 := tadd ez4 rfl (b := 1) (by decide) (by omega)
  refine va_sld hx hb hX hbl hbA hS (i := z4) (vin rfl (by omega)) dL_law_289 ?_
  refine my_top (v := a1) (by rw [ea1, ez4, ez1]) ?_
  refine lv_aload_n hx hb dL_law_290 rfl (lv_at hl 3 rfl) ?_
  refine lv_iload_n hx hb dL_law_291 rfl (lv_at hl 0 rfl) ?_
  refine lv_iconst (v := 2) hx hb dL_law_292 (by decide) ?_
  refine lv_iadd hx hb dL_law_293 ?_
  refine lv_topi (fun z5 ez5 => ?_)
  have tz5 := tadd ez5 rfl (b := 2) (by decide) (by omega)
  refine va_sld hx hb hX hbl hbA hS (i := z5) (vin rfl (by omega)) dL_law_294 ?_
  refine my_top (v := a2) (by rw [ea2, ez5, ez2]) ?_
  refine lv_aload_n hx hb dL_law_295 rfl (lv_at hl 3 rfl) ?_
  refine lv_iload_n hx hb dL_law_296 rfl (lv_at hl 0 rfl) ?_
  refine lv_iconst (v := 3) hx hb dL_law_297 (by decide) ?_
  refine lv_iadd hx hb dL_law_298 ?_
  refine lv_topi (fun z6 ez6 => ?_)
  have tz6 := tadd ez6 rfl (b := 3) (by decide) (by omega)
  refine va_sld hx hb hX hbl hbA hS (i := z6) (vin rfl (by omega)) dL_law_299 ?_
  refine my_top (v := a3) (by rw [ea3, ez6, ez3]) ?_
  refine va_calli (va_runV (As := [.int a1, .int a2, .int a3]) (rest := []) ⟨hx, hb, hml, hown, hwd⟩ (c_X12_need l dC dI gM cM adK adV v' F' 0 H.size a1 a2 a3 hLS.2.1 hLI.2.1) (cwV 3 hwd (gV wk_301 wk_298 wk_299 wk_300 wk_5) rfl rfl rfl (by decide +kernel) ⟨Nat.le_of_ble_eq_true rfl, Nat.le_of_ble_eq_true rfl⟩) ⟨PM.blind, va_recv hLS.2.2.2.2.2.2.1 hPM (ci := 12) (q0 := 0) rfl rfl, fun U hU hW => ⟨rfl, by rw [hU], by rw [hU]; exact hPM, va_K.moved hW.alike hLS.2.2.2.2.2.2.1, trivial⟩⟩ rfl rfl hl.1 rfl (lv_room (Nat.le_of_ble_eq_true rfl)) dL_law_300 ⟨Nat.le_of_ble_eq_true rfl, Nat.le_of_ble_eq_true rfl⟩) hS (fun q _ h => (hLS.fM hS.1) q h) (hLS.fM hS.1) (fun r2 u t H1 locs ht hvm hw hB hz1 hk1 hS => ?_)
  unfold BM at hB
  rw [ht] at hB
  have hPX := hLS.kX hPX hk1
  obtain ⟨v2, F2, rc2⟩ := u
  obtain ⟨hI2, hrc2, hf2, hG2, hw2⟩ := hw
  dsimp only at hI2 hrc2 hf2 hG2 hw2 hB
  rw [hrc2] at hB
  have hPM : va_P (dC, dI) classes (wM gM cM v2 F2 0) H1 := hB
  have g1 := congrArg Int32.toInt (hf2 1 (by decide))
  have g2 := congrArg Int32.toInt (hf2 2 (by decide))
  have g6 := congrArg Int32.toInt (hf2 6 (by decide))
  have g45 := congrArg Int32.toInt (hf2 45 (by decide))
  generalize H1 = H at hPX hPM hS ⊢
  have tie := hLI.2.2.2.2
  have hLI9 : LI v1 F1 v2 F2 := ⟨hI1, hI2, (JO.to hLI.2.2.1 (hf2 14 (by decide)) (hf2 19 (by decide)) (hG2 13 (by decide)) (hG2 15 (by decide)) (hG2 18 (by decide))), (JL.to hLI.2.2.2.1 (hf2 31 (by decide)) (hG2 28 (by decide)) (hG2 29 (by decide)) (hG2 27 (by decide))), by omega, by omega, by omega, by omega, (q1.2.1.trans (hLI.2.2.2.2.2.2.2.2.1.trans (hG2 44 (by decide)).symm)), (q1.2.2.trans (hLI.2.2.2.2.2.2.2.2.2.trans (hG2 45 (by decide)).symm))⟩
  refine lv_pop hx hb dL_law_303 rfl ?_
  refine lv_goto (tgt := 1485) hx hb dL_law_304 (by decide) ?_
  exact hK v1 F1 rc1 v2 F2 H _ ls hLI9 hPX hPM hS hl
set_option maxHeartbeats 4000000 in
set_option maxRecDepth 100000 in
theorem law_case_3 {p : Program} {l : Launch} {e : Env} {s : State} {m : MethodId} {below : List Frame} {meth : Method} {c : Code} {dC : Nat → ClassId} {dI : Nat → Nat → Nat} {b L : Nat} {xs : Nat → Int32} {gX gM adK adV : Nat → Nat} {cX cM : Nat → ClassId} (hL : L ≤ 3584) (C0 : lw_At p s m meth c b L xs) (hLS : LSta s dC dI gX cX gM cM adK adV) {i : Int32} (hi : 0 ≤ i.toInt ∧ i.toInt + 7 ≤ (L : Int)) {v : Nat → Int32} {F : Nat → Nat → Int32} {rc : Nat} {v' : Nat → Int32} {F' : Nat → Nat → Int32} {H : Heap} {locs : List Loc} {ls : Array Slot} (hLI : LI v F v' F') (hPX : va_P (dC, dI) classes (wX gX cX v F rc) H) (hPM : va_P (dC, dI) classes (wM gM cM v' F' 0) H) (hS : va_S (fun q : Nat => s.heap.size ≤ q) s.heap H locs) (hl : lv_has ls 4 [(3, .int i), (2, .ref (gM 0)), (1, .ref (gX 0)), (0, .ref b)]) (hK : ∀ (v : Nat → Int32) (F : Nat → Nat → Int32) (rc : Nat) (v' : Nat → Int32) (F' : Nat → Nat → Int32) (H : Heap) (locs : List Loc) (ls : Array Slot), LI v F v' F' → va_P (dC, dI) classes (wX gX cX v F rc) H → va_P (dC, dI) classes (wM gM cM v' F' 0) H → va_S (fun q : Nat => s.heap.size ≤ q) s.heap H locs → lv_has ls 4 [(3, .int i), (2, .ref (gM 0)), (1, .ref (gX 0)), (0, .ref b)] → W p l e room_1 s m #[Value.ref b] below meth c H locs 126 19787 (lw_Z below #[Value.ref b] s) (F0 m 1485 ls [])) : W p l e room_1 s m #[Value.ref b] below meth c H locs 126 19787 (lw_Z below #[Value.ref b] s) (F0 m 307 ls []) := by
  obtain ⟨hx, hb, hr, hml, hown, hts, hX, hbl, hlocks, hgv⟩ := id C0
  have hown : s.vm.findClass RL = some m.cls := hown
  have hwd : ∀ w ∈ wA, w.before #[Value.ref b] s = true := fun w h => hts w (wA_in w h)
  have hbA : ¬ (fun q : Nat => s.heap.size ≤ q) b := Nat.not_le.mpr hbl
  refine lv_aload_n hx hb dL_law_307 rfl (lv_at hl 2 rfl) ?_
  refine lv_aload_n hx hb dL_law_308 rfl (lv_at hl 3 rfl) ?_
  refine lv_iload_n hx hb dL_law_309 rfl (lv_at hl 0 rfl) ?_
  refine lv_iconst (v := 1) hx hb dL_law_310 (by decide) ?_
  refine lv_iadd hx hb dL_law_311 ?_
  refine lv_topi (fun z1 ez1 => ?_)
  have tz1 := tadd ez1 rfl (b := 1) (by decide) (by omega)
  refine va_sld hx hb hX hbl hbA hS (i := z1) (vin rfl (by omega)) dL_law_312 ?_
  refine lv_topi (fun a1 ea1 => ?_)
  refine va_calli (va_runV (As := [.int a1]) (rest := []) ⟨hx, hb, hml, hown, hwd⟩ (c_X11_days l dC dI gX cX adK adV v F rc H.size a1 hLS.1 hLI.1) (cwV 1 hwd (gV wk_322 wk_319 wk_320 wk_321 wk_2) rfl rfl rfl (by decide +kernel) ⟨Nat.le_of_ble_eq_true rfl, Nat.le_of_ble_eq_true rfl⟩) ⟨PX.blind, va_recv hLS.2.2.2.2.2.1 hPX (ci := 11) (q0 := 0) rfl rfl, fun U hU hW => ⟨rfl, by rw [hU], by rw [hU]; exact hPX, va_K.moved hW.alike hLS.2.2.2.2.2.1, hLS.2.2.2.2.2.2.2.at hS (hLS.fX hS.1) hU hW⟩⟩ rfl rfl hl.1 rfl (lv_room (Nat.le_of_ble_eq_true rfl)) dL_law_313 ⟨Nat.le_of_ble_eq_true rfl, Nat.le_of_ble_eq_true rfl⟩) hS (fun q _ h => (hLS.fX hS.1) q h) (hLS.fX hS.1) (fun r1 u t H1 locs ht hvm hw hB hz1 hk1 hS => ?_)
  unfold BX at hB
  rw [ht] at hB
  have hPM := hLS.kM hPM hk1
  obtain ⟨v1, F1, rc1⟩ := u
  obtain ⟨hI1, hal1, -, -, -⟩ := hw
  dsimp only at hI1 hal1 hB
  have q1 := sum_2 (by have := hLI.1.1 11 _ _ rfl; omega) hal1
  have hPX : va_P (dC, dI) classes (wX gX cX v1 F1 rc1) H1 := hB
  generalize H1 = H at hPX hPM hS ⊢
  refine lv_pop hx hb dL_law_316 rfl ?_
  refine lv_aload_n hx hb dL_law_317 rfl (lv_at hl 1 rfl) ?_
  refine lv_aload_n hx hb dL_law_318 rfl (lv_at hl 3 rfl) ?_
  refine lv_iload_n hx hb dL_law_319 rfl (lv_at hl 0 rfl) ?_
  refine lv_iconst (v := 1) hx hb dL_law_320 (by decide) ?_
  refine lv_iadd hx hb dL_law_321 ?_
  refine lv_topi (fun z2 ez2 => ?_)
  have tz2 := tadd ez2 rfl (b := 1) (by decide) (by omega)
  refine va_sld hx hb hX hbl hbA hS (i := z2) (vin rfl (by omega)) dL_law_322 ?_
  refine my_top (v := a1) (by rw [ea1, ez2, ez1]) ?_
  refine va_calli (va_runV (As := [.int a1]) (rest := []) ⟨hx, hb, hml, hown, hwd⟩ (c_X12_days l dC dI gM cM adK adV v' F' 0 H.size a1 hLS.2.1 hLI.2.1) (cwV 1 hwd (gV wk_331 wk_328 wk_329 wk_330 wk_5) rfl rfl rfl (by decide +kernel) ⟨Nat.le_of_ble_eq_true rfl, Nat.le_of_ble_eq_true rfl⟩) ⟨PM.blind, va_recv hLS.2.2.2.2.2.2.1 hPM (ci := 12) (q0 := 0) rfl rfl, fun U hU hW => ⟨rfl, by rw [hU], by rw [hU]; exact hPM, va_K.moved hW.alike hLS.2.2.2.2.2.2.1, trivial⟩⟩ rfl rfl hl.1 rfl (lv_room (Nat.le_of_ble_eq_true rfl)) dL_law_323 ⟨Nat.le_of_ble_eq_true rfl, Nat.le_of_ble_eq_true rfl⟩) hS (fun q _ h => (hLS.fM hS.1) q h) (hLS.fM hS.1) (fun r2 u t H1 locs ht hvm hw hB hz1 hk1 hS => ?_)
  unfold BM at hB
  rw [ht] at hB
  have hPX := hLS.kX hPX hk1
  obtain ⟨v2, F2, rc2⟩ := u
  obtain ⟨hI2, hrc2, hf2, hG2, hw2⟩ := hw
  dsimp only at hI2 hrc2 hf2 hG2 hw2 hB
  rw [hrc2] at hB
  have hPM : va_P (dC, dI) classes (wM gM cM v2 F2 0) H1 := hB
  have g2 := congrArg Int32.toInt (hf2 2 (by decide))
  have g6 := congrArg Int32.toInt (hf2 6 (by decide))
  have g45 := congrArg Int32.toInt (hf2 45 (by decide))
  generalize H1 = H at hPX hPM hS ⊢
  have tie := hLI.2.2.2.2
  have hb2 := hLI.2.1.1 1 _ _ rfl
  have hLI9 : LI v1 F1 v2 F2 := ⟨hI1, hI2, (JO.to hLI.2.2.1 (hf2 14 (by decide)) (hf2 19 (by decide)) (hG2 13 (by decide)) (hG2 15 (by decide)) (hG2 18 (by decide))), (JL.to hLI.2.2.2.1 (hf2 31 (by decide)) (hG2 28 (by decide)) (hG2 29 (by decide)) (hG2 27 (by decide))), by omega, by omega, by omega, by omega, (q1.2.2.1.trans (hLI.2.2.2.2.2.2.2.2.1.trans (hG2 44 (by decide)).symm)), (q1.2.2.2.trans (hLI.2.2.2.2.2.2.2.2.2.trans (hG2 45 (by decide)).symm))⟩
  refine lv_pop hx hb dL_law_326 rfl ?_
  refine lv_goto (tgt := 1485) hx hb dL_law_327 (by decide) ?_
  exact hK v1 F1 rc1 v2 F2 H _ ls hLI9 hPX hPM hS hl
set_option maxHeartbeats 4000000 in
set_option maxRecDepth 100000 in
theorem law_case_4 {p : Program} {l : Launch} {e : Env} {s : State} {m : MethodId} {below : List Frame} {meth : Method} {c : Code} {dC : Nat → ClassId} {dI : Nat → Nat → Nat} {b L : Nat} {xs : Nat → Int32} {gX gM adK adV : Nat → Nat} {cX cM : Nat → ClassId} (hL : L ≤ 3584) (C0 : lw_At p s m meth c b L xs) (hLS : LSta s dC dI gX cX gM cM adK adV) {i : Int32} (hi : 0 ≤ i.toInt ∧ i.toInt + 7 ≤ (L : Int)) {v : Nat → Int32} {F : Nat → Nat → Int32} {rc : Nat} {v' : Nat → Int32} {F' : Nat → Nat → Int32} {H : Heap} {locs : List Loc} {ls : Array Slot} (hLI : LI v F v' F') (hPX : va_P (dC, dI) classes (wX gX cX v F rc) H) (hPM : va_P (dC, dI) classes (wM gM cM v' F' 0) H) (hS : va_S (fun q : Nat => s.heap.size ≤ q) s.heap H locs) (hl : lv_has ls 4 [(3, .int i), (2, .ref (gM 0)), (1, .ref (gX 0)), (0, .ref b)]) (hK : ∀ (v : Nat → Int32) (F : Nat → Nat → Int32) (rc : Nat) (v' : Nat → Int32) (F' : Nat → Nat → Int32) (H : Heap) (locs : List Loc) (ls : Array Slot), LI v F v' F' → va_P (dC, dI) classes (wX gX cX v F rc) H → va_P (dC, dI) classes (wM gM cM v' F' 0) H → va_S (fun q : Nat => s.heap.size ≤ q) s.heap H locs → lv_has ls 4 [(3, .int i), (2, .ref (gM 0)), (1, .ref (gX 0)), (0, .ref b)] → W p l e room_1 s m #[Value.ref b] below meth c H locs 126 19787 (lw_Z below #[Value.ref b] s) (F0 m 1485 ls [])) : W p l e room_1 s m #[Value.ref b] below meth c H locs 126 19787 (lw_Z below #[Value.ref b] s) (F0 m 330 ls []) := by
  obtain ⟨hx, hb, hr, hml, hown, hts, hX, hbl, hlocks, hgv⟩ := id C0
  have hown : s.vm.findClass RL = some m.cls := hown
  have hwd : ∀ w ∈ wA, w.before #[Value.ref b] s = true := fun w h => hts w (wA_in w h)
  have hbA : ¬ (fun q : Nat => s.heap.size ≤ q) b := Nat.not_le.mpr hbl
  refine lv_aload_n hx hb dL_law_330 rfl (lv_at hl 2 rfl) ?_
  refine lv_aload_n hx hb dL_law_331 rfl (lv_at hl 3 rfl) ?_
  refine lv_iload_n hx hb dL_law_332 rfl (lv_at hl 0 rfl) ?_
  refine lv_iconst (v := 1) hx hb dL_law_333 (by decide) ?_
  refine lv_iadd hx hb dL_law_334 ?_
  refine lv_topi (fun z1 ez1 => ?_)
  have tz1 := tadd ez1 rfl (b := 1) (by decide) (by omega)
  refine va_sld hx hb hX hbl hbA hS (i := z1) (vin rfl (by omega)) dL_law_335 ?_
  refine lv_topi (fun a1 ea1 => ?_)
  refine lv_aload_n hx hb dL_law_336 rfl (lv_at hl 3 rfl) ?_
  refine lv_iload_n hx hb dL_law_337 rfl (lv_at hl 0 rfl) ?_
  refine lv_iconst (v := 2) hx hb dL_law_338 (by decide) ?_
  refine lv_iadd hx hb dL_law_339 ?_
  refine lv_topi (fun z2 ez2 => ?_)
  have tz2 := tadd ez2 rfl (b := 2) (by decide) (by omega)
  refine va_sld hx hb hX hbl hbA hS (i := z2) (vin rfl (by omega)) dL_law_340 ?_
  refine lv_topi (fun a2 ea2 => ?_)
  refine lv_aload_n hx hb dL_law_341 rfl (lv_at hl 3 rfl) ?_
  refine lv_iload_n hx hb dL_law_342 rfl (lv_at hl 0 rfl) ?_
  refine lv_iconst (v := 3) hx hb dL_law_343 (by decide) ?_
  refine lv_iadd hx hb dL_law_344 ?_
  refine lv_topi (fun z3 ez3 => ?_)
  have tz3 := tadd ez3 rfl (b := 3) (by decide) (by omega)
  refine va_sld hx hb hX hbl hbA hS (i := z3) (vin rfl (by omega)) dL_law_345 ?_
  refine lv_topi (fun a3 ea3 => ?_)
  refine va_calli (va_runV (As := [.int a1, .int a2, .int a3]) (rest := []) ⟨hx, hb, hml, hown, hwd⟩ (c_X11_fly l dC dI gX cX adK adV v F rc H.size a1 a2 a3 hLS.1 hLI.1) (cwV 3 hwd (gV wk_336 wk_333 wk_334 wk_335 wk_2) rfl rfl rfl (by decide +kernel) ⟨Nat.le_of_ble_eq_true rfl, Nat.le_of_ble_eq_true rfl⟩) ⟨PX.blind, va_recv hLS.2.2.2.2.2.1 hPX (ci := 11) (q0 := 0) rfl rfl, fun U hU hW => ⟨rfl, by rw [hU], by rw [hU]; exact hPX, va_K.moved hW.alike hLS.2.2.2.2.2.1, hLS.2.2.2.2.2.2.2.at hS (hLS.fX hS.1) hU hW⟩⟩ rfl rfl hl.1 rfl (lv_room (Nat.le_of_ble_eq_true rfl)) dL_law_346 ⟨Nat.le_of_ble_eq_true rfl, Nat.le_of_ble_eq_true rfl⟩) hS (fun q _ h => (hLS.fX hS.1) q h) (hLS.fX hS.1) (fun r1 u t H1 locs ht hvm hw hB hz1 hk1 hS => ?_)
  unfold BX at hB
  rw [ht] at hB
  have hPM := hLS.kM hPM hk1
  obtain ⟨v1, F1, rc1⟩ := u
  obtain ⟨hI1, hal1, -, -, -⟩ := hw
  dsimp only at hI1 hal1 hB
  have q1 := alX_c hal1
  have hPX : va_P (dC, dI) classes (wX gX cX v1 F1 rc1) H1 := hB
  generalize H1 = H at hPX hPM hS ⊢
  refine lv_pop hx hb dL_law_349 rfl ?_
  refine lv_aload_n hx hb dL_law_350 rfl (lv_at hl 1 rfl) ?_
  refine lv_aload_n hx hb dL_law_351 rfl (lv_at hl 3 rfl) ?_
  refine lv_iload_n hx hb dL_law_352 rfl (lv_at hl 0 rfl) ?_
  refine lv_iconst (v := 1) hx hb dL_law_353 (by decide) ?_
  refine lv_iadd hx hb dL_law_354 ?_
  refine lv_topi (fun z4 ez4 => ?_)
  have tz4 := tadd ez4 rfl (b := 1) (by decide) (by omega)
  refine va_sld hx hb hX hbl hbA hS (i := z4) (vin rfl (by omega)) dL_law_355 ?_
  refine my_top (v := a1) (by rw [ea1, ez4, ez1]) ?_
  refine lv_aload_n hx hb dL_law_356 rfl (lv_at hl 3 rfl) ?_
  refine lv_iload_n hx hb dL_law_357 rfl (lv_at hl 0 rfl) ?_
  refine lv_iconst (v := 2) hx hb dL_law_358 (by decide) ?_
  refine lv_iadd hx hb dL_law_359 ?_
  refine lv_topi (fun z5 ez5 => ?_)
  have tz5 := tadd ez5 rfl (b := 2) (by decide) (by omega)
  refine va_sld hx hb hX hbl hbA hS (i := z5) (vin rfl (by omega)) dL_law_360 ?_
  refine my_top (v := a2) (by rw [ea2, ez5, ez2]) ?_
  refine lv_aload_n hx hb dL_law_361 rfl (lv_at hl 3 rfl) ?_
  refine lv_iload_n hx hb dL_law_362 rfl (lv_at hl 0 rfl) ?_
  refine lv_iconst (v := 3) hx hb dL_law_363 (by decide) ?_
  refine lv_iadd hx hb dL_law_364 ?_
  refine lv_topi (fun z6 ez6 => ?_)
  have tz6 := tadd ez6 rfl (b := 3) (by decide) (by omega)
  refine va_sld hx hb hX hbl hbA hS (i := z6) (vin rfl (by omega)) dL_law_365 ?_
  refine my_top (v := a3) (by rw [ea3, ez6, ez3]) ?_
  refine va_calli (va_runV (As := [.int a1, .int a2, .int a3]) (rest := []) ⟨hx, hb, hml, hown, hwd⟩ (c_X12_fly l dC dI gM cM adK adV v' F' 0 H.size a1 a2 a3 hLS.2.1 hLI.2.1 hLI.2.2.2.1) (cwV 3 hwd (gV wk_480 wk_477 wk_478 wk_479 wk_5) rfl rfl rfl (by decide +kernel) ⟨Nat.le_of_ble_eq_true rfl, Nat.le_of_ble_eq_true rfl⟩) ⟨PM.blind, va_recv hLS.2.2.2.2.2.2.1 hPM (ci := 12) (q0 := 0) rfl rfl, fun U hU hW => ⟨rfl, by rw [hU], by rw [hU]; exact hPM, va_K.moved hW.alike hLS.2.2.2.2.2.2.1, trivial⟩⟩ rfl rfl hl.1 rfl (lv_room (Nat.le_of_ble_eq_true rfl)) dL_law_366 ⟨Nat.le_of_ble_eq_true rfl, Nat.le_of_ble_eq_true rfl⟩) hS (fun q _ h => (hLS.fM hS.1) q h) (hLS.fM hS.1) (fun r2 u t H1 locs ht hvm hw hB hz1 hk1 hS => ?_)
  unfold BM at hB
  rw [ht] at hB
  have hPX := hLS.kX hPX hk1
  obtain ⟨v2, F2, rc2⟩ := u
  obtain ⟨hI2, hrc2, hf2, hG2, hw2⟩ := hw
  dsimp only at hI2 hrc2 hf2 hG2 hw2 hB
  rw [hrc2] at hB
  have hPM : va_P (dC, dI) classes (wM gM cM v2 F2 0) H1 := hB
  have g1 := congrArg Int32.toInt (hf2 1 (by decide))
  have g2 := congrArg Int32.toInt (hf2 2 (by decide))
  have g6 := congrArg Int32.toInt (hf2 6 (by decide))
  have g45 := congrArg Int32.toInt (hf2 45 (by decide))
  generalize H1 = H at hPX hPM hS ⊢
  have tie := hLI.2.2.2.2
  have hLI9 : LI v1 F1 v2 F2 := ⟨hI1, hI2, (JO.to hLI.2.2.1 (hf2 14 (by decide)) (hf2 19 (by decide)) (hG2 13 (by decide)) (hG2 15 (by decide)) (hG2 18 (by decide))), (JL.to hLI.2.2.2.1 (hf2 31 (by decide)) (hG2 28 (by decide)) (hG2 29 (by decide)) (hG2 27 (by decide))), by omega, by omega, by omega, by omega, (q1.2.1.trans (hLI.2.2.2.2.2.2.2.2.1.trans (hG2 44 (by decide)).symm)), (q1.2.2.trans (hLI.2.2.2.2.2.2.2.2.2.trans (hG2 45 (by decide)).symm))⟩
  refine lv_pop hx hb dL_law_369 rfl ?_
  refine lv_goto (tgt := 1485) hx hb dL_law_370 (by decide) ?_
  exact hK v1 F1 rc1 v2 F2 H _ ls hLI9 hPX hPM hS hl
set_option maxHeartbeats 4000000 in
set_option maxRecDepth 100000 in
theorem law_case_5 {p : Program} {l : Launch} {e : Env} {s : State} {m : MethodId} {below : List Frame} {meth : Method} {c : Code} {dC : Nat → ClassId} {dI : Nat → Nat → Nat} {b L : Nat} {xs : Nat → Int32} {gX gM adK adV : Nat → Nat} {cX cM : Nat → ClassId} (hL : L ≤ 3584) (C0 : lw_At p s m meth c b L xs) (hLS : LSta s dC dI gX cX gM cM adK adV) {i : Int32} (hi : 0 ≤ i.toInt ∧ i.toInt + 7 ≤ (L : Int)) {v : Nat → Int32} {F : Nat → Nat → Int32} {rc : Nat} {v' : Nat → Int32} {F' : Nat → Nat → Int32} {H : Heap} {locs : List Loc} {ls : Array Slot} (hLI : LI v F v' F') (hPX : va_P (dC, dI) classes (wX gX cX v F rc) H) (hPM : va_P (dC, dI) classes (wM gM cM v' F' 0) H) (hS : va_S (fun q : Nat => s.heap.size ≤ q) s.heap H locs) (hl : lv_has ls 4 [(3, .int i), (2, .ref (gM 0)), (1, .ref (gX 0)), (0, .ref b)]) (hK : ∀ (v : Nat → Int32) (F : Nat → Nat → Int32) (rc : Nat) (v' : Nat → Int32) (F' : Nat → Nat → Int32) (H : Heap) (locs : List Loc) (ls : Array Slot), LI v F v' F' → va_P (dC, dI) classes (wX gX cX v F rc) H → va_P (dC, dI) classes (wM gM cM v' F' 0) H → va_S (fun q : Nat => s.heap.size ≤ q) s.heap H locs → lv_has ls 4 [(3, .int i), (2, .ref (gM 0)), (1, .ref (gX 0)), (0, .ref b)] → W p l e room_1 s m #[Value.ref b] below meth c H locs 126 19787 (lw_Z below #[Value.ref b] s) (F0 m 1485 ls [])) : W p l e room_1 s m #[Value.ref b] below meth c H locs 126 19787 (lw_Z below #[Value.ref b] s) (F0 m 373 ls []) := by
  obtain ⟨hx, hb, hr, hml, hown, hts, hX, hbl, hlocks, hgv⟩ := id C0
  have hown : s.vm.findClass RL = some m.cls := hown
  have hwd : ∀ w ∈ wA, w.before #[Value.ref b] s = true := fun w h => hts w (wA_in w h)
  have hbA : ¬ (fun q : Nat => s.heap.size ≤ q) b := Nat.not_le.mpr hbl
  refine lv_aload_n hx hb dL_law_373 rfl (lv_at hl 2 rfl) ?_
  refine lv_aload_n hx hb dL_law_374 rfl (lv_at hl 3 rfl) ?_
  refine lv_iload_n hx hb dL_law_375 rfl (lv_at hl 0 rfl) ?_
  refine lv_iconst (v := 1) hx hb dL_law_376 (by decide) ?_
  refine lv_iadd hx hb dL_law_377 ?_
  refine lv_topi (fun z1 ez1 => ?_)
  have tz1 := tadd ez1 rfl (b := 1) (by decide) (by omega)
  refine va_sld hx hb hX hbl hbA hS (i := z1) (vin rfl (by omega)) dL_law_378 ?_
  refine lv_topi (fun a1 ea1 => ?_)
  refine lv_aload_n hx hb dL_law_379 rfl (lv_at hl 3 rfl) ?_
  refine lv_iload_n hx hb dL_law_380 rfl (lv_at hl 0 rfl) ?_
  refine lv_iconst (v := 2) hx hb dL_law_381 (by decide) ?_
  refine lv_iadd hx hb dL_law_382 ?_
  refine lv_topi (fun z2 ez2 => ?_)
  have tz2 := tadd ez2 rfl (b := 2) (by decide) (by omega)
  refine va_sld hx hb hX hbl hbA hS (i := z2) (vin rfl (by omega)) dL_law_383 ?_
  refine lv_topi (fun a2 ea2 => ?_)
  refine va_calli (va_runV (As := [.int a1, .int a2]) (rest := []) ⟨hx, hb, hml, hown, hwd⟩ (c_X11_ofPlane l dC dI gX cX adK adV v F rc H.size a1 a2 hLS.1 hLI.1) (cwV 2 hwd (gV wk_529 wk_526 wk_527 wk_528 wk_2) rfl rfl rfl (by decide +kernel) ⟨Nat.le_of_ble_eq_true rfl, Nat.le_of_ble_eq_true rfl⟩) ⟨PX.blind, va_recv hLS.2.2.2.2.2.1 hPX (ci := 11) (q0 := 0) rfl rfl, fun U hU hW => ⟨rfl, by rw [hU], by rw [hU]; exact hPX, va_K.moved hW.alike hLS.2.2.2.2.2.1, hLS.2.2.2.2.2.2.2.at hS (hLS.fX hS.1) hU hW⟩⟩ rfl rfl hl.1 rfl (lv_room (Nat.le_of_ble_eq_true rfl)) dL_law_384 ⟨Nat.le_of_ble_eq_true rfl, Nat.le_of_ble_eq_true rfl⟩) hS (fun q _ h => (hLS.fX hS.1) q h) (hLS.fX hS.1) (fun r1 u t H1 locs ht hvm hw hB hz1 hk1 hS => ?_)
  unfold BX at hB
  rw [ht] at hB
  have hPM := hLS.kM hPM hk1
  have hPX : va_P (dC, dI) classes (wX gX cX v F rc) H1 := hB
  have hI1 := hLI.1
  generalize H1 = H at hPX hPM hS ⊢
  refine lv_pop hx hb dL_law_387 rfl ?_
  refine lv_aload_n hx hb dL_law_388 rfl (lv_at hl 1 rfl) ?_
  refine lv_aload_n hx hb dL_law_389 rfl (lv_at hl 3 rfl) ?_
  refine lv_iload_n hx hb dL_law_390 rfl (lv_at hl 0 rfl) ?_
  refine lv_iconst (v := 1) hx hb dL_law_391 (by decide) ?_
  refine lv_iadd hx hb dL_law_392 ?_
  refine lv_topi (fun z3 ez3 => ?_)
  have tz3 := tadd ez3 rfl (b := 1) (by decide) (by omega)
  refine va_sld hx hb hX hbl hbA hS (i := z3) (vin rfl (by omega)) dL_law_393 ?_
  refine my_top (v := a1) (by rw [ea1, ez3, ez1]) ?_
  refine lv_aload_n hx hb dL_law_394 rfl (lv_at hl 3 rfl) ?_
  refine lv_iload_n hx hb dL_law_395 rfl (lv_at hl 0 rfl) ?_
  refine lv_iconst (v := 2) hx hb dL_law_396 (by decide) ?_
  refine lv_iadd hx hb dL_law_397 ?_
  refine lv_topi (fun z4 ez4 => ?_)
  have tz4 := tadd ez4 rfl (b := 2) (by decide) (by omega)
  refine va_sld hx hb hX hbl hbA hS (i := z4) (vin rfl (by omega)) dL_law_398 ?_
  refine my_top (v := a2) (by rw [ea2, ez4, ez2]) ?_
  refine va_calli (va_runV (As := [.int a1, .int a2]) (rest := []) ⟨hx, hb, hml, hown, hwd⟩ (c_X12_ofPlane l dC dI gM cM adK adV v' F' 0 H.size a1 a2 hLS.2.1 hLI.2.1) (cwV 2 hwd (gV wk_541 wk_538 wk_539 wk_540 wk_5) rfl rfl rfl (by decide +kernel) ⟨Nat.le_of_ble_eq_true rfl, Nat.le_of_ble_eq_true rfl⟩) ⟨PM.blind, va_recv hLS.2.2.2.2.2.2.1 hPM (ci := 12) (q0 := 0) rfl rfl, fun U hU hW => ⟨rfl, by rw [hU], by rw [hU]; exact hPM, va_K.moved hW.alike hLS.2.2.2.2.2.2.1, trivial⟩⟩ rfl rfl hl.1 rfl (lv_room (Nat.le_of_ble_eq_true rfl)) dL_law_399 ⟨Nat.le_of_ble_eq_true rfl, Nat.le_of_ble_eq_true rfl⟩) hS (fun q _ h => (hLS.fM hS.1) q h) (hLS.fM hS.1) (fun r2 u t H1 locs ht hvm hw hB hz1 hk1 hS => ?_)
  unfold BM at hB
  rw [ht] at hB
  have hPX := hLS.kX hPX hk1
  have hPM : va_P (dC, dI) classes (wM gM cM v' F' 0) H1 := hB
  have hI2 := hLI.2.1
  generalize H1 = H at hPX hPM hS ⊢
  have tie := hLI.2.2.2.2
  have hLI9 : LI v F v' F' := ⟨hI1, hI2, hLI.2.2.1, hLI.2.2.2.1, by omega, by omega, by omega, by omega, (rfl.trans (hLI.2.2.2.2.2.2.2.2.1.trans rfl)), (rfl.trans (hLI.2.2.2.2.2.2.2.2.2.trans rfl))⟩
  refine lv_pop hx hb dL_law_402 rfl ?_
  refine lv_goto (tgt := 1485) hx hb dL_law_403 (by decide) ?_
  exact hK v F rc v' F' H _ ls hLI9 hPX hPM hS hl
set_option maxHeartbeats 4000000 in
set_option maxRecDepth 100000 in
theorem law_case_6 {p : Program} {l : Launch} {e : Env} {s : State} {m : MethodId} {below : List Frame} {meth : Method} {c : Code} {dC : Nat → ClassId} {dI : Nat → Nat → Nat} {b L : Nat} {xs : Nat → Int32} {gX gM adK adV : Nat → Nat} {cX cM : Nat → ClassId} (hL : L ≤ 3584) (C0 : lw_At p s m meth c b L xs) (hLS : LSta s dC dI gX cX gM cM adK adV) {i : Int32} (hi : 0 ≤ i.toInt ∧ i.toInt + 7 ≤ (L : Int)) {v : Nat → Int32} {F : Nat → Nat → Int32} {rc : Nat} {v' : Nat → Int32} {F' : Nat → Nat → Int32} {H : Heap} {locs : List Loc} {ls : Array Slot} (hLI : LI v F v' F') (hPX : va_P (dC, dI) classes (wX gX cX v F rc) H) (hPM : va_P (dC, dI) classes (wM gM cM v' F' 0) H) (hS : va_S (fun q : Nat => s.heap.size ≤ q) s.heap H locs) (hl : lv_has ls 4 [(3, .int i), (2, .ref (gM 0)), (1, .ref (gX 0)), (0, .ref b)]) (hK : ∀ (v : Nat → Int32) (F : Nat → Nat → Int32) (rc : Nat) (v' : Nat → Int32) (F' : Nat → Nat → Int32) (H : Heap) (locs : List Loc) (ls : Array Slot), LI v F v' F' → va_P (dC, dI) classes (wX gX cX v F rc) H → va_P (dC, dI) classes (wM gM cM v' F' 0) H → va_S (fun q : Nat => s.heap.size ≤ q) s.heap H locs → lv_has ls 4 [(3, .int i), (2, .ref (gM 0)), (1, .ref (gX 0)), (0, .ref b)] → W p l e room_1 s m #[Value.ref b] below meth c H locs 126 19787 (lw_Z below #[Value.ref b] s) (F0 m 1485 ls [])) : W p l e room_1 s m #[Value.ref b] below meth c H locs 126 19787 (lw_Z below #[Value.ref b] s) (F0 m 406 ls []) := by
  obtain ⟨hx, hb, hr, hml, hown, hts, hX, hbl, hlocks, hgv⟩ := id C0
  have hown : s.vm.findClass RL = some m.cls := hown
  have hwd : ∀ w ∈ wA, w.before #[Value.ref b] s = true := fun w h => hts w (wA_in w h)
  have hbA : ¬ (fun q : Nat => s.heap.size ≤ q) b := Nat.not_le.mpr hbl
  refine lv_aload_n hx hb dL_law_406 rfl (lv_at hl 2 rfl) ?_
  refine lv_aload_n hx hb dL_law_407 rfl (lv_at hl 3 rfl) ?_
  refine lv_iload_n hx hb dL_law_408 rfl (lv_at hl 0 rfl) ?_
  refine lv_iconst (v := 1) hx hb dL_law_409 (by decide) ?_
  refine lv_iadd hx hb dL_law_410 ?_
  refine lv_topi (fun z1 ez1 => ?_)
  have tz1 := tadd ez1 rfl (b := 1) (by decide) (by omega)
  refine va_sld hx hb hX hbl hbA hS (i := z1) (vin rfl (by omega)) dL_law_411 ?_
  refine lv_topi (fun a1 ea1 => ?_)
  refine lv_aload_n hx hb dL_law_412 rfl (lv_at hl 3 rfl) ?_
  refine lv_iload_n hx hb dL_law_413 rfl (lv_at hl 0 rfl) ?_
  refine lv_iconst (v := 2) hx hb dL_law_414 (by decide) ?_
  refine lv_iadd hx hb dL_law_415 ?_
  refine lv_topi (fun z2 ez2 => ?_)
  have tz2 := tadd ez2 rfl (b := 2) (by decide) (by omega)
  refine va_sld hx hb hX hbl hbA hS (i := z2) (vin rfl (by omega)) dL_law_416 ?_
  refine lv_topi (fun a2 ea2 => ?_)
  refine va_calli (va_runV (As := [.int a1, .int a2]) (rest := []) ⟨hx, hb, hml, hown, hwd⟩ (c_X11_grounded l dC dI gX cX adK adV v F rc H.size a1 a2 hLS.1 hLI.1) (cwV 2 hwd (gV wk_546 wk_543 wk_544 wk_545 wk_2) rfl rfl rfl (by decide +kernel) ⟨Nat.le_of_ble_eq_true rfl, Nat.le_of_ble_eq_true rfl⟩) ⟨PX.blind, va_recv hLS.2.2.2.2.2.1 hPX (ci := 11) (q0 := 0) rfl rfl, fun U hU hW => ⟨rfl, by rw [hU], by rw [hU]; exact hPX, va_K.moved hW.alike hLS.2.2.2.2.2.1, hLS.2.2.2.2.2.2.2.at hS (hLS.fX hS.1) hU hW⟩⟩ rfl rfl hl.1 rfl (lv_room (Nat.le_of_ble_eq_true rfl)) dL_law_417 ⟨Nat.le_of_ble_eq_true rfl, Nat.le_of_ble_eq_true rfl⟩) hS (fun q _ h => (hLS.fX hS.1) q h) (hLS.fX hS.1) (fun r1 u t H1 locs ht hvm hw hB hz1 hk1 hS => ?_)
  unfold BX at hB
  rw [ht] at hB
  have hPM := hLS.kM hPM hk1
  obtain ⟨v1, F1, rc1⟩ := u
  obtain ⟨hI1, hal1, -, -, -⟩ := hw
  dsimp only at hI1 hal1 hB
  have q1 := alX_c hal1
  have hPX : va_P (dC, dI) classes (wX gX cX v1 F1 rc1) H1 := hB
  generalize H1 = H at hPX hPM hS ⊢
  refine lv_pop hx hb dL_law_420 rfl ?_
  refine lv_aload_n hx hb dL_law_421 rfl (lv_at hl 1 rfl) ?_
  refine lv_aload_n hx hb dL_law_422 rfl (lv_at hl 3 rfl) ?_
  refine lv_iload_n hx hb dL_law_423 rfl (lv_at hl 0 rfl) ?_
  refine lv_iconst (v := 1) hx hb dL_law_424 (by decide) ?_
  refine lv_iadd hx hb dL_law_425 ?_
  refine lv_topi (fun z3 ez3 => ?_)
  have tz3 := tadd ez3 rfl (b := 1) (by decide) (by omega)
  refine va_sld hx hb hX hbl hbA hS (i := z3) (vin rfl (by omega)) dL_law_426 ?_
  refine my_top (v := a1) (by rw [ea1, ez3, ez1]) ?_
  refine lv_aload_n hx hb dL_law_427 rfl (lv_at hl 3 rfl) ?_
  refine lv_iload_n hx hb dL_law_428 rfl (lv_at hl 0 rfl) ?_
  refine lv_iconst (v := 2) hx hb dL_law_429 (by decide) ?_
  refine lv_iadd hx hb dL_law_430 ?_
  refine lv_topi (fun z4 ez4 => ?_)
  have tz4 := tadd ez4 rfl (b := 2) (by decide) (by omega)
  refine va_sld hx hb hX hbl hbA hS (i := z4) (vin rfl (by omega)) dL_law_431 ?_
  refine my_top (v := a2) (by rw [ea2, ez4, ez2]) ?_
  refine va_calli (va_runV (As := [.int a1, .int a2]) (rest := []) ⟨hx, hb, hml, hown, hwd⟩ (c_X12_grounded l dC dI gM cM adK adV v' F' 0 H.size a1 a2 hLS.2.1 hLI.2.1 hLI.2.2.2.1) (cwV 2 hwd (gV wk_553 wk_550 wk_551 wk_552 wk_5) rfl rfl rfl (by decide +kernel) ⟨Nat.le_of_ble_eq_true rfl, Nat.le_of_ble_eq_true rfl⟩) ⟨PM.blind, va_recv hLS.2.2.2.2.2.2.1 hPM (ci := 12) (q0 := 0) rfl rfl, fun U hU hW => ⟨rfl, by rw [hU], by rw [hU]; exact hPM, va_K.moved hW.alike hLS.2.2.2.2.2.2.1, trivial⟩⟩ rfl rfl hl.1 rfl (lv_room (Nat.le_of_ble_eq_true rfl)) dL_law_432 ⟨Nat.le_of_ble_eq_true rfl, Nat.le_of_ble_eq_true rfl⟩) hS (fun q _ h => (hLS.fM hS.1) q h) (hLS.fM hS.1) (fun r2 u t H1 locs ht hvm hw hB hz1 hk1 hS => ?_)
  unfold BM at hB
  rw [ht] at hB
  have hPX := hLS.kX hPX hk1
  obtain ⟨v2, F2, rc2⟩ := u
  obtain ⟨hI2, hrc2, hf2, hG2, hw2⟩ := hw
  dsimp only at hI2 hrc2 hf2 hG2 hw2 hB
  rw [hrc2] at hB
  have hPM : va_P (dC, dI) classes (wM gM cM v2 F2 0) H1 := hB
  have g1 := congrArg Int32.toInt (hf2 1 (by decide))
  have g2 := congrArg Int32.toInt (hf2 2 (by decide))
  have g6 := congrArg Int32.toInt (hf2 6 (by decide))
  have g45 := congrArg Int32.toInt (hf2 45 (by decide))
  generalize H1 = H at hPX hPM hS ⊢
  have tie := hLI.2.2.2.2
  have hLI9 : LI v1 F1 v2 F2 := ⟨hI1, hI2, (JO.to hLI.2.2.1 (hf2 14 (by decide)) (hf2 19 (by decide)) (hG2 13 (by decide)) (hG2 15 (by decide)) (hG2 18 (by decide))), (JL.to hLI.2.2.2.1 (hf2 31 (by decide)) (hG2 28 (by decide)) (hG2 29 (by decide)) (hG2 27 (by decide))), by omega, by omega, by omega, by omega, (q1.2.1.trans (hLI.2.2.2.2.2.2.2.2.1.trans (hG2 44 (by decide)).symm)), (q1.2.2.trans (hLI.2.2.2.2.2.2.2.2.2.trans (hG2 45 (by decide)).symm))⟩
  refine lv_pop hx hb dL_law_435 rfl ?_
  refine lv_goto (tgt := 1485) hx hb dL_law_436 (by decide) ?_
  exact hK v1 F1 rc1 v2 F2 H _ ls hLI9 hPX hPM hS hl
set_option maxHeartbeats 4000000 in
set_option maxRecDepth 100000 in
theorem law_case_7 {p : Program} {l : Launch} {e : Env} {s : State} {m : MethodId} {below : List Frame} {meth : Method} {c : Code} {dC : Nat → ClassId} {dI : Nat → Nat → Nat} {b L : Nat} {xs : Nat → Int32} {gX gM adK adV : Nat → Nat} {cX cM : Nat → ClassId} (hL : L ≤ 3584) (C0 : lw_At p s m meth c b L xs) (hLS : LSta s dC dI gX cX gM cM adK adV) {i : Int32} (hi : 0 ≤ i.toInt ∧ i.toInt + 7 ≤ (L : Int)) {v : Nat → Int32} {F : Nat → Nat → Int32} {rc : Nat} {v' : Nat → Int32} {F' : Nat → Nat → Int32} {H : Heap} {locs : List Loc} {ls : Array Slot} (hLI : LI v F v' F') (hPX : va_P (dC, dI) classes (wX gX cX v F rc) H) (hPM : va_P (dC, dI) classes (wM gM cM v' F' 0) H) (hS : va_S (fun q : Nat => s.heap.size ≤ q) s.heap H locs) (hl : lv_has ls 4 [(3, .int i), (2, .ref (gM 0)), (1, .ref (gX 0)), (0, .ref b)]) (hK : ∀ (v : Nat → Int32) (F : Nat → Nat → Int32) (rc : Nat) (v' : Nat → Int32) (F' : Nat → Nat → Int32) (H : Heap) (locs : List Loc) (ls : Array Slot), LI v F v' F' → va_P (dC, dI) classes (wX gX cX v F rc) H → va_P (dC, dI) classes (wM gM cM v' F' 0) H → va_S (fun q : Nat => s.heap.size ≤ q) s.heap H locs → lv_has ls 4 [(3, .int i), (2, .ref (gM 0)), (1, .ref (gX 0)), (0, .ref b)] → W p l e room_1 s m #[Value.ref b] below meth c H locs 126 19787 (lw_Z below #[Value.ref b] s) (F0 m 1485 ls [])) : W p l e room_1 s m #[Value.ref b] below meth c H locs 126 19787 (lw_Z below #[Value.ref b] s) (F0 m 439 ls []) := by
  obtain ⟨hx, hb, hr, hml, hown, hts, hX, hbl, hlocks, hgv⟩ := id C0
  have hown : s.vm.findClass RL = some m.cls := hown
  have hwd : ∀ w ∈ wA, w.before #[Value.ref b] s = true := fun w h => hts w (wA_in w h)
  have hbA : ¬ (fun q : Nat => s.heap.size ≤ q) b := Nat.not_le.mpr hbl
  refine lv_aload_n hx hb dL_law_439 rfl (lv_at hl 2 rfl) ?_
  refine lv_aload_n hx hb dL_law_440 rfl (lv_at hl 3 rfl) ?_
  refine lv_iload_n hx hb dL_law_441 rfl (lv_at hl 0 rfl) ?_
  refine lv_iconst (v := 1) hx hb dL_law_442 (by decide) ?_
  refine lv_iadd hx hb dL_law_443 ?_
  refine lv_topi (fun z1 ez1 => ?_)
  have tz1 := tadd ez1 rfl (b := 1) (by decide) (by omega)
  refine va_sld hx hb hX hbl hbA hS (i := z1) (vin rfl (by omega)) dL_law_444 ?_
  refine lv_topi (fun a1 ea1 => ?_)
  refine lv_aload_n hx hb dL_law_445 rfl (lv_at hl 3 rfl) ?_
  refine lv_iload_n hx hb dL_law_446 rfl (lv_at hl 0 rfl) ?_
  refine lv_iconst (v := 2) hx hb dL_law_447 (by decide) ?_
  refine lv_iadd hx hb dL_law_448 ?_
  refine lv_topi (fun z2 ez2 => ?_)
  have tz2 := tadd ez2 rfl (b := 2) (by decide) (by omega)
  refine va_sld hx hb hX hbl hbA hS (i := z2) (vin rfl (by omega)) dL_law_449 ?_
  refine lv_topi (fun a2 ea2 => ?_)
  refine lv_aload_n hx hb dL_law_450 rfl (lv_at hl 3 rfl) ?_
  refine lv_iload_n hx hb dL_law_451 rfl (lv_at hl 0 rfl) ?_
  refine lv_iconst (v := 3) hx hb dL_law_452 (by decide) ?_
  refine lv_iadd hx hb dL_law_453 ?_
  refine lv_topi (fun z3 ez3 => ?_)
  have tz3 := tadd ez3 rfl (b := 3) (by decide) (by omega)
  refine va_sld hx hb hX hbl hbA hS (i := z3) (vin rfl (by omega)) dL_law_454 ?_
  refine lv_topi (fun a3 ea3 => ?_)
  refine lv_aload_n hx hb dL_law_455 rfl (lv_at hl 3 rfl) ?_
  refine lv_iload_n hx hb dL_law_456 rfl (lv_at hl 0 rfl) ?_
  refine lv_iconst (v := 4) hx hb dL_law_457 (by decide) ?_
  refine lv_iadd hx hb dL_law_458 ?_
  refine lv_topi (fun z4 ez4 => ?_)
  have tz4 := tadd ez4 rfl (b := 4) (by decide) (by omega)
  refine va_sld hx hb hX hbl hbA hS (i := z4) (vin rfl (by omega)) dL_law_459 ?_
  refine lv_topi (fun a4 ea4 => ?_)
  refine lv_aload_n hx hb dL_law_460 rfl (lv_at hl 3 rfl) ?_
  refine lv_iload_n hx hb dL_law_461 rfl (lv_at hl 0 rfl) ?_
  refine lv_iconst (v := 5) hx hb dL_law_462 (by decide) ?_
  refine lv_iadd hx hb dL_law_463 ?_
  refine lv_topi (fun z5 ez5 => ?_)
  have tz5 := tadd ez5 rfl (b := 5) (by decide) (by omega)
  refine va_sld hx hb hX hbl hbA hS (i := z5) (vin rfl (by omega)) dL_law_464 ?_
  refine lv_topi (fun a5 ea5 => ?_)
  refine va_calli (va_runV (As := [.int a1, .int a2, .int a3, .int a4, .int a5]) (rest := []) ⟨hx, hb, hml, hown, hwd⟩ (c_X11_part l dC dI gX cX adK adV v F rc H.size a1 a2 a3 a4 a5 hLS.1 hLI.1) (cwV 5 hwd (gV wk_560 wk_557 wk_558 wk_559 wk_2) rfl rfl rfl (by decide +kernel) ⟨Nat.le_of_ble_eq_true rfl, Nat.le_of_ble_eq_true rfl⟩) ⟨PX.blind, va_recv hLS.2.2.2.2.2.1 hPX (ci := 11) (q0 := 0) rfl rfl, fun U hU hW => ⟨rfl, by rw [hU], by rw [hU]; exact hPX, va_K.moved hW.alike hLS.2.2.2.2.2.1, hLS.2.2.2.2.2.2.2.at hS (hLS.fX hS.1) hU hW⟩⟩ rfl rfl hl.1 rfl (lv_room (Nat.le_of_ble_eq_true rfl)) dL_law_465 ⟨Nat.le_of_ble_eq_true rfl, Nat.le_of_ble_eq_true rfl⟩) hS (fun q _ h => (hLS.fX hS.1) q h) (hLS.fX hS.1) (fun r1 u t H1 locs ht hvm hw hB hz1 hk1 hS => ?_)
  unfold BX at hB
  rw [ht] at hB
  have hPM := hLS.kM hPM hk1
  obtain ⟨v1, F1, rc1⟩ := u
  obtain ⟨hI1, hal1, -, -, -⟩ := hw
  dsimp only at hI1 hal1 hB
  have q1 := alX_c hal1
  have hPX : va_P (dC, dI) classes (wX gX cX v1 F1 rc1) H1 := hB
  generalize H1 = H at hPX hPM hS ⊢
  refine lv_pop hx hb dL_law_468 rfl ?_
  refine lv_aload_n hx hb dL_law_469 rfl (lv_at hl 1 rfl) ?_
  refine lv_aload_n hx hb dL_law_470 rfl (lv_at hl 3 rfl) ?_
  refine lv_iload_n hx hb dL_law_471 rfl (lv_at hl 0 rfl) ?_
  refine lv_iconst (v := 1) hx hb dL_law_472 (by decide) ?_
  refine lv_iadd hx hb dL_law_473 ?_
  refine lv_topi (fun z6 ez6 => ?_)
  have tz6 := tadd ez6 rfl (b := 1) (by decide) (by omega)
  refine va_sld hx hb hX hbl hbA hS (i := z6) (vin rfl (by omega)) dL_law_474 ?_
  refine my_top (v := a1) (by rw [ea1, ez6, ez1]) ?_
  refine lv_aload_n hx hb dL_law_475 rfl (lv_at hl 3 rfl) ?_
  refine lv_iload_n hx hb dL_law_476 rfl (lv_at hl 0 rfl) ?_
  refine lv_iconst (v := 2) hx hb dL_law_477 (by decide) ?_
  refine lv_iadd hx hb dL_law_478 ?_
  refine lv_topi (fun z7 ez7 => ?_)
  have tz7 := tadd ez7 rfl (b := 2) (by decide) (by omega)
  refine va_sld hx hb hX hbl hbA hS (i := z7) (vin rfl (by omega)) dL_law_479 ?_
  refine my_top (v := a2) (by rw [ea2, ez7, ez2]) ?_
  refine lv_aload_n hx hb dL_law_480 rfl (lv_at hl 3 rfl) ?_
  refine lv_iload_n hx hb dL_law_481 rfl (lv_at hl 0 rfl) ?_
  refine lv_iconst (v := 3) hx hb dL_law_482 (by decide) ?_
  refine lv_iadd hx hb dL_law_483 ?_
  refine lv_topi (fun z8 ez8 => ?_)
  have tz8 := tadd ez8 rfl (b := 3) (by decide) (by omega)
  refine va_sld hx hb hX hbl hbA hS (i := z8) (vin rfl (by omega)) dL_law_484 ?_
  refine my_top (v := a3) (by rw [ea3, ez8, ez3]) ?_
  refine lv_aload_n hx hb dL_law_485 rfl (lv_at hl 3 rfl) ?_
  refine lv_iload_n hx hb dL_law_486 rfl (lv_at hl 0 rfl) ?_
  refine lv_iconst (v := 4) hx hb dL_law_487 (by decide) ?_
  refine lv_iadd hx hb dL_law_488 ?_
  refine lv_topi (fun z9 ez9 => ?_)
  have tz9 := tadd ez9 rfl (b := 4) (by decide) (by omega)
  refine va_sld hx hb hX hbl hbA hS (i := z9) (vin rfl (by omega)) dL_law_489 ?_
  refine my_top (v := a4) (by rw [ea4, ez9, ez4]) ?_
  refine lv_aload_n hx hb dL_law_490 rfl (lv_at hl 3 rfl) ?_
  refine lv_iload_n hx hb dL_law_491 rfl (lv_at hl 0 rfl) ?_
  refine lv_iconst (v := 5) hx hb dL_law_492 (by decide) ?_
  refine lv_iadd hx hb dL_law_493 ?_
  refine lv_topi (fun z10 ez10 => ?_)
  have tz10 := tadd ez10 rfl (b := 5) (by decide) (by omega)
  refine va_sld hx hb hX hbl hbA hS (i := z10) (vin rfl (by omega)) dL_law_494 ?_
  refine my_top (v := a5) (by rw [ea5, ez10, ez5]) ?_
  refine va_calli (va_runV (As := [.int a1, .int a2, .int a3, .int a4, .int a5]) (rest := []) ⟨hx, hb, hml, hown, hwd⟩ (c_X12_part l dC dI gM cM adK adV v' F' 0 H.size a1 a2 a3 a4 a5 hLS.2.1 hLI.2.1 hLI.2.2.1) (cwV 5 hwd (gV wk_591 wk_588 wk_589 wk_590 wk_5) rfl rfl rfl (by decide +kernel) ⟨Nat.le_of_ble_eq_true rfl, Nat.le_of_ble_eq_true rfl⟩) ⟨PM.blind, va_recv hLS.2.2.2.2.2.2.1 hPM (ci := 12) (q0 := 0) rfl rfl, fun U hU hW => ⟨rfl, by rw [hU], by rw [hU]; exact hPM, va_K.moved hW.alike hLS.2.2.2.2.2.2.1, trivial⟩⟩ rfl rfl hl.1 rfl (lv_room (Nat.le_of_ble_eq_true rfl)) dL_law_495 ⟨Nat.le_of_ble_eq_true rfl, Nat.le_of_ble_eq_true rfl⟩) hS (fun q _ h => (hLS.fM hS.1) q h) (hLS.fM hS.1) (fun r2 u t H1 locs ht hvm hw hB hz1 hk1 hS => ?_)
  unfold BM at hB
  rw [ht] at hB
  have hPX := hLS.kX hPX hk1
  obtain ⟨v2, F2, rc2⟩ := u
  obtain ⟨hI2, hrc2, hf2, hG2, hw2⟩ := hw
  dsimp only at hI2 hrc2 hf2 hG2 hw2 hB
  rw [hrc2] at hB
  have hPM : va_P (dC, dI) classes (wM gM cM v2 F2 0) H1 := hB
  have g1 := congrArg Int32.toInt (hf2 1 (by decide))
  have g2 := congrArg Int32.toInt (hf2 2 (by decide))
  have g6 := congrArg Int32.toInt (hf2 6 (by decide))
  have g45 := congrArg Int32.toInt (hf2 45 (by decide))
  generalize H1 = H at hPX hPM hS ⊢
  have tie := hLI.2.2.2.2
  have hLI9 : LI v1 F1 v2 F2 := ⟨hI1, hI2, hw2, (JL.to hLI.2.2.2.1 (hf2 31 (by decide)) (hG2 28 (by decide)) (hG2 29 (by decide)) (hG2 27 (by decide))), by omega, by omega, by omega, by omega, (q1.2.1.trans (hLI.2.2.2.2.2.2.2.2.1.trans (hG2 44 (by decide)).symm)), (q1.2.2.trans (hLI.2.2.2.2.2.2.2.2.2.trans (hG2 45 (by decide)).symm))⟩
  refine lv_pop hx hb dL_law_498 rfl ?_
  refine lv_goto (tgt := 1485) hx hb dL_law_499 (by decide) ?_
  exact hK v1 F1 rc1 v2 F2 H _ ls hLI9 hPX hPM hS hl
set_option maxHeartbeats 4000000 in
set_option maxRecDepth 100000 in
theorem law_case_8 {p : Program} {l : Launch} {e : Env} {s : State} {m : MethodId} {below : List Frame} {meth : Method} {c : Code} {dC : Nat → ClassId} {dI : Nat → Nat → Nat} {b L : Nat} {xs : Nat → Int32} {gX gM adK adV : Nat → Nat} {cX cM : Nat → ClassId} (hL : L ≤ 3584) (C0 : lw_At p s m meth c b L xs) (hLS : LSta s dC dI gX cX gM cM adK adV) {i : Int32} (hi : 0 ≤ i.toInt ∧ i.toInt + 7 ≤ (L : Int)) {v : Nat → Int32} {F : Nat → Nat → Int32} {rc : Nat} {v' : Nat → Int32} {F' : Nat → Nat → Int32} {H : Heap} {locs : List Loc} {ls : Array Slot} (hLI : LI v F v' F') (hPX : va_P (dC, dI) classes (wX gX cX v F rc) H) (hPM : va_P (dC, dI) classes (wM gM cM v' F' 0) H) (hS : va_S (fun q : Nat => s.heap.size ≤ q) s.heap H locs) (hl : lv_has ls 4 [(3, .int i), (2, .ref (gM 0)), (1, .ref (gX 0)), (0, .ref b)]) (hK : ∀ (v : Nat → Int32) (F : Nat → Nat → Int32) (rc : Nat) (v' : Nat → Int32) (F' : Nat → Nat → Int32) (H : Heap) (locs : List Loc) (ls : Array Slot), LI v F v' F' → va_P (dC, dI) classes (wX gX cX v F rc) H → va_P (dC, dI) classes (wM gM cM v' F' 0) H → va_S (fun q : Nat => s.heap.size ≤ q) s.heap H locs → lv_has ls 4 [(3, .int i), (2, .ref (gM 0)), (1, .ref (gX 0)), (0, .ref b)] → W p l e room_1 s m #[Value.ref b] below meth c H locs 126 19787 (lw_Z below #[Value.ref b] s) (F0 m 1485 ls [])) : W p l e room_1 s m #[Value.ref b] below meth c H locs 126 19787 (lw_Z below #[Value.ref b] s) (F0 m 502 ls []) := by
  obtain ⟨hx, hb, hr, hml, hown, hts, hX, hbl, hlocks, hgv⟩ := id C0
  have hown : s.vm.findClass RL = some m.cls := hown
  have hwd : ∀ w ∈ wA, w.before #[Value.ref b] s = true := fun w h => hts w (wA_in w h)
  have hbA : ¬ (fun q : Nat => s.heap.size ≤ q) b := Nat.not_le.mpr hbl
  refine lv_aload_n hx hb dL_law_502 rfl (lv_at hl 2 rfl) ?_
  refine lv_aload_n hx hb dL_law_503 rfl (lv_at hl 3 rfl) ?_
  refine lv_iload_n hx hb dL_law_504 rfl (lv_at hl 0 rfl) ?_
  refine lv_iconst (v := 1) hx hb dL_law_505 (by decide) ?_
  refine lv_iadd hx hb dL_law_506 ?_
  refine lv_topi (fun z1 ez1 => ?_)
  have tz1 := tadd ez1 rfl (b := 1) (by decide) (by omega)
  refine va_sld hx hb hX hbl hbA hS (i := z1) (vin rfl (by omega)) dL_law_507 ?_
  refine lv_topi (fun a1 ea1 => ?_)
  refine lv_aload_n hx hb dL_law_508 rfl (lv_at hl 3 rfl) ?_
  refine lv_iload_n hx hb dL_law_509 rfl (lv_at hl 0 rfl) ?_
  refine lv_iconst (v := 2) hx hb dL_law_510 (by decide) ?_
  refine lv_iadd hx hb dL_law_511 ?_
  refine lv_topi (fun z2 ez2 => ?_)
  have tz2 := tadd ez2 rfl (b := 2) (by decide) (by omega)
  refine va_sld hx hb hX hbl hbA hS (i := z2) (vin rfl (by omega)) dL_law_512 ?_
  refine lv_topi (fun a2 ea2 => ?_)
  refine va_calli (va_runV (As := [.int a1, .int a2]) (rest := []) ⟨hx, hb, hml, hown, hwd⟩ (c_X11_move l dC dI gX cX adK adV v F rc H.size a1 a2 hLS.1 hLI.1) (cwV 2 hwd (gV wk_599 wk_596 wk_597 wk_598 wk_2) rfl rfl rfl (by decide +kernel) ⟨Nat.le_of_ble_eq_true rfl, Nat.le_of_ble_eq_true rfl⟩) ⟨PX.blind, va_recv hLS.2.2.2.2.2.1 hPX (ci := 11) (q0 := 0) rfl rfl, fun U hU hW => ⟨rfl, by rw [hU], by rw [hU]; exact hPX, va_K.moved hW.alike hLS.2.2.2.2.2.1, hLS.2.2.2.2.2.2.2.at hS (hLS.fX hS.1) hU hW⟩⟩ rfl rfl hl.1 rfl (lv_room (Nat.le_of_ble_eq_true rfl)) dL_law_513 ⟨Nat.le_of_ble_eq_true rfl, Nat.le_of_ble_eq_true rfl⟩) hS (fun q _ h => (hLS.fX hS.1) q h) (hLS.fX hS.1) (fun r1 u t H1 locs ht hvm hw hB hz1 hk1 hS => ?_)
  unfold BX at hB
  rw [ht] at hB
  have hPM := hLS.kM hPM hk1
  obtain ⟨v1, F1, rc1⟩ := u
  obtain ⟨hI1, hal1, -, -, -⟩ := hw
  dsimp only at hI1 hal1 hB
  have q1 := alX_c hal1
  have hPX : va_P (dC, dI) classes (wX gX cX v1 F1 rc1) H1 := hB
  generalize H1 = H at hPX hPM hS ⊢
  refine lv_pop hx hb dL_law_516 rfl ?_
  refine lv_aload_n hx hb dL_law_517 rfl (lv_at hl 1 rfl) ?_
  refine lv_aload_n hx hb dL_law_518 rfl (lv_at hl 3 rfl) ?_
  refine lv_iload_n hx hb dL_law_519 rfl (lv_at hl 0 rfl) ?_
  refine lv_iconst (v := 1) hx hb dL_law_520 (by decide) ?_
  refine lv_iadd hx hb dL_law_521 ?_
  refine lv_topi (fun z3 ez3 => ?_)
  have tz3 := tadd ez3 rfl (b := 1) (by decide) (by omega)
  refine va_sld hx hb hX hbl hbA hS (i := z3) (vin rfl (by omega)) dL_law_522 ?_
  refine my_top (v := a1) (by rw [ea1, ez3, ez1]) ?_
  refine lv_aload_n hx hb dL_law_523 rfl (lv_at hl 3 rfl) ?_
  refine lv_iload_n hx hb dL_law_524 rfl (lv_at hl 0 rfl) ?_
  refine lv_iconst (v := 2) hx hb dL_law_525 (by decide) ?_
  refine lv_iadd hx hb dL_law_526 ?_
  refine lv_topi (fun z4 ez4 => ?_)
  have tz4 := tadd ez4 rfl (b := 2) (by decide) (by omega)
  refine va_sld hx hb hX hbl hbA hS (i := z4) (vin rfl (by omega)) dL_law_527 ?_
  refine my_top (v := a2) (by rw [ea2, ez4, ez2]) ?_
  refine va_calli (va_runV (As := [.int a1, .int a2]) (rest := []) ⟨hx, hb, hml, hown, hwd⟩ (c_X12_move l dC dI gM cM adK adV v' F' 0 H.size a1 a2 hLS.2.1 hLI.2.1 hLI.2.2.1) (cwV 2 hwd (gV wk_627 wk_624 wk_625 wk_626 wk_5) rfl rfl rfl (by decide +kernel) ⟨Nat.le_of_ble_eq_true rfl, Nat.le_of_ble_eq_true rfl⟩) ⟨PM.blind, va_recv hLS.2.2.2.2.2.2.1 hPM (ci := 12) (q0 := 0) rfl rfl, fun U hU hW => ⟨rfl, by rw [hU], by rw [hU]; exact hPM, va_K.moved hW.alike hLS.2.2.2.2.2.2.1, trivial⟩⟩ rfl rfl hl.1 rfl (lv_room (Nat.le_of_ble_eq_true rfl)) dL_law_528 ⟨Nat.le_of_ble_eq_true rfl, Nat.le_of_ble_eq_true rfl⟩) hS (fun q _ h => (hLS.fM hS.1) q h) (hLS.fM hS.1) (fun r2 u t H1 locs ht hvm hw hB hz1 hk1 hS => ?_)
  unfold BM at hB
  rw [ht] at hB
  have hPX := hLS.kX hPX hk1
  obtain ⟨v2, F2, rc2⟩ := u
  obtain ⟨hI2, hrc2, hf2, hG2, hw2⟩ := hw
  dsimp only at hI2 hrc2 hf2 hG2 hw2 hB
  rw [hrc2] at hB
  have hPM : va_P (dC, dI) classes (wM gM cM v2 F2 0) H1 := hB
  have g1 := congrArg Int32.toInt (hf2 1 (by decide))
  have g2 := congrArg Int32.toInt (hf2 2 (by decide))
  have g6 := congrArg Int32.toInt (hf2 6 (by decide))
  have g45 := congrArg Int32.toInt (hf2 45 (by decide))
  generalize H1 = H at hPX hPM hS ⊢
  have tie := hLI.2.2.2.2
  have hLI9 : LI v1 F1 v2 F2 := ⟨hI1, hI2, hw2, (JL.to hLI.2.2.2.1 (hf2 31 (by decide)) (hG2 28 (by decide)) (hG2 29 (by decide)) (hG2 27 (by decide))), by omega, by omega, by omega, by omega, (q1.2.1.trans (hLI.2.2.2.2.2.2.2.2.1.trans (hG2 44 (by decide)).symm)), (q1.2.2.trans (hLI.2.2.2.2.2.2.2.2.2.trans (hG2 45 (by decide)).symm))⟩
  refine lv_pop hx hb dL_law_531 rfl ?_
  refine lv_goto (tgt := 1485) hx hb dL_law_532 (by decide) ?_
  exact hK v1 F1 rc1 v2 F2 H _ ls hLI9 hPX hPM hS hl
