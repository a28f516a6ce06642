set_option maxHeartbeats 8000000 in
set_option maxRecDepth 100000 in
theorem law_loop {p : Program} {l : Launch} {e : Env} {s : State} {m : MethodId} {below : List Frame} {meth : Method} {c : Code} {dC : Nat → ClassId} {dI : Nat → Nat → Nat} {b L : Nat} {xs : Nat → Int32} {gX gM adK adV : Nat → Nat} {cX cM : Nat → ClassId} (hL : L ≤ 3584) (C0 : lw_At p s m meth c b L xs) (hLS : LSta s dC dI gX cX gM cM adK adV) : ∀ (n : Nat) (i : Int32) (v : Nat → Int32) (F : Nat → Nat → Int32) (rc : Nat) (v' : Nat → Int32) (F' : Nat → Nat → Int32) (H : Heap) (locs : List Loc) (ls : Array Slot), 0 ≤ i.toInt → i.toInt ≤ 3600 → 3601 - i.toInt ≤ (n : Int) → LI v F v' F' → va_P (dC, dI) classes (wX gX cX v F rc) H → va_P (dC, dI) classes (wM gM cM v' F' 0) H → va_S (fun q : Nat => s.heap.size ≤ q) s.heap H locs → lv_has ls 4 [(3, .int i), (2, .ref (gM 0)), (1, .ref (gX 0)), (0, .ref b)] → W p l e room_1 s m #[Value.ref b] below meth c H locs 126 19787 (lw_Z below #[Value.ref b] s) (F0 m 18 ls []) := by
  obtain ⟨hx, hb, hr, hml, hown, hts, hX, hbl, hlocks, hgv⟩ := id C0
  have hown : s.vm.findClass RL = some m.cls := hown
  have hwd : ∀ w ∈ wA, w.before #[Value.ref b] s = true := fun w h => hts w (wA_in w h)
  have hbA : ¬ (fun q : Nat => s.heap.size ≤ q) b := Nat.not_le.mpr hbl
  have eL : (Int32.ofNat L).toInt = (L : Int) := Int32.toInt_ofNat_of_lt (by omega)
  intro n
  induction n with
  | zero =>
    intro i v F rc v' F' H locs ls h0 h1 h2
    exfalso
    omega
  | succ n ih =>
    intro i v F rc v' F' H locs ls h0 h1 h2 hLI hPX hPM hS hl
    refine lv_iload_n hx hb dL_law_18 rfl (lv_at hl 0 rfl) ?_
    refine lv_aload_n hx hb dL_law_19 rfl (lv_at hl 3 rfl) ?_
    refine va_slen hx hb hX hbl hbA hS dL_law_20 ?_
    refine lv_bipush (v := 7) hx hb dL_law_21 (by decide) ?_
    refine lv_isub hx hb dL_law_23 ?_
    refine lv_topi (fun z ez => ?_)
    have tz := tsub ez eL (b := 7) (by decide) (by omega)
    refine lv_icmp_gt (tgt := 1491) hx hb dL_law_24 (by decide) (fun c9 => ?_) (fun c9 => ?_)
    · refine lv_iconst (v := 1) hx hb dL_law_1491 (by decide) ?_
      refine va_forget (fun q hq => hS.2.2 q hq) ?_
      refine W.widen (k := 600000) (n := 7302249) (Nat.le_of_ble_eq_true rfl) (Nat.le_of_ble_eq_true rfl) ?_
      exact lw_ret hx hb hr hlocks dL_law_1492
    have t9 := cv_nlt tz rfl c9
    have hK : ∀ (v : Nat → Int32) (F : Nat → Nat → Int32) (rc : Nat) (v' : Nat → Int32) (F' : Nat → Nat → Int32) (H : Heap) (locs : List Loc) (ls : Array Slot), LI v F v' F' → va_P (dC, dI) classes (wX gX cX v F rc) H → va_P (dC, dI) classes (wM gM cM v' F' 0) H → va_S (fun q : Nat => s.heap.size ≤ q) s.heap H locs → lv_has ls 4 [(3, .int i), (2, .ref (gM 0)), (1, .ref (gX 0)), (0, .ref b)] → W p l e room_1 s m #[Value.ref b] below meth c H locs 126 19787 (lw_Z below #[Value.ref b] s) (F0 m 1485 ls []) := by
      intro v F rc v' F' H locs ls hLI hPX hPM hS hl
      obtain ⟨j, ej⟩ : ∃ y : Int32, y = i + 7 := ⟨_, rfl⟩
      have tj := tadd ej rfl (b := 7) (by decide) (by omega)
      refine lv_iinc (v := j) (lv' := [(3, .int j), (2, .ref (gM 0)), (1, .ref (gX 0)), (0, .ref b)]) hx hb dL_law_1485 hl (k := 0) rfl (by rw [ej]; rfl) (by decide) rfl (fun ls hl => ?_)
      refine lv_goto (tgt := 18) hx hb dL_law_1488 (by decide) ?_
      exact ih j v F rc v' F' H locs ls (by omega) (by omega) (by omega) hLI hPX hPM hS hl
    refine lv_aload_n hx hb dL_law_27 rfl (lv_at hl 3 rfl) ?_
    refine lv_iload_n hx hb dL_law_28 rfl (lv_at hl 0 rfl) ?_
    refine va_sld hx hb hX hbl hbA hS (i := i) (vin rfl (by omega)) dL_law_29 ?_
    refine lv_bipush (v := 63) hx hb dL_law_30 (by decide) ?_
    refine lv_iand hx hb dL_law_32 ?_
    refine lv_topi (fun x9 ex9 => ?_)
    by_cases hlo : x9.toInt < 0
    · refine lv_tableOut (tgt := 1485) hx hb dL_law_33 (Or.inl hlo) (by decide) ?_
      exact hK v F rc v' F' H locs ls hLI hPX hPM hS hl
    by_cases hhi : 34 < x9.toInt
    · refine lv_tableOut (tgt := 1485) hx hb dL_law_33 (Or.inr hhi) (by decide) ?_
      exact hK v F rc v' F' H locs ls hLI hPX hPM hS hl
    rcases (show x9.toInt = 0 ∨ x9.toInt = 1 ∨ x9.toInt = 2 ∨ x9.toInt = 3 ∨ x9.toInt = 4 ∨ x9.toInt = 5 ∨ x9.toInt = 6 ∨ x9.toInt = 7 ∨ x9.toInt = 8 ∨ x9.toInt = 9 ∨ x9.toInt = 10 ∨ x9.toInt = 11 ∨ x9.toInt = 12 ∨ x9.toInt = 13 ∨ x9.toInt = 14 ∨ x9.toInt = 15 ∨ x9.toInt = 16 ∨ x9.toInt = 17 ∨ x9.toInt = 18 ∨ x9.toInt = 19 ∨ x9.toInt = 20 ∨ x9.toInt = 21 ∨ x9.toInt = 22 ∨ x9.toInt = 23 ∨ x9.toInt = 24 ∨ x9.toInt = 25 ∨ x9.toInt = 26 ∨ x9.toInt = 27 ∨ x9.toInt = 28 ∨ x9.toInt = 29 ∨ x9.toInt = 30 ∨ x9.toInt = 31 ∨ x9.toInt = 32 ∨ x9.toInt = 33 ∨ x9.toInt = 34 by omega) with hk | hk | hk | hk | hk | hk | hk | hk | hk | hk | hk | hk | hk | hk | hk | hk | hk | hk | hk | hk | hk | hk | hk | hk | hk | hk | hk | hk | hk | hk | hk | hk | hk | hk | hk
    · refine lv_tableIn (off := 155) (tgt := 188) hx hb dL_law_33 hlo hhi (by rw [hk]; decide) (by decide) ?_
      exact law_case_0 hL C0 hLS (by omega) hLI hPX hPM hS hl hK
    · refine lv_tableIn (off := 208) (tgt := 241) hx hb dL_law_33 hlo hhi (by rw [hk]; decide) (by decide) ?_
      exact law_case_1 hL C0 hLS (by omega) hLI hPX hPM hS hl hK
    · refine lv_tableIn (off := 231) (tgt := 264) hx hb dL_law_33 hlo hhi (by rw [hk]; decide) (by decide) ?_
      exact law_case_2 hL C0 hLS (by omega) hLI hPX hPM hS hl hK
    · refine lv_tableIn (off := 274) (tgt := 307) hx hb dL_law_33 hlo hhi (by rw [hk]; decide) (by decide) ?_
      exact law_case_3 hL C0 hLS (by omega) hLI hPX hPM hS hl hK
    · refine lv_tableIn (off := 297) (tgt := 330) hx hb dL_law_33 hlo hhi (by rw [hk]; decide) (by decide) ?_
      exact law_case_4 hL C0 hLS (by omega) hLI hPX hPM hS hl hK
    · refine lv_tableIn (off := 340) (tgt := 373) hx hb dL_law_33 hlo hhi (by rw [hk]; decide) (by decide) ?_
      exact law_case_5 hL C0 hLS (by omega) hLI hPX hPM hS hl hK
    · refine lv_tableIn (off := 373) (tgt := 406) hx hb dL_law_33 hlo hhi (by rw [hk]; decide) (by decide) ?_
      exact law_case_6 hL C0 hLS (by omega) hLI hPX hPM hS hl hK
    · refine lv_tableIn (off := 406) (tgt := 439) hx hb dL_law_33 hlo hhi (by rw [hk]; decide) (by decide) ?_
      exact law_case_7 hL C0 hLS (by omega) hLI hPX hPM hS hl hK
    · refine lv_tableIn (off := 469) (tgt := 502) hx hb dL_law_33 hlo hhi (by rw [hk]; decide) (by decide) ?_
      exact law_case_8 hL C0 hLS (by omega) hLI hPX hPM hS hl hK
    · refine lv_tableIn (off := 502) (tgt := 535) hx hb dL_law_33 hlo hhi (by rw [hk]; decide) (by decide) ?_
      exact law_case_9 hL C0 hLS (by omega) hLI hPX hPM hS hl hK
    · refine lv_tableIn (off := 535) (tgt := 568) hx hb dL_law_33 hlo hhi (by rw [hk]; decide) (by decide) ?_
      exact law_case_10 hL C0 hLS (by omega) hLI hPX hPM hS hl hK
    · refine lv_tableIn (off := 568) (tgt := 601) hx hb dL_law_33 hlo hhi (by rw [hk]; decide) (by decide) ?_
      exact law_case_11 hL C0 hLS (by omega) hLI hPX hPM hS hl hK
    · refine lv_tableIn (off := 601) (tgt := 634) hx hb dL_law_33 hlo hhi (by rw [hk]; decide) (by decide) ?_
      exact law_case_12 hL C0 hLS (by omega) hLI hPX hPM hS hl hK
    · refine lv_tableIn (off := 644) (tgt := 677) hx hb dL_law_33 hlo hhi (by rw [hk]; decide) (by decide) ?_
      exact law_case_13 hL C0 hLS (by omega) hLI hPX hPM hS hl hK
    · refine lv_tableIn (off := 677) (tgt := 710) hx hb dL_law_33 hlo hhi (by rw [hk]; decide) (by decide) ?_
      exact law_case_14 hL C0 hLS (by omega) hLI hPX hPM hS hl hK
    · refine lv_tableIn (off := 720) (tgt := 753) hx hb dL_law_33 hlo hhi (by rw [hk]; decide) (by decide) ?_
      exact law_case_15 hL C0 hLS (by omega) hLI hPX hPM hS hl hK
    · refine lv_tableIn (off := 763) (tgt := 796) hx hb dL_law_33 hlo hhi (by rw [hk]; decide) (by decide) ?_
      exact law_case_16 hL C0 hLS (by omega) hLI hPX hPM hS hl hK
    · refine lv_tableIn (off := 838) (tgt := 871) hx hb dL_law_33 hlo hhi (by rw [hk]; decide) (by decide) ?_
      exact law_case_17 hL C0 hLS (by omega) hLI hPX hPM hS hl hK
    · refine lv_tableIn (off := 871) (tgt := 904) hx hb dL_law_33 hlo hhi (by rw [hk]; decide) (by decide) ?_
      exact law_case_18 hL C0 hLS (by omega) hLI hPX hPM hS hl hK
    · refine lv_tableIn (off := 894) (tgt := 927) hx hb dL_law_33 hlo hhi (by rw [hk]; decide) (by decide) ?_
      exact law_case_19 hL C0 hLS (by omega) hLI hPX hPM hS hl hK
    · refine lv_tableIn (off := 937) (tgt := 970) hx hb dL_law_33 hlo hhi (by rw [hk]; decide) (by decide) ?_
      exact law_case_20 hL C0 hLS (by omega) hLI hPX hPM hS hl hK
    · refine lv_tableIn (off := 970) (tgt := 1003) hx hb dL_law_33 hlo hhi (by rw [hk]; decide) (by decide) ?_
      exact law_case_21 hL C0 hLS (by omega) hLI hPX hPM hS hl hK
    · refine lv_tableIn (off := 1003) (tgt := 1036) hx hb dL_law_33 hlo hhi (by rw [hk]; decide) (by decide) ?_
      exact law_case_22 hL C0 hLS (by omega) hLI hPX hPM hS hl hK
    · refine lv_tableIn (off := 1046) (tgt := 1079) hx hb dL_law_33 hlo hhi (by rw [hk]; decide) (by decide) ?_
      exact law_case_23 hL C0 hLS (by omega) hLI hPX hPM hS hl hK
    · refine lv_tableIn (off := 1099) (tgt := 1132) hx hb dL_law_33 hlo hhi (by rw [hk]; decide) (by decide) ?_
      exact law_case_24 hL C0 hLS (by omega) hLI hPX hPM hS hl hK
    · refine lv_tableIn (off := 1152) (tgt := 1185) hx hb dL_law_33 hlo hhi (by rw [hk]; decide) (by decide) ?_
      exact law_case_25 hL C0 hLS (by omega) hLI hPX hPM hS hl hK
    · refine lv_tableIn (off := 1175) (tgt := 1208) hx hb dL_law_33 hlo hhi (by rw [hk]; decide) (by decide) ?_
      exact law_case_26 hL C0 hLS (by omega) hLI hPX hPM hS hl hK
    · refine lv_tableIn (off := 1208) (tgt := 1241) hx hb dL_law_33 hlo hhi (by rw [hk]; decide) (by decide) ?_
      exact law_case_27 hL C0 hLS (by omega) hLI hPX hPM hS hl hK
    · refine lv_tableIn (off := 1221) (tgt := 1254) hx hb dL_law_33 hlo hhi (by rw [hk]; decide) (by decide) ?_
      exact law_case_28 hL C0 hLS (by omega) hLI hPX hPM hS hl hK
    · refine lv_tableIn (off := 1254) (tgt := 1287) hx hb dL_law_33 hlo hhi (by rw [hk]; decide) (by decide) ?_
      exact law_case_29 hL C0 hLS (by omega) hLI hPX hPM hS hl hK
    · refine lv_tableIn (off := 1287) (tgt := 1320) hx hb dL_law_33 hlo hhi (by rw [hk]; decide) (by decide) ?_
      exact law_case_30 hL C0 hLS (by omega) hLI hPX hPM hS hl hK
    · refine lv_tableIn (off := 1320) (tgt := 1353) hx hb dL_law_33 hlo hhi (by rw [hk]; decide) (by decide) ?_
      exact law_case_31 hL C0 hLS (by omega) hLI hPX hPM hS hl hK
    · refine lv_tableIn (off := 1343) (tgt := 1376) hx hb dL_law_33 hlo hhi (by rw [hk]; decide) (by decide) ?_
      exact law_case_32 hL C0 hLS (by omega) hLI hPX hPM hS hl hK
    · refine lv_tableIn (off := 1386) (tgt := 1419) hx hb dL_law_33 hlo hhi (by rw [hk]; decide) (by decide) ?_
      exact law_case_33 hL C0 hLS (by omega) hLI hPX hPM hS hl hK
    · refine lv_tableIn (off := 1429) (tgt := 1462) hx hb dL_law_33 hlo hhi (by rw [hk]; decide) (by decide) ?_
      exact law_case_34 hL C0 hLS (by omega) hLI hPX hPM hS hl hK
