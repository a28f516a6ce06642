theorem gj_r {big : List Cond} (ws : List Cond) (ps : List Nat) (hp : ws = ps.filterMap (fun i => big[i]?)) (h : ws.all goodWord = true) : GoodIn big ws := by
  intro w hw
  have h1 := List.all_eq_true.mp h w hw
  rw [hp] at hw
  obtain ⟨i, -, hi⟩ := List.mem_filterMap.mp hw
  exact ⟨List.mem_of_getElem? hi, good_of_word h1⟩
def wA_0 : List Cond := [Cond.fieldLink RX2 21 "PlanesBack$Kinds" "size" "I", Cond.fieldLink RX8 39 "PlanesBack$Planes" "size" "I", Cond.fieldLink RX7 31 "PlanesBack$Parts" "size" "I", Cond.fieldLink RX6 26 "PlanesBack$Orders" "size" "I", Cond.fieldLink RX2 9 "PlanesBack$Kinds" "limits" "[I", Cond.fieldLink RX8 24 "PlanesBack$Planes" "backDay" "[I", Cond.fieldLink RX8 21 "PlanesBack$Planes" "backCost" "[I", Cond.code yX8_isBack cX8_isBack 2 (some .boolean), Cond.methodLink RX8 43 yX8_isBack, Cond.instanceMethod yX8_isBack, Cond.selects RX8 yX8_isBack yX8_isBack, Cond.initialized RX8, Cond.fieldLink RX8 33 "PlanesBack$Planes" "needs" "[I", Cond.code yX8_needOf cX8_needOf 3 (some .int), Cond.methodLink RX8 47 yX8_needOf, Cond.instanceMethod yX8_needOf, Cond.selects RX8 yX8_needOf yX8_needOf, Cond.fieldLink RX8 15 "PlanesBack$Planes" "hours" "[I", Cond.constant RX8 51 (999999), Cond.fieldLink RX8 18 "PlanesBack$Planes" "landings" "[I", Cond.fieldLink RX8 36 "PlanesBack$Planes" "saved" "[I", Cond.fieldLink RX9 43 "PlanesBack$Stays" "size" "I", Cond.fieldLink RX9 18 "PlanesBack$Stays" "to" "[I", Cond.constant RX9 47 (-2000000000)]
def wA_1 : List Cond := [Cond.code yX9_goesOn cX9_goesOn 2 (some .boolean), Cond.methodLink RX9 52 yX9_goesOn, Cond.instanceMethod yX9_goesOn, Cond.selects RX9 yX9_goesOn yX9_goesOn, Cond.initialized RX9, Cond.fieldLink RX9 33 "PlanesBack$Stays" "paper" "[Z", Cond.fieldLink RX9 27 "PlanesBack$Stays" "landingsAtStart" "[I", Cond.fieldLink RX9 21 "PlanesBack$Stays" "hoursAtStart" "[I", Cond.fieldLink RX9 30 "PlanesBack$Stays" "landingsAtEnd" "[I", Cond.fieldLink RX9 24 "PlanesBack$Stays" "hoursAtEnd" "[I", Cond.fieldLink RX9 40 "PlanesBack$Stays" "first" "[I", Cond.fieldLink RX9 37 "PlanesBack$Stays" "next" "[I", Cond.code yX9_isGap cX9_isGap 2 (some .boolean), Cond.methodLink RX9 56 yX9_isGap, Cond.instanceMethod yX9_isGap, Cond.selects RX9 yX9_isGap yX9_isGap, Cond.fieldLink RX9 9 "PlanesBack$Stays" "where" "[I", Cond.fieldLink RX9 15 "PlanesBack$Stays" "from" "[I", Cond.code yX9_lastDay cX9_lastDay 3 (some .int), Cond.methodLink RX9 59 yX9_lastDay, Cond.instanceMethod yX9_lastDay, Cond.selects RX9 yX9_lastDay yX9_lastDay, Cond.code yX9_chain cX9_chain 6 none, Cond.methodLink RX9 48 yX9_chain]
def wA_2 : List Cond := [Cond.instanceMethod yX9_chain, Cond.selects RX9 yX9_chain yX9_chain]
def wAL : List Cond := wsX00 ++ (wsX10 ++ (wsX20 ++ (wsX30 ++ (wsX40 ++ (wsX50 ++ (wsX60 ++ (wsX70 ++ (wsX80 ++ (wsX90 ++ (wsX100 ++ (wsX110 ++ (wsX120))))))))))))
def wA : List Cond := wA_0 ++ (wA_1 ++ (wA_2 ++ (wAL)))
set_option maxRecDepth 20000 in
theorem gA_0 : GoodIn lw_tbl wA_0 := gj_r wA_0 [116, 139, 244, 353, 118, 149, 147, 580, 1305, 578, 579, 83, 154, 592, 589, 590, 591, 143, 694, 145, 155, 183, 192, 641] (by decide +kernel) (by decide +kernel)
set_option maxRecDepth 20000 in
theorem gA_1 : GoodIn lw_tbl wA_1 := gj_r wA_1 [640, 637, 638, 639, 84, 203, 199, 195, 201, 197, 208, 205, 636, 654, 634, 635, 185, 189, 830, 827, 829, 7, 767, 764] (by decide +kernel) (by decide +kernel)
set_option maxRecDepth 20000 in
theorem gA_2 : GoodIn lw_tbl wA_2 := gj_r wA_2 [766, 4] (by decide +kernel) (by decide +kernel)
set_option maxRecDepth 20000 in
theorem gAL_0 : GoodIn lw_tbl wsX00 := goodIn_p wsX00 [] (by decide +kernel) (by decide +kernel)
set_option maxRecDepth 20000 in
theorem gAL_1 : GoodIn lw_tbl wsX10 := goodIn_p wsX10 [] (by decide +kernel) (by decide +kernel)
set_option maxRecDepth 20000 in
theorem gAL_2 : GoodIn lw_tbl wsX20 := goodIn_p wsX20 [] (by decide +kernel) (by decide +kernel)
set_option maxRecDepth 20000 in
theorem gAL_3 : GoodIn lw_tbl wsX30 := goodIn_p wsX30 [] (by decide +kernel) (by decide +kernel)
set_option maxRecDepth 20000 in
theorem gAL_4 : GoodIn lw_tbl wsX40 := goodIn_p wsX40 [] (by decide +kernel) (by decide +kernel)
set_option maxRecDepth 20000 in
theorem gAL_5 : GoodIn lw_tbl wsX50 := goodIn_p wsX50 [] (by decide +kernel) (by decide +kernel)
set_option maxRecDepth 20000 in
theorem gAL_6 : GoodIn lw_tbl wsX60 := goodIn_p wsX60 [] (by decide +kernel) (by decide +kernel)
set_option maxRecDepth 20000 in
theorem gAL_7 : GoodIn lw_tbl wsX70 := goodIn_p wsX70 [] (by decide +kernel) (by decide +kernel)
set_option maxRecDepth 20000 in
theorem gAL_8 : GoodIn lw_tbl wsX80 := goodIn_p wsX80 [] (by decide +kernel) (by decide +kernel)
set_option maxRecDepth 20000 in
theorem gAL_9 : GoodIn lw_tbl wsX90 := goodIn_p wsX90 [] (by decide +kernel) (by decide +kernel)
set_option maxRecDepth 20000 in
theorem gAL_10 : GoodIn lw_tbl wsX100 := goodIn_p wsX100 [] (by decide +kernel) (by decide +kernel)
set_option maxRecDepth 20000 in
theorem gAL_11 : GoodIn lw_tbl wsX110 := goodIn_p wsX110 [] (by decide +kernel) (by decide +kernel)
set_option maxRecDepth 20000 in
theorem gAL_12 : GoodIn lw_tbl wsX120 := goodIn_p wsX120 [] (by decide +kernel) (by decide +kernel)
theorem gj_app {big a b : List Cond} (ha : GoodIn big a) (hb : GoodIn big b) : GoodIn big (a ++ b) := fun w h => (List.mem_append.mp h).elim (ha w) (hb w)
theorem gAL : GoodIn lw_tbl wAL := gj_app gAL_0 (gj_app gAL_1 (gj_app gAL_2 (gj_app gAL_3 (gj_app gAL_4 (gj_app gAL_5 (gj_app gAL_6 (gj_app gAL_7 (gj_app gAL_8 (gj_app gAL_9 (gj_app gAL_10 (gj_app gAL_11 (gAL_12))))))))))))
theorem gA : GoodIn lw_tbl wA := gj_app gA_0 (gj_app gA_1 (gj_app gA_2 (gAL)))
theorem wA_in : ∀ w ∈ wA, w ∈ lw_tbl := fun w h => (gA w h).1
theorem gS {cd : Cond} (h : cd ∈ wA) : GoodIn wA (cd :: wA) := fun w hw => (List.mem_cons.mp hw).elim (fun e => e ▸ ⟨h, (gA _ h).2⟩) (fun h => ⟨h, (gA _ h).2⟩)
theorem gOf {ws : List Cond} (h : ∀ w ∈ ws, w ∈ wA) : GoodIn wA ws := fun w hw => ⟨h w hw, (gA _ (h w hw)).2⟩
theorem gV {own C : String} {idx : Nat} {y : MethodName} {cd : Cond} (h0 : cd ∈ wA) (h1 : Cond.methodLink own idx y ∈ wA) (h2 : Cond.instanceMethod y ∈ wA) (h3 : Cond.selects C y y ∈ wA) (h4 : Cond.initialized C ∈ wA) : GoodIn wA (wsV own idx C y (cd :: wA)) := gj_app (gOf (List.forall_mem_cons.mpr ⟨h1, List.forall_mem_cons.mpr ⟨h2, List.forall_mem_cons.mpr ⟨h3, List.forall_mem_cons.mpr ⟨h4, fun _ h => absurd h List.not_mem_nil⟩⟩⟩⟩)) (gS h0)
theorem gT {own : String} {idx : Nat} {y : MethodName} {cd : Cond} (h0 : cd ∈ wA) (h1 : Cond.methodLink own idx y ∈ wA) (h2 : Cond.static y ∈ wA) (h4 : Cond.initialized y.cls ∈ wA) : GoodIn wA (va_wsS own idx y (cd :: wA)) := gj_app (gOf (List.forall_mem_cons.mpr ⟨h1, List.forall_mem_cons.mpr ⟨h2, List.forall_mem_cons.mpr ⟨h4, fun _ h => absurd h List.not_mem_nil⟩⟩⟩)) (gS h0)
theorem uA_0 : ∀ w ∈ wA_0, w ∈ wA := fun _ h => List.mem_append_left _ h
theorem uA_1 : ∀ w ∈ wA_1, w ∈ wA := fun _ h => List.mem_append_right _ (List.mem_append_left _ h)
theorem uA_2 : ∀ w ∈ wA_2, w ∈ wA := fun _ h => List.mem_append_right _ (List.mem_append_right _ (List.mem_append_left _ h))
theorem inA_X0 : ∀ w ∈ u_ws RX0 TX0 9, w ∈ wA := fun _ h => List.mem_append_right _ (List.mem_append_right _ (List.mem_append_right _ (List.mem_append_left _ h)))
theorem inA_X1 : ∀ w ∈ u_ws RX1 TX1 13, w ∈ wA := fun _ h => List.mem_append_right _ (List.mem_append_right _ (List.mem_append_right _ (List.mem_append_right _ (List.mem_append_left _ h))))
theorem inA_X2 : ∀ w ∈ u_ws RX2 TX2 4, w ∈ wA := fun _ h => List.mem_append_right _ (List.mem_append_right _ (List.mem_append_right _ (List.mem_append_right _ (List.mem_append_right _ (List.mem_append_left _ h)))))
theorem inA_X3 : ∀ w ∈ u_ws RX3 TX3 5, w ∈ wA := fun _ h => List.mem_append_right _ (List.mem_append_right _ (List.mem_append_right _ (List.mem_append_right _ (List.mem_append_right _ (List.mem_append_right _ (List.mem_append_left _ h))))))
theorem inA_X4 : ∀ w ∈ u_ws RX4 TX4 7, w ∈ wA := fun _ h => List.mem_append_right _ (List.mem_append_right _ (List.mem_append_right _ (List.mem_append_right _ (List.mem_append_right _ (List.mem_append_right _ (List.mem_append_right _ (List.mem_append_left _ h)))))))
theorem inA_X5 : ∀ w ∈ u_ws RX5 TX5 6, w ∈ wA := fun _ h => List.mem_append_right _ (List.mem_append_right _ (List.mem_append_right _ (List.mem_append_right _ (List.mem_append_right _ (List.mem_append_right _ (List.mem_append_right _ (List.mem_append_right _ (List.mem_append_left _ h))))))))
theorem inA_X6 : ∀ w ∈ u_ws RX6 TX6 5, w ∈ wA := fun _ h => List.mem_append_right _ (List.mem_append_right _ (List.mem_append_right _ (List.mem_append_right _ (List.mem_append_right _ (List.mem_append_right _ (List.mem_append_right _ (List.mem_append_right _ (List.mem_append_right _ (List.mem_append_left _ h)))))))))
theorem inA_X7 : ∀ w ∈ u_ws RX7 TX7 7, w ∈ wA := fun _ h => List.mem_append_right _ (List.mem_append_right _ (List.mem_append_right _ (List.mem_append_right _ (List.mem_append_right _ (List.mem_append_right _ (List.mem_append_right _ (List.mem_append_right _ (List.mem_append_right _ (List.mem_append_right _ (List.mem_append_left _ h))))))))))
theorem inA_X8 : ∀ w ∈ u_ws RX8 TX8 10, w ∈ wA := fun _ h => List.mem_append_right _ (List.mem_append_right _ (List.mem_append_right _ (List.mem_append_right _ (List.mem_append_right _ (List.mem_append_right _ (List.mem_append_right _ (List.mem_append_right _ (List.mem_append_right _ (List.mem_append_right _ (List.mem_append_right _ (List.mem_append_left _ h)))))))))))
theorem inA_X9 : ∀ w ∈ u_ws RX9 TX9 11, w ∈ wA := fun _ h => List.mem_append_right _ (List.mem_append_right _ (List.mem_append_right _ (List.mem_append_right _ (List.mem_append_right _ (List.mem_append_right _ (List.mem_append_right _ (List.mem_append_right _ (List.mem_append_right _ (List.mem_append_right _ (List.mem_append_right _ (List.mem_append_right _ (List.mem_append_left _ h))))))))))))
theorem inA_X10 : ∀ w ∈ u_ws RX10 TX10 2, w ∈ wA := fun _ h => List.mem_append_right _ (List.mem_append_right _ (List.mem_append_right _ (List.mem_append_right _ (List.mem_append_right _ (List.mem_append_right _ (List.mem_append_right _ (List.mem_append_right _ (List.mem_append_right _ (List.mem_append_right _ (List.mem_append_right _ (List.mem_append_right _ (List.mem_append_right _ (List.mem_append_left _ h)))))))))))))
theorem inA_X11 : ∀ w ∈ u_ws RX11 TX11 14, w ∈ wA := fun _ h => List.mem_append_right _ (List.mem_append_right _ (List.mem_append_right _ (List.mem_append_right _ (List.mem_append_right _ (List.mem_append_right _ (List.mem_append_right _ (List.mem_append_right _ (List.mem_append_right _ (List.mem_append_right _ (List.mem_append_right _ (List.mem_append_right _ (List.mem_append_right _ (List.mem_append_right _ (List.mem_append_left _ h))))))))))))))
theorem inA_X12 : ∀ w ∈ u_ws RX12 TX12 63, w ∈ wA := fun _ h => List.mem_append_right _ (List.mem_append_right _ (List.mem_append_right _ (List.mem_append_right _ (List.mem_append_right _ (List.mem_append_right _ (List.mem_append_right _ (List.mem_append_right _ (List.mem_append_right _ (List.mem_append_right _ (List.mem_append_right _ (List.mem_append_right _ (List.mem_append_right _ (List.mem_append_right _ (List.mem_append_right _ (h)))))))))))))))
theorem wk_0 : Cond.fieldLink RX2 21 "PlanesBack$Kinds" "size" "I" ∈ wA := uA_0 _ (List.mem_of_getElem? (i := 0) rfl)
theorem wk_1 : Cond.fieldLink RX8 39 "PlanesBack$Planes" "size" "I" ∈ wA := uA_0 _ (List.mem_of_getElem? (i := 1) rfl)
theorem wk_2 : Cond.fieldLink RX7 31 "PlanesBack$Parts" "size" "I" ∈ wA := uA_0 _ (List.mem_of_getElem? (i := 2) rfl)
theorem wk_3 : Cond.fieldLink RX6 26 "PlanesBack$Orders" "size" "I" ∈ wA := uA_0 _ (List.mem_of_getElem? (i := 3) rfl)
theorem wk_4 : Cond.fieldLink RX2 9 "PlanesBack$Kinds" "limits" "[I" ∈ wA := uA_0 _ (List.mem_of_getElem? (i := 4) rfl)
theorem wk_5 : Cond.fieldLink RX8 24 "PlanesBack$Planes" "backDay" "[I" ∈ wA := uA_0 _ (List.mem_of_getElem? (i := 5) rfl)
theorem wk_6 : Cond.fieldLink RX8 21 "PlanesBack$Planes" "backCost" "[I" ∈ wA := uA_0 _ (List.mem_of_getElem? (i := 6) rfl)
theorem wk_7 : Cond.code yX8_isBack cX8_isBack 2 (some .boolean) ∈ wA := uA_0 _ (List.mem_of_getElem? (i := 7) rfl)
theorem wk_8 : Cond.methodLink RX8 43 yX8_isBack ∈ wA := uA_0 _ (List.mem_of_getElem? (i := 8) rfl)
theorem wk_9 : Cond.instanceMethod yX8_isBack ∈ wA := uA_0 _ (List.mem_of_getElem? (i := 9) rfl)
theorem wk_10 : Cond.selects RX8 yX8_isBack yX8_isBack ∈ wA := uA_0 _ (List.mem_of_getElem? (i := 10) rfl)
theorem wk_11 : Cond.initialized RX8 ∈ wA := uA_0 _ (List.mem_of_getElem? (i := 11) rfl)
theorem wk_12 : Cond.fieldLink RX8 33 "PlanesBack$Planes" "needs" "[I" ∈ wA := uA_0 _ (List.mem_of_getElem? (i := 12) rfl)
theorem wk_13 : Cond.code yX8_needOf cX8_needOf 3 (some .int) ∈ wA := uA_0 _ (List.mem_of_getElem? (i := 13) rfl)
theorem wk_14 : Cond.methodLink RX8 47 yX8_needOf ∈ wA := uA_0 _ (List.mem_of_getElem? (i := 14) rfl)
theorem wk_15 : Cond.instanceMethod yX8_needOf ∈ wA := uA_0 _ (List.mem_of_getElem? (i := 15) rfl)
theorem wk_16 : Cond.selects RX8 yX8_needOf yX8_needOf ∈ wA := uA_0 _ (List.mem_of_getElem? (i := 16) rfl)
theorem wk_17 : Cond.fieldLink RX8 15 "PlanesBack$Planes" "hours" "[I" ∈ wA := uA_0 _ (List.mem_of_getElem? (i := 17) rfl)
theorem wk_18 : Cond.constant RX8 51 (999999) ∈ wA := uA_0 _ (List.mem_of_getElem? (i := 18) rfl)
theorem wk_19 : Cond.fieldLink RX8 18 "PlanesBack$Planes" "landings" "[I" ∈ wA := uA_0 _ (List.mem_of_getElem? (i := 19) rfl)
theorem wk_20 : Cond.fieldLink RX8 36 "PlanesBack$Planes" "saved" "[I" ∈ wA := uA_0 _ (List.mem_of_getElem? (i := 20) rfl)
theorem wk_21 : Cond.fieldLink RX9 43 "PlanesBack$Stays" "size" "I" ∈ wA := uA_0 _ (List.mem_of_getElem? (i := 21) rfl)
theorem wk_22 : Cond.fieldLink RX9 18 "PlanesBack$Stays" "to" "[I" ∈ wA := uA_0 _ (List.mem_of_getElem? (i := 22) rfl)
theorem wk_23 : Cond.constant RX9 47 (-2000000000) ∈ wA := uA_0 _ (List.mem_of_getElem? (i := 23) rfl)
theorem wk_24 : Cond.code yX9_goesOn cX9_goesOn 2 (some .boolean) ∈ wA := uA_1 _ (List.mem_of_getElem? (i := 0) rfl)
theorem wk_25 : Cond.methodLink RX9 52 yX9_goesOn ∈ wA := uA_1 _ (List.mem_of_getElem? (i := 1) rfl)
theorem wk_26 : Cond.instanceMethod yX9_goesOn ∈ wA := uA_1 _ (List.mem_of_getElem? (i := 2) rfl)
theorem wk_27 : Cond.selects RX9 yX9_goesOn yX9_goesOn ∈ wA := uA_1 _ (List.mem_of_getElem? (i := 3) rfl)
theorem wk_28 : Cond.initialized RX9 ∈ wA := uA_1 _ (List.mem_of_getElem? (i := 4) rfl)
theorem wk_29 : Cond.fieldLink RX9 33 "PlanesBack$Stays" "paper" "[Z" ∈ wA := uA_1 _ (List.mem_of_getElem? (i := 5) rfl)
theorem wk_30 : Cond.fieldLink RX9 27 "PlanesBack$Stays" "landingsAtStart" "[I" ∈ wA := uA_1 _ (List.mem_of_getElem? (i := 6) rfl)
theorem wk_31 : Cond.fieldLink RX9 21 "PlanesBack$Stays" "hoursAtStart" "[I" ∈ wA := uA_1 _ (List.mem_of_getElem? (i := 7) rfl)
theorem wk_32 : Cond.fieldLink RX9 30 "PlanesBack$Stays" "landingsAtEnd" "[I" ∈ wA := uA_1 _ (List.mem_of_getElem? (i := 8) rfl)
theorem wk_33 : Cond.fieldLink RX9 24 "PlanesBack$Stays" "hoursAtEnd" "[I" ∈ wA := uA_1 _ (List.mem_of_getElem? (i := 9) rfl)
theorem wk_34 : Cond.fieldLink RX9 40 "PlanesBack$Stays" "first" "[I" ∈ wA := uA_1 _ (List.mem_of_getElem? (i := 10) rfl)
theorem wk_35 : Cond.fieldLink RX9 37 "PlanesBack$Stays" "next" "[I" ∈ wA := uA_1 _ (List.mem_of_getElem? (i := 11) rfl)
theorem wk_36 : Cond.code yX9_isGap cX9_isGap 2 (some .boolean) ∈ wA := uA_1 _ (List.mem_of_getElem? (i := 12) rfl)
theorem wk_37 : Cond.methodLink RX9 56 yX9_isGap ∈ wA := uA_1 _ (List.mem_of_getElem? (i := 13) rfl)
theorem wk_38 : Cond.instanceMethod yX9_isGap ∈ wA := uA_1 _ (List.mem_of_getElem? (i := 14) rfl)
theorem wk_39 : Cond.selects RX9 yX9_isGap yX9_isGap ∈ wA := uA_1 _ (List.mem_of_getElem? (i := 15) rfl)
theorem wk_40 : Cond.fieldLink RX9 9 "PlanesBack$Stays" "where" "[I" ∈ wA := uA_1 _ (List.mem_of_getElem? (i := 16) rfl)
theorem wk_41 : Cond.fieldLink RX9 15 "PlanesBack$Stays" "from" "[I" ∈ wA := uA_1 _ (List.mem_of_getElem? (i := 17) rfl)
theorem wk_42 : Cond.code yX9_lastDay cX9_lastDay 3 (some .int) ∈ wA := uA_1 _ (List.mem_of_getElem? (i := 18) rfl)
theorem wk_43 : Cond.methodLink RX9 59 yX9_lastDay ∈ wA := uA_1 _ (List.mem_of_getElem? (i := 19) rfl)
theorem wk_44 : Cond.instanceMethod yX9_lastDay ∈ wA := uA_1 _ (List.mem_of_getElem? (i := 20) rfl)
theorem wk_45 : Cond.selects RX9 yX9_lastDay yX9_lastDay ∈ wA := uA_1 _ (List.mem_of_getElem? (i := 21) rfl)
theorem wk_46 : Cond.code yX9_chain cX9_chain 6 none ∈ wA := uA_1 _ (List.mem_of_getElem? (i := 22) rfl)
theorem wk_47 : Cond.methodLink RX9 48 yX9_chain ∈ wA := uA_1 _ (List.mem_of_getElem? (i := 23) rfl)
theorem wk_48 : Cond.instanceMethod yX9_chain ∈ wA := uA_2 _ (List.mem_of_getElem? (i := 0) rfl)
theorem wk_49 : Cond.selects RX9 yX9_chain yX9_chain ∈ wA := uA_2 _ (List.mem_of_getElem? (i := 1) rfl)
