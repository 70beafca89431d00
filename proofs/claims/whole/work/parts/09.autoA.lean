abbrev mX1_triples : mM := (yX1_triples, cX1_triples, 1, (some .int), [])
theorem u138 : (Cond.fieldLink "LineFollowerBench$Grid" 18 "LineFollowerBench$Grid" "counts" "[I" : Cond) ∈ mTs := mTs_in 138 (by decide +kernel) (by decide +kernel)
theorem in_X1 : ∀ w ∈ u_ws RX1 TX1 3, w ∈ mTs := fun w h => mTs_of (L := u_ws RX1 TX1 3) (goodIn_r _ [141, 143, 145] (by decide +kernel) (by decide +kernel)) (by decide +kernel) w h
theorem f_X1_18 : mFld "LineFollowerBench$Grid" 18 1 2 := ⟨RX1, TX1, 3, "LineFollowerBench$Grid", rfl, by decide, in_X1, u138, Or.inl rfl, by decide⟩
abbrev mX4_begin : mM := (yX4_begin, cX4_begin, 1, none, [])
theorem u323 : (Cond.fieldLink "LineFollowerBench$Simulation" 18 "LineFollowerBench$Simulation" "settings" "[I" : Cond) ∈ mTs := mTs_in 323 (by decide +kernel) (by decide +kernel)
theorem in_X4 : ∀ w ∈ u_ws RX4 TX4 11, w ∈ mTs := fun w h => mTs_of (L := u_ws RX4 TX4 11) (goodIn_r _ [335, 337, 339, 341, 343, 345, 347, 349, 351, 353, 355] (by decide +kernel) (by decide +kernel)) (by decide +kernel) w h
theorem f_X4_18 : mFld "LineFollowerBench$Simulation" 18 4 0 := ⟨RX4, TX4, 11, "LineFollowerBench$Simulation", rfl, by decide, in_X4, u323, Or.inl rfl, by decide⟩
theorem u329 : (Cond.fieldLink "LineFollowerBench$Simulation" 39 "LineFollowerBench$Simulation" "error" "I" : Cond) ∈ mTs := mTs_in 329 (by decide +kernel) (by decide +kernel)
theorem p_X4_39 : mPut "LineFollowerBench$Simulation" 39 4 5 (.int) false := ⟨RX4, TX4, 11, "LineFollowerBench$Simulation", tyX4, rfl, by decide, in_X4, u329, Or.inl rfl, by decide, tyX4_ok, nmX4, by decide +kernel, rfl, fun h => by cases h⟩
theorem ob_4_5 (w : mH) (a : Nat) (v : Int32) : mOb (sfi w a 5 v) a 4 = (mOb w a 4).set 5 (.int v) := by simp [mOb, hfi_sfi, hfl_sfi, hfr_sfi, up2]
theorem u330 : (Cond.fieldLink "LineFollowerBench$Simulation" 43 "LineFollowerBench$Simulation" "heading" "I" : Cond) ∈ mTs := mTs_in 330 (by decide +kernel) (by decide +kernel)
theorem p_X4_43 : mPut "LineFollowerBench$Simulation" 43 4 6 (.int) false := ⟨RX4, TX4, 11, "LineFollowerBench$Simulation", tyX4, rfl, by decide, in_X4, u330, Or.inl rfl, by decide, tyX4_ok, nmX4, by decide +kernel, rfl, fun h => by cases h⟩
theorem ob_4_6 (w : mH) (a : Nat) (v : Int32) : mOb (sfi w a 6 v) a 4 = (mOb w a 4).set 6 (.int v) := by simp [mOb, hfi_sfi, hfl_sfi, hfr_sfi, up2]
theorem u331 : (Cond.fieldLink "LineFollowerBench$Simulation" 46 "LineFollowerBench$Simulation" "actuator" "I" : Cond) ∈ mTs := mTs_in 331 (by decide +kernel) (by decide +kernel)
theorem p_X4_46 : mPut "LineFollowerBench$Simulation" 46 4 7 (.int) false := ⟨RX4, TX4, 11, "LineFollowerBench$Simulation", tyX4, rfl, by decide, in_X4, u331, Or.inl rfl, by decide, tyX4_ok, nmX4, by decide +kernel, rfl, fun h => by cases h⟩
theorem ob_4_7 (w : mH) (a : Nat) (v : Int32) : mOb (sfi w a 7 v) a 4 = (mOb w a 4).set 7 (.int v) := by simp [mOb, hfi_sfi, hfl_sfi, hfr_sfi, up2]
theorem u332 : (Cond.fieldLink "LineFollowerBench$Simulation" 49 "LineFollowerBench$Simulation" "integral" "I" : Cond) ∈ mTs := mTs_in 332 (by decide +kernel) (by decide +kernel)
theorem p_X4_49 : mPut "LineFollowerBench$Simulation" 49 4 8 (.int) false := ⟨RX4, TX4, 11, "LineFollowerBench$Simulation", tyX4, rfl, by decide, in_X4, u332, Or.inl rfl, by decide, tyX4_ok, nmX4, by decide +kernel, rfl, fun h => by cases h⟩
theorem ob_4_8 (w : mH) (a : Nat) (v : Int32) : mOb (sfi w a 8 v) a 4 = (mOb w a 4).set 8 (.int v) := by simp [mOb, hfi_sfi, hfl_sfi, hfr_sfi, up2]
theorem u333 : (Cond.fieldLink "LineFollowerBench$Simulation" 52 "LineFollowerBench$Simulation" "output" "I" : Cond) ∈ mTs := mTs_in 333 (by decide +kernel) (by decide +kernel)
theorem p_X4_52 : mPut "LineFollowerBench$Simulation" 52 4 9 (.int) false := ⟨RX4, TX4, 11, "LineFollowerBench$Simulation", tyX4, rfl, by decide, in_X4, u333, Or.inl rfl, by decide, tyX4_ok, nmX4, by decide +kernel, rfl, fun h => by cases h⟩
theorem ob_4_9 (w : mH) (a : Nat) (v : Int32) : mOb (sfi w a 9 v) a 4 = (mOb w a 4).set 9 (.int v) := by simp [mOb, hfi_sfi, hfl_sfi, hfr_sfi, up2]
theorem u334 : (Cond.fieldLink "LineFollowerBench$Simulation" 55 "LineFollowerBench$Simulation" "isSaturated" "Z" : Cond) ∈ mTs := mTs_in 334 (by decide +kernel) (by decide +kernel)
theorem p_X4_55 : mPut "LineFollowerBench$Simulation" 55 4 10 (.boolean) false := ⟨RX4, TX4, 11, "LineFollowerBench$Simulation", tyX4, rfl, by decide, in_X4, u334, Or.inl rfl, by decide, tyX4_ok, nmX4, by decide +kernel, rfl, fun h => by cases h⟩
theorem ob_4_10 (w : mH) (a : Nat) (v : Int32) : mOb (sfi w a 10 v) a 4 = (mOb w a 4).set 10 (.int v) := by simp [mOb, hfi_sfi, hfl_sfi, hfr_sfi, up2]
abbrev mX4_measuredError : mM := (yX4_measuredError, cX4_measuredError, 2, (some .int), [])
theorem f_X4_39 : mFld "LineFollowerBench$Simulation" 39 4 5 := ⟨RX4, TX4, 11, "LineFollowerBench$Simulation", rfl, by decide, in_X4, u329, Or.inl rfl, by decide⟩
abbrev mX4_seenStep : mM := (yX4_seenStep, cX4_seenStep, 2, (some .int), [])
theorem u542 : (Cond.methodLink "LineFollowerBench$Simulation" 136 ⟨"java/lang/Math", "max", "(II)I"⟩ : Cond) ∈ mTs := mTs_in 542 (by decide +kernel) (by decide +kernel)
theorem u543 : (Cond.static ⟨"java/lang/Math", "max", "(II)I"⟩ : Cond) ∈ mTs := mTs_in 543 (by decide +kernel) (by decide +kernel)
theorem u91 : (Cond.initialized "java/lang/Math" : Cond) ∈ mTs := mTs_in 91 (by decide +kernel) (by decide +kernel)
theorem u544 : (Cond.code ⟨"java/lang/Math", "max", "(II)I"⟩ prog_28_method_65_code 2 (some .int) : Cond) ∈ mTs := mTs_in 544 (by decide +kernel) (by decide +kernel)
abbrev mX4_ofTwoOutputs : mM := (yX4_ofTwoOutputs, cX4_ofTwoOutputs, 2, (some .int), [])
theorem f_X4_52 : mFld "LineFollowerBench$Simulation" 52 4 9 := ⟨RX4, TX4, 11, "LineFollowerBench$Simulation", rfl, by decide, in_X4, u333, Or.inl rfl, by decide⟩
abbrev mX5_has : mM := (yX5_has, cX5_has, 2, (some .boolean), [])
theorem u159 : (Cond.fieldLink "LineFollowerBench$Table" 18 "LineFollowerBench$Table" "size" "I" : Cond) ∈ mTs := mTs_in 159 (by decide +kernel) (by decide +kernel)
theorem in_X5 : ∀ w ∈ u_ws RX5 TX5 3, w ∈ mTs := fun w h => mTs_of (L := u_ws RX5 TX5 3) (goodIn_r _ [161, 163, 165] (by decide +kernel) (by decide +kernel)) (by decide +kernel) w h
theorem f_X5_18 : mFld "LineFollowerBench$Table" 18 5 2 := ⟨RX5, TX5, 3, "LineFollowerBench$Table", rfl, by decide, in_X5, u159, Or.inl rfl, by decide⟩
abbrev mX5_valueBetween : mM := (yX5_valueBetween, cX5_valueBetween, 6, (some .int), [])
theorem u155 : (Cond.fieldLink "LineFollowerBench$Table" 9 "LineFollowerBench$Table" "places" "[I" : Cond) ∈ mTs := mTs_in 155 (by decide +kernel) (by decide +kernel)
theorem f_X5_9 : mFld "LineFollowerBench$Table" 9 5 0 := ⟨RX5, TX5, 3, "LineFollowerBench$Table", rfl, by decide, in_X5, u155, Or.inl rfl, by decide⟩
theorem u157 : (Cond.fieldLink "LineFollowerBench$Table" 15 "LineFollowerBench$Table" "values" "[I" : Cond) ∈ mTs := mTs_in 157 (by decide +kernel) (by decide +kernel)
theorem f_X5_15 : mFld "LineFollowerBench$Table" 15 5 1 := ⟨RX5, TX5, 3, "LineFollowerBench$Table", rfl, by decide, in_X5, u157, Or.inl rfl, by decide⟩
abbrev mX6_isMade : mM := (yX6_isMade, cX6_isMade, 1, (some .boolean), [])
theorem u378 : (Cond.fieldLink "LineFollowerBench$Trace" 30 "LineFollowerBench$Trace" "steps" "I" : Cond) ∈ mTs := mTs_in 378 (by decide +kernel) (by decide +kernel)
theorem in_X6 : ∀ w ∈ u_ws RX6 TX6 7, w ∈ mTs := fun w h => mTs_of (L := u_ws RX6 TX6 7) (goodIn_r _ [381, 383, 385, 387, 389, 391, 393] (by decide +kernel) (by decide +kernel)) (by decide +kernel) w h
theorem f_X6_30 : mFld "LineFollowerBench$Trace" 30 6 6 := ⟨RX6, TX6, 7, "LineFollowerBench$Trace", rfl, by decide, in_X6, u378, Or.inl rfl, by decide⟩
abbrev mX6_lastError : mM := (yX6_lastError, cX6_lastError, 1, (some .int), [])
theorem u593 : (Cond.code ⟨"LineFollowerBench$Trace", "isMade", "()Z"⟩ prog_8_method_2_code 1 (some .boolean) : Cond) ∈ mTs := mTs_in 593 (by decide +kernel) (by decide +kernel)
theorem u82 : (Cond.initialized "LineFollowerBench$Trace" : Cond) ∈ mTs := mTs_in 82 (by decide +kernel) (by decide +kernel)
theorem co_X6_isMade : mCode mX6_isMade := ⟨u593, u82, by decide⟩
theorem u590 : (Cond.methodLink "LineFollowerBench$Trace" 64 ⟨"LineFollowerBench$Trace", "isMade", "()Z"⟩ : Cond) ∈ mTs := mTs_in 590 (by decide +kernel) (by decide +kernel)
theorem u591 : (Cond.instanceMethod ⟨"LineFollowerBench$Trace", "isMade", "()Z"⟩ : Cond) ∈ mTs := mTs_in 591 (by decide +kernel) (by decide +kernel)
theorem u592 : (Cond.selects "LineFollowerBench$Trace" ⟨"LineFollowerBench$Trace", "isMade", "()Z"⟩ ⟨"LineFollowerBench$Trace", "isMade", "()Z"⟩ : Cond) ∈ mTs := mTs_in 592 (by decide +kernel) (by decide +kernel)
theorem l_X6_64 : mLinkV "LineFollowerBench$Trace" 64 0 mX6_isMade := ⟨⟨by decide, by decide, by decide +kernel⟩, co_X6_isMade, u590, u591, u592⟩
theorem u364 : (Cond.fieldLink "LineFollowerBench$Trace" 9 "LineFollowerBench$Trace" "errors" "[I" : Cond) ∈ mTs := mTs_in 364 (by decide +kernel) (by decide +kernel)
theorem f_X6_9 : mFld "LineFollowerBench$Trace" 9 6 0 := ⟨RX6, TX6, 7, "LineFollowerBench$Trace", rfl, by decide, in_X6, u364, Or.inl rfl, by decide⟩
abbrev mX6_areOpposite : mM := (yX6_areOpposite, cX6_areOpposite, 2, (some .boolean), [])
abbrev mX7_clear : mM := (yX7_clear, cX7_clear, 1, none, [])
theorem u177 : (Cond.fieldLink "LineFollowerBench$Track" 21 "LineFollowerBench$Track" "segments" "I" : Cond) ∈ mTs := mTs_in 177 (by decide +kernel) (by decide +kernel)
theorem in_X7 : ∀ w ∈ u_ws RX7 TX7 8, w ∈ mTs := fun w h => mTs_of (L := u_ws RX7 TX7 8) (goodIn_r _ [184, 186, 188, 190, 192, 194, 196, 198] (by decide +kernel) (by decide +kernel)) (by decide +kernel) w h
theorem p_X7_21 : mPut "LineFollowerBench$Track" 21 7 3 (.int) false := ⟨RX7, TX7, 8, "LineFollowerBench$Track", tyX7, rfl, by decide, in_X7, u177, Or.inl rfl, by decide, tyX7_ok, nmX7, by decide +kernel, rfl, fun h => by cases h⟩
theorem ob_7_3 (w : mH) (a : Nat) (v : Int32) : mOb (sfi w a 3 v) a 7 = (mOb w a 7).set 3 (.int v) := by simp [mOb, hfi_sfi, hfl_sfi, hfr_sfi, up2]
theorem u182 : (Cond.fieldLink "LineFollowerBench$Track" 34 "LineFollowerBench$Track" "disturbances" "I" : Cond) ∈ mTs := mTs_in 182 (by decide +kernel) (by decide +kernel)
theorem p_X7_34 : mPut "LineFollowerBench$Track" 34 7 7 (.int) false := ⟨RX7, TX7, 8, "LineFollowerBench$Track", tyX7, rfl, by decide, in_X7, u182, Or.inl rfl, by decide, tyX7_ok, nmX7, by decide +kernel, rfl, fun h => by cases h⟩
theorem ob_7_7 (w : mH) (a : Nat) (v : Int32) : mOb (sfi w a 7 v) a 7 = (mOb w a 7).set 7 (.int v) := by simp [mOb, hfi_sfi, hfl_sfi, hfr_sfi, up2]
abbrev mX7_hasRoomFor : mM := (yX7_hasRoomFor, cX7_hasRoomFor, 2, (some .boolean), [])
theorem f_X7_21 : mFld "LineFollowerBench$Track" 21 7 3 := ⟨RX7, TX7, 8, "LineFollowerBench$Track", rfl, by decide, in_X7, u177, Or.inl rfl, by decide⟩
theorem f_X7_34 : mFld "LineFollowerBench$Track" 34 7 7 := ⟨RX7, TX7, 8, "LineFollowerBench$Track", rfl, by decide, in_X7, u182, Or.inl rfl, by decide⟩
abbrev mX7_addSegment : mM := (yX7_addSegment, cX7_addSegment, 4, none, [])
theorem u174 : (Cond.fieldLink "LineFollowerBench$Track" 9 "LineFollowerBench$Track" "kinds" "[I" : Cond) ∈ mTs := mTs_in 174 (by decide +kernel) (by decide +kernel)
theorem f_X7_9 : mFld "LineFollowerBench$Track" 9 7 0 := ⟨RX7, TX7, 8, "LineFollowerBench$Track", rfl, by decide, in_X7, u174, Or.inl rfl, by decide⟩
theorem u175 : (Cond.fieldLink "LineFollowerBench$Track" 15 "LineFollowerBench$Track" "lengths" "[I" : Cond) ∈ mTs := mTs_in 175 (by decide +kernel) (by decide +kernel)
theorem f_X7_15 : mFld "LineFollowerBench$Track" 15 7 1 := ⟨RX7, TX7, 8, "LineFollowerBench$Track", rfl, by decide, in_X7, u175, Or.inl rfl, by decide⟩
theorem u176 : (Cond.fieldLink "LineFollowerBench$Track" 18 "LineFollowerBench$Track" "curvatures" "[I" : Cond) ∈ mTs := mTs_in 176 (by decide +kernel) (by decide +kernel)
theorem f_X7_18 : mFld "LineFollowerBench$Track" 18 7 2 := ⟨RX7, TX7, 8, "LineFollowerBench$Track", rfl, by decide, in_X7, u176, Or.inl rfl, by decide⟩
abbrev mX7_addDisturbance : mM := (yX7_addDisturbance, cX7_addDisturbance, 4, none, [])
theorem u179 : (Cond.fieldLink "LineFollowerBench$Track" 25 "LineFollowerBench$Track" "pushFirsts" "[I" : Cond) ∈ mTs := mTs_in 179 (by decide +kernel) (by decide +kernel)
theorem f_X7_25 : mFld "LineFollowerBench$Track" 25 7 4 := ⟨RX7, TX7, 8, "LineFollowerBench$Track", rfl, by decide, in_X7, u179, Or.inl rfl, by decide⟩
theorem u180 : (Cond.fieldLink "LineFollowerBench$Track" 28 "LineFollowerBench$Track" "pushValues" "[I" : Cond) ∈ mTs := mTs_in 180 (by decide +kernel) (by decide +kernel)
theorem f_X7_28 : mFld "LineFollowerBench$Track" 28 7 5 := ⟨RX7, TX7, 8, "LineFollowerBench$Track", rfl, by decide, in_X7, u180, Or.inl rfl, by decide⟩
theorem u181 : (Cond.fieldLink "LineFollowerBench$Track" 31 "LineFollowerBench$Track" "pushLengths" "[I" : Cond) ∈ mTs := mTs_in 181 (by decide +kernel) (by decide +kernel)
theorem f_X7_31 : mFld "LineFollowerBench$Track" 31 7 6 := ⟨RX7, TX7, 8, "LineFollowerBench$Track", rfl, by decide, in_X7, u181, Or.inl rfl, by decide⟩
abbrev mX7_curvatureInside : mM := (yX7_curvatureInside, cX7_curvatureInside, 3, (some .int), [])
abbrev mX8_sign : mM := (yX8_sign, cX8_sign, 1, (some .char), [])
theorem u263 : (Cond.fieldLink "LineFollowerBench$TrackReader" 29 "LineFollowerBench$TrackReader" "position" "I" : Cond) ∈ mTs := mTs_in 263 (by decide +kernel) (by decide +kernel)
theorem in_X8 : ∀ w ∈ u_ws RX8 TX8 6, w ∈ mTs := fun w h => mTs_of (L := u_ws RX8 TX8 6) (goodIn_r _ [265, 267, 269, 271, 273, 275] (by decide +kernel) (by decide +kernel)) (by decide +kernel) w h
theorem f_X8_29 : mFld "LineFollowerBench$TrackReader" 29 8 4 := ⟨RX8, TX8, 6, "LineFollowerBench$TrackReader", rfl, by decide, in_X8, u263, Or.inl rfl, by decide⟩
theorem u257 : (Cond.fieldLink "LineFollowerBench$TrackReader" 15 "LineFollowerBench$TrackReader" "length" "I" : Cond) ∈ mTs := mTs_in 257 (by decide +kernel) (by decide +kernel)
theorem f_X8_15 : mFld "LineFollowerBench$TrackReader" 15 8 1 := ⟨RX8, TX8, 6, "LineFollowerBench$TrackReader", rfl, by decide, in_X8, u257, Or.inl rfl, by decide⟩
theorem u256 : (Cond.fieldLink "LineFollowerBench$TrackReader" 9 "LineFollowerBench$TrackReader" "text" "[C" : Cond) ∈ mTs := mTs_in 256 (by decide +kernel) (by decide +kernel)
theorem f_X8_9 : mFld "LineFollowerBench$TrackReader" 9 8 0 := ⟨RX8, TX8, 6, "LineFollowerBench$TrackReader", rfl, by decide, in_X8, u256, Or.inl rfl, by decide⟩
abbrev mX8_isDigit : mM := (yX8_isDigit, cX8_isDigit, 1, (some .boolean), [])
abbrev mX8_failAt : mM := (yX8_failAt, cX8_failAt, 2, (some .boolean), [])
theorem u259 : (Cond.fieldLink "LineFollowerBench$TrackReader" 19 "LineFollowerBench$TrackReader" "error" "I" : Cond) ∈ mTs := mTs_in 259 (by decide +kernel) (by decide +kernel)
theorem p_X8_19 : mPut "LineFollowerBench$TrackReader" 19 8 2 (.int) false := ⟨RX8, TX8, 6, "LineFollowerBench$TrackReader", tyX8, rfl, by decide, in_X8, u259, Or.inl rfl, by decide, tyX8_ok, nmX8, by decide +kernel, rfl, fun h => by cases h⟩
theorem ob_8_2 (w : mH) (a : Nat) (v : Int32) : mOb (sfi w a 2 v) a 8 = (mOb w a 8).set 2 (.int v) := by simp [mOb, hfi_sfi, hfl_sfi, hfr_sfi, up2]
abbrev mX10_errorPosition : mM := (yX10_errorPosition, cX10_errorPosition, 1, (some .int), [])
theorem u451 : (Cond.fieldLink "LineFollowerBench" 33 "LineFollowerBench" "reader" "LLineFollowerBench$TrackReader;" : Cond) ∈ mTs := mTs_in 451 (by decide +kernel) (by decide +kernel)
theorem in_X10 : ∀ w ∈ u_ws RX10 TX10 12, w ∈ mTs := fun w h => mTs_of (L := u_ws RX10 TX10 12) (goodIn_r _ [459, 461, 463, 465, 467, 469, 471, 473, 475, 477, 479, 481] (by decide +kernel) (by decide +kernel)) (by decide +kernel) w h
theorem f_X10_33 : mFld "LineFollowerBench" 33 10 4 := ⟨RX10, TX10, 12, "LineFollowerBench", rfl, by decide, in_X10, u451, Or.inl rfl, by decide⟩
theorem u260 : (Cond.fieldLink "LineFollowerBench" 235 "LineFollowerBench$TrackReader" "error" "I" : Cond) ∈ mTs := mTs_in 260 (by decide +kernel) (by decide +kernel)
theorem f_X10_235 : mFld "LineFollowerBench" 235 8 2 := ⟨RX8, TX8, 6, "LineFollowerBench$TrackReader", rfl, by decide, in_X8, u260, Or.inl rfl, by decide⟩
abbrev mX10_foundBy : mM := (yX10_foundBy, cX10_foundBy, 2, (some (.object "LineFollowerBench$Found")), [])
theorem u457 : (Cond.fieldLink "LineFollowerBench" 71 "LineFollowerBench" "searched" "LLineFollowerBench$Found;" : Cond) ∈ mTs := mTs_in 457 (by decide +kernel) (by decide +kernel)
theorem f_X10_71 : mFld "LineFollowerBench" 71 10 10 := ⟨RX10, TX10, 12, "LineFollowerBench", rfl, by decide, in_X10, u457, Or.inl rfl, by decide⟩
theorem u458 : (Cond.fieldLink "LineFollowerBench" 75 "LineFollowerBench" "climbed" "LLineFollowerBench$Found;" : Cond) ∈ mTs := mTs_in 458 (by decide +kernel) (by decide +kernel)
theorem f_X10_75 : mFld "LineFollowerBench" 75 10 11 := ⟨RX10, TX10, 12, "LineFollowerBench", rfl, by decide, in_X10, u458, Or.inl rfl, by decide⟩
abbrev mX10_isWithin : mM := (yX10_isWithin, cX10_isWithin, 3, (some .boolean), [])
abbrev mX10_limited : mM := (yX10_limited, cX10_limited, 2, (some .int), [])
abbrev mX10_copyRow : mM := (yX10_copyRow, cX10_copyRow, 2, none, [])
theorem u499 : (Cond.methodLink "LineFollowerBench" 394 ⟨"java/lang/Math", "min", "(II)I"⟩ : Cond) ∈ mTs := mTs_in 499 (by decide +kernel) (by decide +kernel)
theorem u500 : (Cond.static ⟨"java/lang/Math", "min", "(II)I"⟩ : Cond) ∈ mTs := mTs_in 500 (by decide +kernel) (by decide +kernel)
theorem u501 : (Cond.code ⟨"java/lang/Math", "min", "(II)I"⟩ prog_28_method_69_code 2 (some .int) : Cond) ∈ mTs := mTs_in 501 (by decide +kernel) (by decide +kernel)
theorem u502 : (Cond.methodLink "LineFollowerBench" 397 ⟨"java/lang/System", "arraycopy", "(Ljava/lang/Object;ILjava/lang/Object;II)V"⟩ : Cond) ∈ mTs := mTs_in 502 (by decide +kernel) (by decide +kernel)
theorem u504 : (Cond.native ⟨"java/lang/System", "arraycopy", "(Ljava/lang/Object;ILjava/lang/Object;II)V"⟩ : Cond) ∈ mTs := mTs_in 504 (by decide +kernel) (by decide +kernel)
theorem u503 : (Cond.static ⟨"java/lang/System", "arraycopy", "(Ljava/lang/Object;ILjava/lang/Object;II)V"⟩ : Cond) ∈ mTs := mTs_in 503 (by decide +kernel) (by decide +kernel)
theorem u92 : (Cond.initialized "java/lang/System" : Cond) ∈ mTs := mTs_in 92 (by decide +kernel) (by decide +kernel)
abbrev mX11_thrown : mM := (yX11_thrown, cX11_thrown, 1, (some .int), [])
theorem u1560 : (Cond.fieldLink "LineFollowerBenchModel" 3 "LineFollowerBenchModel" "thrown" "I" : Cond) ∈ mTs := mTs_in 1560 (by decide +kernel) (by decide +kernel)
theorem in_X11 : ∀ w ∈ u_ws RX11 TX11 36, w ∈ mTs := fun w h => mTs_of (L := u_ws RX11 TX11 36) (goodIn_r _ [1596, 1598, 1600, 1602, 1604, 1606, 1608, 1610, 1612, 1614, 1616, 1618, 1620, 1622, 1624, 1626, 1628, 1630, 1632, 1634, 1636, 1638, 1640, 1642, 1644, 1646, 1648, 1650, 1652, 1654, 1656, 1658, 1660, 1662, 1664, 1666] (by decide +kernel) (by decide +kernel)) (by decide +kernel) w h
theorem f_X11_3 : mFld "LineFollowerBenchModel" 3 11 0 := ⟨RX11, TX11, 36, "LineFollowerBenchModel", rfl, by decide, in_X11, u1560, Or.inl rfl, by decide⟩
abbrev mX11_in : mM := (yX11_in, cX11_in, 6, (some .boolean), [])
abbrev mX11_limited : mM := (yX11_limited, cX11_limited, 2, (some .int), [])
abbrev mX11_limited_ : mM := (yX11_limited_, cX11_limited_, 4, (some .long), [])
abbrev mX11_amount : mM := (yX11_amount, cX11_amount, 1, (some .int), [])
abbrev mX11_setting : mM := (yX11_setting, cX11_setting, 2, (some .int), [])
theorem u1674 : (Cond.constantLong "LineFollowerBenchModel" 90 14 : Cond) ∈ mTs := mTs_in 1674 (by decide +kernel) (by decide +kernel)
theorem u1677 : (Cond.code ⟨"LineFollowerBenchModel", "in", "(JJJ)Z"⟩ prog_13_method_3_code 6 (some .boolean) : Cond) ∈ mTs := mTs_in 1677 (by decide +kernel) (by decide +kernel)
theorem u85 : (Cond.initialized "LineFollowerBenchModel" : Cond) ∈ mTs := mTs_in 85 (by decide +kernel) (by decide +kernel)
theorem co_X11_in : mCode mX11_in := ⟨u1677, u85, by decide⟩
theorem u1675 : (Cond.methodLink "LineFollowerBenchModel" 92 ⟨"LineFollowerBenchModel", "in", "(JJJ)Z"⟩ : Cond) ∈ mTs := mTs_in 1675 (by decide +kernel) (by decide +kernel)
theorem u1676 : (Cond.static ⟨"LineFollowerBenchModel", "in", "(JJJ)Z"⟩ : Cond) ∈ mTs := mTs_in 1676 (by decide +kernel) (by decide +kernel)
theorem l_X11_92 : mLinkS "LineFollowerBenchModel" 92 3 mX11_in := ⟨⟨by decide, by decide, by decide +kernel⟩, co_X11_in, u1675, u1676⟩
theorem p_X11_3 : mPut "LineFollowerBenchModel" 3 11 0 (.int) false := ⟨RX11, TX11, 36, "LineFollowerBenchModel", tyX11, rfl, by decide, in_X11, u1560, Or.inl rfl, by decide, tyX11_ok, nmX11, by decide +kernel, rfl, fun h => by cases h⟩
theorem ob_11_0 (w : mH) (a : Nat) (v : Int32) : mOb (sfi w a 0 v) a 11 = (mOb w a 11).set 0 (.int v) := by simp [mOb, hfi_sfi, hfl_sfi, hfr_sfi, up2]
theorem u1561 : (Cond.fieldLink "LineFollowerBenchModel" 13 "LineFollowerBenchModel" "all" "[I" : Cond) ∈ mTs := mTs_in 1561 (by decide +kernel) (by decide +kernel)
theorem f_X11_13 : mFld "LineFollowerBenchModel" 13 11 1 := ⟨RX11, TX11, 36, "LineFollowerBenchModel", rfl, by decide, in_X11, u1561, Or.inl rfl, by decide⟩
abbrev mX11_points : mM := (yX11_points, cX11_points, 1, (some .int), [])
abbrev mX11_x : mM := (yX11_x, cX11_x, 2, (some .int), [])
abbrev mX11_y : mM := (yX11_y, cX11_y, 2, (some .int), [])
abbrev mX11_point : mM := (yX11_point, cX11_point, 3, (some .int), [])
theorem u1705 : (Cond.code ⟨"LineFollowerBenchModel", "points", "()I"⟩ prog_13_method_11_code 1 (some .int) : Cond) ∈ mTs := mTs_in 1705 (by decide +kernel) (by decide +kernel)
theorem co_X11_points : mCode mX11_points := ⟨u1705, u85, by decide⟩
theorem u1702 : (Cond.methodLink "LineFollowerBenchModel" 99 ⟨"LineFollowerBenchModel", "points", "()I"⟩ : Cond) ∈ mTs := mTs_in 1702 (by decide +kernel) (by decide +kernel)
theorem u1704 : (Cond.instanceMethod ⟨"LineFollowerBenchModel", "points", "()I"⟩ : Cond) ∈ mTs := mTs_in 1704 (by decide +kernel) (by decide +kernel)
theorem u40 : (Cond.selects "LineFollowerBenchModel" ⟨"LineFollowerBenchModel", "points", "()I"⟩ ⟨"LineFollowerBenchModel", "points", "()I"⟩ : Cond) ∈ mTs := mTs_in 40 (by decide +kernel) (by decide +kernel)
theorem l_X11_99 : mLinkV "LineFollowerBenchModel" 99 0 mX11_points := ⟨⟨by decide, by decide, by decide +kernel⟩, co_X11_points, u1702, u1704, u40⟩
theorem u1713 : (Cond.code ⟨"LineFollowerBenchModel", "y", "(I)I"⟩ prog_13_method_13_code 2 (some .int) : Cond) ∈ mTs := mTs_in 1713 (by decide +kernel) (by decide +kernel)
theorem co_X11_y : mCode mX11_y := ⟨u1713, u85, by decide⟩
theorem u1710 : (Cond.methodLink "LineFollowerBenchModel" 118 ⟨"LineFollowerBenchModel", "y", "(I)I"⟩ : Cond) ∈ mTs := mTs_in 1710 (by decide +kernel) (by decide +kernel)
theorem u1712 : (Cond.instanceMethod ⟨"LineFollowerBenchModel", "y", "(I)I"⟩ : Cond) ∈ mTs := mTs_in 1712 (by decide +kernel) (by decide +kernel)
theorem u42 : (Cond.selects "LineFollowerBenchModel" ⟨"LineFollowerBenchModel", "y", "(I)I"⟩ ⟨"LineFollowerBenchModel", "y", "(I)I"⟩ : Cond) ∈ mTs := mTs_in 42 (by decide +kernel) (by decide +kernel)
theorem l_X11_118 : mLinkV "LineFollowerBenchModel" 118 1 mX11_y := ⟨⟨by decide, by decide, by decide +kernel⟩, co_X11_y, u1710, u1712, u42⟩
theorem u1709 : (Cond.code ⟨"LineFollowerBenchModel", "x", "(I)I"⟩ prog_13_method_12_code 2 (some .int) : Cond) ∈ mTs := mTs_in 1709 (by decide +kernel) (by decide +kernel)
theorem co_X11_x : mCode mX11_x := ⟨u1709, u85, by decide⟩
theorem u1706 : (Cond.methodLink "LineFollowerBenchModel" 103 ⟨"LineFollowerBenchModel", "x", "(I)I"⟩ : Cond) ∈ mTs := mTs_in 1706 (by decide +kernel) (by decide +kernel)
theorem u1708 : (Cond.instanceMethod ⟨"LineFollowerBenchModel", "x", "(I)I"⟩ : Cond) ∈ mTs := mTs_in 1708 (by decide +kernel) (by decide +kernel)
theorem u41 : (Cond.selects "LineFollowerBenchModel" ⟨"LineFollowerBenchModel", "x", "(I)I"⟩ ⟨"LineFollowerBenchModel", "x", "(I)I"⟩ : Cond) ∈ mTs := mTs_in 41 (by decide +kernel) (by decide +kernel)
theorem l_X11_103 : mLinkV "LineFollowerBenchModel" 103 1 mX11_x := ⟨⟨by decide, by decide, by decide +kernel⟩, co_X11_x, u1706, u1708, u41⟩
abbrev mX11_gridFirst : mM := (yX11_gridFirst, cX11_gridFirst, 2, (some .int), [])
abbrev mX11_gridStep : mM := (yX11_gridStep, cX11_gridStep, 2, (some .int), [])
abbrev mX11_gridCount : mM := (yX11_gridCount, cX11_gridCount, 2, (some .int), [])
abbrev mX11_triples : mM := (yX11_triples, cX11_triples, 1, (some .int), [])
theorem u1751 : (Cond.code ⟨"LineFollowerBenchModel", "gridCount", "(I)I"⟩ prog_13_method_23_code 2 (some .int) : Cond) ∈ mTs := mTs_in 1751 (by decide +kernel) (by decide +kernel)
theorem co_X11_gridCount : mCode mX11_gridCount := ⟨u1751, u85, by decide⟩
theorem u1748 : (Cond.methodLink "LineFollowerBenchModel" 128 ⟨"LineFollowerBenchModel", "gridCount", "(I)I"⟩ : Cond) ∈ mTs := mTs_in 1748 (by decide +kernel) (by decide +kernel)
theorem u1750 : (Cond.instanceMethod ⟨"LineFollowerBenchModel", "gridCount", "(I)I"⟩ : Cond) ∈ mTs := mTs_in 1750 (by decide +kernel) (by decide +kernel)
theorem u45 : (Cond.selects "LineFollowerBenchModel" ⟨"LineFollowerBenchModel", "gridCount", "(I)I"⟩ ⟨"LineFollowerBenchModel", "gridCount", "(I)I"⟩ : Cond) ∈ mTs := mTs_in 45 (by decide +kernel) (by decide +kernel)
theorem l_X11_128 : mLinkV "LineFollowerBenchModel" 128 1 mX11_gridCount := ⟨⟨by decide, by decide, by decide +kernel⟩, co_X11_gridCount, u1748, u1750, u45⟩
abbrev mX11_here : mM := (yX11_here, cX11_here, 1, (some .int), [])
theorem u1569 : (Cond.fieldLink "LineFollowerBenchModel" 149 "LineFollowerBenchModel" "at" "I" : Cond) ∈ mTs := mTs_in 1569 (by decide +kernel) (by decide +kernel)
theorem f_X11_149 : mFld "LineFollowerBenchModel" 149 11 9 := ⟨RX11, TX11, 36, "LineFollowerBenchModel", rfl, by decide, in_X11, u1569, Or.inl rfl, by decide⟩
theorem u1568 : (Cond.fieldLink "LineFollowerBenchModel" 146 "LineFollowerBenchModel" "letterMany" "I" : Cond) ∈ mTs := mTs_in 1568 (by decide +kernel) (by decide +kernel)
theorem f_X11_146 : mFld "LineFollowerBenchModel" 146 11 8 := ⟨RX11, TX11, 36, "LineFollowerBenchModel", rfl, by decide, in_X11, u1568, Or.inl rfl, by decide⟩
theorem u1567 : (Cond.fieldLink "LineFollowerBenchModel" 27 "LineFollowerBenchModel" "letters" "[I" : Cond) ∈ mTs := mTs_in 1567 (by decide +kernel) (by decide +kernel)
theorem f_X11_27 : mFld "LineFollowerBenchModel" 27 11 7 := ⟨RX11, TX11, 36, "LineFollowerBenchModel", rfl, by decide, in_X11, u1567, Or.inl rfl, by decide⟩
abbrev mX11_wants : mM := (yX11_wants, cX11_wants, 2, none, [])
theorem u1570 : (Cond.fieldLink "LineFollowerBenchModel" 30 "LineFollowerBenchModel" "fault" "I" : Cond) ∈ mTs := mTs_in 1570 (by decide +kernel) (by decide +kernel)
theorem f_X11_30 : mFld "LineFollowerBenchModel" 30 11 10 := ⟨RX11, TX11, 36, "LineFollowerBenchModel", rfl, by decide, in_X11, u1570, Or.inl rfl, by decide⟩
theorem p_X11_149 : mPut "LineFollowerBenchModel" 149 11 9 (.int) false := ⟨RX11, TX11, 36, "LineFollowerBenchModel", tyX11, rfl, by decide, in_X11, u1569, Or.inl rfl, by decide, tyX11_ok, nmX11, by decide +kernel, rfl, fun h => by cases h⟩
theorem ob_11_9 (w : mH) (a : Nat) (v : Int32) : mOb (sfi w a 9 v) a 11 = (mOb w a 11).set 9 (.int v) := by simp [mOb, hfi_sfi, hfl_sfi, hfr_sfi, up2]
theorem u1769 : (Cond.code ⟨"LineFollowerBenchModel", "here", "()I"⟩ prog_13_method_27_code 1 (some .int) : Cond) ∈ mTs := mTs_in 1769 (by decide +kernel) (by decide +kernel)
theorem co_X11_here : mCode mX11_here := ⟨u1769, u85, by decide⟩
theorem u1766 : (Cond.methodLink "LineFollowerBenchModel" 152 ⟨"LineFollowerBenchModel", "here", "()I"⟩ : Cond) ∈ mTs := mTs_in 1766 (by decide +kernel) (by decide +kernel)
theorem u1768 : (Cond.instanceMethod ⟨"LineFollowerBenchModel", "here", "()I"⟩ : Cond) ∈ mTs := mTs_in 1768 (by decide +kernel) (by decide +kernel)
theorem u47 : (Cond.selects "LineFollowerBenchModel" ⟨"LineFollowerBenchModel", "here", "()I"⟩ ⟨"LineFollowerBenchModel", "here", "()I"⟩ : Cond) ∈ mTs := mTs_in 47 (by decide +kernel) (by decide +kernel)
theorem l_X11_152 : mLinkV "LineFollowerBenchModel" 152 0 mX11_here := ⟨⟨by decide, by decide, by decide +kernel⟩, co_X11_here, u1766, u1768, u47⟩
theorem p_X11_30 : mPut "LineFollowerBenchModel" 30 11 10 (.int) false := ⟨RX11, TX11, 36, "LineFollowerBenchModel", tyX11, rfl, by decide, in_X11, u1570, Or.inl rfl, by decide, tyX11_ok, nmX11, by decide +kernel, rfl, fun h => by cases h⟩
theorem ob_11_10 (w : mH) (a : Nat) (v : Int32) : mOb (sfi w a 10 v) a 11 = (mOb w a 11).set 10 (.int v) := by simp [mOb, hfi_sfi, hfl_sfi, hfr_sfi, up2]
abbrev mX11_errorPosition : mM := (yX11_errorPosition, cX11_errorPosition, 1, (some .int), [])
abbrev mX11_writes : mM := (yX11_writes, cX11_writes, 2, none, [])
theorem u1573 : (Cond.fieldLink "LineFollowerBenchModel" 36 "LineFollowerBenchModel" "text" "[I" : Cond) ∈ mTs := mTs_in 1573 (by decide +kernel) (by decide +kernel)
theorem f_X11_36 : mFld "LineFollowerBenchModel" 36 11 13 := ⟨RX11, TX11, 36, "LineFollowerBenchModel", rfl, by decide, in_X11, u1573, Or.inl rfl, by decide⟩
theorem u1574 : (Cond.fieldLink "LineFollowerBenchModel" 176 "LineFollowerBenchModel" "textMany" "I" : Cond) ∈ mTs := mTs_in 1574 (by decide +kernel) (by decide +kernel)
theorem f_X11_176 : mFld "LineFollowerBenchModel" 176 11 14 := ⟨RX11, TX11, 36, "LineFollowerBenchModel", rfl, by decide, in_X11, u1574, Or.inl rfl, by decide⟩
theorem p_X11_176 : mPut "LineFollowerBenchModel" 176 11 14 (.int) false := ⟨RX11, TX11, 36, "LineFollowerBenchModel", tyX11, rfl, by decide, in_X11, u1574, Or.inl rfl, by decide, tyX11_ok, nmX11, by decide +kernel, rfl, fun h => by cases h⟩
theorem ob_11_14 (w : mH) (a : Nat) (v : Int32) : mOb (sfi w a 14 v) a 11 = (mOb w a 11).set 14 (.int v) := by simp [mOb, hfi_sfi, hfl_sfi, hfr_sfi, up2]
abbrev mX11_writesNumber : mM := (yX11_writesNumber, cX11_writesNumber, 3, none, [])
theorem u1802 : (Cond.code ⟨"LineFollowerBenchModel", "amount", "(I)I"⟩ prog_13_method_6_code 1 (some .int) : Cond) ∈ mTs := mTs_in 1802 (by decide +kernel) (by decide +kernel)
theorem co_X11_amount : mCode mX11_amount := ⟨u1802, u85, by decide⟩
theorem u1800 : (Cond.methodLink "LineFollowerBenchModel" 179 ⟨"LineFollowerBenchModel", "amount", "(I)I"⟩ : Cond) ∈ mTs := mTs_in 1800 (by decide +kernel) (by decide +kernel)
theorem u1801 : (Cond.static ⟨"LineFollowerBenchModel", "amount", "(I)I"⟩ : Cond) ∈ mTs := mTs_in 1801 (by decide +kernel) (by decide +kernel)
theorem l_X11_179 : mLinkS "LineFollowerBenchModel" 179 1 mX11_amount := ⟨⟨by decide, by decide, by decide +kernel⟩, co_X11_amount, u1800, u1801⟩
theorem u1795 : (Cond.code ⟨"LineFollowerBenchModel", "writes", "(I)V"⟩ prog_13_method_34_code 2 (none : Option ClassFile.FieldType) : Cond) ∈ mTs := mTs_in 1795 (by decide +kernel) (by decide +kernel)
theorem co_X11_writes : mCode mX11_writes := ⟨u1795, u85, by decide⟩
theorem u1792 : (Cond.methodLink "LineFollowerBenchModel" 182 ⟨"LineFollowerBenchModel", "writes", "(I)V"⟩ : Cond) ∈ mTs := mTs_in 1792 (by decide +kernel) (by decide +kernel)
theorem u1794 : (Cond.instanceMethod ⟨"LineFollowerBenchModel", "writes", "(I)V"⟩ : Cond) ∈ mTs := mTs_in 1794 (by decide +kernel) (by decide +kernel)
theorem u51 : (Cond.selects "LineFollowerBenchModel" ⟨"LineFollowerBenchModel", "writes", "(I)V"⟩ ⟨"LineFollowerBenchModel", "writes", "(I)V"⟩ : Cond) ∈ mTs := mTs_in 51 (by decide +kernel) (by decide +kernel)
theorem l_X11_182 : mLinkV "LineFollowerBenchModel" 182 1 mX11_writes := ⟨⟨by decide, by decide, by decide +kernel⟩, co_X11_writes, u1792, u1794, u51⟩
abbrev mX11_integralBehind : mM := (yX11_integralBehind, cX11_integralBehind, 4, (some .int), [])
theorem u1584 : (Cond.fieldLink "LineFollowerBenchModel" 198 "LineFollowerBenchModel" "next" "I" : Cond) ∈ mTs := mTs_in 1584 (by decide +kernel) (by decide +kernel)
theorem f_X11_198 : mFld "LineFollowerBenchModel" 198 11 24 := ⟨RX11, TX11, 36, "LineFollowerBenchModel", rfl, by decide, in_X11, u1584, Or.inl rfl, by decide⟩
theorem u1583 : (Cond.fieldLink "LineFollowerBenchModel" 201 "LineFollowerBenchModel" "raw" "J" : Cond) ∈ mTs := mTs_in 1583 (by decide +kernel) (by decide +kernel)
theorem f_X11_201 : mFld "LineFollowerBenchModel" 201 11 23 := ⟨RX11, TX11, 36, "LineFollowerBenchModel", rfl, by decide, in_X11, u1583, Or.inl rfl, by decide⟩
theorem u1845 : (Cond.constantLong "LineFollowerBenchModel" 211 16 : Cond) ∈ mTs := mTs_in 1845 (by decide +kernel) (by decide +kernel)
theorem u1846 : (Cond.constantLong "LineFollowerBenchModel" 213 1000000 : Cond) ∈ mTs := mTs_in 1846 (by decide +kernel) (by decide +kernel)
theorem u1840 : (Cond.code ⟨"LineFollowerBenchModel", "limited", "(JJ)J"⟩ prog_13_method_5_code 4 (some .long) : Cond) ∈ mTs := mTs_in 1840 (by decide +kernel) (by decide +kernel)
theorem co_X11_limited_ : mCode mX11_limited_ := ⟨u1840, u85, by decide⟩
theorem u1838 : (Cond.methodLink "LineFollowerBenchModel" 215 ⟨"LineFollowerBenchModel", "limited", "(JJ)J"⟩ : Cond) ∈ mTs := mTs_in 1838 (by decide +kernel) (by decide +kernel)
theorem u1839 : (Cond.static ⟨"LineFollowerBenchModel", "limited", "(JJ)J"⟩ : Cond) ∈ mTs := mTs_in 1839 (by decide +kernel) (by decide +kernel)
theorem l_X11_215 : mLinkS "LineFollowerBenchModel" 215 2 mX11_limited_ := ⟨⟨by decide, by decide, by decide +kernel⟩, co_X11_limited_, u1838, u1839⟩
abbrev mX11_trace : mM := (yX11_trace, cX11_trace, 3, (some .int), [])
theorem u1585 : (Cond.fieldLink "LineFollowerBenchModel" 235 "LineFollowerBenchModel" "isTraced" "Z" : Cond) ∈ mTs := mTs_in 1585 (by decide +kernel) (by decide +kernel)
theorem f_X11_235 : mFld "LineFollowerBenchModel" 235 11 25 := ⟨RX11, TX11, 36, "LineFollowerBenchModel", rfl, by decide, in_X11, u1585, Or.inl rfl, by decide⟩
theorem u1586 : (Cond.fieldLink "LineFollowerBenchModel" 239 "LineFollowerBenchModel" "traceSteps" "I" : Cond) ∈ mTs := mTs_in 1586 (by decide +kernel) (by decide +kernel)
theorem f_X11_239 : mFld "LineFollowerBenchModel" 239 11 26 := ⟨RX11, TX11, 36, "LineFollowerBenchModel", rfl, by decide, in_X11, u1586, Or.inl rfl, by decide⟩
theorem u1855 : (Cond.constantLong "LineFollowerBenchModel" 248 5 : Cond) ∈ mTs := mTs_in 1855 (by decide +kernel) (by decide +kernel)
theorem u1587 : (Cond.fieldLink "LineFollowerBenchModel" 60 "LineFollowerBenchModel" "traced" "[I" : Cond) ∈ mTs := mTs_in 1587 (by decide +kernel) (by decide +kernel)
theorem f_X11_60 : mFld "LineFollowerBenchModel" 60 11 27 := ⟨RX11, TX11, 36, "LineFollowerBenchModel", rfl, by decide, in_X11, u1587, Or.inl rfl, by decide⟩
abbrev mX11_gridValue : mM := (yX11_gridValue, cX11_gridValue, 3, (some .int), [])
theorem u1932 : (Cond.code ⟨"LineFollowerBenchModel", "gridFirst", "(I)I"⟩ prog_13_method_21_code 2 (some .int) : Cond) ∈ mTs := mTs_in 1932 (by decide +kernel) (by decide +kernel)
theorem co_X11_gridFirst : mCode mX11_gridFirst := ⟨u1932, u85, by decide⟩
theorem u1929 : (Cond.methodLink "LineFollowerBenchModel" 277 ⟨"LineFollowerBenchModel", "gridFirst", "(I)I"⟩ : Cond) ∈ mTs := mTs_in 1929 (by decide +kernel) (by decide +kernel)
theorem u1931 : (Cond.instanceMethod ⟨"LineFollowerBenchModel", "gridFirst", "(I)I"⟩ : Cond) ∈ mTs := mTs_in 1931 (by decide +kernel) (by decide +kernel)
theorem u64 : (Cond.selects "LineFollowerBenchModel" ⟨"LineFollowerBenchModel", "gridFirst", "(I)I"⟩ ⟨"LineFollowerBenchModel", "gridFirst", "(I)I"⟩ : Cond) ∈ mTs := mTs_in 64 (by decide +kernel) (by decide +kernel)
theorem l_X11_277 : mLinkV "LineFollowerBenchModel" 277 1 mX11_gridFirst := ⟨⟨by decide, by decide, by decide +kernel⟩, co_X11_gridFirst, u1929, u1931, u64⟩
theorem u1936 : (Cond.code ⟨"LineFollowerBenchModel", "gridStep", "(I)I"⟩ prog_13_method_22_code 2 (some .int) : Cond) ∈ mTs := mTs_in 1936 (by decide +kernel) (by decide +kernel)
theorem co_X11_gridStep : mCode mX11_gridStep := ⟨u1936, u85, by decide⟩
theorem u1933 : (Cond.methodLink "LineFollowerBenchModel" 280 ⟨"LineFollowerBenchModel", "gridStep", "(I)I"⟩ : Cond) ∈ mTs := mTs_in 1933 (by decide +kernel) (by decide +kernel)
theorem u1935 : (Cond.instanceMethod ⟨"LineFollowerBenchModel", "gridStep", "(I)I"⟩ : Cond) ∈ mTs := mTs_in 1935 (by decide +kernel) (by decide +kernel)
theorem u65 : (Cond.selects "LineFollowerBenchModel" ⟨"LineFollowerBenchModel", "gridStep", "(I)I"⟩ ⟨"LineFollowerBenchModel", "gridStep", "(I)I"⟩ : Cond) ∈ mTs := mTs_in 65 (by decide +kernel) (by decide +kernel)
theorem l_X11_280 : mLinkV "LineFollowerBenchModel" 280 1 mX11_gridStep := ⟨⟨by decide, by decide, by decide +kernel⟩, co_X11_gridStep, u1933, u1935, u65⟩
abbrev mX11_found : mM := (yX11_found, cX11_found, 4, (some .int), [])
theorem u1591 : (Cond.fieldLink "LineFollowerBenchModel" 66 "LineFollowerBenchModel" "isFound" "[Z" : Cond) ∈ mTs := mTs_in 1591 (by decide +kernel) (by decide +kernel)
theorem f_X11_66 : mFld "LineFollowerBenchModel" 66 11 31 := ⟨RX11, TX11, 36, "LineFollowerBenchModel", rfl, by decide, in_X11, u1591, Or.inl rfl, by decide⟩
theorem u1957 : (Cond.constantLong "LineFollowerBenchModel" 297 3 : Cond) ∈ mTs := mTs_in 1957 (by decide +kernel) (by decide +kernel)
theorem u1592 : (Cond.fieldLink "LineFollowerBenchModel" 70 "LineFollowerBenchModel" "foundGains" "[I" : Cond) ∈ mTs := mTs_in 1592 (by decide +kernel) (by decide +kernel)
theorem f_X11_70 : mFld "LineFollowerBenchModel" 70 11 32 := ⟨RX11, TX11, 36, "LineFollowerBenchModel", rfl, by decide, in_X11, u1592, Or.inl rfl, by decide⟩
theorem u1594 : (Cond.fieldLink "LineFollowerBenchModel" 77 "LineFollowerBenchModel" "foundGreater" "[I" : Cond) ∈ mTs := mTs_in 1594 (by decide +kernel) (by decide +kernel)
theorem f_X11_77 : mFld "LineFollowerBenchModel" 77 11 34 := ⟨RX11, TX11, 36, "LineFollowerBenchModel", rfl, by decide, in_X11, u1594, Or.inl rfl, by decide⟩
abbrev mX11_foundCost : mM := (yX11_foundCost, cX11_foundCost, 3, (some .long), [])
theorem u1593 : (Cond.fieldLink "LineFollowerBenchModel" 73 "LineFollowerBenchModel" "foundCosts" "[J" : Cond) ∈ mTs := mTs_in 1593 (by decide +kernel) (by decide +kernel)
theorem f_X11_73 : mFld "LineFollowerBenchModel" 73 11 33 := ⟨RX11, TX11, 36, "LineFollowerBenchModel", rfl, by decide, in_X11, u1593, Or.inl rfl, by decide⟩
abbrev mX1_gainAt : mM := (yX1_gainAt, cX1_gainAt, 3, (some .int), [])
theorem u524 : (Cond.code ⟨"LineFollowerBench", "isWithin", "(III)Z"⟩ prog_1_method_36_code 3 (some .boolean) : Cond) ∈ mTs := mTs_in 524 (by decide +kernel) (by decide +kernel)
theorem u70 : (Cond.initialized "LineFollowerBench" : Cond) ∈ mTs := mTs_in 70 (by decide +kernel) (by decide +kernel)
theorem co_X10_isWithin : mCode mX10_isWithin := ⟨u524, u70, by decide⟩
theorem v615 : (Cond.methodLinkNest "LineFollowerBench$Grid" 21 ⟨"LineFollowerBench", "isWithin", "(III)Z"⟩ "LineFollowerBench" : Cond) ∈ lw_tbl := List.mem_of_getElem? (i := 615) (by decide +kernel)
theorem u523 : (Cond.static ⟨"LineFollowerBench", "isWithin", "(III)Z"⟩ : Cond) ∈ mTs := mTs_in 523 (by decide +kernel) (by decide +kernel)
theorem l_X1_21 : mLinkSN "LineFollowerBench$Grid" 21 3 mX10_isWithin "LineFollowerBench" := ⟨⟨by decide, by decide, by decide +kernel⟩, co_X10_isWithin, v615, u523⟩
theorem u134 : (Cond.fieldLink "LineFollowerBench$Grid" 9 "LineFollowerBench$Grid" "firsts" "[I" : Cond) ∈ mTs := mTs_in 134 (by decide +kernel) (by decide +kernel)
theorem f_X1_9 : mFld "LineFollowerBench$Grid" 9 1 0 := ⟨RX1, TX1, 3, "LineFollowerBench$Grid", rfl, by decide, in_X1, u134, Or.inl rfl, by decide⟩
theorem u136 : (Cond.fieldLink "LineFollowerBench$Grid" 15 "LineFollowerBench$Grid" "steps" "[I" : Cond) ∈ mTs := mTs_in 136 (by decide +kernel) (by decide +kernel)
theorem f_X1_15 : mFld "LineFollowerBench$Grid" 15 1 1 := ⟨RX1, TX1, 3, "LineFollowerBench$Grid", rfl, by decide, in_X1, u136, Or.inl rfl, by decide⟩
abbrev mX1_takeOver : mM := (yX1_takeOver, cX1_takeOver, 2, none, [])
theorem u498 : (Cond.code ⟨"LineFollowerBench", "copyRow", "([I[I)V"⟩ prog_1_method_38_code 2 (none : Option ClassFile.FieldType) : Cond) ∈ mTs := mTs_in 498 (by decide +kernel) (by decide +kernel)
theorem co_X10_copyRow : mCode mX10_copyRow := ⟨u498, u70, by decide⟩
theorem v700 : (Cond.methodLinkNest "LineFollowerBench$Grid" 25 ⟨"LineFollowerBench", "copyRow", "([I[I)V"⟩ "LineFollowerBench" : Cond) ∈ lw_tbl := List.mem_of_getElem? (i := 700) (by decide +kernel)
theorem u497 : (Cond.static ⟨"LineFollowerBench", "copyRow", "([I[I)V"⟩ : Cond) ∈ mTs := mTs_in 497 (by decide +kernel) (by decide +kernel)
theorem l_X1_25 : mLinkSN "LineFollowerBench$Grid" 25 2 mX10_copyRow "LineFollowerBench" := ⟨⟨by decide, by decide, by decide +kernel⟩, co_X10_copyRow, v700, u497⟩
abbrev mX4_summedIntegral : mM := (yX4_summedIntegral, cX4_summedIntegral, 3, (some .int), [])
theorem f_X4_49 : mFld "LineFollowerBench$Simulation" 49 4 8 := ⟨RX4, TX4, 11, "LineFollowerBench$Simulation", rfl, by decide, in_X4, u332, Or.inl rfl, by decide⟩
theorem u558 : (Cond.constant "LineFollowerBench$Simulation" 155 1000000 : Cond) ∈ mTs := mTs_in 558 (by decide +kernel) (by decide +kernel)
theorem u561 : (Cond.code ⟨"LineFollowerBench", "limited", "(II)I"⟩ prog_1_method_37_code 2 (some .int) : Cond) ∈ mTs := mTs_in 561 (by decide +kernel) (by decide +kernel)
theorem co_X10_limited : mCode mX10_limited := ⟨u561, u70, by decide⟩
theorem v559 : (Cond.methodLinkNest "LineFollowerBench$Simulation" 148 ⟨"LineFollowerBench", "limited", "(II)I"⟩ "LineFollowerBench" : Cond) ∈ lw_tbl := List.mem_of_getElem? (i := 559) (by decide +kernel)
theorem u560 : (Cond.static ⟨"LineFollowerBench", "limited", "(II)I"⟩ : Cond) ∈ mTs := mTs_in 560 (by decide +kernel) (by decide +kernel)
theorem l_X4_148 : mLinkSN "LineFollowerBench$Simulation" 148 2 mX10_limited "LineFollowerBench" := ⟨⟨by decide, by decide, by decide +kernel⟩, co_X10_limited, v559, u560⟩
abbrev mX4_keptIntegral : mM := (yX4_keptIntegral, cX4_keptIntegral, 5, (some .int), [])
theorem f_X4_55 : mFld "LineFollowerBench$Simulation" 55 4 10 := ⟨RX4, TX4, 11, "LineFollowerBench$Simulation", rfl, by decide, in_X4, u334, Or.inl rfl, by decide⟩
abbrev mX4_moveActuator : mM := (yX4_moveActuator, cX4_moveActuator, 1, none, [])
theorem f_X4_46 : mFld "LineFollowerBench$Simulation" 46 4 7 := ⟨RX4, TX4, 11, "LineFollowerBench$Simulation", rfl, by decide, in_X4, u331, Or.inl rfl, by decide⟩
abbrev mX4_moveRobot : mM := (yX4_moveRobot, cX4_moveRobot, 3, none, [])
theorem f_X4_43 : mFld "LineFollowerBench$Simulation" 43 4 6 := ⟨RX4, TX4, 11, "LineFollowerBench$Simulation", rfl, by decide, in_X4, u330, Or.inl rfl, by decide⟩
abbrev mX5_takeOver : mM := (yX5_takeOver, cX5_takeOver, 2, none, [])
theorem v509 : (Cond.methodLinkNest "LineFollowerBench$Table" 38 ⟨"LineFollowerBench", "copyRow", "([I[I)V"⟩ "LineFollowerBench" : Cond) ∈ lw_tbl := List.mem_of_getElem? (i := 509) (by decide +kernel)
theorem l_X5_38 : mLinkSN "LineFollowerBench$Table" 38 2 mX10_copyRow "LineFollowerBench" := ⟨⟨by decide, by decide, by decide +kernel⟩, co_X10_copyRow, v509, u497⟩
theorem p_X5_18 : mPut "LineFollowerBench$Table" 18 5 2 (.int) false := ⟨RX5, TX5, 3, "LineFollowerBench$Table", tyX5, rfl, by decide, in_X5, u159, Or.inl rfl, by decide, tyX5_ok, nmX5, by decide +kernel, rfl, fun h => by cases h⟩
theorem ob_5_2 (w : mH) (a : Nat) (v : Int32) : mOb (sfi w a 2 v) a 5 = (mOb w a 5).set 2 (.int v) := by simp [mOb, hfi_sfi, hfl_sfi, hfr_sfi, up2]
abbrev mX6_part : mM := (yX6_part, cX6_part, 3, (some .int), [])
theorem v549 : (Cond.methodLinkNest "LineFollowerBench$Trace" 34 ⟨"LineFollowerBench", "isWithin", "(III)Z"⟩ "LineFollowerBench" : Cond) ∈ lw_tbl := List.mem_of_getElem? (i := 549) (by decide +kernel)
theorem l_X6_34 : mLinkSN "LineFollowerBench$Trace" 34 3 mX10_isWithin "LineFollowerBench" := ⟨⟨by decide, by decide, by decide +kernel⟩, co_X10_isWithin, v549, u523⟩
theorem u366 : (Cond.fieldLink "LineFollowerBench$Trace" 15 "LineFollowerBench$Trace" "seen" "[I" : Cond) ∈ mTs := mTs_in 366 (by decide +kernel) (by decide +kernel)
theorem f_X6_15 : mFld "LineFollowerBench$Trace" 15 6 1 := ⟨RX6, TX6, 7, "LineFollowerBench$Trace", rfl, by decide, in_X6, u366, Or.inl rfl, by decide⟩
theorem u369 : (Cond.fieldLink "LineFollowerBench$Trace" 18 "LineFollowerBench$Trace" "outputs" "[I" : Cond) ∈ mTs := mTs_in 369 (by decide +kernel) (by decide +kernel)
theorem f_X6_18 : mFld "LineFollowerBench$Trace" 18 6 2 := ⟨RX6, TX6, 7, "LineFollowerBench$Trace", rfl, by decide, in_X6, u369, Or.inl rfl, by decide⟩
theorem u371 : (Cond.fieldLink "LineFollowerBench$Trace" 21 "LineFollowerBench$Trace" "actuators" "[I" : Cond) ∈ mTs := mTs_in 371 (by decide +kernel) (by decide +kernel)
theorem f_X6_21 : mFld "LineFollowerBench$Trace" 21 6 3 := ⟨RX6, TX6, 7, "LineFollowerBench$Trace", rfl, by decide, in_X6, u371, Or.inl rfl, by decide⟩
theorem u373 : (Cond.fieldLink "LineFollowerBench$Trace" 24 "LineFollowerBench$Trace" "integrals" "[I" : Cond) ∈ mTs := mTs_in 373 (by decide +kernel) (by decide +kernel)
theorem f_X6_24 : mFld "LineFollowerBench$Trace" 24 6 4 := ⟨RX6, TX6, 7, "LineFollowerBench$Trace", rfl, by decide, in_X6, u373, Or.inl rfl, by decide⟩
theorem u376 : (Cond.fieldLink "LineFollowerBench$Trace" 27 "LineFollowerBench$Trace" "saturations" "[I" : Cond) ∈ mTs := mTs_in 376 (by decide +kernel) (by decide +kernel)
theorem f_X6_27 : mFld "LineFollowerBench$Trace" 27 6 5 := ⟨RX6, TX6, 7, "LineFollowerBench$Trace", rfl, by decide, in_X6, u376, Or.inl rfl, by decide⟩
abbrev mX6_seenChange : mM := (yX6_seenChange, cX6_seenChange, 2, (some .int), [])
abbrev mX6_takeErrors : mM := (yX6_takeErrors, cX6_takeErrors, 2, none, [])
theorem v1454 : (Cond.methodLinkNest "LineFollowerBench$Trace" 84 ⟨"LineFollowerBench", "copyRow", "([I[I)V"⟩ "LineFollowerBench" : Cond) ∈ lw_tbl := List.mem_of_getElem? (i := 1454) (by decide +kernel)
theorem l_X6_84 : mLinkSN "LineFollowerBench$Trace" 84 2 mX10_copyRow "LineFollowerBench" := ⟨⟨by decide, by decide, by decide +kernel⟩, co_X10_copyRow, v1454, u497⟩
theorem p_X6_30 : mPut "LineFollowerBench$Trace" 30 6 6 (.int) false := ⟨RX6, TX6, 7, "LineFollowerBench$Trace", tyX6, rfl, by decide, in_X6, u378, Or.inl rfl, by decide, tyX6_ok, nmX6, by decide +kernel, rfl, fun h => by cases h⟩
theorem ob_6_6 (w : mH) (a : Nat) (v : Int32) : mOb (sfi w a 6 v) a 6 = (mOb w a 6).set 6 (.int v) := by simp [mOb, hfi_sfi, hfl_sfi, hfr_sfi, up2]
abbrev mX7_takeOver : mM := (yX7_takeOver, cX7_takeOver, 2, none, [])
theorem v706 : (Cond.methodLinkNest "LineFollowerBench$Track" 62 ⟨"LineFollowerBench", "copyRow", "([I[I)V"⟩ "LineFollowerBench" : Cond) ∈ lw_tbl := List.mem_of_getElem? (i := 706) (by decide +kernel)
theorem l_X7_62 : mLinkSN "LineFollowerBench$Track" 62 2 mX10_copyRow "LineFollowerBench" := ⟨⟨by decide, by decide, by decide +kernel⟩, co_X10_copyRow, v706, u497⟩
abbrev mX8_readSign : mM := (yX8_readSign, cX8_readSign, 2, (some .boolean), [])
theorem u980 : (Cond.code ⟨"LineFollowerBench$TrackReader", "sign", "()C"⟩ prog_10_method_13_code 1 (some .char) : Cond) ∈ mTs := mTs_in 980 (by decide +kernel) (by decide +kernel)
theorem u76 : (Cond.initialized "LineFollowerBench$TrackReader" : Cond) ∈ mTs := mTs_in 76 (by decide +kernel) (by decide +kernel)
theorem co_X8_sign : mCode mX8_sign := ⟨u980, u76, by decide⟩
theorem u977 : (Cond.methodLink "LineFollowerBench$TrackReader" 54 ⟨"LineFollowerBench$TrackReader", "sign", "()C"⟩ : Cond) ∈ mTs := mTs_in 977 (by decide +kernel) (by decide +kernel)
theorem u979 : (Cond.instanceMethod ⟨"LineFollowerBench$TrackReader", "sign", "()C"⟩ : Cond) ∈ mTs := mTs_in 979 (by decide +kernel) (by decide +kernel)
theorem u27 : (Cond.selects "LineFollowerBench$TrackReader" ⟨"LineFollowerBench$TrackReader", "sign", "()C"⟩ ⟨"LineFollowerBench$TrackReader", "sign", "()C"⟩ : Cond) ∈ mTs := mTs_in 27 (by decide +kernel) (by decide +kernel)
theorem l_X8_54 : mLinkV "LineFollowerBench$TrackReader" 54 0 mX8_sign := ⟨⟨by decide, by decide, by decide +kernel⟩, co_X8_sign, u977, u979, u27⟩
theorem p_X8_29 : mPut "LineFollowerBench$TrackReader" 29 8 4 (.int) false := ⟨RX8, TX8, 6, "LineFollowerBench$TrackReader", tyX8, rfl, by decide, in_X8, u263, Or.inl rfl, by decide, tyX8_ok, nmX8, by decide +kernel, rfl, fun h => by cases h⟩
theorem ob_8_4 (w : mH) (a : Nat) (v : Int32) : mOb (sfi w a 4 v) a 8 = (mOb w a 8).set 4 (.int v) := by simp [mOb, hfi_sfi, hfl_sfi, hfr_sfi, up2]
theorem u991 : (Cond.code ⟨"LineFollowerBench$TrackReader", "failAt", "(I)Z"⟩ prog_10_method_15_code 2 (some .boolean) : Cond) ∈ mTs := mTs_in 991 (by decide +kernel) (by decide +kernel)
theorem co_X8_failAt : mCode mX8_failAt := ⟨u991, u76, by decide⟩
theorem u988 : (Cond.methodLink "LineFollowerBench$TrackReader" 50 ⟨"LineFollowerBench$TrackReader", "failAt", "(I)Z"⟩ : Cond) ∈ mTs := mTs_in 988 (by decide +kernel) (by decide +kernel)
theorem u990 : (Cond.instanceMethod ⟨"LineFollowerBench$TrackReader", "failAt", "(I)Z"⟩ : Cond) ∈ mTs := mTs_in 990 (by decide +kernel) (by decide +kernel)
theorem u28 : (Cond.selects "LineFollowerBench$TrackReader" ⟨"LineFollowerBench$TrackReader", "failAt", "(I)Z"⟩ ⟨"LineFollowerBench$TrackReader", "failAt", "(I)Z"⟩ : Cond) ∈ mTs := mTs_in 28 (by decide +kernel) (by decide +kernel)
theorem l_X8_50 : mLinkV "LineFollowerBench$TrackReader" 50 1 mX8_failAt := ⟨⟨by decide, by decide, by decide +kernel⟩, co_X8_failAt, u988, u990, u28⟩
abbrev mX9_costAtIndexes : mM := (yX9_costAtIndexes, cX9_costAtIndexes, 3, (some .long), [])
theorem u409 : (Cond.fieldLink "LineFollowerBench$Tuner" 29 "LineFollowerBench$Tuner" "indexes" "[I" : Cond) ∈ mTs := mTs_in 409 (by decide +kernel) (by decide +kernel)
theorem in_X9 : ∀ w ∈ u_ws RX9 TX9 4, w ∈ mTs := fun w h => mTs_of (L := u_ws RX9 TX9 4) (goodIn_r _ [410, 412, 414, 416] (by decide +kernel) (by decide +kernel)) (by decide +kernel) w h
theorem f_X9_29 : mFld "LineFollowerBench$Tuner" 29 9 3 := ⟨RX9, TX9, 4, "LineFollowerBench$Tuner", rfl, by decide, in_X9, u409, Or.inl rfl, by decide⟩
theorem u139 : (Cond.fieldLink "LineFollowerBench$Tuner" 67 "LineFollowerBench$Grid" "counts" "[I" : Cond) ∈ mTs := mTs_in 139 (by decide +kernel) (by decide +kernel)
theorem f_X9_67 : mFld "LineFollowerBench$Tuner" 67 1 2 := ⟨RX1, TX1, 3, "LineFollowerBench$Grid", rfl, by decide, in_X1, u139, Or.inl rfl, by decide⟩
theorem v669 : (Cond.methodLinkNest "LineFollowerBench$Tuner" 82 ⟨"LineFollowerBench", "isWithin", "(III)Z"⟩ "LineFollowerBench" : Cond) ∈ lw_tbl := List.mem_of_getElem? (i := 669) (by decide +kernel)
theorem l_X9_82 : mLinkSN "LineFollowerBench$Tuner" 82 3 mX10_isWithin "LineFollowerBench" := ⟨⟨by decide, by decide, by decide +kernel⟩, co_X10_isWithin, v669, u523⟩
theorem u408 : (Cond.fieldLink "LineFollowerBench$Tuner" 25 "LineFollowerBench$Tuner" "costs" "[J" : Cond) ∈ mTs := mTs_in 408 (by decide +kernel) (by decide +kernel)
theorem f_X9_25 : mFld "LineFollowerBench$Tuner" 25 9 2 := ⟨RX9, TX9, 4, "LineFollowerBench$Tuner", rfl, by decide, in_X9, u408, Or.inl rfl, by decide⟩
def vX1_triples (w : mH) (a0_2 : Nat) : Int32 := (((hai w a0_2 0) * (hai w a0_2 1)) * (hai w a0_2 2))
set_option maxHeartbeats 4000000 in
set_option maxRecDepth 100000 in
theorem qX1_triples {G : mG} {w : mH} {a0 a0_2 n_a0_2 : Nat} (h1 : hk w a0 = (1, 0)) (h2 : hfr w a0 2 = some a0_2) (h3 : hk w a0_2 = (16, n_a0_2)) (s1 : vp_in 0 n_a0_2) (s2 : vp_in 1 n_a0_2) (s3 : vp_in 2 n_a0_2) : mC G mX1_triples 1 0 0 [.ref a0] w (mEq (.inl (some (.int (vX1_triples w a0_2)))) w) := by
  refine mC_of (by decide +kernel) rfl (Nat.le_of_ble_eq_true rfl) rfl ?_
  refine mW_aload_n (j := 0) dX1_triples_0 rfl rfl ?_
  refine mW_getR dX1_triples_1 f_X1_18 h1 rfl h2 ?_
  refine mW_iconst (v := 0) dX1_triples_4 (by decide) ?_
  refine mW_ialdJ dX1_triples_5 h3 s1 (j := 0) (by decide) ?_
  refine mW_aload_n (j := 0) dX1_triples_6 rfl rfl ?_
  refine mW_getR dX1_triples_7 f_X1_18 h1 rfl h2 ?_
  refine mW_iconst (v := 1) dX1_triples_10 (by decide) ?_
  refine mW_ialdJ dX1_triples_11 h3 s2 (j := 1) (by decide) ?_
  refine mW_imul dX1_triples_12 ?_
  refine mW_aload_n (j := 0) dX1_triples_13 rfl rfl ?_
  refine mW_getR dX1_triples_14 f_X1_18 h1 rfl h2 ?_
  refine mW_iconst (v := 2) dX1_triples_17 (by decide) ?_
  refine mW_ialdJ dX1_triples_18 h3 s3 (j := 2) (by decide) ?_
  refine mW_imul dX1_triples_19 ?_
  exact mW_iret dX1_triples_20 rfl (⟨by first | with_reducible rfl | (simp only [vX1_triples]; done) | rfl, by first | with_reducible rfl | (simp only [vX1_triples]; done) | rfl⟩)
def sX4_begin (w : mH) (a0 : Nat) (a0_0 : Nat) : mH := (sfi (sfi (sfi (sfi (sfi (sfi w a0 5 (hai w a0_0 12)) a0 6 0) a0 7 0) a0 8 0) a0 9 0) a0 10 0)
theorem kkX4_begin {w : mH} {a0 : Nat} {a0_0 : Nat} : hk (sX4_begin w a0 a0_0) = hk w := by unfold sX4_begin; simp only [apply_ite hk, e_hk_sfi, e_hk_sfl, e_hk_sai, e_hk_sal, e_hk_sax, ite_self]
theorem rrX4_begin {w : mH} {a0 : Nat} {a0_0 : Nat} : hfr (sX4_begin w a0 a0_0) = hfr w := by unfold sX4_begin; simp only [apply_ite hfr, e_hfr_sfi, e_hfr_sfl, e_hfr_sai, e_hfr_sal, e_hfr_sax, ite_self]
set_option maxHeartbeats 4000000 in
set_option maxRecDepth 100000 in
theorem qX4_begin {G : mG} {w : mH} {a0 a0_0 n_a0_0 : Nat} (h1 : hk w a0 = (4, 0)) (h2 : hfr w a0 0 = some a0_0) (h3 : hk w a0_0 = (16, n_a0_0)) (s1 : vp_in 12 n_a0_0) : mC G mX4_begin 1 0 0 [.ref a0] w (mEq (.inl none) (sX4_begin w a0 a0_0)) := by
  refine mC_of (by decide +kernel) rfl (Nat.le_of_ble_eq_true rfl) rfl ?_
  refine mW_aload_n (j := 0) dX4_begin_0 rfl rfl ?_
  refine mW_aload_n (j := 0) dX4_begin_1 rfl rfl ?_
  refine mW_getR dX4_begin_2 f_X4_18 h1 rfl h2 ?_
  refine mW_bipush (v := 12) dX4_begin_5 (by decide) ?_
  refine mW_ialdJ dX4_begin_7 h3 s1 (j := 12) (by decide) ?_
  refine mW_put (ty := .int) (w2 := sfi w a0 5 (hai w a0_0 12)) dX4_begin_8 p_X4_39 h1 (Nat.le_of_ble_eq_true rfl) (by first | rfl | decide | (repeat' split) <;> rfl) rfl (hN_sfi _ _ _ _) (hk_sfi _ _ _ _) (mE_sfi h1 (by decide) (ob_4_5 _ _ _)) ?_
  refine mW_aload_n (j := 0) dX4_begin_11 rfl rfl ?_
  refine mW_iconst (v := 0) dX4_begin_12 (by decide) ?_
  refine mW_put (ty := .int) (w2 := sfi (sfi w a0 5 (hai w a0_0 12)) a0 6 0) dX4_begin_13 p_X4_43 (k_sfi h1) (Nat.le_of_ble_eq_true rfl) (by first | rfl | decide | (repeat' split) <;> rfl) rfl (hN_sfi _ _ _ _) (hk_sfi _ _ _ _) (mE_sfi (k_sfi h1) (by decide) (ob_4_6 _ _ _)) ?_
  refine mW_aload_n (j := 0) dX4_begin_16 rfl rfl ?_
  refine mW_iconst (v := 0) dX4_begin_17 (by decide) ?_
  refine mW_put (ty := .int) (w2 := sfi (sfi (sfi w a0 5 (hai w a0_0 12)) a0 6 0) a0 7 0) dX4_begin_18 p_X4_46 (k_sfi (k_sfi h1)) (Nat.le_of_ble_eq_true rfl) (by first | rfl | decide | (repeat' split) <;> rfl) rfl (hN_sfi _ _ _ _) (hk_sfi _ _ _ _) (mE_sfi (k_sfi (k_sfi h1)) (by decide) (ob_4_7 _ _ _)) ?_
  refine mW_aload_n (j := 0) dX4_begin_21 rfl rfl ?_
  refine mW_iconst (v := 0) dX4_begin_22 (by decide) ?_
  refine mW_put (ty := .int) (w2 := sfi (sfi (sfi (sfi w a0 5 (hai w a0_0 12)) a0 6 0) a0 7 0) a0 8 0) dX4_begin_23 p_X4_49 (k_sfi (k_sfi (k_sfi h1))) (Nat.le_of_ble_eq_true rfl) (by first | rfl | decide | (repeat' split) <;> rfl) rfl (hN_sfi _ _ _ _) (hk_sfi _ _ _ _) (mE_sfi (k_sfi (k_sfi (k_sfi h1))) (by decide) (ob_4_8 _ _ _)) ?_
  refine mW_aload_n (j := 0) dX4_begin_26 rfl rfl ?_
  refine mW_iconst (v := 0) dX4_begin_27 (by decide) ?_
  refine mW_put (ty := .int) (w2 := sfi (sfi (sfi (sfi (sfi w a0 5 (hai w a0_0 12)) a0 6 0) a0 7 0) a0 8 0) a0 9 0) dX4_begin_28 p_X4_52 (k_sfi (k_sfi (k_sfi (k_sfi h1)))) (Nat.le_of_ble_eq_true rfl) (by first | rfl | decide | (repeat' split) <;> rfl) rfl (hN_sfi _ _ _ _) (hk_sfi _ _ _ _) (mE_sfi (k_sfi (k_sfi (k_sfi (k_sfi h1)))) (by decide) (ob_4_9 _ _ _)) ?_
  refine mW_aload_n (j := 0) dX4_begin_31 rfl rfl ?_
  refine mW_iconst (v := 0) dX4_begin_32 (by decide) ?_
  refine mW_put (ty := .boolean) (w2 := sfi (sfi (sfi (sfi (sfi (sfi w a0 5 (hai w a0_0 12)) a0 6 0) a0 7 0) a0 8 0) a0 9 0) a0 10 0) dX4_begin_33 p_X4_55 (k_sfi (k_sfi (k_sfi (k_sfi (k_sfi h1))))) (Nat.le_of_ble_eq_true rfl) (by first | rfl | decide | (repeat' split) <;> rfl) rfl (hN_sfi _ _ _ _) (hk_sfi _ _ _ _) (mE_sfi (k_sfi (k_sfi (k_sfi (k_sfi (k_sfi h1))))) (by decide) (ob_4_10 _ _ _)) ?_
  exact mW_vret dX4_begin_36 rfl (⟨by first | with_reducible rfl | (simp only [sX4_begin]; done) | rfl, by first | with_reducible rfl | (simp only [sX4_begin]; done) | rfl⟩)
def vX4_measuredError (w : mH) (a0 : Nat) (a0_0 : Nat) : Int32 := (if (hai w a0_0 5) ≤ 0 then (hfi w a0 5) else (((hfi w a0 5) / (hai w a0_0 5)) * (hai w a0_0 5)))
set_option maxHeartbeats 4000000 in
set_option maxRecDepth 100000 in
theorem qX4_measuredError {G : mG} {w : mH} {a0 a0_0 n_a0_0 : Nat} (h1 : hk w a0 = (4, 0)) (h2 : hfr w a0 0 = some a0_0) (h3 : hk w a0_0 = (16, n_a0_0)) (s1 : vp_in 5 n_a0_0) (s2 : (¬ ((hai w a0_0 5) ≤ 0)) → ¬ (hai w a0_0 5) = 0) : mC G mX4_measuredError 1 0 0 [.ref a0] w (mEq (.inl (some (.int (vX4_measuredError w a0 a0_0)))) w) := by
  refine mC_of (by decide +kernel) rfl (Nat.le_of_ble_eq_true rfl) rfl ?_
  refine mW_aload_n (j := 0) dX4_measuredError_0 rfl rfl ?_
  refine mW_getR dX4_measuredError_1 f_X4_18 h1 rfl h2 ?_
  refine mW_iconst (v := 5) dX4_measuredError_4 (by decide) ?_
  refine mW_ialdJ dX4_measuredError_5 h3 s1 (j := 5) (by decide) ?_
  refine mW_istore_n (lv2 := [(1, .int (hai w a0_0 5)), (0, .ref a0)]) dX4_measuredError_6 rfl (by decide) rfl ?_
  refine mW_iload_n (j := 0) dX4_measuredError_7 rfl rfl ?_
  refine mW_if_le (tgt := 22) dX4_measuredError_8 (by decide) (fun c1 => ?_) (fun c1 => ?_)
  · refine mW_aload_n (j := 1) dX4_measuredError_22 rfl rfl ?_
    refine mW_get dX4_measuredError_23 f_X4_39 h1 rfl ?_
    exact mW_iret dX4_measuredError_26 rfl (⟨by first | with_reducible rfl | (simp only [vX4_measuredError, if_pos c1]; done) | rfl, by first | with_reducible rfl | (simp only [vX4_measuredError, if_pos c1]; done) | rfl⟩)
  · refine mW_aload_n (j := 1) dX4_measuredError_11 rfl rfl ?_
    refine mW_get dX4_measuredError_12 f_X4_39 h1 rfl ?_
    refine mW_iload_n (j := 0) dX4_measuredError_15 rfl rfl ?_
    refine mW_idiv dX4_measuredError_16 (s2 c1) ?_
    refine mW_iload_n (j := 0) dX4_measuredError_17 rfl rfl ?_
    refine mW_imul dX4_measuredError_18 ?_
    refine mW_goto (tgt := 26) dX4_measuredError_19 (by decide) ?_
    exact mW_iret dX4_measuredError_26 rfl (⟨by first | with_reducible rfl | (simp only [vX4_measuredError, if_neg c1]; done) | rfl, by first | with_reducible rfl | (simp only [vX4_measuredError, if_neg c1]; done) | rfl⟩)
def vX4_seenStep (w : mH) (x1 : Int32) (a0_0 : Nat) : Int32 := (iMax (x1 - (iMax (hai w a0_0 6) 0)) 0)
set_option maxHeartbeats 4000000 in
set_option maxRecDepth 100000 in
theorem qX4_seenStep {G : mG} {w : mH} {a0 : Nat} {x1 : Int32} {a0_0 n_a0_0 : Nat} (h1 : hk w a0 = (4, 0)) (h2 : hfr w a0 0 = some a0_0) (h3 : hk w a0_0 = (16, n_a0_0)) (s1 : vp_in 6 n_a0_0) : mC G mX4_seenStep 1 0 0 [.ref a0, .int x1] w (mEq (.inl (some (.int (vX4_seenStep w x1 a0_0)))) w) := by
  refine mC_of (by decide +kernel) rfl (Nat.le_of_ble_eq_true rfl) rfl ?_
  refine mW_iload_n (j := 1) dX4_seenStep_0 rfl rfl ?_
  refine mW_aload_n (j := 0) dX4_seenStep_1 rfl rfl ?_
  refine mW_getR dX4_seenStep_2 f_X4_18 h1 rfl h2 ?_
  refine mW_bipush (v := 6) dX4_seenStep_5 (by decide) ?_
  refine mW_ialdJ dX4_seenStep_7 h3 s1 (j := 6) (by decide) ?_
  refine mW_iconst (v := 0) dX4_seenStep_8 (by decide) ?_
  refine mW_mmaxA dX4_seenStep_9 u542 u543 u91 u544 (Nat.le_of_ble_eq_true rfl) (by decide) ?_
  refine mW_isub dX4_seenStep_12 ?_
  refine mW_iconst (v := 0) dX4_seenStep_13 (by decide) ?_
  refine mW_mmaxA dX4_seenStep_14 u542 u543 u91 u544 (Nat.le_of_ble_eq_true rfl) (by decide) ?_
  exact mW_iret dX4_seenStep_17 rfl (⟨by first | with_reducible rfl | (simp only [vX4_seenStep]; done) | rfl, by first | with_reducible rfl | (simp only [vX4_seenStep]; done) | rfl⟩)
def vX4_ofTwoOutputs (w : mH) (a0 : Nat) (x1 : Int32) (a0_0 : Nat) : Int32 := (if x1 ≤ (hai w a0_0 11) then (if (-(hai w a0_0 11)) ≤ x1 then (hfi w a0 9) else (-(hai w a0_0 3))) else (hai w a0_0 3))
set_option maxHeartbeats 4000000 in
set_option maxRecDepth 100000 in
theorem qX4_ofTwoOutputs {G : mG} {w : mH} {a0 : Nat} {x1 : Int32} {a0_0 n_a0_0 : Nat} (h1 : hk w a0 = (4, 0)) (h2 : hfr w a0 0 = some a0_0) (h3 : hk w a0_0 = (16, n_a0_0)) (s1 : vp_in 11 n_a0_0) (s2 : (x1 ≤ (hai w a0_0 11)) → (¬ ((-(hai w a0_0 11)) ≤ x1)) → vp_in 3 n_a0_0) (s3 : (¬ (x1 ≤ (hai w a0_0 11))) → vp_in 3 n_a0_0) : mC G mX4_ofTwoOutputs 1 0 0 [.ref a0, .int x1] w (mEq (.inl (some (.int (vX4_ofTwoOutputs w a0 x1 a0_0)))) w) := by
  refine mC_of (by decide +kernel) rfl (Nat.le_of_ble_eq_true rfl) rfl ?_
  refine mW_iload_n (j := 1) dX4_ofTwoOutputs_0 rfl rfl ?_
  refine mW_aload_n (j := 0) dX4_ofTwoOutputs_1 rfl rfl ?_
  refine mW_getR dX4_ofTwoOutputs_2 f_X4_18 h1 rfl h2 ?_
  refine mW_bipush (v := 11) dX4_ofTwoOutputs_5 (by decide) ?_
  refine mW_ialdJ dX4_ofTwoOutputs_7 h3 s1 (j := 11) (by decide) ?_
  refine mW_icmp_le (tgt := 18) dX4_ofTwoOutputs_8 (by decide) (fun c1 => ?_) (fun c1 => ?_)
  · refine mW_iload_n (j := 1) dX4_ofTwoOutputs_18 rfl rfl ?_
    refine mW_aload_n (j := 0) dX4_ofTwoOutputs_19 rfl rfl ?_
    refine mW_getR dX4_ofTwoOutputs_20 f_X4_18 h1 rfl h2 ?_
    refine mW_bipush (v := 11) dX4_ofTwoOutputs_23 (by decide) ?_
    refine mW_ialdJ dX4_ofTwoOutputs_25 h3 s1 (j := 11) (by decide) ?_
    refine mW_ineg dX4_ofTwoOutputs_26 ?_
    refine mW_icmp_ge (tgt := 40) dX4_ofTwoOutputs_27 (by decide) (fun c2 => ?_) (fun c2 => ?_)
    · refine mW_aload_n (j := 0) dX4_ofTwoOutputs_40 rfl rfl ?_
      refine mW_get dX4_ofTwoOutputs_41 f_X4_52 h1 rfl ?_
      exact mW_iret dX4_ofTwoOutputs_44 rfl (⟨by first | with_reducible rfl | (simp only [vX4_ofTwoOutputs, if_pos c1, if_pos c2]; done) | rfl, by first | with_reducible rfl | (simp only [vX4_ofTwoOutputs, if_pos c1, if_pos c2]; done) | rfl⟩)
    · refine mW_aload_n (j := 0) dX4_ofTwoOutputs_30 rfl rfl ?_
      refine mW_getR dX4_ofTwoOutputs_31 f_X4_18 h1 rfl h2 ?_
      refine mW_iconst (v := 3) dX4_ofTwoOutputs_34 (by decide) ?_
      refine mW_ialdJ dX4_ofTwoOutputs_35 h3 (s2 c1 c2) (j := 3) (by decide) ?_
      refine mW_ineg dX4_ofTwoOutputs_36 ?_
      refine mW_goto (tgt := 44) dX4_ofTwoOutputs_37 (by decide) ?_
      exact mW_iret dX4_ofTwoOutputs_44 rfl (⟨by first | with_reducible rfl | (simp only [vX4_ofTwoOutputs, if_pos c1, if_neg c2]; done) | rfl, by first | with_reducible rfl | (simp only [vX4_ofTwoOutputs, if_pos c1, if_neg c2]; done) | rfl⟩)
  · refine mW_aload_n (j := 0) dX4_ofTwoOutputs_11 rfl rfl ?_
    refine mW_getR dX4_ofTwoOutputs_12 f_X4_18 h1 rfl h2 ?_
    refine mW_iconst (v := 3) dX4_ofTwoOutputs_15 (by decide) ?_
    refine mW_ialdJ dX4_ofTwoOutputs_16 h3 (s3 c1) (j := 3) (by decide) ?_
    exact mW_iret dX4_ofTwoOutputs_17 rfl (⟨by first | with_reducible rfl | (simp only [vX4_ofTwoOutputs, if_neg c1]; done) | rfl, by first | with_reducible rfl | (simp only [vX4_ofTwoOutputs, if_neg c1]; done) | rfl⟩)
def vX5_has (w : mH) (a0 : Nat) (x1 : Int32) : Int32 := (if x1 < 0 then 0 else (if (hfi w a0 2) ≤ x1 then 0 else (if 5 ≤ x1 then 0 else 1)))
set_option maxHeartbeats 4000000 in
set_option maxRecDepth 100000 in
theorem qX5_has {G : mG} {w : mH} {a0 : Nat} {x1 : Int32} (h1 : hk w a0 = (5, 0)) : mC G mX5_has 1 0 0 [.ref a0, .int x1] w (mEq (.inl (some (.int (vX5_has w a0 x1)))) w) := by
  refine mC_of (by decide +kernel) rfl (Nat.le_of_ble_eq_true rfl) rfl ?_
  refine mW_iload_n (j := 1) dX5_has_0 rfl rfl ?_
  refine mW_if_lt (tgt := 21) dX5_has_1 (by decide) (fun c1 => ?_) (fun c1 => ?_)
  · refine mW_iconst (v := 0) dX5_has_21 (by decide) ?_
    exact mW_zret (ty := .boolean) dX5_has_22 rfl (by first | rfl | decide) (⟨by first | with_reducible rfl | (simp only [vX5_has, if_pos c1]; done) | rfl, by first | with_reducible rfl | (simp only [vX5_has, if_pos c1]; done) | rfl⟩)
  · refine mW_iload_n (j := 1) dX5_has_4 rfl rfl ?_
    refine mW_aload_n (j := 0) dX5_has_5 rfl rfl ?_
    refine mW_get dX5_has_6 f_X5_18 h1 rfl ?_
    refine mW_icmp_ge (tgt := 21) dX5_has_9 (by decide) (fun c2 => ?_) (fun c2 => ?_)
    · refine mW_iconst (v := 0) dX5_has_21 (by decide) ?_
      exact mW_zret (ty := .boolean) dX5_has_22 rfl (by first | rfl | decide) (⟨by first | with_reducible rfl | (simp only [vX5_has, if_neg c1, if_pos c2]; done) | rfl, by first | with_reducible rfl | (simp only [vX5_has, if_neg c1, if_pos c2]; done) | rfl⟩)
    · refine mW_iload_n (j := 1) dX5_has_12 rfl rfl ?_
      refine mW_iconst (v := 5) dX5_has_13 (by decide) ?_
      refine mW_icmp_ge (tgt := 21) dX5_has_14 (by decide) (fun c3 => ?_) (fun c3 => ?_)
      · refine mW_iconst (v := 0) dX5_has_21 (by decide) ?_
        exact mW_zret (ty := .boolean) dX5_has_22 rfl (by first | rfl | decide) (⟨by first | with_reducible rfl | (simp only [vX5_has, if_neg c1, if_neg c2, if_pos c3]; done) | rfl, by first | with_reducible rfl | (simp only [vX5_has, if_neg c1, if_neg c2, if_pos c3]; done) | rfl⟩)
      · refine mW_iconst (v := 1) dX5_has_17 (by decide) ?_
        refine mW_goto (tgt := 22) dX5_has_18 (by decide) ?_
        exact mW_zret (ty := .boolean) dX5_has_22 rfl (by first | rfl | decide) (⟨by first | with_reducible rfl | (simp only [vX5_has, if_neg c1, if_neg c2, if_neg c3]; done) | rfl, by first | with_reducible rfl | (simp only [vX5_has, if_neg c1, if_neg c2, if_neg c3]; done) | rfl⟩)
def vX5_valueBetween (w : mH) (x1 : Int32) (x2 : Int32) (x3 : Int32) (a0_0 : Nat) (a0_1 : Nat) : Int32 := (if ((hai w a0_0 x2.toNatClampNeg) - (hai w a0_0 x1.toNatClampNeg)) ≤ 0 then 0 else ((hai w a0_1 x1.toNatClampNeg) + ((((hai w a0_1 x2.toNatClampNeg) - (hai w a0_1 x1.toNatClampNeg)) * (x3 - (hai w a0_0 x1.toNatClampNeg))) / ((hai w a0_0 x2.toNatClampNeg) - (hai w a0_0 x1.toNatClampNeg)))))
set_option maxHeartbeats 4000000 in
set_option maxRecDepth 100000 in
theorem qX5_valueBetween {G : mG} {w : mH} {a0 : Nat} {x1 x2 x3 : Int32} {a0_0 n_a0_0 a0_1 n_a0_1 : Nat} (h1 : hk w a0 = (5, 0)) (h2 : hfr w a0 0 = some a0_0) (h3 : hk w a0_0 = (16, n_a0_0)) (s1 : vp_in x2 n_a0_0) (s2 : vp_in x1 n_a0_0) (h4 : hfr w a0 1 = some a0_1) (h5 : hk w a0_1 = (16, n_a0_1)) (s3 : vp_in x2 n_a0_1) (s4 : vp_in x1 n_a0_1) (s5 : (¬ (((hai w a0_0 x2.toNatClampNeg) - (hai w a0_0 x1.toNatClampNeg)) ≤ 0)) → ¬ ((hai w a0_0 x2.toNatClampNeg) - (hai w a0_0 x1.toNatClampNeg)) = 0) : mC G mX5_valueBetween 1 0 0 [.ref a0, .int x1, .int x2, .int x3] w (mEq (.inl (some (.int (vX5_valueBetween w x1 x2 x3 a0_0 a0_1)))) w) := by
  refine mC_of (by decide +kernel) rfl (Nat.le_of_ble_eq_true rfl) rfl ?_
  refine mW_aload_n (j := 0) dX5_valueBetween_0 rfl rfl ?_
  refine mW_getR dX5_valueBetween_1 f_X5_9 h1 rfl h2 ?_
  refine mW_iload_n (j := 2) dX5_valueBetween_4 rfl rfl ?_
  refine mW_ialdJ dX5_valueBetween_5 h3 s1 rfl ?_
  refine mW_aload_n (j := 0) dX5_valueBetween_6 rfl rfl ?_
  refine mW_getR dX5_valueBetween_7 f_X5_9 h1 rfl h2 ?_
  refine mW_iload_n (j := 1) dX5_valueBetween_10 rfl rfl ?_
  refine mW_ialdJ dX5_valueBetween_11 h3 s2 rfl ?_
  refine mW_isub dX5_valueBetween_12 ?_
  refine mW_istore (lv2 := [(4, .int ((hai w a0_0 x2.toNatClampNeg) - (hai w a0_0 x1.toNatClampNeg))), (0, .ref a0), (1, .int x1), (2, .int x2), (3, .int x3)]) dX5_valueBetween_13 (by decide) rfl ?_
  refine mW_aload_n (j := 1) dX5_valueBetween_15 rfl rfl ?_
  refine mW_getR dX5_valueBetween_16 f_X5_15 h1 rfl h4 ?_
  refine mW_iload_n (j := 3) dX5_valueBetween_19 rfl rfl ?_
  refine mW_ialdJ dX5_valueBetween_20 h5 s3 rfl ?_
  refine mW_aload_n (j := 1) dX5_valueBetween_21 rfl rfl ?_
  refine mW_getR dX5_valueBetween_22 f_X5_15 h1 rfl h4 ?_
  refine mW_iload_n (j := 2) dX5_valueBetween_25 rfl rfl ?_
  refine mW_ialdJ dX5_valueBetween_26 h5 s4 rfl ?_
  refine mW_isub dX5_valueBetween_27 ?_
  refine mW_istore (lv2 := [(5, .int ((hai w a0_1 x2.toNatClampNeg) - (hai w a0_1 x1.toNatClampNeg))), (4, .int ((hai w a0_0 x2.toNatClampNeg) - (hai w a0_0 x1.toNatClampNeg))), (0, .ref a0), (1, .int x1), (2, .int x2), (3, .int x3)]) dX5_valueBetween_28 (by decide) rfl ?_
  refine mW_iload (j := 1) dX5_valueBetween_30 rfl ?_
  refine mW_if_le (tgt := 59) dX5_valueBetween_32 (by decide) (fun c1 => ?_) (fun c1 => ?_)
  · refine mW_iconst (v := 0) dX5_valueBetween_59 (by decide) ?_
    exact mW_iret dX5_valueBetween_60 rfl (⟨by first | with_reducible rfl | (simp only [vX5_valueBetween, if_pos c1]; done) | rfl, by first | with_reducible rfl | (simp only [vX5_valueBetween, if_pos c1]; done) | rfl⟩)
  · refine mW_aload_n (j := 2) dX5_valueBetween_35 rfl rfl ?_
    refine mW_getR dX5_valueBetween_36 f_X5_15 h1 rfl h4 ?_
    refine mW_iload_n (j := 3) dX5_valueBetween_39 rfl rfl ?_
    refine mW_ialdJ dX5_valueBetween_40 h5 s4 rfl ?_
    refine mW_iload (j := 0) dX5_valueBetween_41 rfl ?_
    refine mW_iload_n (j := 5) dX5_valueBetween_43 rfl rfl ?_
    refine mW_aload_n (j := 2) dX5_valueBetween_44 rfl rfl ?_
    refine mW_getR dX5_valueBetween_45 f_X5_9 h1 rfl h2 ?_
    refine mW_iload_n (j := 3) dX5_valueBetween_48 rfl rfl ?_
    refine mW_ialdJ dX5_valueBetween_49 h3 s2 rfl ?_
    refine mW_isub dX5_valueBetween_50 ?_
    refine mW_imul dX5_valueBetween_51 ?_
    refine mW_iload (j := 1) dX5_valueBetween_52 rfl ?_
    refine mW_idiv dX5_valueBetween_54 (s5 c1) ?_
    refine mW_iadd dX5_valueBetween_55 ?_
    refine mW_goto (tgt := 60) dX5_valueBetween_56 (by decide) ?_
    exact mW_iret dX5_valueBetween_60 rfl (⟨by first | with_reducible rfl | (simp only [vX5_valueBetween, if_neg c1]; done) | rfl, by first | with_reducible rfl | (simp only [vX5_valueBetween, if_neg c1]; done) | rfl⟩)
def vX6_isMade (w : mH) (a0 : Nat) : Int32 := (if (hfi w a0 6) ≤ 0 then 0 else (if 200 < (hfi w a0 6) then 0 else 1))
set_option maxHeartbeats 4000000 in
set_option maxRecDepth 100000 in
theorem qX6_isMade {G : mG} {w : mH} {a0 : Nat} (h1 : hk w a0 = (6, 0)) : mC G mX6_isMade 1 0 0 [.ref a0] w (mEq (.inl (some (.int (vX6_isMade w a0)))) w) := by
  refine mC_of (by decide +kernel) rfl (Nat.le_of_ble_eq_true rfl) rfl ?_
  refine mW_aload_n (j := 0) dX6_isMade_0 rfl rfl ?_
  refine mW_get dX6_isMade_1 f_X6_30 h1 rfl ?_
  refine mW_if_le (tgt := 21) dX6_isMade_4 (by decide) (fun c1 => ?_) (fun c1 => ?_)
  · refine mW_iconst (v := 0) dX6_isMade_21 (by decide) ?_
    exact mW_zret (ty := .boolean) dX6_isMade_22 rfl (by first | rfl | decide) (⟨by first | with_reducible rfl | (simp only [vX6_isMade, if_pos c1]; done) | rfl, by first | with_reducible rfl | (simp only [vX6_isMade, if_pos c1]; done) | rfl⟩)
  · refine mW_aload_n (j := 0) dX6_isMade_7 rfl rfl ?_
    refine mW_get dX6_isMade_8 f_X6_30 h1 rfl ?_
    refine mW_sipush (v := 200) dX6_isMade_11 (by decide) ?_
    refine mW_icmp_gt (tgt := 21) dX6_isMade_14 (by decide) (fun c2 => ?_) (fun c2 => ?_)
    · refine mW_iconst (v := 0) dX6_isMade_21 (by decide) ?_
      exact mW_zret (ty := .boolean) dX6_isMade_22 rfl (by first | rfl | decide) (⟨by first | with_reducible rfl | (simp only [vX6_isMade, if_neg c1, if_pos c2]; done) | rfl, by first | with_reducible rfl | (simp only [vX6_isMade, if_neg c1, if_pos c2]; done) | rfl⟩)
    · refine mW_iconst (v := 1) dX6_isMade_17 (by decide) ?_
      refine mW_goto (tgt := 22) dX6_isMade_18 (by decide) ?_
      exact mW_zret (ty := .boolean) dX6_isMade_22 rfl (by first | rfl | decide) (⟨by first | with_reducible rfl | (simp only [vX6_isMade, if_neg c1, if_neg c2]; done) | rfl, by first | with_reducible rfl | (simp only [vX6_isMade, if_neg c1, if_neg c2]; done) | rfl⟩)
def vX6_lastError (w : mH) (a0 : Nat) (a0_0 : Nat) : Int32 := (if (vX6_isMade w a0) = 0 then 0 else (hai w a0_0 ((hfi w a0 6).toNatClampNeg)))
set_option maxHeartbeats 4000000 in
set_option maxRecDepth 100000 in
theorem qX6_lastError {G : mG} {w : mH} {a0 a0_0 n_a0_0 : Nat} (h1 : hk w a0 = (6, 0)) (h2 : hfr w a0 0 = some a0_0) (h3 : hk w a0_0 = (16, n_a0_0)) (s1 : (¬ ((vX6_isMade w a0) = 0)) → vp_in (hfi w a0 6) n_a0_0) : mC G mX6_lastError 2 0 0 [.ref a0] w (mEq (.inl (some (.int (vX6_lastError w a0 a0_0)))) w) := by
  refine mC_of (by decide +kernel) rfl (Nat.le_of_ble_eq_true rfl) rfl ?_
  refine mW_aload_n (j := 0) dX6_lastError_0 rfl rfl ?_
  refine mW_callVe (As := []) (rest := []) (kc2 := 0) (ks2 := 0) dX6_lastError_1 l_X6_64 rfl h1 rfl (by decide) (qX6_isMade (w := w) (a0 := a0) h1) (Nat.le_of_ble_eq_true rfl) (by decide) rfl rfl ?_
  refine mW_if_eq (tgt := 19) dX6_lastError_4 (by decide) (fun c1 => ?_) (fun c1 => ?_)
  · refine mW_iconst (v := 0) dX6_lastError_19 (by decide) ?_
    exact mW_iret dX6_lastError_20 rfl (⟨by first | with_reducible rfl | (simp only [vX6_lastError, if_pos c1]; done) | rfl, by first | with_reducible rfl | (simp only [vX6_lastError, if_pos c1]; done) | rfl⟩)
  · refine mW_aload_n (j := 0) dX6_lastError_7 rfl rfl ?_
    refine mW_getR dX6_lastError_8 f_X6_9 h1 rfl h2 ?_
    refine mW_aload_n (j := 0) dX6_lastError_11 rfl rfl ?_
    refine mW_get dX6_lastError_12 f_X6_30 h1 rfl ?_
    refine mW_ialdJ dX6_lastError_15 h3 (s1 c1) rfl ?_
    refine mW_goto (tgt := 20) dX6_lastError_16 (by decide) ?_
    exact mW_iret dX6_lastError_20 rfl (⟨by first | with_reducible rfl | (simp only [vX6_lastError, if_neg c1]; done) | rfl, by first | with_reducible rfl | (simp only [vX6_lastError, if_neg c1]; done) | rfl⟩)
def vX6_areOpposite (x0 : Int32) (x1 : Int32) : Int32 := (if x0 ≤ 0 then (if 0 ≤ x0 then 0 else (if x1 ≤ 0 then 0 else 1)) else (if x1 < 0 then 1 else (if 0 ≤ x0 then 0 else (if x1 ≤ 0 then 0 else 1))))
set_option maxHeartbeats 4000000 in
set_option maxRecDepth 100000 in
theorem qX6_areOpposite {G : mG} {w : mH} {x0 x1 : Int32}  : mC G mX6_areOpposite 1 0 0 [.int x0, .int x1] w (mEq (.inl (some (.int (vX6_areOpposite x0 x1)))) w) := by
  refine mC_of (by decide +kernel) rfl (Nat.le_of_ble_eq_true rfl) rfl ?_
  refine mW_iload_n (j := 0) dX6_areOpposite_0 rfl rfl ?_
  refine mW_if_le (tgt := 8) dX6_areOpposite_1 (by decide) (fun c1 => ?_) (fun c1 => ?_)
  · refine mW_iload_n (j := 0) dX6_areOpposite_8 rfl rfl ?_
    refine mW_if_ge (tgt := 20) dX6_areOpposite_9 (by decide) (fun c2 => ?_) (fun c2 => ?_)
    · refine mW_iconst (v := 0) dX6_areOpposite_20 (by decide) ?_
      exact mW_zret (ty := .boolean) dX6_areOpposite_21 rfl (by first | rfl | decide) (⟨by first | with_reducible rfl | (simp only [vX6_areOpposite, if_pos c1, if_pos c2]; done) | rfl, by first | with_reducible rfl | (simp only [vX6_areOpposite, if_pos c1, if_pos c2]; done) | rfl⟩)
    · refine mW_iload_n (j := 1) dX6_areOpposite_12 rfl rfl ?_
      refine mW_if_le (tgt := 20) dX6_areOpposite_13 (by decide) (fun c3 => ?_) (fun c3 => ?_)
      · refine mW_iconst (v := 0) dX6_areOpposite_20 (by decide) ?_
        exact mW_zret (ty := .boolean) dX6_areOpposite_21 rfl (by first | rfl | decide) (⟨by first | with_reducible rfl | (simp only [vX6_areOpposite, if_pos c1, if_neg c2, if_pos c3]; done) | rfl, by first | with_reducible rfl | (simp only [vX6_areOpposite, if_pos c1, if_neg c2, if_pos c3]; done) | rfl⟩)
      · refine mW_iconst (v := 1) dX6_areOpposite_16 (by decide) ?_
        refine mW_goto (tgt := 21) dX6_areOpposite_17 (by decide) ?_
        exact mW_zret (ty := .boolean) dX6_areOpposite_21 rfl (by first | rfl | decide) (⟨by first | with_reducible rfl | (simp only [vX6_areOpposite, if_pos c1, if_neg c2, if_neg c3]; done) | rfl, by first | with_reducible rfl | (simp only [vX6_areOpposite, if_pos c1, if_neg c2, if_neg c3]; done) | rfl⟩)
  · refine mW_iload_n (j := 1) dX6_areOpposite_4 rfl rfl ?_
    refine mW_if_lt (tgt := 16) dX6_areOpposite_5 (by decide) (fun c4 => ?_) (fun c4 => ?_)
    · refine mW_iconst (v := 1) dX6_areOpposite_16 (by decide) ?_
      refine mW_goto (tgt := 21) dX6_areOpposite_17 (by decide) ?_
      exact mW_zret (ty := .boolean) dX6_areOpposite_21 rfl (by first | rfl | decide) (⟨by first | with_reducible rfl | (simp only [vX6_areOpposite, if_neg c1, if_pos c4]; done) | rfl, by first | with_reducible rfl | (simp only [vX6_areOpposite, if_neg c1, if_pos c4]; done) | rfl⟩)
    · refine mW_iload_n (j := 0) dX6_areOpposite_8 rfl rfl ?_
      refine mW_if_ge (tgt := 20) dX6_areOpposite_9 (by decide) (fun c5 => ?_) (fun c5 => ?_)
      · refine mW_iconst (v := 0) dX6_areOpposite_20 (by decide) ?_
        exact mW_zret (ty := .boolean) dX6_areOpposite_21 rfl (by first | rfl | decide) (⟨by first | with_reducible rfl | (simp only [vX6_areOpposite, if_neg c1, if_neg c4, if_pos c5]; done) | rfl, by first | with_reducible rfl | (simp only [vX6_areOpposite, if_neg c1, if_neg c4, if_pos c5]; done) | rfl⟩)
      · refine mW_iload_n (j := 1) dX6_areOpposite_12 rfl rfl ?_
        refine mW_if_le (tgt := 20) dX6_areOpposite_13 (by decide) (fun c6 => ?_) (fun c6 => ?_)
        · refine mW_iconst (v := 0) dX6_areOpposite_20 (by decide) ?_
          exact mW_zret (ty := .boolean) dX6_areOpposite_21 rfl (by first | rfl | decide) (⟨by first | with_reducible rfl | (simp only [vX6_areOpposite, if_neg c1, if_neg c4, if_neg c5, if_pos c6]; done) | rfl, by first | with_reducible rfl | (simp only [vX6_areOpposite, if_neg c1, if_neg c4, if_neg c5, if_pos c6]; done) | rfl⟩)
        · refine mW_iconst (v := 1) dX6_areOpposite_16 (by decide) ?_
          refine mW_goto (tgt := 21) dX6_areOpposite_17 (by decide) ?_
          exact mW_zret (ty := .boolean) dX6_areOpposite_21 rfl (by first | rfl | decide) (⟨by first | with_reducible rfl | (simp only [vX6_areOpposite, if_neg c1, if_neg c4, if_neg c5, if_neg c6]; done) | rfl, by first | with_reducible rfl | (simp only [vX6_areOpposite, if_neg c1, if_neg c4, if_neg c5, if_neg c6]; done) | rfl⟩)
def sX7_clear (w : mH) (a0 : Nat) : mH := (sfi (sfi w a0 3 0) a0 7 0)
theorem kkX7_clear {w : mH} {a0 : Nat} : hk (sX7_clear w a0) = hk w := by unfold sX7_clear; simp only [apply_ite hk, e_hk_sfi, e_hk_sfl, e_hk_sai, e_hk_sal, e_hk_sax, ite_self]
theorem rrX7_clear {w : mH} {a0 : Nat} : hfr (sX7_clear w a0) = hfr w := by unfold sX7_clear; simp only [apply_ite hfr, e_hfr_sfi, e_hfr_sfl, e_hfr_sai, e_hfr_sal, e_hfr_sax, ite_self]
set_option maxHeartbeats 4000000 in
set_option maxRecDepth 100000 in
theorem qX7_clear {G : mG} {w : mH} {a0 : Nat} (h1 : hk w a0 = (7, 0)) : mC G mX7_clear 1 0 0 [.ref a0] w (mEq (.inl none) (sX7_clear w a0)) := by
  refine mC_of (by decide +kernel) rfl (Nat.le_of_ble_eq_true rfl) rfl ?_
  refine mW_aload_n (j := 0) dX7_clear_0 rfl rfl ?_
  refine mW_iconst (v := 0) dX7_clear_1 (by decide) ?_
  refine mW_put (ty := .int) (w2 := sfi w a0 3 0) dX7_clear_2 p_X7_21 h1 (Nat.le_of_ble_eq_true rfl) (by first | rfl | decide | (repeat' split) <;> rfl) rfl (hN_sfi _ _ _ _) (hk_sfi _ _ _ _) (mE_sfi h1 (by decide) (ob_7_3 _ _ _)) ?_
  refine mW_aload_n (j := 0) dX7_clear_5 rfl rfl ?_
  refine mW_iconst (v := 0) dX7_clear_6 (by decide) ?_
  refine mW_put (ty := .int) (w2 := sfi (sfi w a0 3 0) a0 7 0) dX7_clear_7 p_X7_34 (k_sfi h1) (Nat.le_of_ble_eq_true rfl) (by first | rfl | decide | (repeat' split) <;> rfl) rfl (hN_sfi _ _ _ _) (hk_sfi _ _ _ _) (mE_sfi (k_sfi h1) (by decide) (ob_7_7 _ _ _)) ?_
  exact mW_vret dX7_clear_10 rfl (⟨by first | with_reducible rfl | (simp only [sX7_clear]; done) | rfl, by first | with_reducible rfl | (simp only [sX7_clear]; done) | rfl⟩)
def vX7_hasRoomFor (w : mH) (a0 : Nat) (x1 : Int32) : Int32 := (if x1 = 3 then (if 4 ≤ (hfi w a0 7) then 0 else 1) else (if 8 ≤ (hfi w a0 3) then 0 else 1))
set_option maxHeartbeats 4000000 in
set_option maxRecDepth 100000 in
theorem qX7_hasRoomFor {G : mG} {w : mH} {a0 : Nat} {x1 : Int32} (h1 : hk w a0 = (7, 0)) : mC G mX7_hasRoomFor 1 0 0 [.ref a0, .int x1] w (mEq (.inl (some (.int (vX7_hasRoomFor w a0 x1)))) w) := by
  refine mC_of (by decide +kernel) rfl (Nat.le_of_ble_eq_true rfl) rfl ?_
  refine mW_iload_n (j := 1) dX7_hasRoomFor_0 rfl rfl ?_
  refine mW_iconst (v := 3) dX7_hasRoomFor_1 (by decide) ?_
  refine mW_icmp_ne (tgt := 21) dX7_hasRoomFor_2 (by decide) (fun c1 => ?_) (fun c1 => ?_)
  · refine mW_aload_n (j := 0) dX7_hasRoomFor_21 rfl rfl ?_
    refine mW_get dX7_hasRoomFor_22 f_X7_21 h1 rfl ?_
    refine mW_bipush (v := 8) dX7_hasRoomFor_25 (by decide) ?_
    refine mW_icmp_ge (tgt := 34) dX7_hasRoomFor_27 (by decide) (fun c2 => ?_) (fun c2 => ?_)
    · refine mW_iconst (v := 0) dX7_hasRoomFor_34 (by decide) ?_
      exact mW_zret (ty := .boolean) dX7_hasRoomFor_35 rfl (by first | rfl | decide) (⟨by first | with_reducible rfl | (simp only [vX7_hasRoomFor, if_neg c1, if_pos c2]; done) | rfl, by first | with_reducible rfl | (simp only [vX7_hasRoomFor, if_neg c1, if_pos c2]; done) | rfl⟩)
    · refine mW_iconst (v := 1) dX7_hasRoomFor_30 (by decide) ?_
      refine mW_goto (tgt := 35) dX7_hasRoomFor_31 (by decide) ?_
      exact mW_zret (ty := .boolean) dX7_hasRoomFor_35 rfl (by first | rfl | decide) (⟨by first | with_reducible rfl | (simp only [vX7_hasRoomFor, if_neg c1, if_neg c2]; done) | rfl, by first | with_reducible rfl | (simp only [vX7_hasRoomFor, if_neg c1, if_neg c2]; done) | rfl⟩)
  · refine mW_aload_n (j := 0) dX7_hasRoomFor_5 rfl rfl ?_
    refine mW_get dX7_hasRoomFor_6 f_X7_34 h1 rfl ?_
    refine mW_iconst (v := 4) dX7_hasRoomFor_9 (by decide) ?_
    refine mW_icmp_ge (tgt := 17) dX7_hasRoomFor_10 (by decide) (fun c3 => ?_) (fun c3 => ?_)
    · refine mW_iconst (v := 0) dX7_hasRoomFor_17 (by decide) ?_
      refine mW_goto (tgt := 35) dX7_hasRoomFor_18 (by decide) ?_
      exact mW_zret (ty := .boolean) dX7_hasRoomFor_35 rfl (by first | rfl | decide) (⟨by first | with_reducible rfl | (simp only [vX7_hasRoomFor, if_pos c1, if_pos c3]; done) | rfl, by first | with_reducible rfl | (simp only [vX7_hasRoomFor, if_pos c1, if_pos c3]; done) | rfl⟩)
    · refine mW_iconst (v := 1) dX7_hasRoomFor_13 (by decide) ?_
      refine mW_goto (tgt := 35) dX7_hasRoomFor_14 (by decide) ?_
      exact mW_zret (ty := .boolean) dX7_hasRoomFor_35 rfl (by first | rfl | decide) (⟨by first | with_reducible rfl | (simp only [vX7_hasRoomFor, if_pos c1, if_neg c3]; done) | rfl, by first | with_reducible rfl | (simp only [vX7_hasRoomFor, if_pos c1, if_neg c3]; done) | rfl⟩)
def sX7_addSegment (w : mH) (a0 : Nat) (x1 : Int32) (x2 : Int32) (x3 : Int32) (a0_0 : Nat) (a0_1 : Nat) (a0_2 : Nat) : mH := (if 8 ≤ (hfi w a0 3) then w else (sfi (sai (sai (sai w a0_0 ((hfi w a0 3).toNatClampNeg) x1) a0_1 ((hfi (sai w a0_0 ((hfi w a0 3).toNatClampNeg) x1) a0 3).toNatClampNeg) x2) a0_2 ((hfi (sai (sai w a0_0 ((hfi w a0 3).toNatClampNeg) x1) a0_1 ((hfi (sai w a0_0 ((hfi w a0 3).toNatClampNeg) x1) a0 3).toNatClampNeg) x2) a0 3).toNatClampNeg) x3) a0 3 ((hfi (sai (sai (sai w a0_0 ((hfi w a0 3).toNatClampNeg) x1) a0_1 ((hfi (sai w a0_0 ((hfi w a0 3).toNatClampNeg) x1) a0 3).toNatClampNeg) x2) a0_2 ((hfi (sai (sai w a0_0 ((hfi w a0 3).toNatClampNeg) x1) a0_1 ((hfi (sai w a0_0 ((hfi w a0 3).toNatClampNeg) x1) a0 3).toNatClampNeg) x2) a0 3).toNatClampNeg) x3) a0 3) + 1)))
theorem kkX7_addSegment {w : mH} {a0 : Nat} {x1 : Int32} {x2 : Int32} {x3 : Int32} {a0_0 : Nat} {a0_1 : Nat} {a0_2 : Nat} : hk (sX7_addSegment w a0 x1 x2 x3 a0_0 a0_1 a0_2) = hk w := by unfold sX7_addSegment; simp only [apply_ite hk, e_hk_sfi, e_hk_sfl, e_hk_sai, e_hk_sal, e_hk_sax, ite_self]
theorem rrX7_addSegment {w : mH} {a0 : Nat} {x1 : Int32} {x2 : Int32} {x3 : Int32} {a0_0 : Nat} {a0_1 : Nat} {a0_2 : Nat} : hfr (sX7_addSegment w a0 x1 x2 x3 a0_0 a0_1 a0_2) = hfr w := by unfold sX7_addSegment; simp only [apply_ite hfr, e_hfr_sfi, e_hfr_sfl, e_hfr_sai, e_hfr_sal, e_hfr_sax, ite_self]
set_option maxHeartbeats 4000000 in
set_option maxRecDepth 100000 in
theorem qX7_addSegment {G : mG} {w : mH} {a0 : Nat} {x1 x2 x3 : Int32} {a0_0 n_a0_0 a0_1 n_a0_1 a0_2 n_a0_2 : Nat} (h1 : hk w a0 = (7, 0)) (h2 : hfr w a0 0 = some a0_0) (h3 : hk w a0_0 = (16, n_a0_0)) (s1 : (¬ (8 ≤ (hfi w a0 3))) → vp_in (hfi w a0 3) n_a0_0) (h4 : hfr w a0 1 = some a0_1) (h5 : hk w a0_1 = (16, n_a0_1)) (s2 : (¬ (8 ≤ (hfi w a0 3))) → vp_in (hfi (sai w a0_0 ((hfi w a0 3).toNatClampNeg) x1) a0 3) n_a0_1) (h6 : hfr w a0 2 = some a0_2) (h7 : hk w a0_2 = (16, n_a0_2)) (s3 : (¬ (8 ≤ (hfi w a0 3))) → vp_in (hfi (sai (sai w a0_0 ((hfi w a0 3).toNatClampNeg) x1) a0_1 ((hfi (sai w a0_0 ((hfi w a0 3).toNatClampNeg) x1) a0 3).toNatClampNeg) x2) a0 3) n_a0_2) : mC G mX7_addSegment 1 0 0 [.ref a0, .int x1, .int x2, .int x3] w (mEq (.inl none) (sX7_addSegment w a0 x1 x2 x3 a0_0 a0_1 a0_2)) := by
  refine mC_of (by decide +kernel) rfl (Nat.le_of_ble_eq_true rfl) rfl ?_
  refine mW_aload_n (j := 0) dX7_addSegment_0 rfl rfl ?_
  refine mW_get dX7_addSegment_1 f_X7_21 h1 rfl ?_
  refine mW_bipush (v := 8) dX7_addSegment_4 (by decide) ?_
  refine mW_icmp_ge (tgt := 49) dX7_addSegment_6 (by decide) (fun c1 => ?_) (fun c1 => ?_)
  · exact mW_vret dX7_addSegment_49 rfl (⟨by first | with_reducible rfl | (simp only [sX7_addSegment, if_pos c1]; done) | rfl, by first | with_reducible rfl | (simp only [sX7_addSegment, if_pos c1]; done) | rfl⟩)
  · refine mW_aload_n (j := 0) dX7_addSegment_9 rfl rfl ?_
    refine mW_getR dX7_addSegment_10 f_X7_9 h1 rfl h2 ?_
    refine mW_aload_n (j := 0) dX7_addSegment_13 rfl rfl ?_
    refine mW_get dX7_addSegment_14 f_X7_21 h1 rfl ?_
    refine mW_iload_n (j := 1) dX7_addSegment_17 rfl rfl ?_
    refine mW_iastJ dX7_addSegment_18 h3 (s1 c1) rfl ?_
    refine mW_aload_n (j := 0) dX7_addSegment_19 rfl rfl ?_
    refine mW_getR dX7_addSegment_20 f_X7_15 (k_sai h1) rfl (r_sai h4) ?_
    refine mW_aload_n (j := 0) dX7_addSegment_23 rfl rfl ?_
    refine mW_get dX7_addSegment_24 f_X7_21 (k_sai h1) rfl ?_
    refine mW_iload_n (j := 2) dX7_addSegment_27 rfl rfl ?_
    refine mW_iastJ dX7_addSegment_28 (k_sai h5) (s2 c1) rfl ?_
    refine mW_aload_n (j := 0) dX7_addSegment_29 rfl rfl ?_
    refine mW_getR dX7_addSegment_30 f_X7_18 (k_sai (k_sai h1)) rfl (r_sai (r_sai h6)) ?_
    refine mW_aload_n (j := 0) dX7_addSegment_33 rfl rfl ?_
    refine mW_get dX7_addSegment_34 f_X7_21 (k_sai (k_sai h1)) rfl ?_
    refine mW_iload_n (j := 3) dX7_addSegment_37 rfl rfl ?_
    refine mW_iastJ dX7_addSegment_38 (k_sai (k_sai h7)) (s3 c1) rfl ?_
    refine mW_aload_n (j := 0) dX7_addSegment_39 rfl rfl ?_
    refine mW_dup dX7_addSegment_40 rfl ?_
    refine mW_get dX7_addSegment_41 f_X7_21 (k_sai (k_sai (k_sai h1))) rfl ?_
    refine mW_iconst (v := 1) dX7_addSegment_44 (by decide) ?_
    refine mW_iadd dX7_addSegment_45 ?_
    refine mW_put (ty := .int) (w2 := sfi (sai (sai (sai w a0_0 ((hfi w a0 3).toNatClampNeg) x1) a0_1 ((hfi (sai w a0_0 ((hfi w a0 3).toNatClampNeg) x1) a0 3).toNatClampNeg) x2) a0_2 ((hfi (sai (sai w a0_0 ((hfi w a0 3).toNatClampNeg) x1) a0_1 ((hfi (sai w a0_0 ((hfi w a0 3).toNatClampNeg) x1) a0 3).toNatClampNeg) x2) a0 3).toNatClampNeg) x3) a0 3 ((hfi (sai (sai (sai w a0_0 ((hfi w a0 3).toNatClampNeg) x1) a0_1 ((hfi (sai w a0_0 ((hfi w a0 3).toNatClampNeg) x1) a0 3).toNatClampNeg) x2) a0_2 ((hfi (sai (sai w a0_0 ((hfi w a0 3).toNatClampNeg) x1) a0_1 ((hfi (sai w a0_0 ((hfi w a0 3).toNatClampNeg) x1) a0 3).toNatClampNeg) x2) a0 3).toNatClampNeg) x3) a0 3) + 1)) dX7_addSegment_46 p_X7_21 (k_sai (k_sai (k_sai h1))) (Nat.le_of_ble_eq_true rfl) (by first | rfl | decide | (repeat' split) <;> rfl) rfl (hN_sfi _ _ _ _) (hk_sfi _ _ _ _) (mE_sfi (k_sai (k_sai (k_sai h1))) (by decide) (ob_7_3 _ _ _)) ?_
    exact mW_vret dX7_addSegment_49 rfl (⟨by first | with_reducible rfl | (simp only [sX7_addSegment, if_neg c1]; done) | rfl, by first | with_reducible rfl | (simp only [sX7_addSegment, if_neg c1]; done) | rfl⟩)
def sX7_addDisturbance (w : mH) (a0 : Nat) (x1 : Int32) (x2 : Int32) (x3 : Int32) (a0_4 : Nat) (a0_5 : Nat) (a0_6 : Nat) : mH := (if 4 ≤ (hfi w a0 7) then w else (sfi (sai (sai (sai w a0_4 ((hfi w a0 7).toNatClampNeg) x1) a0_5 ((hfi (sai w a0_4 ((hfi w a0 7).toNatClampNeg) x1) a0 7).toNatClampNeg) x2) a0_6 ((hfi (sai (sai w a0_4 ((hfi w a0 7).toNatClampNeg) x1) a0_5 ((hfi (sai w a0_4 ((hfi w a0 7).toNatClampNeg) x1) a0 7).toNatClampNeg) x2) a0 7).toNatClampNeg) x3) a0 7 ((hfi (sai (sai (sai w a0_4 ((hfi w a0 7).toNatClampNeg) x1) a0_5 ((hfi (sai w a0_4 ((hfi w a0 7).toNatClampNeg) x1) a0 7).toNatClampNeg) x2) a0_6 ((hfi (sai (sai w a0_4 ((hfi w a0 7).toNatClampNeg) x1) a0_5 ((hfi (sai w a0_4 ((hfi w a0 7).toNatClampNeg) x1) a0 7).toNatClampNeg) x2) a0 7).toNatClampNeg) x3) a0 7) + 1)))
theorem kkX7_addDisturbance {w : mH} {a0 : Nat} {x1 : Int32} {x2 : Int32} {x3 : Int32} {a0_4 : Nat} {a0_5 : Nat} {a0_6 : Nat} : hk (sX7_addDisturbance w a0 x1 x2 x3 a0_4 a0_5 a0_6) = hk w := by unfold sX7_addDisturbance; simp only [apply_ite hk, e_hk_sfi, e_hk_sfl, e_hk_sai, e_hk_sal, e_hk_sax, ite_self]
theorem rrX7_addDisturbance {w : mH} {a0 : Nat} {x1 : Int32} {x2 : Int32} {x3 : Int32} {a0_4 : Nat} {a0_5 : Nat} {a0_6 : Nat} : hfr (sX7_addDisturbance w a0 x1 x2 x3 a0_4 a0_5 a0_6) = hfr w := by unfold sX7_addDisturbance; simp only [apply_ite hfr, e_hfr_sfi, e_hfr_sfl, e_hfr_sai, e_hfr_sal, e_hfr_sax, ite_self]
set_option maxHeartbeats 4000000 in
set_option maxRecDepth 100000 in
theorem qX7_addDisturbance {G : mG} {w : mH} {a0 : Nat} {x1 x2 x3 : Int32} {a0_4 n_a0_4 a0_5 n_a0_5 a0_6 n_a0_6 : Nat} (h1 : hk w a0 = (7, 0)) (h2 : hfr w a0 4 = some a0_4) (h3 : hk w a0_4 = (16, n_a0_4)) (s1 : (¬ (4 ≤ (hfi w a0 7))) → vp_in (hfi w a0 7) n_a0_4) (h4 : hfr w a0 5 = some a0_5) (h5 : hk w a0_5 = (16, n_a0_5)) (s2 : (¬ (4 ≤ (hfi w a0 7))) → vp_in (hfi (sai w a0_4 ((hfi w a0 7).toNatClampNeg) x1) a0 7) n_a0_5) (h6 : hfr w a0 6 = some a0_6) (h7 : hk w a0_6 = (16, n_a0_6)) (s3 : (¬ (4 ≤ (hfi w a0 7))) → vp_in (hfi (sai (sai w a0_4 ((hfi w a0 7).toNatClampNeg) x1) a0_5 ((hfi (sai w a0_4 ((hfi w a0 7).toNatClampNeg) x1) a0 7).toNatClampNeg) x2) a0 7) n_a0_6) : mC G mX7_addDisturbance 1 0 0 [.ref a0, .int x1, .int x2, .int x3] w (mEq (.inl none) (sX7_addDisturbance w a0 x1 x2 x3 a0_4 a0_5 a0_6)) := by
  refine mC_of (by decide +kernel) rfl (Nat.le_of_ble_eq_true rfl) rfl ?_
  refine mW_aload_n (j := 0) dX7_addDisturbance_0 rfl rfl ?_
  refine mW_get dX7_addDisturbance_1 f_X7_34 h1 rfl ?_
  refine mW_iconst (v := 4) dX7_addDisturbance_4 (by decide) ?_
  refine mW_icmp_ge (tgt := 48) dX7_addDisturbance_5 (by decide) (fun c1 => ?_) (fun c1 => ?_)
  · exact mW_vret dX7_addDisturbance_48 rfl (⟨by first | with_reducible rfl | (simp only [sX7_addDisturbance, if_pos c1]; done) | rfl, by first | with_reducible rfl | (simp only [sX7_addDisturbance, if_pos c1]; done) | rfl⟩)
  · refine mW_aload_n (j := 0) dX7_addDisturbance_8 rfl rfl ?_
    refine mW_getR dX7_addDisturbance_9 f_X7_25 h1 rfl h2 ?_
    refine mW_aload_n (j := 0) dX7_addDisturbance_12 rfl rfl ?_
    refine mW_get dX7_addDisturbance_13 f_X7_34 h1 rfl ?_
    refine mW_iload_n (j := 1) dX7_addDisturbance_16 rfl rfl ?_
    refine mW_iastJ dX7_addDisturbance_17 h3 (s1 c1) rfl ?_
    refine mW_aload_n (j := 0) dX7_addDisturbance_18 rfl rfl ?_
    refine mW_getR dX7_addDisturbance_19 f_X7_28 (k_sai h1) rfl (r_sai h4) ?_
    refine mW_aload_n (j := 0) dX7_addDisturbance_22 rfl rfl ?_
    refine mW_get dX7_addDisturbance_23 f_X7_34 (k_sai h1) rfl ?_
    refine mW_iload_n (j := 2) dX7_addDisturbance_26 rfl rfl ?_
    refine mW_iastJ dX7_addDisturbance_27 (k_sai h5) (s2 c1) rfl ?_
    refine mW_aload_n (j := 0) dX7_addDisturbance_28 rfl rfl ?_
    refine mW_getR dX7_addDisturbance_29 f_X7_31 (k_sai (k_sai h1)) rfl (r_sai (r_sai h6)) ?_
    refine mW_aload_n (j := 0) dX7_addDisturbance_32 rfl rfl ?_
    refine mW_get dX7_addDisturbance_33 f_X7_34 (k_sai (k_sai h1)) rfl ?_
    refine mW_iload_n (j := 3) dX7_addDisturbance_36 rfl rfl ?_
    refine mW_iastJ dX7_addDisturbance_37 (k_sai (k_sai h7)) (s3 c1) rfl ?_
    refine mW_aload_n (j := 0) dX7_addDisturbance_38 rfl rfl ?_
    refine mW_dup dX7_addDisturbance_39 rfl ?_
    refine mW_get dX7_addDisturbance_40 f_X7_34 (k_sai (k_sai (k_sai h1))) rfl ?_
    refine mW_iconst (v := 1) dX7_addDisturbance_43 (by decide) ?_
    refine mW_iadd dX7_addDisturbance_44 ?_
    refine mW_put (ty := .int) (w2 := sfi (sai (sai (sai w a0_4 ((hfi w a0 7).toNatClampNeg) x1) a0_5 ((hfi (sai w a0_4 ((hfi w a0 7).toNatClampNeg) x1) a0 7).toNatClampNeg) x2) a0_6 ((hfi (sai (sai w a0_4 ((hfi w a0 7).toNatClampNeg) x1) a0_5 ((hfi (sai w a0_4 ((hfi w a0 7).toNatClampNeg) x1) a0 7).toNatClampNeg) x2) a0 7).toNatClampNeg) x3) a0 7 ((hfi (sai (sai (sai w a0_4 ((hfi w a0 7).toNatClampNeg) x1) a0_5 ((hfi (sai w a0_4 ((hfi w a0 7).toNatClampNeg) x1) a0 7).toNatClampNeg) x2) a0_6 ((hfi (sai (sai w a0_4 ((hfi w a0 7).toNatClampNeg) x1) a0_5 ((hfi (sai w a0_4 ((hfi w a0 7).toNatClampNeg) x1) a0 7).toNatClampNeg) x2) a0 7).toNatClampNeg) x3) a0 7) + 1)) dX7_addDisturbance_45 p_X7_34 (k_sai (k_sai (k_sai h1))) (Nat.le_of_ble_eq_true rfl) (by first | rfl | decide | (repeat' split) <;> rfl) rfl (hN_sfi _ _ _ _) (hk_sfi _ _ _ _) (mE_sfi (k_sai (k_sai (k_sai h1))) (by decide) (ob_7_7 _ _ _)) ?_
    exact mW_vret dX7_addDisturbance_48 rfl (⟨by first | with_reducible rfl | (simp only [sX7_addDisturbance, if_neg c1]; done) | rfl, by first | with_reducible rfl | (simp only [sX7_addDisturbance, if_neg c1]; done) | rfl⟩)
def vX7_curvatureInside (w : mH) (x1 : Int32) (x2 : Int32) (a0_0 : Nat) (a0_2 : Nat) (a0_1 : Nat) : Int32 := (if (hai w a0_0 x1.toNatClampNeg) = 2 then (if (hai w a0_1 x1.toNatClampNeg) ≤ 0 then (if (hai w a0_0 x1.toNatClampNeg) = 1 then (hai w a0_2 x1.toNatClampNeg) else 0) else (((hai w a0_2 x1.toNatClampNeg) * x2) / (hai w a0_1 x1.toNatClampNeg))) else (if (hai w a0_0 x1.toNatClampNeg) = 1 then (hai w a0_2 x1.toNatClampNeg) else 0))
set_option maxHeartbeats 4000000 in
set_option maxRecDepth 100000 in
theorem qX7_curvatureInside {G : mG} {w : mH} {a0 : Nat} {x1 x2 : Int32} {a0_0 n_a0_0 a0_2 n_a0_2 a0_1 n_a0_1 : Nat} (h1 : hk w a0 = (7, 0)) (h2 : hfr w a0 0 = some a0_0) (h3 : hk w a0_0 = (16, n_a0_0)) (s1 : vp_in x1 n_a0_0) (h4 : hfr w a0 2 = some a0_2) (h5 : hk w a0_2 = (16, n_a0_2)) (s2 : (¬ ((hai w a0_0 x1.toNatClampNeg) = 2)) → ((hai w a0_0 x1.toNatClampNeg) = 1) → vp_in x1 n_a0_2) (h6 : hfr w a0 1 = some a0_1) (h7 : hk w a0_1 = (16, n_a0_1)) (s3 : ((hai w a0_0 x1.toNatClampNeg) = 2) → vp_in x1 n_a0_1) (s4 : ((hai w a0_0 x1.toNatClampNeg) = 2) → ((hai w a0_1 x1.toNatClampNeg) ≤ 0) → ((hai w a0_0 x1.toNatClampNeg) = 1) → vp_in x1 n_a0_2) (s5 : ((hai w a0_0 x1.toNatClampNeg) = 2) → (¬ ((hai w a0_1 x1.toNatClampNeg) ≤ 0)) → vp_in x1 n_a0_2) (s6 : ((hai w a0_0 x1.toNatClampNeg) = 2) → (¬ ((hai w a0_1 x1.toNatClampNeg) ≤ 0)) → ¬ (hai w a0_1 x1.toNatClampNeg) = 0) : mC G mX7_curvatureInside 1 0 0 [.ref a0, .int x1, .int x2] w (mEq (.inl (some (.int (vX7_curvatureInside w x1 x2 a0_0 a0_2 a0_1)))) w) := by
  refine mC_of (by decide +kernel) rfl (Nat.le_of_ble_eq_true rfl) rfl ?_
  refine mW_aload_n (j := 0) dX7_curvatureInside_0 rfl rfl ?_
  refine mW_getR dX7_curvatureInside_1 f_X7_9 h1 rfl h2 ?_
  refine mW_iload_n (j := 1) dX7_curvatureInside_4 rfl rfl ?_
  refine mW_ialdJ dX7_curvatureInside_5 h3 s1 rfl ?_
  refine mW_iconst (v := 2) dX7_curvatureInside_6 (by decide) ?_
  refine mW_icmp_ne (tgt := 35) dX7_curvatureInside_7 (by decide) (fun c1 => ?_) (fun c1 => ?_)
  · refine mW_aload_n (j := 0) dX7_curvatureInside_35 rfl rfl ?_
    refine mW_getR dX7_curvatureInside_36 f_X7_9 h1 rfl h2 ?_
    refine mW_iload_n (j := 1) dX7_curvatureInside_39 rfl rfl ?_
    refine mW_ialdJ dX7_curvatureInside_40 h3 s1 rfl ?_
    refine mW_iconst (v := 1) dX7_curvatureInside_41 (by decide) ?_
    refine mW_icmp_ne (tgt := 54) dX7_curvatureInside_42 (by decide) (fun c2 => ?_) (fun c2 => ?_)
    · refine mW_iconst (v := 0) dX7_curvatureInside_54 (by decide) ?_
      exact mW_iret dX7_curvatureInside_55 rfl (⟨by first | with_reducible rfl | (simp only [vX7_curvatureInside, if_neg c1, if_neg c2]; done) | rfl, by first | with_reducible rfl | (simp only [vX7_curvatureInside, if_neg c1, if_neg c2]; done) | rfl⟩)
    · refine mW_aload_n (j := 0) dX7_curvatureInside_45 rfl rfl ?_
      refine mW_getR dX7_curvatureInside_46 f_X7_18 h1 rfl h4 ?_
      refine mW_iload_n (j := 1) dX7_curvatureInside_49 rfl rfl ?_
      refine mW_ialdJ dX7_curvatureInside_50 h5 (s2 c1 c2) rfl ?_
      refine mW_goto (tgt := 55) dX7_curvatureInside_51 (by decide) ?_
      exact mW_iret dX7_curvatureInside_55 rfl (⟨by first | with_reducible rfl | (simp only [vX7_curvatureInside, if_neg c1, if_pos c2]; done) | rfl, by first | with_reducible rfl | (simp only [vX7_curvatureInside, if_neg c1, if_pos c2]; done) | rfl⟩)
  · refine mW_aload_n (j := 0) dX7_curvatureInside_10 rfl rfl ?_
    refine mW_getR dX7_curvatureInside_11 f_X7_15 h1 rfl h6 ?_
    refine mW_iload_n (j := 1) dX7_curvatureInside_14 rfl rfl ?_
    refine mW_ialdJ dX7_curvatureInside_15 h7 (s3 c1) rfl ?_
    refine mW_if_le (tgt := 35) dX7_curvatureInside_16 (by decide) (fun c3 => ?_) (fun c3 => ?_)
    · refine mW_aload_n (j := 0) dX7_curvatureInside_35 rfl rfl ?_
      refine mW_getR dX7_curvatureInside_36 f_X7_9 h1 rfl h2 ?_
      refine mW_iload_n (j := 1) dX7_curvatureInside_39 rfl rfl ?_
      refine mW_ialdJ dX7_curvatureInside_40 h3 s1 rfl ?_
      refine mW_iconst (v := 1) dX7_curvatureInside_41 (by decide) ?_
      refine mW_icmp_ne (tgt := 54) dX7_curvatureInside_42 (by decide) (fun c4 => ?_) (fun c4 => ?_)
      · refine mW_iconst (v := 0) dX7_curvatureInside_54 (by decide) ?_
        exact mW_iret dX7_curvatureInside_55 rfl (⟨by first | with_reducible rfl | (simp only [vX7_curvatureInside, if_pos c1, if_pos c3, if_neg c4]; done) | rfl, by first | with_reducible rfl | (simp only [vX7_curvatureInside, if_pos c1, if_pos c3, if_neg c4]; done) | rfl⟩)
      · refine mW_aload_n (j := 0) dX7_curvatureInside_45 rfl rfl ?_
        refine mW_getR dX7_curvatureInside_46 f_X7_18 h1 rfl h4 ?_
        refine mW_iload_n (j := 1) dX7_curvatureInside_49 rfl rfl ?_
        refine mW_ialdJ dX7_curvatureInside_50 h5 (s4 c1 c3 c4) rfl ?_
        refine mW_goto (tgt := 55) dX7_curvatureInside_51 (by decide) ?_
        exact mW_iret dX7_curvatureInside_55 rfl (⟨by first | with_reducible rfl | (simp only [vX7_curvatureInside, if_pos c1, if_pos c3, if_pos c4]; done) | rfl, by first | with_reducible rfl | (simp only [vX7_curvatureInside, if_pos c1, if_pos c3, if_pos c4]; done) | rfl⟩)
    · refine mW_aload_n (j := 0) dX7_curvatureInside_19 rfl rfl ?_
      refine mW_getR dX7_curvatureInside_20 f_X7_18 h1 rfl h4 ?_
      refine mW_iload_n (j := 1) dX7_curvatureInside_23 rfl rfl ?_
      refine mW_ialdJ dX7_curvatureInside_24 h5 (s5 c1 c3) rfl ?_
      refine mW_iload_n (j := 2) dX7_curvatureInside_25 rfl rfl ?_
      refine mW_imul dX7_curvatureInside_26 ?_
      refine mW_aload_n (j := 0) dX7_curvatureInside_27 rfl rfl ?_
      refine mW_getR dX7_curvatureInside_28 f_X7_15 h1 rfl h6 ?_
      refine mW_iload_n (j := 1) dX7_curvatureInside_31 rfl rfl ?_
      refine mW_ialdJ dX7_curvatureInside_32 h7 (s3 c1) rfl ?_
      refine mW_idiv dX7_curvatureInside_33 (s6 c1 c3) ?_
      exact mW_iret dX7_curvatureInside_34 rfl (⟨by first | with_reducible rfl | (simp only [vX7_curvatureInside, if_pos c1, if_neg c3]; done) | rfl, by first | with_reducible rfl | (simp only [vX7_curvatureInside, if_pos c1, if_neg c3]; done) | rfl⟩)
def vX8_sign (w : mH) (a0 : Nat) (a0_0 : Nat) : Int32 := (if (hfi w a0 4) < 0 then 0 else (if (hfi w a0 1) ≤ (hfi w a0 4) then 0 else (if 50 ≤ (hfi w a0 4) then 0 else (hai w a0_0 ((hfi w a0 4).toNatClampNeg)))))
set_option maxHeartbeats 4000000 in
set_option maxRecDepth 100000 in
theorem qX8_sign {G : mG} {w : mH} {a0 a0_0 n_a0_0 : Nat} (h1 : hk w a0 = (8, 0)) (h2 : hfr w a0 0 = some a0_0) (h3 : hk w a0_0 = (18, n_a0_0)) (s1 : (¬ ((hfi w a0 4) < 0)) → (¬ ((hfi w a0 1) ≤ (hfi w a0 4))) → (¬ (50 ≤ (hfi w a0 4))) → vp_in (hfi w a0 4) n_a0_0) (s2 : (¬ ((hfi w a0 4) < 0)) → (¬ ((hfi w a0 1) ≤ (hfi w a0 4))) → (¬ (50 ≤ (hfi w a0 4))) → narrow .char (.int (hai w a0_0 ((hfi w a0 4).toNatClampNeg))) = .int (hai w a0_0 ((hfi w a0 4).toNatClampNeg))) : mC G mX8_sign 1 0 0 [.ref a0] w (mEq (.inl (some (.int (vX8_sign w a0 a0_0)))) w) := by
  refine mC_of (by decide +kernel) rfl (Nat.le_of_ble_eq_true rfl) rfl ?_
  refine mW_aload_n (j := 0) dX8_sign_0 rfl rfl ?_
  refine mW_get dX8_sign_1 f_X8_29 h1 rfl ?_
  refine mW_if_lt (tgt := 39) dX8_sign_4 (by decide) (fun c1 => ?_) (fun c1 => ?_)
  · refine mW_iconst (v := 0) dX8_sign_39 (by decide) ?_
    exact mW_zret (ty := .char) dX8_sign_40 rfl (by first | rfl | decide) (⟨by first | with_reducible rfl | (simp only [vX8_sign, if_pos c1]; done) | rfl, by first | with_reducible rfl | (simp only [vX8_sign, if_pos c1]; done) | rfl⟩)
  · refine mW_aload_n (j := 0) dX8_sign_7 rfl rfl ?_
    refine mW_get dX8_sign_8 f_X8_29 h1 rfl ?_
    refine mW_aload_n (j := 0) dX8_sign_11 rfl rfl ?_
    refine mW_get dX8_sign_12 f_X8_15 h1 rfl ?_
    refine mW_icmp_ge (tgt := 39) dX8_sign_15 (by decide) (fun c2 => ?_) (fun c2 => ?_)
    · refine mW_iconst (v := 0) dX8_sign_39 (by decide) ?_
      exact mW_zret (ty := .char) dX8_sign_40 rfl (by first | rfl | decide) (⟨by first | with_reducible rfl | (simp only [vX8_sign, if_neg c1, if_pos c2]; done) | rfl, by first | with_reducible rfl | (simp only [vX8_sign, if_neg c1, if_pos c2]; done) | rfl⟩)
    · refine mW_aload_n (j := 0) dX8_sign_18 rfl rfl ?_
      refine mW_get dX8_sign_19 f_X8_29 h1 rfl ?_
      refine mW_bipush (v := 50) dX8_sign_22 (by decide) ?_
      refine mW_icmp_ge (tgt := 39) dX8_sign_24 (by decide) (fun c3 => ?_) (fun c3 => ?_)
      · refine mW_iconst (v := 0) dX8_sign_39 (by decide) ?_
        exact mW_zret (ty := .char) dX8_sign_40 rfl (by first | rfl | decide) (⟨by first | with_reducible rfl | (simp only [vX8_sign, if_neg c1, if_neg c2, if_pos c3]; done) | rfl, by first | with_reducible rfl | (simp only [vX8_sign, if_neg c1, if_neg c2, if_pos c3]; done) | rfl⟩)
      · refine mW_aload_n (j := 0) dX8_sign_27 rfl rfl ?_
        refine mW_getR dX8_sign_28 f_X8_9 h1 rfl h2 ?_
        refine mW_aload_n (j := 0) dX8_sign_31 rfl rfl ?_
        refine mW_get dX8_sign_32 f_X8_29 h1 rfl ?_
        refine mW_caldJ dX8_sign_35 h3 (s1 c1 c2 c3) rfl ?_
        refine mW_goto (tgt := 40) dX8_sign_36 (by decide) ?_
        exact mW_zret (ty := .char) dX8_sign_40 rfl ((s2 c1 c2 c3)) (⟨by first | with_reducible rfl | (simp only [vX8_sign, if_neg c1, if_neg c2, if_neg c3]; done) | rfl, by first | with_reducible rfl | (simp only [vX8_sign, if_neg c1, if_neg c2, if_neg c3]; done) | rfl⟩)
def vX8_isDigit (x0 : Int32) : Int32 := (if x0 < 48 then 0 else (if 57 < x0 then 0 else 1))
set_option maxHeartbeats 4000000 in
set_option maxRecDepth 100000 in
theorem qX8_isDigit {G : mG} {w : mH} {x0 : Int32}  : mC G mX8_isDigit 1 0 0 [.int x0] w (mEq (.inl (some (.int (vX8_isDigit x0)))) w) := by
  refine mC_of (by decide +kernel) rfl (Nat.le_of_ble_eq_true rfl) rfl ?_
  refine mW_iload_n (j := 0) dX8_isDigit_0 rfl rfl ?_
  refine mW_bipush (v := 48) dX8_isDigit_1 (by decide) ?_
  refine mW_icmp_lt (tgt := 16) dX8_isDigit_3 (by decide) (fun c1 => ?_) (fun c1 => ?_)
  · refine mW_iconst (v := 0) dX8_isDigit_16 (by decide) ?_
    exact mW_zret (ty := .boolean) dX8_isDigit_17 rfl (by first | rfl | decide) (⟨by first | with_reducible rfl | (simp only [vX8_isDigit, if_pos c1]; done) | rfl, by first | with_reducible rfl | (simp only [vX8_isDigit, if_pos c1]; done) | rfl⟩)
  · refine mW_iload_n (j := 0) dX8_isDigit_6 rfl rfl ?_
    refine mW_bipush (v := 57) dX8_isDigit_7 (by decide) ?_
    refine mW_icmp_gt (tgt := 16) dX8_isDigit_9 (by decide) (fun c2 => ?_) (fun c2 => ?_)
    · refine mW_iconst (v := 0) dX8_isDigit_16 (by decide) ?_
      exact mW_zret (ty := .boolean) dX8_isDigit_17 rfl (by first | rfl | decide) (⟨by first | with_reducible rfl | (simp only [vX8_isDigit, if_neg c1, if_pos c2]; done) | rfl, by first | with_reducible rfl | (simp only [vX8_isDigit, if_neg c1, if_pos c2]; done) | rfl⟩)
    · refine mW_iconst (v := 1) dX8_isDigit_12 (by decide) ?_
      refine mW_goto (tgt := 17) dX8_isDigit_13 (by decide) ?_
      exact mW_zret (ty := .boolean) dX8_isDigit_17 rfl (by first | rfl | decide) (⟨by first | with_reducible rfl | (simp only [vX8_isDigit, if_neg c1, if_neg c2]; done) | rfl, by first | with_reducible rfl | (simp only [vX8_isDigit, if_neg c1, if_neg c2]; done) | rfl⟩)
def sX8_failAt (w : mH) (a0 : Nat) (x1 : Int32) : mH := (sfi w a0 2 x1)
theorem kkX8_failAt {w : mH} {a0 : Nat} {x1 : Int32} : hk (sX8_failAt w a0 x1) = hk w := by unfold sX8_failAt; simp only [apply_ite hk, e_hk_sfi, e_hk_sfl, e_hk_sai, e_hk_sal, e_hk_sax, ite_self]
theorem rrX8_failAt {w : mH} {a0 : Nat} {x1 : Int32} : hfr (sX8_failAt w a0 x1) = hfr w := by unfold sX8_failAt; simp only [apply_ite hfr, e_hfr_sfi, e_hfr_sfl, e_hfr_sai, e_hfr_sal, e_hfr_sax, ite_self]
set_option maxHeartbeats 4000000 in
set_option maxRecDepth 100000 in
theorem qX8_failAt {G : mG} {w : mH} {a0 : Nat} {x1 : Int32} (h1 : hk w a0 = (8, 0)) : mC G mX8_failAt 1 0 0 [.ref a0, .int x1] w (mEq (.inl (some (.int 0))) (sX8_failAt w a0 x1)) := by
  refine mC_of (by decide +kernel) rfl (Nat.le_of_ble_eq_true rfl) rfl ?_
  refine mW_aload_n (j := 0) dX8_failAt_0 rfl rfl ?_
  refine mW_iload_n (j := 1) dX8_failAt_1 rfl rfl ?_
  refine mW_put (ty := .int) (w2 := sfi w a0 2 x1) dX8_failAt_2 p_X8_19 h1 (Nat.le_of_ble_eq_true rfl) (by first | rfl | decide | (repeat' split) <;> rfl) rfl (hN_sfi _ _ _ _) (hk_sfi _ _ _ _) (mE_sfi h1 (by decide) (ob_8_2 _ _ _)) ?_
  refine mW_iconst (v := 0) dX8_failAt_5 (by decide) ?_
  exact mW_zret (ty := .boolean) dX8_failAt_6 rfl (by first | rfl | decide) (⟨by first | with_reducible rfl | (simp only [sX8_failAt]; done) | rfl, by first | with_reducible rfl | (simp only [sX8_failAt]; done) | rfl⟩)
set_option maxHeartbeats 4000000 in
set_option maxRecDepth 100000 in
theorem qX10_errorPosition {G : mG} {w : mH} {a0 a0_4 : Nat} (h1 : hk w a0 = (10, 0)) (h2 : hfr w a0 4 = some a0_4) (h3 : hk w a0_4 = (8, 0)) : mC G mX10_errorPosition 1 0 0 [.ref a0] w (mEq (.inl (some (.int (hfi w a0_4 2)))) w) := by
  refine mC_of (by decide +kernel) rfl (Nat.le_of_ble_eq_true rfl) rfl ?_
  refine mW_aload_n (j := 0) dX10_errorPosition_0 rfl rfl ?_
  refine mW_getR dX10_errorPosition_1 f_X10_33 h1 rfl h2 ?_
  refine mW_get dX10_errorPosition_4 f_X10_235 h3 rfl ?_
  exact mW_iret dX10_errorPosition_7 rfl (⟨by first | with_reducible rfl | (simp only []; done) | rfl, by first | with_reducible rfl | (simp only []; done) | rfl⟩)
def vX10_foundBy (x1 : Int32) (a0_10 : Nat) (a0_11 : Nat) : Nat := (if x1 = 0 then a0_10 else a0_11)
set_option maxHeartbeats 4000000 in
set_option maxRecDepth 100000 in
theorem qX10_foundBy {G : mG} {w : mH} {a0 : Nat} {x1 : Int32} {a0_10 a0_11 : Nat} (h1 : hk w a0 = (10, 0)) (h2 : hfr w a0 10 = some a0_10) (h3 : hfr w a0 11 = some a0_11) : mC G mX10_foundBy 1 0 0 [.ref a0, .int x1] w (mEq (.inl (some (.ref (vX10_foundBy x1 a0_10 a0_11)))) w) := by
  refine mC_of (by decide +kernel) rfl (Nat.le_of_ble_eq_true rfl) rfl ?_
  refine mW_iload_n (j := 1) dX10_foundBy_0 rfl rfl ?_
  refine mW_if_eq (tgt := 11) dX10_foundBy_1 (by decide) (fun c1 => ?_) (fun c1 => ?_)
  · refine mW_aload_n (j := 0) dX10_foundBy_11 rfl rfl ?_
    refine mW_getR dX10_foundBy_12 f_X10_71 h1 rfl h2 ?_
    exact mW_aret (v := .ref a0_10) dX10_foundBy_15 rfl (by first | exact Or.inl ⟨_, rfl⟩ | exact Or.inr ⟨_, rfl⟩) (by first | exact Or.inl rfl | exact Or.inr ⟨_, rfl⟩) (⟨by first | with_reducible rfl | (simp only [vX10_foundBy, if_pos c1]; done) | rfl, by first | with_reducible rfl | (simp only [vX10_foundBy, if_pos c1]; done) | rfl⟩)
  · refine mW_aload_n (j := 0) dX10_foundBy_4 rfl rfl ?_
    refine mW_getR dX10_foundBy_5 f_X10_75 h1 rfl h3 ?_
    refine mW_goto (tgt := 15) dX10_foundBy_8 (by decide) ?_
    exact mW_aret (v := .ref a0_11) dX10_foundBy_15 rfl (by first | exact Or.inl ⟨_, rfl⟩ | exact Or.inr ⟨_, rfl⟩) (by first | exact Or.inl rfl | exact Or.inr ⟨_, rfl⟩) (⟨by first | with_reducible rfl | (simp only [vX10_foundBy, if_neg c1]; done) | rfl, by first | with_reducible rfl | (simp only [vX10_foundBy, if_neg c1]; done) | rfl⟩)
def vX10_isWithin (x0 : Int32) (x1 : Int32) (x2 : Int32) : Int32 := (if x0 < x1 then 0 else (if x2 < x0 then 0 else 1))
set_option maxHeartbeats 4000000 in
set_option maxRecDepth 100000 in
theorem qX10_isWithin {G : mG} {w : mH} {x0 x1 x2 : Int32}  : mC G mX10_isWithin 1 0 0 [.int x0, .int x1, .int x2] w (mEq (.inl (some (.int (vX10_isWithin x0 x1 x2)))) w) := by
  refine mC_of (by decide +kernel) rfl (Nat.le_of_ble_eq_true rfl) rfl ?_
  refine mW_iload_n (j := 0) dX10_isWithin_0 rfl rfl ?_
  refine mW_iload_n (j := 1) dX10_isWithin_1 rfl rfl ?_
  refine mW_icmp_lt (tgt := 14) dX10_isWithin_2 (by decide) (fun c1 => ?_) (fun c1 => ?_)
  · refine mW_iconst (v := 0) dX10_isWithin_14 (by decide) ?_
    exact mW_zret (ty := .boolean) dX10_isWithin_15 rfl (by first | rfl | decide) (⟨by first | with_reducible rfl | (simp only [vX10_isWithin, if_pos c1]; done) | rfl, by first | with_reducible rfl | (simp only [vX10_isWithin, if_pos c1]; done) | rfl⟩)
  · refine mW_iload_n (j := 0) dX10_isWithin_5 rfl rfl ?_
    refine mW_iload_n (j := 2) dX10_isWithin_6 rfl rfl ?_
    refine mW_icmp_gt (tgt := 14) dX10_isWithin_7 (by decide) (fun c2 => ?_) (fun c2 => ?_)
    · refine mW_iconst (v := 0) dX10_isWithin_14 (by decide) ?_
      exact mW_zret (ty := .boolean) dX10_isWithin_15 rfl (by first | rfl | decide) (⟨by first | with_reducible rfl | (simp only [vX10_isWithin, if_neg c1, if_pos c2]; done) | rfl, by first | with_reducible rfl | (simp only [vX10_isWithin, if_neg c1, if_pos c2]; done) | rfl⟩)
    · refine mW_iconst (v := 1) dX10_isWithin_10 (by decide) ?_
      refine mW_goto (tgt := 15) dX10_isWithin_11 (by decide) ?_
      exact mW_zret (ty := .boolean) dX10_isWithin_15 rfl (by first | rfl | decide) (⟨by first | with_reducible rfl | (simp only [vX10_isWithin, if_neg c1, if_neg c2]; done) | rfl, by first | with_reducible rfl | (simp only [vX10_isWithin, if_neg c1, if_neg c2]; done) | rfl⟩)
def vX10_limited (x0 : Int32) (x1 : Int32) : Int32 := (if x0 ≤ x1 then (if (-x1) ≤ x0 then x0 else (-x1)) else x1)
set_option maxHeartbeats 4000000 in
set_option maxRecDepth 100000 in
theorem qX10_limited {G : mG} {w : mH} {x0 x1 : Int32}  : mC G mX10_limited 1 0 0 [.int x0, .int x1] w (mEq (.inl (some (.int (vX10_limited x0 x1)))) w) := by
  refine mC_of (by decide +kernel) rfl (Nat.le_of_ble_eq_true rfl) rfl ?_
  refine mW_iload_n (j := 0) dX10_limited_0 rfl rfl ?_
  refine mW_iload_n (j := 1) dX10_limited_1 rfl rfl ?_
  refine mW_icmp_le (tgt := 9) dX10_limited_2 (by decide) (fun c1 => ?_) (fun c1 => ?_)
  · refine mW_iload_n (j := 0) dX10_limited_9 rfl rfl ?_
    refine mW_iload_n (j := 1) dX10_limited_10 rfl rfl ?_
    refine mW_ineg dX10_limited_11 ?_
    refine mW_icmp_ge (tgt := 20) dX10_limited_12 (by decide) (fun c2 => ?_) (fun c2 => ?_)
    · refine mW_iload_n (j := 0) dX10_limited_20 rfl rfl ?_
      exact mW_iret dX10_limited_21 rfl (⟨by first | with_reducible rfl | (simp only [vX10_limited, if_pos c1, if_pos c2]; done) | rfl, by first | with_reducible rfl | (simp only [vX10_limited, if_pos c1, if_pos c2]; done) | rfl⟩)
    · refine mW_iload_n (j := 1) dX10_limited_15 rfl rfl ?_
      refine mW_ineg dX10_limited_16 ?_
      refine mW_goto (tgt := 21) dX10_limited_17 (by decide) ?_
      exact mW_iret dX10_limited_21 rfl (⟨by first | with_reducible rfl | (simp only [vX10_limited, if_pos c1, if_neg c2]; done) | rfl, by first | with_reducible rfl | (simp only [vX10_limited, if_pos c1, if_neg c2]; done) | rfl⟩)
  · refine mW_iload_n (j := 1) dX10_limited_5 rfl rfl ?_
    refine mW_goto (tgt := 21) dX10_limited_6 (by decide) ?_
    exact mW_iret dX10_limited_21 rfl (⟨by first | with_reducible rfl | (simp only [vX10_limited, if_neg c1]; done) | rfl, by first | with_reducible rfl | (simp only [vX10_limited, if_neg c1]; done) | rfl⟩)
def sX10_copyRow (w : mH) (a0 : Nat) (a1 : Nat) (n_a0 : Nat) (n_a1 : Nat) : mH := (sax w a1 (va_cpy (hai w a0) (hai w a1) (0 : Int32).toNatClampNeg (0 : Int32).toNatClampNeg (iMin (nI n_a0) (nI n_a1)).toNatClampNeg))
theorem kkX10_copyRow {w : mH} {a0 : Nat} {a1 : Nat} {n_a0 : Nat} {n_a1 : Nat} : hk (sX10_copyRow w a0 a1 n_a0 n_a1) = hk w := by unfold sX10_copyRow; simp only [apply_ite hk, e_hk_sfi, e_hk_sfl, e_hk_sai, e_hk_sal, e_hk_sax, ite_self]
theorem rrX10_copyRow {w : mH} {a0 : Nat} {a1 : Nat} {n_a0 : Nat} {n_a1 : Nat} : hfr (sX10_copyRow w a0 a1 n_a0 n_a1) = hfr w := by unfold sX10_copyRow; simp only [apply_ite hfr, e_hfr_sfi, e_hfr_sfl, e_hfr_sai, e_hfr_sal, e_hfr_sax, ite_self]
set_option maxHeartbeats 4000000 in
set_option maxRecDepth 100000 in
theorem qX10_copyRow {G : mG} {w : mH} {a0 a1 n_a0 n_a1 : Nat} (h1 : hk w a0 = (16, n_a0)) (h2 : hk w a1 = (16, n_a1)) (s1 : ¬ (iMin (nI n_a0) (nI n_a1)) < 0) (s2 : (0 : Int32).toNatClampNeg + (iMin (nI n_a0) (nI n_a1)).toNatClampNeg ≤ n_a0) (s3 : (0 : Int32).toNatClampNeg + (iMin (nI n_a0) (nI n_a1)).toNatClampNeg ≤ n_a1) : mC G mX10_copyRow 1 0 0 [.ref a0, .ref a1] w (mEq (.inl none) (sX10_copyRow w a0 a1 n_a0 n_a1)) := by
  refine mC_of (by decide +kernel) rfl (Nat.le_of_ble_eq_true rfl) rfl ?_
  refine mW_aload_n (j := 0) dX10_copyRow_0 rfl rfl ?_
  refine mW_iconst (v := 0) dX10_copyRow_1 (by decide) ?_
  refine mW_aload_n (j := 1) dX10_copyRow_2 rfl rfl ?_
  refine mW_iconst (v := 0) dX10_copyRow_3 (by decide) ?_
  refine mW_aload_n (j := 0) dX10_copyRow_4 rfl rfl ?_
  refine mW_alen dX10_copyRow_5 h1 (by decide) (by decide) (by decide) ?_
  refine mW_aload_n (j := 1) dX10_copyRow_6 rfl rfl ?_
  refine mW_alen dX10_copyRow_7 h2 (by decide) (by decide) (by decide) ?_
  refine mW_mminA dX10_copyRow_8 u499 u500 u91 u501 (Nat.le_of_ble_eq_true rfl) (by decide) ?_
  refine mW_copy dX10_copyRow_11 u502 u504 u503 u92 h1 h2 (by decide) (by decide) s1 s2 s3 (Nat.le_of_ble_eq_true rfl) (by decide) ?_
  exact mW_vret dX10_copyRow_14 rfl (⟨by first | with_reducible rfl | (simp only [sX10_copyRow]; done) | rfl, by first | with_reducible rfl | (simp only [sX10_copyRow]; done) | rfl⟩)
set_option maxHeartbeats 4000000 in
set_option maxRecDepth 100000 in
theorem qX11_thrown {G : mG} {w : mH} {a0 : Nat} (h1 : hk w a0 = (11, 0)) : mC G mX11_thrown 1 0 0 [.ref a0] w (mEq (.inl (some (.int (hfi w a0 0)))) w) := by
  refine mC_of (by decide +kernel) rfl (Nat.le_of_ble_eq_true rfl) rfl ?_
  refine mW_aload_n (j := 0) dX11_thrown_0 rfl rfl ?_
  refine mW_get dX11_thrown_1 f_X11_3 h1 rfl ?_
  exact mW_iret dX11_thrown_4 rfl (⟨by first | with_reducible rfl | (simp only []; done) | rfl, by first | with_reducible rfl | (simp only []; done) | rfl⟩)
def vX11_in (y0 : Int64) (y2 : Int64) (y4 : Int64) : Int32 := (if (lg_cmp y0 y2) < 0 then 0 else (if 0 < (lg_cmp y0 y4) then 0 else 1))
set_option maxHeartbeats 4000000 in
set_option maxRecDepth 100000 in
theorem qX11_in {G : mG} {w : mH} {y0 y2 y4 : Int64}  : mC G mX11_in 1 0 0 [.long y0, .long y2, .long y4] w (mEq (.inl (some (.int (vX11_in y0 y2 y4)))) w) := by
  refine mC_of (by decide +kernel) rfl (Nat.le_of_ble_eq_true rfl) rfl ?_
  refine mW_lload_n (j := 0) dX11_in_0 rfl rfl ?_
  refine mW_lload_n (j := 1) dX11_in_1 rfl rfl ?_
  refine mW_lcmp dX11_in_2 ?_
  refine mW_if_lt (tgt := 17) dX11_in_3 (by decide) (fun c1 => ?_) (fun c1 => ?_)
  · refine mW_iconst (v := 0) dX11_in_17 (by decide) ?_
    exact mW_zret (ty := .boolean) dX11_in_18 rfl (by first | rfl | decide) (⟨by first | with_reducible rfl | (simp only [vX11_in, if_pos c1]; done) | rfl, by first | with_reducible rfl | (simp only [vX11_in, if_pos c1]; done) | rfl⟩)
  · refine mW_lload_n (j := 0) dX11_in_6 rfl rfl ?_
    refine mW_lload (j := 2) dX11_in_7 rfl ?_
    refine mW_lcmp dX11_in_9 ?_
    refine mW_if_gt (tgt := 17) dX11_in_10 (by decide) (fun c2 => ?_) (fun c2 => ?_)
    · refine mW_iconst (v := 0) dX11_in_17 (by decide) ?_
      exact mW_zret (ty := .boolean) dX11_in_18 rfl (by first | rfl | decide) (⟨by first | with_reducible rfl | (simp only [vX11_in, if_neg c1, if_pos c2]; done) | rfl, by first | with_reducible rfl | (simp only [vX11_in, if_neg c1, if_pos c2]; done) | rfl⟩)
    · refine mW_iconst (v := 1) dX11_in_13 (by decide) ?_
      refine mW_goto (tgt := 18) dX11_in_14 (by decide) ?_
      exact mW_zret (ty := .boolean) dX11_in_18 rfl (by first | rfl | decide) (⟨by first | with_reducible rfl | (simp only [vX11_in, if_neg c1, if_neg c2]; done) | rfl, by first | with_reducible rfl | (simp only [vX11_in, if_neg c1, if_neg c2]; done) | rfl⟩)
def vX11_limited (x0 : Int32) (x1 : Int32) : Int32 := (if x0 ≤ x1 then (if (-x1) ≤ x0 then x0 else (-x1)) else x1)
set_option maxHeartbeats 4000000 in
set_option maxRecDepth 100000 in
theorem qX11_limited {G : mG} {w : mH} {x0 x1 : Int32}  : mC G mX11_limited 1 0 0 [.int x0, .int x1] w (mEq (.inl (some (.int (vX11_limited x0 x1)))) w) := by
  refine mC_of (by decide +kernel) rfl (Nat.le_of_ble_eq_true rfl) rfl ?_
  refine mW_iload_n (j := 0) dX11_limited_0 rfl rfl ?_
  refine mW_iload_n (j := 1) dX11_limited_1 rfl rfl ?_
  refine mW_icmp_le (tgt := 9) dX11_limited_2 (by decide) (fun c1 => ?_) (fun c1 => ?_)
  · refine mW_iload_n (j := 0) dX11_limited_9 rfl rfl ?_
    refine mW_iload_n (j := 1) dX11_limited_10 rfl rfl ?_
    refine mW_ineg dX11_limited_11 ?_
    refine mW_icmp_ge (tgt := 20) dX11_limited_12 (by decide) (fun c2 => ?_) (fun c2 => ?_)
    · refine mW_iload_n (j := 0) dX11_limited_20 rfl rfl ?_
      exact mW_iret dX11_limited_21 rfl (⟨by first | with_reducible rfl | (simp only [vX11_limited, if_pos c1, if_pos c2]; done) | rfl, by first | with_reducible rfl | (simp only [vX11_limited, if_pos c1, if_pos c2]; done) | rfl⟩)
    · refine mW_iload_n (j := 1) dX11_limited_15 rfl rfl ?_
      refine mW_ineg dX11_limited_16 ?_
      refine mW_goto (tgt := 21) dX11_limited_17 (by decide) ?_
      exact mW_iret dX11_limited_21 rfl (⟨by first | with_reducible rfl | (simp only [vX11_limited, if_pos c1, if_neg c2]; done) | rfl, by first | with_reducible rfl | (simp only [vX11_limited, if_pos c1, if_neg c2]; done) | rfl⟩)
  · refine mW_iload_n (j := 1) dX11_limited_5 rfl rfl ?_
    refine mW_goto (tgt := 21) dX11_limited_6 (by decide) ?_
    exact mW_iret dX11_limited_21 rfl (⟨by first | with_reducible rfl | (simp only [vX11_limited, if_neg c1]; done) | rfl, by first | with_reducible rfl | (simp only [vX11_limited, if_neg c1]; done) | rfl⟩)
def vX11_limited_ (y0 : Int64) (y2 : Int64) : Int64 := (if (lg_cmp y0 y2) ≤ 0 then (if 0 ≤ (lg_cmp y0 (-y2)) then y0 else (-y2)) else y2)
set_option maxHeartbeats 4000000 in
set_option maxRecDepth 100000 in
theorem qX11_limited_ {G : mG} {w : mH} {y0 y2 : Int64}  : mC G mX11_limited_ 1 0 0 [.long y0, .long y2] w (mEq (.inl (some (.long (vX11_limited_ y0 y2)))) w) := by
  refine mC_of (by decide +kernel) rfl (Nat.le_of_ble_eq_true rfl) rfl ?_
  refine mW_lload_n (j := 0) dX11_limited__0 rfl rfl ?_
  refine mW_lload_n (j := 1) dX11_limited__1 rfl rfl ?_
  refine mW_lcmp dX11_limited__2 ?_
  refine mW_if_le (tgt := 10) dX11_limited__3 (by decide) (fun c1 => ?_) (fun c1 => ?_)
  · refine mW_lload_n (j := 0) dX11_limited__10 rfl rfl ?_
    refine mW_lload_n (j := 1) dX11_limited__11 rfl rfl ?_
    refine mW_lneg dX11_limited__12 ?_
    refine mW_lcmp dX11_limited__13 ?_
    refine mW_if_ge (tgt := 22) dX11_limited__14 (by decide) (fun c2 => ?_) (fun c2 => ?_)
    · refine mW_lload_n (j := 0) dX11_limited__22 rfl rfl ?_
      exact mW_lret dX11_limited__23 rfl (⟨by first | with_reducible rfl | (simp only [vX11_limited_, if_pos c1, if_pos c2]; done) | rfl, by first | with_reducible rfl | (simp only [vX11_limited_, if_pos c1, if_pos c2]; done) | rfl⟩)
    · refine mW_lload_n (j := 1) dX11_limited__17 rfl rfl ?_
      refine mW_lneg dX11_limited__18 ?_
      refine mW_goto (tgt := 23) dX11_limited__19 (by decide) ?_
      exact mW_lret dX11_limited__23 rfl (⟨by first | with_reducible rfl | (simp only [vX11_limited_, if_pos c1, if_neg c2]; done) | rfl, by first | with_reducible rfl | (simp only [vX11_limited_, if_pos c1, if_neg c2]; done) | rfl⟩)
  · refine mW_lload_n (j := 1) dX11_limited__6 rfl rfl ?_
    refine mW_goto (tgt := 23) dX11_limited__7 (by decide) ?_
    exact mW_lret dX11_limited__23 rfl (⟨by first | with_reducible rfl | (simp only [vX11_limited_, if_neg c1]; done) | rfl, by first | with_reducible rfl | (simp only [vX11_limited_, if_neg c1]; done) | rfl⟩)
def vX11_amount (x0 : Int32) : Int32 := (if 0 ≤ x0 then x0 else (-x0))
set_option maxHeartbeats 4000000 in
set_option maxRecDepth 100000 in
theorem qX11_amount {G : mG} {w : mH} {x0 : Int32}  : mC G mX11_amount 1 0 0 [.int x0] w (mEq (.inl (some (.int (vX11_amount x0)))) w) := by
  refine mC_of (by decide +kernel) rfl (Nat.le_of_ble_eq_true rfl) rfl ?_
  refine mW_iload_n (j := 0) dX11_amount_0 rfl rfl ?_
  refine mW_if_ge (tgt := 9) dX11_amount_1 (by decide) (fun c1 => ?_) (fun c1 => ?_)
  · refine mW_iload_n (j := 0) dX11_amount_9 rfl rfl ?_
    exact mW_iret dX11_amount_10 rfl (⟨by first | with_reducible rfl | (simp only [vX11_amount, if_pos c1]; done) | rfl, by first | with_reducible rfl | (simp only [vX11_amount, if_pos c1]; done) | rfl⟩)
  · refine mW_iload_n (j := 0) dX11_amount_4 rfl rfl ?_
    refine mW_ineg dX11_amount_5 ?_
    refine mW_goto (tgt := 10) dX11_amount_6 (by decide) ?_
    exact mW_iret dX11_amount_10 rfl (⟨by first | with_reducible rfl | (simp only [vX11_amount, if_neg c1]; done) | rfl, by first | with_reducible rfl | (simp only [vX11_amount, if_neg c1]; done) | rfl⟩)
def vX11_setting (w : mH) (a0 : Nat) (x1 : Int32) (a0_1 : Nat) : Int32 := (if (vX11_in x1.toInt64 0 14) = 0 then (if (hfi (sfi w a0 0 1) a0 0) = 0 then (hai (sfi w a0 0 1) a0_1 x1.toNatClampNeg) else 0) else (if (hfi (sfi w a0 0 0) a0 0) = 0 then (hai (sfi w a0 0 0) a0_1 x1.toNatClampNeg) else 0))
def sX11_setting (w : mH) (a0 : Nat) (x1 : Int32) : mH := (if (vX11_in x1.toInt64 0 14) = 0 then (sfi w a0 0 1) else (sfi w a0 0 0))
theorem kkX11_setting {w : mH} {a0 : Nat} {x1 : Int32} : hk (sX11_setting w a0 x1) = hk w := by unfold sX11_setting; simp only [apply_ite hk, e_hk_sfi, e_hk_sfl, e_hk_sai, e_hk_sal, e_hk_sax, ite_self]
theorem rrX11_setting {w : mH} {a0 : Nat} {x1 : Int32} : hfr (sX11_setting w a0 x1) = hfr w := by unfold sX11_setting; simp only [apply_ite hfr, e_hfr_sfi, e_hfr_sfl, e_hfr_sai, e_hfr_sal, e_hfr_sax, ite_self]
set_option maxHeartbeats 4000000 in
set_option maxRecDepth 100000 in
theorem qX11_setting {G : mG} {w : mH} {a0 : Nat} {x1 : Int32} {a0_1 n_a0_1 : Nat} (h1 : hk w a0 = (11, 0)) (h2 : hfr w a0 1 = some a0_1) (h3 : hk w a0_1 = (16, n_a0_1)) (s1 : ((vX11_in x1.toInt64 0 14) = 0) → ((hfi (sfi w a0 0 1) a0 0) = 0) → vp_in x1 n_a0_1) (s2 : (¬ ((vX11_in x1.toInt64 0 14) = 0)) → ((hfi (sfi w a0 0 0) a0 0) = 0) → vp_in x1 n_a0_1) : mC G mX11_setting 2 0 0 [.ref a0, .int x1] w (mEq (.inl (some (.int (vX11_setting w a0 x1 a0_1)))) (sX11_setting w a0 x1)) := by
  refine mC_of (by decide +kernel) rfl (Nat.le_of_ble_eq_true rfl) rfl ?_
  refine mW_aload_n (j := 0) dX11_setting_0 rfl rfl ?_
  refine mW_iload_n (j := 1) dX11_setting_1 rfl rfl ?_
  refine mW_i2l dX11_setting_2 ?_
  refine mW_lconst (v := 0) dX11_setting_3 (by decide) ?_
  refine mW_ldc2 (v := 14) dX11_setting_4 u1674 ?_
  refine mW_callSe (As := [.long x1.toInt64, .long 0, .long 14]) (rest := [.ref a0]) (kc2 := 0) (ks2 := 0) dX11_setting_7 l_X11_92 rfl (qX11_in (w := w) (y0 := x1.toInt64) (y2 := 0) (y4 := 14)) (Nat.le_of_ble_eq_true rfl) (by decide) rfl rfl ?_
  refine mW_if_eq (tgt := 17) dX11_setting_10 (by decide) (fun c1 => ?_) (fun c1 => ?_)
  · refine mW_iconst (v := 1) dX11_setting_17 (by decide) ?_
    refine mW_put (ty := .int) (w2 := sfi w a0 0 1) dX11_setting_18 p_X11_3 h1 (Nat.le_of_ble_eq_true rfl) (by first | rfl | decide | (repeat' split) <;> rfl) rfl (hN_sfi _ _ _ _) (hk_sfi _ _ _ _) (mE_sfi h1 (by decide) (ob_11_0 _ _ _)) ?_
    refine mW_aload_n (j := 0) dX11_setting_21 rfl rfl ?_
    refine mW_get dX11_setting_22 f_X11_3 (k_sfi h1) rfl ?_
    refine mW_if_ne (tgt := 37) dX11_setting_25 (by decide) (fun c2 => ?_) (fun c2 => ?_)
    · refine mW_iconst (v := 0) dX11_setting_37 (by decide) ?_
      exact mW_iret dX11_setting_38 rfl (⟨by first | with_reducible rfl | (simp only [vX11_setting, sX11_setting, if_pos c1, if_neg c2]; done) | rfl, by first | with_reducible rfl | (simp only [vX11_setting, sX11_setting, if_pos c1, if_neg c2]; done) | rfl⟩)
    · refine mW_aload_n (j := 0) dX11_setting_28 rfl rfl ?_
      refine mW_getR dX11_setting_29 f_X11_13 (k_sfi h1) rfl (r_sfi h2) ?_
      refine mW_iload_n (j := 1) dX11_setting_32 rfl rfl ?_
      refine mW_ialdJ dX11_setting_33 (k_sfi h3) (s1 c1 c2) rfl ?_
      refine mW_goto (tgt := 38) dX11_setting_34 (by decide) ?_
      exact mW_iret dX11_setting_38 rfl (⟨by first | with_reducible rfl | (simp only [vX11_setting, sX11_setting, if_pos c1, if_pos c2]; done) | rfl, by first | with_reducible rfl | (simp only [vX11_setting, sX11_setting, if_pos c1, if_pos c2]; done) | rfl⟩)
  · refine mW_iconst (v := 0) dX11_setting_13 (by decide) ?_
    refine mW_goto (tgt := 18) dX11_setting_14 (by decide) ?_
    refine mW_put (ty := .int) (w2 := sfi w a0 0 0) dX11_setting_18 p_X11_3 h1 (Nat.le_of_ble_eq_true rfl) (by first | rfl | decide | (repeat' split) <;> rfl) rfl (hN_sfi _ _ _ _) (hk_sfi _ _ _ _) (mE_sfi h1 (by decide) (ob_11_0 _ _ _)) ?_
    refine mW_aload_n (j := 0) dX11_setting_21 rfl rfl ?_
    refine mW_get dX11_setting_22 f_X11_3 (k_sfi h1) rfl ?_
    refine mW_if_ne (tgt := 37) dX11_setting_25 (by decide) (fun c3 => ?_) (fun c3 => ?_)
    · refine mW_iconst (v := 0) dX11_setting_37 (by decide) ?_
      exact mW_iret dX11_setting_38 rfl (⟨by first | with_reducible rfl | (simp only [vX11_setting, sX11_setting, if_neg c1, if_neg c3]; done) | rfl, by first | with_reducible rfl | (simp only [vX11_setting, sX11_setting, if_neg c1, if_neg c3]; done) | rfl⟩)
    · refine mW_aload_n (j := 0) dX11_setting_28 rfl rfl ?_
      refine mW_getR dX11_setting_29 f_X11_13 (k_sfi h1) rfl (r_sfi h2) ?_
      refine mW_iload_n (j := 1) dX11_setting_32 rfl rfl ?_
      refine mW_ialdJ dX11_setting_33 (k_sfi h3) (s2 c1 c3) rfl ?_
      refine mW_goto (tgt := 38) dX11_setting_34 (by decide) ?_
      exact mW_iret dX11_setting_38 rfl (⟨by first | with_reducible rfl | (simp only [vX11_setting, sX11_setting, if_neg c1, if_pos c3]; done) | rfl, by first | with_reducible rfl | (simp only [vX11_setting, sX11_setting, if_neg c1, if_pos c3]; done) | rfl⟩)
set_option maxHeartbeats 4000000 in
set_option maxRecDepth 100000 in
theorem qX11_points {G : mG} {w : mH} {a0 a0_1 n_a0_1 : Nat} (h1 : hk w a0 = (11, 0)) (h2 : hfr w a0 1 = some a0_1) (h3 : hk w a0_1 = (16, n_a0_1)) (s1 : vp_in 29 n_a0_1) : mC G mX11_points 1 0 0 [.ref a0] w (mEq (.inl (some (.int (hai w a0_1 29)))) w) := by
  refine mC_of (by decide +kernel) rfl (Nat.le_of_ble_eq_true rfl) rfl ?_
  refine mW_aload_n (j := 0) dX11_points_0 rfl rfl ?_
  refine mW_getR dX11_points_1 f_X11_13 h1 rfl h2 ?_
  refine mW_bipush (v := 29) dX11_points_4 (by decide) ?_
  refine mW_ialdJ dX11_points_6 h3 s1 (j := 29) (by decide) ?_
  exact mW_iret dX11_points_7 rfl (⟨by first | with_reducible rfl | (simp only []; done) | rfl, by first | with_reducible rfl | (simp only []; done) | rfl⟩)
def vX11_x (w : mH) (x1 : Int32) (a0_1 : Nat) : Int32 := (hai w a0_1 ((30 + (2 * x1)).toNatClampNeg))
set_option maxHeartbeats 4000000 in
set_option maxRecDepth 100000 in
theorem qX11_x {G : mG} {w : mH} {a0 : Nat} {x1 : Int32} {a0_1 n_a0_1 : Nat} (h1 : hk w a0 = (11, 0)) (h2 : hfr w a0 1 = some a0_1) (h3 : hk w a0_1 = (16, n_a0_1)) (s1 : vp_in (30 + (2 * x1)) n_a0_1) : mC G mX11_x 1 0 0 [.ref a0, .int x1] w (mEq (.inl (some (.int (vX11_x w x1 a0_1)))) w) := by
  refine mC_of (by decide +kernel) rfl (Nat.le_of_ble_eq_true rfl) rfl ?_
  refine mW_aload_n (j := 0) dX11_x_0 rfl rfl ?_
  refine mW_getR dX11_x_1 f_X11_13 h1 rfl h2 ?_
  refine mW_bipush (v := 30) dX11_x_4 (by decide) ?_
  refine mW_iconst (v := 2) dX11_x_6 (by decide) ?_
  refine mW_iload_n (j := 1) dX11_x_7 rfl rfl ?_
  refine mW_imul dX11_x_8 ?_
  refine mW_iadd dX11_x_9 ?_
  refine mW_ialdJ dX11_x_10 h3 s1 rfl ?_
  exact mW_iret dX11_x_11 rfl (⟨by first | with_reducible rfl | (simp only [vX11_x]; done) | rfl, by first | with_reducible rfl | (simp only [vX11_x]; done) | rfl⟩)
def vX11_y (w : mH) (x1 : Int32) (a0_1 : Nat) : Int32 := (hai w a0_1 (((30 + (2 * x1)) + 1).toNatClampNeg))
set_option maxHeartbeats 4000000 in
set_option maxRecDepth 100000 in
theorem qX11_y {G : mG} {w : mH} {a0 : Nat} {x1 : Int32} {a0_1 n_a0_1 : Nat} (h1 : hk w a0 = (11, 0)) (h2 : hfr w a0 1 = some a0_1) (h3 : hk w a0_1 = (16, n_a0_1)) (s1 : vp_in ((30 + (2 * x1)) + 1) n_a0_1) : mC G mX11_y 1 0 0 [.ref a0, .int x1] w (mEq (.inl (some (.int (vX11_y w x1 a0_1)))) w) := by
  refine mC_of (by decide +kernel) rfl (Nat.le_of_ble_eq_true rfl) rfl ?_
  refine mW_aload_n (j := 0) dX11_y_0 rfl rfl ?_
  refine mW_getR dX11_y_1 f_X11_13 h1 rfl h2 ?_
  refine mW_bipush (v := 30) dX11_y_4 (by decide) ?_
  refine mW_iconst (v := 2) dX11_y_6 (by decide) ?_
  refine mW_iload_n (j := 1) dX11_y_7 rfl rfl ?_
  refine mW_imul dX11_y_8 ?_
  refine mW_iadd dX11_y_9 ?_
  refine mW_iconst (v := 1) dX11_y_10 (by decide) ?_
  refine mW_iadd dX11_y_11 ?_
  refine mW_ialdJ dX11_y_12 h3 s1 rfl ?_
  exact mW_iret dX11_y_13 rfl (⟨by first | with_reducible rfl | (simp only [vX11_y]; done) | rfl, by first | with_reducible rfl | (simp only [vX11_y]; done) | rfl⟩)
def vX11_point (w : mH) (a0 : Nat) (x1 : Int32) (x2 : Int32) (a0_1 : Nat) : Int32 := (if (vX11_in x1.toInt64 0 (((hai w a0_1 29) - 1).toInt64)) = 0 then (if (hfi (sfi w a0 0 1) a0 0) = 0 then (if x2 = 0 then (vX11_x (sfi w a0 0 1) x1 a0_1) else (vX11_y (sfi w a0 0 1) x1 a0_1)) else 0) else (if (vX11_in x2.toInt64 0 1) = 0 then (if (hfi (sfi w a0 0 2) a0 0) = 0 then (if x2 = 0 then (vX11_x (sfi w a0 0 2) x1 a0_1) else (vX11_y (sfi w a0 0 2) x1 a0_1)) else 0) else (if (hfi (sfi w a0 0 0) a0 0) = 0 then (if x2 = 0 then (vX11_x (sfi w a0 0 0) x1 a0_1) else (vX11_y (sfi w a0 0 0) x1 a0_1)) else 0)))
def sX11_point (w : mH) (a0 : Nat) (x1 : Int32) (x2 : Int32) (a0_1 : Nat) : mH := (if (vX11_in x1.toInt64 0 (((hai w a0_1 29) - 1).toInt64)) = 0 then (sfi w a0 0 1) else (if (vX11_in x2.toInt64 0 1) = 0 then (sfi w a0 0 2) else (sfi w a0 0 0)))
theorem kkX11_point {w : mH} {a0 : Nat} {x1 : Int32} {x2 : Int32} {a0_1 : Nat} : hk (sX11_point w a0 x1 x2 a0_1) = hk w := by unfold sX11_point; simp only [apply_ite hk, e_hk_sfi, e_hk_sfl, e_hk_sai, e_hk_sal, e_hk_sax, ite_self]
theorem rrX11_point {w : mH} {a0 : Nat} {x1 : Int32} {x2 : Int32} {a0_1 : Nat} : hfr (sX11_point w a0 x1 x2 a0_1) = hfr w := by unfold sX11_point; simp only [apply_ite hfr, e_hfr_sfi, e_hfr_sfl, e_hfr_sai, e_hfr_sal, e_hfr_sax, ite_self]
set_option maxHeartbeats 4000000 in
set_option maxRecDepth 100000 in
theorem qX11_point {G : mG} {w : mH} {a0 : Nat} {x1 x2 : Int32} {a0_1 n_a0_1 : Nat} (h1 : hk w a0 = (11, 0)) (h2 : hfr w a0 1 = some a0_1) (h3 : hk w a0_1 = (16, n_a0_1)) (s1 : vp_in 29 n_a0_1) (s2 : (¬ ((vX11_in x1.toInt64 0 (((hai w a0_1 29) - 1).toInt64)) = 0)) → ((vX11_in x2.toInt64 0 1) = 0) → ((hfi (sfi w a0 0 2) a0 0) = 0) → (¬ (x2 = 0)) → vp_in ((30 + (2 * x1)) + 1) n_a0_1) (s3 : (¬ ((vX11_in x1.toInt64 0 (((hai w a0_1 29) - 1).toInt64)) = 0)) → ((vX11_in x2.toInt64 0 1) = 0) → ((hfi (sfi w a0 0 2) a0 0) = 0) → (x2 = 0) → vp_in (30 + (2 * x1)) n_a0_1) (s4 : (¬ ((vX11_in x1.toInt64 0 (((hai w a0_1 29) - 1).toInt64)) = 0)) → (¬ ((vX11_in x2.toInt64 0 1) = 0)) → ((hfi (sfi w a0 0 0) a0 0) = 0) → (¬ (x2 = 0)) → vp_in ((30 + (2 * x1)) + 1) n_a0_1) (s5 : (¬ ((vX11_in x1.toInt64 0 (((hai w a0_1 29) - 1).toInt64)) = 0)) → (¬ ((vX11_in x2.toInt64 0 1) = 0)) → ((hfi (sfi w a0 0 0) a0 0) = 0) → (x2 = 0) → vp_in (30 + (2 * x1)) n_a0_1) (s6 : ((vX11_in x1.toInt64 0 (((hai w a0_1 29) - 1).toInt64)) = 0) → ((hfi (sfi w a0 0 1) a0 0) = 0) → (¬ (x2 = 0)) → vp_in ((30 + (2 * x1)) + 1) n_a0_1) (s7 : ((vX11_in x1.toInt64 0 (((hai w a0_1 29) - 1).toInt64)) = 0) → ((hfi (sfi w a0 0 1) a0 0) = 0) → (x2 = 0) → vp_in (30 + (2 * x1)) n_a0_1) : mC G mX11_point 2 0 0 [.ref a0, .int x1, .int x2] w (mEq (.inl (some (.int (vX11_point w a0 x1 x2 a0_1)))) (sX11_point w a0 x1 x2 a0_1)) := by
  refine mC_of (by decide +kernel) rfl (Nat.le_of_ble_eq_true rfl) rfl ?_
  refine mW_aload_n (j := 0) dX11_point_0 rfl rfl ?_
  refine mW_iload_n (j := 1) dX11_point_1 rfl rfl ?_
  refine mW_i2l dX11_point_2 ?_
  refine mW_lconst (v := 0) dX11_point_3 (by decide) ?_
  refine mW_aload_n (j := 0) dX11_point_4 rfl rfl ?_
  refine mW_callVe (As := []) (rest := [.long 0, .long x1.toInt64, .ref a0]) (kc2 := 0) (ks2 := 0) dX11_point_5 l_X11_99 rfl h1 rfl (by decide) (qX11_points (w := w) (a0 := a0) h1 h2 h3 s1) (Nat.le_of_ble_eq_true rfl) (by decide) rfl rfl ?_
  refine mW_iconst (v := 1) dX11_point_8 (by decide) ?_
  refine mW_isub dX11_point_9 ?_
  refine mW_i2l dX11_point_10 ?_
  refine mW_callSe (As := [.long x1.toInt64, .long 0, .long (((hai w a0_1 29) - 1).toInt64)]) (rest := [.ref a0]) (kc2 := 0) (ks2 := 0) dX11_point_11 l_X11_92 rfl (qX11_in (w := w) (y0 := x1.toInt64) (y2 := 0) (y4 := ((hai w a0_1 29) - 1).toInt64)) (Nat.le_of_ble_eq_true rfl) (by decide) rfl rfl ?_
  refine mW_if_ne (tgt := 21) dX11_point_14 (by decide) (fun c1 => ?_) (fun c1 => ?_)
  · refine mW_iload_n (j := 2) dX11_point_21 rfl rfl ?_
    refine mW_i2l dX11_point_22 ?_
    refine mW_lconst (v := 0) dX11_point_23 (by decide) ?_
    refine mW_lconst (v := 1) dX11_point_24 (by decide) ?_
    refine mW_callSe (As := [.long x2.toInt64, .long 0, .long 1]) (rest := [.ref a0]) (kc2 := 0) (ks2 := 0) dX11_point_25 l_X11_92 rfl (qX11_in (w := w) (y0 := x2.toInt64) (y2 := 0) (y4 := 1)) (Nat.le_of_ble_eq_true rfl) (by decide) rfl rfl ?_
    refine mW_if_eq (tgt := 35) dX11_point_28 (by decide) (fun c2 => ?_) (fun c2 => ?_)
    · refine mW_iconst (v := 2) dX11_point_35 (by decide) ?_
      refine mW_put (ty := .int) (w2 := sfi w a0 0 2) dX11_point_36 p_X11_3 h1 (Nat.le_of_ble_eq_true rfl) (by first | rfl | decide | (repeat' split) <;> rfl) rfl (hN_sfi _ _ _ _) (hk_sfi _ _ _ _) (mE_sfi h1 (by decide) (ob_11_0 _ _ _)) ?_
      refine mW_aload_n (j := 0) dX11_point_39 rfl rfl ?_
      refine mW_get dX11_point_40 f_X11_3 (k_sfi h1) rfl ?_
      refine mW_if_eq (tgt := 50) dX11_point_43 (by decide) (fun c3 => ?_) (fun c3 => ?_)
      · refine mW_iload_n (j := 2) dX11_point_50 rfl rfl ?_
        refine mW_if_ne (tgt := 62) dX11_point_51 (by decide) (fun c4 => ?_) (fun c4 => ?_)
        · refine mW_aload_n (j := 0) dX11_point_62 rfl rfl ?_
          refine mW_iload_n (j := 1) dX11_point_63 rfl rfl ?_
          refine mW_callVe (As := [.int x1]) (rest := []) (kc2 := 0) (ks2 := 0) dX11_point_64 l_X11_118 rfl (k_sfi h1) rfl (by decide) (qX11_y (w := sfi w a0 0 2) (a0 := a0) (x1 := x1) (k_sfi h1) (r_sfi h2) (k_sfi h3) (s2 c1 c2 c3 c4)) (Nat.le_of_ble_eq_true rfl) (by decide) rfl rfl ?_
          exact mW_iret dX11_point_67 rfl (⟨by first | with_reducible rfl | (simp only [vX11_point, sX11_point, if_neg c1, if_pos c2, if_pos c3, if_neg c4]; done) | rfl, by first | with_reducible rfl | (simp only [vX11_point, sX11_point, if_neg c1, if_pos c2, if_pos c3, if_neg c4]; done) | rfl⟩)
        · refine mW_aload_n (j := 0) dX11_point_54 rfl rfl ?_
          refine mW_iload_n (j := 1) dX11_point_55 rfl rfl ?_
          refine mW_callVe (As := [.int x1]) (rest := []) (kc2 := 0) (ks2 := 0) dX11_point_56 l_X11_103 rfl (k_sfi h1) rfl (by decide) (qX11_x (w := sfi w a0 0 2) (a0 := a0) (x1 := x1) (k_sfi h1) (r_sfi h2) (k_sfi h3) (s3 c1 c2 c3 c4)) (Nat.le_of_ble_eq_true rfl) (by decide) rfl rfl ?_
          refine mW_goto (tgt := 67) dX11_point_59 (by decide) ?_
          exact mW_iret dX11_point_67 rfl (⟨by first | with_reducible rfl | (simp only [vX11_point, sX11_point, if_neg c1, if_pos c2, if_pos c3, if_pos c4]; done) | rfl, by first | with_reducible rfl | (simp only [vX11_point, sX11_point, if_neg c1, if_pos c2, if_pos c3, if_pos c4]; done) | rfl⟩)
      · refine mW_iconst (v := 0) dX11_point_46 (by decide) ?_
        refine mW_goto (tgt := 67) dX11_point_47 (by decide) ?_
        exact mW_iret dX11_point_67 rfl (⟨by first | with_reducible rfl | (simp only [vX11_point, sX11_point, if_neg c1, if_pos c2, if_neg c3]; done) | rfl, by first | with_reducible rfl | (simp only [vX11_point, sX11_point, if_neg c1, if_pos c2, if_neg c3]; done) | rfl⟩)
    · refine mW_iconst (v := 0) dX11_point_31 (by decide) ?_
      refine mW_goto (tgt := 36) dX11_point_32 (by decide) ?_
      refine mW_put (ty := .int) (w2 := sfi w a0 0 0) dX11_point_36 p_X11_3 h1 (Nat.le_of_ble_eq_true rfl) (by first | rfl | decide | (repeat' split) <;> rfl) rfl (hN_sfi _ _ _ _) (hk_sfi _ _ _ _) (mE_sfi h1 (by decide) (ob_11_0 _ _ _)) ?_
      refine mW_aload_n (j := 0) dX11_point_39 rfl rfl ?_
      refine mW_get dX11_point_40 f_X11_3 (k_sfi h1) rfl ?_
      refine mW_if_eq (tgt := 50) dX11_point_43 (by decide) (fun c5 => ?_) (fun c5 => ?_)
      · refine mW_iload_n (j := 2) dX11_point_50 rfl rfl ?_
        refine mW_if_ne (tgt := 62) dX11_point_51 (by decide) (fun c6 => ?_) (fun c6 => ?_)
        · refine mW_aload_n (j := 0) dX11_point_62 rfl rfl ?_
          refine mW_iload_n (j := 1) dX11_point_63 rfl rfl ?_
          refine mW_callVe (As := [.int x1]) (rest := []) (kc2 := 0) (ks2 := 0) dX11_point_64 l_X11_118 rfl (k_sfi h1) rfl (by decide) (qX11_y (w := sfi w a0 0 0) (a0 := a0) (x1 := x1) (k_sfi h1) (r_sfi h2) (k_sfi h3) (s4 c1 c2 c5 c6)) (Nat.le_of_ble_eq_true rfl) (by decide) rfl rfl ?_
          exact mW_iret dX11_point_67 rfl (⟨by first | with_reducible rfl | (simp only [vX11_point, sX11_point, if_neg c1, if_neg c2, if_pos c5, if_neg c6]; done) | rfl, by first | with_reducible rfl | (simp only [vX11_point, sX11_point, if_neg c1, if_neg c2, if_pos c5, if_neg c6]; done) | rfl⟩)
        · refine mW_aload_n (j := 0) dX11_point_54 rfl rfl ?_
          refine mW_iload_n (j := 1) dX11_point_55 rfl rfl ?_
          refine mW_callVe (As := [.int x1]) (rest := []) (kc2 := 0) (ks2 := 0) dX11_point_56 l_X11_103 rfl (k_sfi h1) rfl (by decide) (qX11_x (w := sfi w a0 0 0) (a0 := a0) (x1 := x1) (k_sfi h1) (r_sfi h2) (k_sfi h3) (s5 c1 c2 c5 c6)) (Nat.le_of_ble_eq_true rfl) (by decide) rfl rfl ?_
          refine mW_goto (tgt := 67) dX11_point_59 (by decide) ?_
          exact mW_iret dX11_point_67 rfl (⟨by first | with_reducible rfl | (simp only [vX11_point, sX11_point, if_neg c1, if_neg c2, if_pos c5, if_pos c6]; done) | rfl, by first | with_reducible rfl | (simp only [vX11_point, sX11_point, if_neg c1, if_neg c2, if_pos c5, if_pos c6]; done) | rfl⟩)
      · refine mW_iconst (v := 0) dX11_point_46 (by decide) ?_
        refine mW_goto (tgt := 67) dX11_point_47 (by decide) ?_
        exact mW_iret dX11_point_67 rfl (⟨by first | with_reducible rfl | (simp only [vX11_point, sX11_point, if_neg c1, if_neg c2, if_neg c5]; done) | rfl, by first | with_reducible rfl | (simp only [vX11_point, sX11_point, if_neg c1, if_neg c2, if_neg c5]; done) | rfl⟩)
  · refine mW_iconst (v := 1) dX11_point_17 (by decide) ?_
    refine mW_goto (tgt := 36) dX11_point_18 (by decide) ?_
    refine mW_put (ty := .int) (w2 := sfi w a0 0 1) dX11_point_36 p_X11_3 h1 (Nat.le_of_ble_eq_true rfl) (by first | rfl | decide | (repeat' split) <;> rfl) rfl (hN_sfi _ _ _ _) (hk_sfi _ _ _ _) (mE_sfi h1 (by decide) (ob_11_0 _ _ _)) ?_
    refine mW_aload_n (j := 0) dX11_point_39 rfl rfl ?_
    refine mW_get dX11_point_40 f_X11_3 (k_sfi h1) rfl ?_
    refine mW_if_eq (tgt := 50) dX11_point_43 (by decide) (fun c7 => ?_) (fun c7 => ?_)
    · refine mW_iload_n (j := 2) dX11_point_50 rfl rfl ?_
      refine mW_if_ne (tgt := 62) dX11_point_51 (by decide) (fun c8 => ?_) (fun c8 => ?_)
      · refine mW_aload_n (j := 0) dX11_point_62 rfl rfl ?_
        refine mW_iload_n (j := 1) dX11_point_63 rfl rfl ?_
        refine mW_callVe (As := [.int x1]) (rest := []) (kc2 := 0) (ks2 := 0) dX11_point_64 l_X11_118 rfl (k_sfi h1) rfl (by decide) (qX11_y (w := sfi w a0 0 1) (a0 := a0) (x1 := x1) (k_sfi h1) (r_sfi h2) (k_sfi h3) (s6 c1 c7 c8)) (Nat.le_of_ble_eq_true rfl) (by decide) rfl rfl ?_
        exact mW_iret dX11_point_67 rfl (⟨by first | with_reducible rfl | (simp only [vX11_point, sX11_point, if_pos c1, if_pos c7, if_neg c8]; done) | rfl, by first | with_reducible rfl | (simp only [vX11_point, sX11_point, if_pos c1, if_pos c7, if_neg c8]; done) | rfl⟩)
      · refine mW_aload_n (j := 0) dX11_point_54 rfl rfl ?_
        refine mW_iload_n (j := 1) dX11_point_55 rfl rfl ?_
        refine mW_callVe (As := [.int x1]) (rest := []) (kc2 := 0) (ks2 := 0) dX11_point_56 l_X11_103 rfl (k_sfi h1) rfl (by decide) (qX11_x (w := sfi w a0 0 1) (a0 := a0) (x1 := x1) (k_sfi h1) (r_sfi h2) (k_sfi h3) (s7 c1 c7 c8)) (Nat.le_of_ble_eq_true rfl) (by decide) rfl rfl ?_
        refine mW_goto (tgt := 67) dX11_point_59 (by decide) ?_
        exact mW_iret dX11_point_67 rfl (⟨by first | with_reducible rfl | (simp only [vX11_point, sX11_point, if_pos c1, if_pos c7, if_pos c8]; done) | rfl, by first | with_reducible rfl | (simp only [vX11_point, sX11_point, if_pos c1, if_pos c7, if_pos c8]; done) | rfl⟩)
    · refine mW_iconst (v := 0) dX11_point_46 (by decide) ?_
      refine mW_goto (tgt := 67) dX11_point_47 (by decide) ?_
      exact mW_iret dX11_point_67 rfl (⟨by first | with_reducible rfl | (simp only [vX11_point, sX11_point, if_pos c1, if_neg c7]; done) | rfl, by first | with_reducible rfl | (simp only [vX11_point, sX11_point, if_pos c1, if_neg c7]; done) | rfl⟩)
def vX11_gridFirst (w : mH) (x1 : Int32) (a0_1 : Nat) : Int32 := (hai w a0_1 ((20 + (3 * x1)).toNatClampNeg))
set_option maxHeartbeats 4000000 in
set_option maxRecDepth 100000 in
theorem qX11_gridFirst {G : mG} {w : mH} {a0 : Nat} {x1 : Int32} {a0_1 n_a0_1 : Nat} (h1 : hk w a0 = (11, 0)) (h2 : hfr w a0 1 = some a0_1) (h3 : hk w a0_1 = (16, n_a0_1)) (s1 : vp_in (20 + (3 * x1)) n_a0_1) : mC G mX11_gridFirst 1 0 0 [.ref a0, .int x1] w (mEq (.inl (some (.int (vX11_gridFirst w x1 a0_1)))) w) := by
  refine mC_of (by decide +kernel) rfl (Nat.le_of_ble_eq_true rfl) rfl ?_
  refine mW_aload_n (j := 0) dX11_gridFirst_0 rfl rfl ?_
  refine mW_getR dX11_gridFirst_1 f_X11_13 h1 rfl h2 ?_
  refine mW_bipush (v := 20) dX11_gridFirst_4 (by decide) ?_
  refine mW_iconst (v := 3) dX11_gridFirst_6 (by decide) ?_
  refine mW_iload_n (j := 1) dX11_gridFirst_7 rfl rfl ?_
  refine mW_imul dX11_gridFirst_8 ?_
  refine mW_iadd dX11_gridFirst_9 ?_
  refine mW_ialdJ dX11_gridFirst_10 h3 s1 rfl ?_
  exact mW_iret dX11_gridFirst_11 rfl (⟨by first | with_reducible rfl | (simp only [vX11_gridFirst]; done) | rfl, by first | with_reducible rfl | (simp only [vX11_gridFirst]; done) | rfl⟩)
def vX11_gridStep (w : mH) (x1 : Int32) (a0_1 : Nat) : Int32 := (hai w a0_1 (((20 + (3 * x1)) + 1).toNatClampNeg))
set_option maxHeartbeats 4000000 in
set_option maxRecDepth 100000 in
theorem qX11_gridStep {G : mG} {w : mH} {a0 : Nat} {x1 : Int32} {a0_1 n_a0_1 : Nat} (h1 : hk w a0 = (11, 0)) (h2 : hfr w a0 1 = some a0_1) (h3 : hk w a0_1 = (16, n_a0_1)) (s1 : vp_in ((20 + (3 * x1)) + 1) n_a0_1) : mC G mX11_gridStep 1 0 0 [.ref a0, .int x1] w (mEq (.inl (some (.int (vX11_gridStep w x1 a0_1)))) w) := by
  refine mC_of (by decide +kernel) rfl (Nat.le_of_ble_eq_true rfl) rfl ?_
  refine mW_aload_n (j := 0) dX11_gridStep_0 rfl rfl ?_
  refine mW_getR dX11_gridStep_1 f_X11_13 h1 rfl h2 ?_
  refine mW_bipush (v := 20) dX11_gridStep_4 (by decide) ?_
  refine mW_iconst (v := 3) dX11_gridStep_6 (by decide) ?_
  refine mW_iload_n (j := 1) dX11_gridStep_7 rfl rfl ?_
  refine mW_imul dX11_gridStep_8 ?_
  refine mW_iadd dX11_gridStep_9 ?_
  refine mW_iconst (v := 1) dX11_gridStep_10 (by decide) ?_
  refine mW_iadd dX11_gridStep_11 ?_
  refine mW_ialdJ dX11_gridStep_12 h3 s1 rfl ?_
  exact mW_iret dX11_gridStep_13 rfl (⟨by first | with_reducible rfl | (simp only [vX11_gridStep]; done) | rfl, by first | with_reducible rfl | (simp only [vX11_gridStep]; done) | rfl⟩)
def vX11_gridCount (w : mH) (x1 : Int32) (a0_1 : Nat) : Int32 := (hai w a0_1 (((20 + (3 * x1)) + 2).toNatClampNeg))
set_option maxHeartbeats 4000000 in
set_option maxRecDepth 100000 in
theorem qX11_gridCount {G : mG} {w : mH} {a0 : Nat} {x1 : Int32} {a0_1 n_a0_1 : Nat} (h1 : hk w a0 = (11, 0)) (h2 : hfr w a0 1 = some a0_1) (h3 : hk w a0_1 = (16, n_a0_1)) (s1 : vp_in ((20 + (3 * x1)) + 2) n_a0_1) : mC G mX11_gridCount 1 0 0 [.ref a0, .int x1] w (mEq (.inl (some (.int (vX11_gridCount w x1 a0_1)))) w) := by
  refine mC_of (by decide +kernel) rfl (Nat.le_of_ble_eq_true rfl) rfl ?_
  refine mW_aload_n (j := 0) dX11_gridCount_0 rfl rfl ?_
  refine mW_getR dX11_gridCount_1 f_X11_13 h1 rfl h2 ?_
  refine mW_bipush (v := 20) dX11_gridCount_4 (by decide) ?_
  refine mW_iconst (v := 3) dX11_gridCount_6 (by decide) ?_
  refine mW_iload_n (j := 1) dX11_gridCount_7 rfl rfl ?_
  refine mW_imul dX11_gridCount_8 ?_
  refine mW_iadd dX11_gridCount_9 ?_
  refine mW_iconst (v := 2) dX11_gridCount_10 (by decide) ?_
  refine mW_iadd dX11_gridCount_11 ?_
  refine mW_ialdJ dX11_gridCount_12 h3 s1 rfl ?_
  exact mW_iret dX11_gridCount_13 rfl (⟨by first | with_reducible rfl | (simp only [vX11_gridCount]; done) | rfl, by first | with_reducible rfl | (simp only [vX11_gridCount]; done) | rfl⟩)
def vX11_triples (w : mH) (a0_1 : Nat) : Int32 := (((vX11_gridCount w 0 a0_1) * (vX11_gridCount w 1 a0_1)) * (vX11_gridCount w 2 a0_1))
set_option maxHeartbeats 4000000 in
set_option maxRecDepth 100000 in
theorem qX11_triples {G : mG} {w : mH} {a0 a0_1 n_a0_1 : Nat} (h1 : hk w a0 = (11, 0)) (h2 : hfr w a0 1 = some a0_1) (h3 : hk w a0_1 = (16, n_a0_1)) (s1 : vp_in ((20 + (3 * 0)) + 2) n_a0_1) (s2 : vp_in ((20 + (3 * 1)) + 2) n_a0_1) (s3 : vp_in ((20 + (3 * 2)) + 2) n_a0_1) : mC G mX11_triples 2 0 0 [.ref a0] w (mEq (.inl (some (.int (vX11_triples w a0_1)))) w) := by
  refine mC_of (by decide +kernel) rfl (Nat.le_of_ble_eq_true rfl) rfl ?_
  refine mW_aload_n (j := 0) dX11_triples_0 rfl rfl ?_
  refine mW_iconst (v := 0) dX11_triples_1 (by decide) ?_
  refine mW_callVe (As := [.int 0]) (rest := []) (kc2 := 0) (ks2 := 0) dX11_triples_2 l_X11_128 rfl h1 rfl (by decide) (qX11_gridCount (w := w) (a0 := a0) (x1 := 0) h1 h2 h3 s1) (Nat.le_of_ble_eq_true rfl) (by decide) rfl rfl ?_
  refine mW_aload_n (j := 0) dX11_triples_5 rfl rfl ?_
  refine mW_iconst (v := 1) dX11_triples_6 (by decide) ?_
  refine mW_callVe (As := [.int 1]) (rest := [.int (vX11_gridCount w 0 a0_1)]) (kc2 := 0) (ks2 := 0) dX11_triples_7 l_X11_128 rfl h1 rfl (by decide) (qX11_gridCount (w := w) (a0 := a0) (x1 := 1) h1 h2 h3 s2) (Nat.le_of_ble_eq_true rfl) (by decide) rfl rfl ?_
  refine mW_imul dX11_triples_10 ?_
  refine mW_aload_n (j := 0) dX11_triples_11 rfl rfl ?_
  refine mW_iconst (v := 2) dX11_triples_12 (by decide) ?_
  refine mW_callVe (As := [.int 2]) (rest := [.int ((vX11_gridCount w 0 a0_1) * (vX11_gridCount w 1 a0_1))]) (kc2 := 0) (ks2 := 0) dX11_triples_13 l_X11_128 rfl h1 rfl (by decide) (qX11_gridCount (w := w) (a0 := a0) (x1 := 2) h1 h2 h3 s3) (Nat.le_of_ble_eq_true rfl) (by decide) rfl rfl ?_
  refine mW_imul dX11_triples_16 ?_
  exact mW_iret dX11_triples_17 rfl (⟨by first | with_reducible rfl | (simp only [vX11_triples]; done) | rfl, by first | with_reducible rfl | (simp only [vX11_triples]; done) | rfl⟩)
def vX11_here (w : mH) (a0 : Nat) (a0_7 : Nat) : Int32 := (if (hfi w a0 8) ≤ (hfi w a0 9) then (-1) else (hai w a0_7 ((hfi w a0 9).toNatClampNeg)))
set_option maxHeartbeats 4000000 in
set_option maxRecDepth 100000 in
theorem qX11_here {G : mG} {w : mH} {a0 a0_7 n_a0_7 : Nat} (h1 : hk w a0 = (11, 0)) (h2 : hfr w a0 7 = some a0_7) (h3 : hk w a0_7 = (16, n_a0_7)) (s1 : (¬ ((hfi w a0 8) ≤ (hfi w a0 9))) → vp_in (hfi w a0 9) n_a0_7) : mC G mX11_here 1 0 0 [.ref a0] w (mEq (.inl (some (.int (vX11_here w a0 a0_7)))) w) := by
  refine mC_of (by decide +kernel) rfl (Nat.le_of_ble_eq_true rfl) rfl ?_
  refine mW_aload_n (j := 0) dX11_here_0 rfl rfl ?_
  refine mW_get dX11_here_1 f_X11_149 h1 rfl ?_
  refine mW_aload_n (j := 0) dX11_here_4 rfl rfl ?_
  refine mW_get dX11_here_5 f_X11_146 h1 rfl ?_
  refine mW_icmp_ge (tgt := 23) dX11_here_8 (by decide) (fun c1 => ?_) (fun c1 => ?_)
  · refine mW_iconst (v := (-1)) dX11_here_23 (by decide) ?_
    exact mW_iret dX11_here_24 rfl (⟨by first | with_reducible rfl | (simp only [vX11_here, if_pos c1]; done) | rfl, by first | with_reducible rfl | (simp only [vX11_here, if_pos c1]; done) | rfl⟩)
  · refine mW_aload_n (j := 0) dX11_here_11 rfl rfl ?_
    refine mW_getR dX11_here_12 f_X11_27 h1 rfl h2 ?_
    refine mW_aload_n (j := 0) dX11_here_15 rfl rfl ?_
    refine mW_get dX11_here_16 f_X11_149 h1 rfl ?_
    refine mW_ialdJ dX11_here_19 h3 (s1 c1) rfl ?_
    refine mW_goto (tgt := 24) dX11_here_20 (by decide) ?_
    exact mW_iret dX11_here_24 rfl (⟨by first | with_reducible rfl | (simp only [vX11_here, if_neg c1]; done) | rfl, by first | with_reducible rfl | (simp only [vX11_here, if_neg c1]; done) | rfl⟩)
def sX11_wants (w : mH) (a0 : Nat) (x1 : Int32) (a0_7 : Nat) : mH := (if 0 ≤ (hfi w a0 10) then (sfi w a0 9 ((hfi w a0 9) + 1)) else (if (vX11_here w a0 a0_7) = x1 then (sfi w a0 9 ((hfi w a0 9) + 1)) else (sfi (sfi w a0 10 (hfi w a0 9)) a0 9 ((hfi (sfi w a0 10 (hfi w a0 9)) a0 9) + 1))))
theorem kkX11_wants {w : mH} {a0 : Nat} {x1 : Int32} {a0_7 : Nat} : hk (sX11_wants w a0 x1 a0_7) = hk w := by unfold sX11_wants; simp only [apply_ite hk, e_hk_sfi, e_hk_sfl, e_hk_sai, e_hk_sal, e_hk_sax, ite_self]
theorem rrX11_wants {w : mH} {a0 : Nat} {x1 : Int32} {a0_7 : Nat} : hfr (sX11_wants w a0 x1 a0_7) = hfr w := by unfold sX11_wants; simp only [apply_ite hfr, e_hfr_sfi, e_hfr_sfl, e_hfr_sai, e_hfr_sal, e_hfr_sax, ite_self]
set_option maxHeartbeats 4000000 in
set_option maxRecDepth 100000 in
theorem qX11_wants {G : mG} {w : mH} {a0 : Nat} {x1 : Int32} {a0_7 n_a0_7 : Nat} (h1 : hk w a0 = (11, 0)) (h2 : hfr w a0 7 = some a0_7) (h3 : hk w a0_7 = (16, n_a0_7)) (s1 : (¬ (0 ≤ (hfi w a0 10))) → (¬ ((hfi w a0 8) ≤ (hfi w a0 9))) → vp_in (hfi w a0 9) n_a0_7) : mC G mX11_wants 2 0 0 [.ref a0, .int x1] w (mEq (.inl none) (sX11_wants w a0 x1 a0_7)) := by
  refine mC_of (by decide +kernel) rfl (Nat.le_of_ble_eq_true rfl) rfl ?_
  refine mW_aload_n (j := 0) dX11_wants_0 rfl rfl ?_
  refine mW_get dX11_wants_1 f_X11_30 h1 rfl ?_
  refine mW_if_ge (tgt := 23) dX11_wants_4 (by decide) (fun c1 => ?_) (fun c1 => ?_)
  · refine mW_aload_n (j := 0) dX11_wants_23 rfl rfl ?_
    refine mW_dup dX11_wants_24 rfl ?_
    refine mW_get dX11_wants_25 f_X11_149 h1 rfl ?_
    refine mW_iconst (v := 1) dX11_wants_28 (by decide) ?_
    refine mW_iadd dX11_wants_29 ?_
    refine mW_put (ty := .int) (w2 := sfi w a0 9 ((hfi w a0 9) + 1)) dX11_wants_30 p_X11_149 h1 (Nat.le_of_ble_eq_true rfl) (by first | rfl | decide | (repeat' split) <;> rfl) rfl (hN_sfi _ _ _ _) (hk_sfi _ _ _ _) (mE_sfi h1 (by decide) (ob_11_9 _ _ _)) ?_
    exact mW_vret dX11_wants_33 rfl (⟨by first | with_reducible rfl | (simp only [sX11_wants, if_pos c1]; done) | rfl, by first | with_reducible rfl | (simp only [sX11_wants, if_pos c1]; done) | rfl⟩)
  · refine mW_aload_n (j := 0) dX11_wants_7 rfl rfl ?_
    refine mW_callVe (As := []) (rest := []) (kc2 := 0) (ks2 := 0) dX11_wants_8 l_X11_152 rfl h1 rfl (by decide) (qX11_here (w := w) (a0 := a0) h1 h2 h3 (s1 c1)) (Nat.le_of_ble_eq_true rfl) (by decide) rfl rfl ?_
    refine mW_iload_n (j := 1) dX11_wants_11 rfl rfl ?_
    refine mW_icmp_eq (tgt := 23) dX11_wants_12 (by decide) (fun c2 => ?_) (fun c2 => ?_)
    · refine mW_aload_n (j := 0) dX11_wants_23 rfl rfl ?_
      refine mW_dup dX11_wants_24 rfl ?_
      refine mW_get dX11_wants_25 f_X11_149 h1 rfl ?_
      refine mW_iconst (v := 1) dX11_wants_28 (by decide) ?_
      refine mW_iadd dX11_wants_29 ?_
      refine mW_put (ty := .int) (w2 := sfi w a0 9 ((hfi w a0 9) + 1)) dX11_wants_30 p_X11_149 h1 (Nat.le_of_ble_eq_true rfl) (by first | rfl | decide | (repeat' split) <;> rfl) rfl (hN_sfi _ _ _ _) (hk_sfi _ _ _ _) (mE_sfi h1 (by decide) (ob_11_9 _ _ _)) ?_
      exact mW_vret dX11_wants_33 rfl (⟨by first | with_reducible rfl | (simp only [sX11_wants, if_neg c1, if_pos c2]; done) | rfl, by first | with_reducible rfl | (simp only [sX11_wants, if_neg c1, if_pos c2]; done) | rfl⟩)
    · refine mW_aload_n (j := 0) dX11_wants_15 rfl rfl ?_
      refine mW_aload_n (j := 0) dX11_wants_16 rfl rfl ?_
      refine mW_get dX11_wants_17 f_X11_149 h1 rfl ?_
      refine mW_put (ty := .int) (w2 := sfi w a0 10 (hfi w a0 9)) dX11_wants_20 p_X11_30 h1 (Nat.le_of_ble_eq_true rfl) (by first | rfl | decide | (repeat' split) <;> rfl) rfl (hN_sfi _ _ _ _) (hk_sfi _ _ _ _) (mE_sfi h1 (by decide) (ob_11_10 _ _ _)) ?_
      refine mW_aload_n (j := 0) dX11_wants_23 rfl rfl ?_
      refine mW_dup dX11_wants_24 rfl ?_
      refine mW_get dX11_wants_25 f_X11_149 (k_sfi h1) rfl ?_
      refine mW_iconst (v := 1) dX11_wants_28 (by decide) ?_
      refine mW_iadd dX11_wants_29 ?_
      refine mW_put (ty := .int) (w2 := sfi (sfi w a0 10 (hfi w a0 9)) a0 9 ((hfi (sfi w a0 10 (hfi w a0 9)) a0 9) + 1)) dX11_wants_30 p_X11_149 (k_sfi h1) (Nat.le_of_ble_eq_true rfl) (by first | rfl | decide | (repeat' split) <;> rfl) rfl (hN_sfi _ _ _ _) (hk_sfi _ _ _ _) (mE_sfi (k_sfi h1) (by decide) (ob_11_9 _ _ _)) ?_
      exact mW_vret dX11_wants_33 rfl (⟨by first | with_reducible rfl | (simp only [sX11_wants, if_neg c1, if_neg c2]; done) | rfl, by first | with_reducible rfl | (simp only [sX11_wants, if_neg c1, if_neg c2]; done) | rfl⟩)
def vX11_errorPosition (w : mH) (a0 : Nat) : Int32 := (hfi (sfi w a0 0 0) a0 10)
def sX11_errorPosition (w : mH) (a0 : Nat) : mH := (sfi w a0 0 0)
theorem kkX11_errorPosition {w : mH} {a0 : Nat} : hk (sX11_errorPosition w a0) = hk w := by unfold sX11_errorPosition; simp only [apply_ite hk, e_hk_sfi, e_hk_sfl, e_hk_sai, e_hk_sal, e_hk_sax, ite_self]
theorem rrX11_errorPosition {w : mH} {a0 : Nat} : hfr (sX11_errorPosition w a0) = hfr w := by unfold sX11_errorPosition; simp only [apply_ite hfr, e_hfr_sfi, e_hfr_sfl, e_hfr_sai, e_hfr_sal, e_hfr_sax, ite_self]
set_option maxHeartbeats 4000000 in
set_option maxRecDepth 100000 in
theorem qX11_errorPosition {G : mG} {w : mH} {a0 : Nat} (h1 : hk w a0 = (11, 0)) : mC G mX11_errorPosition 1 0 0 [.ref a0] w (mEq (.inl (some (.int (vX11_errorPosition w a0)))) (sX11_errorPosition w a0)) := by
  refine mC_of (by decide +kernel) rfl (Nat.le_of_ble_eq_true rfl) rfl ?_
  refine mW_aload_n (j := 0) dX11_errorPosition_0 rfl rfl ?_
  refine mW_iconst (v := 0) dX11_errorPosition_1 (by decide) ?_
  refine mW_put (ty := .int) (w2 := sfi w a0 0 0) dX11_errorPosition_2 p_X11_3 h1 (Nat.le_of_ble_eq_true rfl) (by first | rfl | decide | (repeat' split) <;> rfl) rfl (hN_sfi _ _ _ _) (hk_sfi _ _ _ _) (mE_sfi h1 (by decide) (ob_11_0 _ _ _)) ?_
  refine mW_aload_n (j := 0) dX11_errorPosition_5 rfl rfl ?_
  refine mW_get dX11_errorPosition_6 f_X11_30 (k_sfi h1) rfl ?_
  exact mW_iret dX11_errorPosition_9 rfl (⟨by first | with_reducible rfl | (simp only [vX11_errorPosition, sX11_errorPosition]; done) | rfl, by first | with_reducible rfl | (simp only [vX11_errorPosition, sX11_errorPosition]; done) | rfl⟩)
def sX11_writes (w : mH) (a0 : Nat) (x1 : Int32) (a0_13 : Nat) : mH := (sfi (sai w a0_13 ((hfi w a0 14).toNatClampNeg) x1) a0 14 ((hfi (sai w a0_13 ((hfi w a0 14).toNatClampNeg) x1) a0 14) + 1))
theorem kkX11_writes {w : mH} {a0 : Nat} {x1 : Int32} {a0_13 : Nat} : hk (sX11_writes w a0 x1 a0_13) = hk w := by unfold sX11_writes; simp only [apply_ite hk, e_hk_sfi, e_hk_sfl, e_hk_sai, e_hk_sal, e_hk_sax, ite_self]
theorem rrX11_writes {w : mH} {a0 : Nat} {x1 : Int32} {a0_13 : Nat} : hfr (sX11_writes w a0 x1 a0_13) = hfr w := by unfold sX11_writes; simp only [apply_ite hfr, e_hfr_sfi, e_hfr_sfl, e_hfr_sai, e_hfr_sal, e_hfr_sax, ite_self]
set_option maxHeartbeats 4000000 in
set_option maxRecDepth 100000 in
theorem qX11_writes {G : mG} {w : mH} {a0 : Nat} {x1 : Int32} {a0_13 n_a0_13 : Nat} (h1 : hk w a0 = (11, 0)) (h2 : hfr w a0 13 = some a0_13) (h3 : hk w a0_13 = (16, n_a0_13)) (s1 : vp_in (hfi w a0 14) n_a0_13) : mC G mX11_writes 1 0 0 [.ref a0, .int x1] w (mEq (.inl none) (sX11_writes w a0 x1 a0_13)) := by
  refine mC_of (by decide +kernel) rfl (Nat.le_of_ble_eq_true rfl) rfl ?_
  refine mW_aload_n (j := 0) dX11_writes_0 rfl rfl ?_
  refine mW_getR dX11_writes_1 f_X11_36 h1 rfl h2 ?_
  refine mW_aload_n (j := 0) dX11_writes_4 rfl rfl ?_
  refine mW_get dX11_writes_5 f_X11_176 h1 rfl ?_
  refine mW_iload_n (j := 1) dX11_writes_8 rfl rfl ?_
  refine mW_iastJ dX11_writes_9 h3 s1 rfl ?_
  refine mW_aload_n (j := 0) dX11_writes_10 rfl rfl ?_
  refine mW_dup dX11_writes_11 rfl ?_
  refine mW_get dX11_writes_12 f_X11_176 (k_sai h1) rfl ?_
  refine mW_iconst (v := 1) dX11_writes_15 (by decide) ?_
  refine mW_iadd dX11_writes_16 ?_
  refine mW_put (ty := .int) (w2 := sfi (sai w a0_13 ((hfi w a0 14).toNatClampNeg) x1) a0 14 ((hfi (sai w a0_13 ((hfi w a0 14).toNatClampNeg) x1) a0 14) + 1)) dX11_writes_17 p_X11_176 (k_sai h1) (Nat.le_of_ble_eq_true rfl) (by first | rfl | decide | (repeat' split) <;> rfl) rfl (hN_sfi _ _ _ _) (hk_sfi _ _ _ _) (mE_sfi (k_sai h1) (by decide) (ob_11_14 _ _ _)) ?_
  exact mW_vret dX11_writes_20 rfl (⟨by first | with_reducible rfl | (simp only [sX11_writes]; done) | rfl, by first | with_reducible rfl | (simp only [sX11_writes]; done) | rfl⟩)
def sX11_writesNumber (w : mH) (a0 : Nat) (x1 : Int32) (a0_13 : Nat) : mH := (if 0 ≤ x1 then (if (vX11_amount x1) ≤ 99 then (if (vX11_amount x1) ≤ 9 then (sX11_writes w a0 (48 + ((vX11_amount x1) - (vX11_amount x1) / 10 * 10)) a0_13) else (sX11_writes (sX11_writes w a0 (48 + (((vX11_amount x1) / 10) - ((vX11_amount x1) / 10) / 10 * 10)) a0_13) a0 (48 + ((vX11_amount x1) - (vX11_amount x1) / 10 * 10)) a0_13)) else (if (vX11_amount x1) ≤ 9 then (sX11_writes (sX11_writes w a0 (48 + ((vX11_amount x1) / 100)) a0_13) a0 (48 + ((vX11_amount x1) - (vX11_amount x1) / 10 * 10)) a0_13) else (sX11_writes (sX11_writes (sX11_writes w a0 (48 + ((vX11_amount x1) / 100)) a0_13) a0 (48 + (((vX11_amount x1) / 10) - ((vX11_amount x1) / 10) / 10 * 10)) a0_13) a0 (48 + ((vX11_amount x1) - (vX11_amount x1) / 10 * 10)) a0_13))) else (if (vX11_amount x1) ≤ 99 then (if (vX11_amount x1) ≤ 9 then (sX11_writes (sX11_writes w a0 45 a0_13) a0 (48 + ((vX11_amount x1) - (vX11_amount x1) / 10 * 10)) a0_13) else (sX11_writes (sX11_writes (sX11_writes w a0 45 a0_13) a0 (48 + (((vX11_amount x1) / 10) - ((vX11_amount x1) / 10) / 10 * 10)) a0_13) a0 (48 + ((vX11_amount x1) - (vX11_amount x1) / 10 * 10)) a0_13)) else (if (vX11_amount x1) ≤ 9 then (sX11_writes (sX11_writes (sX11_writes w a0 45 a0_13) a0 (48 + ((vX11_amount x1) / 100)) a0_13) a0 (48 + ((vX11_amount x1) - (vX11_amount x1) / 10 * 10)) a0_13) else (sX11_writes (sX11_writes (sX11_writes (sX11_writes w a0 45 a0_13) a0 (48 + ((vX11_amount x1) / 100)) a0_13) a0 (48 + (((vX11_amount x1) / 10) - ((vX11_amount x1) / 10) / 10 * 10)) a0_13) a0 (48 + ((vX11_amount x1) - (vX11_amount x1) / 10 * 10)) a0_13))))
theorem kkX11_writesNumber {w : mH} {a0 : Nat} {x1 : Int32} {a0_13 : Nat} : hk (sX11_writesNumber w a0 x1 a0_13) = hk w := by unfold sX11_writesNumber; simp only [apply_ite hk, e_hk_sfi, e_hk_sfl, e_hk_sai, e_hk_sal, e_hk_sax, ite_self, @kkX11_writes]
theorem rrX11_writesNumber {w : mH} {a0 : Nat} {x1 : Int32} {a0_13 : Nat} : hfr (sX11_writesNumber w a0 x1 a0_13) = hfr w := by unfold sX11_writesNumber; simp only [apply_ite hfr, e_hfr_sfi, e_hfr_sfl, e_hfr_sai, e_hfr_sal, e_hfr_sax, ite_self, @rrX11_writes]
set_option maxHeartbeats 4000000 in
set_option maxRecDepth 100000 in
theorem qX11_writesNumber {G : mG} {w : mH} {a0 : Nat} {x1 : Int32} {a0_13 n_a0_13 : Nat} (h1 : hk w a0 = (11, 0)) (h2 : hfr w a0 13 = some a0_13) (h3 : hk w a0_13 = (16, n_a0_13)) (s1 : (0 ≤ x1) → ((vX11_amount x1) ≤ 99) → ((vX11_amount x1) ≤ 9) → vp_in (hfi w a0 14) n_a0_13) (s2 : (0 ≤ x1) → ((vX11_amount x1) ≤ 99) → (¬ ((vX11_amount x1) ≤ 9)) → vp_in (hfi w a0 14) n_a0_13) (s3 : (0 ≤ x1) → ((vX11_amount x1) ≤ 99) → (¬ ((vX11_amount x1) ≤ 9)) → vp_in (hfi (sX11_writes w a0 (48 + (((vX11_amount x1) / 10) - ((vX11_amount x1) / 10) / 10 * 10)) a0_13) a0 14) n_a0_13) (s4 : (0 ≤ x1) → (¬ ((vX11_amount x1) ≤ 99)) → vp_in (hfi w a0 14) n_a0_13) (s5 : (0 ≤ x1) → (¬ ((vX11_amount x1) ≤ 99)) → ((vX11_amount x1) ≤ 9) → vp_in (hfi (sX11_writes w a0 (48 + ((vX11_amount x1) / 100)) a0_13) a0 14) n_a0_13) (s6 : (0 ≤ x1) → (¬ ((vX11_amount x1) ≤ 99)) → (¬ ((vX11_amount x1) ≤ 9)) → vp_in (hfi (sX11_writes w a0 (48 + ((vX11_amount x1) / 100)) a0_13) a0 14) n_a0_13) (s7 : (0 ≤ x1) → (¬ ((vX11_amount x1) ≤ 99)) → (¬ ((vX11_amount x1) ≤ 9)) → vp_in (hfi (sX11_writes (sX11_writes w a0 (48 + ((vX11_amount x1) / 100)) a0_13) a0 (48 + (((vX11_amount x1) / 10) - ((vX11_amount x1) / 10) / 10 * 10)) a0_13) a0 14) n_a0_13) (s8 : (¬ (0 ≤ x1)) → vp_in (hfi w a0 14) n_a0_13) (s9 : (¬ (0 ≤ x1)) → ((vX11_amount x1) ≤ 99) → ((vX11_amount x1) ≤ 9) → vp_in (hfi (sX11_writes w a0 45 a0_13) a0 14) n_a0_13) (s10 : (¬ (0 ≤ x1)) → ((vX11_amount x1) ≤ 99) → (¬ ((vX11_amount x1) ≤ 9)) → vp_in (hfi (sX11_writes w a0 45 a0_13) a0 14) n_a0_13) (s11 : (¬ (0 ≤ x1)) → ((vX11_amount x1) ≤ 99) → (¬ ((vX11_amount x1) ≤ 9)) → vp_in (hfi (sX11_writes (sX11_writes w a0 45 a0_13) a0 (48 + (((vX11_amount x1) / 10) - ((vX11_amount x1) / 10) / 10 * 10)) a0_13) a0 14) n_a0_13) (s12 : (¬ (0 ≤ x1)) → (¬ ((vX11_amount x1) ≤ 99)) → vp_in (hfi (sX11_writes w a0 45 a0_13) a0 14) n_a0_13) (s13 : (¬ (0 ≤ x1)) → (¬ ((vX11_amount x1) ≤ 99)) → ((vX11_amount x1) ≤ 9) → vp_in (hfi (sX11_writes (sX11_writes w a0 45 a0_13) a0 (48 + ((vX11_amount x1) / 100)) a0_13) a0 14) n_a0_13) (s14 : (¬ (0 ≤ x1)) → (¬ ((vX11_amount x1) ≤ 99)) → (¬ ((vX11_amount x1) ≤ 9)) → vp_in (hfi (sX11_writes (sX11_writes w a0 45 a0_13) a0 (48 + ((vX11_amount x1) / 100)) a0_13) a0 14) n_a0_13) (s15 : (¬ (0 ≤ x1)) → (¬ ((vX11_amount x1) ≤ 99)) → (¬ ((vX11_amount x1) ≤ 9)) → vp_in (hfi (sX11_writes (sX11_writes (sX11_writes w a0 45 a0_13) a0 (48 + ((vX11_amount x1) / 100)) a0_13) a0 (48 + (((vX11_amount x1) / 10) - ((vX11_amount x1) / 10) / 10 * 10)) a0_13) a0 14) n_a0_13) : mC G mX11_writesNumber 2 0 0 [.ref a0, .int x1] w (mEq (.inl none) (sX11_writesNumber w a0 x1 a0_13)) := by
  refine mC_of (by decide +kernel) rfl (Nat.le_of_ble_eq_true rfl) rfl ?_
  refine mW_iload_n (j := 1) dX11_writesNumber_0 rfl rfl ?_
  refine mW_callSe (As := [.int x1]) (rest := []) (kc2 := 0) (ks2 := 0) dX11_writesNumber_1 l_X11_179 rfl (qX11_amount (w := w) (x0 := x1)) (Nat.le_of_ble_eq_true rfl) (by decide) rfl rfl ?_
  refine mW_istore_n (lv2 := [(2, .int (vX11_amount x1)), (0, .ref a0), (1, .int x1)]) dX11_writesNumber_4 rfl (by decide) rfl ?_
  refine mW_iload_n (j := 2) dX11_writesNumber_5 rfl rfl ?_
  refine mW_if_ge (tgt := 15) dX11_writesNumber_6 (by decide) (fun c1 => ?_) (fun c1 => ?_)
  · refine mW_iload_n (j := 0) dX11_writesNumber_15 rfl rfl ?_
    refine mW_bipush (v := 99) dX11_writesNumber_16 (by decide) ?_
    refine mW_icmp_le (tgt := 32) dX11_writesNumber_18 (by decide) (fun c2 => ?_) (fun c2 => ?_)
    · refine mW_iload_n (j := 0) dX11_writesNumber_32 rfl rfl ?_
      refine mW_bipush (v := 9) dX11_writesNumber_33 (by decide) ?_
      refine mW_icmp_le (tgt := 52) dX11_writesNumber_35 (by decide) (fun c3 => ?_) (fun c3 => ?_)
      · refine mW_aload_n (j := 1) dX11_writesNumber_52 rfl rfl ?_
        refine mW_bipush (v := 48) dX11_writesNumber_53 (by decide) ?_
        refine mW_iload_n (j := 0) dX11_writesNumber_55 rfl rfl ?_
        refine mW_bipush (v := 10) dX11_writesNumber_56 (by decide) ?_
        refine mW_irem dX11_writesNumber_58 (by decide) ?_
        refine mW_iadd dX11_writesNumber_59 ?_
        refine mW_callVe (As := [.int (48 + ((vX11_amount x1) - (vX11_amount x1) / 10 * 10))]) (rest := []) (kc2 := 0) (ks2 := 0) dX11_writesNumber_60 l_X11_182 rfl h1 rfl (by decide) (qX11_writes (w := w) (a0 := a0) (x1 := 48 + ((vX11_amount x1) - (vX11_amount x1) / 10 * 10)) h1 h2 h3 (s1 c1 c2 c3)) (Nat.le_of_ble_eq_true rfl) (by decide) rfl rfl ?_
        exact mW_vret dX11_writesNumber_63 rfl (⟨by first | with_reducible rfl | (simp only [sX11_writesNumber, if_pos c1, if_pos c2, if_pos c3]; done) | rfl, by first | with_reducible rfl | (simp only [sX11_writesNumber, if_pos c1, if_pos c2, if_pos c3]; done) | rfl⟩)
      · refine mW_aload_n (j := 1) dX11_writesNumber_38 rfl rfl ?_
        refine mW_bipush (v := 48) dX11_writesNumber_39 (by decide) ?_
        refine mW_iload_n (j := 0) dX11_writesNumber_41 rfl rfl ?_
        refine mW_bipush (v := 10) dX11_writesNumber_42 (by decide) ?_
        refine mW_idiv dX11_writesNumber_44 (by decide) ?_
        refine mW_bipush (v := 10) dX11_writesNumber_45 (by decide) ?_
        refine mW_irem dX11_writesNumber_47 (by decide) ?_
        refine mW_iadd dX11_writesNumber_48 ?_
        refine mW_callVe (As := [.int (48 + (((vX11_amount x1) / 10) - ((vX11_amount x1) / 10) / 10 * 10))]) (rest := []) (kc2 := 0) (ks2 := 0) dX11_writesNumber_49 l_X11_182 rfl h1 rfl (by decide) (qX11_writes (w := w) (a0 := a0) (x1 := 48 + (((vX11_amount x1) / 10) - ((vX11_amount x1) / 10) / 10 * 10)) h1 h2 h3 (s2 c1 c2 c3)) (Nat.le_of_ble_eq_true rfl) (by decide) rfl rfl ?_
        refine mW_aload_n (j := 1) dX11_writesNumber_52 rfl rfl ?_
        refine mW_bipush (v := 48) dX11_writesNumber_53 (by decide) ?_
        refine mW_iload_n (j := 0) dX11_writesNumber_55 rfl rfl ?_
        refine mW_bipush (v := 10) dX11_writesNumber_56 (by decide) ?_
        refine mW_irem dX11_writesNumber_58 (by decide) ?_
        refine mW_iadd dX11_writesNumber_59 ?_
        refine mW_callVe (As := [.int (48 + ((vX11_amount x1) - (vX11_amount x1) / 10 * 10))]) (rest := []) (kc2 := 0) (ks2 := 0) dX11_writesNumber_60 l_X11_182 rfl (k_eq (kkX11_writes) h1) rfl (by decide) (qX11_writes (w := sX11_writes w a0 (48 + (((vX11_amount x1) / 10) - ((vX11_amount x1) / 10) / 10 * 10)) a0_13) (a0 := a0) (x1 := 48 + ((vX11_amount x1) - (vX11_amount x1) / 10 * 10)) (k_eq (kkX11_writes) h1) (r_eq (rrX11_writes) h2) (k_eq (kkX11_writes) h3) (s3 c1 c2 c3)) (Nat.le_of_ble_eq_true rfl) (by decide) rfl rfl ?_
        exact mW_vret dX11_writesNumber_63 rfl (⟨by first | with_reducible rfl | (simp only [sX11_writesNumber, if_pos c1, if_pos c2, if_neg c3]; done) | rfl, by first | with_reducible rfl | (simp only [sX11_writesNumber, if_pos c1, if_pos c2, if_neg c3]; done) | rfl⟩)
    · refine mW_aload_n (j := 1) dX11_writesNumber_21 rfl rfl ?_
      refine mW_bipush (v := 48) dX11_writesNumber_22 (by decide) ?_
      refine mW_iload_n (j := 0) dX11_writesNumber_24 rfl rfl ?_
      refine mW_bipush (v := 100) dX11_writesNumber_25 (by decide) ?_
      refine mW_idiv dX11_writesNumber_27 (by decide) ?_
      refine mW_iadd dX11_writesNumber_28 ?_
      refine mW_callVe (As := [.int (48 + ((vX11_amount x1) / 100))]) (rest := []) (kc2 := 0) (ks2 := 0) dX11_writesNumber_29 l_X11_182 rfl h1 rfl (by decide) (qX11_writes (w := w) (a0 := a0) (x1 := 48 + ((vX11_amount x1) / 100)) h1 h2 h3 (s4 c1 c2)) (Nat.le_of_ble_eq_true rfl) (by decide) rfl rfl ?_
      refine mW_iload_n (j := 0) dX11_writesNumber_32 rfl rfl ?_
      refine mW_bipush (v := 9) dX11_writesNumber_33 (by decide) ?_
      refine mW_icmp_le (tgt := 52) dX11_writesNumber_35 (by decide) (fun c4 => ?_) (fun c4 => ?_)
      · refine mW_aload_n (j := 1) dX11_writesNumber_52 rfl rfl ?_
        refine mW_bipush (v := 48) dX11_writesNumber_53 (by decide) ?_
        refine mW_iload_n (j := 0) dX11_writesNumber_55 rfl rfl ?_
        refine mW_bipush (v := 10) dX11_writesNumber_56 (by decide) ?_
        refine mW_irem dX11_writesNumber_58 (by decide) ?_
        refine mW_iadd dX11_writesNumber_59 ?_
        refine mW_callVe (As := [.int (48 + ((vX11_amount x1) - (vX11_amount x1) / 10 * 10))]) (rest := []) (kc2 := 0) (ks2 := 0) dX11_writesNumber_60 l_X11_182 rfl (k_eq (kkX11_writes) h1) rfl (by decide) (qX11_writes (w := sX11_writes w a0 (48 + ((vX11_amount x1) / 100)) a0_13) (a0 := a0) (x1 := 48 + ((vX11_amount x1) - (vX11_amount x1) / 10 * 10)) (k_eq (kkX11_writes) h1) (r_eq (rrX11_writes) h2) (k_eq (kkX11_writes) h3) (s5 c1 c2 c4)) (Nat.le_of_ble_eq_true rfl) (by decide) rfl rfl ?_
        exact mW_vret dX11_writesNumber_63 rfl (⟨by first | with_reducible rfl | (simp only [sX11_writesNumber, if_pos c1, if_neg c2, if_pos c4]; done) | rfl, by first | with_reducible rfl | (simp only [sX11_writesNumber, if_pos c1, if_neg c2, if_pos c4]; done) | rfl⟩)
      · refine mW_aload_n (j := 1) dX11_writesNumber_38 rfl rfl ?_
        refine mW_bipush (v := 48) dX11_writesNumber_39 (by decide) ?_
        refine mW_iload_n (j := 0) dX11_writesNumber_41 rfl rfl ?_
        refine mW_bipush (v := 10) dX11_writesNumber_42 (by decide) ?_
        refine mW_idiv dX11_writesNumber_44 (by decide) ?_
        refine mW_bipush (v := 10) dX11_writesNumber_45 (by decide) ?_
        refine mW_irem dX11_writesNumber_47 (by decide) ?_
        refine mW_iadd dX11_writesNumber_48 ?_
        refine mW_callVe (As := [.int (48 + (((vX11_amount x1) / 10) - ((vX11_amount x1) / 10) / 10 * 10))]) (rest := []) (kc2 := 0) (ks2 := 0) dX11_writesNumber_49 l_X11_182 rfl (k_eq (kkX11_writes) h1) rfl (by decide) (qX11_writes (w := sX11_writes w a0 (48 + ((vX11_amount x1) / 100)) a0_13) (a0 := a0) (x1 := 48 + (((vX11_amount x1) / 10) - ((vX11_amount x1) / 10) / 10 * 10)) (k_eq (kkX11_writes) h1) (r_eq (rrX11_writes) h2) (k_eq (kkX11_writes) h3) (s6 c1 c2 c4)) (Nat.le_of_ble_eq_true rfl) (by decide) rfl rfl ?_
        refine mW_aload_n (j := 1) dX11_writesNumber_52 rfl rfl ?_
        refine mW_bipush (v := 48) dX11_writesNumber_53 (by decide) ?_
        refine mW_iload_n (j := 0) dX11_writesNumber_55 rfl rfl ?_
        refine mW_bipush (v := 10) dX11_writesNumber_56 (by decide) ?_
        refine mW_irem dX11_writesNumber_58 (by decide) ?_
        refine mW_iadd dX11_writesNumber_59 ?_
        refine mW_callVe (As := [.int (48 + ((vX11_amount x1) - (vX11_amount x1) / 10 * 10))]) (rest := []) (kc2 := 0) (ks2 := 0) dX11_writesNumber_60 l_X11_182 rfl (k_eq (kkX11_writes) (k_eq (kkX11_writes) h1)) rfl (by decide) (qX11_writes (w := sX11_writes (sX11_writes w a0 (48 + ((vX11_amount x1) / 100)) a0_13) a0 (48 + (((vX11_amount x1) / 10) - ((vX11_amount x1) / 10) / 10 * 10)) a0_13) (a0 := a0) (x1 := 48 + ((vX11_amount x1) - (vX11_amount x1) / 10 * 10)) (k_eq (kkX11_writes) (k_eq (kkX11_writes) h1)) (r_eq (rrX11_writes) (r_eq (rrX11_writes) h2)) (k_eq (kkX11_writes) (k_eq (kkX11_writes) h3)) (s7 c1 c2 c4)) (Nat.le_of_ble_eq_true rfl) (by decide) rfl rfl ?_
        exact mW_vret dX11_writesNumber_63 rfl (⟨by first | with_reducible rfl | (simp only [sX11_writesNumber, if_pos c1, if_neg c2, if_neg c4]; done) | rfl, by first | with_reducible rfl | (simp only [sX11_writesNumber, if_pos c1, if_neg c2, if_neg c4]; done) | rfl⟩)
  · refine mW_aload_n (j := 1) dX11_writesNumber_9 rfl rfl ?_
    refine mW_bipush (v := 45) dX11_writesNumber_10 (by decide) ?_
    refine mW_callVe (As := [.int 45]) (rest := []) (kc2 := 0) (ks2 := 0) dX11_writesNumber_12 l_X11_182 rfl h1 rfl (by decide) (qX11_writes (w := w) (a0 := a0) (x1 := 45) h1 h2 h3 (s8 c1)) (Nat.le_of_ble_eq_true rfl) (by decide) rfl rfl ?_
    refine mW_iload_n (j := 0) dX11_writesNumber_15 rfl rfl ?_
    refine mW_bipush (v := 99) dX11_writesNumber_16 (by decide) ?_
    refine mW_icmp_le (tgt := 32) dX11_writesNumber_18 (by decide) (fun c5 => ?_) (fun c5 => ?_)
    · refine mW_iload_n (j := 0) dX11_writesNumber_32 rfl rfl ?_
      refine mW_bipush (v := 9) dX11_writesNumber_33 (by decide) ?_
      refine mW_icmp_le (tgt := 52) dX11_writesNumber_35 (by decide) (fun c6 => ?_) (fun c6 => ?_)
      · refine mW_aload_n (j := 1) dX11_writesNumber_52 rfl rfl ?_
        refine mW_bipush (v := 48) dX11_writesNumber_53 (by decide) ?_
        refine mW_iload_n (j := 0) dX11_writesNumber_55 rfl rfl ?_
        refine mW_bipush (v := 10) dX11_writesNumber_56 (by decide) ?_
        refine mW_irem dX11_writesNumber_58 (by decide) ?_
        refine mW_iadd dX11_writesNumber_59 ?_
        refine mW_callVe (As := [.int (48 + ((vX11_amount x1) - (vX11_amount x1) / 10 * 10))]) (rest := []) (kc2 := 0) (ks2 := 0) dX11_writesNumber_60 l_X11_182 rfl (k_eq (kkX11_writes) h1) rfl (by decide) (qX11_writes (w := sX11_writes w a0 45 a0_13) (a0 := a0) (x1 := 48 + ((vX11_amount x1) - (vX11_amount x1) / 10 * 10)) (k_eq (kkX11_writes) h1) (r_eq (rrX11_writes) h2) (k_eq (kkX11_writes) h3) (s9 c1 c5 c6)) (Nat.le_of_ble_eq_true rfl) (by decide) rfl rfl ?_
        exact mW_vret dX11_writesNumber_63 rfl (⟨by first | with_reducible rfl | (simp only [sX11_writesNumber, if_neg c1, if_pos c5, if_pos c6]; done) | rfl, by first | with_reducible rfl | (simp only [sX11_writesNumber, if_neg c1, if_pos c5, if_pos c6]; done) | rfl⟩)
      · refine mW_aload_n (j := 1) dX11_writesNumber_38 rfl rfl ?_
        refine mW_bipush (v := 48) dX11_writesNumber_39 (by decide) ?_
        refine mW_iload_n (j := 0) dX11_writesNumber_41 rfl rfl ?_
        refine mW_bipush (v := 10) dX11_writesNumber_42 (by decide) ?_
        refine mW_idiv dX11_writesNumber_44 (by decide) ?_
        refine mW_bipush (v := 10) dX11_writesNumber_45 (by decide) ?_
        refine mW_irem dX11_writesNumber_47 (by decide) ?_
        refine mW_iadd dX11_writesNumber_48 ?_
        refine mW_callVe (As := [.int (48 + (((vX11_amount x1) / 10) - ((vX11_amount x1) / 10) / 10 * 10))]) (rest := []) (kc2 := 0) (ks2 := 0) dX11_writesNumber_49 l_X11_182 rfl (k_eq (kkX11_writes) h1) rfl (by decide) (qX11_writes (w := sX11_writes w a0 45 a0_13) (a0 := a0) (x1 := 48 + (((vX11_amount x1) / 10) - ((vX11_amount x1) / 10) / 10 * 10)) (k_eq (kkX11_writes) h1) (r_eq (rrX11_writes) h2) (k_eq (kkX11_writes) h3) (s10 c1 c5 c6)) (Nat.le_of_ble_eq_true rfl) (by decide) rfl rfl ?_
        refine mW_aload_n (j := 1) dX11_writesNumber_52 rfl rfl ?_
        refine mW_bipush (v := 48) dX11_writesNumber_53 (by decide) ?_
        refine mW_iload_n (j := 0) dX11_writesNumber_55 rfl rfl ?_
        refine mW_bipush (v := 10) dX11_writesNumber_56 (by decide) ?_
        refine mW_irem dX11_writesNumber_58 (by decide) ?_
        refine mW_iadd dX11_writesNumber_59 ?_
        refine mW_callVe (As := [.int (48 + ((vX11_amount x1) - (vX11_amount x1) / 10 * 10))]) (rest := []) (kc2 := 0) (ks2 := 0) dX11_writesNumber_60 l_X11_182 rfl (k_eq (kkX11_writes) (k_eq (kkX11_writes) h1)) rfl (by decide) (qX11_writes (w := sX11_writes (sX11_writes w a0 45 a0_13) a0 (48 + (((vX11_amount x1) / 10) - ((vX11_amount x1) / 10) / 10 * 10)) a0_13) (a0 := a0) (x1 := 48 + ((vX11_amount x1) - (vX11_amount x1) / 10 * 10)) (k_eq (kkX11_writes) (k_eq (kkX11_writes) h1)) (r_eq (rrX11_writes) (r_eq (rrX11_writes) h2)) (k_eq (kkX11_writes) (k_eq (kkX11_writes) h3)) (s11 c1 c5 c6)) (Nat.le_of_ble_eq_true rfl) (by decide) rfl rfl ?_
        exact mW_vret dX11_writesNumber_63 rfl (⟨by first | with_reducible rfl | (simp only [sX11_writesNumber, if_neg c1, if_pos c5, if_neg c6]; done) | rfl, by first | with_reducible rfl | (simp only [sX11_writesNumber, if_neg c1, if_pos c5, if_neg c6]; done) | rfl⟩)
    · refine mW_aload_n (j := 1) dX11_writesNumber_21 rfl rfl ?_
      refine mW_bipush (v := 48) dX11_writesNumber_22 (by decide) ?_
      refine mW_iload_n (j := 0) dX11_writesNumber_24 rfl rfl ?_
      refine mW_bipush (v := 100) dX11_writesNumber_25 (by decide) ?_
      refine mW_idiv dX11_writesNumber_27 (by decide) ?_
      refine mW_iadd dX11_writesNumber_28 ?_
      refine mW_callVe (As := [.int (48 + ((vX11_amount x1) / 100))]) (rest := []) (kc2 := 0) (ks2 := 0) dX11_writesNumber_29 l_X11_182 rfl (k_eq (kkX11_writes) h1) rfl (by decide) (qX11_writes (w := sX11_writes w a0 45 a0_13) (a0 := a0) (x1 := 48 + ((vX11_amount x1) / 100)) (k_eq (kkX11_writes) h1) (r_eq (rrX11_writes) h2) (k_eq (kkX11_writes) h3) (s12 c1 c5)) (Nat.le_of_ble_eq_true rfl) (by decide) rfl rfl ?_
      refine mW_iload_n (j := 0) dX11_writesNumber_32 rfl rfl ?_
      refine mW_bipush (v := 9) dX11_writesNumber_33 (by decide) ?_
      refine mW_icmp_le (tgt := 52) dX11_writesNumber_35 (by decide) (fun c7 => ?_) (fun c7 => ?_)
      · refine mW_aload_n (j := 1) dX11_writesNumber_52 rfl rfl ?_
        refine mW_bipush (v := 48) dX11_writesNumber_53 (by decide) ?_
        refine mW_iload_n (j := 0) dX11_writesNumber_55 rfl rfl ?_
        refine mW_bipush (v := 10) dX11_writesNumber_56 (by decide) ?_
        refine mW_irem dX11_writesNumber_58 (by decide) ?_
        refine mW_iadd dX11_writesNumber_59 ?_
        refine mW_callVe (As := [.int (48 + ((vX11_amount x1) - (vX11_amount x1) / 10 * 10))]) (rest := []) (kc2 := 0) (ks2 := 0) dX11_writesNumber_60 l_X11_182 rfl (k_eq (kkX11_writes) (k_eq (kkX11_writes) h1)) rfl (by decide) (qX11_writes (w := sX11_writes (sX11_writes w a0 45 a0_13) a0 (48 + ((vX11_amount x1) / 100)) a0_13) (a0 := a0) (x1 := 48 + ((vX11_amount x1) - (vX11_amount x1) / 10 * 10)) (k_eq (kkX11_writes) (k_eq (kkX11_writes) h1)) (r_eq (rrX11_writes) (r_eq (rrX11_writes) h2)) (k_eq (kkX11_writes) (k_eq (kkX11_writes) h3)) (s13 c1 c5 c7)) (Nat.le_of_ble_eq_true rfl) (by decide) rfl rfl ?_
        exact mW_vret dX11_writesNumber_63 rfl (⟨by first | with_reducible rfl | (simp only [sX11_writesNumber, if_neg c1, if_neg c5, if_pos c7]; done) | rfl, by first | with_reducible rfl | (simp only [sX11_writesNumber, if_neg c1, if_neg c5, if_pos c7]; done) | rfl⟩)
      · refine mW_aload_n (j := 1) dX11_writesNumber_38 rfl rfl ?_
        refine mW_bipush (v := 48) dX11_writesNumber_39 (by decide) ?_
        refine mW_iload_n (j := 0) dX11_writesNumber_41 rfl rfl ?_
        refine mW_bipush (v := 10) dX11_writesNumber_42 (by decide) ?_
        refine mW_idiv dX11_writesNumber_44 (by decide) ?_
        refine mW_bipush (v := 10) dX11_writesNumber_45 (by decide) ?_
        refine mW_irem dX11_writesNumber_47 (by decide) ?_
        refine mW_iadd dX11_writesNumber_48 ?_
        refine mW_callVe (As := [.int (48 + (((vX11_amount x1) / 10) - ((vX11_amount x1) / 10) / 10 * 10))]) (rest := []) (kc2 := 0) (ks2 := 0) dX11_writesNumber_49 l_X11_182 rfl (k_eq (kkX11_writes) (k_eq (kkX11_writes) h1)) rfl (by decide) (qX11_writes (w := sX11_writes (sX11_writes w a0 45 a0_13) a0 (48 + ((vX11_amount x1) / 100)) a0_13) (a0 := a0) (x1 := 48 + (((vX11_amount x1) / 10) - ((vX11_amount x1) / 10) / 10 * 10)) (k_eq (kkX11_writes) (k_eq (kkX11_writes) h1)) (r_eq (rrX11_writes) (r_eq (rrX11_writes) h2)) (k_eq (kkX11_writes) (k_eq (kkX11_writes) h3)) (s14 c1 c5 c7)) (Nat.le_of_ble_eq_true rfl) (by decide) rfl rfl ?_
        refine mW_aload_n (j := 1) dX11_writesNumber_52 rfl rfl ?_
        refine mW_bipush (v := 48) dX11_writesNumber_53 (by decide) ?_
        refine mW_iload_n (j := 0) dX11_writesNumber_55 rfl rfl ?_
        refine mW_bipush (v := 10) dX11_writesNumber_56 (by decide) ?_
        refine mW_irem dX11_writesNumber_58 (by decide) ?_
        refine mW_iadd dX11_writesNumber_59 ?_
        refine mW_callVe (As := [.int (48 + ((vX11_amount x1) - (vX11_amount x1) / 10 * 10))]) (rest := []) (kc2 := 0) (ks2 := 0) dX11_writesNumber_60 l_X11_182 rfl (k_eq (kkX11_writes) (k_eq (kkX11_writes) (k_eq (kkX11_writes) h1))) rfl (by decide) (qX11_writes (w := sX11_writes (sX11_writes (sX11_writes w a0 45 a0_13) a0 (48 + ((vX11_amount x1) / 100)) a0_13) a0 (48 + (((vX11_amount x1) / 10) - ((vX11_amount x1) / 10) / 10 * 10)) a0_13) (a0 := a0) (x1 := 48 + ((vX11_amount x1) - (vX11_amount x1) / 10 * 10)) (k_eq (kkX11_writes) (k_eq (kkX11_writes) (k_eq (kkX11_writes) h1))) (r_eq (rrX11_writes) (r_eq (rrX11_writes) (r_eq (rrX11_writes) h2))) (k_eq (kkX11_writes) (k_eq (kkX11_writes) (k_eq (kkX11_writes) h3))) (s15 c1 c5 c7)) (Nat.le_of_ble_eq_true rfl) (by decide) rfl rfl ?_
        exact mW_vret dX11_writesNumber_63 rfl (⟨by first | with_reducible rfl | (simp only [sX11_writesNumber, if_neg c1, if_neg c5, if_neg c7]; done) | rfl, by first | with_reducible rfl | (simp only [sX11_writesNumber, if_neg c1, if_neg c5, if_neg c7]; done) | rfl⟩)
def vX11_integralBehind (w : mH) (a0 : Nat) (x1 : Int32) (x2 : Int32) (x3 : Int32) (a0_1 : Nat) : Int32 := (if (hai w a0_1 10) = 0 then (if (hai w a0_1 7) = 2 then (if (lg_cmp (hfl w a0 23) x3.toInt64) = 0 then (hfi w a0 24) else (if (lg_cmp (hfl w a0 23) 0) ≤ 0 then (if 0 ≤ (lg_cmp (hfl w a0 23) 0) then (hfi w a0 24) else (if 0 ≤ x2 then (hfi w a0 24) else x1)) else (if 0 < x2 then x1 else (if 0 ≤ (lg_cmp (hfl w a0 23) 0) then (hfi w a0 24) else (if 0 ≤ x2 then (hfi w a0 24) else x1))))) else (if (hai w a0_1 7) = 3 then ((vX11_limited_ (((hfi w a0 24).toInt64) - ((((hfl w a0 23) - x3.toInt64) * ((hai w a0_1 9).toInt64)) / 16)) 1000000).toInt32) else (hfi w a0 24))) else x1)
set_option maxHeartbeats 4000000 in
set_option maxRecDepth 100000 in
theorem qX11_integralBehind {G : mG} {w : mH} {a0 : Nat} {x1 x2 x3 : Int32} {a0_1 n_a0_1 : Nat} (h1 : hk w a0 = (11, 0)) (h2 : hfr w a0 1 = some a0_1) (h3 : hk w a0_1 = (16, n_a0_1)) (s1 : vp_in 10 n_a0_1) (s2 : ((hai w a0_1 10) = 0) → vp_in 7 n_a0_1) (s3 : ((hai w a0_1 10) = 0) → (¬ ((hai w a0_1 7) = 2)) → ((hai w a0_1 7) = 3) → vp_in 9 n_a0_1) : mC G mX11_integralBehind 2 0 0 [.ref a0, .int x1, .int x2, .int x3] w (mEq (.inl (some (.int (vX11_integralBehind w a0 x1 x2 x3 a0_1)))) w) := by
  refine mC_of (by decide +kernel) rfl (Nat.le_of_ble_eq_true rfl) rfl ?_
  refine mW_aload_n (j := 0) dX11_integralBehind_0 rfl rfl ?_
  refine mW_getR dX11_integralBehind_1 f_X11_13 h1 rfl h2 ?_
  refine mW_bipush (v := 10) dX11_integralBehind_4 (by decide) ?_
  refine mW_ialdJ dX11_integralBehind_6 h3 s1 (j := 10) (by decide) ?_
  refine mW_if_eq (tgt := 12) dX11_integralBehind_7 (by decide) (fun c1 => ?_) (fun c1 => ?_)
  · refine mW_aload_n (j := 0) dX11_integralBehind_12 rfl rfl ?_
    refine mW_getR dX11_integralBehind_13 f_X11_13 h1 rfl h2 ?_
    refine mW_bipush (v := 7) dX11_integralBehind_16 (by decide) ?_
    refine mW_ialdJ dX11_integralBehind_18 h3 (s2 c1) (j := 7) (by decide) ?_
    refine mW_iconst (v := 2) dX11_integralBehind_19 (by decide) ?_
    refine mW_icmp_ne (tgt := 68) dX11_integralBehind_20 (by decide) (fun c2 => ?_) (fun c2 => ?_)
    · refine mW_aload_n (j := 0) dX11_integralBehind_68 rfl rfl ?_
      refine mW_getR dX11_integralBehind_69 f_X11_13 h1 rfl h2 ?_
      refine mW_bipush (v := 7) dX11_integralBehind_72 (by decide) ?_
      refine mW_ialdJ dX11_integralBehind_74 h3 (s2 c1) (j := 7) (by decide) ?_
      refine mW_iconst (v := 3) dX11_integralBehind_75 (by decide) ?_
      refine mW_icmp_ne (tgt := 115) dX11_integralBehind_76 (by decide) (fun c3 => ?_) (fun c3 => ?_)
      · refine mW_aload_n (j := 0) dX11_integralBehind_115 rfl rfl ?_
        refine mW_get dX11_integralBehind_116 f_X11_198 h1 rfl ?_
        exact mW_iret dX11_integralBehind_119 rfl (⟨by first | with_reducible rfl | (simp only [vX11_integralBehind, if_pos c1, if_neg c2, if_neg c3]; done) | rfl, by first | with_reducible rfl | (simp only [vX11_integralBehind, if_pos c1, if_neg c2, if_neg c3]; done) | rfl⟩)
      · refine mW_aload_n (j := 0) dX11_integralBehind_79 rfl rfl ?_
        refine mW_get dX11_integralBehind_80 f_X11_198 h1 rfl ?_
        refine mW_i2l dX11_integralBehind_83 ?_
        refine mW_aload_n (j := 0) dX11_integralBehind_84 rfl rfl ?_
        refine mW_get dX11_integralBehind_85 f_X11_201 h1 rfl ?_
        refine mW_iload_n (j := 3) dX11_integralBehind_88 rfl rfl ?_
        refine mW_i2l dX11_integralBehind_89 ?_
        refine mW_lsub dX11_integralBehind_90 ?_
        refine mW_aload_n (j := 0) dX11_integralBehind_91 rfl rfl ?_
        refine mW_getR dX11_integralBehind_92 f_X11_13 h1 rfl h2 ?_
        refine mW_bipush (v := 9) dX11_integralBehind_95 (by decide) ?_
        refine mW_ialdJ dX11_integralBehind_97 h3 (s3 c1 c2 c3) (j := 9) (by decide) ?_
        refine mW_i2l dX11_integralBehind_98 ?_
        refine mW_lmul dX11_integralBehind_99 ?_
        refine mW_ldc2 (v := 16) dX11_integralBehind_100 u1845 ?_
        refine mW_ldiv dX11_integralBehind_103 (by decide) ?_
        refine mW_lsub dX11_integralBehind_104 ?_
        refine mW_ldc2 (v := 1000000) dX11_integralBehind_105 u1846 ?_
        refine mW_callSe (As := [.long (((hfi w a0 24).toInt64) - ((((hfl w a0 23) - x3.toInt64) * ((hai w a0_1 9).toInt64)) / 16)), .long 1000000]) (rest := []) (kc2 := 0) (ks2 := 0) dX11_integralBehind_108 l_X11_215 rfl (qX11_limited_ (w := w) (y0 := ((hfi w a0 24).toInt64) - ((((hfl w a0 23) - x3.toInt64) * ((hai w a0_1 9).toInt64)) / 16)) (y2 := 1000000)) (Nat.le_of_ble_eq_true rfl) (by decide) rfl rfl ?_
        refine mW_l2i dX11_integralBehind_111 ?_
        refine mW_goto (tgt := 119) dX11_integralBehind_112 (by decide) ?_
        exact mW_iret dX11_integralBehind_119 rfl (⟨by first | with_reducible rfl | (simp only [vX11_integralBehind, if_pos c1, if_neg c2, if_pos c3]; done) | rfl, by first | with_reducible rfl | (simp only [vX11_integralBehind, if_pos c1, if_neg c2, if_pos c3]; done) | rfl⟩)
    · refine mW_aload_n (j := 0) dX11_integralBehind_23 rfl rfl ?_
      refine mW_get dX11_integralBehind_24 f_X11_201 h1 rfl ?_
      refine mW_iload_n (j := 3) dX11_integralBehind_27 rfl rfl ?_
      refine mW_i2l dX11_integralBehind_28 ?_
      refine mW_lcmp dX11_integralBehind_29 ?_
      refine mW_if_eq (tgt := 63) dX11_integralBehind_30 (by decide) (fun c4 => ?_) (fun c4 => ?_)
      · refine mW_aload_n (j := 0) dX11_integralBehind_63 rfl rfl ?_
        refine mW_get dX11_integralBehind_64 f_X11_198 h1 rfl ?_
        exact mW_iret dX11_integralBehind_67 rfl (⟨by first | with_reducible rfl | (simp only [vX11_integralBehind, if_pos c1, if_pos c2, if_pos c4]; done) | rfl, by first | with_reducible rfl | (simp only [vX11_integralBehind, if_pos c1, if_pos c2, if_pos c4]; done) | rfl⟩)
      · refine mW_aload_n (j := 0) dX11_integralBehind_33 rfl rfl ?_
        refine mW_get dX11_integralBehind_34 f_X11_201 h1 rfl ?_
        refine mW_lconst (v := 0) dX11_integralBehind_37 (by decide) ?_
        refine mW_lcmp dX11_integralBehind_38 ?_
        refine mW_if_le (tgt := 46) dX11_integralBehind_39 (by decide) (fun c5 => ?_) (fun c5 => ?_)
        · refine mW_aload_n (j := 0) dX11_integralBehind_46 rfl rfl ?_
          refine mW_get dX11_integralBehind_47 f_X11_201 h1 rfl ?_
          refine mW_lconst (v := 0) dX11_integralBehind_50 (by decide) ?_
          refine mW_lcmp dX11_integralBehind_51 ?_
          refine mW_if_ge (tgt := 63) dX11_integralBehind_52 (by decide) (fun c6 => ?_) (fun c6 => ?_)
          · refine mW_aload_n (j := 0) dX11_integralBehind_63 rfl rfl ?_
            refine mW_get dX11_integralBehind_64 f_X11_198 h1 rfl ?_
            exact mW_iret dX11_integralBehind_67 rfl (⟨by first | with_reducible rfl | (simp only [vX11_integralBehind, if_pos c1, if_pos c2, if_neg c4, if_pos c5, if_pos c6]; done) | rfl, by first | with_reducible rfl | (simp only [vX11_integralBehind, if_pos c1, if_pos c2, if_neg c4, if_pos c5, if_pos c6]; done) | rfl⟩)
          · refine mW_iload_n (j := 2) dX11_integralBehind_55 rfl rfl ?_
            refine mW_if_ge (tgt := 63) dX11_integralBehind_56 (by decide) (fun c7 => ?_) (fun c7 => ?_)
            · refine mW_aload_n (j := 0) dX11_integralBehind_63 rfl rfl ?_
              refine mW_get dX11_integralBehind_64 f_X11_198 h1 rfl ?_
              exact mW_iret dX11_integralBehind_67 rfl (⟨by first | with_reducible rfl | (simp only [vX11_integralBehind, if_pos c1, if_pos c2, if_neg c4, if_pos c5, if_neg c6, if_pos c7]; done) | rfl, by first | with_reducible rfl | (simp only [vX11_integralBehind, if_pos c1, if_pos c2, if_neg c4, if_pos c5, if_neg c6, if_pos c7]; done) | rfl⟩)
            · refine mW_iload_n (j := 1) dX11_integralBehind_59 rfl rfl ?_
              refine mW_goto (tgt := 67) dX11_integralBehind_60 (by decide) ?_
              exact mW_iret dX11_integralBehind_67 rfl (⟨by first | with_reducible rfl | (simp only [vX11_integralBehind, if_pos c1, if_pos c2, if_neg c4, if_pos c5, if_neg c6, if_neg c7]; done) | rfl, by first | with_reducible rfl | (simp only [vX11_integralBehind, if_pos c1, if_pos c2, if_neg c4, if_pos c5, if_neg c6, if_neg c7]; done) | rfl⟩)
        · refine mW_iload_n (j := 2) dX11_integralBehind_42 rfl rfl ?_
          refine mW_if_gt (tgt := 59) dX11_integralBehind_43 (by decide) (fun c8 => ?_) (fun c8 => ?_)
          · refine mW_iload_n (j := 1) dX11_integralBehind_59 rfl rfl ?_
            refine mW_goto (tgt := 67) dX11_integralBehind_60 (by decide) ?_
            exact mW_iret dX11_integralBehind_67 rfl (⟨by first | with_reducible rfl | (simp only [vX11_integralBehind, if_pos c1, if_pos c2, if_neg c4, if_neg c5, if_pos c8]; done) | rfl, by first | with_reducible rfl | (simp only [vX11_integralBehind, if_pos c1, if_pos c2, if_neg c4, if_neg c5, if_pos c8]; done) | rfl⟩)
          · refine mW_aload_n (j := 0) dX11_integralBehind_46 rfl rfl ?_
            refine mW_get dX11_integralBehind_47 f_X11_201 h1 rfl ?_
            refine mW_lconst (v := 0) dX11_integralBehind_50 (by decide) ?_
            refine mW_lcmp dX11_integralBehind_51 ?_
            refine mW_if_ge (tgt := 63) dX11_integralBehind_52 (by decide) (fun c9 => ?_) (fun c9 => ?_)
            · refine mW_aload_n (j := 0) dX11_integralBehind_63 rfl rfl ?_
              refine mW_get dX11_integralBehind_64 f_X11_198 h1 rfl ?_
              exact mW_iret dX11_integralBehind_67 rfl (⟨by first | with_reducible rfl | (simp only [vX11_integralBehind, if_pos c1, if_pos c2, if_neg c4, if_neg c5, if_neg c8, if_pos c9]; done) | rfl, by first | with_reducible rfl | (simp only [vX11_integralBehind, if_pos c1, if_pos c2, if_neg c4, if_neg c5, if_neg c8, if_pos c9]; done) | rfl⟩)
            · refine mW_iload_n (j := 2) dX11_integralBehind_55 rfl rfl ?_
              refine mW_if_ge (tgt := 63) dX11_integralBehind_56 (by decide) (fun c10 => ?_) (fun c10 => ?_)
              · refine mW_aload_n (j := 0) dX11_integralBehind_63 rfl rfl ?_
                refine mW_get dX11_integralBehind_64 f_X11_198 h1 rfl ?_
                exact mW_iret dX11_integralBehind_67 rfl (⟨by first | with_reducible rfl | (simp only [vX11_integralBehind, if_pos c1, if_pos c2, if_neg c4, if_neg c5, if_neg c8, if_neg c9, if_pos c10]; done) | rfl, by first | with_reducible rfl | (simp only [vX11_integralBehind, if_pos c1, if_pos c2, if_neg c4, if_neg c5, if_neg c8, if_neg c9, if_pos c10]; done) | rfl⟩)
              · refine mW_iload_n (j := 1) dX11_integralBehind_59 rfl rfl ?_
                refine mW_goto (tgt := 67) dX11_integralBehind_60 (by decide) ?_
                exact mW_iret dX11_integralBehind_67 rfl (⟨by first | with_reducible rfl | (simp only [vX11_integralBehind, if_pos c1, if_pos c2, if_neg c4, if_neg c5, if_neg c8, if_neg c9, if_neg c10]; done) | rfl, by first | with_reducible rfl | (simp only [vX11_integralBehind, if_pos c1, if_pos c2, if_neg c4, if_neg c5, if_neg c8, if_neg c9, if_neg c10]; done) | rfl⟩)
  · refine mW_iload_n (j := 1) dX11_integralBehind_10 rfl rfl ?_
    exact mW_iret dX11_integralBehind_11 rfl (⟨by first | with_reducible rfl | (simp only [vX11_integralBehind, if_neg c1]; done) | rfl, by first | with_reducible rfl | (simp only [vX11_integralBehind, if_neg c1]; done) | rfl⟩)
def vX11_trace (w : mH) (a0 : Nat) (x1 : Int32) (x2 : Int32) (a0_27 : Nat) : Int32 := (if (hfi w a0 25) = 0 then (if (hfi (sfi w a0 0 1) a0 0) = 0 then (hai (sfi w a0 0 1) a0_27 (((201 * x2) + x1).toNatClampNeg)) else 0) else (if (vX11_in x1.toInt64 0 ((hfi w a0 26).toInt64)) = 0 then (if (hfi (sfi w a0 0 2) a0 0) = 0 then (hai (sfi w a0 0 2) a0_27 (((201 * x2) + x1).toNatClampNeg)) else 0) else (if (vX11_in x2.toInt64 0 5) = 0 then (if (hfi (sfi w a0 0 3) a0 0) = 0 then (hai (sfi w a0 0 3) a0_27 (((201 * x2) + x1).toNatClampNeg)) else 0) else (if x1 = (hfi w a0 26) then (if x2 ≤ 0 then (if (hfi (sfi w a0 0 0) a0 0) = 0 then (hai (sfi w a0 0 0) a0_27 (((201 * x2) + x1).toNatClampNeg)) else 0) else (if (hfi (sfi w a0 0 3) a0 0) = 0 then (hai (sfi w a0 0 3) a0_27 (((201 * x2) + x1).toNatClampNeg)) else 0)) else (if (hfi (sfi w a0 0 0) a0 0) = 0 then (hai (sfi w a0 0 0) a0_27 (((201 * x2) + x1).toNatClampNeg)) else 0)))))
def sX11_trace (w : mH) (a0 : Nat) (x1 : Int32) (x2 : Int32) : mH := (if (hfi w a0 25) = 0 then (sfi w a0 0 1) else (if (vX11_in x1.toInt64 0 ((hfi w a0 26).toInt64)) = 0 then (sfi w a0 0 2) else (if (vX11_in x2.toInt64 0 5) = 0 then (sfi w a0 0 3) else (if x1 = (hfi w a0 26) then (if x2 ≤ 0 then (sfi w a0 0 0) else (sfi w a0 0 3)) else (sfi w a0 0 0)))))
theorem kkX11_trace {w : mH} {a0 : Nat} {x1 : Int32} {x2 : Int32} : hk (sX11_trace w a0 x1 x2) = hk w := by unfold sX11_trace; simp only [apply_ite hk, e_hk_sfi, e_hk_sfl, e_hk_sai, e_hk_sal, e_hk_sax, ite_self]
theorem rrX11_trace {w : mH} {a0 : Nat} {x1 : Int32} {x2 : Int32} : hfr (sX11_trace w a0 x1 x2) = hfr w := by unfold sX11_trace; simp only [apply_ite hfr, e_hfr_sfi, e_hfr_sfl, e_hfr_sai, e_hfr_sal, e_hfr_sax, ite_self]
set_option maxHeartbeats 4000000 in
set_option maxRecDepth 100000 in
theorem qX11_trace {G : mG} {w : mH} {a0 : Nat} {x1 x2 : Int32} {a0_27 n_a0_27 : Nat} (h1 : hk w a0 = (11, 0)) (h2 : hfr w a0 27 = some a0_27) (h3 : hk w a0_27 = (16, n_a0_27)) (s1 : (¬ ((hfi w a0 25) = 0)) → (¬ ((vX11_in x1.toInt64 0 ((hfi w a0 26).toInt64)) = 0)) → ((vX11_in x2.toInt64 0 5) = 0) → ((hfi (sfi w a0 0 3) a0 0) = 0) → vp_in ((201 * x2) + x1) n_a0_27) (s2 : (¬ ((hfi w a0 25) = 0)) → (¬ ((vX11_in x1.toInt64 0 ((hfi w a0 26).toInt64)) = 0)) → (¬ ((vX11_in x2.toInt64 0 5) = 0)) → (¬ (x1 = (hfi w a0 26))) → ((hfi (sfi w a0 0 0) a0 0) = 0) → vp_in ((201 * x2) + x1) n_a0_27) (s3 : (¬ ((hfi w a0 25) = 0)) → (¬ ((vX11_in x1.toInt64 0 ((hfi w a0 26).toInt64)) = 0)) → (¬ ((vX11_in x2.toInt64 0 5) = 0)) → (x1 = (hfi w a0 26)) → (x2 ≤ 0) → ((hfi (sfi w a0 0 0) a0 0) = 0) → vp_in ((201 * x2) + x1) n_a0_27) (s4 : (¬ ((hfi w a0 25) = 0)) → (¬ ((vX11_in x1.toInt64 0 ((hfi w a0 26).toInt64)) = 0)) → (¬ ((vX11_in x2.toInt64 0 5) = 0)) → (x1 = (hfi w a0 26)) → (¬ (x2 ≤ 0)) → ((hfi (sfi w a0 0 3) a0 0) = 0) → vp_in ((201 * x2) + x1) n_a0_27) (s5 : (¬ ((hfi w a0 25) = 0)) → ((vX11_in x1.toInt64 0 ((hfi w a0 26).toInt64)) = 0) → ((hfi (sfi w a0 0 2) a0 0) = 0) → vp_in ((201 * x2) + x1) n_a0_27) (s6 : ((hfi w a0 25) = 0) → ((hfi (sfi w a0 0 1) a0 0) = 0) → vp_in ((201 * x2) + x1) n_a0_27) : mC G mX11_trace 2 0 0 [.ref a0, .int x1, .int x2] w (mEq (.inl (some (.int (vX11_trace w a0 x1 x2 a0_27)))) (sX11_trace w a0 x1 x2)) := by
  refine mC_of (by decide +kernel) rfl (Nat.le_of_ble_eq_true rfl) rfl ?_
  refine mW_aload_n (j := 0) dX11_trace_0 rfl rfl ?_
  refine mW_aload_n (j := 0) dX11_trace_1 rfl rfl ?_
  refine mW_get dX11_trace_2 f_X11_235 h1 rfl ?_
  refine mW_if_ne (tgt := 12) dX11_trace_5 (by decide) (fun c1 => ?_) (fun c1 => ?_)
  · refine mW_iload_n (j := 1) dX11_trace_12 rfl rfl ?_
    refine mW_i2l dX11_trace_13 ?_
    refine mW_lconst (v := 0) dX11_trace_14 (by decide) ?_
    refine mW_aload_n (j := 0) dX11_trace_15 rfl rfl ?_
    refine mW_get dX11_trace_16 f_X11_239 h1 rfl ?_
    refine mW_i2l dX11_trace_19 ?_
    refine mW_callSe (As := [.long x1.toInt64, .long 0, .long ((hfi w a0 26).toInt64)]) (rest := [.ref a0]) (kc2 := 0) (ks2 := 0) dX11_trace_20 l_X11_92 rfl (qX11_in (w := w) (y0 := x1.toInt64) (y2 := 0) (y4 := (hfi w a0 26).toInt64)) (Nat.le_of_ble_eq_true rfl) (by decide) rfl rfl ?_
    refine mW_if_ne (tgt := 30) dX11_trace_23 (by decide) (fun c2 => ?_) (fun c2 => ?_)
    · refine mW_iload_n (j := 2) dX11_trace_30 rfl rfl ?_
      refine mW_i2l dX11_trace_31 ?_
      refine mW_lconst (v := 0) dX11_trace_32 (by decide) ?_
      refine mW_ldc2 (v := 5) dX11_trace_33 u1855 ?_
      refine mW_callSe (As := [.long x2.toInt64, .long 0, .long 5]) (rest := [.ref a0]) (kc2 := 0) (ks2 := 0) dX11_trace_36 l_X11_92 rfl (qX11_in (w := w) (y0 := x2.toInt64) (y2 := 0) (y4 := 5)) (Nat.le_of_ble_eq_true rfl) (by decide) rfl rfl ?_
      refine mW_if_eq (tgt := 54) dX11_trace_39 (by decide) (fun c3 => ?_) (fun c3 => ?_)
      · refine mW_iconst (v := 3) dX11_trace_54 (by decide) ?_
        refine mW_goto (tgt := 59) dX11_trace_55 (by decide) ?_
        refine mW_put (ty := .int) (w2 := sfi w a0 0 3) dX11_trace_59 p_X11_3 h1 (Nat.le_of_ble_eq_true rfl) (by first | rfl | decide | (repeat' split) <;> rfl) rfl (hN_sfi _ _ _ _) (hk_sfi _ _ _ _) (mE_sfi h1 (by decide) (ob_11_0 _ _ _)) ?_
        refine mW_aload_n (j := 0) dX11_trace_62 rfl rfl ?_
        refine mW_get dX11_trace_63 f_X11_3 (k_sfi h1) rfl ?_
        refine mW_if_ne (tgt := 84) dX11_trace_66 (by decide) (fun c4 => ?_) (fun c4 => ?_)
        · refine mW_iconst (v := 0) dX11_trace_84 (by decide) ?_
          exact mW_iret dX11_trace_85 rfl (⟨by first | with_reducible rfl | (simp only [vX11_trace, sX11_trace, if_neg c1, if_neg c2, if_pos c3, if_neg c4]; done) | rfl, by first | with_reducible rfl | (simp only [vX11_trace, sX11_trace, if_neg c1, if_neg c2, if_pos c3, if_neg c4]; done) | rfl⟩)
        · refine mW_aload_n (j := 0) dX11_trace_69 rfl rfl ?_
          refine mW_getR dX11_trace_70 f_X11_60 (k_sfi h1) rfl (r_sfi h2) ?_
          refine mW_sipush (v := 201) dX11_trace_73 (by decide) ?_
          refine mW_iload_n (j := 2) dX11_trace_76 rfl rfl ?_
          refine mW_imul dX11_trace_77 ?_
          refine mW_iload_n (j := 1) dX11_trace_78 rfl rfl ?_
          refine mW_iadd dX11_trace_79 ?_
          refine mW_ialdJ dX11_trace_80 (k_sfi h3) (s1 c1 c2 c3 c4) rfl ?_
          refine mW_goto (tgt := 85) dX11_trace_81 (by decide) ?_
          exact mW_iret dX11_trace_85 rfl (⟨by first | with_reducible rfl | (simp only [vX11_trace, sX11_trace, if_neg c1, if_neg c2, if_pos c3, if_pos c4]; done) | rfl, by first | with_reducible rfl | (simp only [vX11_trace, sX11_trace, if_neg c1, if_neg c2, if_pos c3, if_pos c4]; done) | rfl⟩)
      · refine mW_iload_n (j := 1) dX11_trace_42 rfl rfl ?_
        refine mW_aload_n (j := 0) dX11_trace_43 rfl rfl ?_
        refine mW_get dX11_trace_44 f_X11_239 h1 rfl ?_
        refine mW_icmp_ne (tgt := 58) dX11_trace_47 (by decide) (fun c5 => ?_) (fun c5 => ?_)
        · refine mW_iconst (v := 0) dX11_trace_58 (by decide) ?_
          refine mW_put (ty := .int) (w2 := sfi w a0 0 0) dX11_trace_59 p_X11_3 h1 (Nat.le_of_ble_eq_true rfl) (by first | rfl | decide | (repeat' split) <;> rfl) rfl (hN_sfi _ _ _ _) (hk_sfi _ _ _ _) (mE_sfi h1 (by decide) (ob_11_0 _ _ _)) ?_
          refine mW_aload_n (j := 0) dX11_trace_62 rfl rfl ?_
          refine mW_get dX11_trace_63 f_X11_3 (k_sfi h1) rfl ?_
          refine mW_if_ne (tgt := 84) dX11_trace_66 (by decide) (fun c6 => ?_) (fun c6 => ?_)
          · refine mW_iconst (v := 0) dX11_trace_84 (by decide) ?_
            exact mW_iret dX11_trace_85 rfl (⟨by first | with_reducible rfl | (simp only [vX11_trace, sX11_trace, if_neg c1, if_neg c2, if_neg c3, if_neg c5, if_neg c6]; done) | rfl, by first | with_reducible rfl | (simp only [vX11_trace, sX11_trace, if_neg c1, if_neg c2, if_neg c3, if_neg c5, if_neg c6]; done) | rfl⟩)
          · refine mW_aload_n (j := 0) dX11_trace_69 rfl rfl ?_
            refine mW_getR dX11_trace_70 f_X11_60 (k_sfi h1) rfl (r_sfi h2) ?_
            refine mW_sipush (v := 201) dX11_trace_73 (by decide) ?_
            refine mW_iload_n (j := 2) dX11_trace_76 rfl rfl ?_
            refine mW_imul dX11_trace_77 ?_
            refine mW_iload_n (j := 1) dX11_trace_78 rfl rfl ?_
            refine mW_iadd dX11_trace_79 ?_
            refine mW_ialdJ dX11_trace_80 (k_sfi h3) (s2 c1 c2 c3 c5 c6) rfl ?_
            refine mW_goto (tgt := 85) dX11_trace_81 (by decide) ?_
            exact mW_iret dX11_trace_85 rfl (⟨by first | with_reducible rfl | (simp only [vX11_trace, sX11_trace, if_neg c1, if_neg c2, if_neg c3, if_neg c5, if_pos c6]; done) | rfl, by first | with_reducible rfl | (simp only [vX11_trace, sX11_trace, if_neg c1, if_neg c2, if_neg c3, if_neg c5, if_pos c6]; done) | rfl⟩)
        · refine mW_iload_n (j := 2) dX11_trace_50 rfl rfl ?_
          refine mW_if_le (tgt := 58) dX11_trace_51 (by decide) (fun c7 => ?_) (fun c7 => ?_)
          · refine mW_iconst (v := 0) dX11_trace_58 (by decide) ?_
            refine mW_put (ty := .int) (w2 := sfi w a0 0 0) dX11_trace_59 p_X11_3 h1 (Nat.le_of_ble_eq_true rfl) (by first | rfl | decide | (repeat' split) <;> rfl) rfl (hN_sfi _ _ _ _) (hk_sfi _ _ _ _) (mE_sfi h1 (by decide) (ob_11_0 _ _ _)) ?_
            refine mW_aload_n (j := 0) dX11_trace_62 rfl rfl ?_
            refine mW_get dX11_trace_63 f_X11_3 (k_sfi h1) rfl ?_
            refine mW_if_ne (tgt := 84) dX11_trace_66 (by decide) (fun c8 => ?_) (fun c8 => ?_)
            · refine mW_iconst (v := 0) dX11_trace_84 (by decide) ?_
              exact mW_iret dX11_trace_85 rfl (⟨by first | with_reducible rfl | (simp only [vX11_trace, sX11_trace, if_neg c1, if_neg c2, if_neg c3, if_pos c5, if_pos c7, if_neg c8]; done) | rfl, by first | with_reducible rfl | (simp only [vX11_trace, sX11_trace, if_neg c1, if_neg c2, if_neg c3, if_pos c5, if_pos c7, if_neg c8]; done) | rfl⟩)
            · refine mW_aload_n (j := 0) dX11_trace_69 rfl rfl ?_
              refine mW_getR dX11_trace_70 f_X11_60 (k_sfi h1) rfl (r_sfi h2) ?_
              refine mW_sipush (v := 201) dX11_trace_73 (by decide) ?_
              refine mW_iload_n (j := 2) dX11_trace_76 rfl rfl ?_
              refine mW_imul dX11_trace_77 ?_
              refine mW_iload_n (j := 1) dX11_trace_78 rfl rfl ?_
              refine mW_iadd dX11_trace_79 ?_
              refine mW_ialdJ dX11_trace_80 (k_sfi h3) (s3 c1 c2 c3 c5 c7 c8) rfl ?_
              refine mW_goto (tgt := 85) dX11_trace_81 (by decide) ?_
              exact mW_iret dX11_trace_85 rfl (⟨by first | with_reducible rfl | (simp only [vX11_trace, sX11_trace, if_neg c1, if_neg c2, if_neg c3, if_pos c5, if_pos c7, if_pos c8]; done) | rfl, by first | with_reducible rfl | (simp only [vX11_trace, sX11_trace, if_neg c1, if_neg c2, if_neg c3, if_pos c5, if_pos c7, if_pos c8]; done) | rfl⟩)
          · refine mW_iconst (v := 3) dX11_trace_54 (by decide) ?_
            refine mW_goto (tgt := 59) dX11_trace_55 (by decide) ?_
            refine mW_put (ty := .int) (w2 := sfi w a0 0 3) dX11_trace_59 p_X11_3 h1 (Nat.le_of_ble_eq_true rfl) (by first | rfl | decide | (repeat' split) <;> rfl) rfl (hN_sfi _ _ _ _) (hk_sfi _ _ _ _) (mE_sfi h1 (by decide) (ob_11_0 _ _ _)) ?_
            refine mW_aload_n (j := 0) dX11_trace_62 rfl rfl ?_
            refine mW_get dX11_trace_63 f_X11_3 (k_sfi h1) rfl ?_
            refine mW_if_ne (tgt := 84) dX11_trace_66 (by decide) (fun c9 => ?_) (fun c9 => ?_)
            · refine mW_iconst (v := 0) dX11_trace_84 (by decide) ?_
              exact mW_iret dX11_trace_85 rfl (⟨by first | with_reducible rfl | (simp only [vX11_trace, sX11_trace, if_neg c1, if_neg c2, if_neg c3, if_pos c5, if_neg c7, if_neg c9]; done) | rfl, by first | with_reducible rfl | (simp only [vX11_trace, sX11_trace, if_neg c1, if_neg c2, if_neg c3, if_pos c5, if_neg c7, if_neg c9]; done) | rfl⟩)
            · refine mW_aload_n (j := 0) dX11_trace_69 rfl rfl ?_
              refine mW_getR dX11_trace_70 f_X11_60 (k_sfi h1) rfl (r_sfi h2) ?_
              refine mW_sipush (v := 201) dX11_trace_73 (by decide) ?_
              refine mW_iload_n (j := 2) dX11_trace_76 rfl rfl ?_
              refine mW_imul dX11_trace_77 ?_
              refine mW_iload_n (j := 1) dX11_trace_78 rfl rfl ?_
              refine mW_iadd dX11_trace_79 ?_
              refine mW_ialdJ dX11_trace_80 (k_sfi h3) (s4 c1 c2 c3 c5 c7 c9) rfl ?_
              refine mW_goto (tgt := 85) dX11_trace_81 (by decide) ?_
              exact mW_iret dX11_trace_85 rfl (⟨by first | with_reducible rfl | (simp only [vX11_trace, sX11_trace, if_neg c1, if_neg c2, if_neg c3, if_pos c5, if_neg c7, if_pos c9]; done) | rfl, by first | with_reducible rfl | (simp only [vX11_trace, sX11_trace, if_neg c1, if_neg c2, if_neg c3, if_pos c5, if_neg c7, if_pos c9]; done) | rfl⟩)
    · refine mW_iconst (v := 2) dX11_trace_26 (by decide) ?_
      refine mW_goto (tgt := 59) dX11_trace_27 (by decide) ?_
      refine mW_put (ty := .int) (w2 := sfi w a0 0 2) dX11_trace_59 p_X11_3 h1 (Nat.le_of_ble_eq_true rfl) (by first | rfl | decide | (repeat' split) <;> rfl) rfl (hN_sfi _ _ _ _) (hk_sfi _ _ _ _) (mE_sfi h1 (by decide) (ob_11_0 _ _ _)) ?_
      refine mW_aload_n (j := 0) dX11_trace_62 rfl rfl ?_
      refine mW_get dX11_trace_63 f_X11_3 (k_sfi h1) rfl ?_
      refine mW_if_ne (tgt := 84) dX11_trace_66 (by decide) (fun c10 => ?_) (fun c10 => ?_)
      · refine mW_iconst (v := 0) dX11_trace_84 (by decide) ?_
        exact mW_iret dX11_trace_85 rfl (⟨by first | with_reducible rfl | (simp only [vX11_trace, sX11_trace, if_neg c1, if_pos c2, if_neg c10]; done) | rfl, by first | with_reducible rfl | (simp only [vX11_trace, sX11_trace, if_neg c1, if_pos c2, if_neg c10]; done) | rfl⟩)
      · refine mW_aload_n (j := 0) dX11_trace_69 rfl rfl ?_
        refine mW_getR dX11_trace_70 f_X11_60 (k_sfi h1) rfl (r_sfi h2) ?_
        refine mW_sipush (v := 201) dX11_trace_73 (by decide) ?_
        refine mW_iload_n (j := 2) dX11_trace_76 rfl rfl ?_
        refine mW_imul dX11_trace_77 ?_
        refine mW_iload_n (j := 1) dX11_trace_78 rfl rfl ?_
        refine mW_iadd dX11_trace_79 ?_
        refine mW_ialdJ dX11_trace_80 (k_sfi h3) (s5 c1 c2 c10) rfl ?_
        refine mW_goto (tgt := 85) dX11_trace_81 (by decide) ?_
        exact mW_iret dX11_trace_85 rfl (⟨by first | with_reducible rfl | (simp only [vX11_trace, sX11_trace, if_neg c1, if_pos c2, if_pos c10]; done) | rfl, by first | with_reducible rfl | (simp only [vX11_trace, sX11_trace, if_neg c1, if_pos c2, if_pos c10]; done) | rfl⟩)
  · refine mW_iconst (v := 1) dX11_trace_8 (by decide) ?_
    refine mW_goto (tgt := 59) dX11_trace_9 (by decide) ?_
    refine mW_put (ty := .int) (w2 := sfi w a0 0 1) dX11_trace_59 p_X11_3 h1 (Nat.le_of_ble_eq_true rfl) (by first | rfl | decide | (repeat' split) <;> rfl) rfl (hN_sfi _ _ _ _) (hk_sfi _ _ _ _) (mE_sfi h1 (by decide) (ob_11_0 _ _ _)) ?_
    refine mW_aload_n (j := 0) dX11_trace_62 rfl rfl ?_
    refine mW_get dX11_trace_63 f_X11_3 (k_sfi h1) rfl ?_
    refine mW_if_ne (tgt := 84) dX11_trace_66 (by decide) (fun c11 => ?_) (fun c11 => ?_)
    · refine mW_iconst (v := 0) dX11_trace_84 (by decide) ?_
      exact mW_iret dX11_trace_85 rfl (⟨by first | with_reducible rfl | (simp only [vX11_trace, sX11_trace, if_pos c1, if_neg c11]; done) | rfl, by first | with_reducible rfl | (simp only [vX11_trace, sX11_trace, if_pos c1, if_neg c11]; done) | rfl⟩)
    · refine mW_aload_n (j := 0) dX11_trace_69 rfl rfl ?_
      refine mW_getR dX11_trace_70 f_X11_60 (k_sfi h1) rfl (r_sfi h2) ?_
      refine mW_sipush (v := 201) dX11_trace_73 (by decide) ?_
      refine mW_iload_n (j := 2) dX11_trace_76 rfl rfl ?_
      refine mW_imul dX11_trace_77 ?_
      refine mW_iload_n (j := 1) dX11_trace_78 rfl rfl ?_
      refine mW_iadd dX11_trace_79 ?_
      refine mW_ialdJ dX11_trace_80 (k_sfi h3) (s6 c1 c11) rfl ?_
      refine mW_goto (tgt := 85) dX11_trace_81 (by decide) ?_
      exact mW_iret dX11_trace_85 rfl (⟨by first | with_reducible rfl | (simp only [vX11_trace, sX11_trace, if_pos c1, if_pos c11]; done) | rfl, by first | with_reducible rfl | (simp only [vX11_trace, sX11_trace, if_pos c1, if_pos c11]; done) | rfl⟩)
def vX11_gridValue (w : mH) (x1 : Int32) (x2 : Int32) (a0_1 : Nat) : Int32 := ((vX11_gridFirst w x1 a0_1) + ((vX11_gridStep w x1 a0_1) * x2))
set_option maxHeartbeats 4000000 in
set_option maxRecDepth 100000 in
theorem qX11_gridValue {G : mG} {w : mH} {a0 : Nat} {x1 x2 : Int32} {a0_1 n_a0_1 : Nat} (h1 : hk w a0 = (11, 0)) (h2 : hfr w a0 1 = some a0_1) (h3 : hk w a0_1 = (16, n_a0_1)) (s1 : vp_in (20 + (3 * x1)) n_a0_1) (s2 : vp_in ((20 + (3 * x1)) + 1) n_a0_1) : mC G mX11_gridValue 2 0 0 [.ref a0, .int x1, .int x2] w (mEq (.inl (some (.int (vX11_gridValue w x1 x2 a0_1)))) w) := by
  refine mC_of (by decide +kernel) rfl (Nat.le_of_ble_eq_true rfl) rfl ?_
  refine mW_aload_n (j := 0) dX11_gridValue_0 rfl rfl ?_
  refine mW_iload_n (j := 1) dX11_gridValue_1 rfl rfl ?_
  refine mW_callVe (As := [.int x1]) (rest := []) (kc2 := 0) (ks2 := 0) dX11_gridValue_2 l_X11_277 rfl h1 rfl (by decide) (qX11_gridFirst (w := w) (a0 := a0) (x1 := x1) h1 h2 h3 s1) (Nat.le_of_ble_eq_true rfl) (by decide) rfl rfl ?_
  refine mW_aload_n (j := 0) dX11_gridValue_5 rfl rfl ?_
  refine mW_iload_n (j := 1) dX11_gridValue_6 rfl rfl ?_
  refine mW_callVe (As := [.int x1]) (rest := [.int (vX11_gridFirst w x1 a0_1)]) (kc2 := 0) (ks2 := 0) dX11_gridValue_7 l_X11_280 rfl h1 rfl (by decide) (qX11_gridStep (w := w) (a0 := a0) (x1 := x1) h1 h2 h3 s2) (Nat.le_of_ble_eq_true rfl) (by decide) rfl rfl ?_
  refine mW_iload_n (j := 2) dX11_gridValue_10 rfl rfl ?_
  refine mW_imul dX11_gridValue_11 ?_
  refine mW_iadd dX11_gridValue_12 ?_
  exact mW_iret dX11_gridValue_13 rfl (⟨by first | with_reducible rfl | (simp only [vX11_gridValue]; done) | rfl, by first | with_reducible rfl | (simp only [vX11_gridValue]; done) | rfl⟩)
def vX11_found (w : mH) (a0 : Nat) (x1 : Int32) (x2 : Int32) (a0_31 : Nat) (a0_32 : Nat) (a0_34 : Nat) : Int32 := (if x1 = 0 then (if (hai w a0_31 0) = 0 then (if (hfi (sfi w a0 0 1) a0 0) = 0 then (if x2 = 3 then (hai (sfi w a0 0 1) a0_34 0) else (hai (sfi w a0 0 1) a0_32 (((3 * 0) + x2).toNatClampNeg))) else 0) else (if (vX11_in x2.toInt64 0 3) = 0 then (if (hfi (sfi w a0 0 2) a0 0) = 0 then (if x2 = 3 then (hai (sfi w a0 0 2) a0_34 0) else (hai (sfi w a0 0 2) a0_32 (((3 * 0) + x2).toNatClampNeg))) else 0) else (if (hfi (sfi w a0 0 0) a0 0) = 0 then (if x2 = 3 then (hai (sfi w a0 0 0) a0_34 0) else (hai (sfi w a0 0 0) a0_32 (((3 * 0) + x2).toNatClampNeg))) else 0))) else (if (hai w a0_31 1) = 0 then (if (hfi (sfi w a0 0 1) a0 0) = 0 then (if x2 = 3 then (hai (sfi w a0 0 1) a0_34 1) else (hai (sfi w a0 0 1) a0_32 (((3 * 1) + x2).toNatClampNeg))) else 0) else (if (vX11_in x2.toInt64 0 3) = 0 then (if (hfi (sfi w a0 0 2) a0 0) = 0 then (if x2 = 3 then (hai (sfi w a0 0 2) a0_34 1) else (hai (sfi w a0 0 2) a0_32 (((3 * 1) + x2).toNatClampNeg))) else 0) else (if (hfi (sfi w a0 0 0) a0 0) = 0 then (if x2 = 3 then (hai (sfi w a0 0 0) a0_34 1) else (hai (sfi w a0 0 0) a0_32 (((3 * 1) + x2).toNatClampNeg))) else 0))))
def sX11_found (w : mH) (a0 : Nat) (x1 : Int32) (x2 : Int32) (a0_31 : Nat) : mH := (if x1 = 0 then (if (hai w a0_31 0) = 0 then (sfi w a0 0 1) else (if (vX11_in x2.toInt64 0 3) = 0 then (sfi w a0 0 2) else (sfi w a0 0 0))) else (if (hai w a0_31 1) = 0 then (sfi w a0 0 1) else (if (vX11_in x2.toInt64 0 3) = 0 then (sfi w a0 0 2) else (sfi w a0 0 0))))
theorem kkX11_found {w : mH} {a0 : Nat} {x1 : Int32} {x2 : Int32} {a0_31 : Nat} : hk (sX11_found w a0 x1 x2 a0_31) = hk w := by unfold sX11_found; simp only [apply_ite hk, e_hk_sfi, e_hk_sfl, e_hk_sai, e_hk_sal, e_hk_sax, ite_self]
theorem rrX11_found {w : mH} {a0 : Nat} {x1 : Int32} {x2 : Int32} {a0_31 : Nat} : hfr (sX11_found w a0 x1 x2 a0_31) = hfr w := by unfold sX11_found; simp only [apply_ite hfr, e_hfr_sfi, e_hfr_sfl, e_hfr_sai, e_hfr_sal, e_hfr_sax, ite_self]
set_option maxHeartbeats 4000000 in
set_option maxRecDepth 100000 in
theorem qX11_found {G : mG} {w : mH} {a0 : Nat} {x1 x2 : Int32} {a0_31 n_a0_31 a0_32 n_a0_32 a0_34 n_a0_34 : Nat} (h1 : hk w a0 = (11, 0)) (h2 : hfr w a0 31 = some a0_31) (h3 : hk w a0_31 = (20, n_a0_31)) (s1 : (x1 = 0) → vp_in 0 n_a0_31) (h4 : hfr w a0 32 = some a0_32) (h5 : hk w a0_32 = (16, n_a0_32)) (s2 : (x1 = 0) → (¬ ((hai w a0_31 0) = 0)) → ((vX11_in x2.toInt64 0 3) = 0) → ((hfi (sfi w a0 0 2) a0 0) = 0) → (¬ (x2 = 3)) → vp_in ((3 * 0) + x2) n_a0_32) (h6 : hfr w a0 34 = some a0_34) (h7 : hk w a0_34 = (16, n_a0_34)) (s3 : (x1 = 0) → (¬ ((hai w a0_31 0) = 0)) → ((vX11_in x2.toInt64 0 3) = 0) → ((hfi (sfi w a0 0 2) a0 0) = 0) → (x2 = 3) → vp_in 0 n_a0_34) (s4 : (x1 = 0) → (¬ ((hai w a0_31 0) = 0)) → (¬ ((vX11_in x2.toInt64 0 3) = 0)) → ((hfi (sfi w a0 0 0) a0 0) = 0) → (¬ (x2 = 3)) → vp_in ((3 * 0) + x2) n_a0_32) (s5 : (x1 = 0) → (¬ ((hai w a0_31 0) = 0)) → (¬ ((vX11_in x2.toInt64 0 3) = 0)) → ((hfi (sfi w a0 0 0) a0 0) = 0) → (x2 = 3) → vp_in 0 n_a0_34) (s6 : (x1 = 0) → ((hai w a0_31 0) = 0) → ((hfi (sfi w a0 0 1) a0 0) = 0) → (¬ (x2 = 3)) → vp_in ((3 * 0) + x2) n_a0_32) (s7 : (x1 = 0) → ((hai w a0_31 0) = 0) → ((hfi (sfi w a0 0 1) a0 0) = 0) → (x2 = 3) → vp_in 0 n_a0_34) (s8 : (¬ (x1 = 0)) → vp_in 1 n_a0_31) (s9 : (¬ (x1 = 0)) → (¬ ((hai w a0_31 1) = 0)) → ((vX11_in x2.toInt64 0 3) = 0) → ((hfi (sfi w a0 0 2) a0 0) = 0) → (¬ (x2 = 3)) → vp_in ((3 * 1) + x2) n_a0_32) (s10 : (¬ (x1 = 0)) → (¬ ((hai w a0_31 1) = 0)) → ((vX11_in x2.toInt64 0 3) = 0) → ((hfi (sfi w a0 0 2) a0 0) = 0) → (x2 = 3) → vp_in 1 n_a0_34) (s11 : (¬ (x1 = 0)) → (¬ ((hai w a0_31 1) = 0)) → (¬ ((vX11_in x2.toInt64 0 3) = 0)) → ((hfi (sfi w a0 0 0) a0 0) = 0) → (¬ (x2 = 3)) → vp_in ((3 * 1) + x2) n_a0_32) (s12 : (¬ (x1 = 0)) → (¬ ((hai w a0_31 1) = 0)) → (¬ ((vX11_in x2.toInt64 0 3) = 0)) → ((hfi (sfi w a0 0 0) a0 0) = 0) → (x2 = 3) → vp_in 1 n_a0_34) (s13 : (¬ (x1 = 0)) → ((hai w a0_31 1) = 0) → ((hfi (sfi w a0 0 1) a0 0) = 0) → (¬ (x2 = 3)) → vp_in ((3 * 1) + x2) n_a0_32) (s14 : (¬ (x1 = 0)) → ((hai w a0_31 1) = 0) → ((hfi (sfi w a0 0 1) a0 0) = 0) → (x2 = 3) → vp_in 1 n_a0_34) : mC G mX11_found 2 0 0 [.ref a0, .int x1, .int x2] w (mEq (.inl (some (.int (vX11_found w a0 x1 x2 a0_31 a0_32 a0_34)))) (sX11_found w a0 x1 x2 a0_31)) := by
  refine mC_of (by decide +kernel) rfl (Nat.le_of_ble_eq_true rfl) rfl ?_
  refine mW_iload_n (j := 1) dX11_found_0 rfl rfl ?_
  refine mW_if_eq (tgt := 8) dX11_found_1 (by decide) (fun c1 => ?_) (fun c1 => ?_)
  · refine mW_iconst (v := 0) dX11_found_8 (by decide) ?_
    refine mW_istore_n (lv2 := [(3, .int 0), (0, .ref a0), (1, .int x1), (2, .int x2)]) dX11_found_9 rfl (by decide) rfl ?_
    refine mW_aload_n (j := 1) dX11_found_10 rfl rfl ?_
    refine mW_aload_n (j := 1) dX11_found_11 rfl rfl ?_
    refine mW_getR dX11_found_12 f_X11_66 h1 rfl h2 ?_
    refine mW_iload_n (j := 0) dX11_found_15 rfl rfl ?_
    refine mW_zaldJ dX11_found_16 h3 (s1 c1) (j := 0) (by decide) ?_
    refine mW_if_ne (tgt := 24) dX11_found_17 (by decide) (fun c2 => ?_) (fun c2 => ?_)
    · refine mW_iload_n (j := 3) dX11_found_24 rfl rfl ?_
      refine mW_i2l dX11_found_25 ?_
      refine mW_lconst (v := 0) dX11_found_26 (by decide) ?_
      refine mW_ldc2 (v := 3) dX11_found_27 u1957 ?_
      refine mW_callSe (As := [.long x2.toInt64, .long 0, .long 3]) (rest := [.ref a0]) (kc2 := 0) (ks2 := 0) dX11_found_30 l_X11_92 rfl (qX11_in (w := w) (y0 := x2.toInt64) (y2 := 0) (y4 := 3)) (Nat.le_of_ble_eq_true rfl) (by decide) rfl rfl ?_
      refine mW_if_eq (tgt := 40) dX11_found_33 (by decide) (fun c3 => ?_) (fun c3 => ?_)
      · refine mW_iconst (v := 2) dX11_found_40 (by decide) ?_
        refine mW_put (ty := .int) (w2 := sfi w a0 0 2) dX11_found_41 p_X11_3 h1 (Nat.le_of_ble_eq_true rfl) (by first | rfl | decide | (repeat' split) <;> rfl) rfl (hN_sfi _ _ _ _) (hk_sfi _ _ _ _) (mE_sfi h1 (by decide) (ob_11_0 _ _ _)) ?_
        refine mW_aload_n (j := 1) dX11_found_44 rfl rfl ?_
        refine mW_get dX11_found_45 f_X11_3 (k_sfi h1) rfl ?_
        refine mW_if_eq (tgt := 55) dX11_found_48 (by decide) (fun c4 => ?_) (fun c4 => ?_)
        · refine mW_iload_n (j := 3) dX11_found_55 rfl rfl ?_
          refine mW_iconst (v := 3) dX11_found_56 (by decide) ?_
          refine mW_icmp_ne (tgt := 69) dX11_found_57 (by decide) (fun c5 => ?_) (fun c5 => ?_)
          · refine mW_aload_n (j := 1) dX11_found_69 rfl rfl ?_
            refine mW_getR dX11_found_70 f_X11_70 (k_sfi h1) rfl (r_sfi h4) ?_
            refine mW_iconst (v := 3) dX11_found_73 (by decide) ?_
            refine mW_iload_n (j := 0) dX11_found_74 rfl rfl ?_
            refine mW_imul dX11_found_75 ?_
            refine mW_iload_n (j := 3) dX11_found_76 rfl rfl ?_
            refine mW_iadd dX11_found_77 ?_
            refine mW_ialdJ dX11_found_78 (k_sfi h5) (s2 c1 c2 c3 c4 c5) rfl ?_
            exact mW_iret dX11_found_79 rfl (⟨by first | with_reducible rfl | (simp only [vX11_found, sX11_found, if_pos c1, if_neg c2, if_pos c3, if_pos c4, if_neg c5]; done) | rfl, by first | with_reducible rfl | (simp only [vX11_found, sX11_found, if_pos c1, if_neg c2, if_pos c3, if_pos c4, if_neg c5]; done) | rfl⟩)
          · refine mW_aload_n (j := 1) dX11_found_60 rfl rfl ?_
            refine mW_getR dX11_found_61 f_X11_77 (k_sfi h1) rfl (r_sfi h6) ?_
            refine mW_iload_n (j := 0) dX11_found_64 rfl rfl ?_
            refine mW_ialdJ dX11_found_65 (k_sfi h7) (s3 c1 c2 c3 c4 c5) (j := 0) (by decide) ?_
            refine mW_goto (tgt := 79) dX11_found_66 (by decide) ?_
            exact mW_iret dX11_found_79 rfl (⟨by first | with_reducible rfl | (simp only [vX11_found, sX11_found, if_pos c1, if_neg c2, if_pos c3, if_pos c4, if_pos c5]; done) | rfl, by first | with_reducible rfl | (simp only [vX11_found, sX11_found, if_pos c1, if_neg c2, if_pos c3, if_pos c4, if_pos c5]; done) | rfl⟩)
        · refine mW_iconst (v := 0) dX11_found_51 (by decide) ?_
          refine mW_goto (tgt := 79) dX11_found_52 (by decide) ?_
          exact mW_iret dX11_found_79 rfl (⟨by first | with_reducible rfl | (simp only [vX11_found, sX11_found, if_pos c1, if_neg c2, if_pos c3, if_neg c4]; done) | rfl, by first | with_reducible rfl | (simp only [vX11_found, sX11_found, if_pos c1, if_neg c2, if_pos c3, if_neg c4]; done) | rfl⟩)
      · refine mW_iconst (v := 0) dX11_found_36 (by decide) ?_
        refine mW_goto (tgt := 41) dX11_found_37 (by decide) ?_
        refine mW_put (ty := .int) (w2 := sfi w a0 0 0) dX11_found_41 p_X11_3 h1 (Nat.le_of_ble_eq_true rfl) (by first | rfl | decide | (repeat' split) <;> rfl) rfl (hN_sfi _ _ _ _) (hk_sfi _ _ _ _) (mE_sfi h1 (by decide) (ob_11_0 _ _ _)) ?_
        refine mW_aload_n (j := 1) dX11_found_44 rfl rfl ?_
        refine mW_get dX11_found_45 f_X11_3 (k_sfi h1) rfl ?_
        refine mW_if_eq (tgt := 55) dX11_found_48 (by decide) (fun c6 => ?_) (fun c6 => ?_)
        · refine mW_iload_n (j := 3) dX11_found_55 rfl rfl ?_
          refine mW_iconst (v := 3) dX11_found_56 (by decide) ?_
          refine mW_icmp_ne (tgt := 69) dX11_found_57 (by decide) (fun c7 => ?_) (fun c7 => ?_)
          · refine mW_aload_n (j := 1) dX11_found_69 rfl rfl ?_
            refine mW_getR dX11_found_70 f_X11_70 (k_sfi h1) rfl (r_sfi h4) ?_
            refine mW_iconst (v := 3) dX11_found_73 (by decide) ?_
            refine mW_iload_n (j := 0) dX11_found_74 rfl rfl ?_
            refine mW_imul dX11_found_75 ?_
            refine mW_iload_n (j := 3) dX11_found_76 rfl rfl ?_
            refine mW_iadd dX11_found_77 ?_
            refine mW_ialdJ dX11_found_78 (k_sfi h5) (s4 c1 c2 c3 c6 c7) rfl ?_
            exact mW_iret dX11_found_79 rfl (⟨by first | with_reducible rfl | (simp only [vX11_found, sX11_found, if_pos c1, if_neg c2, if_neg c3, if_pos c6, if_neg c7]; done) | rfl, by first | with_reducible rfl | (simp only [vX11_found, sX11_found, if_pos c1, if_neg c2, if_neg c3, if_pos c6, if_neg c7]; done) | rfl⟩)
          · refine mW_aload_n (j := 1) dX11_found_60 rfl rfl ?_
            refine mW_getR dX11_found_61 f_X11_77 (k_sfi h1) rfl (r_sfi h6) ?_
            refine mW_iload_n (j := 0) dX11_found_64 rfl rfl ?_
            refine mW_ialdJ dX11_found_65 (k_sfi h7) (s5 c1 c2 c3 c6 c7) (j := 0) (by decide) ?_
            refine mW_goto (tgt := 79) dX11_found_66 (by decide) ?_
            exact mW_iret dX11_found_79 rfl (⟨by first | with_reducible rfl | (simp only [vX11_found, sX11_found, if_pos c1, if_neg c2, if_neg c3, if_pos c6, if_pos c7]; done) | rfl, by first | with_reducible rfl | (simp only [vX11_found, sX11_found, if_pos c1, if_neg c2, if_neg c3, if_pos c6, if_pos c7]; done) | rfl⟩)
        · refine mW_iconst (v := 0) dX11_found_51 (by decide) ?_
          refine mW_goto (tgt := 79) dX11_found_52 (by decide) ?_
          exact mW_iret dX11_found_79 rfl (⟨by first | with_reducible rfl | (simp only [vX11_found, sX11_found, if_pos c1, if_neg c2, if_neg c3, if_neg c6]; done) | rfl, by first | with_reducible rfl | (simp only [vX11_found, sX11_found, if_pos c1, if_neg c2, if_neg c3, if_neg c6]; done) | rfl⟩)
    · refine mW_iconst (v := 1) dX11_found_20 (by decide) ?_
      refine mW_goto (tgt := 41) dX11_found_21 (by decide) ?_
      refine mW_put (ty := .int) (w2 := sfi w a0 0 1) dX11_found_41 p_X11_3 h1 (Nat.le_of_ble_eq_true rfl) (by first | rfl | decide | (repeat' split) <;> rfl) rfl (hN_sfi _ _ _ _) (hk_sfi _ _ _ _) (mE_sfi h1 (by decide) (ob_11_0 _ _ _)) ?_
      refine mW_aload_n (j := 1) dX11_found_44 rfl rfl ?_
      refine mW_get dX11_found_45 f_X11_3 (k_sfi h1) rfl ?_
      refine mW_if_eq (tgt := 55) dX11_found_48 (by decide) (fun c8 => ?_) (fun c8 => ?_)
      · refine mW_iload_n (j := 3) dX11_found_55 rfl rfl ?_
        refine mW_iconst (v := 3) dX11_found_56 (by decide) ?_
        refine mW_icmp_ne (tgt := 69) dX11_found_57 (by decide) (fun c9 => ?_) (fun c9 => ?_)
        · refine mW_aload_n (j := 1) dX11_found_69 rfl rfl ?_
          refine mW_getR dX11_found_70 f_X11_70 (k_sfi h1) rfl (r_sfi h4) ?_
          refine mW_iconst (v := 3) dX11_found_73 (by decide) ?_
          refine mW_iload_n (j := 0) dX11_found_74 rfl rfl ?_
          refine mW_imul dX11_found_75 ?_
          refine mW_iload_n (j := 3) dX11_found_76 rfl rfl ?_
          refine mW_iadd dX11_found_77 ?_
          refine mW_ialdJ dX11_found_78 (k_sfi h5) (s6 c1 c2 c8 c9) rfl ?_
          exact mW_iret dX11_found_79 rfl (⟨by first | with_reducible rfl | (simp only [vX11_found, sX11_found, if_pos c1, if_pos c2, if_pos c8, if_neg c9]; done) | rfl, by first | with_reducible rfl | (simp only [vX11_found, sX11_found, if_pos c1, if_pos c2, if_pos c8, if_neg c9]; done) | rfl⟩)
        · refine mW_aload_n (j := 1) dX11_found_60 rfl rfl ?_
          refine mW_getR dX11_found_61 f_X11_77 (k_sfi h1) rfl (r_sfi h6) ?_
          refine mW_iload_n (j := 0) dX11_found_64 rfl rfl ?_
          refine mW_ialdJ dX11_found_65 (k_sfi h7) (s7 c1 c2 c8 c9) (j := 0) (by decide) ?_
          refine mW_goto (tgt := 79) dX11_found_66 (by decide) ?_
          exact mW_iret dX11_found_79 rfl (⟨by first | with_reducible rfl | (simp only [vX11_found, sX11_found, if_pos c1, if_pos c2, if_pos c8, if_pos c9]; done) | rfl, by first | with_reducible rfl | (simp only [vX11_found, sX11_found, if_pos c1, if_pos c2, if_pos c8, if_pos c9]; done) | rfl⟩)
      · refine mW_iconst (v := 0) dX11_found_51 (by decide) ?_
        refine mW_goto (tgt := 79) dX11_found_52 (by decide) ?_
        exact mW_iret dX11_found_79 rfl (⟨by first | with_reducible rfl | (simp only [vX11_found, sX11_found, if_pos c1, if_pos c2, if_neg c8]; done) | rfl, by first | with_reducible rfl | (simp only [vX11_found, sX11_found, if_pos c1, if_pos c2, if_neg c8]; done) | rfl⟩)
  · refine mW_iconst (v := 1) dX11_found_4 (by decide) ?_
    refine mW_goto (tgt := 9) dX11_found_5 (by decide) ?_
    refine mW_istore_n (lv2 := [(3, .int 1), (0, .ref a0), (1, .int x1), (2, .int x2)]) dX11_found_9 rfl (by decide) rfl ?_
    refine mW_aload_n (j := 1) dX11_found_10 rfl rfl ?_
    refine mW_aload_n (j := 1) dX11_found_11 rfl rfl ?_
    refine mW_getR dX11_found_12 f_X11_66 h1 rfl h2 ?_
    refine mW_iload_n (j := 0) dX11_found_15 rfl rfl ?_
    refine mW_zaldJ dX11_found_16 h3 (s8 c1) (j := 1) (by decide) ?_
    refine mW_if_ne (tgt := 24) dX11_found_17 (by decide) (fun c10 => ?_) (fun c10 => ?_)
    · refine mW_iload_n (j := 3) dX11_found_24 rfl rfl ?_
      refine mW_i2l dX11_found_25 ?_
      refine mW_lconst (v := 0) dX11_found_26 (by decide) ?_
      refine mW_ldc2 (v := 3) dX11_found_27 u1957 ?_
      refine mW_callSe (As := [.long x2.toInt64, .long 0, .long 3]) (rest := [.ref a0]) (kc2 := 0) (ks2 := 0) dX11_found_30 l_X11_92 rfl (qX11_in (w := w) (y0 := x2.toInt64) (y2 := 0) (y4 := 3)) (Nat.le_of_ble_eq_true rfl) (by decide) rfl rfl ?_
      refine mW_if_eq (tgt := 40) dX11_found_33 (by decide) (fun c11 => ?_) (fun c11 => ?_)
      · refine mW_iconst (v := 2) dX11_found_40 (by decide) ?_
        refine mW_put (ty := .int) (w2 := sfi w a0 0 2) dX11_found_41 p_X11_3 h1 (Nat.le_of_ble_eq_true rfl) (by first | rfl | decide | (repeat' split) <;> rfl) rfl (hN_sfi _ _ _ _) (hk_sfi _ _ _ _) (mE_sfi h1 (by decide) (ob_11_0 _ _ _)) ?_
        refine mW_aload_n (j := 1) dX11_found_44 rfl rfl ?_
        refine mW_get dX11_found_45 f_X11_3 (k_sfi h1) rfl ?_
        refine mW_if_eq (tgt := 55) dX11_found_48 (by decide) (fun c12 => ?_) (fun c12 => ?_)
        · refine mW_iload_n (j := 3) dX11_found_55 rfl rfl ?_
          refine mW_iconst (v := 3) dX11_found_56 (by decide) ?_
          refine mW_icmp_ne (tgt := 69) dX11_found_57 (by decide) (fun c13 => ?_) (fun c13 => ?_)
          · refine mW_aload_n (j := 1) dX11_found_69 rfl rfl ?_
            refine mW_getR dX11_found_70 f_X11_70 (k_sfi h1) rfl (r_sfi h4) ?_
            refine mW_iconst (v := 3) dX11_found_73 (by decide) ?_
            refine mW_iload_n (j := 0) dX11_found_74 rfl rfl ?_
            refine mW_imul dX11_found_75 ?_
            refine mW_iload_n (j := 3) dX11_found_76 rfl rfl ?_
            refine mW_iadd dX11_found_77 ?_
            refine mW_ialdJ dX11_found_78 (k_sfi h5) (s9 c1 c10 c11 c12 c13) rfl ?_
            exact mW_iret dX11_found_79 rfl (⟨by first | with_reducible rfl | (simp only [vX11_found, sX11_found, if_neg c1, if_neg c10, if_pos c11, if_pos c12, if_neg c13]; done) | rfl, by first | with_reducible rfl | (simp only [vX11_found, sX11_found, if_neg c1, if_neg c10, if_pos c11, if_pos c12, if_neg c13]; done) | rfl⟩)
          · refine mW_aload_n (j := 1) dX11_found_60 rfl rfl ?_
            refine mW_getR dX11_found_61 f_X11_77 (k_sfi h1) rfl (r_sfi h6) ?_
            refine mW_iload_n (j := 0) dX11_found_64 rfl rfl ?_
            refine mW_ialdJ dX11_found_65 (k_sfi h7) (s10 c1 c10 c11 c12 c13) (j := 1) (by decide) ?_
            refine mW_goto (tgt := 79) dX11_found_66 (by decide) ?_
            exact mW_iret dX11_found_79 rfl (⟨by first | with_reducible rfl | (simp only [vX11_found, sX11_found, if_neg c1, if_neg c10, if_pos c11, if_pos c12, if_pos c13]; done) | rfl, by first | with_reducible rfl | (simp only [vX11_found, sX11_found, if_neg c1, if_neg c10, if_pos c11, if_pos c12, if_pos c13]; done) | rfl⟩)
        · refine mW_iconst (v := 0) dX11_found_51 (by decide) ?_
          refine mW_goto (tgt := 79) dX11_found_52 (by decide) ?_
          exact mW_iret dX11_found_79 rfl (⟨by first | with_reducible rfl | (simp only [vX11_found, sX11_found, if_neg c1, if_neg c10, if_pos c11, if_neg c12]; done) | rfl, by first | with_reducible rfl | (simp only [vX11_found, sX11_found, if_neg c1, if_neg c10, if_pos c11, if_neg c12]; done) | rfl⟩)
      · refine mW_iconst (v := 0) dX11_found_36 (by decide) ?_
        refine mW_goto (tgt := 41) dX11_found_37 (by decide) ?_
        refine mW_put (ty := .int) (w2 := sfi w a0 0 0) dX11_found_41 p_X11_3 h1 (Nat.le_of_ble_eq_true rfl) (by first | rfl | decide | (repeat' split) <;> rfl) rfl (hN_sfi _ _ _ _) (hk_sfi _ _ _ _) (mE_sfi h1 (by decide) (ob_11_0 _ _ _)) ?_
        refine mW_aload_n (j := 1) dX11_found_44 rfl rfl ?_
        refine mW_get dX11_found_45 f_X11_3 (k_sfi h1) rfl ?_
        refine mW_if_eq (tgt := 55) dX11_found_48 (by decide) (fun c14 => ?_) (fun c14 => ?_)
        · refine mW_iload_n (j := 3) dX11_found_55 rfl rfl ?_
          refine mW_iconst (v := 3) dX11_found_56 (by decide) ?_
          refine mW_icmp_ne (tgt := 69) dX11_found_57 (by decide) (fun c15 => ?_) (fun c15 => ?_)
          · refine mW_aload_n (j := 1) dX11_found_69 rfl rfl ?_
            refine mW_getR dX11_found_70 f_X11_70 (k_sfi h1) rfl (r_sfi h4) ?_
            refine mW_iconst (v := 3) dX11_found_73 (by decide) ?_
            refine mW_iload_n (j := 0) dX11_found_74 rfl rfl ?_
            refine mW_imul dX11_found_75 ?_
            refine mW_iload_n (j := 3) dX11_found_76 rfl rfl ?_
            refine mW_iadd dX11_found_77 ?_
            refine mW_ialdJ dX11_found_78 (k_sfi h5) (s11 c1 c10 c11 c14 c15) rfl ?_
            exact mW_iret dX11_found_79 rfl (⟨by first | with_reducible rfl | (simp only [vX11_found, sX11_found, if_neg c1, if_neg c10, if_neg c11, if_pos c14, if_neg c15]; done) | rfl, by first | with_reducible rfl | (simp only [vX11_found, sX11_found, if_neg c1, if_neg c10, if_neg c11, if_pos c14, if_neg c15]; done) | rfl⟩)
          · refine mW_aload_n (j := 1) dX11_found_60 rfl rfl ?_
            refine mW_getR dX11_found_61 f_X11_77 (k_sfi h1) rfl (r_sfi h6) ?_
            refine mW_iload_n (j := 0) dX11_found_64 rfl rfl ?_
            refine mW_ialdJ dX11_found_65 (k_sfi h7) (s12 c1 c10 c11 c14 c15) (j := 1) (by decide) ?_
            refine mW_goto (tgt := 79) dX11_found_66 (by decide) ?_
            exact mW_iret dX11_found_79 rfl (⟨by first | with_reducible rfl | (simp only [vX11_found, sX11_found, if_neg c1, if_neg c10, if_neg c11, if_pos c14, if_pos c15]; done) | rfl, by first | with_reducible rfl | (simp only [vX11_found, sX11_found, if_neg c1, if_neg c10, if_neg c11, if_pos c14, if_pos c15]; done) | rfl⟩)
        · refine mW_iconst (v := 0) dX11_found_51 (by decide) ?_
          refine mW_goto (tgt := 79) dX11_found_52 (by decide) ?_
          exact mW_iret dX11_found_79 rfl (⟨by first | with_reducible rfl | (simp only [vX11_found, sX11_found, if_neg c1, if_neg c10, if_neg c11, if_neg c14]; done) | rfl, by first | with_reducible rfl | (simp only [vX11_found, sX11_found, if_neg c1, if_neg c10, if_neg c11, if_neg c14]; done) | rfl⟩)
    · refine mW_iconst (v := 1) dX11_found_20 (by decide) ?_
      refine mW_goto (tgt := 41) dX11_found_21 (by decide) ?_
      refine mW_put (ty := .int) (w2 := sfi w a0 0 1) dX11_found_41 p_X11_3 h1 (Nat.le_of_ble_eq_true rfl) (by first | rfl | decide | (repeat' split) <;> rfl) rfl (hN_sfi _ _ _ _) (hk_sfi _ _ _ _) (mE_sfi h1 (by decide) (ob_11_0 _ _ _)) ?_
      refine mW_aload_n (j := 1) dX11_found_44 rfl rfl ?_
      refine mW_get dX11_found_45 f_X11_3 (k_sfi h1) rfl ?_
      refine mW_if_eq (tgt := 55) dX11_found_48 (by decide) (fun c16 => ?_) (fun c16 => ?_)
      · refine mW_iload_n (j := 3) dX11_found_55 rfl rfl ?_
        refine mW_iconst (v := 3) dX11_found_56 (by decide) ?_
        refine mW_icmp_ne (tgt := 69) dX11_found_57 (by decide) (fun c17 => ?_) (fun c17 => ?_)
        · refine mW_aload_n (j := 1) dX11_found_69 rfl rfl ?_
          refine mW_getR dX11_found_70 f_X11_70 (k_sfi h1) rfl (r_sfi h4) ?_
          refine mW_iconst (v := 3) dX11_found_73 (by decide) ?_
          refine mW_iload_n (j := 0) dX11_found_74 rfl rfl ?_
          refine mW_imul dX11_found_75 ?_
          refine mW_iload_n (j := 3) dX11_found_76 rfl rfl ?_
          refine mW_iadd dX11_found_77 ?_
          refine mW_ialdJ dX11_found_78 (k_sfi h5) (s13 c1 c10 c16 c17) rfl ?_
          exact mW_iret dX11_found_79 rfl (⟨by first | with_reducible rfl | (simp only [vX11_found, sX11_found, if_neg c1, if_pos c10, if_pos c16, if_neg c17]; done) | rfl, by first | with_reducible rfl | (simp only [vX11_found, sX11_found, if_neg c1, if_pos c10, if_pos c16, if_neg c17]; done) | rfl⟩)
        · refine mW_aload_n (j := 1) dX11_found_60 rfl rfl ?_
          refine mW_getR dX11_found_61 f_X11_77 (k_sfi h1) rfl (r_sfi h6) ?_
          refine mW_iload_n (j := 0) dX11_found_64 rfl rfl ?_
          refine mW_ialdJ dX11_found_65 (k_sfi h7) (s14 c1 c10 c16 c17) (j := 1) (by decide) ?_
          refine mW_goto (tgt := 79) dX11_found_66 (by decide) ?_
          exact mW_iret dX11_found_79 rfl (⟨by first | with_reducible rfl | (simp only [vX11_found, sX11_found, if_neg c1, if_pos c10, if_pos c16, if_pos c17]; done) | rfl, by first | with_reducible rfl | (simp only [vX11_found, sX11_found, if_neg c1, if_pos c10, if_pos c16, if_pos c17]; done) | rfl⟩)
      · refine mW_iconst (v := 0) dX11_found_51 (by decide) ?_
        refine mW_goto (tgt := 79) dX11_found_52 (by decide) ?_
        exact mW_iret dX11_found_79 rfl (⟨by first | with_reducible rfl | (simp only [vX11_found, sX11_found, if_neg c1, if_pos c10, if_neg c16]; done) | rfl, by first | with_reducible rfl | (simp only [vX11_found, sX11_found, if_neg c1, if_pos c10, if_neg c16]; done) | rfl⟩)
def vX11_foundCost (w : mH) (a0 : Nat) (x1 : Int32) (a0_31 : Nat) (a0_33 : Nat) : Int64 := (if x1 = 0 then (if (hai w a0_31 0) = 0 then (if (hfi (sfi w a0 0 1) a0 0) = 0 then (hal (sfi w a0 0 1) a0_33 0) else 0) else (if (hfi (sfi w a0 0 0) a0 0) = 0 then (hal (sfi w a0 0 0) a0_33 0) else 0)) else (if (hai w a0_31 1) = 0 then (if (hfi (sfi w a0 0 1) a0 0) = 0 then (hal (sfi w a0 0 1) a0_33 1) else 0) else (if (hfi (sfi w a0 0 0) a0 0) = 0 then (hal (sfi w a0 0 0) a0_33 1) else 0)))
def sX11_foundCost (w : mH) (a0 : Nat) (x1 : Int32) (a0_31 : Nat) : mH := (if x1 = 0 then (if (hai w a0_31 0) = 0 then (sfi w a0 0 1) else (sfi w a0 0 0)) else (if (hai w a0_31 1) = 0 then (sfi w a0 0 1) else (sfi w a0 0 0)))
theorem kkX11_foundCost {w : mH} {a0 : Nat} {x1 : Int32} {a0_31 : Nat} : hk (sX11_foundCost w a0 x1 a0_31) = hk w := by unfold sX11_foundCost; simp only [apply_ite hk, e_hk_sfi, e_hk_sfl, e_hk_sai, e_hk_sal, e_hk_sax, ite_self]
theorem rrX11_foundCost {w : mH} {a0 : Nat} {x1 : Int32} {a0_31 : Nat} : hfr (sX11_foundCost w a0 x1 a0_31) = hfr w := by unfold sX11_foundCost; simp only [apply_ite hfr, e_hfr_sfi, e_hfr_sfl, e_hfr_sai, e_hfr_sal, e_hfr_sax, ite_self]
set_option maxHeartbeats 4000000 in
set_option maxRecDepth 100000 in
theorem qX11_foundCost {G : mG} {w : mH} {a0 : Nat} {x1 : Int32} {a0_31 n_a0_31 a0_33 n_a0_33 : Nat} (h1 : hk w a0 = (11, 0)) (h2 : hfr w a0 31 = some a0_31) (h3 : hk w a0_31 = (20, n_a0_31)) (s1 : (x1 = 0) → vp_in 0 n_a0_31) (h4 : hfr w a0 33 = some a0_33) (h5 : hk w a0_33 = (17, n_a0_33)) (s2 : (x1 = 0) → ((hai w a0_31 0) = 0) → ((hfi (sfi w a0 0 1) a0 0) = 0) → vp_in 0 n_a0_33) (s3 : (x1 = 0) → (¬ ((hai w a0_31 0) = 0)) → ((hfi (sfi w a0 0 0) a0 0) = 0) → vp_in 0 n_a0_33) (s4 : (¬ (x1 = 0)) → vp_in 1 n_a0_31) (s5 : (¬ (x1 = 0)) → ((hai w a0_31 1) = 0) → ((hfi (sfi w a0 0 1) a0 0) = 0) → vp_in 1 n_a0_33) (s6 : (¬ (x1 = 0)) → (¬ ((hai w a0_31 1) = 0)) → ((hfi (sfi w a0 0 0) a0 0) = 0) → vp_in 1 n_a0_33) : mC G mX11_foundCost 1 0 0 [.ref a0, .int x1] w (mEq (.inl (some (.long (vX11_foundCost w a0 x1 a0_31 a0_33)))) (sX11_foundCost w a0 x1 a0_31)) := by
  refine mC_of (by decide +kernel) rfl (Nat.le_of_ble_eq_true rfl) rfl ?_
  refine mW_iload_n (j := 1) dX11_foundCost_0 rfl rfl ?_
  refine mW_if_eq (tgt := 8) dX11_foundCost_1 (by decide) (fun c1 => ?_) (fun c1 => ?_)
  · refine mW_iconst (v := 0) dX11_foundCost_8 (by decide) ?_
    refine mW_istore_n (lv2 := [(2, .int 0), (0, .ref a0), (1, .int x1)]) dX11_foundCost_9 rfl (by decide) rfl ?_
    refine mW_aload_n (j := 1) dX11_foundCost_10 rfl rfl ?_
    refine mW_aload_n (j := 1) dX11_foundCost_11 rfl rfl ?_
    refine mW_getR dX11_foundCost_12 f_X11_66 h1 rfl h2 ?_
    refine mW_iload_n (j := 0) dX11_foundCost_15 rfl rfl ?_
    refine mW_zaldJ dX11_foundCost_16 h3 (s1 c1) (j := 0) (by decide) ?_
    refine mW_if_eq (tgt := 24) dX11_foundCost_17 (by decide) (fun c2 => ?_) (fun c2 => ?_)
    · refine mW_iconst (v := 1) dX11_foundCost_24 (by decide) ?_
      refine mW_put (ty := .int) (w2 := sfi w a0 0 1) dX11_foundCost_25 p_X11_3 h1 (Nat.le_of_ble_eq_true rfl) (by first | rfl | decide | (repeat' split) <;> rfl) rfl (hN_sfi _ _ _ _) (hk_sfi _ _ _ _) (mE_sfi h1 (by decide) (ob_11_0 _ _ _)) ?_
      refine mW_aload_n (j := 1) dX11_foundCost_28 rfl rfl ?_
      refine mW_get dX11_foundCost_29 f_X11_3 (k_sfi h1) rfl ?_
      refine mW_if_ne (tgt := 44) dX11_foundCost_32 (by decide) (fun c3 => ?_) (fun c3 => ?_)
      · refine mW_lconst (v := 0) dX11_foundCost_44 (by decide) ?_
        exact mW_lret dX11_foundCost_45 rfl (⟨by first | with_reducible rfl | (simp only [vX11_foundCost, sX11_foundCost, if_pos c1, if_pos c2, if_neg c3]; done) | rfl, by first | with_reducible rfl | (simp only [vX11_foundCost, sX11_foundCost, if_pos c1, if_pos c2, if_neg c3]; done) | rfl⟩)
      · refine mW_aload_n (j := 1) dX11_foundCost_35 rfl rfl ?_
        refine mW_getR dX11_foundCost_36 f_X11_73 (k_sfi h1) rfl (r_sfi h4) ?_
        refine mW_iload_n (j := 0) dX11_foundCost_39 rfl rfl ?_
        refine mW_laldJ dX11_foundCost_40 (k_sfi h5) (s2 c1 c2 c3) (j := 0) (by decide) ?_
        refine mW_goto (tgt := 45) dX11_foundCost_41 (by decide) ?_
        exact mW_lret dX11_foundCost_45 rfl (⟨by first | with_reducible rfl | (simp only [vX11_foundCost, sX11_foundCost, if_pos c1, if_pos c2, if_pos c3]; done) | rfl, by first | with_reducible rfl | (simp only [vX11_foundCost, sX11_foundCost, if_pos c1, if_pos c2, if_pos c3]; done) | rfl⟩)
    · refine mW_iconst (v := 0) dX11_foundCost_20 (by decide) ?_
      refine mW_goto (tgt := 25) dX11_foundCost_21 (by decide) ?_
      refine mW_put (ty := .int) (w2 := sfi w a0 0 0) dX11_foundCost_25 p_X11_3 h1 (Nat.le_of_ble_eq_true rfl) (by first | rfl | decide | (repeat' split) <;> rfl) rfl (hN_sfi _ _ _ _) (hk_sfi _ _ _ _) (mE_sfi h1 (by decide) (ob_11_0 _ _ _)) ?_
      refine mW_aload_n (j := 1) dX11_foundCost_28 rfl rfl ?_
      refine mW_get dX11_foundCost_29 f_X11_3 (k_sfi h1) rfl ?_
      refine mW_if_ne (tgt := 44) dX11_foundCost_32 (by decide) (fun c4 => ?_) (fun c4 => ?_)
      · refine mW_lconst (v := 0) dX11_foundCost_44 (by decide) ?_
        exact mW_lret dX11_foundCost_45 rfl (⟨by first | with_reducible rfl | (simp only [vX11_foundCost, sX11_foundCost, if_pos c1, if_neg c2, if_neg c4]; done) | rfl, by first | with_reducible rfl | (simp only [vX11_foundCost, sX11_foundCost, if_pos c1, if_neg c2, if_neg c4]; done) | rfl⟩)
      · refine mW_aload_n (j := 1) dX11_foundCost_35 rfl rfl ?_
        refine mW_getR dX11_foundCost_36 f_X11_73 (k_sfi h1) rfl (r_sfi h4) ?_
        refine mW_iload_n (j := 0) dX11_foundCost_39 rfl rfl ?_
        refine mW_laldJ dX11_foundCost_40 (k_sfi h5) (s3 c1 c2 c4) (j := 0) (by decide) ?_
        refine mW_goto (tgt := 45) dX11_foundCost_41 (by decide) ?_
        exact mW_lret dX11_foundCost_45 rfl (⟨by first | with_reducible rfl | (simp only [vX11_foundCost, sX11_foundCost, if_pos c1, if_neg c2, if_pos c4]; done) | rfl, by first | with_reducible rfl | (simp only [vX11_foundCost, sX11_foundCost, if_pos c1, if_neg c2, if_pos c4]; done) | rfl⟩)
  · refine mW_iconst (v := 1) dX11_foundCost_4 (by decide) ?_
    refine mW_goto (tgt := 9) dX11_foundCost_5 (by decide) ?_
    refine mW_istore_n (lv2 := [(2, .int 1), (0, .ref a0), (1, .int x1)]) dX11_foundCost_9 rfl (by decide) rfl ?_
    refine mW_aload_n (j := 1) dX11_foundCost_10 rfl rfl ?_
    refine mW_aload_n (j := 1) dX11_foundCost_11 rfl rfl ?_
    refine mW_getR dX11_foundCost_12 f_X11_66 h1 rfl h2 ?_
    refine mW_iload_n (j := 0) dX11_foundCost_15 rfl rfl ?_
    refine mW_zaldJ dX11_foundCost_16 h3 (s4 c1) (j := 1) (by decide) ?_
    refine mW_if_eq (tgt := 24) dX11_foundCost_17 (by decide) (fun c5 => ?_) (fun c5 => ?_)
    · refine mW_iconst (v := 1) dX11_foundCost_24 (by decide) ?_
      refine mW_put (ty := .int) (w2 := sfi w a0 0 1) dX11_foundCost_25 p_X11_3 h1 (Nat.le_of_ble_eq_true rfl) (by first | rfl | decide | (repeat' split) <;> rfl) rfl (hN_sfi _ _ _ _) (hk_sfi _ _ _ _) (mE_sfi h1 (by decide) (ob_11_0 _ _ _)) ?_
      refine mW_aload_n (j := 1) dX11_foundCost_28 rfl rfl ?_
      refine mW_get dX11_foundCost_29 f_X11_3 (k_sfi h1) rfl ?_
      refine mW_if_ne (tgt := 44) dX11_foundCost_32 (by decide) (fun c6 => ?_) (fun c6 => ?_)
      · refine mW_lconst (v := 0) dX11_foundCost_44 (by decide) ?_
        exact mW_lret dX11_foundCost_45 rfl (⟨by first | with_reducible rfl | (simp only [vX11_foundCost, sX11_foundCost, if_neg c1, if_pos c5, if_neg c6]; done) | rfl, by first | with_reducible rfl | (simp only [vX11_foundCost, sX11_foundCost, if_neg c1, if_pos c5, if_neg c6]; done) | rfl⟩)
      · refine mW_aload_n (j := 1) dX11_foundCost_35 rfl rfl ?_
        refine mW_getR dX11_foundCost_36 f_X11_73 (k_sfi h1) rfl (r_sfi h4) ?_
        refine mW_iload_n (j := 0) dX11_foundCost_39 rfl rfl ?_
        refine mW_laldJ dX11_foundCost_40 (k_sfi h5) (s5 c1 c5 c6) (j := 1) (by decide) ?_
        refine mW_goto (tgt := 45) dX11_foundCost_41 (by decide) ?_
        exact mW_lret dX11_foundCost_45 rfl (⟨by first | with_reducible rfl | (simp only [vX11_foundCost, sX11_foundCost, if_neg c1, if_pos c5, if_pos c6]; done) | rfl, by first | with_reducible rfl | (simp only [vX11_foundCost, sX11_foundCost, if_neg c1, if_pos c5, if_pos c6]; done) | rfl⟩)
    · refine mW_iconst (v := 0) dX11_foundCost_20 (by decide) ?_
      refine mW_goto (tgt := 25) dX11_foundCost_21 (by decide) ?_
      refine mW_put (ty := .int) (w2 := sfi w a0 0 0) dX11_foundCost_25 p_X11_3 h1 (Nat.le_of_ble_eq_true rfl) (by first | rfl | decide | (repeat' split) <;> rfl) rfl (hN_sfi _ _ _ _) (hk_sfi _ _ _ _) (mE_sfi h1 (by decide) (ob_11_0 _ _ _)) ?_
      refine mW_aload_n (j := 1) dX11_foundCost_28 rfl rfl ?_
      refine mW_get dX11_foundCost_29 f_X11_3 (k_sfi h1) rfl ?_
      refine mW_if_ne (tgt := 44) dX11_foundCost_32 (by decide) (fun c7 => ?_) (fun c7 => ?_)
      · refine mW_lconst (v := 0) dX11_foundCost_44 (by decide) ?_
        exact mW_lret dX11_foundCost_45 rfl (⟨by first | with_reducible rfl | (simp only [vX11_foundCost, sX11_foundCost, if_neg c1, if_neg c5, if_neg c7]; done) | rfl, by first | with_reducible rfl | (simp only [vX11_foundCost, sX11_foundCost, if_neg c1, if_neg c5, if_neg c7]; done) | rfl⟩)
      · refine mW_aload_n (j := 1) dX11_foundCost_35 rfl rfl ?_
        refine mW_getR dX11_foundCost_36 f_X11_73 (k_sfi h1) rfl (r_sfi h4) ?_
        refine mW_iload_n (j := 0) dX11_foundCost_39 rfl rfl ?_
        refine mW_laldJ dX11_foundCost_40 (k_sfi h5) (s6 c1 c5 c7) (j := 1) (by decide) ?_
        refine mW_goto (tgt := 45) dX11_foundCost_41 (by decide) ?_
        exact mW_lret dX11_foundCost_45 rfl (⟨by first | with_reducible rfl | (simp only [vX11_foundCost, sX11_foundCost, if_neg c1, if_neg c5, if_pos c7]; done) | rfl, by first | with_reducible rfl | (simp only [vX11_foundCost, sX11_foundCost, if_neg c1, if_neg c5, if_pos c7]; done) | rfl⟩)
def vX1_gainAt (w : mH) (x1 : Int32) (x2 : Int32) (a0_0 : Nat) (a0_1 : Nat) : Int32 := (if (vX10_isWithin x1 0 2) = 0 then 0 else ((hai w a0_0 x1.toNatClampNeg) + ((hai w a0_1 x1.toNatClampNeg) * x2)))
set_option maxHeartbeats 4000000 in
set_option maxRecDepth 100000 in
theorem qX1_gainAt {G : mG} {w : mH} {a0 : Nat} {x1 x2 : Int32} {a0_0 n_a0_0 a0_1 n_a0_1 : Nat} (h1 : hk w a0 = (1, 0)) (h2 : hfr w a0 0 = some a0_0) (h3 : hk w a0_0 = (16, n_a0_0)) (s1 : (¬ ((vX10_isWithin x1 0 2) = 0)) → vp_in x1 n_a0_0) (h4 : hfr w a0 1 = some a0_1) (h5 : hk w a0_1 = (16, n_a0_1)) (s2 : (¬ ((vX10_isWithin x1 0 2) = 0)) → vp_in x1 n_a0_1) : mC G mX1_gainAt 2 0 0 [.ref a0, .int x1, .int x2] w (mEq (.inl (some (.int (vX1_gainAt w x1 x2 a0_0 a0_1)))) w) := by
  refine mC_of (by decide +kernel) rfl (Nat.le_of_ble_eq_true rfl) rfl ?_
  refine mW_iload_n (j := 1) dX1_gainAt_0 rfl rfl ?_
  refine mW_iconst (v := 0) dX1_gainAt_1 (by decide) ?_
  refine mW_iconst (v := 2) dX1_gainAt_2 (by decide) ?_
  refine mW_callSNe (As := [.int x1, .int 0, .int 2]) (rest := []) (kc2 := 0) (ks2 := 0) dX1_gainAt_3 l_X1_21 rfl (qX10_isWithin (w := w) (x0 := x1) (x1 := 0) (x2 := 2)) (Nat.le_of_ble_eq_true rfl) (by decide) rfl rfl ?_
  refine mW_if_eq (tgt := 27) dX1_gainAt_6 (by decide) (fun c1 => ?_) (fun c1 => ?_)
  · refine mW_iconst (v := 0) dX1_gainAt_27 (by decide) ?_
    exact mW_iret dX1_gainAt_28 rfl (⟨by first | with_reducible rfl | (simp only [vX1_gainAt, if_pos c1]; done) | rfl, by first | with_reducible rfl | (simp only [vX1_gainAt, if_pos c1]; done) | rfl⟩)
  · refine mW_aload_n (j := 0) dX1_gainAt_9 rfl rfl ?_
    refine mW_getR dX1_gainAt_10 f_X1_9 h1 rfl h2 ?_
    refine mW_iload_n (j := 1) dX1_gainAt_13 rfl rfl ?_
    refine mW_ialdJ dX1_gainAt_14 h3 (s1 c1) rfl ?_
    refine mW_aload_n (j := 0) dX1_gainAt_15 rfl rfl ?_
    refine mW_getR dX1_gainAt_16 f_X1_15 h1 rfl h4 ?_
    refine mW_iload_n (j := 1) dX1_gainAt_19 rfl rfl ?_
    refine mW_ialdJ dX1_gainAt_20 h5 (s2 c1) rfl ?_
    refine mW_iload_n (j := 2) dX1_gainAt_21 rfl rfl ?_
    refine mW_imul dX1_gainAt_22 ?_
    refine mW_iadd dX1_gainAt_23 ?_
    refine mW_goto (tgt := 28) dX1_gainAt_24 (by decide) ?_
    exact mW_iret dX1_gainAt_28 rfl (⟨by first | with_reducible rfl | (simp only [vX1_gainAt, if_neg c1]; done) | rfl, by first | with_reducible rfl | (simp only [vX1_gainAt, if_neg c1]; done) | rfl⟩)
def sX1_takeOver (w : mH) (a1_0 : Nat) (a0_0 : Nat) (n_a1_0 : Nat) (n_a0_0 : Nat) (a1_1 : Nat) (a0_1 : Nat) (n_a1_1 : Nat) (n_a0_1 : Nat) (a1_2 : Nat) (a0_2 : Nat) (n_a1_2 : Nat) (n_a0_2 : Nat) : mH := (sX10_copyRow (sX10_copyRow (sX10_copyRow w a1_0 a0_0 n_a1_0 n_a0_0) a1_1 a0_1 n_a1_1 n_a0_1) a1_2 a0_2 n_a1_2 n_a0_2)
theorem kkX1_takeOver {w : mH} {a1_0 : Nat} {a0_0 : Nat} {n_a1_0 : Nat} {n_a0_0 : Nat} {a1_1 : Nat} {a0_1 : Nat} {n_a1_1 : Nat} {n_a0_1 : Nat} {a1_2 : Nat} {a0_2 : Nat} {n_a1_2 : Nat} {n_a0_2 : Nat} : hk (sX1_takeOver w a1_0 a0_0 n_a1_0 n_a0_0 a1_1 a0_1 n_a1_1 n_a0_1 a1_2 a0_2 n_a1_2 n_a0_2) = hk w := by unfold sX1_takeOver; simp only [apply_ite hk, e_hk_sfi, e_hk_sfl, e_hk_sai, e_hk_sal, e_hk_sax, ite_self, @kkX10_copyRow]
theorem rrX1_takeOver {w : mH} {a1_0 : Nat} {a0_0 : Nat} {n_a1_0 : Nat} {n_a0_0 : Nat} {a1_1 : Nat} {a0_1 : Nat} {n_a1_1 : Nat} {n_a0_1 : Nat} {a1_2 : Nat} {a0_2 : Nat} {n_a1_2 : Nat} {n_a0_2 : Nat} : hfr (sX1_takeOver w a1_0 a0_0 n_a1_0 n_a0_0 a1_1 a0_1 n_a1_1 n_a0_1 a1_2 a0_2 n_a1_2 n_a0_2) = hfr w := by unfold sX1_takeOver; simp only [apply_ite hfr, e_hfr_sfi, e_hfr_sfl, e_hfr_sai, e_hfr_sal, e_hfr_sax, ite_self, @rrX10_copyRow]
set_option maxHeartbeats 4000000 in
set_option maxRecDepth 100000 in
theorem qX1_takeOver {G : mG} {w : mH} {a0 a1 a1_0 a0_0 n_a1_0 n_a0_0 a1_1 a0_1 n_a1_1 n_a0_1 a1_2 a0_2 n_a1_2 n_a0_2 : Nat} (h1 : hk w a1 = (1, 0)) (h2 : hfr w a1 0 = some a1_0) (h3 : hk w a0 = (1, 0)) (h4 : hfr w a0 0 = some a0_0) (h5 : hk w a1_0 = (16, n_a1_0)) (h6 : hk w a0_0 = (16, n_a0_0)) (s1 : ¬ (iMin (nI n_a1_0) (nI n_a0_0)) < 0) (s2 : (0 : Int32).toNatClampNeg + (iMin (nI n_a1_0) (nI n_a0_0)).toNatClampNeg ≤ n_a1_0) (s3 : (0 : Int32).toNatClampNeg + (iMin (nI n_a1_0) (nI n_a0_0)).toNatClampNeg ≤ n_a0_0) (h7 : hfr w a1 1 = some a1_1) (h8 : hfr w a0 1 = some a0_1) (h9 : hk w a1_1 = (16, n_a1_1)) (h10 : hk w a0_1 = (16, n_a0_1)) (s4 : ¬ (iMin (nI n_a1_1) (nI n_a0_1)) < 0) (s5 : (0 : Int32).toNatClampNeg + (iMin (nI n_a1_1) (nI n_a0_1)).toNatClampNeg ≤ n_a1_1) (s6 : (0 : Int32).toNatClampNeg + (iMin (nI n_a1_1) (nI n_a0_1)).toNatClampNeg ≤ n_a0_1) (h11 : hfr w a1 2 = some a1_2) (h12 : hfr w a0 2 = some a0_2) (h13 : hk w a1_2 = (16, n_a1_2)) (h14 : hk w a0_2 = (16, n_a0_2)) (s7 : ¬ (iMin (nI n_a1_2) (nI n_a0_2)) < 0) (s8 : (0 : Int32).toNatClampNeg + (iMin (nI n_a1_2) (nI n_a0_2)).toNatClampNeg ≤ n_a1_2) (s9 : (0 : Int32).toNatClampNeg + (iMin (nI n_a1_2) (nI n_a0_2)).toNatClampNeg ≤ n_a0_2) : mC G mX1_takeOver 2 0 0 [.ref a0, .ref a1] w (mEq (.inl none) (sX1_takeOver w a1_0 a0_0 n_a1_0 n_a0_0 a1_1 a0_1 n_a1_1 n_a0_1 a1_2 a0_2 n_a1_2 n_a0_2)) := by
  refine mC_of (by decide +kernel) rfl (Nat.le_of_ble_eq_true rfl) rfl ?_
  refine mW_aload_n (j := 1) dX1_takeOver_0 rfl rfl ?_
  refine mW_getR dX1_takeOver_1 f_X1_9 h1 rfl h2 ?_
  refine mW_aload_n (j := 0) dX1_takeOver_4 rfl rfl ?_
  refine mW_getR dX1_takeOver_5 f_X1_9 h3 rfl h4 ?_
  refine mW_callSNe (As := [.ref a1_0, .ref a0_0]) (rest := []) (kc2 := 0) (ks2 := 0) dX1_takeOver_8 l_X1_25 rfl (qX10_copyRow (w := w) (a0 := a1_0) (a1 := a0_0) h5 h6 s1 s2 s3) (Nat.le_of_ble_eq_true rfl) (by decide) rfl rfl ?_
  refine mW_aload_n (j := 1) dX1_takeOver_11 rfl rfl ?_
  refine mW_getR dX1_takeOver_12 f_X1_15 (k_eq (kkX10_copyRow) h1) rfl (r_eq (rrX10_copyRow) h7) ?_
  refine mW_aload_n (j := 0) dX1_takeOver_15 rfl rfl ?_
  refine mW_getR dX1_takeOver_16 f_X1_15 (k_eq (kkX10_copyRow) h3) rfl (r_eq (rrX10_copyRow) h8) ?_
  refine mW_callSNe (As := [.ref a1_1, .ref a0_1]) (rest := []) (kc2 := 0) (ks2 := 0) dX1_takeOver_19 l_X1_25 rfl (qX10_copyRow (w := sX10_copyRow w a1_0 a0_0 n_a1_0 n_a0_0) (a0 := a1_1) (a1 := a0_1) (k_eq (kkX10_copyRow) h9) (k_eq (kkX10_copyRow) h10) s4 s5 s6) (Nat.le_of_ble_eq_true rfl) (by decide) rfl rfl ?_
  refine mW_aload_n (j := 1) dX1_takeOver_22 rfl rfl ?_
  refine mW_getR dX1_takeOver_23 f_X1_18 (k_eq (kkX10_copyRow) (k_eq (kkX10_copyRow) h1)) rfl (r_eq (rrX10_copyRow) (r_eq (rrX10_copyRow) h11)) ?_
  refine mW_aload_n (j := 0) dX1_takeOver_26 rfl rfl ?_
  refine mW_getR dX1_takeOver_27 f_X1_18 (k_eq (kkX10_copyRow) (k_eq (kkX10_copyRow) h3)) rfl (r_eq (rrX10_copyRow) (r_eq (rrX10_copyRow) h12)) ?_
  refine mW_callSNe (As := [.ref a1_2, .ref a0_2]) (rest := []) (kc2 := 0) (ks2 := 0) dX1_takeOver_30 l_X1_25 rfl (qX10_copyRow (w := sX10_copyRow (sX10_copyRow w a1_0 a0_0 n_a1_0 n_a0_0) a1_1 a0_1 n_a1_1 n_a0_1) (a0 := a1_2) (a1 := a0_2) (k_eq (kkX10_copyRow) (k_eq (kkX10_copyRow) h13)) (k_eq (kkX10_copyRow) (k_eq (kkX10_copyRow) h14)) s7 s8 s9) (Nat.le_of_ble_eq_true rfl) (by decide) rfl rfl ?_
  exact mW_vret dX1_takeOver_33 rfl (⟨by first | with_reducible rfl | (simp only [sX1_takeOver]; done) | rfl, by first | with_reducible rfl | (simp only [sX1_takeOver]; done) | rfl⟩)
def vX4_summedIntegral (w : mH) (a0 : Nat) (x1 : Int32) (a0_0 : Nat) : Int32 := (if (hai w a0_0 7) = 1 then (vX10_limited (vX10_limited ((hfi w a0 8) + x1) 1000000) (hai w a0_0 8)) else (vX10_limited ((hfi w a0 8) + x1) 1000000))
set_option maxHeartbeats 4000000 in
set_option maxRecDepth 100000 in
theorem qX4_summedIntegral {G : mG} {w : mH} {a0 : Nat} {x1 : Int32} {a0_0 n_a0_0 : Nat} (h1 : hk w a0 = (4, 0)) (h2 : hfr w a0 0 = some a0_0) (h3 : hk w a0_0 = (16, n_a0_0)) (s1 : vp_in 7 n_a0_0) (s2 : ((hai w a0_0 7) = 1) → vp_in 8 n_a0_0) : mC G mX4_summedIntegral 2 0 0 [.ref a0, .int x1] w (mEq (.inl (some (.int (vX4_summedIntegral w a0 x1 a0_0)))) w) := by
  refine mC_of (by decide +kernel) rfl (Nat.le_of_ble_eq_true rfl) rfl ?_
  refine mW_aload_n (j := 0) dX4_summedIntegral_0 rfl rfl ?_
  refine mW_get dX4_summedIntegral_1 f_X4_49 h1 rfl ?_
  refine mW_iload_n (j := 1) dX4_summedIntegral_4 rfl rfl ?_
  refine mW_iadd dX4_summedIntegral_5 ?_
  refine mW_ldc (v := 1000000) dX4_summedIntegral_6 u558 ?_
  refine mW_callSNe (As := [.int ((hfi w a0 8) + x1), .int 1000000]) (rest := []) (kc2 := 0) (ks2 := 0) dX4_summedIntegral_8 l_X4_148 rfl (qX10_limited (w := w) (x0 := (hfi w a0 8) + x1) (x1 := 1000000)) (Nat.le_of_ble_eq_true rfl) (by decide) rfl rfl ?_
  refine mW_istore_n (lv2 := [(2, .int (vX10_limited ((hfi w a0 8) + x1) 1000000)), (0, .ref a0), (1, .int x1)]) dX4_summedIntegral_11 rfl (by decide) rfl ?_
  refine mW_aload_n (j := 1) dX4_summedIntegral_12 rfl rfl ?_
  refine mW_getR dX4_summedIntegral_13 f_X4_18 h1 rfl h2 ?_
  refine mW_bipush (v := 7) dX4_summedIntegral_16 (by decide) ?_
  refine mW_ialdJ dX4_summedIntegral_18 h3 s1 (j := 7) (by decide) ?_
  refine mW_iconst (v := 1) dX4_summedIntegral_19 (by decide) ?_
  refine mW_icmp_ne (tgt := 37) dX4_summedIntegral_20 (by decide) (fun c1 => ?_) (fun c1 => ?_)
  · refine mW_iload_n (j := 0) dX4_summedIntegral_37 rfl rfl ?_
    exact mW_iret dX4_summedIntegral_38 rfl (⟨by first | with_reducible rfl | (simp only [vX4_summedIntegral, if_neg c1]; done) | rfl, by first | with_reducible rfl | (simp only [vX4_summedIntegral, if_neg c1]; done) | rfl⟩)
  · refine mW_iload_n (j := 0) dX4_summedIntegral_23 rfl rfl ?_
    refine mW_aload_n (j := 1) dX4_summedIntegral_24 rfl rfl ?_
    refine mW_getR dX4_summedIntegral_25 f_X4_18 h1 rfl h2 ?_
    refine mW_bipush (v := 8) dX4_summedIntegral_28 (by decide) ?_
    refine mW_ialdJ dX4_summedIntegral_30 h3 (s2 c1) (j := 8) (by decide) ?_
    refine mW_callSNe (As := [.int (vX10_limited ((hfi w a0 8) + x1) 1000000), .int (hai w a0_0 8)]) (rest := []) (kc2 := 0) (ks2 := 0) dX4_summedIntegral_31 l_X4_148 rfl (qX10_limited (w := w) (x0 := (vX10_limited ((hfi w a0 8) + x1) 1000000)) (x1 := hai w a0_0 8)) (Nat.le_of_ble_eq_true rfl) (by decide) rfl rfl ?_
    refine mW_goto (tgt := 38) dX4_summedIntegral_34 (by decide) ?_
    exact mW_iret dX4_summedIntegral_38 rfl (⟨by first | with_reducible rfl | (simp only [vX4_summedIntegral, if_pos c1]; done) | rfl, by first | with_reducible rfl | (simp only [vX4_summedIntegral, if_pos c1]; done) | rfl⟩)
def vX4_keptIntegral (w : mH) (a0 : Nat) (x1 : Int32) (x2 : Int32) (x3 : Int32) (a0_0 : Nat) : Int32 := (if (hai w a0_0 7) = 2 then (if (hfi w a0 10) = 0 then (if (hai w a0_0 7) = 3 then (vX10_limited (x1 - (((x3 - (hfi w a0 9)) * (hai w a0_0 9)) / 16)) 1000000) else x1) else (if x3 ≤ 0 then (if 0 ≤ x3 then x1 else (if 0 ≤ x2 then x1 else (hfi w a0 8))) else (if 0 < x2 then (hfi w a0 8) else (if 0 ≤ x3 then x1 else (if 0 ≤ x2 then x1 else (hfi w a0 8)))))) else (if (hai w a0_0 7) = 3 then (vX10_limited (x1 - (((x3 - (hfi w a0 9)) * (hai w a0_0 9)) / 16)) 1000000) else x1))
set_option maxHeartbeats 4000000 in
set_option maxRecDepth 100000 in
theorem qX4_keptIntegral {G : mG} {w : mH} {a0 : Nat} {x1 x2 x3 : Int32} {a0_0 n_a0_0 : Nat} (h1 : hk w a0 = (4, 0)) (h2 : hfr w a0 0 = some a0_0) (h3 : hk w a0_0 = (16, n_a0_0)) (s1 : vp_in 7 n_a0_0) (s2 : (¬ ((hai w a0_0 7) = 2)) → ((hai w a0_0 7) = 3) → vp_in 9 n_a0_0) (s3 : ((hai w a0_0 7) = 2) → ((hfi w a0 10) = 0) → ((hai w a0_0 7) = 3) → vp_in 9 n_a0_0) : mC G mX4_keptIntegral 2 0 0 [.ref a0, .int x1, .int x2, .int x3] w (mEq (.inl (some (.int (vX4_keptIntegral w a0 x1 x2 x3 a0_0)))) w) := by
  refine mC_of (by decide +kernel) rfl (Nat.le_of_ble_eq_true rfl) rfl ?_
  refine mW_aload_n (j := 0) dX4_keptIntegral_0 rfl rfl ?_
  refine mW_getR dX4_keptIntegral_1 f_X4_18 h1 rfl h2 ?_
  refine mW_bipush (v := 7) dX4_keptIntegral_4 (by decide) ?_
  refine mW_ialdJ dX4_keptIntegral_6 h3 s1 (j := 7) (by decide) ?_
  refine mW_iconst (v := 2) dX4_keptIntegral_7 (by decide) ?_
  refine mW_icmp_ne (tgt := 55) dX4_keptIntegral_8 (by decide) (fun c1 => ?_) (fun c1 => ?_)
  · refine mW_aload_n (j := 0) dX4_keptIntegral_55 rfl rfl ?_
    refine mW_getR dX4_keptIntegral_56 f_X4_18 h1 rfl h2 ?_
    refine mW_bipush (v := 7) dX4_keptIntegral_59 (by decide) ?_
    refine mW_ialdJ dX4_keptIntegral_61 h3 s1 (j := 7) (by decide) ?_
    refine mW_iconst (v := 3) dX4_keptIntegral_62 (by decide) ?_
    refine mW_icmp_ne (tgt := 91) dX4_keptIntegral_63 (by decide) (fun c2 => ?_) (fun c2 => ?_)
    · refine mW_iload_n (j := 1) dX4_keptIntegral_91 rfl rfl ?_
      exact mW_iret dX4_keptIntegral_92 rfl (⟨by first | with_reducible rfl | (simp only [vX4_keptIntegral, if_neg c1, if_neg c2]; done) | rfl, by first | with_reducible rfl | (simp only [vX4_keptIntegral, if_neg c1, if_neg c2]; done) | rfl⟩)
    · refine mW_iload_n (j := 1) dX4_keptIntegral_66 rfl rfl ?_
      refine mW_iload_n (j := 3) dX4_keptIntegral_67 rfl rfl ?_
      refine mW_aload_n (j := 0) dX4_keptIntegral_68 rfl rfl ?_
      refine mW_get dX4_keptIntegral_69 f_X4_52 h1 rfl ?_
      refine mW_isub dX4_keptIntegral_72 ?_
      refine mW_aload_n (j := 0) dX4_keptIntegral_73 rfl rfl ?_
      refine mW_getR dX4_keptIntegral_74 f_X4_18 h1 rfl h2 ?_
      refine mW_bipush (v := 9) dX4_keptIntegral_77 (by decide) ?_
      refine mW_ialdJ dX4_keptIntegral_79 h3 (s2 c1 c2) (j := 9) (by decide) ?_
      refine mW_imul dX4_keptIntegral_80 ?_
      refine mW_bipush (v := 16) dX4_keptIntegral_81 (by decide) ?_
      refine mW_idiv dX4_keptIntegral_83 (by decide) ?_
      refine mW_isub dX4_keptIntegral_84 ?_
      refine mW_ldc (v := 1000000) dX4_keptIntegral_85 u558 ?_
      refine mW_callSNe (As := [.int (x1 - (((x3 - (hfi w a0 9)) * (hai w a0_0 9)) / 16)), .int 1000000]) (rest := []) (kc2 := 0) (ks2 := 0) dX4_keptIntegral_87 l_X4_148 rfl (qX10_limited (w := w) (x0 := x1 - (((x3 - (hfi w a0 9)) * (hai w a0_0 9)) / 16)) (x1 := 1000000)) (Nat.le_of_ble_eq_true rfl) (by decide) rfl rfl ?_
      exact mW_iret dX4_keptIntegral_90 rfl (⟨by first | with_reducible rfl | (simp only [vX4_keptIntegral, if_neg c1, if_pos c2]; done) | rfl, by first | with_reducible rfl | (simp only [vX4_keptIntegral, if_neg c1, if_pos c2]; done) | rfl⟩)
  · refine mW_aload_n (j := 0) dX4_keptIntegral_11 rfl rfl ?_
    refine mW_get dX4_keptIntegral_12 f_X4_55 h1 rfl ?_
    refine mW_if_eq (tgt := 55) dX4_keptIntegral_15 (by decide) (fun c3 => ?_) (fun c3 => ?_)
    · refine mW_aload_n (j := 0) dX4_keptIntegral_55 rfl rfl ?_
      refine mW_getR dX4_keptIntegral_56 f_X4_18 h1 rfl h2 ?_
      refine mW_bipush (v := 7) dX4_keptIntegral_59 (by decide) ?_
      refine mW_ialdJ dX4_keptIntegral_61 h3 s1 (j := 7) (by decide) ?_
      refine mW_iconst (v := 3) dX4_keptIntegral_62 (by decide) ?_
      refine mW_icmp_ne (tgt := 91) dX4_keptIntegral_63 (by decide) (fun c4 => ?_) (fun c4 => ?_)
      · refine mW_iload_n (j := 1) dX4_keptIntegral_91 rfl rfl ?_
        exact mW_iret dX4_keptIntegral_92 rfl (⟨by first | with_reducible rfl | (simp only [vX4_keptIntegral, if_pos c1, if_pos c3, if_neg c4]; done) | rfl, by first | with_reducible rfl | (simp only [vX4_keptIntegral, if_pos c1, if_pos c3, if_neg c4]; done) | rfl⟩)
      · refine mW_iload_n (j := 1) dX4_keptIntegral_66 rfl rfl ?_
        refine mW_iload_n (j := 3) dX4_keptIntegral_67 rfl rfl ?_
        refine mW_aload_n (j := 0) dX4_keptIntegral_68 rfl rfl ?_
        refine mW_get dX4_keptIntegral_69 f_X4_52 h1 rfl ?_
        refine mW_isub dX4_keptIntegral_72 ?_
        refine mW_aload_n (j := 0) dX4_keptIntegral_73 rfl rfl ?_
        refine mW_getR dX4_keptIntegral_74 f_X4_18 h1 rfl h2 ?_
        refine mW_bipush (v := 9) dX4_keptIntegral_77 (by decide) ?_
        refine mW_ialdJ dX4_keptIntegral_79 h3 (s3 c1 c3 c4) (j := 9) (by decide) ?_
        refine mW_imul dX4_keptIntegral_80 ?_
        refine mW_bipush (v := 16) dX4_keptIntegral_81 (by decide) ?_
        refine mW_idiv dX4_keptIntegral_83 (by decide) ?_
        refine mW_isub dX4_keptIntegral_84 ?_
        refine mW_ldc (v := 1000000) dX4_keptIntegral_85 u558 ?_
        refine mW_callSNe (As := [.int (x1 - (((x3 - (hfi w a0 9)) * (hai w a0_0 9)) / 16)), .int 1000000]) (rest := []) (kc2 := 0) (ks2 := 0) dX4_keptIntegral_87 l_X4_148 rfl (qX10_limited (w := w) (x0 := x1 - (((x3 - (hfi w a0 9)) * (hai w a0_0 9)) / 16)) (x1 := 1000000)) (Nat.le_of_ble_eq_true rfl) (by decide) rfl rfl ?_
        exact mW_iret dX4_keptIntegral_90 rfl (⟨by first | with_reducible rfl | (simp only [vX4_keptIntegral, if_pos c1, if_pos c3, if_pos c4]; done) | rfl, by first | with_reducible rfl | (simp only [vX4_keptIntegral, if_pos c1, if_pos c3, if_pos c4]; done) | rfl⟩)
    · refine mW_iload_n (j := 3) dX4_keptIntegral_18 rfl rfl ?_
      refine mW_if_le (tgt := 26) dX4_keptIntegral_19 (by decide) (fun c5 => ?_) (fun c5 => ?_)
      · refine mW_iload_n (j := 3) dX4_keptIntegral_26 rfl rfl ?_
        refine mW_if_ge (tgt := 38) dX4_keptIntegral_27 (by decide) (fun c6 => ?_) (fun c6 => ?_)
        · refine mW_iconst (v := 0) dX4_keptIntegral_38 (by decide) ?_
          refine mW_istore (lv2 := [(4, .int 0), (0, .ref a0), (1, .int x1), (2, .int x2), (3, .int x3)]) dX4_keptIntegral_39 (by decide) rfl ?_
          refine mW_iload (j := 0) dX4_keptIntegral_41 rfl ?_
          refine mW_if_eq (tgt := 53) dX4_keptIntegral_43 (by decide) (fun _ => ?_) (fun c => absurd (by decide) c)
          refine mW_iload_n (j := 2) dX4_keptIntegral_53 rfl rfl ?_
          exact mW_iret dX4_keptIntegral_54 rfl (⟨by first | with_reducible rfl | (simp only [vX4_keptIntegral, if_pos c1, if_neg c3, if_pos c5, if_pos c6]; done) | rfl, by first | with_reducible rfl | (simp only [vX4_keptIntegral, if_pos c1, if_neg c3, if_pos c5, if_pos c6]; done) | rfl⟩)
        · refine mW_iload_n (j := 2) dX4_keptIntegral_30 rfl rfl ?_
          refine mW_if_ge (tgt := 38) dX4_keptIntegral_31 (by decide) (fun c7 => ?_) (fun c7 => ?_)
          · refine mW_iconst (v := 0) dX4_keptIntegral_38 (by decide) ?_
            refine mW_istore (lv2 := [(4, .int 0), (0, .ref a0), (1, .int x1), (2, .int x2), (3, .int x3)]) dX4_keptIntegral_39 (by decide) rfl ?_
            refine mW_iload (j := 0) dX4_keptIntegral_41 rfl ?_
            refine mW_if_eq (tgt := 53) dX4_keptIntegral_43 (by decide) (fun _ => ?_) (fun c => absurd (by decide) c)
            refine mW_iload_n (j := 2) dX4_keptIntegral_53 rfl rfl ?_
            exact mW_iret dX4_keptIntegral_54 rfl (⟨by first | with_reducible rfl | (simp only [vX4_keptIntegral, if_pos c1, if_neg c3, if_pos c5, if_neg c6, if_pos c7]; done) | rfl, by first | with_reducible rfl | (simp only [vX4_keptIntegral, if_pos c1, if_neg c3, if_pos c5, if_neg c6, if_pos c7]; done) | rfl⟩)
          · refine mW_iconst (v := 1) dX4_keptIntegral_34 (by decide) ?_
            refine mW_goto (tgt := 39) dX4_keptIntegral_35 (by decide) ?_
            refine mW_istore (lv2 := [(4, .int 1), (0, .ref a0), (1, .int x1), (2, .int x2), (3, .int x3)]) dX4_keptIntegral_39 (by decide) rfl ?_
            refine mW_iload (j := 0) dX4_keptIntegral_41 rfl ?_
            refine mW_if_eq (tgt := 53) dX4_keptIntegral_43 (by decide) (fun c => absurd c (by decide)) (fun _ => ?_)
            refine mW_aload_n (j := 1) dX4_keptIntegral_46 rfl rfl ?_
            refine mW_get dX4_keptIntegral_47 f_X4_49 h1 rfl ?_
            refine mW_goto (tgt := 54) dX4_keptIntegral_50 (by decide) ?_
            exact mW_iret dX4_keptIntegral_54 rfl (⟨by first | with_reducible rfl | (simp only [vX4_keptIntegral, if_pos c1, if_neg c3, if_pos c5, if_neg c6, if_neg c7]; done) | rfl, by first | with_reducible rfl | (simp only [vX4_keptIntegral, if_pos c1, if_neg c3, if_pos c5, if_neg c6, if_neg c7]; done) | rfl⟩)
      · refine mW_iload_n (j := 2) dX4_keptIntegral_22 rfl rfl ?_
        refine mW_if_gt (tgt := 34) dX4_keptIntegral_23 (by decide) (fun c8 => ?_) (fun c8 => ?_)
        · refine mW_iconst (v := 1) dX4_keptIntegral_34 (by decide) ?_
          refine mW_goto (tgt := 39) dX4_keptIntegral_35 (by decide) ?_
          refine mW_istore (lv2 := [(4, .int 1), (0, .ref a0), (1, .int x1), (2, .int x2), (3, .int x3)]) dX4_keptIntegral_39 (by decide) rfl ?_
          refine mW_iload (j := 0) dX4_keptIntegral_41 rfl ?_
          refine mW_if_eq (tgt := 53) dX4_keptIntegral_43 (by decide) (fun c => absurd c (by decide)) (fun _ => ?_)
          refine mW_aload_n (j := 1) dX4_keptIntegral_46 rfl rfl ?_
          refine mW_get dX4_keptIntegral_47 f_X4_49 h1 rfl ?_
          refine mW_goto (tgt := 54) dX4_keptIntegral_50 (by decide) ?_
          exact mW_iret dX4_keptIntegral_54 rfl (⟨by first | with_reducible rfl | (simp only [vX4_keptIntegral, if_pos c1, if_neg c3, if_neg c5, if_pos c8]; done) | rfl, by first | with_reducible rfl | (simp only [vX4_keptIntegral, if_pos c1, if_neg c3, if_neg c5, if_pos c8]; done) | rfl⟩)
        · refine mW_iload_n (j := 3) dX4_keptIntegral_26 rfl rfl ?_
          refine mW_if_ge (tgt := 38) dX4_keptIntegral_27 (by decide) (fun c9 => ?_) (fun c9 => ?_)
          · refine mW_iconst (v := 0) dX4_keptIntegral_38 (by decide) ?_
            refine mW_istore (lv2 := [(4, .int 0), (0, .ref a0), (1, .int x1), (2, .int x2), (3, .int x3)]) dX4_keptIntegral_39 (by decide) rfl ?_
            refine mW_iload (j := 0) dX4_keptIntegral_41 rfl ?_
            refine mW_if_eq (tgt := 53) dX4_keptIntegral_43 (by decide) (fun _ => ?_) (fun c => absurd (by decide) c)
            refine mW_iload_n (j := 2) dX4_keptIntegral_53 rfl rfl ?_
            exact mW_iret dX4_keptIntegral_54 rfl (⟨by first | with_reducible rfl | (simp only [vX4_keptIntegral, if_pos c1, if_neg c3, if_neg c5, if_neg c8, if_pos c9]; done) | rfl, by first | with_reducible rfl | (simp only [vX4_keptIntegral, if_pos c1, if_neg c3, if_neg c5, if_neg c8, if_pos c9]; done) | rfl⟩)
          · refine mW_iload_n (j := 2) dX4_keptIntegral_30 rfl rfl ?_
            refine mW_if_ge (tgt := 38) dX4_keptIntegral_31 (by decide) (fun c10 => ?_) (fun c10 => ?_)
            · refine mW_iconst (v := 0) dX4_keptIntegral_38 (by decide) ?_
              refine mW_istore (lv2 := [(4, .int 0), (0, .ref a0), (1, .int x1), (2, .int x2), (3, .int x3)]) dX4_keptIntegral_39 (by decide) rfl ?_
              refine mW_iload (j := 0) dX4_keptIntegral_41 rfl ?_
              refine mW_if_eq (tgt := 53) dX4_keptIntegral_43 (by decide) (fun _ => ?_) (fun c => absurd (by decide) c)
              refine mW_iload_n (j := 2) dX4_keptIntegral_53 rfl rfl ?_
              exact mW_iret dX4_keptIntegral_54 rfl (⟨by first | with_reducible rfl | (simp only [vX4_keptIntegral, if_pos c1, if_neg c3, if_neg c5, if_neg c8, if_neg c9, if_pos c10]; done) | rfl, by first | with_reducible rfl | (simp only [vX4_keptIntegral, if_pos c1, if_neg c3, if_neg c5, if_neg c8, if_neg c9, if_pos c10]; done) | rfl⟩)
            · refine mW_iconst (v := 1) dX4_keptIntegral_34 (by decide) ?_
              refine mW_goto (tgt := 39) dX4_keptIntegral_35 (by decide) ?_
              refine mW_istore (lv2 := [(4, .int 1), (0, .ref a0), (1, .int x1), (2, .int x2), (3, .int x3)]) dX4_keptIntegral_39 (by decide) rfl ?_
              refine mW_iload (j := 0) dX4_keptIntegral_41 rfl ?_
              refine mW_if_eq (tgt := 53) dX4_keptIntegral_43 (by decide) (fun c => absurd c (by decide)) (fun _ => ?_)
              refine mW_aload_n (j := 1) dX4_keptIntegral_46 rfl rfl ?_
              refine mW_get dX4_keptIntegral_47 f_X4_49 h1 rfl ?_
              refine mW_goto (tgt := 54) dX4_keptIntegral_50 (by decide) ?_
              exact mW_iret dX4_keptIntegral_54 rfl (⟨by first | with_reducible rfl | (simp only [vX4_keptIntegral, if_pos c1, if_neg c3, if_neg c5, if_neg c8, if_neg c9, if_neg c10]; done) | rfl, by first | with_reducible rfl | (simp only [vX4_keptIntegral, if_pos c1, if_neg c3, if_neg c5, if_neg c8, if_neg c9, if_neg c10]; done) | rfl⟩)
def sX4_moveActuator (w : mH) (a0 : Nat) (a0_0 : Nat) : mH := (sfi w a0 7 ((hfi w a0 7) + (vX10_limited ((hfi w a0 9) - (hfi w a0 7)) (hai w a0_0 4))))
theorem kkX4_moveActuator {w : mH} {a0 : Nat} {a0_0 : Nat} : hk (sX4_moveActuator w a0 a0_0) = hk w := by unfold sX4_moveActuator; simp only [apply_ite hk, e_hk_sfi, e_hk_sfl, e_hk_sai, e_hk_sal, e_hk_sax, ite_self]
theorem rrX4_moveActuator {w : mH} {a0 : Nat} {a0_0 : Nat} : hfr (sX4_moveActuator w a0 a0_0) = hfr w := by unfold sX4_moveActuator; simp only [apply_ite hfr, e_hfr_sfi, e_hfr_sfl, e_hfr_sai, e_hfr_sal, e_hfr_sax, ite_self]
set_option maxHeartbeats 4000000 in
set_option maxRecDepth 100000 in
theorem qX4_moveActuator {G : mG} {w : mH} {a0 a0_0 n_a0_0 : Nat} (h1 : hk w a0 = (4, 0)) (h2 : hfr w a0 0 = some a0_0) (h3 : hk w a0_0 = (16, n_a0_0)) (s1 : vp_in 4 n_a0_0) : mC G mX4_moveActuator 2 0 0 [.ref a0] w (mEq (.inl none) (sX4_moveActuator w a0 a0_0)) := by
  refine mC_of (by decide +kernel) rfl (Nat.le_of_ble_eq_true rfl) rfl ?_
  refine mW_aload_n (j := 0) dX4_moveActuator_0 rfl rfl ?_
  refine mW_dup dX4_moveActuator_1 rfl ?_
  refine mW_get dX4_moveActuator_2 f_X4_46 h1 rfl ?_
  refine mW_aload_n (j := 0) dX4_moveActuator_5 rfl rfl ?_
  refine mW_get dX4_moveActuator_6 f_X4_52 h1 rfl ?_
  refine mW_aload_n (j := 0) dX4_moveActuator_9 rfl rfl ?_
  refine mW_get dX4_moveActuator_10 f_X4_46 h1 rfl ?_
  refine mW_isub dX4_moveActuator_13 ?_
  refine mW_aload_n (j := 0) dX4_moveActuator_14 rfl rfl ?_
  refine mW_getR dX4_moveActuator_15 f_X4_18 h1 rfl h2 ?_
  refine mW_iconst (v := 4) dX4_moveActuator_18 (by decide) ?_
  refine mW_ialdJ dX4_moveActuator_19 h3 s1 (j := 4) (by decide) ?_
  refine mW_callSNe (As := [.int ((hfi w a0 9) - (hfi w a0 7)), .int (hai w a0_0 4)]) (rest := [.int (hfi w a0 7), .ref a0]) (kc2 := 0) (ks2 := 0) dX4_moveActuator_20 l_X4_148 rfl (qX10_limited (w := w) (x0 := (hfi w a0 9) - (hfi w a0 7)) (x1 := hai w a0_0 4)) (Nat.le_of_ble_eq_true rfl) (by decide) rfl rfl ?_
  refine mW_iadd dX4_moveActuator_23 ?_
  refine mW_put (ty := .int) (w2 := sfi w a0 7 ((hfi w a0 7) + (vX10_limited ((hfi w a0 9) - (hfi w a0 7)) (hai w a0_0 4)))) dX4_moveActuator_24 p_X4_46 h1 (Nat.le_of_ble_eq_true rfl) (by first | rfl | decide | (repeat' split) <;> rfl) rfl (hN_sfi _ _ _ _) (hk_sfi _ _ _ _) (mE_sfi h1 (by decide) (ob_4_7 _ _ _)) ?_
  exact mW_vret dX4_moveActuator_27 rfl (⟨by first | with_reducible rfl | (simp only [sX4_moveActuator]; done) | rfl, by first | with_reducible rfl | (simp only [sX4_moveActuator]; done) | rfl⟩)
def sX4_moveRobot (w : mH) (a0 : Nat) (x1 : Int32) (x2 : Int32) : mH := (sfi (sfi w a0 6 (vX10_limited (((hfi w a0 6) + x1) - ((hfi w a0 7) / 8)) 10000)) a0 5 (vX10_limited (((hfi (sfi w a0 6 (vX10_limited (((hfi w a0 6) + x1) - ((hfi w a0 7) / 8)) 10000)) a0 5) + ((hfi (sfi w a0 6 (vX10_limited (((hfi w a0 6) + x1) - ((hfi w a0 7) / 8)) 10000)) a0 6) / 8)) + x2) 10000))
theorem kkX4_moveRobot {w : mH} {a0 : Nat} {x1 : Int32} {x2 : Int32} : hk (sX4_moveRobot w a0 x1 x2) = hk w := by unfold sX4_moveRobot; simp only [apply_ite hk, e_hk_sfi, e_hk_sfl, e_hk_sai, e_hk_sal, e_hk_sax, ite_self]
theorem rrX4_moveRobot {w : mH} {a0 : Nat} {x1 : Int32} {x2 : Int32} : hfr (sX4_moveRobot w a0 x1 x2) = hfr w := by unfold sX4_moveRobot; simp only [apply_ite hfr, e_hfr_sfi, e_hfr_sfl, e_hfr_sai, e_hfr_sal, e_hfr_sax, ite_self]
set_option maxHeartbeats 4000000 in
set_option maxRecDepth 100000 in
theorem qX4_moveRobot {G : mG} {w : mH} {a0 : Nat} {x1 x2 : Int32} (h1 : hk w a0 = (4, 0)) : mC G mX4_moveRobot 2 0 0 [.ref a0, .int x1, .int x2] w (mEq (.inl none) (sX4_moveRobot w a0 x1 x2)) := by
  refine mC_of (by decide +kernel) rfl (Nat.le_of_ble_eq_true rfl) rfl ?_
  refine mW_aload_n (j := 0) dX4_moveRobot_0 rfl rfl ?_
  refine mW_aload_n (j := 0) dX4_moveRobot_1 rfl rfl ?_
  refine mW_get dX4_moveRobot_2 f_X4_43 h1 rfl ?_
  refine mW_iload_n (j := 1) dX4_moveRobot_5 rfl rfl ?_
  refine mW_iadd dX4_moveRobot_6 ?_
  refine mW_aload_n (j := 0) dX4_moveRobot_7 rfl rfl ?_
  refine mW_get dX4_moveRobot_8 f_X4_46 h1 rfl ?_
  refine mW_bipush (v := 8) dX4_moveRobot_11 (by decide) ?_
  refine mW_idiv dX4_moveRobot_13 (by decide) ?_
  refine mW_isub dX4_moveRobot_14 ?_
  refine mW_sipush (v := 10000) dX4_moveRobot_15 (by decide) ?_
  refine mW_callSNe (As := [.int (((hfi w a0 6) + x1) - ((hfi w a0 7) / 8)), .int 10000]) (rest := [.ref a0]) (kc2 := 0) (ks2 := 0) dX4_moveRobot_18 l_X4_148 rfl (qX10_limited (w := w) (x0 := ((hfi w a0 6) + x1) - ((hfi w a0 7) / 8)) (x1 := 10000)) (Nat.le_of_ble_eq_true rfl) (by decide) rfl rfl ?_
  refine mW_put (ty := .int) (w2 := sfi w a0 6 (vX10_limited (((hfi w a0 6) + x1) - ((hfi w a0 7) / 8)) 10000)) dX4_moveRobot_21 p_X4_43 h1 (Nat.le_of_ble_eq_true rfl) (by first | rfl | decide | (repeat' split) <;> rfl) rfl (hN_sfi _ _ _ _) (hk_sfi _ _ _ _) (mE_sfi h1 (by decide) (ob_4_6 _ _ _)) ?_
  refine mW_aload_n (j := 0) dX4_moveRobot_24 rfl rfl ?_
  refine mW_aload_n (j := 0) dX4_moveRobot_25 rfl rfl ?_
  refine mW_get dX4_moveRobot_26 f_X4_39 (k_sfi h1) rfl ?_
  refine mW_aload_n (j := 0) dX4_moveRobot_29 rfl rfl ?_
  refine mW_get dX4_moveRobot_30 f_X4_43 (k_sfi h1) rfl ?_
  refine mW_bipush (v := 8) dX4_moveRobot_33 (by decide) ?_
  refine mW_idiv dX4_moveRobot_35 (by decide) ?_
  refine mW_iadd dX4_moveRobot_36 ?_
  refine mW_iload_n (j := 2) dX4_moveRobot_37 rfl rfl ?_
  refine mW_iadd dX4_moveRobot_38 ?_
  refine mW_sipush (v := 10000) dX4_moveRobot_39 (by decide) ?_
  refine mW_callSNe (As := [.int (((hfi (sfi w a0 6 (vX10_limited (((hfi w a0 6) + x1) - ((hfi w a0 7) / 8)) 10000)) a0 5) + ((hfi (sfi w a0 6 (vX10_limited (((hfi w a0 6) + x1) - ((hfi w a0 7) / 8)) 10000)) a0 6) / 8)) + x2), .int 10000]) (rest := [.ref a0]) (kc2 := 0) (ks2 := 0) dX4_moveRobot_42 l_X4_148 rfl (qX10_limited (w := sfi w a0 6 (vX10_limited (((hfi w a0 6) + x1) - ((hfi w a0 7) / 8)) 10000)) (x0 := ((hfi (sfi w a0 6 (vX10_limited (((hfi w a0 6) + x1) - ((hfi w a0 7) / 8)) 10000)) a0 5) + ((hfi (sfi w a0 6 (vX10_limited (((hfi w a0 6) + x1) - ((hfi w a0 7) / 8)) 10000)) a0 6) / 8)) + x2) (x1 := 10000)) (Nat.le_of_ble_eq_true rfl) (by decide) rfl rfl ?_
  refine mW_put (ty := .int) (w2 := sfi (sfi w a0 6 (vX10_limited (((hfi w a0 6) + x1) - ((hfi w a0 7) / 8)) 10000)) a0 5 (vX10_limited (((hfi (sfi w a0 6 (vX10_limited (((hfi w a0 6) + x1) - ((hfi w a0 7) / 8)) 10000)) a0 5) + ((hfi (sfi w a0 6 (vX10_limited (((hfi w a0 6) + x1) - ((hfi w a0 7) / 8)) 10000)) a0 6) / 8)) + x2) 10000)) dX4_moveRobot_45 p_X4_39 (k_sfi h1) (Nat.le_of_ble_eq_true rfl) (by first | rfl | decide | (repeat' split) <;> rfl) rfl (hN_sfi _ _ _ _) (hk_sfi _ _ _ _) (mE_sfi (k_sfi h1) (by decide) (ob_4_5 _ _ _)) ?_
  exact mW_vret dX4_moveRobot_48 rfl (⟨by first | with_reducible rfl | (simp only [sX4_moveRobot]; done) | rfl, by first | with_reducible rfl | (simp only [sX4_moveRobot]; done) | rfl⟩)
def sX5_takeOver (w : mH) (a0 : Nat) (a1 : Nat) (a1_0 : Nat) (a0_0 : Nat) (n_a1_0 : Nat) (n_a0_0 : Nat) (a1_1 : Nat) (a0_1 : Nat) (n_a1_1 : Nat) (n_a0_1 : Nat) : mH := (sfi (sX10_copyRow (sX10_copyRow w a1_0 a0_0 n_a1_0 n_a0_0) a1_1 a0_1 n_a1_1 n_a0_1) a0 2 (hfi (sX10_copyRow (sX10_copyRow w a1_0 a0_0 n_a1_0 n_a0_0) a1_1 a0_1 n_a1_1 n_a0_1) a1 2))
theorem kkX5_takeOver {w : mH} {a0 : Nat} {a1 : Nat} {a1_0 : Nat} {a0_0 : Nat} {n_a1_0 : Nat} {n_a0_0 : Nat} {a1_1 : Nat} {a0_1 : Nat} {n_a1_1 : Nat} {n_a0_1 : Nat} : hk (sX5_takeOver w a0 a1 a1_0 a0_0 n_a1_0 n_a0_0 a1_1 a0_1 n_a1_1 n_a0_1) = hk w := by unfold sX5_takeOver; simp only [apply_ite hk, e_hk_sfi, e_hk_sfl, e_hk_sai, e_hk_sal, e_hk_sax, ite_self, @kkX10_copyRow]
theorem rrX5_takeOver {w : mH} {a0 : Nat} {a1 : Nat} {a1_0 : Nat} {a0_0 : Nat} {n_a1_0 : Nat} {n_a0_0 : Nat} {a1_1 : Nat} {a0_1 : Nat} {n_a1_1 : Nat} {n_a0_1 : Nat} : hfr (sX5_takeOver w a0 a1 a1_0 a0_0 n_a1_0 n_a0_0 a1_1 a0_1 n_a1_1 n_a0_1) = hfr w := by unfold sX5_takeOver; simp only [apply_ite hfr, e_hfr_sfi, e_hfr_sfl, e_hfr_sai, e_hfr_sal, e_hfr_sax, ite_self, @rrX10_copyRow]
set_option maxHeartbeats 4000000 in
set_option maxRecDepth 100000 in
theorem qX5_takeOver {G : mG} {w : mH} {a0 a1 a1_0 a0_0 n_a1_0 n_a0_0 a1_1 a0_1 n_a1_1 n_a0_1 : Nat} (h1 : hk w a1 = (5, 0)) (h2 : hfr w a1 0 = some a1_0) (h3 : hk w a0 = (5, 0)) (h4 : hfr w a0 0 = some a0_0) (h5 : hk w a1_0 = (16, n_a1_0)) (h6 : hk w a0_0 = (16, n_a0_0)) (s1 : ¬ (iMin (nI n_a1_0) (nI n_a0_0)) < 0) (s2 : (0 : Int32).toNatClampNeg + (iMin (nI n_a1_0) (nI n_a0_0)).toNatClampNeg ≤ n_a1_0) (s3 : (0 : Int32).toNatClampNeg + (iMin (nI n_a1_0) (nI n_a0_0)).toNatClampNeg ≤ n_a0_0) (h7 : hfr w a1 1 = some a1_1) (h8 : hfr w a0 1 = some a0_1) (h9 : hk w a1_1 = (16, n_a1_1)) (h10 : hk w a0_1 = (16, n_a0_1)) (s4 : ¬ (iMin (nI n_a1_1) (nI n_a0_1)) < 0) (s5 : (0 : Int32).toNatClampNeg + (iMin (nI n_a1_1) (nI n_a0_1)).toNatClampNeg ≤ n_a1_1) (s6 : (0 : Int32).toNatClampNeg + (iMin (nI n_a1_1) (nI n_a0_1)).toNatClampNeg ≤ n_a0_1) : mC G mX5_takeOver 2 0 0 [.ref a0, .ref a1] w (mEq (.inl none) (sX5_takeOver w a0 a1 a1_0 a0_0 n_a1_0 n_a0_0 a1_1 a0_1 n_a1_1 n_a0_1)) := by
  refine mC_of (by decide +kernel) rfl (Nat.le_of_ble_eq_true rfl) rfl ?_
  refine mW_aload_n (j := 1) dX5_takeOver_0 rfl rfl ?_
  refine mW_getR dX5_takeOver_1 f_X5_9 h1 rfl h2 ?_
  refine mW_aload_n (j := 0) dX5_takeOver_4 rfl rfl ?_
  refine mW_getR dX5_takeOver_5 f_X5_9 h3 rfl h4 ?_
  refine mW_callSNe (As := [.ref a1_0, .ref a0_0]) (rest := []) (kc2 := 0) (ks2 := 0) dX5_takeOver_8 l_X5_38 rfl (qX10_copyRow (w := w) (a0 := a1_0) (a1 := a0_0) h5 h6 s1 s2 s3) (Nat.le_of_ble_eq_true rfl) (by decide) rfl rfl ?_
  refine mW_aload_n (j := 1) dX5_takeOver_11 rfl rfl ?_
  refine mW_getR dX5_takeOver_12 f_X5_15 (k_eq (kkX10_copyRow) h1) rfl (r_eq (rrX10_copyRow) h7) ?_
  refine mW_aload_n (j := 0) dX5_takeOver_15 rfl rfl ?_
  refine mW_getR dX5_takeOver_16 f_X5_15 (k_eq (kkX10_copyRow) h3) rfl (r_eq (rrX10_copyRow) h8) ?_
  refine mW_callSNe (As := [.ref a1_1, .ref a0_1]) (rest := []) (kc2 := 0) (ks2 := 0) dX5_takeOver_19 l_X5_38 rfl (qX10_copyRow (w := sX10_copyRow w a1_0 a0_0 n_a1_0 n_a0_0) (a0 := a1_1) (a1 := a0_1) (k_eq (kkX10_copyRow) h9) (k_eq (kkX10_copyRow) h10) s4 s5 s6) (Nat.le_of_ble_eq_true rfl) (by decide) rfl rfl ?_
  refine mW_aload_n (j := 0) dX5_takeOver_22 rfl rfl ?_
  refine mW_aload_n (j := 1) dX5_takeOver_23 rfl rfl ?_
  refine mW_get dX5_takeOver_24 f_X5_18 (k_eq (kkX10_copyRow) (k_eq (kkX10_copyRow) h1)) rfl ?_
  refine mW_put (ty := .int) (w2 := sfi (sX10_copyRow (sX10_copyRow w a1_0 a0_0 n_a1_0 n_a0_0) a1_1 a0_1 n_a1_1 n_a0_1) a0 2 (hfi (sX10_copyRow (sX10_copyRow w a1_0 a0_0 n_a1_0 n_a0_0) a1_1 a0_1 n_a1_1 n_a0_1) a1 2)) dX5_takeOver_27 p_X5_18 (k_eq (kkX10_copyRow) (k_eq (kkX10_copyRow) h3)) (Nat.le_of_ble_eq_true rfl) (by first | rfl | decide | (repeat' split) <;> rfl) rfl (hN_sfi _ _ _ _) (hk_sfi _ _ _ _) (mE_sfi (k_eq (kkX10_copyRow) (k_eq (kkX10_copyRow) h3)) (by decide) (ob_5_2 _ _ _)) ?_
  exact mW_vret dX5_takeOver_30 rfl (⟨by first | with_reducible rfl | (simp only [sX5_takeOver]; done) | rfl, by first | with_reducible rfl | (simp only [sX5_takeOver]; done) | rfl⟩)
def vX6_part (w : mH) (x1 : Int32) (x2 : Int32) (a0_1 : Nat) (a0_2 : Nat) (a0_3 : Nat) (a0_4 : Nat) (a0_5 : Nat) (a0_0 : Nat) : Int32 := (if x2 = 0 then (if (vX10_isWithin x1 0 200) = 0 then 0 else (hai w a0_0 x1.toNatClampNeg)) else (if (vX10_isWithin x1 0 199) = 0 then 0 else (if x2 = 1 then (hai w a0_1 x1.toNatClampNeg) else (if x2 = 2 then (hai w a0_2 x1.toNatClampNeg) else (if x2 = 3 then (hai w a0_3 x1.toNatClampNeg) else (if x2 = 4 then (hai w a0_4 x1.toNatClampNeg) else (hai w a0_5 x1.toNatClampNeg)))))))
set_option maxHeartbeats 4000000 in
set_option maxRecDepth 100000 in
theorem qX6_part {G : mG} {w : mH} {a0 : Nat} {x1 x2 : Int32} {a0_1 n_a0_1 a0_2 n_a0_2 a0_3 n_a0_3 a0_4 n_a0_4 a0_5 n_a0_5 a0_0 n_a0_0 : Nat} (h1 : hk w a0 = (6, 0)) (h2 : hfr w a0 1 = some a0_1) (h3 : hk w a0_1 = (16, n_a0_1)) (s1 : (¬ (x2 = 0)) → (¬ ((vX10_isWithin x1 0 199) = 0)) → (x2 = 1) → vp_in x1 n_a0_1) (h4 : hfr w a0 2 = some a0_2) (h5 : hk w a0_2 = (16, n_a0_2)) (s2 : (¬ (x2 = 0)) → (¬ ((vX10_isWithin x1 0 199) = 0)) → (¬ x2 = 1) → (x2 = 2) → vp_in x1 n_a0_2) (h6 : hfr w a0 3 = some a0_3) (h7 : hk w a0_3 = (16, n_a0_3)) (s3 : (¬ (x2 = 0)) → (¬ ((vX10_isWithin x1 0 199) = 0)) → (¬ x2 = 1) → (¬ x2 = 2) → (x2 = 3) → vp_in x1 n_a0_3) (h8 : hfr w a0 4 = some a0_4) (h9 : hk w a0_4 = (16, n_a0_4)) (s4 : (¬ (x2 = 0)) → (¬ ((vX10_isWithin x1 0 199) = 0)) → (¬ x2 = 1) → (¬ x2 = 2) → (¬ x2 = 3) → (x2 = 4) → vp_in x1 n_a0_4) (h10 : hfr w a0 5 = some a0_5) (h11 : hk w a0_5 = (16, n_a0_5)) (s5 : (¬ (x2 = 0)) → (¬ ((vX10_isWithin x1 0 199) = 0)) → (¬ x2 = 1) → (¬ x2 = 2) → (¬ x2 = 3) → (¬ x2 = 4) → vp_in x1 n_a0_5) (h12 : hfr w a0 0 = some a0_0) (h13 : hk w a0_0 = (16, n_a0_0)) (s6 : (x2 = 0) → (¬ ((vX10_isWithin x1 0 200) = 0)) → vp_in x1 n_a0_0) : mC G mX6_part 2 0 0 [.ref a0, .int x1, .int x2] w (mEq (.inl (some (.int (vX6_part w x1 x2 a0_1 a0_2 a0_3 a0_4 a0_5 a0_0)))) w) := by
  refine mC_of (by decide +kernel) rfl (Nat.le_of_ble_eq_true rfl) rfl ?_
  refine mW_iload_n (j := 2) dX6_part_0 rfl rfl ?_
  refine mW_if_ne (tgt := 26) dX6_part_1 (by decide) (fun c1 => ?_) (fun c1 => ?_)
  · refine mW_iload_n (j := 1) dX6_part_26 rfl rfl ?_
    refine mW_iconst (v := 0) dX6_part_27 (by decide) ?_
    refine mW_sipush (v := 199) dX6_part_28 (by decide) ?_
    refine mW_callSNe (As := [.int x1, .int 0, .int 199]) (rest := []) (kc2 := 0) (ks2 := 0) dX6_part_31 l_X6_34 rfl (qX10_isWithin (w := w) (x0 := x1) (x1 := 0) (x2 := 199)) (Nat.le_of_ble_eq_true rfl) (by decide) rfl rfl ?_
    refine mW_if_ne (tgt := 39) dX6_part_34 (by decide) (fun c2 => ?_) (fun c2 => ?_)
    · refine mW_iload_n (j := 2) dX6_part_39 rfl rfl ?_
      by_cases c3 : x2 = 1
      · refine mW_tabIn (off := 32) (tgt := 72) dX6_part_40 (by rw [c3]; decide) (by rw [c3]; decide) (by rw [c3]; rfl) (by decide) ?_
        refine mW_aload_n (j := 0) dX6_part_72 rfl rfl ?_
        refine mW_getR dX6_part_73 f_X6_15 h1 rfl h2 ?_
        refine mW_iload_n (j := 1) dX6_part_76 rfl rfl ?_
        refine mW_ialdJ dX6_part_77 h3 (s1 c1 c2 c3) rfl ?_
        exact mW_iret dX6_part_78 rfl (⟨by first | with_reducible rfl | (simp only [vX6_part, if_neg c1, if_neg c2, if_pos c3]; done) | rfl, by first | with_reducible rfl | (simp only [vX6_part, if_neg c1, if_neg c2, if_pos c3]; done) | rfl⟩)
      by_cases c4 : x2 = 2
      · refine mW_tabIn (off := 39) (tgt := 79) dX6_part_40 (by rw [c4]; decide) (by rw [c4]; decide) (by rw [c4]; rfl) (by decide) ?_
        refine mW_aload_n (j := 0) dX6_part_79 rfl rfl ?_
        refine mW_getR dX6_part_80 f_X6_18 h1 rfl h4 ?_
        refine mW_iload_n (j := 1) dX6_part_83 rfl rfl ?_
        refine mW_ialdJ dX6_part_84 h5 (s2 c1 c2 c3 c4) rfl ?_
        exact mW_iret dX6_part_85 rfl (⟨by first | with_reducible rfl | (simp only [vX6_part, if_neg c1, if_neg c2, if_neg c3, if_pos c4]; done) | rfl, by first | with_reducible rfl | (simp only [vX6_part, if_neg c1, if_neg c2, if_neg c3, if_pos c4]; done) | rfl⟩)
      by_cases c5 : x2 = 3
      · refine mW_tabIn (off := 46) (tgt := 86) dX6_part_40 (by rw [c5]; decide) (by rw [c5]; decide) (by rw [c5]; rfl) (by decide) ?_
        refine mW_aload_n (j := 0) dX6_part_86 rfl rfl ?_
        refine mW_getR dX6_part_87 f_X6_21 h1 rfl h6 ?_
        refine mW_iload_n (j := 1) dX6_part_90 rfl rfl ?_
        refine mW_ialdJ dX6_part_91 h7 (s3 c1 c2 c3 c4 c5) rfl ?_
        exact mW_iret dX6_part_92 rfl (⟨by first | with_reducible rfl | (simp only [vX6_part, if_neg c1, if_neg c2, if_neg c3, if_neg c4, if_pos c5]; done) | rfl, by first | with_reducible rfl | (simp only [vX6_part, if_neg c1, if_neg c2, if_neg c3, if_neg c4, if_pos c5]; done) | rfl⟩)
      by_cases c6 : x2 = 4
      · refine mW_tabIn (off := 53) (tgt := 93) dX6_part_40 (by rw [c6]; decide) (by rw [c6]; decide) (by rw [c6]; rfl) (by decide) ?_
        refine mW_aload_n (j := 0) dX6_part_93 rfl rfl ?_
        refine mW_getR dX6_part_94 f_X6_24 h1 rfl h8 ?_
        refine mW_iload_n (j := 1) dX6_part_97 rfl rfl ?_
        refine mW_ialdJ dX6_part_98 h9 (s4 c1 c2 c3 c4 c5 c6) rfl ?_
        exact mW_iret dX6_part_99 rfl (⟨by first | with_reducible rfl | (simp only [vX6_part, if_neg c1, if_neg c2, if_neg c3, if_neg c4, if_neg c5, if_pos c6]; done) | rfl, by first | with_reducible rfl | (simp only [vX6_part, if_neg c1, if_neg c2, if_neg c3, if_neg c4, if_neg c5, if_pos c6]; done) | rfl⟩)
      refine mW_tabOut (tgt := 100) dX6_part_40 (m_out (lo := 1) (n := 4) (x := x2) (by decide) (by decide) (fun v q1 q2 => (fun z => z.elim (fun e1 e2 => c3 (m_ti (k := 1) (by decide) (e2.trans e1))) (fun z => z.elim (fun e1 e2 => c4 (m_ti (k := 2) (by decide) (e2.trans e1))) (fun z => z.elim (fun e1 e2 => c5 (m_ti (k := 3) (by decide) (e2.trans e1))) (fun e1 e2 => c6 (m_ti (k := 4) (by decide) (e2.trans e1)))))) (show v = 1 ∨ v = 2 ∨ v = 3 ∨ v = 4 by omega))) (by decide) ?_
      refine mW_aload_n (j := 0) dX6_part_100 rfl rfl ?_
      refine mW_getR dX6_part_101 f_X6_27 h1 rfl h10 ?_
      refine mW_iload_n (j := 1) dX6_part_104 rfl rfl ?_
      refine mW_ialdJ dX6_part_105 h11 (s5 c1 c2 c3 c4 c5 c6) rfl ?_
      exact mW_iret dX6_part_106 rfl (⟨by first | with_reducible rfl | (simp only [vX6_part, if_neg c1, if_neg c2, if_neg c3, if_neg c4, if_neg c5, if_neg c6]; done) | rfl, by first | with_reducible rfl | (simp only [vX6_part, if_neg c1, if_neg c2, if_neg c3, if_neg c4, if_neg c5, if_neg c6]; done) | rfl⟩)
    · refine mW_iconst (v := 0) dX6_part_37 (by decide) ?_
      exact mW_iret dX6_part_38 rfl (⟨by first | with_reducible rfl | (simp only [vX6_part, if_neg c1, if_pos c2]; done) | rfl, by first | with_reducible rfl | (simp only [vX6_part, if_neg c1, if_pos c2]; done) | rfl⟩)
  · refine mW_iload_n (j := 1) dX6_part_4 rfl rfl ?_
    refine mW_iconst (v := 0) dX6_part_5 (by decide) ?_
    refine mW_sipush (v := 200) dX6_part_6 (by decide) ?_
    refine mW_callSNe (As := [.int x1, .int 0, .int 200]) (rest := []) (kc2 := 0) (ks2 := 0) dX6_part_9 l_X6_34 rfl (qX10_isWithin (w := w) (x0 := x1) (x1 := 0) (x2 := 200)) (Nat.le_of_ble_eq_true rfl) (by decide) rfl rfl ?_
    refine mW_if_eq (tgt := 24) dX6_part_12 (by decide) (fun c7 => ?_) (fun c7 => ?_)
    · refine mW_iconst (v := 0) dX6_part_24 (by decide) ?_
      exact mW_iret dX6_part_25 rfl (⟨by first | with_reducible rfl | (simp only [vX6_part, if_pos c1, if_pos c7]; done) | rfl, by first | with_reducible rfl | (simp only [vX6_part, if_pos c1, if_pos c7]; done) | rfl⟩)
    · refine mW_aload_n (j := 0) dX6_part_15 rfl rfl ?_
      refine mW_getR dX6_part_16 f_X6_9 h1 rfl h12 ?_
      refine mW_iload_n (j := 1) dX6_part_19 rfl rfl ?_
      refine mW_ialdJ dX6_part_20 h13 (s6 c1 c7) rfl ?_
      refine mW_goto (tgt := 25) dX6_part_21 (by decide) ?_
      exact mW_iret dX6_part_25 rfl (⟨by first | with_reducible rfl | (simp only [vX6_part, if_pos c1, if_neg c7]; done) | rfl, by first | with_reducible rfl | (simp only [vX6_part, if_pos c1, if_neg c7]; done) | rfl⟩)
def vX6_seenChange (w : mH) (x1 : Int32) (a0_1 : Nat) : Int32 := (if (vX10_isWithin x1 1 199) = 0 then 0 else ((hai w a0_1 x1.toNatClampNeg) - (hai w a0_1 ((x1 - 1).toNatClampNeg))))
set_option maxHeartbeats 4000000 in
set_option maxRecDepth 100000 in
theorem qX6_seenChange {G : mG} {w : mH} {a0 : Nat} {x1 : Int32} {a0_1 n_a0_1 : Nat} (h1 : hk w a0 = (6, 0)) (h2 : hfr w a0 1 = some a0_1) (h3 : hk w a0_1 = (16, n_a0_1)) (s1 : (¬ ((vX10_isWithin x1 1 199) = 0)) → vp_in x1 n_a0_1) (s2 : (¬ ((vX10_isWithin x1 1 199) = 0)) → vp_in (x1 - 1) n_a0_1) : mC G mX6_seenChange 2 0 0 [.ref a0, .int x1] w (mEq (.inl (some (.int (vX6_seenChange w x1 a0_1)))) w) := by
  refine mC_of (by decide +kernel) rfl (Nat.le_of_ble_eq_true rfl) rfl ?_
  refine mW_iload_n (j := 1) dX6_seenChange_0 rfl rfl ?_
  refine mW_iconst (v := 1) dX6_seenChange_1 (by decide) ?_
  refine mW_sipush (v := 199) dX6_seenChange_2 (by decide) ?_
  refine mW_callSNe (As := [.int x1, .int 1, .int 199]) (rest := []) (kc2 := 0) (ks2 := 0) dX6_seenChange_5 l_X6_34 rfl (qX10_isWithin (w := w) (x0 := x1) (x1 := 1) (x2 := 199)) (Nat.le_of_ble_eq_true rfl) (by decide) rfl rfl ?_
  refine mW_if_eq (tgt := 29) dX6_seenChange_8 (by decide) (fun c1 => ?_) (fun c1 => ?_)
  · refine mW_iconst (v := 0) dX6_seenChange_29 (by decide) ?_
    exact mW_iret dX6_seenChange_30 rfl (⟨by first | with_reducible rfl | (simp only [vX6_seenChange, if_pos c1]; done) | rfl, by first | with_reducible rfl | (simp only [vX6_seenChange, if_pos c1]; done) | rfl⟩)
  · refine mW_aload_n (j := 0) dX6_seenChange_11 rfl rfl ?_
    refine mW_getR dX6_seenChange_12 f_X6_15 h1 rfl h2 ?_
    refine mW_iload_n (j := 1) dX6_seenChange_15 rfl rfl ?_
    refine mW_ialdJ dX6_seenChange_16 h3 (s1 c1) rfl ?_
    refine mW_aload_n (j := 0) dX6_seenChange_17 rfl rfl ?_
    refine mW_getR dX6_seenChange_18 f_X6_15 h1 rfl h2 ?_
    refine mW_iload_n (j := 1) dX6_seenChange_21 rfl rfl ?_
    refine mW_iconst (v := 1) dX6_seenChange_22 (by decide) ?_
    refine mW_isub dX6_seenChange_23 ?_
    refine mW_ialdJ dX6_seenChange_24 h3 (s2 c1) rfl ?_
    refine mW_isub dX6_seenChange_25 ?_
    refine mW_goto (tgt := 30) dX6_seenChange_26 (by decide) ?_
    exact mW_iret dX6_seenChange_30 rfl (⟨by first | with_reducible rfl | (simp only [vX6_seenChange, if_neg c1]; done) | rfl, by first | with_reducible rfl | (simp only [vX6_seenChange, if_neg c1]; done) | rfl⟩)
def sX6_takeErrors (w : mH) (a0 : Nat) (a1 : Nat) (a1_0 : Nat) (a0_0 : Nat) (n_a1_0 : Nat) (n_a0_0 : Nat) : mH := (sfi (sX10_copyRow w a1_0 a0_0 n_a1_0 n_a0_0) a0 6 (hfi (sX10_copyRow w a1_0 a0_0 n_a1_0 n_a0_0) a1 6))
theorem kkX6_takeErrors {w : mH} {a0 : Nat} {a1 : Nat} {a1_0 : Nat} {a0_0 : Nat} {n_a1_0 : Nat} {n_a0_0 : Nat} : hk (sX6_takeErrors w a0 a1 a1_0 a0_0 n_a1_0 n_a0_0) = hk w := by unfold sX6_takeErrors; simp only [apply_ite hk, e_hk_sfi, e_hk_sfl, e_hk_sai, e_hk_sal, e_hk_sax, ite_self, @kkX10_copyRow]
theorem rrX6_takeErrors {w : mH} {a0 : Nat} {a1 : Nat} {a1_0 : Nat} {a0_0 : Nat} {n_a1_0 : Nat} {n_a0_0 : Nat} : hfr (sX6_takeErrors w a0 a1 a1_0 a0_0 n_a1_0 n_a0_0) = hfr w := by unfold sX6_takeErrors; simp only [apply_ite hfr, e_hfr_sfi, e_hfr_sfl, e_hfr_sai, e_hfr_sal, e_hfr_sax, ite_self, @rrX10_copyRow]
set_option maxHeartbeats 4000000 in
set_option maxRecDepth 100000 in
theorem qX6_takeErrors {G : mG} {w : mH} {a0 a1 a1_0 a0_0 n_a1_0 n_a0_0 : Nat} (h1 : hk w a1 = (6, 0)) (h2 : hfr w a1 0 = some a1_0) (h3 : hk w a0 = (6, 0)) (h4 : hfr w a0 0 = some a0_0) (h5 : hk w a1_0 = (16, n_a1_0)) (h6 : hk w a0_0 = (16, n_a0_0)) (s1 : ¬ (iMin (nI n_a1_0) (nI n_a0_0)) < 0) (s2 : (0 : Int32).toNatClampNeg + (iMin (nI n_a1_0) (nI n_a0_0)).toNatClampNeg ≤ n_a1_0) (s3 : (0 : Int32).toNatClampNeg + (iMin (nI n_a1_0) (nI n_a0_0)).toNatClampNeg ≤ n_a0_0) : mC G mX6_takeErrors 2 0 0 [.ref a0, .ref a1] w (mEq (.inl none) (sX6_takeErrors w a0 a1 a1_0 a0_0 n_a1_0 n_a0_0)) := by
  refine mC_of (by decide +kernel) rfl (Nat.le_of_ble_eq_true rfl) rfl ?_
  refine mW_aload_n (j := 1) dX6_takeErrors_0 rfl rfl ?_
  refine mW_getR dX6_takeErrors_1 f_X6_9 h1 rfl h2 ?_
  refine mW_aload_n (j := 0) dX6_takeErrors_4 rfl rfl ?_
  refine mW_getR dX6_takeErrors_5 f_X6_9 h3 rfl h4 ?_
  refine mW_callSNe (As := [.ref a1_0, .ref a0_0]) (rest := []) (kc2 := 0) (ks2 := 0) dX6_takeErrors_8 l_X6_84 rfl (qX10_copyRow (w := w) (a0 := a1_0) (a1 := a0_0) h5 h6 s1 s2 s3) (Nat.le_of_ble_eq_true rfl) (by decide) rfl rfl ?_
  refine mW_aload_n (j := 0) dX6_takeErrors_11 rfl rfl ?_
  refine mW_aload_n (j := 1) dX6_takeErrors_12 rfl rfl ?_
  refine mW_get dX6_takeErrors_13 f_X6_30 (k_eq (kkX10_copyRow) h1) rfl ?_
  refine mW_put (ty := .int) (w2 := sfi (sX10_copyRow w a1_0 a0_0 n_a1_0 n_a0_0) a0 6 (hfi (sX10_copyRow w a1_0 a0_0 n_a1_0 n_a0_0) a1 6)) dX6_takeErrors_16 p_X6_30 (k_eq (kkX10_copyRow) h3) (Nat.le_of_ble_eq_true rfl) (by first | rfl | decide | (repeat' split) <;> rfl) rfl (hN_sfi _ _ _ _) (hk_sfi _ _ _ _) (mE_sfi (k_eq (kkX10_copyRow) h3) (by decide) (ob_6_6 _ _ _)) ?_
  exact mW_vret dX6_takeErrors_19 rfl (⟨by first | with_reducible rfl | (simp only [sX6_takeErrors]; done) | rfl, by first | with_reducible rfl | (simp only [sX6_takeErrors]; done) | rfl⟩)
def sX7_takeOver (w : mH) (a0 : Nat) (a1 : Nat) (a1_0 : Nat) (a0_0 : Nat) (n_a1_0 : Nat) (n_a0_0 : Nat) (a1_1 : Nat) (a0_1 : Nat) (n_a1_1 : Nat) (n_a0_1 : Nat) (a1_2 : Nat) (a0_2 : Nat) (n_a1_2 : Nat) (n_a0_2 : Nat) (a1_4 : Nat) (a0_4 : Nat) (n_a1_4 : Nat) (n_a0_4 : Nat) (a1_5 : Nat) (a0_5 : Nat) (n_a1_5 : Nat) (n_a0_5 : Nat) (a1_6 : Nat) (a0_6 : Nat) (n_a1_6 : Nat) (n_a0_6 : Nat) : mH := (sfi (sX10_copyRow (sX10_copyRow (sX10_copyRow (sfi (sX10_copyRow (sX10_copyRow (sX10_copyRow w a1_0 a0_0 n_a1_0 n_a0_0) a1_1 a0_1 n_a1_1 n_a0_1) a1_2 a0_2 n_a1_2 n_a0_2) a0 3 (hfi (sX10_copyRow (sX10_copyRow (sX10_copyRow w a1_0 a0_0 n_a1_0 n_a0_0) a1_1 a0_1 n_a1_1 n_a0_1) a1_2 a0_2 n_a1_2 n_a0_2) a1 3)) a1_4 a0_4 n_a1_4 n_a0_4) a1_5 a0_5 n_a1_5 n_a0_5) a1_6 a0_6 n_a1_6 n_a0_6) a0 7 (hfi (sX10_copyRow (sX10_copyRow (sX10_copyRow (sfi (sX10_copyRow (sX10_copyRow (sX10_copyRow w a1_0 a0_0 n_a1_0 n_a0_0) a1_1 a0_1 n_a1_1 n_a0_1) a1_2 a0_2 n_a1_2 n_a0_2) a0 3 (hfi (sX10_copyRow (sX10_copyRow (sX10_copyRow w a1_0 a0_0 n_a1_0 n_a0_0) a1_1 a0_1 n_a1_1 n_a0_1) a1_2 a0_2 n_a1_2 n_a0_2) a1 3)) a1_4 a0_4 n_a1_4 n_a0_4) a1_5 a0_5 n_a1_5 n_a0_5) a1_6 a0_6 n_a1_6 n_a0_6) a1 7))
theorem kkX7_takeOver {w : mH} {a0 : Nat} {a1 : Nat} {a1_0 : Nat} {a0_0 : Nat} {n_a1_0 : Nat} {n_a0_0 : Nat} {a1_1 : Nat} {a0_1 : Nat} {n_a1_1 : Nat} {n_a0_1 : Nat} {a1_2 : Nat} {a0_2 : Nat} {n_a1_2 : Nat} {n_a0_2 : Nat} {a1_4 : Nat} {a0_4 : Nat} {n_a1_4 : Nat} {n_a0_4 : Nat} {a1_5 : Nat} {a0_5 : Nat} {n_a1_5 : Nat} {n_a0_5 : Nat} {a1_6 : Nat} {a0_6 : Nat} {n_a1_6 : Nat} {n_a0_6 : Nat} : hk (sX7_takeOver w a0 a1 a1_0 a0_0 n_a1_0 n_a0_0 a1_1 a0_1 n_a1_1 n_a0_1 a1_2 a0_2 n_a1_2 n_a0_2 a1_4 a0_4 n_a1_4 n_a0_4 a1_5 a0_5 n_a1_5 n_a0_5 a1_6 a0_6 n_a1_6 n_a0_6) = hk w := by unfold sX7_takeOver; simp only [apply_ite hk, e_hk_sfi, e_hk_sfl, e_hk_sai, e_hk_sal, e_hk_sax, ite_self, @kkX10_copyRow]
theorem rrX7_takeOver {w : mH} {a0 : Nat} {a1 : Nat} {a1_0 : Nat} {a0_0 : Nat} {n_a1_0 : Nat} {n_a0_0 : Nat} {a1_1 : Nat} {a0_1 : Nat} {n_a1_1 : Nat} {n_a0_1 : Nat} {a1_2 : Nat} {a0_2 : Nat} {n_a1_2 : Nat} {n_a0_2 : Nat} {a1_4 : Nat} {a0_4 : Nat} {n_a1_4 : Nat} {n_a0_4 : Nat} {a1_5 : Nat} {a0_5 : Nat} {n_a1_5 : Nat} {n_a0_5 : Nat} {a1_6 : Nat} {a0_6 : Nat} {n_a1_6 : Nat} {n_a0_6 : Nat} : hfr (sX7_takeOver w a0 a1 a1_0 a0_0 n_a1_0 n_a0_0 a1_1 a0_1 n_a1_1 n_a0_1 a1_2 a0_2 n_a1_2 n_a0_2 a1_4 a0_4 n_a1_4 n_a0_4 a1_5 a0_5 n_a1_5 n_a0_5 a1_6 a0_6 n_a1_6 n_a0_6) = hfr w := by unfold sX7_takeOver; simp only [apply_ite hfr, e_hfr_sfi, e_hfr_sfl, e_hfr_sai, e_hfr_sal, e_hfr_sax, ite_self, @rrX10_copyRow]
set_option maxHeartbeats 4000000 in
set_option maxRecDepth 100000 in
theorem qX7_takeOver {G : mG} {w : mH} {a0 a1 a1_0 a0_0 n_a1_0 n_a0_0 a1_1 a0_1 n_a1_1 n_a0_1 a1_2 a0_2 n_a1_2 n_a0_2 a1_4 a0_4 n_a1_4 n_a0_4 a1_5 a0_5 n_a1_5 n_a0_5 a1_6 a0_6 n_a1_6 n_a0_6 : Nat} (h1 : hk w a1 = (7, 0)) (h2 : hfr w a1 0 = some a1_0) (h3 : hk w a0 = (7, 0)) (h4 : hfr w a0 0 = some a0_0) (h5 : hk w a1_0 = (16, n_a1_0)) (h6 : hk w a0_0 = (16, n_a0_0)) (s1 : ¬ (iMin (nI n_a1_0) (nI n_a0_0)) < 0) (s2 : (0 : Int32).toNatClampNeg + (iMin (nI n_a1_0) (nI n_a0_0)).toNatClampNeg ≤ n_a1_0) (s3 : (0 : Int32).toNatClampNeg + (iMin (nI n_a1_0) (nI n_a0_0)).toNatClampNeg ≤ n_a0_0) (h7 : hfr w a1 1 = some a1_1) (h8 : hfr w a0 1 = some a0_1) (h9 : hk w a1_1 = (16, n_a1_1)) (h10 : hk w a0_1 = (16, n_a0_1)) (s4 : ¬ (iMin (nI n_a1_1) (nI n_a0_1)) < 0) (s5 : (0 : Int32).toNatClampNeg + (iMin (nI n_a1_1) (nI n_a0_1)).toNatClampNeg ≤ n_a1_1) (s6 : (0 : Int32).toNatClampNeg + (iMin (nI n_a1_1) (nI n_a0_1)).toNatClampNeg ≤ n_a0_1) (h11 : hfr w a1 2 = some a1_2) (h12 : hfr w a0 2 = some a0_2) (h13 : hk w a1_2 = (16, n_a1_2)) (h14 : hk w a0_2 = (16, n_a0_2)) (s7 : ¬ (iMin (nI n_a1_2) (nI n_a0_2)) < 0) (s8 : (0 : Int32).toNatClampNeg + (iMin (nI n_a1_2) (nI n_a0_2)).toNatClampNeg ≤ n_a1_2) (s9 : (0 : Int32).toNatClampNeg + (iMin (nI n_a1_2) (nI n_a0_2)).toNatClampNeg ≤ n_a0_2) (h15 : hfr w a1 4 = some a1_4) (h16 : hfr w a0 4 = some a0_4) (h17 : hk w a1_4 = (16, n_a1_4)) (h18 : hk w a0_4 = (16, n_a0_4)) (s10 : ¬ (iMin (nI n_a1_4) (nI n_a0_4)) < 0) (s11 : (0 : Int32).toNatClampNeg + (iMin (nI n_a1_4) (nI n_a0_4)).toNatClampNeg ≤ n_a1_4) (s12 : (0 : Int32).toNatClampNeg + (iMin (nI n_a1_4) (nI n_a0_4)).toNatClampNeg ≤ n_a0_4) (h19 : hfr w a1 5 = some a1_5) (h20 : hfr w a0 5 = some a0_5) (h21 : hk w a1_5 = (16, n_a1_5)) (h22 : hk w a0_5 = (16, n_a0_5)) (s13 : ¬ (iMin (nI n_a1_5) (nI n_a0_5)) < 0) (s14 : (0 : Int32).toNatClampNeg + (iMin (nI n_a1_5) (nI n_a0_5)).toNatClampNeg ≤ n_a1_5) (s15 : (0 : Int32).toNatClampNeg + (iMin (nI n_a1_5) (nI n_a0_5)).toNatClampNeg ≤ n_a0_5) (h23 : hfr w a1 6 = some a1_6) (h24 : hfr w a0 6 = some a0_6) (h25 : hk w a1_6 = (16, n_a1_6)) (h26 : hk w a0_6 = (16, n_a0_6)) (s16 : ¬ (iMin (nI n_a1_6) (nI n_a0_6)) < 0) (s17 : (0 : Int32).toNatClampNeg + (iMin (nI n_a1_6) (nI n_a0_6)).toNatClampNeg ≤ n_a1_6) (s18 : (0 : Int32).toNatClampNeg + (iMin (nI n_a1_6) (nI n_a0_6)).toNatClampNeg ≤ n_a0_6) : mC G mX7_takeOver 2 0 0 [.ref a0, .ref a1] w (mEq (.inl none) (sX7_takeOver w a0 a1 a1_0 a0_0 n_a1_0 n_a0_0 a1_1 a0_1 n_a1_1 n_a0_1 a1_2 a0_2 n_a1_2 n_a0_2 a1_4 a0_4 n_a1_4 n_a0_4 a1_5 a0_5 n_a1_5 n_a0_5 a1_6 a0_6 n_a1_6 n_a0_6)) := by
  refine mC_of (by decide +kernel) rfl (Nat.le_of_ble_eq_true rfl) rfl ?_
  refine mW_aload_n (j := 1) dX7_takeOver_0 rfl rfl ?_
  refine mW_getR dX7_takeOver_1 f_X7_9 h1 rfl h2 ?_
  refine mW_aload_n (j := 0) dX7_takeOver_4 rfl rfl ?_
  refine mW_getR dX7_takeOver_5 f_X7_9 h3 rfl h4 ?_
  refine mW_callSNe (As := [.ref a1_0, .ref a0_0]) (rest := []) (kc2 := 0) (ks2 := 0) dX7_takeOver_8 l_X7_62 rfl (qX10_copyRow (w := w) (a0 := a1_0) (a1 := a0_0) h5 h6 s1 s2 s3) (Nat.le_of_ble_eq_true rfl) (by decide) rfl rfl ?_
  refine mW_aload_n (j := 1) dX7_takeOver_11 rfl rfl ?_
  refine mW_getR dX7_takeOver_12 f_X7_15 (k_eq (kkX10_copyRow) h1) rfl (r_eq (rrX10_copyRow) h7) ?_
  refine mW_aload_n (j := 0) dX7_takeOver_15 rfl rfl ?_
  refine mW_getR dX7_takeOver_16 f_X7_15 (k_eq (kkX10_copyRow) h3) rfl (r_eq (rrX10_copyRow) h8) ?_
  refine mW_callSNe (As := [.ref a1_1, .ref a0_1]) (rest := []) (kc2 := 0) (ks2 := 0) dX7_takeOver_19 l_X7_62 rfl (qX10_copyRow (w := sX10_copyRow w a1_0 a0_0 n_a1_0 n_a0_0) (a0 := a1_1) (a1 := a0_1) (k_eq (kkX10_copyRow) h9) (k_eq (kkX10_copyRow) h10) s4 s5 s6) (Nat.le_of_ble_eq_true rfl) (by decide) rfl rfl ?_
  refine mW_aload_n (j := 1) dX7_takeOver_22 rfl rfl ?_
  refine mW_getR dX7_takeOver_23 f_X7_18 (k_eq (kkX10_copyRow) (k_eq (kkX10_copyRow) h1)) rfl (r_eq (rrX10_copyRow) (r_eq (rrX10_copyRow) h11)) ?_
  refine mW_aload_n (j := 0) dX7_takeOver_26 rfl rfl ?_
  refine mW_getR dX7_takeOver_27 f_X7_18 (k_eq (kkX10_copyRow) (k_eq (kkX10_copyRow) h3)) rfl (r_eq (rrX10_copyRow) (r_eq (rrX10_copyRow) h12)) ?_
  refine mW_callSNe (As := [.ref a1_2, .ref a0_2]) (rest := []) (kc2 := 0) (ks2 := 0) dX7_takeOver_30 l_X7_62 rfl (qX10_copyRow (w := sX10_copyRow (sX10_copyRow w a1_0 a0_0 n_a1_0 n_a0_0) a1_1 a0_1 n_a1_1 n_a0_1) (a0 := a1_2) (a1 := a0_2) (k_eq (kkX10_copyRow) (k_eq (kkX10_copyRow) h13)) (k_eq (kkX10_copyRow) (k_eq (kkX10_copyRow) h14)) s7 s8 s9) (Nat.le_of_ble_eq_true rfl) (by decide) rfl rfl ?_
  refine mW_aload_n (j := 0) dX7_takeOver_33 rfl rfl ?_
  refine mW_aload_n (j := 1) dX7_takeOver_34 rfl rfl ?_
  refine mW_get dX7_takeOver_35 f_X7_21 (k_eq (kkX10_copyRow) (k_eq (kkX10_copyRow) (k_eq (kkX10_copyRow) h1))) rfl ?_
  refine mW_put (ty := .int) (w2 := sfi (sX10_copyRow (sX10_copyRow (sX10_copyRow w a1_0 a0_0 n_a1_0 n_a0_0) a1_1 a0_1 n_a1_1 n_a0_1) a1_2 a0_2 n_a1_2 n_a0_2) a0 3 (hfi (sX10_copyRow (sX10_copyRow (sX10_copyRow w a1_0 a0_0 n_a1_0 n_a0_0) a1_1 a0_1 n_a1_1 n_a0_1) a1_2 a0_2 n_a1_2 n_a0_2) a1 3)) dX7_takeOver_38 p_X7_21 (k_eq (kkX10_copyRow) (k_eq (kkX10_copyRow) (k_eq (kkX10_copyRow) h3))) (Nat.le_of_ble_eq_true rfl) (by first | rfl | decide | (repeat' split) <;> rfl) rfl (hN_sfi _ _ _ _) (hk_sfi _ _ _ _) (mE_sfi (k_eq (kkX10_copyRow) (k_eq (kkX10_copyRow) (k_eq (kkX10_copyRow) h3))) (by decide) (ob_7_3 _ _ _)) ?_
  refine mW_aload_n (j := 1) dX7_takeOver_41 rfl rfl ?_
  refine mW_getR dX7_takeOver_42 f_X7_25 (k_sfi (k_eq (kkX10_copyRow) (k_eq (kkX10_copyRow) (k_eq (kkX10_copyRow) h1)))) rfl (r_sfi (r_eq (rrX10_copyRow) (r_eq (rrX10_copyRow) (r_eq (rrX10_copyRow) h15)))) ?_
  refine mW_aload_n (j := 0) dX7_takeOver_45 rfl rfl ?_
  refine mW_getR dX7_takeOver_46 f_X7_25 (k_sfi (k_eq (kkX10_copyRow) (k_eq (kkX10_copyRow) (k_eq (kkX10_copyRow) h3)))) rfl (r_sfi (r_eq (rrX10_copyRow) (r_eq (rrX10_copyRow) (r_eq (rrX10_copyRow) h16)))) ?_
  refine mW_callSNe (As := [.ref a1_4, .ref a0_4]) (rest := []) (kc2 := 0) (ks2 := 0) dX7_takeOver_49 l_X7_62 rfl (qX10_copyRow (w := sfi (sX10_copyRow (sX10_copyRow (sX10_copyRow w a1_0 a0_0 n_a1_0 n_a0_0) a1_1 a0_1 n_a1_1 n_a0_1) a1_2 a0_2 n_a1_2 n_a0_2) a0 3 (hfi (sX10_copyRow (sX10_copyRow (sX10_copyRow w a1_0 a0_0 n_a1_0 n_a0_0) a1_1 a0_1 n_a1_1 n_a0_1) a1_2 a0_2 n_a1_2 n_a0_2) a1 3)) (a0 := a1_4) (a1 := a0_4) (k_sfi (k_eq (kkX10_copyRow) (k_eq (kkX10_copyRow) (k_eq (kkX10_copyRow) h17)))) (k_sfi (k_eq (kkX10_copyRow) (k_eq (kkX10_copyRow) (k_eq (kkX10_copyRow) h18)))) s10 s11 s12) (Nat.le_of_ble_eq_true rfl) (by decide) rfl rfl ?_
  refine mW_aload_n (j := 1) dX7_takeOver_52 rfl rfl ?_
  refine mW_getR dX7_takeOver_53 f_X7_28 (k_eq (kkX10_copyRow) (k_sfi (k_eq (kkX10_copyRow) (k_eq (kkX10_copyRow) (k_eq (kkX10_copyRow) h1))))) rfl (r_eq (rrX10_copyRow) (r_sfi (r_eq (rrX10_copyRow) (r_eq (rrX10_copyRow) (r_eq (rrX10_copyRow) h19))))) ?_
  refine mW_aload_n (j := 0) dX7_takeOver_56 rfl rfl ?_
  refine mW_getR dX7_takeOver_57 f_X7_28 (k_eq (kkX10_copyRow) (k_sfi (k_eq (kkX10_copyRow) (k_eq (kkX10_copyRow) (k_eq (kkX10_copyRow) h3))))) rfl (r_eq (rrX10_copyRow) (r_sfi (r_eq (rrX10_copyRow) (r_eq (rrX10_copyRow) (r_eq (rrX10_copyRow) h20))))) ?_
  refine mW_callSNe (As := [.ref a1_5, .ref a0_5]) (rest := []) (kc2 := 0) (ks2 := 0) dX7_takeOver_60 l_X7_62 rfl (qX10_copyRow (w := sX10_copyRow (sfi (sX10_copyRow (sX10_copyRow (sX10_copyRow w a1_0 a0_0 n_a1_0 n_a0_0) a1_1 a0_1 n_a1_1 n_a0_1) a1_2 a0_2 n_a1_2 n_a0_2) a0 3 (hfi (sX10_copyRow (sX10_copyRow (sX10_copyRow w a1_0 a0_0 n_a1_0 n_a0_0) a1_1 a0_1 n_a1_1 n_a0_1) a1_2 a0_2 n_a1_2 n_a0_2) a1 3)) a1_4 a0_4 n_a1_4 n_a0_4) (a0 := a1_5) (a1 := a0_5) (k_eq (kkX10_copyRow) (k_sfi (k_eq (kkX10_copyRow) (k_eq (kkX10_copyRow) (k_eq (kkX10_copyRow) h21))))) (k_eq (kkX10_copyRow) (k_sfi (k_eq (kkX10_copyRow) (k_eq (kkX10_copyRow) (k_eq (kkX10_copyRow) h22))))) s13 s14 s15) (Nat.le_of_ble_eq_true rfl) (by decide) rfl rfl ?_
  refine mW_aload_n (j := 1) dX7_takeOver_63 rfl rfl ?_
  refine mW_getR dX7_takeOver_64 f_X7_31 (k_eq (kkX10_copyRow) (k_eq (kkX10_copyRow) (k_sfi (k_eq (kkX10_copyRow) (k_eq (kkX10_copyRow) (k_eq (kkX10_copyRow) h1)))))) rfl (r_eq (rrX10_copyRow) (r_eq (rrX10_copyRow) (r_sfi (r_eq (rrX10_copyRow) (r_eq (rrX10_copyRow) (r_eq (rrX10_copyRow) h23)))))) ?_
  refine mW_aload_n (j := 0) dX7_takeOver_67 rfl rfl ?_
  refine mW_getR dX7_takeOver_68 f_X7_31 (k_eq (kkX10_copyRow) (k_eq (kkX10_copyRow) (k_sfi (k_eq (kkX10_copyRow) (k_eq (kkX10_copyRow) (k_eq (kkX10_copyRow) h3)))))) rfl (r_eq (rrX10_copyRow) (r_eq (rrX10_copyRow) (r_sfi (r_eq (rrX10_copyRow) (r_eq (rrX10_copyRow) (r_eq (rrX10_copyRow) h24)))))) ?_
  refine mW_callSNe (As := [.ref a1_6, .ref a0_6]) (rest := []) (kc2 := 0) (ks2 := 0) dX7_takeOver_71 l_X7_62 rfl (qX10_copyRow (w := sX10_copyRow (sX10_copyRow (sfi (sX10_copyRow (sX10_copyRow (sX10_copyRow w a1_0 a0_0 n_a1_0 n_a0_0) a1_1 a0_1 n_a1_1 n_a0_1) a1_2 a0_2 n_a1_2 n_a0_2) a0 3 (hfi (sX10_copyRow (sX10_copyRow (sX10_copyRow w a1_0 a0_0 n_a1_0 n_a0_0) a1_1 a0_1 n_a1_1 n_a0_1) a1_2 a0_2 n_a1_2 n_a0_2) a1 3)) a1_4 a0_4 n_a1_4 n_a0_4) a1_5 a0_5 n_a1_5 n_a0_5) (a0 := a1_6) (a1 := a0_6) (k_eq (kkX10_copyRow) (k_eq (kkX10_copyRow) (k_sfi (k_eq (kkX10_copyRow) (k_eq (kkX10_copyRow) (k_eq (kkX10_copyRow) h25)))))) (k_eq (kkX10_copyRow) (k_eq (kkX10_copyRow) (k_sfi (k_eq (kkX10_copyRow) (k_eq (kkX10_copyRow) (k_eq (kkX10_copyRow) h26)))))) s16 s17 s18) (Nat.le_of_ble_eq_true rfl) (by decide) rfl rfl ?_
  refine mW_aload_n (j := 0) dX7_takeOver_74 rfl rfl ?_
  refine mW_aload_n (j := 1) dX7_takeOver_75 rfl rfl ?_
  refine mW_get dX7_takeOver_76 f_X7_34 (k_eq (kkX10_copyRow) (k_eq (kkX10_copyRow) (k_eq (kkX10_copyRow) (k_sfi (k_eq (kkX10_copyRow) (k_eq (kkX10_copyRow) (k_eq (kkX10_copyRow) h1))))))) rfl ?_
  refine mW_put (ty := .int) (w2 := sfi (sX10_copyRow (sX10_copyRow (sX10_copyRow (sfi (sX10_copyRow (sX10_copyRow (sX10_copyRow w a1_0 a0_0 n_a1_0 n_a0_0) a1_1 a0_1 n_a1_1 n_a0_1) a1_2 a0_2 n_a1_2 n_a0_2) a0 3 (hfi (sX10_copyRow (sX10_copyRow (sX10_copyRow w a1_0 a0_0 n_a1_0 n_a0_0) a1_1 a0_1 n_a1_1 n_a0_1) a1_2 a0_2 n_a1_2 n_a0_2) a1 3)) a1_4 a0_4 n_a1_4 n_a0_4) a1_5 a0_5 n_a1_5 n_a0_5) a1_6 a0_6 n_a1_6 n_a0_6) a0 7 (hfi (sX10_copyRow (sX10_copyRow (sX10_copyRow (sfi (sX10_copyRow (sX10_copyRow (sX10_copyRow w a1_0 a0_0 n_a1_0 n_a0_0) a1_1 a0_1 n_a1_1 n_a0_1) a1_2 a0_2 n_a1_2 n_a0_2) a0 3 (hfi (sX10_copyRow (sX10_copyRow (sX10_copyRow w a1_0 a0_0 n_a1_0 n_a0_0) a1_1 a0_1 n_a1_1 n_a0_1) a1_2 a0_2 n_a1_2 n_a0_2) a1 3)) a1_4 a0_4 n_a1_4 n_a0_4) a1_5 a0_5 n_a1_5 n_a0_5) a1_6 a0_6 n_a1_6 n_a0_6) a1 7)) dX7_takeOver_79 p_X7_34 (k_eq (kkX10_copyRow) (k_eq (kkX10_copyRow) (k_eq (kkX10_copyRow) (k_sfi (k_eq (kkX10_copyRow) (k_eq (kkX10_copyRow) (k_eq (kkX10_copyRow) h3))))))) (Nat.le_of_ble_eq_true rfl) (by first | rfl | decide | (repeat' split) <;> rfl) rfl (hN_sfi _ _ _ _) (hk_sfi _ _ _ _) (mE_sfi (k_eq (kkX10_copyRow) (k_eq (kkX10_copyRow) (k_eq (kkX10_copyRow) (k_sfi (k_eq (kkX10_copyRow) (k_eq (kkX10_copyRow) (k_eq (kkX10_copyRow) h3))))))) (by decide) (ob_7_7 _ _ _)) ?_
  exact mW_vret dX7_takeOver_82 rfl (⟨by first | with_reducible rfl | (simp only [sX7_takeOver]; done) | rfl, by first | with_reducible rfl | (simp only [sX7_takeOver]; done) | rfl⟩)
def vX8_readSign (w : mH) (a0 : Nat) (x1 : Int32) (a0_0 : Nat) : Int32 := (if (vX8_sign w a0 a0_0) = x1 then 1 else 0)
def sX8_readSign (w : mH) (a0 : Nat) (x1 : Int32) (a0_0 : Nat) : mH := (if (vX8_sign w a0 a0_0) = x1 then (sfi w a0 4 ((hfi w a0 4) + 1)) else (sX8_failAt w a0 (hfi w a0 4)))
theorem kkX8_readSign {w : mH} {a0 : Nat} {x1 : Int32} {a0_0 : Nat} : hk (sX8_readSign w a0 x1 a0_0) = hk w := by unfold sX8_readSign; simp only [apply_ite hk, e_hk_sfi, e_hk_sfl, e_hk_sai, e_hk_sal, e_hk_sax, ite_self, @kkX8_failAt]
theorem rrX8_readSign {w : mH} {a0 : Nat} {x1 : Int32} {a0_0 : Nat} : hfr (sX8_readSign w a0 x1 a0_0) = hfr w := by unfold sX8_readSign; simp only [apply_ite hfr, e_hfr_sfi, e_hfr_sfl, e_hfr_sai, e_hfr_sal, e_hfr_sax, ite_self, @rrX8_failAt]
set_option maxHeartbeats 4000000 in
set_option maxRecDepth 100000 in
theorem qX8_readSign {G : mG} {w : mH} {a0 : Nat} {x1 : Int32} {a0_0 n_a0_0 : Nat} (h1 : hk w a0 = (8, 0)) (h2 : hfr w a0 0 = some a0_0) (h3 : hk w a0_0 = (18, n_a0_0)) (s1 : (¬ ((hfi w a0 4) < 0)) → (¬ ((hfi w a0 1) ≤ (hfi w a0 4))) → (¬ (50 ≤ (hfi w a0 4))) → vp_in (hfi w a0 4) n_a0_0) (s2 : (¬ ((hfi w a0 4) < 0)) → (¬ ((hfi w a0 1) ≤ (hfi w a0 4))) → (¬ (50 ≤ (hfi w a0 4))) → narrow .char (.int (hai w a0_0 ((hfi w a0 4).toNatClampNeg))) = .int (hai w a0_0 ((hfi w a0 4).toNatClampNeg))) : mC G mX8_readSign 2 0 0 [.ref a0, .int x1] w (mEq (.inl (some (.int (vX8_readSign w a0 x1 a0_0)))) (sX8_readSign w a0 x1 a0_0)) := by
  refine mC_of (by decide +kernel) rfl (Nat.le_of_ble_eq_true rfl) rfl ?_
  refine mW_aload_n (j := 0) dX8_readSign_0 rfl rfl ?_
  refine mW_callVe (As := []) (rest := []) (kc2 := 0) (ks2 := 0) dX8_readSign_1 l_X8_54 rfl h1 rfl (by decide) (qX8_sign (w := w) (a0 := a0) h1 h2 h3 s1 s2) (Nat.le_of_ble_eq_true rfl) (by decide) rfl rfl ?_
  refine mW_iload_n (j := 1) dX8_readSign_4 rfl rfl ?_
  refine mW_icmp_eq (tgt := 17) dX8_readSign_5 (by decide) (fun c1 => ?_) (fun c1 => ?_)
  · refine mW_aload_n (j := 0) dX8_readSign_17 rfl rfl ?_
    refine mW_dup dX8_readSign_18 rfl ?_
    refine mW_get dX8_readSign_19 f_X8_29 h1 rfl ?_
    refine mW_iconst (v := 1) dX8_readSign_22 (by decide) ?_
    refine mW_iadd dX8_readSign_23 ?_
    refine mW_put (ty := .int) (w2 := sfi w a0 4 ((hfi w a0 4) + 1)) dX8_readSign_24 p_X8_29 h1 (Nat.le_of_ble_eq_true rfl) (by first | rfl | decide | (repeat' split) <;> rfl) rfl (hN_sfi _ _ _ _) (hk_sfi _ _ _ _) (mE_sfi h1 (by decide) (ob_8_4 _ _ _)) ?_
    refine mW_iconst (v := 1) dX8_readSign_27 (by decide) ?_
    exact mW_zret (ty := .boolean) dX8_readSign_28 rfl (by first | rfl | decide) (⟨by first | with_reducible rfl | (simp only [vX8_readSign, sX8_readSign, if_pos c1]; done) | rfl, by first | with_reducible rfl | (simp only [vX8_readSign, sX8_readSign, if_pos c1]; done) | rfl⟩)
  · refine mW_aload_n (j := 0) dX8_readSign_8 rfl rfl ?_
    refine mW_aload_n (j := 0) dX8_readSign_9 rfl rfl ?_
    refine mW_get dX8_readSign_10 f_X8_29 h1 rfl ?_
    refine mW_callVe (As := [.int (hfi w a0 4)]) (rest := []) (kc2 := 0) (ks2 := 0) dX8_readSign_13 l_X8_50 rfl h1 rfl (by decide) (qX8_failAt (w := w) (a0 := a0) (x1 := hfi w a0 4) h1) (Nat.le_of_ble_eq_true rfl) (by decide) rfl rfl ?_
    exact mW_zret (ty := .boolean) dX8_readSign_16 rfl (by first | rfl | decide) (⟨by first | with_reducible rfl | (simp only [vX8_readSign, sX8_readSign, if_neg c1]; done) | rfl, by first | with_reducible rfl | (simp only [vX8_readSign, sX8_readSign, if_neg c1]; done) | rfl⟩)
def vX9_costAtIndexes (w : mH) (a0_3 : Nat) (a1_2 : Nat) (a0_2 : Nat) : Int64 := (if (vX10_isWithin (((((hai w a0_3 0) * (hai w a1_2 1)) + (hai w a0_3 1)) * (hai w a1_2 2)) + (hai w a0_3 2)) 0 215) = 0 then 0 else (hal w a0_2 ((((((hai w a0_3 0) * (hai w a1_2 1)) + (hai w a0_3 1)) * (hai w a1_2 2)) + (hai w a0_3 2)).toNatClampNeg)))
set_option maxHeartbeats 4000000 in
set_option maxRecDepth 100000 in
theorem qX9_costAtIndexes {G : mG} {w : mH} {a0 a1 a0_3 n_a0_3 a1_2 n_a1_2 a0_2 n_a0_2 : Nat} (h1 : hk w a0 = (9, 0)) (h2 : hfr w a0 3 = some a0_3) (h3 : hk w a0_3 = (16, n_a0_3)) (s1 : vp_in 0 n_a0_3) (h4 : hk w a1 = (1, 0)) (h5 : hfr w a1 2 = some a1_2) (h6 : hk w a1_2 = (16, n_a1_2)) (s2 : vp_in 1 n_a1_2) (s3 : vp_in 1 n_a0_3) (s4 : vp_in 2 n_a1_2) (s5 : vp_in 2 n_a0_3) (h7 : hfr w a0 2 = some a0_2) (h8 : hk w a0_2 = (17, n_a0_2)) (s6 : (¬ ((vX10_isWithin (((((hai w a0_3 0) * (hai w a1_2 1)) + (hai w a0_3 1)) * (hai w a1_2 2)) + (hai w a0_3 2)) 0 215) = 0)) → vp_in (((((hai w a0_3 0) * (hai w a1_2 1)) + (hai w a0_3 1)) * (hai w a1_2 2)) + (hai w a0_3 2)) n_a0_2) : mC G mX9_costAtIndexes 2 0 0 [.ref a0, .ref a1] w (mEq (.inl (some (.long (vX9_costAtIndexes w a0_3 a1_2 a0_2)))) w) := by
  refine mC_of (by decide +kernel) rfl (Nat.le_of_ble_eq_true rfl) rfl ?_
  refine mW_aload_n (j := 0) dX9_costAtIndexes_0 rfl rfl ?_
  refine mW_getR dX9_costAtIndexes_1 f_X9_29 h1 rfl h2 ?_
  refine mW_iconst (v := 0) dX9_costAtIndexes_4 (by decide) ?_
  refine mW_ialdJ dX9_costAtIndexes_5 h3 s1 (j := 0) (by decide) ?_
  refine mW_aload_n (j := 1) dX9_costAtIndexes_6 rfl rfl ?_
  refine mW_getR dX9_costAtIndexes_7 f_X9_67 h4 rfl h5 ?_
  refine mW_iconst (v := 1) dX9_costAtIndexes_10 (by decide) ?_
  refine mW_ialdJ dX9_costAtIndexes_11 h6 s2 (j := 1) (by decide) ?_
  refine mW_imul dX9_costAtIndexes_12 ?_
  refine mW_aload_n (j := 0) dX9_costAtIndexes_13 rfl rfl ?_
  refine mW_getR dX9_costAtIndexes_14 f_X9_29 h1 rfl h2 ?_
  refine mW_iconst (v := 1) dX9_costAtIndexes_17 (by decide) ?_
  refine mW_ialdJ dX9_costAtIndexes_18 h3 s3 (j := 1) (by decide) ?_
  refine mW_iadd dX9_costAtIndexes_19 ?_
  refine mW_aload_n (j := 1) dX9_costAtIndexes_20 rfl rfl ?_
  refine mW_getR dX9_costAtIndexes_21 f_X9_67 h4 rfl h5 ?_
  refine mW_iconst (v := 2) dX9_costAtIndexes_24 (by decide) ?_
  refine mW_ialdJ dX9_costAtIndexes_25 h6 s4 (j := 2) (by decide) ?_
  refine mW_imul dX9_costAtIndexes_26 ?_
  refine mW_aload_n (j := 0) dX9_costAtIndexes_27 rfl rfl ?_
  refine mW_getR dX9_costAtIndexes_28 f_X9_29 h1 rfl h2 ?_
  refine mW_iconst (v := 2) dX9_costAtIndexes_31 (by decide) ?_
  refine mW_ialdJ dX9_costAtIndexes_32 h3 s5 (j := 2) (by decide) ?_
  refine mW_iadd dX9_costAtIndexes_33 ?_
  refine mW_istore_n (lv2 := [(2, .int (((((hai w a0_3 0) * (hai w a1_2 1)) + (hai w a0_3 1)) * (hai w a1_2 2)) + (hai w a0_3 2))), (0, .ref a0), (1, .ref a1)]) dX9_costAtIndexes_34 rfl (by decide) rfl ?_
  refine mW_iload_n (j := 0) dX9_costAtIndexes_35 rfl rfl ?_
  refine mW_iconst (v := 0) dX9_costAtIndexes_36 (by decide) ?_
  refine mW_sipush (v := 215) dX9_costAtIndexes_37 (by decide) ?_
  refine mW_callSNe (As := [.int (((((hai w a0_3 0) * (hai w a1_2 1)) + (hai w a0_3 1)) * (hai w a1_2 2)) + (hai w a0_3 2)), .int 0, .int 215]) (rest := []) (kc2 := 0) (ks2 := 0) dX9_costAtIndexes_40 l_X9_82 rfl (qX10_isWithin (w := w) (x0 := ((((hai w a0_3 0) * (hai w a1_2 1)) + (hai w a0_3 1)) * (hai w a1_2 2)) + (hai w a0_3 2)) (x1 := 0) (x2 := 215)) (Nat.le_of_ble_eq_true rfl) (by decide) rfl rfl ?_
  refine mW_if_eq (tgt := 55) dX9_costAtIndexes_43 (by decide) (fun c1 => ?_) (fun c1 => ?_)
  · refine mW_lconst (v := 0) dX9_costAtIndexes_55 (by decide) ?_
    exact mW_lret dX9_costAtIndexes_56 rfl (⟨by first | with_reducible rfl | (simp only [vX9_costAtIndexes, if_pos c1]; done) | rfl, by first | with_reducible rfl | (simp only [vX9_costAtIndexes, if_pos c1]; done) | rfl⟩)
  · refine mW_aload_n (j := 1) dX9_costAtIndexes_46 rfl rfl ?_
    refine mW_getR dX9_costAtIndexes_47 f_X9_25 h1 rfl h7 ?_
    refine mW_iload_n (j := 0) dX9_costAtIndexes_50 rfl rfl ?_
    refine mW_laldJ dX9_costAtIndexes_51 h8 (s6 c1) rfl ?_
    refine mW_goto (tgt := 56) dX9_costAtIndexes_52 (by decide) ?_
    exact mW_lret dX9_costAtIndexes_56 rfl (⟨by first | with_reducible rfl | (simp only [vX9_costAtIndexes, if_neg c1]; done) | rfl, by first | with_reducible rfl | (simp only [vX9_costAtIndexes, if_neg c1]; done) | rfl⟩)
