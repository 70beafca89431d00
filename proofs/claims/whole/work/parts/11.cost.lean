abbrev mX6_measured : mM := (yX6_measured, cX6_measured, 3, (some .int), [])
theorem u636 : (Cond.code ⟨"LineFollowerBench$Trace", "sumOfErrors", "()I"⟩ prog_8_method_8_code 3 (some .int) : Cond) ∈ mTs := mTs_in 636 (by decide +kernel) (by decide +kernel)
theorem co_X6_sumOfErrors : mCode mX6_sumOfErrors := ⟨u636, u82, by decide⟩
theorem u633 : (Cond.methodLink "LineFollowerBench$Trace" 38 ⟨"LineFollowerBench$Trace", "sumOfErrors", "()I"⟩ : Cond) ∈ mTs := mTs_in 633 (by decide +kernel) (by decide +kernel)
theorem u635 : (Cond.instanceMethod ⟨"LineFollowerBench$Trace", "sumOfErrors", "()I"⟩ : Cond) ∈ mTs := mTs_in 635 (by decide +kernel) (by decide +kernel)
theorem u14 : (Cond.selects "LineFollowerBench$Trace" ⟨"LineFollowerBench$Trace", "sumOfErrors", "()I"⟩ ⟨"LineFollowerBench$Trace", "sumOfErrors", "()I"⟩ : Cond) ∈ mTs := mTs_in 14 (by decide +kernel) (by decide +kernel)
theorem l_X6_38 : mLinkV "LineFollowerBench$Trace" 38 0 mX6_sumOfErrors := ⟨⟨by decide, by decide, by decide +kernel⟩, co_X6_sumOfErrors, u633, u635, u14⟩
theorem u1388 : (Cond.code ⟨"LineFollowerBench$Trace", "greatestError", "()I"⟩ prog_8_method_9_code 3 (some .int) : Cond) ∈ mTs := mTs_in 1388 (by decide +kernel) (by decide +kernel)
theorem co_X6_greatestError : mCode mX6_greatestError := ⟨u1388, u82, by decide⟩
theorem u1385 : (Cond.methodLink "LineFollowerBench$Trace" 42 ⟨"LineFollowerBench$Trace", "greatestError", "()I"⟩ : Cond) ∈ mTs := mTs_in 1385 (by decide +kernel) (by decide +kernel)
theorem u1387 : (Cond.instanceMethod ⟨"LineFollowerBench$Trace", "greatestError", "()I"⟩ : Cond) ∈ mTs := mTs_in 1387 (by decide +kernel) (by decide +kernel)
theorem u34 : (Cond.selects "LineFollowerBench$Trace" ⟨"LineFollowerBench$Trace", "greatestError", "()I"⟩ ⟨"LineFollowerBench$Trace", "greatestError", "()I"⟩ : Cond) ∈ mTs := mTs_in 34 (by decide +kernel) (by decide +kernel)
theorem l_X6_42 : mLinkV "LineFollowerBench$Trace" 42 0 mX6_greatestError := ⟨⟨by decide, by decide, by decide +kernel⟩, co_X6_greatestError, u1385, u1387, u34⟩
theorem u640 : (Cond.code ⟨"LineFollowerBench$Trace", "overshoot", "()I"⟩ prog_8_method_10_code 3 (some .int) : Cond) ∈ mTs := mTs_in 640 (by decide +kernel) (by decide +kernel)
theorem co_X6_overshoot : mCode mX6_overshoot := ⟨u640, u82, by decide⟩
theorem u637 : (Cond.methodLink "LineFollowerBench$Trace" 45 ⟨"LineFollowerBench$Trace", "overshoot", "()I"⟩ : Cond) ∈ mTs := mTs_in 637 (by decide +kernel) (by decide +kernel)
theorem u639 : (Cond.instanceMethod ⟨"LineFollowerBench$Trace", "overshoot", "()I"⟩ : Cond) ∈ mTs := mTs_in 639 (by decide +kernel) (by decide +kernel)
theorem u15 : (Cond.selects "LineFollowerBench$Trace" ⟨"LineFollowerBench$Trace", "overshoot", "()I"⟩ ⟨"LineFollowerBench$Trace", "overshoot", "()I"⟩ : Cond) ∈ mTs := mTs_in 15 (by decide +kernel) (by decide +kernel)
theorem l_X6_45 : mLinkV "LineFollowerBench$Trace" 45 0 mX6_overshoot := ⟨⟨by decide, by decide, by decide +kernel⟩, co_X6_overshoot, u637, u639, u15⟩
theorem u628 : (Cond.code ⟨"LineFollowerBench$Trace", "settlingStep", "(I)I"⟩ prog_8_method_11_code 4 (some .int) : Cond) ∈ mTs := mTs_in 628 (by decide +kernel) (by decide +kernel)
theorem co_X6_settlingStep : mCode mX6_settlingStep := ⟨u628, u82, by decide⟩
theorem u625 : (Cond.methodLink "LineFollowerBench$Trace" 48 ⟨"LineFollowerBench$Trace", "settlingStep", "(I)I"⟩ : Cond) ∈ mTs := mTs_in 625 (by decide +kernel) (by decide +kernel)
theorem u627 : (Cond.instanceMethod ⟨"LineFollowerBench$Trace", "settlingStep", "(I)I"⟩ : Cond) ∈ mTs := mTs_in 627 (by decide +kernel) (by decide +kernel)
theorem u13 : (Cond.selects "LineFollowerBench$Trace" ⟨"LineFollowerBench$Trace", "settlingStep", "(I)I"⟩ ⟨"LineFollowerBench$Trace", "settlingStep", "(I)I"⟩ : Cond) ∈ mTs := mTs_in 13 (by decide +kernel) (by decide +kernel)
theorem l_X6_48 : mLinkV "LineFollowerBench$Trace" 48 1 mX6_settlingStep := ⟨⟨by decide, by decide, by decide +kernel⟩, co_X6_settlingStep, u625, u627, u13⟩
theorem u1392 : (Cond.code ⟨"LineFollowerBench$Trace", "crossings", "()I"⟩ prog_8_method_12_code 3 (some .int) : Cond) ∈ mTs := mTs_in 1392 (by decide +kernel) (by decide +kernel)
theorem co_X6_crossings : mCode mX6_crossings := ⟨u1392, u82, by decide⟩
theorem u1389 : (Cond.methodLink "LineFollowerBench$Trace" 52 ⟨"LineFollowerBench$Trace", "crossings", "()I"⟩ : Cond) ∈ mTs := mTs_in 1389 (by decide +kernel) (by decide +kernel)
theorem u1391 : (Cond.instanceMethod ⟨"LineFollowerBench$Trace", "crossings", "()I"⟩ : Cond) ∈ mTs := mTs_in 1391 (by decide +kernel) (by decide +kernel)
theorem u35 : (Cond.selects "LineFollowerBench$Trace" ⟨"LineFollowerBench$Trace", "crossings", "()I"⟩ ⟨"LineFollowerBench$Trace", "crossings", "()I"⟩ : Cond) ∈ mTs := mTs_in 35 (by decide +kernel) (by decide +kernel)
theorem l_X6_52 : mLinkV "LineFollowerBench$Trace" 52 0 mX6_crossings := ⟨⟨by decide, by decide, by decide +kernel⟩, co_X6_crossings, u1389, u1391, u35⟩
theorem u648 : (Cond.code ⟨"LineFollowerBench$Trace", "saturatedSteps", "()I"⟩ prog_8_method_14_code 3 (some .int) : Cond) ∈ mTs := mTs_in 648 (by decide +kernel) (by decide +kernel)
theorem co_X6_saturatedSteps : mCode mX6_saturatedSteps := ⟨u648, u82, by decide⟩
theorem u645 : (Cond.methodLink "LineFollowerBench$Trace" 55 ⟨"LineFollowerBench$Trace", "saturatedSteps", "()I"⟩ : Cond) ∈ mTs := mTs_in 645 (by decide +kernel) (by decide +kernel)
theorem u647 : (Cond.instanceMethod ⟨"LineFollowerBench$Trace", "saturatedSteps", "()I"⟩ : Cond) ∈ mTs := mTs_in 647 (by decide +kernel) (by decide +kernel)
theorem u16 : (Cond.selects "LineFollowerBench$Trace" ⟨"LineFollowerBench$Trace", "saturatedSteps", "()I"⟩ ⟨"LineFollowerBench$Trace", "saturatedSteps", "()I"⟩ : Cond) ∈ mTs := mTs_in 16 (by decide +kernel) (by decide +kernel)
theorem l_X6_55 : mLinkV "LineFollowerBench$Trace" 55 0 mX6_saturatedSteps := ⟨⟨by decide, by decide, by decide +kernel⟩, co_X6_saturatedSteps, u645, u647, u16⟩
theorem u652 : (Cond.code ⟨"LineFollowerBench$Trace", "actuatorChanges", "()I"⟩ prog_8_method_15_code 4 (some .int) : Cond) ∈ mTs := mTs_in 652 (by decide +kernel) (by decide +kernel)
theorem co_X6_actuatorChanges : mCode mX6_actuatorChanges := ⟨u652, u82, by decide⟩
theorem u649 : (Cond.methodLink "LineFollowerBench$Trace" 58 ⟨"LineFollowerBench$Trace", "actuatorChanges", "()I"⟩ : Cond) ∈ mTs := mTs_in 649 (by decide +kernel) (by decide +kernel)
theorem u651 : (Cond.instanceMethod ⟨"LineFollowerBench$Trace", "actuatorChanges", "()I"⟩ : Cond) ∈ mTs := mTs_in 651 (by decide +kernel) (by decide +kernel)
theorem u17 : (Cond.selects "LineFollowerBench$Trace" ⟨"LineFollowerBench$Trace", "actuatorChanges", "()I"⟩ ⟨"LineFollowerBench$Trace", "actuatorChanges", "()I"⟩ : Cond) ∈ mTs := mTs_in 17 (by decide +kernel) (by decide +kernel)
theorem l_X6_58 : mLinkV "LineFollowerBench$Trace" 58 0 mX6_actuatorChanges := ⟨⟨by decide, by decide, by decide +kernel⟩, co_X6_actuatorChanges, u649, u651, u17⟩
theorem u589 : (Cond.code ⟨"LineFollowerBench$Trace", "lastError", "()I"⟩ prog_8_method_7_code 1 (some .int) : Cond) ∈ mTs := mTs_in 589 (by decide +kernel) (by decide +kernel)
theorem co_X6_lastError : mCode mX6_lastError := ⟨u589, u82, by decide⟩
theorem u1393 : (Cond.methodLink "LineFollowerBench$Trace" 61 ⟨"LineFollowerBench$Trace", "lastError", "()I"⟩ : Cond) ∈ mTs := mTs_in 1393 (by decide +kernel) (by decide +kernel)
theorem u587 : (Cond.instanceMethod ⟨"LineFollowerBench$Trace", "lastError", "()I"⟩ : Cond) ∈ mTs := mTs_in 587 (by decide +kernel) (by decide +kernel)
theorem u588 : (Cond.selects "LineFollowerBench$Trace" ⟨"LineFollowerBench$Trace", "lastError", "()I"⟩ ⟨"LineFollowerBench$Trace", "lastError", "()I"⟩ : Cond) ∈ mTs := mTs_in 588 (by decide +kernel) (by decide +kernel)
theorem l_X6_61 : mLinkV "LineFollowerBench$Trace" 61 0 mX6_lastError := ⟨⟨by decide, by decide, by decide +kernel⟩, co_X6_lastError, u1393, u587, u588⟩
def vX6_measured (w : mH) (a0 : Nat) (x1 : Int32) (x2 : Int32) (e_a0 : Nat → Nat) (N_a0 : Nat) (a0_0 : Nat) : Int32 := (if x1 = 0 then (fSum (hai w (e_a0 0)) (N_a0 + 1)) else (if x1 = 1 then (fMax (hai w (e_a0 0)) N_a0) else (if x1 = 2 then (fOver (hai w (e_a0 0)) N_a0) else (if x1 = 3 then (fSet (hai w (e_a0 0)) x2 N_a0) else (if x1 = 4 then (fCross (hai w (e_a0 0)) N_a0) else (if x1 = 5 then (fSat (hai w (e_a0 5)) N_a0) else (if x1 = 6 then (fAct (hai w (e_a0 3)) N_a0) else (vX6_lastError w a0 a0_0))))))))
set_option maxHeartbeats 4000000 in
set_option maxRecDepth 100000 in
theorem qX6_measured {G : mG} {w : mH} {a0 : Nat} {x1 x2 : Int32} {e_a0 : Nat → Nat} {N_a0 a0_0 n_a0_0 : Nat} (h1 : hk w a0 = (6, 0)) (h2 : tAt w a0 e_a0 N_a0) (h3 : hfr w a0 0 = some a0_0) (h4 : hk w a0_0 = (16, n_a0_0)) (s1 : (¬ x1 = 0) → (¬ x1 = 1) → (¬ x1 = 2) → (¬ x1 = 3) → (¬ x1 = 4) → (¬ x1 = 5) → (¬ x1 = 6) → (¬ ((vX6_isMade w a0) = 0)) → vp_in (hfi w a0 6) n_a0_0) : mC G mX6_measured 3 0 0 [.ref a0, .int x1, .int x2] w (mEq (.inl (some (.int (vX6_measured w a0 x1 x2 e_a0 N_a0 a0_0)))) w) := by
  refine mC_of (by decide +kernel) rfl (Nat.le_of_ble_eq_true rfl) rfl ?_
  refine mW_iload_n (j := 1) dX6_measured_0 rfl rfl ?_
  by_cases c1 : x1 = 0
  · refine mW_tabIn (off := 43) (tgt := 44) dX6_measured_1 (by rw [c1]; decide) (by rw [c1]; decide) (by rw [c1]; rfl) (by decide) ?_
    refine mW_aload_n (j := 0) dX6_measured_44 rfl rfl ?_
    refine mW_callVe (As := []) (rest := []) (kc2 := 0) (ks2 := 0) dX6_measured_45 l_X6_38 rfl h1 rfl (by decide) (qX6_sumOfErrors (w := w) (a0 := a0) h2) (Nat.le_of_ble_eq_true rfl) (by decide) rfl rfl ?_
    exact mW_iret dX6_measured_48 rfl (⟨by first | with_reducible rfl | (simp only [vX6_measured, if_pos c1]; done) | rfl, by first | with_reducible rfl | (simp only [vX6_measured, if_pos c1]; done) | rfl⟩)
  by_cases c2 : x1 = 1
  · refine mW_tabIn (off := 48) (tgt := 49) dX6_measured_1 (by rw [c2]; decide) (by rw [c2]; decide) (by rw [c2]; rfl) (by decide) ?_
    refine mW_aload_n (j := 0) dX6_measured_49 rfl rfl ?_
    refine mW_callVe (As := []) (rest := []) (kc2 := 0) (ks2 := 0) dX6_measured_50 l_X6_42 rfl h1 rfl (by decide) (qX6_greatestError (w := w) (a0 := a0) h2) (Nat.le_of_ble_eq_true rfl) (by decide) rfl rfl ?_
    exact mW_iret dX6_measured_53 rfl (⟨by first | with_reducible rfl | (simp only [vX6_measured, if_neg c1, if_pos c2]; done) | rfl, by first | with_reducible rfl | (simp only [vX6_measured, if_neg c1, if_pos c2]; done) | rfl⟩)
  by_cases c3 : x1 = 2
  · refine mW_tabIn (off := 53) (tgt := 54) dX6_measured_1 (by rw [c3]; decide) (by rw [c3]; decide) (by rw [c3]; rfl) (by decide) ?_
    refine mW_aload_n (j := 0) dX6_measured_54 rfl rfl ?_
    refine mW_callVe (As := []) (rest := []) (kc2 := 0) (ks2 := 0) dX6_measured_55 l_X6_45 rfl h1 rfl (by decide) (qX6_overshoot (w := w) (a0 := a0) h2) (Nat.le_of_ble_eq_true rfl) (by decide) rfl rfl ?_
    exact mW_iret dX6_measured_58 rfl (⟨by first | with_reducible rfl | (simp only [vX6_measured, if_neg c1, if_neg c2, if_pos c3]; done) | rfl, by first | with_reducible rfl | (simp only [vX6_measured, if_neg c1, if_neg c2, if_pos c3]; done) | rfl⟩)
  by_cases c4 : x1 = 3
  · refine mW_tabIn (off := 58) (tgt := 59) dX6_measured_1 (by rw [c4]; decide) (by rw [c4]; decide) (by rw [c4]; rfl) (by decide) ?_
    refine mW_aload_n (j := 0) dX6_measured_59 rfl rfl ?_
    refine mW_iload_n (j := 2) dX6_measured_60 rfl rfl ?_
    refine mW_callVe (As := [.int x2]) (rest := []) (kc2 := 0) (ks2 := 0) dX6_measured_61 l_X6_48 rfl h1 rfl (by decide) (qX6_settlingStep (w := w) (a0 := a0) (x1 := x2) h2) (Nat.le_of_ble_eq_true rfl) (by decide) rfl rfl ?_
    exact mW_iret dX6_measured_64 rfl (⟨by first | with_reducible rfl | (simp only [vX6_measured, if_neg c1, if_neg c2, if_neg c3, if_pos c4]; done) | rfl, by first | with_reducible rfl | (simp only [vX6_measured, if_neg c1, if_neg c2, if_neg c3, if_pos c4]; done) | rfl⟩)
  by_cases c5 : x1 = 4
  · refine mW_tabIn (off := 64) (tgt := 65) dX6_measured_1 (by rw [c5]; decide) (by rw [c5]; decide) (by rw [c5]; rfl) (by decide) ?_
    refine mW_aload_n (j := 0) dX6_measured_65 rfl rfl ?_
    refine mW_callVe (As := []) (rest := []) (kc2 := 0) (ks2 := 0) dX6_measured_66 l_X6_52 rfl h1 rfl (by decide) (qX6_crossings (w := w) (a0 := a0) h2) (Nat.le_of_ble_eq_true rfl) (by decide) rfl rfl ?_
    exact mW_iret dX6_measured_69 rfl (⟨by first | with_reducible rfl | (simp only [vX6_measured, if_neg c1, if_neg c2, if_neg c3, if_neg c4, if_pos c5]; done) | rfl, by first | with_reducible rfl | (simp only [vX6_measured, if_neg c1, if_neg c2, if_neg c3, if_neg c4, if_pos c5]; done) | rfl⟩)
  by_cases c6 : x1 = 5
  · refine mW_tabIn (off := 69) (tgt := 70) dX6_measured_1 (by rw [c6]; decide) (by rw [c6]; decide) (by rw [c6]; rfl) (by decide) ?_
    refine mW_aload_n (j := 0) dX6_measured_70 rfl rfl ?_
    refine mW_callVe (As := []) (rest := []) (kc2 := 0) (ks2 := 0) dX6_measured_71 l_X6_55 rfl h1 rfl (by decide) (qX6_saturatedSteps (w := w) (a0 := a0) h2) (Nat.le_of_ble_eq_true rfl) (by decide) rfl rfl ?_
    exact mW_iret dX6_measured_74 rfl (⟨by first | with_reducible rfl | (simp only [vX6_measured, if_neg c1, if_neg c2, if_neg c3, if_neg c4, if_neg c5, if_pos c6]; done) | rfl, by first | with_reducible rfl | (simp only [vX6_measured, if_neg c1, if_neg c2, if_neg c3, if_neg c4, if_neg c5, if_pos c6]; done) | rfl⟩)
  by_cases c7 : x1 = 6
  · refine mW_tabIn (off := 74) (tgt := 75) dX6_measured_1 (by rw [c7]; decide) (by rw [c7]; decide) (by rw [c7]; rfl) (by decide) ?_
    refine mW_aload_n (j := 0) dX6_measured_75 rfl rfl ?_
    refine mW_callVe (As := []) (rest := []) (kc2 := 0) (ks2 := 0) dX6_measured_76 l_X6_58 rfl h1 rfl (by decide) (qX6_actuatorChanges (w := w) (a0 := a0) h2) (Nat.le_of_ble_eq_true rfl) (by decide) rfl rfl ?_
    exact mW_iret dX6_measured_79 rfl (⟨by first | with_reducible rfl | (simp only [vX6_measured, if_neg c1, if_neg c2, if_neg c3, if_neg c4, if_neg c5, if_neg c6, if_pos c7]; done) | rfl, by first | with_reducible rfl | (simp only [vX6_measured, if_neg c1, if_neg c2, if_neg c3, if_neg c4, if_neg c5, if_neg c6, if_pos c7]; done) | rfl⟩)
  refine mW_tabOut (tgt := 80) dX6_measured_1 (m_out (lo := 0) (n := 7) (x := x1) (by decide) (by decide) (fun v q1 q2 => (fun z => z.elim (fun e1 e2 => c1 (m_ti (k := 0) (by decide) (e2.trans e1))) (fun z => z.elim (fun e1 e2 => c2 (m_ti (k := 1) (by decide) (e2.trans e1))) (fun z => z.elim (fun e1 e2 => c3 (m_ti (k := 2) (by decide) (e2.trans e1))) (fun z => z.elim (fun e1 e2 => c4 (m_ti (k := 3) (by decide) (e2.trans e1))) (fun z => z.elim (fun e1 e2 => c5 (m_ti (k := 4) (by decide) (e2.trans e1))) (fun z => z.elim (fun e1 e2 => c6 (m_ti (k := 5) (by decide) (e2.trans e1))) (fun e1 e2 => c7 (m_ti (k := 6) (by decide) (e2.trans e1))))))))) (show v = 0 ∨ v = 1 ∨ v = 2 ∨ v = 3 ∨ v = 4 ∨ v = 5 ∨ v = 6 by omega))) (by decide) ?_
  refine mW_aload_n (j := 0) dX6_measured_80 rfl rfl ?_
  refine mW_callVe (As := []) (rest := []) (kc2 := 0) (ks2 := 0) dX6_measured_81 l_X6_61 rfl h1 rfl (by decide) (qX6_lastError (w := w) (a0 := a0) h1 h3 h4 (s1 c1 c2 c3 c4 c5 c6 c7)) (Nat.le_of_ble_eq_true rfl) (by decide) rfl rfl ?_
  exact mW_iret dX6_measured_84 rfl (⟨by first | with_reducible rfl | (simp only [vX6_measured, if_neg c1, if_neg c2, if_neg c3, if_neg c4, if_neg c5, if_neg c6, if_neg c7]; done) | rfl, by first | with_reducible rfl | (simp only [vX6_measured, if_neg c1, if_neg c2, if_neg c3, if_neg c4, if_neg c5, if_neg c6, if_neg c7]; done) | rfl⟩)
abbrev mX6_weighted : mM := (yX6_weighted, cX6_weighted, 6, (some .long), [])
def vX6_weighted (w : mH) (a1 : Nat) (x2 : Int32) (n_a1 : Nat) (e_a0 : Nat → Nat) (N_a0 : Nat) : Int64 := (if 5 ≤ (nI n_a1) then (if (fSet (hai w (e_a0 0)) x2 N_a0) = (-1) then (((((((hai w a1 0).toInt64) * ((fSum (hai w (e_a0 0)) (N_a0 + 1)).toInt64)) + (((hai w a1 1).toInt64) * ((fOver (hai w (e_a0 0)) N_a0).toInt64))) + (((hai w a1 2).toInt64) * ((fSat (hai w (e_a0 5)) N_a0).toInt64))) + (((hai w a1 3).toInt64) * ((fAct (hai w (e_a0 3)) N_a0).toInt64))) + (((hai w a1 4).toInt64) * ((1000 : Int32).toInt64))) else (((((((hai w a1 0).toInt64) * ((fSum (hai w (e_a0 0)) (N_a0 + 1)).toInt64)) + (((hai w a1 1).toInt64) * ((fOver (hai w (e_a0 0)) N_a0).toInt64))) + (((hai w a1 2).toInt64) * ((fSat (hai w (e_a0 5)) N_a0).toInt64))) + (((hai w a1 3).toInt64) * ((fAct (hai w (e_a0 3)) N_a0).toInt64))) + (((hai w a1 4).toInt64) * ((fSet (hai w (e_a0 0)) x2 N_a0).toInt64)))) else 0)
set_option maxHeartbeats 4000000 in
set_option maxRecDepth 100000 in
theorem qX6_weighted {G : mG} {w : mH} {a0 a1 : Nat} {x2 : Int32} {n_a1 : Nat} {e_a0 : Nat → Nat} {N_a0 : Nat} (h1 : hk w a1 = (16, n_a1)) (h2 : hk w a0 = (6, 0)) (h3 : tAt w a0 e_a0 N_a0) (s1 : (5 ≤ (nI n_a1)) → vp_in 0 n_a1) (s2 : (5 ≤ (nI n_a1)) → vp_in 1 n_a1) (s3 : (5 ≤ (nI n_a1)) → vp_in 2 n_a1) (s4 : (5 ≤ (nI n_a1)) → vp_in 3 n_a1) (s5 : (5 ≤ (nI n_a1)) → vp_in 4 n_a1) : mC G mX6_weighted 3 0 0 [.ref a0, .ref a1, .int x2] w (mEq (.inl (some (.long (vX6_weighted w a1 x2 n_a1 e_a0 N_a0)))) w) := by
  refine mC_of (by decide +kernel) rfl (Nat.le_of_ble_eq_true rfl) rfl ?_
  refine mW_aload_n (j := 1) dX6_weighted_0 rfl rfl ?_
  refine mW_alen dX6_weighted_1 h1 (by decide) (by decide) (by decide) ?_
  refine mW_iconst (v := 5) dX6_weighted_2 (by decide) ?_
  refine mW_icmp_ge (tgt := 8) dX6_weighted_3 (by decide) (fun c1 => ?_) (fun c1 => ?_)
  · refine mW_aload_n (j := 0) dX6_weighted_8 rfl rfl ?_
    refine mW_iload_n (j := 2) dX6_weighted_9 rfl rfl ?_
    refine mW_callVe (As := [.int x2]) (rest := []) (kc2 := 0) (ks2 := 0) dX6_weighted_10 l_X6_48 rfl h2 rfl (by decide) (qX6_settlingStep (w := w) (a0 := a0) (x1 := x2) h3) (Nat.le_of_ble_eq_true rfl) (by decide) rfl rfl ?_
    refine mW_istore_n (lv2 := [(3, .int (fSet (hai w (e_a0 0)) x2 N_a0)), (0, .ref a0), (1, .ref a1), (2, .int x2)]) dX6_weighted_13 rfl (by decide) rfl ?_
    refine mW_aload_n (j := 2) dX6_weighted_14 rfl rfl ?_
    refine mW_iconst (v := 0) dX6_weighted_15 (by decide) ?_
    refine mW_ialdJ dX6_weighted_16 h1 (s1 c1) (j := 0) (by decide) ?_
    refine mW_i2l dX6_weighted_17 ?_
    refine mW_aload_n (j := 1) dX6_weighted_18 rfl rfl ?_
    refine mW_callVe (As := []) (rest := [.long ((hai w a1 0).toInt64)]) (kc2 := 0) (ks2 := 0) dX6_weighted_19 l_X6_38 rfl h2 rfl (by decide) (qX6_sumOfErrors (w := w) (a0 := a0) h3) (Nat.le_of_ble_eq_true rfl) (by decide) rfl rfl ?_
    refine mW_i2l dX6_weighted_22 ?_
    refine mW_lmul dX6_weighted_23 ?_
    refine mW_lstore (lv2 := [(4, .long (((hai w a1 0).toInt64) * ((fSum (hai w (e_a0 0)) (N_a0 + 1)).toInt64))), (3, .int (fSet (hai w (e_a0 0)) x2 N_a0)), (0, .ref a0), (1, .ref a1), (2, .int x2)]) dX6_weighted_24 (by decide) rfl ?_
    refine mW_lload (j := 0) dX6_weighted_26 rfl ?_
    refine mW_aload_n (j := 3) dX6_weighted_28 rfl rfl ?_
    refine mW_iconst (v := 1) dX6_weighted_29 (by decide) ?_
    refine mW_ialdJ dX6_weighted_30 h1 (s2 c1) (j := 1) (by decide) ?_
    refine mW_i2l dX6_weighted_31 ?_
    refine mW_aload_n (j := 2) dX6_weighted_32 rfl rfl ?_
    refine mW_callVe (As := []) (rest := [.long ((hai w a1 1).toInt64), .long (((hai w a1 0).toInt64) * ((fSum (hai w (e_a0 0)) (N_a0 + 1)).toInt64))]) (kc2 := 0) (ks2 := 0) dX6_weighted_33 l_X6_45 rfl h2 rfl (by decide) (qX6_overshoot (w := w) (a0 := a0) h3) (Nat.le_of_ble_eq_true rfl) (by decide) rfl rfl ?_
    refine mW_i2l dX6_weighted_36 ?_
    refine mW_lmul dX6_weighted_37 ?_
    refine mW_ladd dX6_weighted_38 ?_
    refine mW_lstore (lv2 := [(4, .long ((((hai w a1 0).toInt64) * ((fSum (hai w (e_a0 0)) (N_a0 + 1)).toInt64)) + (((hai w a1 1).toInt64) * ((fOver (hai w (e_a0 0)) N_a0).toInt64)))), (3, .int (fSet (hai w (e_a0 0)) x2 N_a0)), (0, .ref a0), (1, .ref a1), (2, .int x2)]) dX6_weighted_39 (by decide) rfl ?_
    refine mW_lload (j := 0) dX6_weighted_41 rfl ?_
    refine mW_aload_n (j := 3) dX6_weighted_43 rfl rfl ?_
    refine mW_iconst (v := 2) dX6_weighted_44 (by decide) ?_
    refine mW_ialdJ dX6_weighted_45 h1 (s3 c1) (j := 2) (by decide) ?_
    refine mW_i2l dX6_weighted_46 ?_
    refine mW_aload_n (j := 2) dX6_weighted_47 rfl rfl ?_
    refine mW_callVe (As := []) (rest := [.long ((hai w a1 2).toInt64), .long ((((hai w a1 0).toInt64) * ((fSum (hai w (e_a0 0)) (N_a0 + 1)).toInt64)) + (((hai w a1 1).toInt64) * ((fOver (hai w (e_a0 0)) N_a0).toInt64)))]) (kc2 := 0) (ks2 := 0) dX6_weighted_48 l_X6_55 rfl h2 rfl (by decide) (qX6_saturatedSteps (w := w) (a0 := a0) h3) (Nat.le_of_ble_eq_true rfl) (by decide) rfl rfl ?_
    refine mW_i2l dX6_weighted_51 ?_
    refine mW_lmul dX6_weighted_52 ?_
    refine mW_ladd dX6_weighted_53 ?_
    refine mW_lstore (lv2 := [(4, .long (((((hai w a1 0).toInt64) * ((fSum (hai w (e_a0 0)) (N_a0 + 1)).toInt64)) + (((hai w a1 1).toInt64) * ((fOver (hai w (e_a0 0)) N_a0).toInt64))) + (((hai w a1 2).toInt64) * ((fSat (hai w (e_a0 5)) N_a0).toInt64)))), (3, .int (fSet (hai w (e_a0 0)) x2 N_a0)), (0, .ref a0), (1, .ref a1), (2, .int x2)]) dX6_weighted_54 (by decide) rfl ?_
    refine mW_lload (j := 0) dX6_weighted_56 rfl ?_
    refine mW_aload_n (j := 3) dX6_weighted_58 rfl rfl ?_
    refine mW_iconst (v := 3) dX6_weighted_59 (by decide) ?_
    refine mW_ialdJ dX6_weighted_60 h1 (s4 c1) (j := 3) (by decide) ?_
    refine mW_i2l dX6_weighted_61 ?_
    refine mW_aload_n (j := 2) dX6_weighted_62 rfl rfl ?_
    refine mW_callVe (As := []) (rest := [.long ((hai w a1 3).toInt64), .long (((((hai w a1 0).toInt64) * ((fSum (hai w (e_a0 0)) (N_a0 + 1)).toInt64)) + (((hai w a1 1).toInt64) * ((fOver (hai w (e_a0 0)) N_a0).toInt64))) + (((hai w a1 2).toInt64) * ((fSat (hai w (e_a0 5)) N_a0).toInt64)))]) (kc2 := 0) (ks2 := 0) dX6_weighted_63 l_X6_58 rfl h2 rfl (by decide) (qX6_actuatorChanges (w := w) (a0 := a0) h3) (Nat.le_of_ble_eq_true rfl) (by decide) rfl rfl ?_
    refine mW_i2l dX6_weighted_66 ?_
    refine mW_lmul dX6_weighted_67 ?_
    refine mW_ladd dX6_weighted_68 ?_
    refine mW_lstore (lv2 := [(4, .long ((((((hai w a1 0).toInt64) * ((fSum (hai w (e_a0 0)) (N_a0 + 1)).toInt64)) + (((hai w a1 1).toInt64) * ((fOver (hai w (e_a0 0)) N_a0).toInt64))) + (((hai w a1 2).toInt64) * ((fSat (hai w (e_a0 5)) N_a0).toInt64))) + (((hai w a1 3).toInt64) * ((fAct (hai w (e_a0 3)) N_a0).toInt64)))), (3, .int (fSet (hai w (e_a0 0)) x2 N_a0)), (0, .ref a0), (1, .ref a1), (2, .int x2)]) dX6_weighted_69 (by decide) rfl ?_
    refine mW_lload (j := 0) dX6_weighted_71 rfl ?_
    refine mW_aload_n (j := 3) dX6_weighted_73 rfl rfl ?_
    refine mW_iconst (v := 4) dX6_weighted_74 (by decide) ?_
    refine mW_ialdJ dX6_weighted_75 h1 (s5 c1) (j := 4) (by decide) ?_
    refine mW_i2l dX6_weighted_76 ?_
    refine mW_iload_n (j := 1) dX6_weighted_77 rfl rfl ?_
    refine mW_iconst (v := (-1)) dX6_weighted_78 (by decide) ?_
    refine mW_icmp_ne (tgt := 88) dX6_weighted_79 (by decide) (fun c2 => ?_) (fun c2 => ?_)
    · refine mW_iload_n (j := 1) dX6_weighted_88 rfl rfl ?_
      refine mW_i2l dX6_weighted_89 ?_
      refine mW_lmul dX6_weighted_90 ?_
      refine mW_ladd dX6_weighted_91 ?_
      refine mW_lstore (lv2 := [(4, .long (((((((hai w a1 0).toInt64) * ((fSum (hai w (e_a0 0)) (N_a0 + 1)).toInt64)) + (((hai w a1 1).toInt64) * ((fOver (hai w (e_a0 0)) N_a0).toInt64))) + (((hai w a1 2).toInt64) * ((fSat (hai w (e_a0 5)) N_a0).toInt64))) + (((hai w a1 3).toInt64) * ((fAct (hai w (e_a0 3)) N_a0).toInt64))) + (((hai w a1 4).toInt64) * ((fSet (hai w (e_a0 0)) x2 N_a0).toInt64)))), (3, .int (fSet (hai w (e_a0 0)) x2 N_a0)), (0, .ref a0), (1, .ref a1), (2, .int x2)]) dX6_weighted_92 (by decide) rfl ?_
      refine mW_lload (j := 0) dX6_weighted_94 rfl ?_
      exact mW_lret dX6_weighted_96 rfl (⟨by first | with_reducible rfl | (simp only [vX6_weighted, if_pos c1, if_neg c2]; done) | rfl, by first | with_reducible rfl | (simp only [vX6_weighted, if_pos c1, if_neg c2]; done) | rfl⟩)
    · refine mW_sipush (v := 1000) dX6_weighted_82 (by decide) ?_
      refine mW_goto (tgt := 89) dX6_weighted_85 (by decide) ?_
      refine mW_i2l dX6_weighted_89 ?_
      refine mW_lmul dX6_weighted_90 ?_
      refine mW_ladd dX6_weighted_91 ?_
      refine mW_lstore (lv2 := [(4, .long (((((((hai w a1 0).toInt64) * ((fSum (hai w (e_a0 0)) (N_a0 + 1)).toInt64)) + (((hai w a1 1).toInt64) * ((fOver (hai w (e_a0 0)) N_a0).toInt64))) + (((hai w a1 2).toInt64) * ((fSat (hai w (e_a0 5)) N_a0).toInt64))) + (((hai w a1 3).toInt64) * ((fAct (hai w (e_a0 3)) N_a0).toInt64))) + (((hai w a1 4).toInt64) * ((1000 : Int32).toInt64)))), (3, .int (fSet (hai w (e_a0 0)) x2 N_a0)), (0, .ref a0), (1, .ref a1), (2, .int x2)]) dX6_weighted_92 (by decide) rfl ?_
      refine mW_lload (j := 0) dX6_weighted_94 rfl ?_
      exact mW_lret dX6_weighted_96 rfl (⟨by first | with_reducible rfl | (simp only [vX6_weighted, if_pos c1, if_pos c2]; done) | rfl, by first | with_reducible rfl | (simp only [vX6_weighted, if_pos c1, if_pos c2]; done) | rfl⟩)
  · refine mW_lconst (v := 0) dX6_weighted_6 (by decide) ?_
    exact mW_lret dX6_weighted_7 rfl (⟨by first | with_reducible rfl | (simp only [vX6_weighted, if_neg c1]; done) | rfl, by first | with_reducible rfl | (simp only [vX6_weighted, if_neg c1]; done) | rfl⟩)
