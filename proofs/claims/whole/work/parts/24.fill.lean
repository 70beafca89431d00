abbrev mX9_fillCosts : mM := (yX9_fillCosts, cX9_fillCosts, 5, none, [])
theorem u495 : (Cond.code ⟨"LineFollowerBench$Simulation", "prepare", "(LLineFollowerBench$Setup;)V"⟩ prog_6_method_2_code 3 (none : Option ClassFile.FieldType) : Cond) ∈ mTs := mTs_in 495 (by decide +kernel) (by decide +kernel)
theorem co_X4_prepare : mCode mX4_prepare := ⟨u495, u81, by decide⟩
theorem u602 : (Cond.methodLink "LineFollowerBench$Tuner" 33 ⟨"LineFollowerBench$Simulation", "prepare", "(LLineFollowerBench$Setup;)V"⟩ : Cond) ∈ mTs := mTs_in 602 (by decide +kernel) (by decide +kernel)
theorem u493 : (Cond.instanceMethod ⟨"LineFollowerBench$Simulation", "prepare", "(LLineFollowerBench$Setup;)V"⟩ : Cond) ∈ mTs := mTs_in 493 (by decide +kernel) (by decide +kernel)
theorem u494 : (Cond.selects "LineFollowerBench$Simulation" ⟨"LineFollowerBench$Simulation", "prepare", "(LLineFollowerBench$Setup;)V"⟩ ⟨"LineFollowerBench$Simulation", "prepare", "(LLineFollowerBench$Setup;)V"⟩ : Cond) ∈ mTs := mTs_in 494 (by decide +kernel) (by decide +kernel)
theorem l_X9_33 : mLinkV "LineFollowerBench$Tuner" 33 1 mX4_prepare := ⟨⟨by decide, by decide, by decide +kernel⟩, co_X4_prepare, u602, u493, u494⟩
theorem u209 : (Cond.fieldLink "LineFollowerBench$Tuner" 37 "LineFollowerBench$Setup" "grid" "LLineFollowerBench$Grid;" : Cond) ∈ mTs := mTs_in 209 (by decide +kernel) (by decide +kernel)
theorem f_X9_37 : mFld "LineFollowerBench$Tuner" 37 3 2 := ⟨RX3, TX3, 5, "LineFollowerBench$Setup", rfl, by decide, in_X3, u209, Or.inl rfl, by decide⟩
theorem u610 : (Cond.code ⟨"LineFollowerBench$Tuner", "startIndexes", "()V"⟩ prog_11_method_3_code 2 (none : Option ClassFile.FieldType) : Cond) ∈ mTs := mTs_in 610 (by decide +kernel) (by decide +kernel)
theorem co_X9_startIndexes : mCode mX9_startIndexes := ⟨u610, u83, by decide⟩
theorem u607 : (Cond.methodLink "LineFollowerBench$Tuner" 49 ⟨"LineFollowerBench$Tuner", "startIndexes", "()V"⟩ : Cond) ∈ mTs := mTs_in 607 (by decide +kernel) (by decide +kernel)
theorem u609 : (Cond.instanceMethod ⟨"LineFollowerBench$Tuner", "startIndexes", "()V"⟩ : Cond) ∈ mTs := mTs_in 609 (by decide +kernel) (by decide +kernel)
theorem u11 : (Cond.selects "LineFollowerBench$Tuner" ⟨"LineFollowerBench$Tuner", "startIndexes", "()V"⟩ ⟨"LineFollowerBench$Tuner", "startIndexes", "()V"⟩ : Cond) ∈ mTs := mTs_in 11 (by decide +kernel) (by decide +kernel)
theorem l_X9_49 : mLinkV "LineFollowerBench$Tuner" 49 0 mX9_startIndexes := ⟨⟨by decide, by decide, by decide +kernel⟩, co_X9_startIndexes, u607, u609, u11⟩
set_option maxHeartbeats 4000000 in
set_option maxRecDepth 100000 in
theorem gX9_fillCosts_0 {G : mG} {w : mH} {Φ : mF} {a0 a1 : Nat} {A : Nat → Int32} {N a0_0 a1_2 a1_2_2 n_a1_2_2 a0_3 n_a0_3 : Nat} (h1 : hk w a0 = (9, 0)) (h2 : hfr w a0 0 = some a0_0) (h3 : hk w a0_0 = (4, 0)) (h4 : zSim w a0_0) (h5 : zSet w a1) (s1 : a0_0 + 8 ≤ a1 ∨ a1 + 17 ≤ a0_0) (s2 : sRep w a1 A) (s3 : A 13 = nI N) (s4 : N ≤ 200) (h6 : hk w a1 = (3, 0)) (h7 : hfr w a1 2 = some a1_2) (h8 : hk w a1_2 = (1, 0)) (h9 : hfr w a1_2 2 = some a1_2_2) (h10 : hk w a1_2_2 = (16, n_a1_2_2)) (s5 : vp_in 0 n_a1_2_2) (s6 : vp_in 1 n_a1_2_2) (s7 : vp_in 2 n_a1_2_2) (h11 : hfr w a0 3 = some a0_3) (h12 : hk w a0_3 = (16, n_a0_3)) (s8 : vp_in 0 n_a0_3) (s9 : vp_in 1 n_a0_3) (s10 : vp_in 2 n_a0_3) (k1 : ∀ w1 : mH, (mFr a0_0 (a0_0 + 8) w w1 ∧ pRep w1 a0_0 A N) → ∀ w2 : mH, (w2 = sX9_startIndexes w1 a0_3) → mW G mX9_fillCosts 8 0 0 22 [(0, .ref a0), (1, .ref a1), (2, .int (vX1_triples w1 a1_2_2)), (3, .int 0)] [] w2 Φ) : mW G mX9_fillCosts 8 0 0 0 [(0, .ref a0), (1, .ref a1)] [] w Φ := by
  refine mW_aload_n (j := 0) dX9_fillCosts_0 rfl rfl ?_
  refine mW_getR dX9_fillCosts_1 f_X9_12 h1 rfl h2 ?_
  refine mW_aload_n (j := 1) dX9_fillCosts_4 rfl rfl ?_
  refine mW_callV (As := [.ref a1]) (rest := []) (kc2 := 0) (ks2 := 0) dX9_fillCosts_5 l_X9_33 rfl h3 rfl (by decide) (rX4_prepare (w := w) (a0 := a0_0) (a1 := a1) h4 h5 s1 s2 s3 s4) (Nat.le_of_ble_eq_true rfl) (by decide) rfl rfl mP_x (mP_k (fun w1 q1 => ?_))
  refine mW_aload_n (j := 1) dX9_fillCosts_8 rfl rfl ?_
  refine mW_getR dX9_fillCosts_9 f_X9_37 (s2k (mS2.of q1.1.1) h6) rfl (s2r (mS2.of q1.1.1) h7) ?_
  refine mW_callVe (As := []) (rest := []) (kc2 := 0) (ks2 := 0) dX9_fillCosts_12 l_X9_43 rfl (s2k (mS2.of q1.1.1) h8) rfl (by decide) (qX1_triples (w := w1) (a0 := a1_2) (s2k (mS2.of q1.1.1) h8) (s2r (mS2.of q1.1.1) h9) (s2k (mS2.of q1.1.1) h10) s5 s6 s7) (Nat.le_of_ble_eq_true rfl) (by decide) rfl rfl ?_
  refine mW_istore_n (lv2 := [(2, .int (vX1_triples w1 a1_2_2)), (0, .ref a0), (1, .ref a1)]) dX9_fillCosts_15 rfl (by decide) rfl ?_
  refine mW_aload_n (j := 1) dX9_fillCosts_16 rfl rfl ?_
  refine mW_callVe (As := []) (rest := []) (kc2 := 0) (ks2 := 0) dX9_fillCosts_17 l_X9_49 rfl (s2k (mS2.of q1.1.1) h1) rfl (by decide) (qX9_startIndexes (w := w1) (a0 := a0) (s2k (mS2.of q1.1.1) h1) (s2r (mS2.of q1.1.1) h11) (s2k (mS2.of q1.1.1) h12) s8 s9 s10) (Nat.le_of_ble_eq_true rfl) (by decide) rfl rfl ?_
  refine mW_nm (fun w2 e1 => ?_)
  refine mW_iconst (v := 0) dX9_fillCosts_20 (by decide) ?_
  refine mW_istore_n (lv2 := [(3, .int 0), (2, .int (vX1_triples w1 a1_2_2)), (0, .ref a0), (1, .ref a1)]) dX9_fillCosts_21 rfl (by decide) rfl ?_
  refine mW_loc [2, 3, 1, 0] (lv2 := [(0, .ref a0), (1, .ref a1), (2, .int (vX1_triples w1 a1_2_2)), (3, .int 0)]) rfl ?_
  exact k1 w1 q1 w2 e1
theorem u324 : (Cond.fieldLink "LineFollowerBench$Tuner" 52 "LineFollowerBench$Simulation" "settings" "[I" : Cond) ∈ mTs := mTs_in 324 (by decide +kernel) (by decide +kernel)
theorem f_X9_52 : mFld "LineFollowerBench$Tuner" 52 4 0 := ⟨RX4, TX4, 11, "LineFollowerBench$Simulation", rfl, by decide, in_X4, u324, Or.inl rfl, by decide⟩
theorem u619 : (Cond.code ⟨"LineFollowerBench$Tuner", "trialCost", "(LLineFollowerBench$Setup;)J"⟩ prog_11_method_5_code 2 (some .long) : Cond) ∈ mTs := mTs_in 619 (by decide +kernel) (by decide +kernel)
theorem co_X9_trialCost : mCode mX9_trialCost := ⟨u619, u83, by decide⟩
theorem u616 : (Cond.methodLink "LineFollowerBench$Tuner" 59 ⟨"LineFollowerBench$Tuner", "trialCost", "(LLineFollowerBench$Setup;)J"⟩ : Cond) ∈ mTs := mTs_in 616 (by decide +kernel) (by decide +kernel)
theorem u618 : (Cond.instanceMethod ⟨"LineFollowerBench$Tuner", "trialCost", "(LLineFollowerBench$Setup;)J"⟩ : Cond) ∈ mTs := mTs_in 618 (by decide +kernel) (by decide +kernel)
theorem u12 : (Cond.selects "LineFollowerBench$Tuner" ⟨"LineFollowerBench$Tuner", "trialCost", "(LLineFollowerBench$Setup;)J"⟩ ⟨"LineFollowerBench$Tuner", "trialCost", "(LLineFollowerBench$Setup;)J"⟩ : Cond) ∈ mTs := mTs_in 12 (by decide +kernel) (by decide +kernel)
theorem l_X9_59 : mLinkV "LineFollowerBench$Tuner" 59 1 mX9_trialCost := ⟨⟨by decide, by decide, by decide +kernel⟩, co_X9_trialCost, u616, u618, u12⟩
theorem u656 : (Cond.code ⟨"LineFollowerBench$Tuner", "moveIndexes", "(LLineFollowerBench$Grid;)V"⟩ prog_11_method_4_code 3 (none : Option ClassFile.FieldType) : Cond) ∈ mTs := mTs_in 656 (by decide +kernel) (by decide +kernel)
theorem co_X9_moveIndexes : mCode mX9_moveIndexes := ⟨u656, u83, by decide⟩
theorem u653 : (Cond.methodLink "LineFollowerBench$Tuner" 63 ⟨"LineFollowerBench$Tuner", "moveIndexes", "(LLineFollowerBench$Grid;)V"⟩ : Cond) ∈ mTs := mTs_in 653 (by decide +kernel) (by decide +kernel)
theorem u655 : (Cond.instanceMethod ⟨"LineFollowerBench$Tuner", "moveIndexes", "(LLineFollowerBench$Grid;)V"⟩ : Cond) ∈ mTs := mTs_in 655 (by decide +kernel) (by decide +kernel)
theorem u18 : (Cond.selects "LineFollowerBench$Tuner" ⟨"LineFollowerBench$Tuner", "moveIndexes", "(LLineFollowerBench$Grid;)V"⟩ ⟨"LineFollowerBench$Tuner", "moveIndexes", "(LLineFollowerBench$Grid;)V"⟩ : Cond) ∈ mTs := mTs_in 18 (by decide +kernel) (by decide +kernel)
theorem l_X9_63 : mLinkV "LineFollowerBench$Tuner" 63 1 mX9_moveIndexes := ⟨⟨by decide, by decide, by decide +kernel⟩, co_X9_moveIndexes, u653, u655, u18⟩
set_option maxHeartbeats 4000000 in
set_option maxRecDepth 100000 in
theorem gX9_fillCosts_22 {G : mG} {w : mH} {Φ : mF} {a0 a1 : Nat} {x2 x3 : Int32} {S A : Nat → Int32} {N m a0_0 a0_0_0 a1_2 a0_3 n_a0_3 a1_2_0 n_a1_2_0 a1_2_1 n_a1_2_1 n_a0_0_0 a0_2 n_a0_2 : Nat} (h1 : hk w a0 = (9, 0)) (h2 : hfr w a0 0 = some a0_0) (h3 : hk w a0_0 = (4, 0)) (h4 : hfr w a0_0 0 = some a0_0_0) (h5 : hk w a1 = (3, 0)) (h6 : hfr w a1 2 = some a1_2) (h7 : hfr w a0 3 = some a0_3) (h8 : hk w a0_3 = (16, n_a0_3)) (s1 : vp_in 0 n_a0_3) (h9 : hk w a1_2 = (1, 0)) (h10 : hfr w a1_2 0 = some a1_2_0) (h11 : hk w a1_2_0 = (16, n_a1_2_0)) (s2 : (¬ (x2 ≤ x3)) → (¬ (216 ≤ x3)) → (¬ ((vX10_isWithin 0 0 2) = 0)) → vp_in 0 n_a1_2_0) (h12 : hfr w a1_2 1 = some a1_2_1) (h13 : hk w a1_2_1 = (16, n_a1_2_1)) (s3 : (¬ (x2 ≤ x3)) → (¬ (216 ≤ x3)) → (¬ ((vX10_isWithin 0 0 2) = 0)) → vp_in 0 n_a1_2_1) (h14 : hk w a0_0_0 = (16, n_a0_0_0)) (s4 : vp_in 0 n_a0_0_0) (s5 : vp_in 1 n_a0_3) (s6 : (¬ (x2 ≤ x3)) → (¬ (216 ≤ x3)) → ∀ w1 : mH, (w1 = sai w a0_0_0 0 (vX1_gainAt w 0 (hai w a0_3 0) a1_2_0 a1_2_1)) → (¬ ((vX10_isWithin 1 0 2) = 0)) → vp_in 1 n_a1_2_0) (s7 : (¬ (x2 ≤ x3)) → (¬ (216 ≤ x3)) → ∀ w1 : mH, (w1 = sai w a0_0_0 0 (vX1_gainAt w 0 (hai w a0_3 0) a1_2_0 a1_2_1)) → (¬ ((vX10_isWithin 1 0 2) = 0)) → vp_in 1 n_a1_2_1) (s8 : vp_in 1 n_a0_0_0) (s9 : vp_in 2 n_a0_3) (s10 : (¬ (x2 ≤ x3)) → (¬ (216 ≤ x3)) → ∀ w1 : mH, (w1 = sai w a0_0_0 0 (vX1_gainAt w 0 (hai w a0_3 0) a1_2_0 a1_2_1)) → ∀ w2 : mH, (w2 = sai w1 a0_0_0 1 (vX1_gainAt w1 1 (hai w1 a0_3 1) a1_2_0 a1_2_1)) → (¬ ((vX10_isWithin 2 0 2) = 0)) → vp_in 2 n_a1_2_0) (s11 : (¬ (x2 ≤ x3)) → (¬ (216 ≤ x3)) → ∀ w1 : mH, (w1 = sai w a0_0_0 0 (vX1_gainAt w 0 (hai w a0_3 0) a1_2_0 a1_2_1)) → ∀ w2 : mH, (w2 = sai w1 a0_0_0 1 (vX1_gainAt w1 1 (hai w1 a0_3 1) a1_2_0 a1_2_1)) → (¬ ((vX10_isWithin 2 0 2) = 0)) → vp_in 2 n_a1_2_1) (s12 : vp_in 2 n_a0_0_0) (h15 : hfr w a0 2 = some a0_2) (h16 : zTun w a0) (h17 : zSet w a1) (s13 : (¬ (x2 ≤ x3)) → (¬ (216 ≤ x3)) → ∀ w1 : mH, (w1 = sai w a0_0_0 0 (vX1_gainAt w 0 (hai w a0_3 0) a1_2_0 a1_2_1)) → ∀ w2 : mH, (w2 = sai w1 a0_0_0 1 (vX1_gainAt w1 1 (hai w1 a0_3 1) a1_2_0 a1_2_1)) → ∀ w3 : mH, (w3 = sai w2 a0_0_0 2 (vX1_gainAt w2 2 (hai w2 a0_3 2) a1_2_0 a1_2_1)) → a0 + 18 ≤ a1 ∨ a1 + 17 ≤ a0) (s14 : (¬ (x2 ≤ x3)) → (¬ (216 ≤ x3)) → ∀ w1 : mH, (w1 = sai w a0_0_0 0 (vX1_gainAt w 0 (hai w a0_3 0) a1_2_0 a1_2_1)) → ∀ w2 : mH, (w2 = sai w1 a0_0_0 1 (vX1_gainAt w1 1 (hai w1 a0_3 1) a1_2_0 a1_2_1)) → ∀ w3 : mH, (w3 = sai w2 a0_0_0 2 (vX1_gainAt w2 2 (hai w2 a0_3 2) a1_2_0 a1_2_1)) → mRun w3 (a0 + 1) (a0 + 9) S A N) (s15 : (¬ (x2 ≤ x3)) → (¬ (216 ≤ x3)) → ∀ w1 : mH, (w1 = sai w a0_0_0 0 (vX1_gainAt w 0 (hai w a0_3 0) a1_2_0 a1_2_1)) → ∀ w2 : mH, (w2 = sai w1 a0_0_0 1 (vX1_gainAt w1 1 (hai w1 a0_3 1) a1_2_0 a1_2_1)) → ∀ w3 : mH, (w3 = sai w2 a0_0_0 2 (vX1_gainAt w2 2 (hai w2 a0_3 2) a1_2_0 a1_2_1)) → sRep w3 a1 A) (h18 : hk w a0_2 = (17, n_a0_2)) (s16 : (¬ (x2 ≤ x3)) → (¬ (216 ≤ x3)) → ∀ w1 : mH, (w1 = sai w a0_0_0 0 (vX1_gainAt w 0 (hai w a0_3 0) a1_2_0 a1_2_1)) → ∀ w2 : mH, (w2 = sai w1 a0_0_0 1 (vX1_gainAt w1 1 (hai w1 a0_3 1) a1_2_0 a1_2_1)) → ∀ w3 : mH, (w3 = sai w2 a0_0_0 2 (vX1_gainAt w2 2 (hai w2 a0_3 2) a1_2_0 a1_2_1)) → ∀ w4 : mH, (mFr (a0 + 1) (a0 + 16) w3 w4 ∧ mRun w4 (a0 + 1) (a0 + 9) S A N) → vp_in x3 n_a0_2) (h19 : zGrid w a1_2) (s17 : (¬ (x2 ≤ x3)) → (¬ (216 ≤ x3)) → ∀ w1 : mH, (w1 = sai w a0_0_0 0 (vX1_gainAt w 0 (hai w a0_3 0) a1_2_0 a1_2_1)) → ∀ w2 : mH, (w2 = sai w1 a0_0_0 1 (vX1_gainAt w1 1 (hai w1 a0_3 1) a1_2_0 a1_2_1)) → ∀ w3 : mH, (w3 = sai w2 a0_0_0 2 (vX1_gainAt w2 2 (hai w2 a0_3 2) a1_2_0 a1_2_1)) → ∀ w4 : mH, (mFr (a0 + 1) (a0 + 16) w3 w4 ∧ mRun w4 (a0 + 1) (a0 + 9) S A N) → ∀ w5 : mH, (w5 = sal w4 a0_2 x3.toNatClampNeg (aCost S A N)) → a0 + 18 ≤ a1_2 ∨ a1_2 + 4 ≤ a0) (s18 : (¬ (x2 ≤ x3)) → (¬ (216 ≤ x3)) → ∀ w1 : mH, (w1 = sai w a0_0_0 0 (vX1_gainAt w 0 (hai w a0_3 0) a1_2_0 a1_2_1)) → ∀ w2 : mH, (w2 = sai w1 a0_0_0 1 (vX1_gainAt w1 1 (hai w1 a0_3 1) a1_2_0 a1_2_1)) → ∀ w3 : mH, (w3 = sai w2 a0_0_0 2 (vX1_gainAt w2 2 (hai w2 a0_3 2) a1_2_0 a1_2_1)) → ∀ w4 : mH, (mFr (a0 + 1) (a0 + 16) w3 w4 ∧ mRun w4 (a0 + 1) (a0 + 9) S A N) → ∀ w5 : mH, (w5 = sal w4 a0_2 x3.toNatClampNeg (aCost S A N)) → gRep w5 a1_2 A) (s19 : (¬ (x2 ≤ x3)) → (¬ (216 ≤ x3)) → ∀ w1 : mH, (w1 = sai w a0_0_0 0 (vX1_gainAt w 0 (hai w a0_3 0) a1_2_0 a1_2_1)) → ∀ w2 : mH, (w2 = sai w1 a0_0_0 1 (vX1_gainAt w1 1 (hai w1 a0_3 1) a1_2_0 a1_2_1)) → ∀ w3 : mH, (w3 = sai w2 a0_0_0 2 (vX1_gainAt w2 2 (hai w2 a0_3 2) a1_2_0 a1_2_1)) → ∀ w4 : mH, (mFr (a0 + 1) (a0 + 16) w3 w4 ∧ mRun w4 (a0 + 1) (a0 + 9) S A N) → ∀ w5 : mH, (w5 = sal w4 a0_2 x3.toNatClampNeg (aCost S A N)) → gOK A) (s20 : (¬ (x2 ≤ x3)) → (¬ (216 ≤ x3)) → ∀ w1 : mH, (w1 = sai w a0_0_0 0 (vX1_gainAt w 0 (hai w a0_3 0) a1_2_0 a1_2_1)) → ∀ w2 : mH, (w2 = sai w1 a0_0_0 1 (vX1_gainAt w1 1 (hai w1 a0_3 1) a1_2_0 a1_2_1)) → ∀ w3 : mH, (w3 = sai w2 a0_0_0 2 (vX1_gainAt w2 2 (hai w2 a0_3 2) a1_2_0 a1_2_1)) → ∀ w4 : mH, (mFr (a0 + 1) (a0 + 16) w3 w4 ∧ mRun w4 (a0 + 1) (a0 + 9) S A N) → ∀ w5 : mH, (w5 = sal w4 a0_2 x3.toNatClampNeg (aCost S A N)) → m < gT A) (s21 : (¬ (x2 ≤ x3)) → (¬ (216 ≤ x3)) → ∀ w1 : mH, (w1 = sai w a0_0_0 0 (vX1_gainAt w 0 (hai w a0_3 0) a1_2_0 a1_2_1)) → ∀ w2 : mH, (w2 = sai w1 a0_0_0 1 (vX1_gainAt w1 1 (hai w1 a0_3 1) a1_2_0 a1_2_1)) → ∀ w3 : mH, (w3 = sai w2 a0_0_0 2 (vX1_gainAt w2 2 (hai w2 a0_3 2) a1_2_0 a1_2_1)) → ∀ w4 : mH, (mFr (a0 + 1) (a0 + 16) w3 w4 ∧ mRun w4 (a0 + 1) (a0 + 9) S A N) → ∀ w5 : mH, (w5 = sal w4 a0_2 x3.toNatClampNeg (aCost S A N)) → jRep w5 a0 A m) (k1 : (x2 ≤ x3) → Φ (.inl none) w) (k2 : (¬ (x2 ≤ x3)) → (216 ≤ x3) → Φ (.inl none) w) (k3 : (¬ (x2 ≤ x3)) → (¬ (216 ≤ x3)) → ∀ w1 : mH, (w1 = sai w a0_0_0 0 (vX1_gainAt w 0 (hai w a0_3 0) a1_2_0 a1_2_1)) → ∀ w2 : mH, (w2 = sai w1 a0_0_0 1 (vX1_gainAt w1 1 (hai w1 a0_3 1) a1_2_0 a1_2_1)) → ∀ w3 : mH, (w3 = sai w2 a0_0_0 2 (vX1_gainAt w2 2 (hai w2 a0_3 2) a1_2_0 a1_2_1)) → ∀ w4 : mH, (mFr (a0 + 1) (a0 + 16) w3 w4 ∧ mRun w4 (a0 + 1) (a0 + 9) S A N) → ∀ w5 : mH, (w5 = sal w4 a0_2 x3.toNatClampNeg (aCost S A N)) → ∀ w6 : mH, (mFr (a0 + 17) (a0 + 18) w5 w6 ∧ (m + 1 < gT A → jRep w6 a0 A (m + 1))) → mW G mX9_fillCosts 8 0 0 22 [(0, .ref a0), (1, .ref a1), (2, .int x2), (3, .int (x3 + 1))] [] w6 Φ) : mW G mX9_fillCosts 8 0 0 22 [(0, .ref a0), (1, .ref a1), (2, .int x2), (3, .int x3)] [] w Φ := by
  refine mW_iload_n (j := 3) dX9_fillCosts_22 rfl rfl ?_
  refine mW_iload_n (j := 2) dX9_fillCosts_23 rfl rfl ?_
  refine mW_icmp_ge (tgt := 100) dX9_fillCosts_24 (by decide) (fun c1 => ?_) (fun c1 => ?_)
  · exact mW_vret dX9_fillCosts_100 rfl (k1 c1)
  · refine mW_iload_n (j := 3) dX9_fillCosts_27 rfl rfl ?_
    refine mW_sipush (v := 216) dX9_fillCosts_28 (by decide) ?_
    refine mW_icmp_ge (tgt := 100) dX9_fillCosts_31 (by decide) (fun c2 => ?_) (fun c2 => ?_)
    · exact mW_vret dX9_fillCosts_100 rfl (k2 c1 c2)
    · refine mW_iconst (v := 0) dX9_fillCosts_34 (by decide) ?_
      refine mW_istore (lv2 := [(4, .int 0), (0, .ref a0), (1, .ref a1), (2, .int x2), (3, .int x3)]) dX9_fillCosts_35 (by decide) rfl ?_
      refine mW_iload (j := 0) dX9_fillCosts_37 rfl ?_
      refine mW_iconst (v := 3) dX9_fillCosts_39 (by decide) ?_
      refine mW_icmp_ge (tgt := 75) dX9_fillCosts_40 (by decide) (fun c => absurd c (by decide)) (fun _ => ?_)
      refine mW_aload_n (j := 1) dX9_fillCosts_43 rfl rfl ?_
      refine mW_getR dX9_fillCosts_44 f_X9_12 h1 rfl h2 ?_
      refine mW_getR dX9_fillCosts_47 f_X9_52 h3 rfl h4 ?_
      refine mW_iload (j := 0) dX9_fillCosts_50 rfl ?_
      refine mW_aload_n (j := 2) dX9_fillCosts_52 rfl rfl ?_
      refine mW_getR dX9_fillCosts_53 f_X9_37 h5 rfl h6 ?_
      refine mW_iload (j := 0) dX9_fillCosts_56 rfl ?_
      refine mW_aload_n (j := 1) dX9_fillCosts_58 rfl rfl ?_
      refine mW_getR dX9_fillCosts_59 f_X9_29 h1 rfl h7 ?_
      refine mW_iload (j := 0) dX9_fillCosts_62 rfl ?_
      refine mW_ialdJ dX9_fillCosts_64 h8 s1 (j := 0) (by decide) ?_
      refine mW_callVe (As := [.int 0, .int (hai w a0_3 0)]) (rest := [.int 0, .ref a0_0_0]) (kc2 := 0) (ks2 := 0) dX9_fillCosts_65 l_X9_55 rfl h9 rfl (by decide) (qX1_gainAt (w := w) (a0 := a1_2) (x1 := 0) (x2 := hai w a0_3 0) h9 h10 h11 (s2 c1 c2) h12 h13 (s3 c1 c2)) (Nat.le_of_ble_eq_true rfl) (by decide) rfl rfl ?_
      refine mW_iastJ dX9_fillCosts_68 h14 s4 (j := 0) (by decide) ?_
      refine mW_nm (fun w1 e1 => ?_)
      refine mW_iinc (j := 0) (v := 1) (lv2 := [(4, .int 1), (0, .ref a0), (1, .ref a1), (2, .int x2), (3, .int x3)]) dX9_fillCosts_69 rfl (by decide) (by decide) rfl ?_
      refine mW_goto (tgt := 37) dX9_fillCosts_72 (by decide) ?_
      refine mW_iload (j := 0) dX9_fillCosts_37 rfl ?_
      refine mW_iconst (v := 3) dX9_fillCosts_39 (by decide) ?_
      refine mW_icmp_ge (tgt := 75) dX9_fillCosts_40 (by decide) (fun c => absurd c (by decide)) (fun _ => ?_)
      refine mW_aload_n (j := 1) dX9_fillCosts_43 rfl rfl ?_
      refine mW_getR dX9_fillCosts_44 f_X9_12 (s2k (S2_sai e1) h1) rfl (s2r (S2_sai e1) h2) ?_
      refine mW_getR dX9_fillCosts_47 f_X9_52 (s2k (S2_sai e1) h3) rfl (s2r (S2_sai e1) h4) ?_
      refine mW_iload (j := 0) dX9_fillCosts_50 rfl ?_
      refine mW_aload_n (j := 2) dX9_fillCosts_52 rfl rfl ?_
      refine mW_getR dX9_fillCosts_53 f_X9_37 (s2k (S2_sai e1) h5) rfl (s2r (S2_sai e1) h6) ?_
      refine mW_iload (j := 0) dX9_fillCosts_56 rfl ?_
      refine mW_aload_n (j := 1) dX9_fillCosts_58 rfl rfl ?_
      refine mW_getR dX9_fillCosts_59 f_X9_29 (s2k (S2_sai e1) h1) rfl (s2r (S2_sai e1) h7) ?_
      refine mW_iload (j := 0) dX9_fillCosts_62 rfl ?_
      refine mW_ialdJ dX9_fillCosts_64 (s2k (S2_sai e1) h8) s5 (j := 1) (by decide) ?_
      refine mW_callVe (As := [.int 1, .int (hai w1 a0_3 1)]) (rest := [.int 1, .ref a0_0_0]) (kc2 := 0) (ks2 := 0) dX9_fillCosts_65 l_X9_55 rfl (s2k (S2_sai e1) h9) rfl (by decide) (qX1_gainAt (w := w1) (a0 := a1_2) (x1 := 1) (x2 := hai w1 a0_3 1) (s2k (S2_sai e1) h9) (s2r (S2_sai e1) h10) (s2k (S2_sai e1) h11) (s6 c1 c2 w1 e1) (s2r (S2_sai e1) h12) (s2k (S2_sai e1) h13) (s7 c1 c2 w1 e1)) (Nat.le_of_ble_eq_true rfl) (by decide) rfl rfl ?_
      refine mW_iastJ dX9_fillCosts_68 (s2k (S2_sai e1) h14) s8 (j := 1) (by decide) ?_
      refine mW_nm (fun w2 e2 => ?_)
      refine mW_iinc (j := 0) (v := 2) (lv2 := [(4, .int 2), (0, .ref a0), (1, .ref a1), (2, .int x2), (3, .int x3)]) dX9_fillCosts_69 rfl (by decide) (by decide) rfl ?_
      refine mW_goto (tgt := 37) dX9_fillCosts_72 (by decide) ?_
      refine mW_iload (j := 0) dX9_fillCosts_37 rfl ?_
      refine mW_iconst (v := 3) dX9_fillCosts_39 (by decide) ?_
      refine mW_icmp_ge (tgt := 75) dX9_fillCosts_40 (by decide) (fun c => absurd c (by decide)) (fun _ => ?_)
      refine mW_aload_n (j := 1) dX9_fillCosts_43 rfl rfl ?_
      refine mW_getR dX9_fillCosts_44 f_X9_12 (s2k (S2_sai e2) (s2k (S2_sai e1) h1)) rfl (s2r (S2_sai e2) (s2r (S2_sai e1) h2)) ?_
      refine mW_getR dX9_fillCosts_47 f_X9_52 (s2k (S2_sai e2) (s2k (S2_sai e1) h3)) rfl (s2r (S2_sai e2) (s2r (S2_sai e1) h4)) ?_
      refine mW_iload (j := 0) dX9_fillCosts_50 rfl ?_
      refine mW_aload_n (j := 2) dX9_fillCosts_52 rfl rfl ?_
      refine mW_getR dX9_fillCosts_53 f_X9_37 (s2k (S2_sai e2) (s2k (S2_sai e1) h5)) rfl (s2r (S2_sai e2) (s2r (S2_sai e1) h6)) ?_
      refine mW_iload (j := 0) dX9_fillCosts_56 rfl ?_
      refine mW_aload_n (j := 1) dX9_fillCosts_58 rfl rfl ?_
      refine mW_getR dX9_fillCosts_59 f_X9_29 (s2k (S2_sai e2) (s2k (S2_sai e1) h1)) rfl (s2r (S2_sai e2) (s2r (S2_sai e1) h7)) ?_
      refine mW_iload (j := 0) dX9_fillCosts_62 rfl ?_
      refine mW_ialdJ dX9_fillCosts_64 (s2k (S2_sai e2) (s2k (S2_sai e1) h8)) s9 (j := 2) (by decide) ?_
      refine mW_callVe (As := [.int 2, .int (hai w2 a0_3 2)]) (rest := [.int 2, .ref a0_0_0]) (kc2 := 0) (ks2 := 0) dX9_fillCosts_65 l_X9_55 rfl (s2k (S2_sai e2) (s2k (S2_sai e1) h9)) rfl (by decide) (qX1_gainAt (w := w2) (a0 := a1_2) (x1 := 2) (x2 := hai w2 a0_3 2) (s2k (S2_sai e2) (s2k (S2_sai e1) h9)) (s2r (S2_sai e2) (s2r (S2_sai e1) h10)) (s2k (S2_sai e2) (s2k (S2_sai e1) h11)) (s10 c1 c2 w1 e1 w2 e2) (s2r (S2_sai e2) (s2r (S2_sai e1) h12)) (s2k (S2_sai e2) (s2k (S2_sai e1) h13)) (s11 c1 c2 w1 e1 w2 e2)) (Nat.le_of_ble_eq_true rfl) (by decide) rfl rfl ?_
      refine mW_iastJ dX9_fillCosts_68 (s2k (S2_sai e2) (s2k (S2_sai e1) h14)) s12 (j := 2) (by decide) ?_
      refine mW_nm (fun w3 e3 => ?_)
      refine mW_iinc (j := 0) (v := 3) (lv2 := [(4, .int 3), (0, .ref a0), (1, .ref a1), (2, .int x2), (3, .int x3)]) dX9_fillCosts_69 rfl (by decide) (by decide) rfl ?_
      refine mW_goto (tgt := 37) dX9_fillCosts_72 (by decide) ?_
      refine mW_iload (j := 0) dX9_fillCosts_37 rfl ?_
      refine mW_iconst (v := 3) dX9_fillCosts_39 (by decide) ?_
      refine mW_icmp_ge (tgt := 75) dX9_fillCosts_40 (by decide) (fun _ => ?_) (fun c => absurd (by decide) c)
      refine mW_aload_n (j := 1) dX9_fillCosts_75 rfl rfl ?_
      refine mW_getR dX9_fillCosts_76 f_X9_25 (s2k (S2_sai e3) (s2k (S2_sai e2) (s2k (S2_sai e1) h1))) rfl (s2r (S2_sai e3) (s2r (S2_sai e2) (s2r (S2_sai e1) h15))) ?_
      refine mW_iload_n (j := 4) dX9_fillCosts_79 rfl rfl ?_
      refine mW_aload_n (j := 1) dX9_fillCosts_80 rfl rfl ?_
      refine mW_aload_n (j := 2) dX9_fillCosts_81 rfl rfl ?_
      refine mW_callV (As := [.ref a1]) (rest := [.int x3, .ref a0_2]) (kc2 := 0) (ks2 := 0) dX9_fillCosts_82 l_X9_59 rfl (s2k (S2_sai e3) (s2k (S2_sai e2) (s2k (S2_sai e1) h1))) rfl (by decide) (rX9_trialCost (w := w3) (a0 := a0) (a1 := a1) (zTun_s2 (S2_sai e3) (zTun_s2 (S2_sai e2) (zTun_s2 (S2_sai e1) h16))) (zSet_s2 (S2_sai e3) (zSet_s2 (S2_sai e2) (zSet_s2 (S2_sai e1) h17))) (s13 c1 c2 w1 e1 w2 e2 w3 e3) (s14 c1 c2 w1 e1 w2 e2 w3 e3) (s15 c1 c2 w1 e1 w2 e2 w3 e3)) (Nat.le_of_ble_eq_true rfl) (by decide) rfl rfl mP_x (mP_k (fun w4 q1 => ?_))
      refine mW_lastJ dX9_fillCosts_85 (s2k (mS2.of q1.1.1) (s2k (S2_sai e3) (s2k (S2_sai e2) (s2k (S2_sai e1) h18)))) (s16 c1 c2 w1 e1 w2 e2 w3 e3 w4 q1) rfl ?_
      refine mW_nm (fun w5 e4 => ?_)
      refine mW_aload_n (j := 1) dX9_fillCosts_86 rfl rfl ?_
      refine mW_aload_n (j := 2) dX9_fillCosts_87 rfl rfl ?_
      refine mW_getR dX9_fillCosts_88 f_X9_37 (s2k (S2_sal e4) (s2k (mS2.of q1.1.1) (s2k (S2_sai e3) (s2k (S2_sai e2) (s2k (S2_sai e1) h5))))) rfl (s2r (S2_sal e4) (s2r (mS2.of q1.1.1) (s2r (S2_sai e3) (s2r (S2_sai e2) (s2r (S2_sai e1) h6))))) ?_
      refine mW_callV (As := [.ref a1_2]) (rest := []) (kc2 := 0) (ks2 := 0) dX9_fillCosts_91 l_X9_63 rfl (s2k (S2_sal e4) (s2k (mS2.of q1.1.1) (s2k (S2_sai e3) (s2k (S2_sai e2) (s2k (S2_sai e1) h1))))) rfl (by decide) (rX9_moveIndexes (w := w5) (a0 := a0) (a1 := a1_2) (zTun_s2 (S2_sal e4) (zTun_s2 (mS2.of q1.1.1) (zTun_s2 (S2_sai e3) (zTun_s2 (S2_sai e2) (zTun_s2 (S2_sai e1) h16))))) (zGrid_s2 (S2_sal e4) (zGrid_s2 (mS2.of q1.1.1) (zGrid_s2 (S2_sai e3) (zGrid_s2 (S2_sai e2) (zGrid_s2 (S2_sai e1) h19))))) (s17 c1 c2 w1 e1 w2 e2 w3 e3 w4 q1 w5 e4) (s18 c1 c2 w1 e1 w2 e2 w3 e3 w4 q1 w5 e4) (s19 c1 c2 w1 e1 w2 e2 w3 e3 w4 q1 w5 e4) (s20 c1 c2 w1 e1 w2 e2 w3 e3 w4 q1 w5 e4) (s21 c1 c2 w1 e1 w2 e2 w3 e3 w4 q1 w5 e4)) (Nat.le_of_ble_eq_true rfl) (by decide) rfl rfl mP_x (mP_k (fun w6 q2 => ?_))
      refine mW_iinc (j := 4) (v := x3 + 1) (lv2 := [(3, .int (x3 + 1)), (4, .int 3), (0, .ref a0), (1, .ref a1), (2, .int x2)]) dX9_fillCosts_94 rfl rfl (by decide) rfl ?_
      refine mW_goto (tgt := 22) dX9_fillCosts_97 (by decide) ?_
      refine mW_loc [2, 3, 4, 0] (lv2 := [(0, .ref a0), (1, .ref a1), (2, .int x2), (3, .int (x3 + 1))]) rfl ?_
      exact k3 c1 c2 w1 e1 w2 e2 w3 e3 w4 q1 w5 e4 w6 q2
/-! the costs of all triples -/
def aGain (A : Nat → Int32) (p i d : Int32) : Nat → Int32 := upd (upd (upd A 0 p) 1 i) 2 d
def gA (A : Nat → Int32) (i j k : Nat) : Nat → Int32 := aGain A (gVal A 0 i) (gVal A 1 j) (gVal A 2 k)
def qA (A : Nat → Int32) (N m : Nat) : Int64 := aCost (gA A (m / cG A 2 / cG A 1) (m / cG A 2 % cG A 1) (m % cG A 2)) A N
theorem aGain_k {A : Nat → Int32} {p i d : Int32} {k : Nat} (h : 3 ≤ k) : aGain A p i d k = A k := by
  simp only [aGain, upd, show ¬ k = 2 by omega, show ¬ k = 1 by omega, show ¬ k = 0 by omega, if_false]
def fiInv (w0 w : mH) (a0 : Nat) (A : Nat → Int32) (N m : Nat) : Prop := mFr a0 (a0 + 18) w0 w ∧ (∃ S, (∀ k, 3 ≤ k → k < 15 → S k = A k) ∧ mRun w (a0 + 1) (a0 + 9) S A N) ∧ (m < gT A → jRep w a0 A m) ∧ ∀ j, j < m → hal w (a0 + 16) j = qA A N j
theorem fill_body {G : mG} {w0 w : mH} {a0 a1 N m : Nat} {A : Nat → Int32} {Φ : mF} (z0 : zTun w0 a0) (z1 : zSet w0 a1) (hd : a0 + 18 ≤ a1 ∨ a1 + 17 ≤ a0) (h0 : sRep w0 a1 A) (ok : gOK A) (I : fiInv w0 w a0 A N m) (ht : m ≤ gT A) (ih : m < gT A → ∀ w', fiInv w0 w' a0 A N (m + 1) → mW G mX9_fillCosts 8 0 0 22 [(0, .ref a0), (1, .ref a1), (2, .int (nI (gT A))), (3, .int (nI (m + 1)))] [] w' Φ) (hΦ : m = gT A → Φ (.inl none) w) : mW G mX9_fillCosts 8 0 0 22 [(0, .ref a0), (1, .ref a1), (2, .int (nI (gT A))), (3, .int (nI m))] [] w Φ := by
  obtain ⟨F, ⟨S, hS, hR⟩, hJ, hQ⟩ := I
  obtain ⟨t1, t2⟩ := gT_le ok
  have hs : mS2 w0 w := mS2.of F.1
  have hA : sRep w a1 A := sRep_fr F (by omega) h0
  have hg : gRep w (a1 + 3) A := hA.2.2.1
  have hc : ¬ nI (gT A) ≤ nI m → m < gT A := fun c => by rw [m_le (by omega) (by omega)] at c; omega
  have hcl : (nI m).toNatClampNeg = m := m_cl (by omega)
  have K : m < gT A → ∀ w1 w2 w3 : mH, w1 = sai w (a0 + 2) 0 (vX1_gainAt w 0 (hai w (a0 + 17) 0) (a1 + 4) (a1 + 5)) → w2 = sai w1 (a0 + 2) 1 (vX1_gainAt w1 1 (hai w1 (a0 + 17) 1) (a1 + 4) (a1 + 5)) → w3 = sai w2 (a0 + 2) 2 (vX1_gainAt w2 2 (hai w2 (a0 + 17) 2) (a1 + 4) (a1 + 5)) → mFr (a0 + 2) (a0 + 3) w w3 ∧ mRun w3 (a0 + 1) (a0 + 9) (gA A (m / cG A 2 / cG A 1) (m / cG A 2 % cG A 1) (m % cG A 2)) A N := by
    intro hm w1 w2 w3 e1 e2 e3
    have r := hJ hm
    have f1 : mFr (a0 + 2) (a0 + 3) w w1 := by rw [e1]; exact mFr_sai mFr.rf (by omega) (by omega)
    have f2 : mFr (a0 + 2) (a0 + 3) w w2 := by rw [e2]; exact mFr_sai f1 (by omega) (by omega)
    have f3 : mFr (a0 + 2) (a0 + 3) w w3 := by rw [e3]; exact mFr_sai f2 (by omega) (by omega)
    have g1 : vX1_gainAt w 0 (hai w (a0 + 17) 0) (a1 + 4) (a1 + 5) = gVal A 0 (m / cG A 2 / cG A 1) := by rw [r.1]; exact gain_v (g := 0) hg (by decide)
    have g2 : vX1_gainAt w1 1 (hai w1 (a0 + 17) 1) (a1 + 4) (a1 + 5) = gVal A 1 (m / cG A 2 % cG A 1) := by rw [f1.hai (by omega), r.2.1]; exact gain_v (g := 1) (gRep_fr f1 (by omega) hg) (by decide)
    have g3 : vX1_gainAt w2 2 (hai w2 (a0 + 17) 2) (a1 + 4) (a1 + 5) = gVal A 2 (m % cG A 2) := by rw [f2.hai (by omega), r.2.2]; exact gain_v (g := 2) (gRep_fr f2 (by omega) hg) (by decide)
    rw [g1] at e1
    rw [g2] at e2
    rw [g3] at e3
    refine ⟨f3, ?_⟩
    obtain ⟨y0, y1, y2, y3, y4, y5, y6, y7, y8⟩ := hR
    refine ⟨y0, zSim_s2 (mS2.of f3.1) y1, zTra_s2 (mS2.of f3.1) y2, fun k hk => ?_, tRep_fr f3 (by omega) y4, fun t ht => ?_, ?_, y7, y8⟩
    · rw [e3, e_hai_sai, e2, e_hai_sai, e1, e_hai_sai]
      by_cases k2 : k = 2
      · subst k2; rw [up2_at]; simp [gA, aGain, upd]
      · by_cases k1 : k = 1
        · subst k1; rw [up2_k _ _ _ (by decide), up2_at]; simp [gA, aGain, upd]
        · by_cases k0 : k = 0
          · subst k0; rw [up2_k _ _ _ (by decide), up2_k _ _ _ (by decide), up2_at]; simp [gA, aGain, upd]
          · rw [up2_k _ _ _ k2, up2_k _ _ _ k1, up2_k _ _ _ k0]
            unfold gA
            rw [aGain_k (by omega), ← hS k (by omega) hk]
            exact y3 k hk
    · rw [f3.hai (by omega), f3.hai (by omega)]; exact y5 t ht
    · unfold gA
      rw [aGain_k (by omega), ← hS 13 (by decide) (by decide)]; exact y6
  have K2 : m < gT A → ∀ w1 w2 w3 w4 w5 : mH, w1 = sai w (a0 + 2) 0 (vX1_gainAt w 0 (hai w (a0 + 17) 0) (a1 + 4) (a1 + 5)) → w2 = sai w1 (a0 + 2) 1 (vX1_gainAt w1 1 (hai w1 (a0 + 17) 1) (a1 + 4) (a1 + 5)) → w3 = sai w2 (a0 + 2) 2 (vX1_gainAt w2 2 (hai w2 (a0 + 17) 2) (a1 + 4) (a1 + 5)) → (mFr (a0 + 1) (a0 + 16) w3 w4 ∧ mRun w4 (a0 + 1) (a0 + 9) (gA A (m / cG A 2 / cG A 1) (m / cG A 2 % cG A 1) (m % cG A 2)) A N) → w5 = sal w4 (a0 + 16) (nI m).toNatClampNeg (aCost (gA A (m / cG A 2 / cG A 1) (m / cG A 2 % cG A 1) (m % cG A 2)) A N) → gRep w5 (a1 + 3) A ∧ jRep w5 a0 A m := by
    intro hm w1 w2 w3 w4 w5 e1 e2 e3 q1 e5
    have f3 := (K hm w1 w2 w3 e1 e2 e3).1
    have f5 : mFr (a0 + 1) (a0 + 17) w w5 := by
      rw [e5]
      exact mFr_sal ((f3.wide (by omega) (by omega)).tr (q1.1.wide (by omega) (by omega))) (by omega) (by omega)
    exact ⟨gRep_fr f5 (by omega) hg, iRep_fr f5 (by omega) (hJ hm)⟩
  refine gX9_fillCosts_22 (S := gA A (m / cG A 2 / cG A 1) (m / cG A 2 % cG A 1) (m % cG A 2)) (A := A) (N := N) (m := m) (a0_0 := a0 + 1) (a0_0_0 := a0 + 2) (a1_2 := a1 + 3) (a0_3 := a0 + 17) (a1_2_0 := a1 + 4) (a1_2_1 := a1 + 5) (a0_2 := a0 + 16) ((zTun_s2 hs z0).1) ((zTun_s2 hs z0).2.1) ((zTun_s2 hs z0).2.2.2.2.2.1.1) ((zTun_s2 hs z0).2.2.2.2.2.1.2.1) ((zSet_s2 hs z1).1) ((zSet_s2 hs z1).2.2.2.1) ((zTun_s2 hs z0).2.2.2.2.1) ((zTun_s2 hs z0).2.2.2.2.2.2.2.2) (by intros; unfold vp_in; decide) ((zSet_s2 hs z1).2.2.2.2.2.2.2.2.1.1) ((zSet_s2 hs z1).2.2.2.2.2.2.2.2.1.2.1) ((zSet_s2 hs z1).2.2.2.2.2.2.2.2.1.2.2.2.2.1) (by intros; unfold vp_in; decide) ((zSet_s2 hs z1).2.2.2.2.2.2.2.2.1.2.2.1) ((zSet_s2 hs z1).2.2.2.2.2.2.2.2.1.2.2.2.2.2.1) (by intros; unfold vp_in; decide) ((zTun_s2 hs z0).2.2.2.2.2.1.2.2.2.2.2.2.1) (by intros; unfold vp_in; decide) (by intros; unfold vp_in; decide) (by intros; unfold vp_in; decide) (by intros; unfold vp_in; decide) (by intros; unfold vp_in; decide) (by intros; unfold vp_in; decide) (by intros; unfold vp_in; decide) (by intros; unfold vp_in; decide) (by intros; unfold vp_in; decide) ((zTun_s2 hs z0).2.2.2.1) ((zTun_s2 hs z0)) ((zSet_s2 hs z1)) (by intros; omega) (by intro c1 c2 w1 e1 w2 e2 w3 e3; exact (K (hc c1) w1 w2 w3 e1 e2 e3).2) (by intro c1 c2 w1 e1 w2 e2 w3 e3; exact sRep_fr (K (hc c1) w1 w2 w3 e1 e2 e3).1 (by omega) hA) ((zTun_s2 hs z0).2.2.2.2.2.2.2.1) (by intro c1; intros; have := hc c1; exact m_vp (by omega) (by omega)) ((zSet_s2 hs z1).2.2.2.2.2.2.2.2.1) (by intros; omega) (by intro c1 c2 w1 e1 w2 e2 w3 e3 w4 q1 w5 e5; exact (K2 (hc c1) w1 w2 w3 w4 w5 e1 e2 e3 q1 e5).1) (by intros; exact ok) (by intro c1; intros; exact hc c1) (by intro c1 c2 w1 e1 w2 e2 w3 e3 w4 q1 w5 e5; exact (K2 (hc c1) w1 w2 w3 w4 w5 e1 e2 e3 q1 e5).2) ?_ ?_ ?_
  · intro c1
    refine hΦ ?_
    rw [m_le (by omega) (by omega)] at c1
    omega
  · intro c1 c2
    have := hc c1
    rw [show (216 : Int32) = nI 216 from rfl, m_le (by omega) (by omega)] at c2
    omega
  · intro c1 c2 w1 e1 w2 e2 w3 e3 w4 q1 w5 e5 w6 q2
    have hm := hc c1
    obtain ⟨f3, hr3⟩ := K hm w1 w2 w3 e1 e2 e3
    rw [hcl] at e5
    rw [nI_1]
    have f4 : mFr a0 (a0 + 18) w w4 := (f3.wide (by omega) (by omega)).tr (q1.1.wide (by omega) (by omega))
    have f5 : mFr a0 (a0 + 18) w w5 := by rw [e5]; exact mFr_sal f4 (by omega) (by omega)
    refine ih hm w6 ⟨(F.tr f5).tr (q2.1.wide (by omega) (by omega)), ⟨gA A (m / cG A 2 / cG A 1) (m / cG A 2 % cG A 1) (m % cG A 2), fun k hk _ => aGain_k hk, ?_⟩, q2.2, fun j hj => ?_⟩
    · refine mRun_fr (lo := 0) (hi := 0) ((show mSh w4 w5 by rw [e5]; exact ⟨rfl, rfl, rfl, rfl⟩).tr q2.1.1) (fun b h1 h2 => ?_) q1.2
      rw [q2.1.hfi (by omega), q2.1.hai (by omega), e5, e_hfi_sal, e_hai_sal]
      exact ⟨rfl, rfl⟩
    · rw [q2.1.hal (by omega), e5, e_hal_sal]
      by_cases hjm : j = m
      · subst hjm
        rw [up2_at]
        rfl
      · rw [up2_k _ _ _ hjm, q1.1.hal (by omega), f3.hal (by omega)]
        exact hQ j (by omega)
theorem rX9_fillCosts {G : mG} {w : mH} {a0 a1 N : Nat} {A : Nat → Int32} (z0 : zTun w a0) (z1 : zSet w a1) (hd : a0 + 18 ≤ a1 ∨ a1 + 17 ≤ a0) (hA : sRep w a1 A) (ok : gOK A) (hN : A 13 = nI N) (h1 : 1 ≤ N) (hN2 : N ≤ 200) : mC G mX9_fillCosts 8 0 0 [.ref a0, .ref a1] w (mP none (fun w' => mFr a0 (a0 + 18) w w' ∧ ∀ m, m < gT A → hal w' (a0 + 16) m = qA A N m)) := by
  obtain ⟨t1, t2⟩ := gT_le ok
  refine mC_of (by decide +kernel) rfl (Nat.le_of_ble_eq_true rfl) rfl ?_
  refine gX9_fillCosts_0 (A := A) (N := N) (a0_0 := a0 + 1) (a1_2 := a1 + 3) (a1_2_2 := a1 + 6) (a0_3 := a0 + 17) z0.1 z0.2.1 z0.2.2.2.2.2.1.1 z0.2.2.2.2.2.1 z1 (by intros; omega) hA hN hN2 z1.1 z1.2.2.2.1 z1.2.2.2.2.2.2.2.2.1.1 z1.2.2.2.2.2.2.2.2.1.2.2.2.1 z1.2.2.2.2.2.2.2.2.1.2.2.2.2.2.2 (by intros; unfold vp_in; decide) (by intros; unfold vp_in; decide) (by intros; unfold vp_in; decide) z0.2.2.2.2.1 z0.2.2.2.2.2.2.2.2 (by intros; unfold vp_in; decide) (by intros; unfold vp_in; decide) (by intros; unfold vp_in; decide) ?_
  intro w1 q1 w2 e2
  have hg1 : gRep w1 (a1 + 3) A := gRep_fr q1.1 (by omega) hA.2.2.1
  obtain ⟨f2, i2⟩ := st_v e2
  rw [show vX1_triples w1 (a1 + 6) = nI (gT A) from tri_v hg1 ok]
  have F : mFr a0 (a0 + 18) w w2 := (q1.1.wide (by omega) (by omega)).tr (f2.wide (by omega) (by omega))
  have I0 : fiInv w w2 a0 A N 0 := by
    refine ⟨F, ⟨A, fun k _ _ => rfl, ?_⟩, fun _ => ?_, fun j hj => absurd hj (Nat.not_lt_zero _)⟩
    · have hT := q1.2
      obtain ⟨p1, p2, p3⟩ := hT
      refine ⟨rfl, zSim_s2 (mS2.of F.1) z0.2.2.2.2.2.1, zTra_s2 (mS2.of F.1) z0.2.2.2.2.2.2.1, fun k hk => ?_, tRep_fr f2 (by omega) p2, fun t ht => ?_, hN, h1, hN2⟩
      · rw [f2.hai (by omega)]; exact p1 k hk
      · rw [f2.hai (by omega), f2.hai (by omega)]; exact p3 t ht
    · unfold jRep
      rw [Nat.zero_div, Nat.zero_div, Nat.zero_mod, Nat.zero_mod]
      exact i2
  have key := m_up0 (N := gT A) (P := fun m => ∀ w', fiInv w w' a0 A N m → mW G mX9_fillCosts 8 0 0 22 [(0, .ref a0), (1, .ref a1), (2, .int (nI (gT A))), (3, .int (nI m))] [] w' (mP none (fun w' => mFr a0 (a0 + 18) w w' ∧ ∀ m, m < gT A → hal w' (a0 + 16) m = qA A N m))) ?_ ?_ 0 (by omega)
  · exact key w2 I0
  · intro w' I
    exact fill_body z0 z1 hd hA ok I (Nat.le_refl _) (fun h => absurd h (Nat.lt_irrefl _)) (fun _ => mP_of ⟨I.1, I.2.2.2⟩)
  · intro m hm ih w' I
    exact fill_body z0 z1 hd hA ok I (by omega) (fun _ => ih) (fun h => by omega)
