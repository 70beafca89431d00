theorem mF2.in2 {l1 h1 l2 h2 m1 n1 m2 n2 : Nat} {w w1 : mH} (h : mF2 l1 h1 l2 h2 w w1) (q : m1 ≤ l1 ∧ h1 ≤ n1 ∧ m2 ≤ l2 ∧ h2 ≤ n2) : mF2 m1 n1 m2 n2 w w1 := ⟨h.1, fun a g1 g2 => h.2 a (by omega) (by omega)⟩
theorem aOK_N {A : Nat → Int32} (ok : aOK A) : ∃ N, A 13 = nI N ∧ 1 ≤ N ∧ N ≤ 200 := by
  have h := rOK_of ok
  exact ⟨_, h.1, h.2.1, h.2.2.1⟩
theorem last_v {w : mH} {a N : Nat} {T : Nat → Nat → Int32} (h : tRw w a T N) (h1 : 1 ≤ N) (h200 : N ≤ 200) : vX6_lastError w a (a + 1) = T 0 N := by
  unfold vX6_lastError
  rw [made_v h.1 h200, if_neg (show ¬ N = 0 by omega), if_neg (by decide), h.1, m_cl (by omega)]
  exact h.2.1 N (Nat.le_refl _)
theorem run_of {w w1 : mH} {a0 N : Nat} {A : Nat → Int32} (z : zBen w a0) (hS : sRep w (a0 + 1) A) (q1 : mFr (a0 + 150) (a0 + 150 + 8) w w1 ∧ pRep w1 (a0 + 150) A N) (e13 : A 13 = nI N) (h1 : 1 ≤ N) (h200 : N ≤ 200) : mRun w1 (a0 + 150) (a0 + 158) A A N := by
  have z1 := zBen_sh q1.1.1 z
  exact ⟨rfl, z1.2.2.2.2.2.2.2.2.2.2.2.2.2.2.2.1, z1.2.2.2.2.2.2.2.2.2.2.2.2.2.2.2.2.1, q1.2.1, q1.2.2.1, q1.2.2.2, e13, h1, h200⟩
abbrev mX10_run : mM := (yX10_run, cX10_run, 1, (some .int), [])
theorem u453 : (Cond.fieldLink "LineFollowerBench" 47 "LineFollowerBench" "simulation" "LLineFollowerBench$Simulation;" : Cond) ∈ mTs := mTs_in 453 (by decide +kernel) (by decide +kernel)
theorem f_X10_47 : mFld "LineFollowerBench" 47 10 6 := ⟨RX10, TX10, 12, "LineFollowerBench", rfl, by decide, in_X10, u453, Or.inl rfl, by decide⟩
theorem u492 : (Cond.methodLink "LineFollowerBench" 261 ⟨"LineFollowerBench$Simulation", "prepare", "(LLineFollowerBench$Setup;)V"⟩ : Cond) ∈ mTs := mTs_in 492 (by decide +kernel) (by decide +kernel)
theorem l_X10_261 : mLinkV "LineFollowerBench" 261 1 mX4_prepare := ⟨⟨by decide, by decide, by decide +kernel⟩, co_X4_prepare, u492, u493, u494⟩
theorem u525 : (Cond.methodLink "LineFollowerBench" 264 ⟨"LineFollowerBench$Simulation", "makeRun", "(LLineFollowerBench$Trace;)V"⟩ : Cond) ∈ mTs := mTs_in 525 (by decide +kernel) (by decide +kernel)
theorem l_X10_264 : mLinkV "LineFollowerBench" 264 1 mX4_makeRun := ⟨⟨by decide, by decide, by decide +kernel⟩, co_X4_makeRun, u525, u526, u527⟩
theorem u586 : (Cond.methodLink "LineFollowerBench" 268 ⟨"LineFollowerBench$Trace", "lastError", "()I"⟩ : Cond) ∈ mTs := mTs_in 586 (by decide +kernel) (by decide +kernel)
theorem l_X10_268 : mLinkV "LineFollowerBench" 268 0 mX6_lastError := ⟨⟨by decide, by decide, by decide +kernel⟩, co_X6_lastError, u586, u587, u588⟩
set_option maxHeartbeats 4000000 in
set_option maxRecDepth 100000 in
theorem gX10_run_0 {G : mG} {w : mH} {Φ : mF} {a0 N : Nat} {S A : Nat → Int32} {a0_6 a0_0 a0_7 a0_7_0 n_a0_7_0 : Nat} (h1 : hk w a0 = (10, 0)) (h2 : hfr w a0 6 = some a0_6) (h3 : hfr w a0 0 = some a0_0) (h4 : hk w a0_6 = (4, 0)) (h5 : zSim w a0_6) (h6 : zSet w a0_0) (s1 : a0_6 + 8 ≤ a0_0 ∨ a0_0 + 17 ≤ a0_6) (s2 : sRep w a0_0 A) (s3 : A 13 = nI N) (s4 : N ≤ 200) (h7 : hfr w a0 7 = some a0_7) (s5 : ∀ w1 : mH, (mFr a0_6 (a0_6 + 8) w w1 ∧ pRep w1 a0_6 A N) → mRun w1 a0_6 a0_7 S A N) (h8 : hk w a0_7 = (6, 0)) (h9 : hfr w a0_7 0 = some a0_7_0) (h10 : hk w a0_7_0 = (16, n_a0_7_0)) (s6 : ∀ w1 : mH, (mFr a0_6 (a0_6 + 8) w w1 ∧ pRep w1 a0_6 A N) → ∀ w2 : mH, (mFr a0_6 (a0_6 + 15) w1 w2 ∧ (∀ b, a0_6 < b → b < a0_6 + 7 → hfi w2 b = hfi w1 b ∧ hai w2 b = hai w1 b) ∧ tRw w2 a0_7 (aT S A) N) → (¬ ((vX6_isMade w2 a0_7) = 0)) → vp_in (hfi w2 a0_7 6) n_a0_7_0) (k1 : ∀ w1 : mH, (mFr a0_6 (a0_6 + 8) w w1 ∧ pRep w1 a0_6 A N) → ∀ w2 : mH, (mFr a0_6 (a0_6 + 15) w1 w2 ∧ (∀ b, a0_6 < b → b < a0_6 + 7 → hfi w2 b = hfi w1 b ∧ hai w2 b = hai w1 b) ∧ tRw w2 a0_7 (aT S A) N) → Φ (.inl (some (.int (vX6_lastError w2 a0_7 a0_7_0)))) w2) : mW G mX10_run 9 0 0 0 [(0, .ref a0)] [] w Φ := by
  refine mW_aload_n (j := 0) dX10_run_0 rfl rfl ?_
  refine mW_getR dX10_run_1 f_X10_47 h1 rfl h2 ?_
  refine mW_aload_n (j := 0) dX10_run_4 rfl rfl ?_
  refine mW_getR dX10_run_5 f_X10_12 h1 rfl h3 ?_
  refine mW_callV (As := [.ref a0_0]) (rest := []) (kc2 := 0) (ks2 := 0) dX10_run_8 l_X10_261 rfl h4 rfl (by decide) (rX4_prepare (w := w) (a0 := a0_6) (a1 := a0_0) h5 h6 s1 s2 s3 s4) (Nat.le_of_ble_eq_true rfl) (by decide) rfl rfl mP_x (mP_k (fun w1 q1 => ?_))
  refine mW_aload_n (j := 0) dX10_run_11 rfl rfl ?_
  refine mW_getR dX10_run_12 f_X10_47 (s2k (mS2.of q1.1.1) h1) rfl (s2r (mS2.of q1.1.1) h2) ?_
  refine mW_aload_n (j := 0) dX10_run_15 rfl rfl ?_
  refine mW_getR dX10_run_16 f_X10_54 (s2k (mS2.of q1.1.1) h1) rfl (s2r (mS2.of q1.1.1) h7) ?_
  refine mW_callV (As := [.ref a0_7]) (rest := []) (kc2 := 0) (ks2 := 0) dX10_run_19 l_X10_264 rfl (s2k (mS2.of q1.1.1) h4) rfl (by decide) (rX4_runR (w := w1) (a0 := a0_6) (a1 := a0_7) (s5 w1 q1)) (Nat.le_of_ble_eq_true rfl) (by decide) rfl rfl mP_x (mP_k (fun w2 q2 => ?_))
  refine mW_aload_n (j := 0) dX10_run_22 rfl rfl ?_
  refine mW_getR dX10_run_23 f_X10_54 (s2k (mS2.of q2.1.1) (s2k (mS2.of q1.1.1) h1)) rfl (s2r (mS2.of q2.1.1) (s2r (mS2.of q1.1.1) h7)) ?_
  refine mW_callVe (As := []) (rest := []) (kc2 := 0) (ks2 := 0) dX10_run_26 l_X10_268 rfl (s2k (mS2.of q2.1.1) (s2k (mS2.of q1.1.1) h8)) rfl (by decide) (qX6_lastError (w := w2) (a0 := a0_7) (s2k (mS2.of q2.1.1) (s2k (mS2.of q1.1.1) h8)) (s2r (mS2.of q2.1.1) (s2r (mS2.of q1.1.1) h9)) (s2k (mS2.of q2.1.1) (s2k (mS2.of q1.1.1) h10)) (s6 w1 q1 w2 q2)) (Nat.le_of_ble_eq_true rfl) (by decide) rfl rfl ?_
  exact mW_iret dX10_run_29 rfl (k1 w1 q1 w2 q2)
theorem tX10_run {G : mG} {w : mH} {a0 : Nat} {A : Nat → Int32} (z : zBen w a0) (hS : sRep w (a0 + 1) A) (ok : aOK A) {N : Nat} (e13 : A 13 = nI N) (h1 : 1 ≤ N) (h200 : N ≤ 200) : mC G mX10_run 9 0 0 [.ref a0] w (mP (some (.int (aT A A 0 N))) (fun u => mFr (a0 + 150) (a0 + 165) w u ∧ tRw u (a0 + 158) (aT A A) N)) := by
  refine mC_of (by decide +kernel) rfl (Nat.le_of_ble_eq_true rfl) rfl ?_
  refine gX10_run_0 (N := N) (S := A) (A := A) (a0_6 := a0 + 150) (a0_0 := a0 + 1) (a0_7 := a0 + 158) (a0_7_0 := a0 + 159) z.1 z.2.2.2.2.2.1 z.2.1 z.2.2.2.2.2.2.2.2.2.2.2.2.2.2.2.1.1 z.2.2.2.2.2.2.2.2.2.2.2.2.2.2.2.1 z.2.2.2.2.2.2.2.2.2.2.2.1 (by omega) (by exact hS) (by exact e13) (by exact h200) z.2.2.2.2.2.2.1 (by intro w1 q1; exact run_of z hS q1 e13 h1 h200) z.2.2.2.2.2.2.2.2.2.2.2.2.2.2.2.2.1.1 z.2.2.2.2.2.2.2.2.2.2.2.2.2.2.2.2.1.2.1 z.2.2.2.2.2.2.2.2.2.2.2.2.2.2.2.2.1.2.2.2.2.2.2.2.1 (by intro w1 q1 w2 q2; intro _; rw [show hfi w2 (a0 + 158) 6 = nI N from q2.2.2.1]; exact m_vp (by omega) (by decide)) ?_
  · intro w1 q1 w2 q2
    rw [show vX6_lastError w2 (a0 + 158) (a0 + 159) = aT A A 0 N from last_v q2.2.2 h1 h200]
    exact mP_of ⟨(q1.1.wide (by omega) (by omega)).tr (q2.1.wide (by omega) (by omega)), q2.2.2⟩
abbrev mX10_search : mM := (yX10_search, cX10_search, 1, (some .int), [])
theorem u456 : (Cond.fieldLink "LineFollowerBench" 64 "LineFollowerBench" "tuner" "LLineFollowerBench$Tuner;" : Cond) ∈ mTs := mTs_in 456 (by decide +kernel) (by decide +kernel)
theorem f_X10_64 : mFld "LineFollowerBench" 64 10 9 := ⟨RX10, TX10, 12, "LineFollowerBench", rfl, by decide, in_X10, u456, Or.inl rfl, by decide⟩
theorem u601 : (Cond.code ⟨"LineFollowerBench$Tuner", "fillCosts", "(LLineFollowerBench$Setup;)V"⟩ prog_11_method_2_code 5 (none : Option ClassFile.FieldType) : Cond) ∈ mTs := mTs_in 601 (by decide +kernel) (by decide +kernel)
theorem co_X9_fillCosts : mCode mX9_fillCosts := ⟨u601, u83, by decide⟩
theorem u598 : (Cond.methodLink "LineFollowerBench" 340 ⟨"LineFollowerBench$Tuner", "fillCosts", "(LLineFollowerBench$Setup;)V"⟩ : Cond) ∈ mTs := mTs_in 598 (by decide +kernel) (by decide +kernel)
theorem u599 : (Cond.instanceMethod ⟨"LineFollowerBench$Tuner", "fillCosts", "(LLineFollowerBench$Setup;)V"⟩ : Cond) ∈ mTs := mTs_in 599 (by decide +kernel) (by decide +kernel)
theorem u600 : (Cond.selects "LineFollowerBench$Tuner" ⟨"LineFollowerBench$Tuner", "fillCosts", "(LLineFollowerBench$Setup;)V"⟩ ⟨"LineFollowerBench$Tuner", "fillCosts", "(LLineFollowerBench$Setup;)V"⟩ : Cond) ∈ mTs := mTs_in 600 (by decide +kernel) (by decide +kernel)
theorem l_X10_340 : mLinkV "LineFollowerBench" 340 1 mX9_fillCosts := ⟨⟨by decide, by decide, by decide +kernel⟩, co_X9_fillCosts, u598, u599, u600⟩
theorem u660 : (Cond.code ⟨"LineFollowerBench$Tuner", "takeLeast", "(LLineFollowerBench$Grid;LLineFollowerBench$Found;)V"⟩ prog_11_method_7_code 5 (none : Option ClassFile.FieldType) : Cond) ∈ mTs := mTs_in 660 (by decide +kernel) (by decide +kernel)
theorem co_X9_takeLeast : mCode mX9_takeLeast := ⟨u660, u83, by decide⟩
theorem u657 : (Cond.methodLink "LineFollowerBench" 343 ⟨"LineFollowerBench$Tuner", "takeLeast", "(LLineFollowerBench$Grid;LLineFollowerBench$Found;)V"⟩ : Cond) ∈ mTs := mTs_in 657 (by decide +kernel) (by decide +kernel)
theorem u658 : (Cond.instanceMethod ⟨"LineFollowerBench$Tuner", "takeLeast", "(LLineFollowerBench$Grid;LLineFollowerBench$Found;)V"⟩ : Cond) ∈ mTs := mTs_in 658 (by decide +kernel) (by decide +kernel)
theorem u659 : (Cond.selects "LineFollowerBench$Tuner" ⟨"LineFollowerBench$Tuner", "takeLeast", "(LLineFollowerBench$Grid;LLineFollowerBench$Found;)V"⟩ ⟨"LineFollowerBench$Tuner", "takeLeast", "(LLineFollowerBench$Grid;LLineFollowerBench$Found;)V"⟩ : Cond) ∈ mTs := mTs_in 659 (by decide +kernel) (by decide +kernel)
theorem l_X10_343 : mLinkV "LineFollowerBench" 343 2 mX9_takeLeast := ⟨⟨by decide, by decide, by decide +kernel⟩, co_X9_takeLeast, u657, u658, u659⟩
set_option maxHeartbeats 4000000 in
set_option maxRecDepth 100000 in
theorem gX10_search_0 {G : mG} {w : mH} {Φ : mF} {a0 N : Nat} {A : Nat → Int32} {a0_9 a0_0 a0_0_2 a0_10 a0_0_2_2 n_a0_0_2_2 : Nat} (h1 : hk w a0 = (10, 0)) (h2 : hfr w a0 9 = some a0_9) (h3 : hfr w a0 0 = some a0_0) (h4 : hk w a0_9 = (9, 0)) (h5 : zTun w a0_9) (h6 : zSet w a0_0) (s1 : a0_9 + 18 ≤ a0_0 ∨ a0_0 + 17 ≤ a0_9) (s2 : sRep w a0_0 A) (s3 : gOK A) (s4 : A 13 = nI N) (s5 : 1 ≤ N) (s6 : N ≤ 200) (h7 : hk w a0_0 = (3, 0)) (h8 : hfr w a0_0 2 = some a0_0_2) (h9 : hfr w a0 10 = some a0_10) (h10 : zGrid w a0_0_2) (h11 : zFnd w a0_10) (s7 : ∀ w1 : mH, (mFr a0_9 (a0_9 + 18) w w1 ∧ ∀ m, m < gT A → hal w1 (a0_9 + 16) m = qA A N m) → a0_9 + 18 ≤ a0_0_2 ∨ a0_0_2 + 4 ≤ a0_9) (s8 : ∀ w1 : mH, (mFr a0_9 (a0_9 + 18) w w1 ∧ ∀ m, m < gT A → hal w1 (a0_9 + 16) m = qA A N m) → a0_9 + 18 ≤ a0_10 ∨ a0_10 + 2 ≤ a0_9) (s9 : ∀ w1 : mH, (mFr a0_9 (a0_9 + 18) w w1 ∧ ∀ m, m < gT A → hal w1 (a0_9 + 16) m = qA A N m) → a0_0_2 + 4 ≤ a0_10 ∨ a0_10 + 2 ≤ a0_0_2) (s10 : ∀ w1 : mH, (mFr a0_9 (a0_9 + 18) w w1 ∧ ∀ m, m < gT A → hal w1 (a0_9 + 16) m = qA A N m) → gRep w1 a0_0_2 A) (h12 : hk w a0_0_2 = (1, 0)) (h13 : hfr w a0_0_2 2 = some a0_0_2_2) (h14 : hk w a0_0_2_2 = (16, n_a0_0_2_2)) (s11 : vp_in 0 n_a0_0_2_2) (s12 : vp_in 1 n_a0_0_2_2) (s13 : vp_in 2 n_a0_0_2_2) (k1 : ∀ w1 : mH, (mFr a0_9 (a0_9 + 18) w w1 ∧ ∀ m, m < gT A → hal w1 (a0_9 + 16) m = qA A N m) → ∀ w2 : mH, (mSh w1 w2 ∧ mF2 (a0_9 + 17) (a0_9 + 18) a0_10 (a0_10 + 2) w1 w2 ∧ oRep w2 a0_10 A (hal w1 (a0_9 + 16)) (fBest (hal w1 (a0_9 + 16)) (gT A)) ∧ hfi w2 a0_10 3 = nI (fGt (hal w1 (a0_9 + 16)) (hal w1 (a0_9 + 16) (fBest (hal w1 (a0_9 + 16)) (gT A))) (gT A))) → Φ (.inl (some (.int (vX1_triples w2 a0_0_2_2)))) w2) : mW G mX10_search 9 0 0 0 [(0, .ref a0)] [] w Φ := by
  refine mW_aload_n (j := 0) dX10_search_0 rfl rfl ?_
  refine mW_getR dX10_search_1 f_X10_64 h1 rfl h2 ?_
  refine mW_aload_n (j := 0) dX10_search_4 rfl rfl ?_
  refine mW_getR dX10_search_5 f_X10_12 h1 rfl h3 ?_
  refine mW_callV (As := [.ref a0_0]) (rest := []) (kc2 := 0) (ks2 := 0) dX10_search_8 l_X10_340 rfl h4 rfl (by decide) (rX9_fillCosts (w := w) (a0 := a0_9) (a1 := a0_0) h5 h6 s1 s2 s3 s4 s5 s6) (Nat.le_of_ble_eq_true rfl) (by decide) rfl rfl mP_x (mP_k (fun w1 q1 => ?_))
  refine mW_aload_n (j := 0) dX10_search_11 rfl rfl ?_
  refine mW_getR dX10_search_12 f_X10_64 (s2k (mS2.of q1.1.1) h1) rfl (s2r (mS2.of q1.1.1) h2) ?_
  refine mW_aload_n (j := 0) dX10_search_15 rfl rfl ?_
  refine mW_getR dX10_search_16 f_X10_12 (s2k (mS2.of q1.1.1) h1) rfl (s2r (mS2.of q1.1.1) h3) ?_
  refine mW_getR dX10_search_19 f_X10_177 (s2k (mS2.of q1.1.1) h7) rfl (s2r (mS2.of q1.1.1) h8) ?_
  refine mW_aload_n (j := 0) dX10_search_22 rfl rfl ?_
  refine mW_getR dX10_search_23 f_X10_71 (s2k (mS2.of q1.1.1) h1) rfl (s2r (mS2.of q1.1.1) h9) ?_
  refine mW_callV (As := [.ref a0_0_2, .ref a0_10]) (rest := []) (kc2 := 0) (ks2 := 0) dX10_search_26 l_X10_343 rfl (s2k (mS2.of q1.1.1) h4) rfl (by decide) (rX9_takeLeast (w := w1) (a0 := a0_9) (a1 := a0_0_2) (a2 := a0_10) (zTun_s2 (mS2.of q1.1.1) h5) (zGrid_s2 (mS2.of q1.1.1) h10) (zFnd_s2 (mS2.of q1.1.1) h11) (s7 w1 q1) (s8 w1 q1) (s9 w1 q1) (s10 w1 q1) s3) (Nat.le_of_ble_eq_true rfl) (by decide) rfl rfl mP_x (mP_k (fun w2 q2 => ?_))
  refine mW_aload_n (j := 0) dX10_search_29 rfl rfl ?_
  refine mW_getR dX10_search_30 f_X10_12 (s2k (mS2.of q2.1) (s2k (mS2.of q1.1.1) h1)) rfl (s2r (mS2.of q2.1) (s2r (mS2.of q1.1.1) h3)) ?_
  refine mW_getR dX10_search_33 f_X10_177 (s2k (mS2.of q2.1) (s2k (mS2.of q1.1.1) h7)) rfl (s2r (mS2.of q2.1) (s2r (mS2.of q1.1.1) h8)) ?_
  refine mW_callVe (As := []) (rest := []) (kc2 := 0) (ks2 := 0) dX10_search_36 l_X10_192 rfl (s2k (mS2.of q2.1) (s2k (mS2.of q1.1.1) h12)) rfl (by decide) (qX1_triples (w := w2) (a0 := a0_0_2) (s2k (mS2.of q2.1) (s2k (mS2.of q1.1.1) h12)) (s2r (mS2.of q2.1) (s2r (mS2.of q1.1.1) h13)) (s2k (mS2.of q2.1) (s2k (mS2.of q1.1.1) h14)) s11 s12 s13) (Nat.le_of_ble_eq_true rfl) (by decide) rfl rfl ?_
  exact mW_iret dX10_search_39 rfl (k1 w1 q1 w2 q2)
/-- what search or climb found, at o: costs q, gains by the indexes i j k -/
def fnO (w : mH) (o : Nat) (g0 g1 g2 : Int32) (c : Int64) (n : Int32) : Prop := hfi w o 0 = 1 ∧ hai w (o + 1) 0 = g0 ∧ hai w (o + 1) 1 = g1 ∧ hai w (o + 1) 2 = g2 ∧ hfl w o 2 = c ∧ hfi w o 3 = n
theorem trI_v {w : mH} {a : Nat} {A : Nat → Int32} (h : gRep w a A) : vX1_triples w (a + 3) = trI A := by
  unfold vX1_triples trI
  rw [show hai w (a + 3) 0 = A 22 from (h 0 (by decide)).2.2, show hai w (a + 3) 1 = A 25 from (h 1 (by decide)).2.2, show hai w (a + 3) 2 = A 28 from (h 2 (by decide)).2.2]
theorem tX10_search {G : mG} {w : mH} {a0 : Nat} {A : Nat → Int32} (z : zBen w a0) (hS : sRep w (a0 + 1) A) (ok : aOK A) {N : Nat} (e13 : A 13 = nI N) (h1 : 1 ≤ N) (h200 : N ≤ 200) : mC G mX10_search 9 0 0 [.ref a0] w (mP (some (.int (trI A))) (fun u => mFr (a0 + 172) (a0 + 192) w u ∧ ∃ Q : Nat → Int64, (∀ m, m < gT A → Q m = qA A N m) ∧ fnO u (a0 + 190) (gVal A 0 (fBest Q (gT A) / cG A 2 / cG A 1)) (gVal A 1 (fBest Q (gT A) / cG A 2 % cG A 1)) (gVal A 2 (fBest Q (gT A) % cG A 2)) (Q (fBest Q (gT A))) (nI (fGt Q (Q (fBest Q (gT A))) (gT A))))) := by
  refine mC_of (by decide +kernel) rfl (Nat.le_of_ble_eq_true rfl) rfl ?_
  refine gX10_search_0 (N := N) (A := A) (a0_9 := a0 + 172) (a0_0 := a0 + 1) (a0_0_2 := a0 + 4) (a0_10 := a0 + 190) (a0_0_2_2 := a0 + 7) z.1 z.2.2.2.2.2.2.2.2.1 z.2.1 z.2.2.2.2.2.2.2.2.2.2.2.2.2.2.2.2.2.2.1.1 z.2.2.2.2.2.2.2.2.2.2.2.2.2.2.2.2.2.2.1 z.2.2.2.2.2.2.2.2.2.2.2.1 (by omega) (by exact hS) (by exact ok.2.2.1) (by exact e13) (by exact h1) (by exact h200) z.2.2.2.2.2.2.2.2.2.2.2.1.1 z.2.2.2.2.2.2.2.2.2.2.2.1.2.2.2.1 z.2.2.2.2.2.2.2.2.2.1 z.2.2.2.2.2.2.2.2.2.2.2.1.2.2.2.2.2.2.2.2.1 z.2.2.2.2.2.2.2.2.2.2.2.2.2.2.2.2.2.2.2.1 (by intro w1 q1; omega) (by intro w1 q1; omega) (by intro w1 q1; omega) (by intro w1 q1; exact gRep_fr q1.1 (by omega) hS.2.2.1) z.2.2.2.2.2.2.2.2.2.2.2.1.2.2.2.2.2.2.2.2.1.1 z.2.2.2.2.2.2.2.2.2.2.2.1.2.2.2.2.2.2.2.2.1.2.2.2.1 z.2.2.2.2.2.2.2.2.2.2.2.1.2.2.2.2.2.2.2.2.1.2.2.2.2.2.2 (by intros; unfold vp_in; decide) (by intros; unfold vp_in; decide) (by intros; unfold vp_in; decide) ?_
  · intro w1 q1 w2 q2
    have f : mFr (a0 + 172) (a0 + 192) w w2 := (q1.1.wide (by omega) (by omega)).tr (q2.2.1.fr (by omega))
    rw [show vX1_triples w2 (a0 + 7) = trI A from trI_v (gRep_fr f (by omega) hS.2.2.1)]
    obtain ⟨g1, g2, g3, g4, g5⟩ := q2.2.2.1
    exact mP_of ⟨f, hal w1 (a0 + 172 + 16), q1.2, g1, g2, g3, g4, g5, q2.2.2.2⟩
abbrev mX10_climb : mM := (yX10_climb, cX10_climb, 1, (some .int), [])
theorem u682 : (Cond.code ⟨"LineFollowerBench$Tuner", "takeClimbed", "(LLineFollowerBench$Grid;LLineFollowerBench$Found;)I"⟩ prog_11_method_8_code 9 (some .int) : Cond) ∈ mTs := mTs_in 682 (by decide +kernel) (by decide +kernel)
theorem co_X9_takeClimbed : mCode mX9_takeClimbed := ⟨u682, u83, by decide⟩
theorem u679 : (Cond.methodLink "LineFollowerBench" 347 ⟨"LineFollowerBench$Tuner", "takeClimbed", "(LLineFollowerBench$Grid;LLineFollowerBench$Found;)I"⟩ : Cond) ∈ mTs := mTs_in 679 (by decide +kernel) (by decide +kernel)
theorem u680 : (Cond.instanceMethod ⟨"LineFollowerBench$Tuner", "takeClimbed", "(LLineFollowerBench$Grid;LLineFollowerBench$Found;)I"⟩ : Cond) ∈ mTs := mTs_in 680 (by decide +kernel) (by decide +kernel)
theorem u681 : (Cond.selects "LineFollowerBench$Tuner" ⟨"LineFollowerBench$Tuner", "takeClimbed", "(LLineFollowerBench$Grid;LLineFollowerBench$Found;)I"⟩ ⟨"LineFollowerBench$Tuner", "takeClimbed", "(LLineFollowerBench$Grid;LLineFollowerBench$Found;)I"⟩ : Cond) ∈ mTs := mTs_in 681 (by decide +kernel) (by decide +kernel)
theorem l_X10_347 : mLinkV "LineFollowerBench" 347 2 mX9_takeClimbed := ⟨⟨by decide, by decide, by decide +kernel⟩, co_X9_takeClimbed, u679, u680, u681⟩
set_option maxHeartbeats 4000000 in
set_option maxRecDepth 100000 in
theorem gX10_climb_0 {G : mG} {w : mH} {Φ : mF} {a0 N : Nat} {A : Nat → Int32} {a0_9 a0_0 a0_0_2 a0_11 : Nat} (h1 : hk w a0 = (10, 0)) (h2 : hfr w a0 9 = some a0_9) (h3 : hfr w a0 0 = some a0_0) (h4 : hk w a0_9 = (9, 0)) (h5 : zTun w a0_9) (h6 : zSet w a0_0) (s1 : a0_9 + 18 ≤ a0_0 ∨ a0_0 + 17 ≤ a0_9) (s2 : sRep w a0_0 A) (s3 : gOK A) (s4 : A 13 = nI N) (s5 : 1 ≤ N) (s6 : N ≤ 200) (h7 : hk w a0_0 = (3, 0)) (h8 : hfr w a0_0 2 = some a0_0_2) (h9 : hfr w a0 11 = some a0_11) (h10 : zGrid w a0_0_2) (h11 : zFnd w a0_11) (s7 : ∀ w1 : mH, (mFr a0_9 (a0_9 + 18) w w1 ∧ ∀ m, m < gT A → hal w1 (a0_9 + 16) m = qA A N m) → a0_9 + 18 ≤ a0_0_2 ∨ a0_0_2 + 4 ≤ a0_9) (s8 : ∀ w1 : mH, (mFr a0_9 (a0_9 + 18) w w1 ∧ ∀ m, m < gT A → hal w1 (a0_9 + 16) m = qA A N m) → a0_9 + 18 ≤ a0_11 ∨ a0_11 + 2 ≤ a0_9) (s9 : ∀ w1 : mH, (mFr a0_9 (a0_9 + 18) w w1 ∧ ∀ m, m < gT A → hal w1 (a0_9 + 16) m = qA A N m) → a0_0_2 + 4 ≤ a0_11 ∨ a0_11 + 2 ≤ a0_0_2) (s10 : ∀ w1 : mH, (mFr a0_9 (a0_9 + 18) w w1 ∧ ∀ m, m < gT A → hal w1 (a0_9 + 16) m = qA A N m) → gRep w1 a0_0_2 A) (k1 : ∀ w1 : mH, (mFr a0_9 (a0_9 + 18) w w1 ∧ ∀ m, m < gT A → hal w1 (a0_9 + 16) m = qA A N m) → ∀ w2 : mH, (mSh w1 w2 ∧ mF2 (a0_9 + 17) (a0_9 + 18) a0_11 (a0_11 + 2) w1 w2 ∧ uRep w2 a0_11 A (hal w1 (a0_9 + 16)) (cL (hal w1 (a0_9 + 16)) A 648 zx 0 0).1) → Φ (.inl (some (.int (nI (cL (hal w1 (a0_9 + 16)) A 648 zx 0 0).2)))) w2) : mW G mX10_climb 9 0 0 0 [(0, .ref a0)] [] w Φ := by
  refine mW_aload_n (j := 0) dX10_climb_0 rfl rfl ?_
  refine mW_getR dX10_climb_1 f_X10_64 h1 rfl h2 ?_
  refine mW_aload_n (j := 0) dX10_climb_4 rfl rfl ?_
  refine mW_getR dX10_climb_5 f_X10_12 h1 rfl h3 ?_
  refine mW_callV (As := [.ref a0_0]) (rest := []) (kc2 := 0) (ks2 := 0) dX10_climb_8 l_X10_340 rfl h4 rfl (by decide) (rX9_fillCosts (w := w) (a0 := a0_9) (a1 := a0_0) h5 h6 s1 s2 s3 s4 s5 s6) (Nat.le_of_ble_eq_true rfl) (by decide) rfl rfl mP_x (mP_k (fun w1 q1 => ?_))
  refine mW_aload_n (j := 0) dX10_climb_11 rfl rfl ?_
  refine mW_getR dX10_climb_12 f_X10_64 (s2k (mS2.of q1.1.1) h1) rfl (s2r (mS2.of q1.1.1) h2) ?_
  refine mW_aload_n (j := 0) dX10_climb_15 rfl rfl ?_
  refine mW_getR dX10_climb_16 f_X10_12 (s2k (mS2.of q1.1.1) h1) rfl (s2r (mS2.of q1.1.1) h3) ?_
  refine mW_getR dX10_climb_19 f_X10_177 (s2k (mS2.of q1.1.1) h7) rfl (s2r (mS2.of q1.1.1) h8) ?_
  refine mW_aload_n (j := 0) dX10_climb_22 rfl rfl ?_
  refine mW_getR dX10_climb_23 f_X10_75 (s2k (mS2.of q1.1.1) h1) rfl (s2r (mS2.of q1.1.1) h9) ?_
  refine mW_callV (As := [.ref a0_0_2, .ref a0_11]) (rest := []) (kc2 := 0) (ks2 := 0) dX10_climb_26 l_X10_347 rfl (s2k (mS2.of q1.1.1) h4) rfl (by decide) (rX9_takeClimbed (w := w1) (a0 := a0_9) (a1 := a0_0_2) (a2 := a0_11) (zTun_s2 (mS2.of q1.1.1) h5) (zGrid_s2 (mS2.of q1.1.1) h10) (zFnd_s2 (mS2.of q1.1.1) h11) (s7 w1 q1) (s8 w1 q1) (s9 w1 q1) (s10 w1 q1) s3) (Nat.le_of_ble_eq_true rfl) (by decide) rfl rfl mP_x (mP_k (fun w2 q2 => ?_))
  exact mW_iret dX10_climb_29 rfl (k1 w1 q1 w2 q2)
theorem tX10_climb {G : mG} {w : mH} {a0 : Nat} {A : Nat → Int32} (z : zBen w a0) (hS : sRep w (a0 + 1) A) (ok : aOK A) {N : Nat} (e13 : A 13 = nI N) (h1 : 1 ≤ N) (h200 : N ≤ 200) : mC G mX10_climb 9 0 0 [.ref a0] w (fun o u => ∃ Q : Nat → Int64, (∀ m, m < gT A → Q m = qA A N m) ∧ o = .inl (some (.int (nI (cL Q A 648 zx 0 0).2))) ∧ mF2 (a0 + 172) (a0 + 190) (a0 + 192) (a0 + 194) w u ∧ ∀ x, x = (cL Q A 648 zx 0 0).1 → fnO u (a0 + 192) (gVal A 0 (x 0)) (gVal A 1 (x 1)) (gVal A 2 (x 2)) (Q (fx A x)) (nI (fGt Q (Q (fx A x)) (gT A)))) := by
  refine mC_of (by decide +kernel) rfl (Nat.le_of_ble_eq_true rfl) rfl ?_
  refine gX10_climb_0 (N := N) (A := A) (a0_9 := a0 + 172) (a0_0 := a0 + 1) (a0_0_2 := a0 + 4) (a0_11 := a0 + 192) z.1 z.2.2.2.2.2.2.2.2.1 z.2.1 z.2.2.2.2.2.2.2.2.2.2.2.2.2.2.2.2.2.2.1.1 z.2.2.2.2.2.2.2.2.2.2.2.2.2.2.2.2.2.2.1 z.2.2.2.2.2.2.2.2.2.2.2.1 (by omega) (by exact hS) (by exact ok.2.2.1) (by exact e13) (by exact h1) (by exact h200) z.2.2.2.2.2.2.2.2.2.2.2.1.1 z.2.2.2.2.2.2.2.2.2.2.2.1.2.2.2.1 z.2.2.2.2.2.2.2.2.2.2.1 z.2.2.2.2.2.2.2.2.2.2.2.1.2.2.2.2.2.2.2.2.1 z.2.2.2.2.2.2.2.2.2.2.2.2.2.2.2.2.2.2.2.2.1 (by intro w1 q1; omega) (by intro w1 q1; omega) (by intro w1 q1; omega) (by intro w1 q1; exact gRep_fr q1.1 (by omega) hS.2.2.1) ?_
  · intro w1 q1 w2 q2
    have f : mF2 (a0 + 172) (a0 + 190) (a0 + 192) (a0 + 194) w w2 := (q1.1.f1 (by omega) (by omega)).tr (q2.2.1.in2 (by omega))
    refine ⟨hal w1 (a0 + 172 + 16), q1.2, rfl, f, fun x hx => ?_⟩
    subst hx
    obtain ⟨g1, g2, g3, g4, g5, g6⟩ := q2.2.2
    exact ⟨g1, g2, g3, g4, g5, g6⟩
theorem lo_x {x : Int32} (h : ¬ vX10_isWithin x 0 3 = 0) : x = nI x.toNatClampNeg := by
  obtain ⟨s, hs, hx⟩ := iw_N (n := 3) (by decide) rfl h
  rw [hx, m_cl (by omega)]
theorem lo_4 {x : Int32} (h : ¬ vX10_isWithin x 0 3 = 0) : x.toNatClampNeg < 4 := by
  obtain ⟨s, hs, hx⟩ := iw_N (n := 3) (by decide) rfl h
  rw [hx, m_cl (by omega)]; omega
theorem lo_a {A : Nat → Int32} (ok : aOK A) {s : Nat} (hs : s < 4) : A s = nI (A s).toNatClampNeg ∧ (A s).toNatClampNeg ≤ 1000 := by
  have h := ok.1 s (by omega)
  unfold iw at h
  have hc : s = 0 ∨ s = 1 ∨ s = 2 ∨ s = 3 := by omega
  have hb : 0 ≤ (A s).toInt ∧ (A s).toInt ≤ 1000 := by
    rcases hc with e | e | e | e <;> subst e
    · exact ⟨h.1, Int.le_trans h.2 (by decide)⟩
    · exact ⟨h.1, Int.le_trans h.2 (by decide)⟩
    · exact ⟨h.1, Int.le_trans h.2 (by decide)⟩
    · exact ⟨Int.le_trans (by decide) h.1, h.2⟩
  have e : A s = nI (A s).toInt.toNat := by
    apply Int32.toInt_inj.mp
    rw [nI_toInt (by omega)]; omega
  have e2 : (A s).toNatClampNeg = (A s).toInt.toNat := by
    have := congrArg Int32.toNatClampNeg e
    rw [m_cl (by omega)] at this
    exact this
  rw [e2]; exact ⟨e, by omega⟩
/-- lowest: what is thrown, the answer -/
def tLo2 (A : Nat → Int32) (N : Nat) (x1 : Int32) (y2 : Int64) : Int32 := if vX10_isWithin x1 0 3 = 0 then 1 else if fLowB (aLow A N x1.toNatClampNeg) y2 (sLst x1.toNatClampNeg) ((A x1.toNatClampNeg).toNatClampNeg + 1) = (A x1.toNatClampNeg).toNatClampNeg + 1 then 2 else 0
theorem fLoB_le (C : Nat → Int64) (y : Int64) (l : Nat) : ∀ b, fLowB C y l b ≤ b
  | 0 => Nat.le_refl _
  | b + 1 => by
    unfold fLowB
    by_cases q : b < l
    · rw [if_pos q]; exact Nat.le_refl _
    · rw [if_neg q]
      by_cases q2 : y < C b
      · rw [if_pos q2]; exact Nat.le_refl _
      · rw [if_neg q2]; exact Nat.le_succ_of_le (fLoB_le C y l b)
abbrev mX10_lowest : mM := (yX10_lowest, cX10_lowest, 5, (some .int), [])
theorem u1514 : (Cond.code ⟨"LineFollowerBench$Tuner", "lowered", "(LLineFollowerBench$Setup;IJ)I"⟩ prog_11_method_12_code 7 (some .int) : Cond) ∈ mTs := mTs_in 1514 (by decide +kernel) (by decide +kernel)
theorem co_X9_lowered : mCode mX9_lowered := ⟨u1514, u83, by decide⟩
theorem u1511 : (Cond.methodLink "LineFollowerBench" 373 ⟨"LineFollowerBench$Tuner", "lowered", "(LLineFollowerBench$Setup;IJ)I"⟩ : Cond) ∈ mTs := mTs_in 1511 (by decide +kernel) (by decide +kernel)
theorem u1512 : (Cond.instanceMethod ⟨"LineFollowerBench$Tuner", "lowered", "(LLineFollowerBench$Setup;IJ)I"⟩ : Cond) ∈ mTs := mTs_in 1512 (by decide +kernel) (by decide +kernel)
theorem u1513 : (Cond.selects "LineFollowerBench$Tuner" ⟨"LineFollowerBench$Tuner", "lowered", "(LLineFollowerBench$Setup;IJ)I"⟩ ⟨"LineFollowerBench$Tuner", "lowered", "(LLineFollowerBench$Setup;IJ)I"⟩ : Cond) ∈ mTs := mTs_in 1513 (by decide +kernel) (by decide +kernel)
theorem l_X10_373 : mLinkV "LineFollowerBench" 373 3 mX9_lowered := ⟨⟨by decide, by decide, by decide +kernel⟩, co_X9_lowered, u1511, u1512, u1513⟩
set_option maxHeartbeats 4000000 in
set_option maxRecDepth 100000 in
theorem gX10_lowest_0 {G : mG} {w : mH} {Φ : mF} {a0 : Nat} {x1 : Int32} {y2 : Int64} {N s a : Nat} {A : Nat → Int32} {a0_9 a0_0 : Nat} (h1 : hk w a0 = (10, 0)) (h2 : hfr w a0 9 = some a0_9) (h3 : hfr w a0 0 = some a0_0) (h4 : hk w a0_9 = (9, 0)) (h5 : zTun w a0_9) (h6 : zSet w a0_0) (s1 : (¬ ((vX10_isWithin x1 0 3) = 0)) → a0_9 + 18 ≤ a0_0 ∨ a0_0 + 17 ≤ a0_9) (s2 : (¬ ((vX10_isWithin x1 0 3) = 0)) → sRep w a0_0 A) (s3 : (¬ ((vX10_isWithin x1 0 3) = 0)) → x1 = nI s) (s4 : (¬ ((vX10_isWithin x1 0 3) = 0)) → s < 4) (s5 : (¬ ((vX10_isWithin x1 0 3) = 0)) → A s = nI a) (s6 : (¬ ((vX10_isWithin x1 0 3) = 0)) → a ≤ 1000) (s7 : (¬ ((vX10_isWithin x1 0 3) = 0)) → A 13 = nI N) (s8 : (¬ ((vX10_isWithin x1 0 3) = 0)) → 1 ≤ N) (s9 : (¬ ((vX10_isWithin x1 0 3) = 0)) → N ≤ 200) (k1 : (¬ ((vX10_isWithin x1 0 3) = 0)) → ∀ w1 : mH, (mFr a0_9 (a0_9 + 18) w w1) → (0 ≤ (oLow a (fLowB (aLow A N s) y2 (sLst s) (a + 1)))) → Φ (.inl (some (.int (oLow a (fLowB (aLow A N s) y2 (sLst s) (a + 1)))))) w1) (k2 : (¬ ((vX10_isWithin x1 0 3) = 0)) → ∀ w1 : mH, (mFr a0_9 (a0_9 + 18) w w1) → (¬ (0 ≤ (oLow a (fLowB (aLow A N s) y2 (sLst s) (a + 1))))) → ∀ n, hN w1 ≤ n → Φ (.inr "java/util/NoSuchElementException") (snn w1 n)) (k3 : ((vX10_isWithin x1 0 3) = 0) → ∀ n, hN w ≤ n → Φ (.inr "java/lang/IndexOutOfBoundsException") (snn w n)) : mW G mX10_lowest 9 1 6 0 [(0, .ref a0), (1, .int x1), (2, .long y2)] [] w Φ := by
  refine mW_iload_n (j := 1) dX10_lowest_0 rfl rfl ?_
  refine mW_iconst (v := 0) dX10_lowest_1 (by decide) ?_
  refine mW_iconst (v := 3) dX10_lowest_2 (by decide) ?_
  refine mW_callSe (As := [.int x1, .int 0, .int 3]) (rest := []) (kc2 := 1) (ks2 := 6) dX10_lowest_3 l_X10_78 rfl (qX10_isWithin (w := w) (x0 := x1) (x1 := 0) (x2 := 3)) (Nat.le_of_ble_eq_true rfl) (by decide) rfl rfl ?_
  refine mW_if_ne (tgt := 20) dX10_lowest_6 (by decide) (fun c1 => ?_) (fun c1 => ?_)
  · refine mW_aload_n (j := 0) dX10_lowest_20 rfl rfl ?_
    refine mW_getR dX10_lowest_21 f_X10_64 h1 rfl h2 ?_
    refine mW_aload_n (j := 0) dX10_lowest_24 rfl rfl ?_
    refine mW_getR dX10_lowest_25 f_X10_12 h1 rfl h3 ?_
    refine mW_iload_n (j := 1) dX10_lowest_28 rfl rfl ?_
    refine mW_lload_n (j := 2) dX10_lowest_29 rfl rfl ?_
    refine mW_callV (As := [.ref a0_0, .int x1, .long y2]) (rest := []) (kc2 := 1) (ks2 := 6) dX10_lowest_30 l_X10_373 rfl h4 rfl (by decide) (rX9_lowered (w := w) (a0 := a0_9) (a1 := a0_0) (x2 := x1) (y3 := y2) h5 h6 (s1 c1) (s2 c1) (s3 c1) (s4 c1) (s5 c1) (s6 c1) (s7 c1) (s8 c1) (s9 c1)) (Nat.le_of_ble_eq_true rfl) (by decide) rfl rfl mP_x (mP_k (fun w1 q1 => ?_))
    refine mW_istore (lv2 := [(4, .int (oLow a (fLowB (aLow A N s) y2 (sLst s) (a + 1)))), (0, .ref a0), (1, .int x1), (2, .long y2)]) dX10_lowest_33 (by decide) rfl ?_
    refine mW_iload (j := 0) dX10_lowest_35 rfl ?_
    refine mW_if_ge (tgt := 51) dX10_lowest_37 (by decide) (fun c2 => ?_) (fun c2 => ?_)
    · refine mW_iload (j := 0) dX10_lowest_51 rfl ?_
      exact mW_iret dX10_lowest_53 rfl (k1 c1 w1 q1 c2)
    · exact mW_thrXW (text := "the cost is greater already") (names := ["java/lang/RuntimeException", "java/lang/Exception"]) dX10_lowest_40 dX10_lowest_43 dX10_lowest_44 dX10_lowest_47 dX10_lowest_50 th_140_144 (by decide +kernel) rfl (Nat.le_of_ble_eq_true rfl) (by decide) (by decide) (by decide) (k2 c1 w1 q1 c2)
  · exact mW_thrW (text := "no setting that may be lowered") (names := ["java/lang/RuntimeException", "java/lang/Exception"]) dX10_lowest_9 dX10_lowest_12 dX10_lowest_13 dX10_lowest_16 dX10_lowest_19 th_82_86 (by decide +kernel) rfl (Nat.le_of_ble_eq_true rfl) (by decide) (by decide) (by decide) (k3 c1)
theorem tX10_lowest {G : mG} {w : mH} {a0 : Nat} {x1 : Int32} {y2 : Int64} {A : Nat → Int32} (z : zBen w a0) (hS : sRep w (a0 + 1) A) (ok : aOK A) {N : Nat} (e13 : A 13 = nI N) (h1 : 1 ≤ N) (h200 : N ≤ 200) : mC G mX10_lowest 9 1 6 [.ref a0, .int x1, .long y2] w (tpO "java/lang/IndexOutOfBoundsException" "java/util/NoSuchElementException" "" (tLo2 A N x1 y2) (.int (nI (fLowB (aLow A N x1.toNatClampNeg) y2 (sLst x1.toNatClampNeg) ((A x1.toNatClampNeg).toNatClampNeg + 1)))) (fun u => mFr (a0 + 172) (a0 + 190) w u) (fun u => mFr (a0 + 172) (a0 + 190) w u)) := by
  refine mC_of (by decide +kernel) rfl (Nat.le_of_ble_eq_true rfl) rfl ?_
  refine gX10_lowest_0 (N := N) (s := x1.toNatClampNeg) (a := (A x1.toNatClampNeg).toNatClampNeg) (A := A) (a0_9 := a0 + 172) (a0_0 := a0 + 1) z.1 z.2.2.2.2.2.2.2.2.1 z.2.1 z.2.2.2.2.2.2.2.2.2.2.2.2.2.2.2.2.2.2.1.1 z.2.2.2.2.2.2.2.2.2.2.2.2.2.2.2.2.2.2.1 z.2.2.2.2.2.2.2.2.2.2.2.1 (by intro c1; omega) (by intro c1; exact hS) (by intro c1; exact lo_x c1) (by intro c1; exact lo_4 c1) (by intro c1; exact (lo_a ok (lo_4 c1)).1) (by intro c1; exact (lo_a ok (lo_4 c1)).2) (by intro c1; exact e13) (by intro c1; exact h1) (by intro c1; exact h200) ?_ ?_ ?_
  · intro c1 w1 q1 c2
    have hb := (lo_a ok (lo_4 c1)).2
    have g : ¬ fLowB (aLow A N x1.toNatClampNeg) y2 (sLst x1.toNatClampNeg) ((A x1.toNatClampNeg).toNatClampNeg + 1) = (A x1.toNatClampNeg).toNatClampNeg + 1 := fun q => by
      unfold oLow at c2
      rw [if_pos q] at c2
      exact absurd c2 (by decide)
    have e : oLow (A x1.toNatClampNeg).toNatClampNeg (fLowB (aLow A N x1.toNatClampNeg) y2 (sLst x1.toNatClampNeg) ((A x1.toNatClampNeg).toNatClampNeg + 1)) = nI (fLowB (aLow A N x1.toNatClampNeg) y2 (sLst x1.toNatClampNeg) ((A x1.toNatClampNeg).toNatClampNeg + 1)) := by unfold oLow; rw [if_neg g]
    rw [e]
    exact tp_ok (by unfold tLo2; rw [if_neg c1, if_neg g]) (q1.wide (by omega) (by omega))
  · intro c1 w1 q1 c2
    have hb := (lo_a ok (lo_4 c1)).2
    have hl := fLoB_le (aLow A N x1.toNatClampNeg) y2 (sLst x1.toNatClampNeg) ((A x1.toNatClampNeg).toNatClampNeg + 1)
    have g : fLowB (aLow A N x1.toNatClampNeg) y2 (sLst x1.toNatClampNeg) ((A x1.toNatClampNeg).toNatClampNeg + 1) = (A x1.toNatClampNeg).toNatClampNeg + 1 := Classical.byContradiction fun q => by
      unfold oLow at c2
      rw [if_neg q] at c2
      exact c2 (Int32.not_lt.mp (m_0le (by omega)))
    exact tp_2 (by unfold tLo2; rw [if_neg c1, if_pos g]) (q1.wide (by omega) (by omega))
  · intro c1
    exact tp_1 (by unfold tLo2; rw [if_pos c1]) ⟨mSh.rf, fun _ _ => ⟨rfl, rfl, rfl, rfl⟩⟩
