/-! measures and costs of a trace T (lanes 0 to 5) -/
theorem fSum_congr {E E' : Nat → Int32} : ∀ k, (∀ j, j < k → E j = E' j) → fSum E k = fSum E' k
  | 0, _ => rfl
  | k + 1, h => by rw [fSum, fSum, fSum_congr k (fun j hj => h j (by omega)), h k (by omega)]
theorem fMax_congr {E E' : Nat → Int32} : ∀ k, (∀ j, j ≤ k → E j = E' j) → fMax E k = fMax E' k
  | 0, _ => rfl
  | k + 1, h => by rw [fMax, fMax, fMax_congr k (fun j hj => h j (by omega)), h (k + 1) (by omega)]
theorem fOver_congr {E E' : Nat → Int32} : ∀ k, (∀ j, j ≤ k → E j = E' j) → fOver E k = fOver E' k
  | 0, _ => rfl
  | k + 1, h => by rw [fOver, fOver, fOver_congr k (fun j hj => h j (by omega)), h 0 (by omega), h (k + 1) (by omega)]
theorem fCross_congr {E E' : Nat → Int32} : ∀ k, (∀ j, j ≤ k → E j = E' j) → fCross E k = fCross E' k
  | 0, _ => rfl
  | k + 1, h => by rw [fCross, fCross, fCross_congr k (fun j hj => h j (by omega)), h k (by omega), h (k + 1) (by omega)]
theorem fSat_congr {E E' : Nat → Int32} : ∀ k, (∀ j, j < k → E j = E' j) → fSat E k = fSat E' k
  | 0, _ => rfl
  | k + 1, h => by rw [fSat, fSat, fSat_congr k (fun j hj => h j (by omega)), h k (by omega)]
theorem fPv_congr {E E' : Nat → Int32} : ∀ k, (∀ j, j < k → E j = E' j) → fPv E k = fPv E' k
  | 0, _ => rfl
  | k + 1, h => by rw [fPv, fPv]; exact h k (by omega)
theorem fAct_congr {E E' : Nat → Int32} : ∀ k, (∀ j, j < k → E j = E' j) → fAct E k = fAct E' k
  | 0, _ => rfl
  | k + 1, h => by rw [fAct, fAct, fAct_congr k (fun j hj => h j (by omega)), h k (by omega), fPv_congr k (fun j hj => h j (by omega))]
theorem fT_congr {E E' : Nat → Int32} {b : Int32} : ∀ k, (∀ j, j < k → E j = E' j) → fT E b k = fT E' b k
  | 0, _ => rfl
  | k + 1, h => by rw [fT, fT, fT_congr k (fun j hj => h j (by omega)), h k (by omega)]
theorem fSet_congr {E E' : Nat → Int32} {b : Int32} {N : Nat} (h : ∀ j, j ≤ N → E j = E' j) : fSet E b N = fSet E' b N := by
  unfold fSet
  rw [fT_congr (N + 1) (fun j hj => h j (by omega))]
def tRw (w : mH) (a : Nat) (T : Nat → Nat → Int32) (N : Nat) : Prop := hfi w a 6 = nI N ∧ (∀ t, t ≤ N → hai w (a + 1) t = T 0 t) ∧ ∀ t, t < N → hai w (a + 2) t = T 1 t ∧ hai w (a + 3) t = T 2 t ∧ hai w (a + 4) t = T 3 t ∧ hai w (a + 5) t = T 4 t ∧ hai w (a + 6) t = T 5 t
theorem tRw_fr {lo hi : Nat} {w w' : mH} {a N : Nat} {T : Nat → Nat → Int32} (f : mFr lo hi w w') (h : a + 7 ≤ lo ∨ hi ≤ a) (z : tRw w a T N) : tRw w' a T N := by
  unfold tRw at z ⊢
  simp (disch := omega) only [f.hai, f.hfi]
  exact z
def aT (S A : Nat → Int32) : Nat → Nat → Int32
  | 0 => fun t => (aSt S A t).1
  | 1 => fun t => xSn S t (aSt S A t)
  | 2 => fun t => (aSt S A (t + 1)).2.2.2.2.1
  | 3 => fun t => (aSt S A (t + 1)).2.2.1
  | 4 => fun t => (aSt S A (t + 1)).2.2.2.1
  | _ => fun t => aSat S A t
theorem aRep_t {w : mH} {a N : Nat} {S A : Nat → Int32} (h : aRep w a S A N) : tRw w a (aT S A) N := h
theorem tRw_at {w : mH} {a N : Nat} {T : Nat → Nat → Int32} (z : zTra w a) (h : tRw w a T N) (hN : N ≤ 200) : tAt w a (fun k => a + 1 + k) N := by
  refine ⟨z.1, fun k hk => ?_, z.2.2.2.2.2.2.2.1, fun k h0 hk => ?_, h.1, hN⟩
  · rcases (show k = 0 ∨ k = 1 ∨ k = 2 ∨ k = 3 ∨ k = 4 ∨ k = 5 by omega) with rfl | rfl | rfl | rfl | rfl | rfl
    · exact z.2.1
    · exact z.2.2.1
    · exact z.2.2.2.1
    · exact z.2.2.2.2.1
    · exact z.2.2.2.2.2.1
    · exact z.2.2.2.2.2.2.1
  · rcases (show k = 1 ∨ k = 2 ∨ k = 3 ∨ k = 4 ∨ k = 5 by omega) with rfl | rfl | rfl | rfl | rfl
    · exact z.2.2.2.2.2.2.2.2.1
    · exact z.2.2.2.2.2.2.2.2.2.1
    · exact z.2.2.2.2.2.2.2.2.2.2.1
    · exact z.2.2.2.2.2.2.2.2.2.2.2.1
    · exact z.2.2.2.2.2.2.2.2.2.2.2.2
def tCost (T : Nat → Nat → Int32) (N : Nat) (W : Nat → Int32) (band : Int32) : Int64 := (((W 0).toInt64 * (fSum (T 0) (N + 1)).toInt64 + (W 1).toInt64 * (fOver (T 0) N).toInt64) + (W 2).toInt64 * (fSat (T 5) N).toInt64) + (W 3).toInt64 * (fAct (T 3) N).toInt64 + (W 4).toInt64 * (if fSet (T 0) band N = -1 then (1000 : Int32) else fSet (T 0) band N).toInt64
def tMeas (T : Nat → Nat → Int32) (N : Nat) (what band : Int32) : Int32 := if what = 0 then fSum (T 0) (N + 1) else if what = 1 then fMax (T 0) N else if what = 2 then fOver (T 0) N else if what = 3 then fSet (T 0) band N else if what = 4 then fCross (T 0) N else if what = 5 then fSat (T 5) N else if what = 6 then fAct (T 3) N else T 0 N
theorem qX6_weighted' {G : mG} {w : mH} {a0 a1 N : Nat} {x2 : Int32} {T : Nat → Nat → Int32} {W : Nat → Int32} (z : zTra w a0) (h : tRw w a0 T N) (hN : N ≤ 200) (hk1 : hk w a1 = (16, 5)) (hW : ∀ k, k < 5 → hai w a1 k = W k) : mC G mX6_weighted 3 0 0 [.ref a0, .ref a1, .int x2] w (mEq (.inl (some (.long (tCost T N W x2)))) w) := by
  have q := qX6_weighted (G := G) (x2 := x2) hk1 z.1 (tRw_at z h hN) (fun _ => by unfold vp_in; decide) (fun _ => by unfold vp_in; decide) (fun _ => by unfold vp_in; decide) (fun _ => by unfold vp_in; decide) (fun _ => by unfold vp_in; decide)
  have e : vX6_weighted w a1 x2 5 (fun k => a0 + 1 + k) N = tCost T N W x2 := by
    obtain ⟨h1, h2, h3⟩ := h
    unfold vX6_weighted tCost
    rw [if_pos (by decide)]
    simp only [hW 0 (by decide), hW 1 (by decide), hW 2 (by decide), hW 3 (by decide), hW 4 (by decide)]
    rw [fSum_congr (E := hai w (a0 + 1 + 0)) (E' := T 0) (N + 1) (fun j hj => h2 j (by omega)), fOver_congr (E := hai w (a0 + 1 + 0)) (E' := T 0) N (fun j hj => h2 j hj), fSat_congr (E := hai w (a0 + 1 + 5)) (E' := T 5) N (fun j hj => (h3 j hj).2.2.2.2), fAct_congr (E := hai w (a0 + 1 + 3)) (E' := T 3) N (fun j hj => (h3 j hj).2.2.1), fSet_congr (E := hai w (a0 + 1 + 0)) (E' := T 0) (fun j hj => h2 j hj)]
    split <;> rfl
  rw [← e]
  exact q
theorem qX6_measured' {G : mG} {w : mH} {a0 N : Nat} {x1 x2 : Int32} {T : Nat → Nat → Int32} (z : zTra w a0) (h : tRw w a0 T N) (hN : N ≤ 200) (hn : 1 ≤ N) : mC G mX6_measured 3 0 0 [.ref a0, .int x1, .int x2] w (mEq (.inl (some (.int (tMeas T N x1 x2)))) w) := by
  have q := qX6_measured (G := G) (x1 := x1) (x2 := x2) z.1 (tRw_at z h hN) z.2.1 z.2.2.2.2.2.2.2.1 (fun _ _ _ _ _ _ _ _ => by rw [h.1]; exact m_vp (by omega) (by omega))
  have e : vX6_measured w a0 x1 x2 (fun k => a0 + 1 + k) N (a0 + 1) = tMeas T N x1 x2 := by
    obtain ⟨h1, h2, h3⟩ := h
    unfold vX6_measured tMeas
    rw [fSum_congr (E := hai w (a0 + 1 + 0)) (E' := T 0) (N + 1) (fun j hj => h2 j (by omega)), fMax_congr (E := hai w (a0 + 1 + 0)) (E' := T 0) N (fun j hj => h2 j hj), fCross_congr (E := hai w (a0 + 1 + 0)) (E' := T 0) N (fun j hj => h2 j hj), fOver_congr (E := hai w (a0 + 1 + 0)) (E' := T 0) N (fun j hj => h2 j hj), fSat_congr (E := hai w (a0 + 1 + 5)) (E' := T 5) N (fun j hj => (h3 j hj).2.2.2.2), fAct_congr (E := hai w (a0 + 1 + 3)) (E' := T 3) N (fun j hj => (h3 j hj).2.2.1), fSet_congr (E := hai w (a0 + 1 + 0)) (E' := T 0) (fun j hj => h2 j hj)]
    have hl : vX6_lastError w a0 (a0 + 1) = T 0 N := by
      have hm : ¬ vX6_isMade w a0 = 0 := by
        unfold vX6_isMade
        rw [h1, if_neg (by rw [m_le0 (by omega)]; omega), if_neg (by rw [m_200 (by omega)]; omega)]
        decide
      unfold vX6_lastError
      rw [if_neg hm, h1, m_cl (by omega)]
      exact h2 N (Nat.le_refl _)
    rw [hl]
  rw [← e]
  exact q
def aCost (S A : Nat → Int32) (N : Nat) : Int64 := tCost (aT S A) N (fun k => A (15 + k)) (A 14)
def mRun (w : mH) (a0 a1 : Nat) (S A : Nat → Int32) (N : Nat) : Prop := a1 = a0 + 8 ∧ zSim w a0 ∧ zTra w (a0 + 8) ∧ (∀ k, k < 15 → hai w (a0 + 1) k = S k) ∧ tRep w (a0 + 2) A ∧ (∀ t, t < N → hai w (a0 + 5) t = aCur A (nI t) ∧ hai w (a0 + 6) t = aPus A (nI t)) ∧ S 13 = nI N ∧ 1 ≤ N ∧ N ≤ 200
theorem rX4_runR {G : mG} {w : mH} {a0 a1 N : Nat} {S A : Nat → Int32} (h : mRun w a0 a1 S A N) : mC G mX4_makeRun 6 0 0 [.ref a0, .ref a1] w (mP none (fun w' => mFr a0 (a0 + 15) w w' ∧ (∀ b, a0 < b → b < a0 + 7 → hfi w' b = hfi w b ∧ hai w' b = hai w b) ∧ tRw w' a1 (aT S A) N)) := by
  obtain ⟨rfl, h1, h2, h3, h4, h5, h6, h7, h8⟩ := h
  exact rX4_run h1 h2 h3 h4 h5 h6 h7 h8
abbrev mX9_trialCost : mM := (yX9_trialCost, cX9_trialCost, 2, (some .long), [])
theorem u406 : (Cond.fieldLink "LineFollowerBench$Tuner" 12 "LineFollowerBench$Tuner" "simulation" "LLineFollowerBench$Simulation;" : Cond) ∈ mTs := mTs_in 406 (by decide +kernel) (by decide +kernel)
theorem f_X9_12 : mFld "LineFollowerBench$Tuner" 12 9 0 := ⟨RX9, TX9, 4, "LineFollowerBench$Tuner", rfl, by decide, in_X9, u406, Or.inl rfl, by decide⟩
theorem u407 : (Cond.fieldLink "LineFollowerBench$Tuner" 21 "LineFollowerBench$Tuner" "trial" "LLineFollowerBench$Trace;" : Cond) ∈ mTs := mTs_in 407 (by decide +kernel) (by decide +kernel)
theorem f_X9_21 : mFld "LineFollowerBench$Tuner" 21 9 1 := ⟨RX9, TX9, 4, "LineFollowerBench$Tuner", rfl, by decide, in_X9, u407, Or.inl rfl, by decide⟩
theorem u528 : (Cond.code ⟨"LineFollowerBench$Simulation", "makeRun", "(LLineFollowerBench$Trace;)V"⟩ prog_6_method_3_code 3 (none : Option ClassFile.FieldType) : Cond) ∈ mTs := mTs_in 528 (by decide +kernel) (by decide +kernel)
theorem co_X4_makeRun : mCode mX4_makeRun := ⟨u528, u81, by decide⟩
theorem u620 : (Cond.methodLink "LineFollowerBench$Tuner" 70 ⟨"LineFollowerBench$Simulation", "makeRun", "(LLineFollowerBench$Trace;)V"⟩ : Cond) ∈ mTs := mTs_in 620 (by decide +kernel) (by decide +kernel)
theorem u526 : (Cond.instanceMethod ⟨"LineFollowerBench$Simulation", "makeRun", "(LLineFollowerBench$Trace;)V"⟩ : Cond) ∈ mTs := mTs_in 526 (by decide +kernel) (by decide +kernel)
theorem u527 : (Cond.selects "LineFollowerBench$Simulation" ⟨"LineFollowerBench$Simulation", "makeRun", "(LLineFollowerBench$Trace;)V"⟩ ⟨"LineFollowerBench$Simulation", "makeRun", "(LLineFollowerBench$Trace;)V"⟩ : Cond) ∈ mTs := mTs_in 527 (by decide +kernel) (by decide +kernel)
theorem l_X9_70 : mLinkV "LineFollowerBench$Tuner" 70 1 mX4_makeRun := ⟨⟨by decide, by decide, by decide +kernel⟩, co_X4_makeRun, u620, u526, u527⟩
theorem u206 : (Cond.fieldLink "LineFollowerBench$Tuner" 74 "LineFollowerBench$Setup" "weights" "[I" : Cond) ∈ mTs := mTs_in 206 (by decide +kernel) (by decide +kernel)
theorem f_X9_74 : mFld "LineFollowerBench$Tuner" 74 3 1 := ⟨RX3, TX3, 5, "LineFollowerBench$Setup", rfl, by decide, in_X3, u206, Or.inl rfl, by decide⟩
theorem u204 : (Cond.fieldLink "LineFollowerBench$Tuner" 77 "LineFollowerBench$Setup" "settings" "[I" : Cond) ∈ mTs := mTs_in 204 (by decide +kernel) (by decide +kernel)
theorem f_X9_77 : mFld "LineFollowerBench$Tuner" 77 3 0 := ⟨RX3, TX3, 5, "LineFollowerBench$Setup", rfl, by decide, in_X3, u204, Or.inl rfl, by decide⟩
theorem u624 : (Cond.code ⟨"LineFollowerBench$Trace", "weighted", "([II)J"⟩ prog_8_method_6_code 6 (some .long) : Cond) ∈ mTs := mTs_in 624 (by decide +kernel) (by decide +kernel)
theorem co_X6_weighted : mCode mX6_weighted := ⟨u624, u82, by decide⟩
theorem u621 : (Cond.methodLink "LineFollowerBench$Tuner" 78 ⟨"LineFollowerBench$Trace", "weighted", "([II)J"⟩ : Cond) ∈ mTs := mTs_in 621 (by decide +kernel) (by decide +kernel)
theorem u622 : (Cond.instanceMethod ⟨"LineFollowerBench$Trace", "weighted", "([II)J"⟩ : Cond) ∈ mTs := mTs_in 622 (by decide +kernel) (by decide +kernel)
theorem u623 : (Cond.selects "LineFollowerBench$Trace" ⟨"LineFollowerBench$Trace", "weighted", "([II)J"⟩ ⟨"LineFollowerBench$Trace", "weighted", "([II)J"⟩ : Cond) ∈ mTs := mTs_in 623 (by decide +kernel) (by decide +kernel)
theorem l_X9_78 : mLinkV "LineFollowerBench$Tuner" 78 2 mX6_weighted := ⟨⟨by decide, by decide, by decide +kernel⟩, co_X6_weighted, u621, u622, u623⟩
set_option maxHeartbeats 4000000 in
set_option maxRecDepth 100000 in
theorem gX9_trialCost_0 {G : mG} {w : mH} {Φ : mF} {a0 a1 : Nat} {S A : Nat → Int32} {N : Nat} {T : Nat → Nat → Int32} {W : Nat → Int32} {a0_0 a0_1 a1_1 a1_0 n_a1_0 : Nat} (h1 : hk w a0 = (9, 0)) (h2 : hfr w a0 0 = some a0_0) (h3 : hfr w a0 1 = some a0_1) (h4 : hk w a0_0 = (4, 0)) (s1 : mRun w a0_0 a0_1 S A N) (h5 : hk w a1 = (3, 0)) (h6 : hfr w a1 1 = some a1_1) (h7 : hfr w a1 0 = some a1_0) (h8 : hk w a1_0 = (16, n_a1_0)) (s2 : vp_in 14 n_a1_0) (h9 : hk w a0_1 = (6, 0)) (h10 : zTra w a0_1) (s3 : ∀ w1 : mH, (mFr a0_0 (a0_0 + 15) w w1 ∧ (∀ b, a0_0 < b → b < a0_0 + 7 → hfi w1 b = hfi w b ∧ hai w1 b = hai w b) ∧ tRw w1 a0_1 (aT S A) N) → tRw w1 a0_1 T N) (s4 : ∀ w1 : mH, (mFr a0_0 (a0_0 + 15) w w1 ∧ (∀ b, a0_0 < b → b < a0_0 + 7 → hfi w1 b = hfi w b ∧ hai w1 b = hai w b) ∧ tRw w1 a0_1 (aT S A) N) → N ≤ 200) (h11 : hk w a1_1 = (16, 5)) (s5 : ∀ w1 : mH, (mFr a0_0 (a0_0 + 15) w w1 ∧ (∀ b, a0_0 < b → b < a0_0 + 7 → hfi w1 b = hfi w b ∧ hai w1 b = hai w b) ∧ tRw w1 a0_1 (aT S A) N) → ∀ k, k < 5 → hai w1 a1_1 k = W k) (k1 : ∀ w1 : mH, (mFr a0_0 (a0_0 + 15) w w1 ∧ (∀ b, a0_0 < b → b < a0_0 + 7 → hfi w1 b = hfi w b ∧ hai w1 b = hai w b) ∧ tRw w1 a0_1 (aT S A) N) → Φ (.inl (some (.long (tCost T N W (hai w1 a1_0 14))))) w1) : mW G mX9_trialCost 7 0 0 0 [(0, .ref a0), (1, .ref a1)] [] w Φ := by
  refine mW_aload_n (j := 0) dX9_trialCost_0 rfl rfl ?_
  refine mW_getR dX9_trialCost_1 f_X9_12 h1 rfl h2 ?_
  refine mW_aload_n (j := 0) dX9_trialCost_4 rfl rfl ?_
  refine mW_getR dX9_trialCost_5 f_X9_21 h1 rfl h3 ?_
  refine mW_callV (As := [.ref a0_1]) (rest := []) (kc2 := 0) (ks2 := 0) dX9_trialCost_8 l_X9_70 rfl h4 rfl (by decide) (rX4_runR (w := w) (a0 := a0_0) (a1 := a0_1) s1) (Nat.le_of_ble_eq_true rfl) (by decide) rfl rfl mP_x (mP_k (fun w1 q1 => ?_))
  refine mW_aload_n (j := 0) dX9_trialCost_11 rfl rfl ?_
  refine mW_getR dX9_trialCost_12 f_X9_21 (s2k (mS2.of q1.1.1) h1) rfl (s2r (mS2.of q1.1.1) h3) ?_
  refine mW_aload_n (j := 1) dX9_trialCost_15 rfl rfl ?_
  refine mW_getR dX9_trialCost_16 f_X9_74 (s2k (mS2.of q1.1.1) h5) rfl (s2r (mS2.of q1.1.1) h6) ?_
  refine mW_aload_n (j := 1) dX9_trialCost_19 rfl rfl ?_
  refine mW_getR dX9_trialCost_20 f_X9_77 (s2k (mS2.of q1.1.1) h5) rfl (s2r (mS2.of q1.1.1) h7) ?_
  refine mW_bipush (v := 14) dX9_trialCost_23 (by decide) ?_
  refine mW_ialdJ dX9_trialCost_25 (s2k (mS2.of q1.1.1) h8) s2 (j := 14) (by decide) ?_
  refine mW_callVe (As := [.ref a1_1, .int (hai w1 a1_0 14)]) (rest := []) (kc2 := 0) (ks2 := 0) dX9_trialCost_26 l_X9_78 rfl (s2k (mS2.of q1.1.1) h9) rfl (by decide) (qX6_weighted' (w := w1) (a0 := a0_1) (a1 := a1_1) (x2 := hai w1 a1_0 14) (zTra_s2 (mS2.of q1.1.1) h10) (s3 w1 q1) (s4 w1 q1) (s2k (mS2.of q1.1.1) h11) (s5 w1 q1)) (Nat.le_of_ble_eq_true rfl) (by decide) rfl rfl ?_
  exact mW_lret dX9_trialCost_29 rfl (k1 w1 q1)
