abbrev mX9_takeClimbed : mM := (yX9_takeClimbed, cX9_takeClimbed, 9, (some .int), [])
set_option maxHeartbeats 4000000 in
set_option maxRecDepth 100000 in
theorem gX9_takeClimbed_0 {G : mG} {w : mH} {Φ : mF} {a0 a1 a2 : Nat} {A : Nat → Int32} {i j k g : Nat} {x : Nat → Nat} {a0_3 n_a0_3 a1_2 n_a1_2 a0_2 n_a0_2 : Nat} (h1 : hk w a0 = (9, 0)) (h2 : hfr w a0 3 = some a0_3) (h3 : hk w a0_3 = (16, n_a0_3)) (s1 : vp_in 0 n_a0_3) (s2 : vp_in 1 n_a0_3) (s3 : vp_in 2 n_a0_3) (h4 : hk w a1 = (1, 0)) (h5 : hfr w a1 2 = some a1_2) (h6 : hk w a1_2 = (16, n_a1_2)) (s4 : vp_in 1 n_a1_2) (s5 : vp_in 2 n_a1_2) (h7 : hfr w a0 2 = some a0_2) (h8 : hk w a0_2 = (17, n_a0_2)) (s6 : ∀ w1 : mH, (w1 = sX9_startIndexes w a0_3) → (¬ ((vX10_isWithin (((((hai w1 a0_3 0) * (hai w1 a1_2 1)) + (hai w1 a0_3 1)) * (hai w1 a1_2 2)) + (hai w1 a0_3 2)) 0 215) = 0)) → vp_in (((((hai w1 a0_3 0) * (hai w1 a1_2 1)) + (hai w1 a0_3 1)) * (hai w1 a1_2 2)) + (hai w1 a0_3 2)) n_a0_2) (k1 : ∀ w1 : mH, (w1 = sX9_startIndexes w a0_3) → mW G mX9_takeClimbed 6 0 0 16 [(0, .ref a0), (1, .ref a1), (2, .ref a2), (3, .long (vX9_costAtIndexes w1 a0_3 a1_2 a0_2)), (5, .int 0), (6, .int 0)] [] w1 Φ) : mW G mX9_takeClimbed 6 0 0 0 [(0, .ref a0), (1, .ref a1), (2, .ref a2)] [] w Φ := by
  refine mW_aload_n (j := 0) dX9_takeClimbed_0 rfl rfl ?_
  refine mW_callVe (As := []) (rest := []) (kc2 := 0) (ks2 := 0) dX9_takeClimbed_1 l_X9_49 rfl h1 rfl (by decide) (qX9_startIndexes (w := w) (a0 := a0) h1 h2 h3 s1 s2 s3) (Nat.le_of_ble_eq_true rfl) (by decide) rfl rfl ?_
  refine mW_nm (fun w1 e1 => ?_)
  refine mW_aload_n (j := 0) dX9_takeClimbed_4 rfl rfl ?_
  refine mW_aload_n (j := 1) dX9_takeClimbed_5 rfl rfl ?_
  refine mW_callVe (As := [.ref a1]) (rest := []) (kc2 := 0) (ks2 := 0) dX9_takeClimbed_6 l_X9_104 rfl (s2k (S2_def e1 kkX9_startIndexes rrX9_startIndexes) h1) rfl (by decide) (qX9_costAtIndexes (w := w1) (a0 := a0) (a1 := a1) (s2k (S2_def e1 kkX9_startIndexes rrX9_startIndexes) h1) (s2r (S2_def e1 kkX9_startIndexes rrX9_startIndexes) h2) (s2k (S2_def e1 kkX9_startIndexes rrX9_startIndexes) h3) s1 (s2k (S2_def e1 kkX9_startIndexes rrX9_startIndexes) h4) (s2r (S2_def e1 kkX9_startIndexes rrX9_startIndexes) h5) (s2k (S2_def e1 kkX9_startIndexes rrX9_startIndexes) h6) s4 s2 s5 s3 (s2r (S2_def e1 kkX9_startIndexes rrX9_startIndexes) h7) (s2k (S2_def e1 kkX9_startIndexes rrX9_startIndexes) h8) (s6 w1 e1)) (Nat.le_of_ble_eq_true rfl) (by decide) rfl rfl ?_
  refine mW_lstore_n (lv2 := [(3, .long (vX9_costAtIndexes w1 a0_3 a1_2 a0_2)), (0, .ref a0), (1, .ref a1), (2, .ref a2)]) dX9_takeClimbed_9 rfl (by decide) rfl ?_
  refine mW_iconst (v := 0) dX9_takeClimbed_10 (by decide) ?_
  refine mW_istore (lv2 := [(5, .int 0), (3, .long (vX9_costAtIndexes w1 a0_3 a1_2 a0_2)), (0, .ref a0), (1, .ref a1), (2, .ref a2)]) dX9_takeClimbed_11 (by decide) rfl ?_
  refine mW_iconst (v := 0) dX9_takeClimbed_13 (by decide) ?_
  refine mW_istore (lv2 := [(6, .int 0), (5, .int 0), (3, .long (vX9_costAtIndexes w1 a0_3 a1_2 a0_2)), (0, .ref a0), (1, .ref a1), (2, .ref a2)]) dX9_takeClimbed_14 (by decide) rfl ?_
  refine mW_loc [3, 4, 5, 2, 1, 0] (lv2 := [(0, .ref a0), (1, .ref a1), (2, .ref a2), (3, .long (vX9_costAtIndexes w1 a0_3 a1_2 a0_2)), (5, .int 0), (6, .int 0)]) rfl ?_
  exact k1 w1 e1
theorem u686 : (Cond.code ⟨"LineFollowerBench$Tuner", "takeBestOfRow", "(LLineFollowerBench$Grid;I)J"⟩ prog_11_method_9_code 9 (some .long) : Cond) ∈ mTs := mTs_in 686 (by decide +kernel) (by decide +kernel)
theorem co_X9_takeBestOfRow : mCode mX9_takeBestOfRow := ⟨u686, u83, by decide⟩
theorem u683 : (Cond.methodLink "LineFollowerBench$Tuner" 108 ⟨"LineFollowerBench$Tuner", "takeBestOfRow", "(LLineFollowerBench$Grid;I)J"⟩ : Cond) ∈ mTs := mTs_in 683 (by decide +kernel) (by decide +kernel)
theorem u685 : (Cond.instanceMethod ⟨"LineFollowerBench$Tuner", "takeBestOfRow", "(LLineFollowerBench$Grid;I)J"⟩ : Cond) ∈ mTs := mTs_in 685 (by decide +kernel) (by decide +kernel)
theorem u22 : (Cond.selects "LineFollowerBench$Tuner" ⟨"LineFollowerBench$Tuner", "takeBestOfRow", "(LLineFollowerBench$Grid;I)J"⟩ ⟨"LineFollowerBench$Tuner", "takeBestOfRow", "(LLineFollowerBench$Grid;I)J"⟩ : Cond) ∈ mTs := mTs_in 22 (by decide +kernel) (by decide +kernel)
theorem l_X9_108 : mLinkV "LineFollowerBench$Tuner" 108 2 mX9_takeBestOfRow := ⟨⟨by decide, by decide, by decide +kernel⟩, co_X9_takeBestOfRow, u683, u685, u22⟩
set_option maxHeartbeats 4000000 in
set_option maxRecDepth 100000 in
theorem gX9_takeClimbed_16 {G : mG} {w : mH} {Φ : mF} {a0 a1 a2 : Nat} {y3 : Int64} {x5 x6 : Int32} {A : Nat → Int32} {i j k g : Nat} {x : Nat → Nat} (h1 : hk w a0 = (9, 0)) (h2 : zTun w a0) (h3 : zGrid w a1) (h4 : zFnd w a2) (s1 : (3 ≤ x6) → a0 + 18 ≤ a2 ∨ a2 + 2 ≤ a0) (s2 : (3 ≤ x6) → a1 + 4 ≤ a2 ∨ a2 + 2 ≤ a1) (s3 : (3 ≤ x6) → gRep w a1 A) (s4 : (3 ≤ x6) → gOK A) (s5 : (3 ≤ x6) → i < cG A 0) (s6 : (3 ≤ x6) → j < cG A 1) (s7 : (3 ≤ x6) → k < cG A 2) (s8 : (3 ≤ x6) → iRep w a0 i j k) (h5 : hk w a2 = (0, 0)) (s9 : (3 ≤ x6) → ∀ w1 : mH, (mFr a2 (a2 + 2) w w1 ∧ hfi w1 a2 0 = 1 ∧ hai w1 (a2 + 1) 0 = gVal A 0 i ∧ hai w1 (a2 + 1) 1 = gVal A 1 j ∧ hai w1 (a2 + 1) 2 = gVal A 2 k ∧ hfl w1 a2 2 = hal w (a0 + 16) (fl A i j k) ∧ hfi w1 a2 3 = hfi w a2 3) → gRep w1 a1 A) (s10 : (¬ (3 ≤ x6)) → (651 ≤ x5) → a0 + 18 ≤ a2 ∨ a2 + 2 ≤ a0) (s11 : (¬ (3 ≤ x6)) → (651 ≤ x5) → a1 + 4 ≤ a2 ∨ a2 + 2 ≤ a1) (s12 : (¬ (3 ≤ x6)) → (651 ≤ x5) → gRep w a1 A) (s13 : (¬ (3 ≤ x6)) → (651 ≤ x5) → gOK A) (s14 : (¬ (3 ≤ x6)) → (651 ≤ x5) → i < cG A 0) (s15 : (¬ (3 ≤ x6)) → (651 ≤ x5) → j < cG A 1) (s16 : (¬ (3 ≤ x6)) → (651 ≤ x5) → k < cG A 2) (s17 : (¬ (3 ≤ x6)) → (651 ≤ x5) → iRep w a0 i j k) (s18 : (¬ (3 ≤ x6)) → (651 ≤ x5) → ∀ w3 : mH, (mFr a2 (a2 + 2) w w3 ∧ hfi w3 a2 0 = 1 ∧ hai w3 (a2 + 1) 0 = gVal A 0 i ∧ hai w3 (a2 + 1) 1 = gVal A 1 j ∧ hai w3 (a2 + 1) 2 = gVal A 2 k ∧ hfl w3 a2 2 = hal w (a0 + 16) (fl A i j k) ∧ hfi w3 a2 3 = hfi w a2 3) → gRep w3 a1 A) (s19 : (¬ (3 ≤ x6)) → (¬ (651 ≤ x5)) → a0 + 18 ≤ a1 ∨ a1 + 4 ≤ a0) (s20 : (¬ (3 ≤ x6)) → (¬ (651 ≤ x5)) → gRep w a1 A) (s21 : (¬ (3 ≤ x6)) → (¬ (651 ≤ x5)) → gOK A) (s22 : (¬ (3 ≤ x6)) → (¬ (651 ≤ x5)) → xOK A x) (s23 : (¬ (3 ≤ x6)) → (¬ (651 ≤ x5)) → g < 3) (s24 : (¬ (3 ≤ x6)) → (¬ (651 ≤ x5)) → (x5 - x5 / 3 * 3) = nI g) (s25 : (¬ (3 ≤ x6)) → (¬ (651 ≤ x5)) → iX w a0 x) (k1 : (3 ≤ x6) → ∀ w1 : mH, (mFr a2 (a2 + 2) w w1 ∧ hfi w1 a2 0 = 1 ∧ hai w1 (a2 + 1) 0 = gVal A 0 i ∧ hai w1 (a2 + 1) 1 = gVal A 1 j ∧ hai w1 (a2 + 1) 2 = gVal A 2 k ∧ hfl w1 a2 2 = hal w (a0 + 16) (fl A i j k) ∧ hfi w1 a2 3 = hfi w a2 3) → ∀ w2 : mH, (w2 = sfi w1 a2 3 (nI (fGt (hal w1 (a0 + 16)) (hfl w1 a2 2) (gT A)))) → Φ (.inl (some (.int x5))) w2) (k2 : (¬ (3 ≤ x6)) → (651 ≤ x5) → ∀ w3 : mH, (mFr a2 (a2 + 2) w w3 ∧ hfi w3 a2 0 = 1 ∧ hai w3 (a2 + 1) 0 = gVal A 0 i ∧ hai w3 (a2 + 1) 1 = gVal A 1 j ∧ hai w3 (a2 + 1) 2 = gVal A 2 k ∧ hfl w3 a2 2 = hal w (a0 + 16) (fl A i j k) ∧ hfi w3 a2 3 = hfi w a2 3) → ∀ w4 : mH, (w4 = sfi w3 a2 3 (nI (fGt (hal w3 (a0 + 16)) (hfl w3 a2 2) (gT A)))) → Φ (.inl (some (.int x5))) w4) (k3 : (¬ (3 ≤ x6)) → (¬ (651 ≤ x5)) → ∀ w5 : mH, (mFr (a0 + 17) (a0 + 18) w w5 ∧ iX w5 a0 (xs x g (bRow (hal w (a0 + 16)) A x g))) → (¬ ((lg_cmp (hal w (a0 + 16) (fx A (xs x g (bRow (hal w (a0 + 16)) A x g)))) y3) = 0)) → mW G mX9_takeClimbed 6 0 0 16 [(0, .ref a0), (1, .ref a1), (2, .ref a2), (3, .long (hal w (a0 + 16) (fx A (xs x g (bRow (hal w (a0 + 16)) A x g))))), (5, .int (x5 + 1)), (6, .int 0)] [] w5 Φ) (k4 : (¬ (3 ≤ x6)) → (¬ (651 ≤ x5)) → ∀ w5 : mH, (mFr (a0 + 17) (a0 + 18) w w5 ∧ iX w5 a0 (xs x g (bRow (hal w (a0 + 16)) A x g))) → ((lg_cmp (hal w (a0 + 16) (fx A (xs x g (bRow (hal w (a0 + 16)) A x g)))) y3) = 0) → mW G mX9_takeClimbed 6 0 0 16 [(0, .ref a0), (1, .ref a1), (2, .ref a2), (3, .long (hal w (a0 + 16) (fx A (xs x g (bRow (hal w (a0 + 16)) A x g))))), (5, .int (x5 + 1)), (6, .int (x6 + 1))] [] w5 Φ) : mW G mX9_takeClimbed 6 0 0 16 [(0, .ref a0), (1, .ref a1), (2, .ref a2), (3, .long y3), (5, .int x5), (6, .int x6)] [] w Φ := by
  refine mW_iload (j := 5) dX9_takeClimbed_16 rfl ?_
  refine mW_iconst (v := 3) dX9_takeClimbed_18 (by decide) ?_
  refine mW_icmp_ge (tgt := 67) dX9_takeClimbed_19 (by decide) (fun c1 => ?_) (fun c1 => ?_)
  · refine mW_aload_n (j := 0) dX9_takeClimbed_67 rfl rfl ?_
    refine mW_aload_n (j := 1) dX9_takeClimbed_68 rfl rfl ?_
    refine mW_aload_n (j := 2) dX9_takeClimbed_69 rfl rfl ?_
    refine mW_callV (As := [.ref a1, .ref a2]) (rest := []) (kc2 := 0) (ks2 := 0) dX9_takeClimbed_70 l_X9_92 rfl h1 rfl (by decide) (rX9_takeIndexes (w := w) (a0 := a0) (a1 := a1) (a2 := a2) h2 h3 h4 (s1 c1) (s2 c1) (s3 c1) (s4 c1) (s5 c1) (s6 c1) (s7 c1) (s8 c1)) (Nat.le_of_ble_eq_true rfl) (by decide) rfl rfl mP_x (mP_k (fun w1 q1 => ?_))
    refine mW_aload_n (j := 2) dX9_takeClimbed_73 rfl rfl ?_
    refine mW_aload_n (j := 0) dX9_takeClimbed_74 rfl rfl ?_
    refine mW_aload_n (j := 1) dX9_takeClimbed_75 rfl rfl ?_
    refine mW_aload_n (j := 2) dX9_takeClimbed_76 rfl rfl ?_
    refine mW_get dX9_takeClimbed_77 f_X9_86 (s2k (mS2.of q1.1.1) h5) rfl ?_
    refine mW_callVe (As := [.ref a1, .long (hfl w1 a2 2)]) (rest := [.ref a2]) (kc2 := 0) (ks2 := 0) dX9_takeClimbed_80 l_X9_96 rfl (s2k (mS2.of q1.1.1) h1) rfl (by decide) (qX9_greaterCosts (w := w1) (a0 := a0) (a1 := a1) (y2 := hfl w1 a2 2) (zTun_s2 (mS2.of q1.1.1) h2) (zGrid_s2 (mS2.of q1.1.1) h3) (s9 c1 w1 q1) (s4 c1)) (Nat.le_of_ble_eq_true rfl) (by decide) rfl rfl ?_
    refine mW_put (ty := .int) (w2 := sfi w1 a2 3 (nI (fGt (hal w1 (a0 + 16)) (hfl w1 a2 2) (gT A)))) dX9_takeClimbed_83 p_X9_100 (s2k (mS2.of q1.1.1) h5) (Nat.le_of_ble_eq_true rfl) (by first | rfl | decide | (repeat' split) <;> rfl) rfl (hN_sfi _ _ _ _) (hk_sfi _ _ _ _) (mE_sfi (s2k (mS2.of q1.1.1) h5) (by decide) (ob_0_3 _ _ _)) ?_
    refine mW_nm (fun w2 e1 => ?_)
    refine mW_iload (j := 4) dX9_takeClimbed_86 rfl ?_
    exact mW_iret dX9_takeClimbed_88 rfl (k1 c1 w1 q1 w2 e1)
  · refine mW_iload (j := 4) dX9_takeClimbed_22 rfl ?_
    refine mW_sipush (v := 651) dX9_takeClimbed_24 (by decide) ?_
    refine mW_icmp_ge (tgt := 67) dX9_takeClimbed_27 (by decide) (fun c2 => ?_) (fun c2 => ?_)
    · refine mW_aload_n (j := 0) dX9_takeClimbed_67 rfl rfl ?_
      refine mW_aload_n (j := 1) dX9_takeClimbed_68 rfl rfl ?_
      refine mW_aload_n (j := 2) dX9_takeClimbed_69 rfl rfl ?_
      refine mW_callV (As := [.ref a1, .ref a2]) (rest := []) (kc2 := 0) (ks2 := 0) dX9_takeClimbed_70 l_X9_92 rfl h1 rfl (by decide) (rX9_takeIndexes (w := w) (a0 := a0) (a1 := a1) (a2 := a2) h2 h3 h4 (s10 c1 c2) (s11 c1 c2) (s12 c1 c2) (s13 c1 c2) (s14 c1 c2) (s15 c1 c2) (s16 c1 c2) (s17 c1 c2)) (Nat.le_of_ble_eq_true rfl) (by decide) rfl rfl mP_x (mP_k (fun w3 q2 => ?_))
      refine mW_aload_n (j := 2) dX9_takeClimbed_73 rfl rfl ?_
      refine mW_aload_n (j := 0) dX9_takeClimbed_74 rfl rfl ?_
      refine mW_aload_n (j := 1) dX9_takeClimbed_75 rfl rfl ?_
      refine mW_aload_n (j := 2) dX9_takeClimbed_76 rfl rfl ?_
      refine mW_get dX9_takeClimbed_77 f_X9_86 (s2k (mS2.of q2.1.1) h5) rfl ?_
      refine mW_callVe (As := [.ref a1, .long (hfl w3 a2 2)]) (rest := [.ref a2]) (kc2 := 0) (ks2 := 0) dX9_takeClimbed_80 l_X9_96 rfl (s2k (mS2.of q2.1.1) h1) rfl (by decide) (qX9_greaterCosts (w := w3) (a0 := a0) (a1 := a1) (y2 := hfl w3 a2 2) (zTun_s2 (mS2.of q2.1.1) h2) (zGrid_s2 (mS2.of q2.1.1) h3) (s18 c1 c2 w3 q2) (s13 c1 c2)) (Nat.le_of_ble_eq_true rfl) (by decide) rfl rfl ?_
      refine mW_put (ty := .int) (w2 := sfi w3 a2 3 (nI (fGt (hal w3 (a0 + 16)) (hfl w3 a2 2) (gT A)))) dX9_takeClimbed_83 p_X9_100 (s2k (mS2.of q2.1.1) h5) (Nat.le_of_ble_eq_true rfl) (by first | rfl | decide | (repeat' split) <;> rfl) rfl (hN_sfi _ _ _ _) (hk_sfi _ _ _ _) (mE_sfi (s2k (mS2.of q2.1.1) h5) (by decide) (ob_0_3 _ _ _)) ?_
      refine mW_nm (fun w4 e2 => ?_)
      refine mW_iload (j := 4) dX9_takeClimbed_86 rfl ?_
      exact mW_iret dX9_takeClimbed_88 rfl (k2 c1 c2 w3 q2 w4 e2)
    · refine mW_aload_n (j := 0) dX9_takeClimbed_30 rfl rfl ?_
      refine mW_aload_n (j := 1) dX9_takeClimbed_31 rfl rfl ?_
      refine mW_iload (j := 4) dX9_takeClimbed_32 rfl ?_
      refine mW_iconst (v := 3) dX9_takeClimbed_34 (by decide) ?_
      refine mW_irem dX9_takeClimbed_35 (by decide) ?_
      refine mW_callV (As := [.ref a1, .int (x5 - x5 / 3 * 3)]) (rest := []) (kc2 := 0) (ks2 := 0) dX9_takeClimbed_36 l_X9_108 rfl h1 rfl (by decide) (rX9_takeBestOfRow (w := w) (a0 := a0) (a1 := a1) (x2 := x5 - x5 / 3 * 3) h2 h3 (s19 c1 c2) (s20 c1 c2) (s21 c1 c2) (s22 c1 c2) (s23 c1 c2) (s24 c1 c2) (s25 c1 c2)) (Nat.le_of_ble_eq_true rfl) (by decide) rfl rfl mP_x (mP_k (fun w5 q3 => ?_))
      refine mW_lstore (lv2 := [(7, .long (hal w (a0 + 16) (fx A (xs x g (bRow (hal w (a0 + 16)) A x g))))), (0, .ref a0), (1, .ref a1), (2, .ref a2), (3, .long y3), (5, .int x5), (6, .int x6)]) dX9_takeClimbed_39 (by decide) rfl ?_
      refine mW_lload (j := 0) dX9_takeClimbed_41 rfl ?_
      refine mW_lload_n (j := 4) dX9_takeClimbed_43 rfl rfl ?_
      refine mW_lcmp dX9_takeClimbed_44 ?_
      refine mW_if_ne (tgt := 55) dX9_takeClimbed_45 (by decide) (fun c3 => ?_) (fun c3 => ?_)
      · refine mW_iconst (v := 0) dX9_takeClimbed_55 (by decide) ?_
        refine mW_istore (lv2 := [(6, .int 0), (7, .long (hal w (a0 + 16) (fx A (xs x g (bRow (hal w (a0 + 16)) A x g))))), (0, .ref a0), (1, .ref a1), (2, .ref a2), (3, .long y3), (5, .int x5)]) dX9_takeClimbed_56 (by decide) rfl ?_
        refine mW_lload (j := 1) dX9_takeClimbed_58 rfl ?_
        refine mW_lstore_n (lv2 := [(3, .long (hal w (a0 + 16) (fx A (xs x g (bRow (hal w (a0 + 16)) A x g))))), (6, .int 0), (7, .long (hal w (a0 + 16) (fx A (xs x g (bRow (hal w (a0 + 16)) A x g))))), (0, .ref a0), (1, .ref a1), (2, .ref a2), (5, .int x5)]) dX9_takeClimbed_60 rfl (by decide) rfl ?_
        refine mW_iinc (j := 6) (v := x5 + 1) (lv2 := [(5, .int (x5 + 1)), (3, .long (hal w (a0 + 16) (fx A (xs x g (bRow (hal w (a0 + 16)) A x g))))), (6, .int 0), (7, .long (hal w (a0 + 16) (fx A (xs x g (bRow (hal w (a0 + 16)) A x g))))), (0, .ref a0), (1, .ref a1), (2, .ref a2)]) dX9_takeClimbed_61 rfl rfl (by decide) rfl ?_
        refine mW_goto (tgt := 16) dX9_takeClimbed_64 (by decide) ?_
        refine mW_loc [4, 5, 6, 1, 0, 2] (lv2 := [(0, .ref a0), (1, .ref a1), (2, .ref a2), (3, .long (hal w (a0 + 16) (fx A (xs x g (bRow (hal w (a0 + 16)) A x g))))), (5, .int (x5 + 1)), (6, .int 0)]) rfl ?_
        exact k3 c1 c2 w5 q3 c3
      · refine mW_iload (j := 6) dX9_takeClimbed_48 rfl ?_
        refine mW_iconst (v := 1) dX9_takeClimbed_50 (by decide) ?_
        refine mW_iadd dX9_takeClimbed_51 ?_
        refine mW_goto (tgt := 56) dX9_takeClimbed_52 (by decide) ?_
        refine mW_istore (lv2 := [(6, .int (x6 + 1)), (7, .long (hal w (a0 + 16) (fx A (xs x g (bRow (hal w (a0 + 16)) A x g))))), (0, .ref a0), (1, .ref a1), (2, .ref a2), (3, .long y3), (5, .int x5)]) dX9_takeClimbed_56 (by decide) rfl ?_
        refine mW_lload (j := 1) dX9_takeClimbed_58 rfl ?_
        refine mW_lstore_n (lv2 := [(3, .long (hal w (a0 + 16) (fx A (xs x g (bRow (hal w (a0 + 16)) A x g))))), (6, .int (x6 + 1)), (7, .long (hal w (a0 + 16) (fx A (xs x g (bRow (hal w (a0 + 16)) A x g))))), (0, .ref a0), (1, .ref a1), (2, .ref a2), (5, .int x5)]) dX9_takeClimbed_60 rfl (by decide) rfl ?_
        refine mW_iinc (j := 6) (v := x5 + 1) (lv2 := [(5, .int (x5 + 1)), (3, .long (hal w (a0 + 16) (fx A (xs x g (bRow (hal w (a0 + 16)) A x g))))), (6, .int (x6 + 1)), (7, .long (hal w (a0 + 16) (fx A (xs x g (bRow (hal w (a0 + 16)) A x g))))), (0, .ref a0), (1, .ref a1), (2, .ref a2)]) dX9_takeClimbed_61 rfl rfl (by decide) rfl ?_
        refine mW_goto (tgt := 16) dX9_takeClimbed_64 (by decide) ?_
        refine mW_loc [4, 5, 6, 1, 0, 2] (lv2 := [(0, .ref a0), (1, .ref a1), (2, .ref a2), (3, .long (hal w (a0 + 16) (fx A (xs x g (bRow (hal w (a0 + 16)) A x g))))), (5, .int (x5 + 1)), (6, .int (x6 + 1))]) rfl ?_
        exact k4 c1 c2 w5 q3 c3
/-! the climb as a function -/
def cNx (q : Nat → Int64) (A : Nat → Int32) (x : Nat → Nat) (n : Nat) : Nat → Nat := xs x (n % 3) (bRow q A x (n % 3))
def cL (q : Nat → Int64) (A : Nat → Int32) : Nat → (Nat → Nat) → Nat → Nat → (Nat → Nat) × Nat
  | 0, x, n, _ => (x, n)
  | f + 1, x, n, u => if u < 3 then cL q A f (cNx q A x n) (n + 1) (if q (fx A (cNx q A x n)) = q (fx A x) then u + 1 else 0) else (x, n)
def zx : Nat → Nat := fun _ => 0
def fLt (q : Nat → Int64) (c : Int64) : Nat → Nat | 0 => 0 | k + 1 => if q k < c then fLt q c k + 1 else fLt q c k
def cP (q : Nat → Int64) (A : Nat → Int32) (x : Nat → Nat) (u : Nat) : Nat := 3 * fLt q (q (fx A x)) (gT A) + (3 - u)
theorem m_r3 : ∀ n, n < 700 → nI n - nI n / 3 * 3 = nI (n % 3) := by decide +kernel
theorem zx_ok {A : Nat → Int32} (ok : gOK A) : xOK A zx := fun g hg => by have := (ok g hg).2.1; unfold zx; omega
theorem fBest_min (q : Nat → Int64) : ∀ k v, v < k → q (fBest q k) ≤ q v
  | 0, v, h => absurd h (Nat.not_lt_zero _)
  | k + 1, v, h => by
    rw [fBest]
    by_cases h0 : k = 0
    · rw [if_pos h0]
      have : v = 0 := by omega
      subst this
      exact Int64.le_refl _
    · rw [if_neg h0]
      by_cases hc : q k < q (fBest q k)
      · rw [if_pos hc]
        rcases Nat.lt_or_ge v k with h1 | h1
        · exact Int64.le_trans (Int64.le_of_lt hc) (fBest_min q k v h1)
        · have : v = k := by omega
          subst this
          exact Int64.le_refl _
      · rw [if_neg hc]
        rcases Nat.lt_or_ge v k with h1 | h1
        · exact fBest_min q k v h1
        · have : v = k := by omega
          subst this
          exact Int64.not_lt.mp hc
theorem cNx_ok {q : Nat → Int64} {A : Nat → Int32} {x : Nat → Nat} {n : Nat} (ok : gOK A) (h : xOK A x) : xOK A (cNx q A x n) := by
  have hg := Nat.mod_lt n (show 0 < 3 by decide)
  exact xs_ok h (fBest_lt _ _ (by have := (ok (n % 3) hg).2.1; omega))
theorem cNx_le {q : Nat → Int64} {A : Nat → Int32} {x : Nat → Nat} {n : Nat} (h : xOK A x) : q (fx A (cNx q A x n)) ≤ q (fx A x) := by
  have hg := Nat.mod_lt n (show 0 < 3 by decide)
  have := fBest_min (rowQ q A x (n % 3)) (cG A (n % 3)) (x (n % 3)) (h _ hg)
  have e : xs x (n % 3) (x (n % 3)) = x := by funext h; unfold xs; split <;> simp_all
  unfold rowQ at this
  rw [e] at this
  exact this
theorem fLt_mono {q : Nat → Int64} {c c' : Int64} (h : c' ≤ c) : ∀ k, fLt q c' k ≤ fLt q c k
  | 0 => Nat.le_refl _
  | k + 1 => by
    have := fLt_mono (q := q) h k
    rw [fLt, fLt]
    by_cases h1 : q k < c'
    · rw [if_pos h1, if_pos (Int64.lt_of_lt_of_le h1 h)]; omega
    · rw [if_neg h1]; split <;> omega
theorem fLt_strict {q : Nat → Int64} {c c' : Int64} (h : c' ≤ c) : ∀ k m, m < k → ¬ q m < c' → q m < c → fLt q c' k < fLt q c k
  | 0, m, hm, _, _ => absurd hm (Nat.not_lt_zero _)
  | k + 1, m, hm, h1, h2 => by
    rw [fLt, fLt]
    by_cases e : m = k
    · subst e
      rw [if_neg h1, if_pos h2]
      have := fLt_mono (q := q) h m
      omega
    · have ih := fLt_strict (q := q) h k m (by omega) h1 h2
      by_cases g1 : q k < c'
      · rw [if_pos g1, if_pos (Int64.lt_of_lt_of_le g1 h)]; omega
      · rw [if_neg g1]; split <;> omega
theorem fLt_le (q : Nat → Int64) (c : Int64) : ∀ k, fLt q c k ≤ k
  | 0 => Nat.le_refl _
  | k + 1 => by have := fLt_le q c k; rw [fLt]; split <;> omega
theorem fLt_self (q : Nat → Int64) : ∀ k m, m < k → fLt q (q m) k < k
  | 0, m, h => absurd h (Nat.not_lt_zero _)
  | k + 1, m, h => by
    rw [fLt]
    by_cases e : m = k
    · subst e
      rw [if_neg (Int64.lt_irrefl)]
      have := fLt_le q (q m) m
      omega
    · have := fLt_self q k m (by omega)
      split <;> omega
/-- each look makes the measure less -/
theorem cP_step {q : Nat → Int64} {A : Nat → Int32} {x : Nat → Nat} {n u : Nat} (ok : gOK A) (h : xOK A x) (hu : u < 3) : cP q A (cNx q A x n) (if q (fx A (cNx q A x n)) = q (fx A x) then u + 1 else 0) + 1 ≤ cP q A x u := by
  have hle := cNx_le (q := q) (n := n) h
  have hlt := fx_lt (cNx_ok (q := q) (n := n) ok h)
  unfold cP
  by_cases e : q (fx A (cNx q A x n)) = q (fx A x)
  · rw [if_pos e, e]; omega
  · rw [if_neg e]
    have := fLt_strict (q := q) hle (gT A) (fx A (cNx q A x n)) hlt (Int64.lt_irrefl) (Int64.lt_of_le_of_ne hle e)
    omega
theorem cP_0 {q : Nat → Int64} {A : Nat → Int32} {x : Nat → Nat} (ok : gOK A) (h : xOK A x) : cP q A x 0 ≤ 648 := by
  have h1 := fLt_self q (gT A) (fx A x) (fx_lt h)
  have h2 := (gT_le ok).2
  unfold cP
  omega
theorem cL_ok {q : Nat → Int64} {A : Nat → Int32} (ok : gOK A) : ∀ f x n u, xOK A x → xOK A (cL q A f x n u).1
  | 0, x, n, u, h => h
  | f + 1, x, n, u, h => by
    rw [cL]
    split
    · exact cL_ok ok f _ _ _ (cNx_ok ok h)
    · exact h
def uRep (w : mH) (a : Nat) (A : Nat → Int32) (q : Nat → Int64) (x : Nat → Nat) : Prop := hfi w a 0 = 1 ∧ hai w (a + 1) 0 = gVal A 0 (x 0) ∧ hai w (a + 1) 1 = gVal A 1 (x 1) ∧ hai w (a + 1) 2 = gVal A 2 (x 2) ∧ hfl w a 2 = q (fx A x) ∧ hfi w a 3 = nI (fGt q (q (fx A x)) (gT A))
theorem climb_loop {G : mG} {w0 : mH} {a0 a1 a2 : Nat} {A : Nat → Int32} {Φ : mF} (z0 : zTun w0 a0) (z1 : zGrid w0 a1) (z2 : zFnd w0 a2) (hd1 : a0 + 18 ≤ a1 ∨ a1 + 4 ≤ a0) (hd2 : a0 + 18 ≤ a2 ∨ a2 + 2 ≤ a0) (hd3 : a1 + 4 ≤ a2 ∨ a2 + 2 ≤ a1) (h0 : gRep w0 a1 A) (ok : gOK A) : ∀ f x n u w, cP (hal w0 (a0 + 16)) A x u ≤ f → n + f ≤ 648 → u ≤ 3 → xOK A x → mFr (a0 + 17) (a0 + 18) w0 w → iX w a0 x →
    (∀ w', mF2 (a0 + 17) (a0 + 18) a2 (a2 + 2) w0 w' → uRep w' a2 A (hal w0 (a0 + 16)) (cL (hal w0 (a0 + 16)) A f x n u).1 → Φ (.inl (some (.int (nI (cL (hal w0 (a0 + 16)) A f x n u).2)))) w') →
    mW G mX9_takeClimbed 6 0 0 16 [(0, .ref a0), (1, .ref a1), (2, .ref a2), (3, .long (hal w0 (a0 + 16) (fx A x))), (5, .int (nI n)), (6, .int (nI u))] [] w Φ := by
  intro f
  induction f with
  | zero =>
    intro x n u w hP hn hu hx F hi hΦ
    have hu3 : u = 3 := by unfold cP at hP; omega
    subst hu3
    have hs : mS2 w0 w := mS2.of F.1
    have hg : gRep w a1 A := gRep_fr F (by omega) h0
    have hq : hal w (a0 + 16) = hal w0 (a0 + 16) := F.hal (by omega)
    have h3 : (3 : Int32) ≤ nI 3 := by decide
    refine gX9_takeClimbed_16 (A := A) (x := x) (g := n % 3) (i := x 0) (j := x 1) (k := x 2) ((zTun_s2 hs z0).1) ((zTun_s2 hs z0)) ((zGrid_s2 hs z1)) ((zFnd_s2 hs z2)) (by intros; omega) (by intros; omega) (by intros; exact hg) (by intros; exact ok) (by intros; exact hx 0 (by decide)) (by intros; exact hx 1 (by decide)) (by intros; exact hx 2 (by decide)) (by intros; exact iX_i hi) ((zFnd_s2 hs z2).1) (by intros; rename_i q9; exact gRep_fr q9.1 (by omega) hg) (by intros; omega) (by intros; omega) (by intros; exact hg) (by intros; exact ok) (by intros; exact hx 0 (by decide)) (by intros; exact hx 1 (by decide)) (by intros; exact hx 2 (by decide)) (by intros; exact iX_i hi) (by intros; rename_i q9; exact gRep_fr q9.1 (by omega) hg) (by intros; omega) (by intros; exact hg) (by intros; exact ok) (by intros; exact hx) (by intros; exact Nat.mod_lt _ (by decide)) (by intros; exact m_r3 n (by omega)) (by intros; exact hi) ?_ ?_ ?_ ?_
    · intro c1 w1 q1 w2 e1
      refine hΦ w2 ?_ ?_
      · rw [e1]
        exact (F.f1 (by omega) (by omega)).tr ((mFr_sfi q1.1 (by omega) (by omega)).f2 (by omega) (by omega))
      · have hq1 : hal w1 (a0 + 16) = hal w0 (a0 + 16) := (q1.1.hal (by omega)).trans hq
        rw [hq1, q1.2.2.2.2.2.1, hq] at e1
        rw [e1]
        refine ⟨by rw [e_hfi_sfi, up2_k _ _ _ (by decide)]; exact q1.2.1, by rw [e_hai_sfi]; exact q1.2.2.1, by rw [e_hai_sfi]; exact q1.2.2.2.1, by rw [e_hai_sfi]; exact q1.2.2.2.2.1, by rw [e_hfl_sfi, q1.2.2.2.2.2.1, hq]; rfl, by rw [e_hfi_sfi, up2_at]; rfl⟩
    all_goals (intro c1; exact absurd h3 c1)
  | succ f ih =>
    intro x n u w hP hn hu hx F hi hΦ
    have hs : mS2 w0 w := mS2.of F.1
    have hg : gRep w a1 A := gRep_fr F (by omega) h0
    have hq : hal w (a0 + 16) = hal w0 (a0 + 16) := F.hal (by omega)
    have h3 : (3 : Int32) ≤ nI u ↔ 3 ≤ u := m_le (a := 3) (by omega) (by omega)
    refine gX9_takeClimbed_16 (A := A) (x := x) (g := n % 3) (i := x 0) (j := x 1) (k := x 2) ((zTun_s2 hs z0).1) ((zTun_s2 hs z0)) ((zGrid_s2 hs z1)) ((zFnd_s2 hs z2)) (by intros; omega) (by intros; omega) (by intros; exact hg) (by intros; exact ok) (by intros; exact hx 0 (by decide)) (by intros; exact hx 1 (by decide)) (by intros; exact hx 2 (by decide)) (by intros; exact iX_i hi) ((zFnd_s2 hs z2).1) (by intros; rename_i q9; exact gRep_fr q9.1 (by omega) hg) (by intros; omega) (by intros; omega) (by intros; exact hg) (by intros; exact ok) (by intros; exact hx 0 (by decide)) (by intros; exact hx 1 (by decide)) (by intros; exact hx 2 (by decide)) (by intros; exact iX_i hi) (by intros; rename_i q9; exact gRep_fr q9.1 (by omega) hg) (by intros; omega) (by intros; exact hg) (by intros; exact ok) (by intros; exact hx) (by intros; exact Nat.mod_lt _ (by decide)) (by intros; exact m_r3 n (by omega)) (by intros; exact hi) ?_ ?_ ?_ ?_
    · intro c1 w1 q1 w2 e1
      rw [h3] at c1
      have e9 : cL (hal w0 (a0 + 16)) A (f + 1) x n u = (x, n) := by rw [cL, if_neg (by omega)]
      rw [e9] at hΦ
      refine hΦ w2 ?_ ?_
      · rw [e1]
        exact (F.f1 (by omega) (by omega)).tr ((mFr_sfi q1.1 (by omega) (by omega)).f2 (by omega) (by omega))
      · have hq1 : hal w1 (a0 + 16) = hal w0 (a0 + 16) := (q1.1.hal (by omega)).trans hq
        rw [hq1, q1.2.2.2.2.2.1, hq] at e1
        rw [e1]
        refine ⟨by rw [e_hfi_sfi, up2_k _ _ _ (by decide)]; exact q1.2.1, by rw [e_hai_sfi]; exact q1.2.2.1, by rw [e_hai_sfi]; exact q1.2.2.2.1, by rw [e_hai_sfi]; exact q1.2.2.2.2.1, by rw [e_hfl_sfi, q1.2.2.2.2.2.1, hq]; rfl, by rw [e_hfi_sfi, up2_at]; rfl⟩
    · intro c1 c2
      rw [show (651 : Int32) = nI 651 from rfl, m_le (by omega) (by omega)] at c2
      omega
    · intro c1 c2 w5 q3 c3
      rw [h3] at c1
      rw [hq, lg_cmp_eq] at c3
      change ¬ hal w0 (a0 + 16) (fx A (cNx (hal w0 (a0 + 16)) A x n)) = hal w0 (a0 + 16) (fx A x) at c3
      have hst := cP_step (q := hal w0 (a0 + 16)) (n := n) ok hx (show u < 3 by omega)
      have e9 : cL (hal w0 (a0 + 16)) A (f + 1) x n u = cL (hal w0 (a0 + 16)) A f (cNx (hal w0 (a0 + 16)) A x n) (n + 1) 0 := by rw [cL, if_pos (by omega), if_neg c3]
      rw [e9] at hΦ
      rw [if_neg c3] at hst
      rw [hq] at q3 ⊢
      rw [nI_1]
      exact ih (cNx (hal w0 (a0 + 16)) A x n) (n + 1) 0 w5 (by omega) (by omega) (by omega) (cNx_ok ok hx) (F.tr q3.1) q3.2 hΦ
    · intro c1 c2 w5 q3 c3
      rw [h3] at c1
      rw [hq, lg_cmp_eq] at c3
      change hal w0 (a0 + 16) (fx A (cNx (hal w0 (a0 + 16)) A x n)) = hal w0 (a0 + 16) (fx A x) at c3
      have hst := cP_step (q := hal w0 (a0 + 16)) (n := n) ok hx (show u < 3 by omega)
      have e9 : cL (hal w0 (a0 + 16)) A (f + 1) x n u = cL (hal w0 (a0 + 16)) A f (cNx (hal w0 (a0 + 16)) A x n) (n + 1) (u + 1) := by rw [cL, if_pos (by omega), if_pos c3]
      rw [e9] at hΦ
      rw [if_pos c3] at hst
      rw [hq] at q3 ⊢
      rw [nI_1, nI_1]
      exact ih (cNx (hal w0 (a0 + 16)) A x n) (n + 1) (u + 1) w5 (by omega) (by omega) (by omega) (cNx_ok ok hx) (F.tr q3.1) q3.2 hΦ
theorem rX9_takeClimbed {G : mG} {w : mH} {a0 a1 a2 : Nat} {A : Nat → Int32} (z0 : zTun w a0) (z1 : zGrid w a1) (z2 : zFnd w a2) (hd1 : a0 + 18 ≤ a1 ∨ a1 + 4 ≤ a0) (hd2 : a0 + 18 ≤ a2 ∨ a2 + 2 ≤ a0) (hd3 : a1 + 4 ≤ a2 ∨ a2 + 2 ≤ a1) (hg : gRep w a1 A) (ok : gOK A) : mC G mX9_takeClimbed 6 0 0 [.ref a0, .ref a1, .ref a2] w (mP (some (.int (nI (cL (hal w (a0 + 16)) A 648 zx 0 0).2))) (fun w' => mSh w w' ∧ mF2 (a0 + 17) (a0 + 18) a2 (a2 + 2) w w' ∧ uRep w' a2 A (hal w (a0 + 16)) (cL (hal w (a0 + 16)) A 648 zx 0 0).1)) := by
  refine mC_of (by decide +kernel) rfl (Nat.le_of_ble_eq_true rfl) rfl ?_
  refine gX9_takeClimbed_0 (A := A) (x := zx) (g := 0) (i := 0) (j := 0) (k := 0) (a0_3 := a0 + 17) (a1_2 := a1 + 3) (a0_2 := a0 + 16) z0.1 z0.2.2.2.2.1 z0.2.2.2.2.2.2.2.2 (by intros; unfold vp_in; decide) (by intros; unfold vp_in; decide) (by intros; unfold vp_in; decide) z1.1 z1.2.2.2.1 z1.2.2.2.2.2.2 (by intros; unfold vp_in; decide) (by intros; unfold vp_in; decide) z0.2.2.2.1 z0.2.2.2.2.2.2.2.1 (by intro w1 e1 _; obtain ⟨f1, i1⟩ := st_v e1; exact inX_v (gRep_fr f1 (by omega) hg) ok (zx_ok ok) (iX_of i1 rfl rfl rfl)) ?_
  intro w1 e1
  obtain ⟨f1, i1⟩ := st_v e1
  have ix := iX_of (x := zx) i1 rfl rfl rfl
  have hq : hal w1 (a0 + 16) = hal w (a0 + 16) := f1.hal (by omega)
  rw [costX_v (gRep_fr f1 (by omega) hg) ok (zx_ok ok) ix, hq]
  exact climb_loop z0 z1 z2 hd1 hd2 hd3 hg ok 648 zx 0 0 w1 (cP_0 ok (zx_ok ok)) (by omega) (by omega) (zx_ok ok) f1 ix (fun w' F2 u2 => mP_of ⟨F2.1, F2, u2⟩)
