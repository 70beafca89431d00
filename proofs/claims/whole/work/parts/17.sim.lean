/-! Simulation: one step as pure functions of the settings S, the table tab -/
def pMeas (S : Nat → Int32) (e : Int32) : Int32 := if S 5 ≤ 0 then e else e / S 5 * S 5
def pSum (S : Nat → Int32) (i s : Int32) : Int32 := if S 7 = 1 then vX10_limited (vX10_limited (i + s) 1000000) (S 8) else vX10_limited (i + s) 1000000
def pTwo (S : Nat → Int32) (s out : Int32) : Int32 := if s ≤ S 11 then (if -(S 11) ≤ s then out else -(S 3)) else S 3
def pRaw (S : Nat → Int32) (tab : Int32 → Int32) (s ch i out : Int32) : Int32 := if S 10 = 0 then (S 0 * s + S 1 * pSum S i s + S 2 * ch) / 64 else if S 10 = 1 then pTwo S s out else tab s
def pKept (S : Nat → Int32) (su s raw out i : Int32) : Int32 := if S 7 = 2 then (if raw = out then su else (if raw ≤ 0 then (if 0 ≤ raw then su else (if 0 ≤ s then su else i)) else (if 0 < s then i else (if 0 ≤ raw then su else (if 0 ≤ s then su else i))))) else (if S 7 = 3 then vX10_limited (su - (raw - out) * S 9 / 16) 1000000 else su)
def pOut (S : Nat → Int32) (tab : Int32 → Int32) (s ch i out : Int32) : Int32 := vX10_limited (pRaw S tab s ch i out) (S 3)
def pInt (S : Nat → Int32) (tab : Int32 → Int32) (s ch i out : Int32) : Int32 := if S 10 = 0 then pKept S (pSum S i s) s (pRaw S tab s ch i out) (pOut S tab s ch i out) i else i
def pSat (S : Nat → Int32) (tab : Int32 → Int32) (s ch i out : Int32) : Int32 := if pRaw S tab s ch i out = pOut S tab s ch i out then 0 else 1
def sTab (w : mH) (a : Nat) : Int32 → Int32 := fRaw (hai w (a + 1)) (hai w (a + 2)) (hfi w a 2).toNatClampNeg
def sTabOK (w : mH) (a : Nat) : Prop := hfi w a 2 = nI (hfi w a 2).toNatClampNeg ∧ (hfi w a 2).toNatClampNeg ≤ 5
theorem m_b2 {w : mH} {a : Nat} (z : zTab w a) (h : sTabOK w a) : bAt w a (a + 1) (a + 2) (hfi w a 2).toNatClampNeg := ⟨z.1, z.2.1, z.2.2.2.1, z.2.2.1, z.2.2.2.2, h.1, h.2⟩
abbrev mX4_control : mM := (yX4_control, cX4_control, 6, none, [])
theorem u325 : (Cond.fieldLink "LineFollowerBench$Simulation" 26 "LineFollowerBench$Simulation" "table" "LLineFollowerBench$Table;" : Cond) ∈ mTs := mTs_in 325 (by decide +kernel) (by decide +kernel)
theorem f_X4_26 : mFld "LineFollowerBench$Simulation" 26 4 1 := ⟨RX4, TX4, 11, "LineFollowerBench$Simulation", rfl, by decide, in_X4, u325, Or.inl rfl, by decide⟩
theorem u569 : (Cond.code ⟨"LineFollowerBench$Table", "rawOutput", "(I)I"⟩ prog_7_method_8_code 3 (some .int) : Cond) ∈ mTs := mTs_in 569 (by decide +kernel) (by decide +kernel)
theorem co_X5_rawOutput : mCode mX5_rawOutput := ⟨u569, u73, by decide⟩
theorem u566 : (Cond.methodLink "LineFollowerBench$Simulation" 145 ⟨"LineFollowerBench$Table", "rawOutput", "(I)I"⟩ : Cond) ∈ mTs := mTs_in 566 (by decide +kernel) (by decide +kernel)
theorem u567 : (Cond.instanceMethod ⟨"LineFollowerBench$Table", "rawOutput", "(I)I"⟩ : Cond) ∈ mTs := mTs_in 567 (by decide +kernel) (by decide +kernel)
theorem u568 : (Cond.selects "LineFollowerBench$Table" ⟨"LineFollowerBench$Table", "rawOutput", "(I)I"⟩ ⟨"LineFollowerBench$Table", "rawOutput", "(I)I"⟩ : Cond) ∈ mTs := mTs_in 568 (by decide +kernel) (by decide +kernel)
theorem l_X4_145 : mLinkV "LineFollowerBench$Simulation" 145 1 mX5_rawOutput := ⟨⟨by decide, by decide, by decide +kernel⟩, co_X5_rawOutput, u566, u567, u568⟩
theorem u565 : (Cond.code ⟨"LineFollowerBench$Simulation", "ofTwoOutputs", "(I)I"⟩ prog_6_method_9_code 2 (some .int) : Cond) ∈ mTs := mTs_in 565 (by decide +kernel) (by decide +kernel)
theorem u81 : (Cond.initialized "LineFollowerBench$Simulation" : Cond) ∈ mTs := mTs_in 81 (by decide +kernel) (by decide +kernel)
theorem co_X4_ofTwoOutputs : mCode mX4_ofTwoOutputs := ⟨u565, u81, by decide⟩
theorem u562 : (Cond.methodLink "LineFollowerBench$Simulation" 142 ⟨"LineFollowerBench$Simulation", "ofTwoOutputs", "(I)I"⟩ : Cond) ∈ mTs := mTs_in 562 (by decide +kernel) (by decide +kernel)
theorem u564 : (Cond.instanceMethod ⟨"LineFollowerBench$Simulation", "ofTwoOutputs", "(I)I"⟩ : Cond) ∈ mTs := mTs_in 564 (by decide +kernel) (by decide +kernel)
theorem u6 : (Cond.selects "LineFollowerBench$Simulation" ⟨"LineFollowerBench$Simulation", "ofTwoOutputs", "(I)I"⟩ ⟨"LineFollowerBench$Simulation", "ofTwoOutputs", "(I)I"⟩ : Cond) ∈ mTs := mTs_in 6 (by decide +kernel) (by decide +kernel)
theorem l_X4_142 : mLinkV "LineFollowerBench$Simulation" 142 1 mX4_ofTwoOutputs := ⟨⟨by decide, by decide, by decide +kernel⟩, co_X4_ofTwoOutputs, u562, u564, u6⟩
theorem u557 : (Cond.code ⟨"LineFollowerBench$Simulation", "summedIntegral", "(I)I"⟩ prog_6_method_8_code 3 (some .int) : Cond) ∈ mTs := mTs_in 557 (by decide +kernel) (by decide +kernel)
theorem co_X4_summedIntegral : mCode mX4_summedIntegral := ⟨u557, u81, by decide⟩
theorem u554 : (Cond.methodLink "LineFollowerBench$Simulation" 139 ⟨"LineFollowerBench$Simulation", "summedIntegral", "(I)I"⟩ : Cond) ∈ mTs := mTs_in 554 (by decide +kernel) (by decide +kernel)
theorem u556 : (Cond.instanceMethod ⟨"LineFollowerBench$Simulation", "summedIntegral", "(I)I"⟩ : Cond) ∈ mTs := mTs_in 556 (by decide +kernel) (by decide +kernel)
theorem u5 : (Cond.selects "LineFollowerBench$Simulation" ⟨"LineFollowerBench$Simulation", "summedIntegral", "(I)I"⟩ ⟨"LineFollowerBench$Simulation", "summedIntegral", "(I)I"⟩ : Cond) ∈ mTs := mTs_in 5 (by decide +kernel) (by decide +kernel)
theorem l_X4_139 : mLinkV "LineFollowerBench$Simulation" 139 1 mX4_summedIntegral := ⟨⟨by decide, by decide, by decide +kernel⟩, co_X4_summedIntegral, u554, u556, u5⟩
theorem u577 : (Cond.code ⟨"LineFollowerBench$Simulation", "keptIntegral", "(III)I"⟩ prog_6_method_10_code 5 (some .int) : Cond) ∈ mTs := mTs_in 577 (by decide +kernel) (by decide +kernel)
theorem co_X4_keptIntegral : mCode mX4_keptIntegral := ⟨u577, u81, by decide⟩
theorem u574 : (Cond.methodLink "LineFollowerBench$Simulation" 151 ⟨"LineFollowerBench$Simulation", "keptIntegral", "(III)I"⟩ : Cond) ∈ mTs := mTs_in 574 (by decide +kernel) (by decide +kernel)
theorem u576 : (Cond.instanceMethod ⟨"LineFollowerBench$Simulation", "keptIntegral", "(III)I"⟩ : Cond) ∈ mTs := mTs_in 576 (by decide +kernel) (by decide +kernel)
theorem u8 : (Cond.selects "LineFollowerBench$Simulation" ⟨"LineFollowerBench$Simulation", "keptIntegral", "(III)I"⟩ ⟨"LineFollowerBench$Simulation", "keptIntegral", "(III)I"⟩ : Cond) ∈ mTs := mTs_in 8 (by decide +kernel) (by decide +kernel)
theorem l_X4_151 : mLinkV "LineFollowerBench$Simulation" 151 3 mX4_keptIntegral := ⟨⟨by decide, by decide, by decide +kernel⟩, co_X4_keptIntegral, u574, u576, u8⟩
set_option maxHeartbeats 4000000 in
set_option maxRecDepth 100000 in
theorem tX4_control {G : mG} {w : mH} {Φ : mF} {a0 : Nat} {x1 x2 : Int32} {a0_0 n_a0_0 a0_1 p_a0_1 v_a0_1 n_a0_1 : Nat} (h1 : hk w a0 = (4, 0)) (h2 : hfr w a0 0 = some a0_0) (h3 : hk w a0_0 = (16, n_a0_0)) (s1 : vp_in 10 n_a0_0) (h4 : hfr w a0 1 = some a0_1) (h5 : hk w a0_1 = (5, 0)) (h6 : bAt w a0_1 p_a0_1 v_a0_1 n_a0_1) (s2 : vp_in 3 n_a0_0) (s3 : vp_in 11 n_a0_0) (s4 : (¬ ((hai w a0_0 10) = 0)) → ((hai w a0_0 10) = 1) → (x1 ≤ (hai w a0_0 11)) → (¬ ((-(hai w a0_0 11)) ≤ x1)) → vp_in 3 n_a0_0) (s5 : (¬ ((hai w a0_0 10) = 0)) → ((hai w a0_0 10) = 1) → (¬ (x1 ≤ (hai w a0_0 11))) → vp_in 3 n_a0_0) (s6 : vp_in 3 n_a0_0) (s7 : vp_in 7 n_a0_0) (s8 : ((hai w a0_0 10) = 0) → ((hai w a0_0 7) = 1) → vp_in 8 n_a0_0) (s9 : vp_in 0 n_a0_0) (s10 : vp_in 1 n_a0_0) (s11 : vp_in 2 n_a0_0) (s12 : vp_in 3 n_a0_0) (s13 : ((hai w a0_0 10) = 0) → ∀ w7 : mH, (w7 = sfi w a0 9 (vX10_limited (((((hai w a0_0 0) * x1) + ((hai w a0_0 1) * (vX4_summedIntegral w a0 x1 a0_0))) + ((hai w a0_0 2) * x2)) / 64) (hai w a0_0 3))) → ((((((hai w a0_0 0) * x1) + ((hai w a0_0 1) * (vX4_summedIntegral w a0 x1 a0_0))) + ((hai w a0_0 2) * x2)) / 64) = (hfi w7 a0 9)) → ∀ w8 : mH, (w8 = sfi w7 a0 10 0) → (¬ ((hai w8 a0_0 7) = 2)) → ((hai w8 a0_0 7) = 3) → vp_in 9 n_a0_0) (s14 : ((hai w a0_0 10) = 0) → ∀ w7 : mH, (w7 = sfi w a0 9 (vX10_limited (((((hai w a0_0 0) * x1) + ((hai w a0_0 1) * (vX4_summedIntegral w a0 x1 a0_0))) + ((hai w a0_0 2) * x2)) / 64) (hai w a0_0 3))) → ((((((hai w a0_0 0) * x1) + ((hai w a0_0 1) * (vX4_summedIntegral w a0 x1 a0_0))) + ((hai w a0_0 2) * x2)) / 64) = (hfi w7 a0 9)) → ∀ w8 : mH, (w8 = sfi w7 a0 10 0) → ((hai w8 a0_0 7) = 2) → ((hfi w8 a0 10) = 0) → ((hai w8 a0_0 7) = 3) → vp_in 9 n_a0_0) (s15 : ((hai w a0_0 10) = 0) → ∀ w7 : mH, (w7 = sfi w a0 9 (vX10_limited (((((hai w a0_0 0) * x1) + ((hai w a0_0 1) * (vX4_summedIntegral w a0 x1 a0_0))) + ((hai w a0_0 2) * x2)) / 64) (hai w a0_0 3))) → (¬ ((((((hai w a0_0 0) * x1) + ((hai w a0_0 1) * (vX4_summedIntegral w a0 x1 a0_0))) + ((hai w a0_0 2) * x2)) / 64) = (hfi w7 a0 9))) → ∀ w10 : mH, (w10 = sfi w7 a0 10 1) → (¬ ((hai w10 a0_0 7) = 2)) → ((hai w10 a0_0 7) = 3) → vp_in 9 n_a0_0) (s16 : ((hai w a0_0 10) = 0) → ∀ w7 : mH, (w7 = sfi w a0 9 (vX10_limited (((((hai w a0_0 0) * x1) + ((hai w a0_0 1) * (vX4_summedIntegral w a0 x1 a0_0))) + ((hai w a0_0 2) * x2)) / 64) (hai w a0_0 3))) → (¬ ((((((hai w a0_0 0) * x1) + ((hai w a0_0 1) * (vX4_summedIntegral w a0 x1 a0_0))) + ((hai w a0_0 2) * x2)) / 64) = (hfi w7 a0 9))) → ∀ w10 : mH, (w10 = sfi w7 a0 10 1) → ((hai w10 a0_0 7) = 2) → ((hfi w10 a0 10) = 0) → ((hai w10 a0_0 7) = 3) → vp_in 9 n_a0_0) (k1 : (¬ ((hai w a0_0 10) = 0)) → (¬ ((hai w a0_0 10) = 1)) → ∀ w1 : mH, (w1 = sfi w a0 9 (vX10_limited (fRaw (hai w p_a0_1) (hai w v_a0_1) n_a0_1 x1) (hai w a0_0 3))) → ((fRaw (hai w p_a0_1) (hai w v_a0_1) n_a0_1 x1) = (hfi w1 a0 9)) → ∀ w2 : mH, (w2 = sfi w1 a0 10 0) → Φ (.inl none) w2) (k2 : (¬ ((hai w a0_0 10) = 0)) → (¬ ((hai w a0_0 10) = 1)) → ∀ w1 : mH, (w1 = sfi w a0 9 (vX10_limited (fRaw (hai w p_a0_1) (hai w v_a0_1) n_a0_1 x1) (hai w a0_0 3))) → (¬ ((fRaw (hai w p_a0_1) (hai w v_a0_1) n_a0_1 x1) = (hfi w1 a0 9))) → ∀ w3 : mH, (w3 = sfi w1 a0 10 1) → Φ (.inl none) w3) (k3 : (¬ ((hai w a0_0 10) = 0)) → ((hai w a0_0 10) = 1) → ∀ w4 : mH, (w4 = sfi w a0 9 (vX10_limited (vX4_ofTwoOutputs w a0 x1 a0_0) (hai w a0_0 3))) → ((vX4_ofTwoOutputs w a0 x1 a0_0) = (hfi w4 a0 9)) → ∀ w5 : mH, (w5 = sfi w4 a0 10 0) → Φ (.inl none) w5) (k4 : (¬ ((hai w a0_0 10) = 0)) → ((hai w a0_0 10) = 1) → ∀ w4 : mH, (w4 = sfi w a0 9 (vX10_limited (vX4_ofTwoOutputs w a0 x1 a0_0) (hai w a0_0 3))) → (¬ ((vX4_ofTwoOutputs w a0 x1 a0_0) = (hfi w4 a0 9))) → ∀ w6 : mH, (w6 = sfi w4 a0 10 1) → Φ (.inl none) w6) (k5 : ((hai w a0_0 10) = 0) → ∀ w7 : mH, (w7 = sfi w a0 9 (vX10_limited (((((hai w a0_0 0) * x1) + ((hai w a0_0 1) * (vX4_summedIntegral w a0 x1 a0_0))) + ((hai w a0_0 2) * x2)) / 64) (hai w a0_0 3))) → ((((((hai w a0_0 0) * x1) + ((hai w a0_0 1) * (vX4_summedIntegral w a0 x1 a0_0))) + ((hai w a0_0 2) * x2)) / 64) = (hfi w7 a0 9)) → ∀ w8 : mH, (w8 = sfi w7 a0 10 0) → ∀ w9 : mH, (w9 = sfi w8 a0 8 (vX4_keptIntegral w8 a0 (vX4_summedIntegral w a0 x1 a0_0) x1 (((((hai w a0_0 0) * x1) + ((hai w a0_0 1) * (vX4_summedIntegral w a0 x1 a0_0))) + ((hai w a0_0 2) * x2)) / 64) a0_0)) → Φ (.inl none) w9) (k6 : ((hai w a0_0 10) = 0) → ∀ w7 : mH, (w7 = sfi w a0 9 (vX10_limited (((((hai w a0_0 0) * x1) + ((hai w a0_0 1) * (vX4_summedIntegral w a0 x1 a0_0))) + ((hai w a0_0 2) * x2)) / 64) (hai w a0_0 3))) → (¬ ((((((hai w a0_0 0) * x1) + ((hai w a0_0 1) * (vX4_summedIntegral w a0 x1 a0_0))) + ((hai w a0_0 2) * x2)) / 64) = (hfi w7 a0 9))) → ∀ w10 : mH, (w10 = sfi w7 a0 10 1) → ∀ w11 : mH, (w11 = sfi w10 a0 8 (vX4_keptIntegral w10 a0 (vX4_summedIntegral w a0 x1 a0_0) x1 (((((hai w a0_0 0) * x1) + ((hai w a0_0 1) * (vX4_summedIntegral w a0 x1 a0_0))) + ((hai w a0_0 2) * x2)) / 64) a0_0)) → Φ (.inl none) w11) : mW G mX4_control 4 0 0 0 [(0, .ref a0), (1, .int x1), (2, .int x2)] [] w Φ := by
  refine mW_aload_n (j := 0) dX4_control_0 rfl rfl ?_
  refine mW_getR dX4_control_1 f_X4_18 h1 rfl h2 ?_
  refine mW_bipush (v := 10) dX4_control_4 (by decide) ?_
  refine mW_ialdJ dX4_control_6 h3 s1 (j := 10) (by decide) ?_
  refine mW_if_ne (tgt := 14) dX4_control_7 (by decide) (fun c1 => ?_) (fun c1 => ?_)
  · refine mW_iconst (v := 0) dX4_control_14 (by decide) ?_
    refine mW_istore_n (lv2 := [(3, .int 0), (0, .ref a0), (1, .int x1), (2, .int x2)]) dX4_control_15 rfl (by decide) rfl ?_
    refine mW_iload_n (j := 0) dX4_control_16 rfl rfl ?_
    refine mW_if_eq (tgt := 28) dX4_control_17 (by decide) (fun _ => ?_) (fun c => absurd (by decide) c)
    refine mW_aload_n (j := 1) dX4_control_28 rfl rfl ?_
    refine mW_get dX4_control_29 f_X4_49 h1 rfl ?_
    refine mW_istore (lv2 := [(4, .int (hfi w a0 8)), (3, .int 0), (0, .ref a0), (1, .int x1), (2, .int x2)]) dX4_control_32 (by decide) rfl ?_
    refine mW_iload_n (j := 1) dX4_control_34 rfl rfl ?_
    refine mW_if_eq (tgt := 73) dX4_control_35 (by decide) (fun _ => ?_) (fun c => absurd (by decide) c)
    refine mW_aload_n (j := 2) dX4_control_73 rfl rfl ?_
    refine mW_getR dX4_control_74 f_X4_18 h1 rfl h2 ?_
    refine mW_bipush (v := 10) dX4_control_77 (by decide) ?_
    refine mW_ialdJ dX4_control_79 h3 s1 (j := 10) (by decide) ?_
    refine mW_iconst (v := 1) dX4_control_80 (by decide) ?_
    refine mW_icmp_ne (tgt := 92) dX4_control_81 (by decide) (fun c2 => ?_) (fun c2 => ?_)
    · refine mW_aload_n (j := 2) dX4_control_92 rfl rfl ?_
      refine mW_getR dX4_control_93 f_X4_26 h1 rfl h4 ?_
      refine mW_iload_n (j := 3) dX4_control_96 rfl rfl ?_
      refine mW_callVe (As := [.int x1]) (rest := []) (kc2 := 0) (ks2 := 0) dX4_control_97 l_X4_145 rfl h5 rfl (by decide) (qX5_rawOutput (w := w) (a0 := a0_1) (x1 := x1) h6) (Nat.le_of_ble_eq_true rfl) (by decide) rfl rfl ?_
      refine mW_istore (lv2 := [(5, .int (fRaw (hai w p_a0_1) (hai w v_a0_1) n_a0_1 x1)), (4, .int (hfi w a0 8)), (3, .int 0), (0, .ref a0), (1, .int x1), (2, .int x2)]) dX4_control_100 (by decide) rfl ?_
      refine mW_aload_n (j := 3) dX4_control_102 rfl rfl ?_
      refine mW_iload (j := 0) dX4_control_103 rfl ?_
      refine mW_aload_n (j := 3) dX4_control_105 rfl rfl ?_
      refine mW_getR dX4_control_106 f_X4_18 h1 rfl h2 ?_
      refine mW_iconst (v := 3) dX4_control_109 (by decide) ?_
      refine mW_ialdJ dX4_control_110 h3 s2 (j := 3) (by decide) ?_
      refine mW_callSNe (As := [.int (fRaw (hai w p_a0_1) (hai w v_a0_1) n_a0_1 x1), .int (hai w a0_0 3)]) (rest := [.ref a0]) (kc2 := 0) (ks2 := 0) dX4_control_111 l_X4_148 rfl (qX10_limited (w := w) (x0 := (fRaw (hai w p_a0_1) (hai w v_a0_1) n_a0_1 x1)) (x1 := hai w a0_0 3)) (Nat.le_of_ble_eq_true rfl) (by decide) rfl rfl ?_
      refine mW_put (ty := .int) (w2 := sfi w a0 9 (vX10_limited (fRaw (hai w p_a0_1) (hai w v_a0_1) n_a0_1 x1) (hai w a0_0 3))) dX4_control_114 p_X4_52 h1 (Nat.le_of_ble_eq_true rfl) (by first | rfl | decide | (repeat' split) <;> rfl) rfl (hN_sfi _ _ _ _) (hk_sfi _ _ _ _) (mE_sfi h1 (by decide) (ob_4_9 _ _ _)) ?_
      refine mW_nm (fun w1 e1 => ?_)
      refine mW_aload_n (j := 3) dX4_control_117 rfl rfl ?_
      refine mW_iload (j := 0) dX4_control_118 rfl ?_
      refine mW_aload_n (j := 3) dX4_control_120 rfl rfl ?_
      refine mW_get dX4_control_121 f_X4_52 (s2k (S2_sfi e1) h1) rfl ?_
      refine mW_icmp_eq (tgt := 131) dX4_control_124 (by decide) (fun c3 => ?_) (fun c3 => ?_)
      · refine mW_iconst (v := 0) dX4_control_131 (by decide) ?_
        refine mW_put (ty := .boolean) (w2 := sfi w1 a0 10 0) dX4_control_132 p_X4_55 (s2k (S2_sfi e1) h1) (Nat.le_of_ble_eq_true rfl) (by first | rfl | decide | (repeat' split) <;> rfl) rfl (hN_sfi _ _ _ _) (hk_sfi _ _ _ _) (mE_sfi (s2k (S2_sfi e1) h1) (by decide) (ob_4_10 _ _ _)) ?_
        refine mW_nm (fun w2 e2 => ?_)
        refine mW_iload_n (j := 2) dX4_control_135 rfl rfl ?_
        refine mW_if_eq (tgt := 152) dX4_control_136 (by decide) (fun _ => ?_) (fun c => absurd (by decide) c)
        exact mW_vret dX4_control_152 rfl (k1 c1 c2 w1 e1 c3 w2 e2)
      · refine mW_iconst (v := 1) dX4_control_127 (by decide) ?_
        refine mW_goto (tgt := 132) dX4_control_128 (by decide) ?_
        refine mW_put (ty := .boolean) (w2 := sfi w1 a0 10 1) dX4_control_132 p_X4_55 (s2k (S2_sfi e1) h1) (Nat.le_of_ble_eq_true rfl) (by first | rfl | decide | (repeat' split) <;> rfl) rfl (hN_sfi _ _ _ _) (hk_sfi _ _ _ _) (mE_sfi (s2k (S2_sfi e1) h1) (by decide) (ob_4_10 _ _ _)) ?_
        refine mW_nm (fun w3 e3 => ?_)
        refine mW_iload_n (j := 2) dX4_control_135 rfl rfl ?_
        refine mW_if_eq (tgt := 152) dX4_control_136 (by decide) (fun _ => ?_) (fun c => absurd (by decide) c)
        exact mW_vret dX4_control_152 rfl (k2 c1 c2 w1 e1 c3 w3 e3)
    · refine mW_aload_n (j := 2) dX4_control_84 rfl rfl ?_
      refine mW_iload_n (j := 3) dX4_control_85 rfl rfl ?_
      refine mW_callVe (As := [.int x1]) (rest := []) (kc2 := 0) (ks2 := 0) dX4_control_86 l_X4_142 rfl h1 rfl (by decide) (qX4_ofTwoOutputs (w := w) (a0 := a0) (x1 := x1) h1 h2 h3 s3 (s4 c1 c2) (s5 c1 c2)) (Nat.le_of_ble_eq_true rfl) (by decide) rfl rfl ?_
      refine mW_goto (tgt := 100) dX4_control_89 (by decide) ?_
      refine mW_istore (lv2 := [(5, .int (vX4_ofTwoOutputs w a0 x1 a0_0)), (4, .int (hfi w a0 8)), (3, .int 0), (0, .ref a0), (1, .int x1), (2, .int x2)]) dX4_control_100 (by decide) rfl ?_
      refine mW_aload_n (j := 3) dX4_control_102 rfl rfl ?_
      refine mW_iload (j := 0) dX4_control_103 rfl ?_
      refine mW_aload_n (j := 3) dX4_control_105 rfl rfl ?_
      refine mW_getR dX4_control_106 f_X4_18 h1 rfl h2 ?_
      refine mW_iconst (v := 3) dX4_control_109 (by decide) ?_
      refine mW_ialdJ dX4_control_110 h3 s6 (j := 3) (by decide) ?_
      refine mW_callSNe (As := [.int (vX4_ofTwoOutputs w a0 x1 a0_0), .int (hai w a0_0 3)]) (rest := [.ref a0]) (kc2 := 0) (ks2 := 0) dX4_control_111 l_X4_148 rfl (qX10_limited (w := w) (x0 := (vX4_ofTwoOutputs w a0 x1 a0_0)) (x1 := hai w a0_0 3)) (Nat.le_of_ble_eq_true rfl) (by decide) rfl rfl ?_
      refine mW_put (ty := .int) (w2 := sfi w a0 9 (vX10_limited (vX4_ofTwoOutputs w a0 x1 a0_0) (hai w a0_0 3))) dX4_control_114 p_X4_52 h1 (Nat.le_of_ble_eq_true rfl) (by first | rfl | decide | (repeat' split) <;> rfl) rfl (hN_sfi _ _ _ _) (hk_sfi _ _ _ _) (mE_sfi h1 (by decide) (ob_4_9 _ _ _)) ?_
      refine mW_nm (fun w4 e4 => ?_)
      refine mW_aload_n (j := 3) dX4_control_117 rfl rfl ?_
      refine mW_iload (j := 0) dX4_control_118 rfl ?_
      refine mW_aload_n (j := 3) dX4_control_120 rfl rfl ?_
      refine mW_get dX4_control_121 f_X4_52 (s2k (S2_sfi e4) h1) rfl ?_
      refine mW_icmp_eq (tgt := 131) dX4_control_124 (by decide) (fun c4 => ?_) (fun c4 => ?_)
      · refine mW_iconst (v := 0) dX4_control_131 (by decide) ?_
        refine mW_put (ty := .boolean) (w2 := sfi w4 a0 10 0) dX4_control_132 p_X4_55 (s2k (S2_sfi e4) h1) (Nat.le_of_ble_eq_true rfl) (by first | rfl | decide | (repeat' split) <;> rfl) rfl (hN_sfi _ _ _ _) (hk_sfi _ _ _ _) (mE_sfi (s2k (S2_sfi e4) h1) (by decide) (ob_4_10 _ _ _)) ?_
        refine mW_nm (fun w5 e5 => ?_)
        refine mW_iload_n (j := 2) dX4_control_135 rfl rfl ?_
        refine mW_if_eq (tgt := 152) dX4_control_136 (by decide) (fun _ => ?_) (fun c => absurd (by decide) c)
        exact mW_vret dX4_control_152 rfl (k3 c1 c2 w4 e4 c4 w5 e5)
      · refine mW_iconst (v := 1) dX4_control_127 (by decide) ?_
        refine mW_goto (tgt := 132) dX4_control_128 (by decide) ?_
        refine mW_put (ty := .boolean) (w2 := sfi w4 a0 10 1) dX4_control_132 p_X4_55 (s2k (S2_sfi e4) h1) (Nat.le_of_ble_eq_true rfl) (by first | rfl | decide | (repeat' split) <;> rfl) rfl (hN_sfi _ _ _ _) (hk_sfi _ _ _ _) (mE_sfi (s2k (S2_sfi e4) h1) (by decide) (ob_4_10 _ _ _)) ?_
        refine mW_nm (fun w6 e6 => ?_)
        refine mW_iload_n (j := 2) dX4_control_135 rfl rfl ?_
        refine mW_if_eq (tgt := 152) dX4_control_136 (by decide) (fun _ => ?_) (fun c => absurd (by decide) c)
        exact mW_vret dX4_control_152 rfl (k4 c1 c2 w4 e4 c4 w6 e6)
  · refine mW_iconst (v := 1) dX4_control_10 (by decide) ?_
    refine mW_goto (tgt := 15) dX4_control_11 (by decide) ?_
    refine mW_istore_n (lv2 := [(3, .int 1), (0, .ref a0), (1, .int x1), (2, .int x2)]) dX4_control_15 rfl (by decide) rfl ?_
    refine mW_iload_n (j := 0) dX4_control_16 rfl rfl ?_
    refine mW_if_eq (tgt := 28) dX4_control_17 (by decide) (fun c => absurd c (by decide)) (fun _ => ?_)
    refine mW_aload_n (j := 1) dX4_control_20 rfl rfl ?_
    refine mW_iload_n (j := 2) dX4_control_21 rfl rfl ?_
    refine mW_callVe (As := [.int x1]) (rest := []) (kc2 := 0) (ks2 := 0) dX4_control_22 l_X4_139 rfl h1 rfl (by decide) (qX4_summedIntegral (w := w) (a0 := a0) (x1 := x1) h1 h2 h3 s7 (s8 c1)) (Nat.le_of_ble_eq_true rfl) (by decide) rfl rfl ?_
    refine mW_goto (tgt := 32) dX4_control_25 (by decide) ?_
    refine mW_istore (lv2 := [(4, .int (vX4_summedIntegral w a0 x1 a0_0)), (3, .int 1), (0, .ref a0), (1, .int x1), (2, .int x2)]) dX4_control_32 (by decide) rfl ?_
    refine mW_iload_n (j := 1) dX4_control_34 rfl rfl ?_
    refine mW_if_eq (tgt := 73) dX4_control_35 (by decide) (fun c => absurd c (by decide)) (fun _ => ?_)
    refine mW_aload_n (j := 2) dX4_control_38 rfl rfl ?_
    refine mW_getR dX4_control_39 f_X4_18 h1 rfl h2 ?_
    refine mW_iconst (v := 0) dX4_control_42 (by decide) ?_
    refine mW_ialdJ dX4_control_43 h3 s9 (j := 0) (by decide) ?_
    refine mW_iload_n (j := 3) dX4_control_44 rfl rfl ?_
    refine mW_imul dX4_control_45 ?_
    refine mW_aload_n (j := 2) dX4_control_46 rfl rfl ?_
    refine mW_getR dX4_control_47 f_X4_18 h1 rfl h2 ?_
    refine mW_iconst (v := 1) dX4_control_50 (by decide) ?_
    refine mW_ialdJ dX4_control_51 h3 s10 (j := 1) (by decide) ?_
    refine mW_iload (j := 0) dX4_control_52 rfl ?_
    refine mW_imul dX4_control_54 ?_
    refine mW_iadd dX4_control_55 ?_
    refine mW_aload_n (j := 2) dX4_control_56 rfl rfl ?_
    refine mW_getR dX4_control_57 f_X4_18 h1 rfl h2 ?_
    refine mW_iconst (v := 2) dX4_control_60 (by decide) ?_
    refine mW_ialdJ dX4_control_61 h3 s11 (j := 2) (by decide) ?_
    refine mW_iload_n (j := 4) dX4_control_62 rfl rfl ?_
    refine mW_imul dX4_control_63 ?_
    refine mW_iadd dX4_control_64 ?_
    refine mW_bipush (v := 64) dX4_control_65 (by decide) ?_
    refine mW_idiv dX4_control_67 (by decide) ?_
    refine mW_istore (lv2 := [(5, .int (((((hai w a0_0 0) * x1) + ((hai w a0_0 1) * (vX4_summedIntegral w a0 x1 a0_0))) + ((hai w a0_0 2) * x2)) / 64)), (4, .int (vX4_summedIntegral w a0 x1 a0_0)), (3, .int 1), (0, .ref a0), (1, .int x1), (2, .int x2)]) dX4_control_68 (by decide) rfl ?_
    refine mW_goto (tgt := 102) dX4_control_70 (by decide) ?_
    refine mW_aload_n (j := 3) dX4_control_102 rfl rfl ?_
    refine mW_iload (j := 0) dX4_control_103 rfl ?_
    refine mW_aload_n (j := 3) dX4_control_105 rfl rfl ?_
    refine mW_getR dX4_control_106 f_X4_18 h1 rfl h2 ?_
    refine mW_iconst (v := 3) dX4_control_109 (by decide) ?_
    refine mW_ialdJ dX4_control_110 h3 s12 (j := 3) (by decide) ?_
    refine mW_callSNe (As := [.int (((((hai w a0_0 0) * x1) + ((hai w a0_0 1) * (vX4_summedIntegral w a0 x1 a0_0))) + ((hai w a0_0 2) * x2)) / 64), .int (hai w a0_0 3)]) (rest := [.ref a0]) (kc2 := 0) (ks2 := 0) dX4_control_111 l_X4_148 rfl (qX10_limited (w := w) (x0 := ((((hai w a0_0 0) * x1) + ((hai w a0_0 1) * (vX4_summedIntegral w a0 x1 a0_0))) + ((hai w a0_0 2) * x2)) / 64) (x1 := hai w a0_0 3)) (Nat.le_of_ble_eq_true rfl) (by decide) rfl rfl ?_
    refine mW_put (ty := .int) (w2 := sfi w a0 9 (vX10_limited (((((hai w a0_0 0) * x1) + ((hai w a0_0 1) * (vX4_summedIntegral w a0 x1 a0_0))) + ((hai w a0_0 2) * x2)) / 64) (hai w a0_0 3))) dX4_control_114 p_X4_52 h1 (Nat.le_of_ble_eq_true rfl) (by first | rfl | decide | (repeat' split) <;> rfl) rfl (hN_sfi _ _ _ _) (hk_sfi _ _ _ _) (mE_sfi h1 (by decide) (ob_4_9 _ _ _)) ?_
    refine mW_nm (fun w7 e7 => ?_)
    refine mW_aload_n (j := 3) dX4_control_117 rfl rfl ?_
    refine mW_iload (j := 0) dX4_control_118 rfl ?_
    refine mW_aload_n (j := 3) dX4_control_120 rfl rfl ?_
    refine mW_get dX4_control_121 f_X4_52 (s2k (S2_sfi e7) h1) rfl ?_
    refine mW_icmp_eq (tgt := 131) dX4_control_124 (by decide) (fun c5 => ?_) (fun c5 => ?_)
    · refine mW_iconst (v := 0) dX4_control_131 (by decide) ?_
      refine mW_put (ty := .boolean) (w2 := sfi w7 a0 10 0) dX4_control_132 p_X4_55 (s2k (S2_sfi e7) h1) (Nat.le_of_ble_eq_true rfl) (by first | rfl | decide | (repeat' split) <;> rfl) rfl (hN_sfi _ _ _ _) (hk_sfi _ _ _ _) (mE_sfi (s2k (S2_sfi e7) h1) (by decide) (ob_4_10 _ _ _)) ?_
      refine mW_nm (fun w8 e8 => ?_)
      refine mW_iload_n (j := 2) dX4_control_135 rfl rfl ?_
      refine mW_if_eq (tgt := 152) dX4_control_136 (by decide) (fun c => absurd c (by decide)) (fun _ => ?_)
      refine mW_aload_n (j := 3) dX4_control_139 rfl rfl ?_
      refine mW_aload_n (j := 3) dX4_control_140 rfl rfl ?_
      refine mW_iload (j := 1) dX4_control_141 rfl ?_
      refine mW_iload_n (j := 4) dX4_control_143 rfl rfl ?_
      refine mW_iload (j := 0) dX4_control_144 rfl ?_
      refine mW_callVe (As := [.int (vX4_summedIntegral w a0 x1 a0_0), .int x1, .int (((((hai w a0_0 0) * x1) + ((hai w a0_0 1) * (vX4_summedIntegral w a0 x1 a0_0))) + ((hai w a0_0 2) * x2)) / 64)]) (rest := [.ref a0]) (kc2 := 0) (ks2 := 0) dX4_control_146 l_X4_151 rfl (s2k (S2_sfi e8) (s2k (S2_sfi e7) h1)) rfl (by decide) (qX4_keptIntegral (w := w8) (a0 := a0) (x1 := (vX4_summedIntegral w a0 x1 a0_0)) (x2 := x1) (x3 := ((((hai w a0_0 0) * x1) + ((hai w a0_0 1) * (vX4_summedIntegral w a0 x1 a0_0))) + ((hai w a0_0 2) * x2)) / 64) (s2k (S2_sfi e8) (s2k (S2_sfi e7) h1)) (s2r (S2_sfi e8) (s2r (S2_sfi e7) h2)) (s2k (S2_sfi e8) (s2k (S2_sfi e7) h3)) s7 (s13 c1 w7 e7 c5 w8 e8) (s14 c1 w7 e7 c5 w8 e8)) (Nat.le_of_ble_eq_true rfl) (by decide) rfl rfl ?_
      refine mW_put (ty := .int) (w2 := sfi w8 a0 8 (vX4_keptIntegral w8 a0 (vX4_summedIntegral w a0 x1 a0_0) x1 (((((hai w a0_0 0) * x1) + ((hai w a0_0 1) * (vX4_summedIntegral w a0 x1 a0_0))) + ((hai w a0_0 2) * x2)) / 64) a0_0)) dX4_control_149 p_X4_49 (s2k (S2_sfi e8) (s2k (S2_sfi e7) h1)) (Nat.le_of_ble_eq_true rfl) (by first | rfl | decide | (repeat' split) <;> rfl) rfl (hN_sfi _ _ _ _) (hk_sfi _ _ _ _) (mE_sfi (s2k (S2_sfi e8) (s2k (S2_sfi e7) h1)) (by decide) (ob_4_8 _ _ _)) ?_
      refine mW_nm (fun w9 e9 => ?_)
      exact mW_vret dX4_control_152 rfl (k5 c1 w7 e7 c5 w8 e8 w9 e9)
    · refine mW_iconst (v := 1) dX4_control_127 (by decide) ?_
      refine mW_goto (tgt := 132) dX4_control_128 (by decide) ?_
      refine mW_put (ty := .boolean) (w2 := sfi w7 a0 10 1) dX4_control_132 p_X4_55 (s2k (S2_sfi e7) h1) (Nat.le_of_ble_eq_true rfl) (by first | rfl | decide | (repeat' split) <;> rfl) rfl (hN_sfi _ _ _ _) (hk_sfi _ _ _ _) (mE_sfi (s2k (S2_sfi e7) h1) (by decide) (ob_4_10 _ _ _)) ?_
      refine mW_nm (fun w10 e10 => ?_)
      refine mW_iload_n (j := 2) dX4_control_135 rfl rfl ?_
      refine mW_if_eq (tgt := 152) dX4_control_136 (by decide) (fun c => absurd c (by decide)) (fun _ => ?_)
      refine mW_aload_n (j := 3) dX4_control_139 rfl rfl ?_
      refine mW_aload_n (j := 3) dX4_control_140 rfl rfl ?_
      refine mW_iload (j := 1) dX4_control_141 rfl ?_
      refine mW_iload_n (j := 4) dX4_control_143 rfl rfl ?_
      refine mW_iload (j := 0) dX4_control_144 rfl ?_
      refine mW_callVe (As := [.int (vX4_summedIntegral w a0 x1 a0_0), .int x1, .int (((((hai w a0_0 0) * x1) + ((hai w a0_0 1) * (vX4_summedIntegral w a0 x1 a0_0))) + ((hai w a0_0 2) * x2)) / 64)]) (rest := [.ref a0]) (kc2 := 0) (ks2 := 0) dX4_control_146 l_X4_151 rfl (s2k (S2_sfi e10) (s2k (S2_sfi e7) h1)) rfl (by decide) (qX4_keptIntegral (w := w10) (a0 := a0) (x1 := (vX4_summedIntegral w a0 x1 a0_0)) (x2 := x1) (x3 := ((((hai w a0_0 0) * x1) + ((hai w a0_0 1) * (vX4_summedIntegral w a0 x1 a0_0))) + ((hai w a0_0 2) * x2)) / 64) (s2k (S2_sfi e10) (s2k (S2_sfi e7) h1)) (s2r (S2_sfi e10) (s2r (S2_sfi e7) h2)) (s2k (S2_sfi e10) (s2k (S2_sfi e7) h3)) s7 (s15 c1 w7 e7 c5 w10 e10) (s16 c1 w7 e7 c5 w10 e10)) (Nat.le_of_ble_eq_true rfl) (by decide) rfl rfl ?_
      refine mW_put (ty := .int) (w2 := sfi w10 a0 8 (vX4_keptIntegral w10 a0 (vX4_summedIntegral w a0 x1 a0_0) x1 (((((hai w a0_0 0) * x1) + ((hai w a0_0 1) * (vX4_summedIntegral w a0 x1 a0_0))) + ((hai w a0_0 2) * x2)) / 64) a0_0)) dX4_control_149 p_X4_49 (s2k (S2_sfi e10) (s2k (S2_sfi e7) h1)) (Nat.le_of_ble_eq_true rfl) (by first | rfl | decide | (repeat' split) <;> rfl) rfl (hN_sfi _ _ _ _) (hk_sfi _ _ _ _) (mE_sfi (s2k (S2_sfi e10) (s2k (S2_sfi e7) h1)) (by decide) (ob_4_8 _ _ _)) ?_
      refine mW_nm (fun w11 e11 => ?_)
      exact mW_vret dX4_control_152 rfl (k6 c1 w7 e7 c5 w10 e10 w11 e11)
theorem rX4_control {G : mG} {w : mH} {a0 : Nat} {x1 x2 : Int32} (z0 : zSim w a0) (hb : sTabOK w (a0 + 2)) : mC G mX4_control 4 0 0 [.ref a0, .int x1, .int x2] w (mP none (fun w' => mFr a0 (a0 + 1) w w' ∧ (∀ k, k < 8 → hfi w' a0 k = hfi w a0 k) ∧ hfi w' a0 9 = pOut (hai w (a0 + 1)) (sTab w (a0 + 2)) x1 x2 (hfi w a0 8) (hfi w a0 9) ∧ hfi w' a0 10 = pSat (hai w (a0 + 1)) (sTab w (a0 + 2)) x1 x2 (hfi w a0 8) (hfi w a0 9) ∧ hfi w' a0 8 = pInt (hai w (a0 + 1)) (sTab w (a0 + 2)) x1 x2 (hfi w a0 8) (hfi w a0 9))) := by
  refine mC_of (by decide +kernel) rfl (Nat.le_of_ble_eq_true rfl) rfl ?_
  refine tX4_control (a0_0 := a0 + 1) (a0_1 := a0 + 2) z0.1 z0.2.1 z0.2.2.2.2.2.2.1 (by intros; unfold vp_in; decide) z0.2.2.1 z0.2.2.2.2.2.2.2.1.1 (m_b2 z0.2.2.2.2.2.2.2.1 hb) (by intros; unfold vp_in; decide) (by intros; unfold vp_in; decide) (by intros; unfold vp_in; decide) (by intros; unfold vp_in; decide) (by intros; unfold vp_in; decide) (by intros; unfold vp_in; decide) (by intros; unfold vp_in; decide) (by intros; unfold vp_in; decide) (by intros; unfold vp_in; decide) (by intros; unfold vp_in; decide) (by intros; unfold vp_in; decide) (by intros; unfold vp_in; decide) (by intros; unfold vp_in; decide) (by intros; unfold vp_in; decide) (by intros; unfold vp_in; decide) ?_ ?_ ?_ ?_ ?_ ?_
  · intro c1 c2 w1 e1 c3 w2 e2
    subst e1 e2
    simp only [e_hfi_sfi, e_hai_sfi, up2_at, vX4_ofTwoOutputs, vX4_summedIntegral] at c1 c2 c3
    refine mP_of ⟨mFr_sfi (mFr_sfi (mFr.rf) (Nat.le_refl _) (by omega)) (Nat.le_refl _) (by omega), fun k hk => ?_, ?_, ?_, ?_⟩
    · simp only [e_hfi_sfi]
      rw [up2_k _ _ _ (by omega), up2_k _ _ _ (by omega)]
    all_goals simp [e_hfi_sfi, e_hai_sfi, up2, pOut, pInt, pSat, pRaw, pTwo, pSum, pKept, vX4_ofTwoOutputs, vX4_summedIntegral, vX4_keptIntegral, sTab, c1, c2, c3.symm]
  · intro c1 c2 w1 e1 c3 w3 e3
    subst e1 e3
    simp only [e_hfi_sfi, e_hai_sfi, up2_at, vX4_ofTwoOutputs, vX4_summedIntegral] at c1 c2 c3
    refine mP_of ⟨mFr_sfi (mFr_sfi (mFr.rf) (Nat.le_refl _) (by omega)) (Nat.le_refl _) (by omega), fun k hk => ?_, ?_, ?_, ?_⟩
    · simp only [e_hfi_sfi]
      rw [up2_k _ _ _ (by omega), up2_k _ _ _ (by omega)]
    all_goals simp [e_hfi_sfi, e_hai_sfi, up2, pOut, pInt, pSat, pRaw, pTwo, pSum, pKept, vX4_ofTwoOutputs, vX4_summedIntegral, vX4_keptIntegral, sTab, c1, c2, c3]
  · intro c1 c2 w4 e4 c4 w5 e5
    subst e4 e5
    simp only [e_hfi_sfi, e_hai_sfi, up2_at, vX4_ofTwoOutputs, vX4_summedIntegral] at c1 c2 c4
    refine mP_of ⟨mFr_sfi (mFr_sfi (mFr.rf) (Nat.le_refl _) (by omega)) (Nat.le_refl _) (by omega), fun k hk => ?_, ?_, ?_, ?_⟩
    · simp only [e_hfi_sfi]
      rw [up2_k _ _ _ (by omega), up2_k _ _ _ (by omega)]
    all_goals simp [e_hfi_sfi, e_hai_sfi, up2, pOut, pInt, pSat, pRaw, pTwo, pSum, pKept, vX4_ofTwoOutputs, vX4_summedIntegral, vX4_keptIntegral, sTab, c1, c2, c4.symm]
  · intro c1 c2 w4 e4 c4 w6 e6
    subst e4 e6
    simp only [e_hfi_sfi, e_hai_sfi, up2_at, vX4_ofTwoOutputs, vX4_summedIntegral] at c1 c2 c4
    refine mP_of ⟨mFr_sfi (mFr_sfi (mFr.rf) (Nat.le_refl _) (by omega)) (Nat.le_refl _) (by omega), fun k hk => ?_, ?_, ?_, ?_⟩
    · simp only [e_hfi_sfi]
      rw [up2_k _ _ _ (by omega), up2_k _ _ _ (by omega)]
    all_goals simp [e_hfi_sfi, e_hai_sfi, up2, pOut, pInt, pSat, pRaw, pTwo, pSum, pKept, vX4_ofTwoOutputs, vX4_summedIntegral, vX4_keptIntegral, sTab, c1, c2, c4]
  · intro c1 w7 e7 c5 w8 e8 w9 e9
    subst e7 e8 e9
    simp only [e_hfi_sfi, e_hai_sfi, up2_at, vX4_ofTwoOutputs, vX4_summedIntegral] at c1 c5
    refine mP_of ⟨mFr_sfi (mFr_sfi (mFr_sfi (mFr.rf) (Nat.le_refl _) (by omega)) (Nat.le_refl _) (by omega)) (Nat.le_refl _) (by omega), fun k hk => ?_, ?_, ?_, ?_⟩
    · simp only [e_hfi_sfi]
      rw [up2_k _ _ _ (by omega), up2_k _ _ _ (by omega), up2_k _ _ _ (by omega)]
    all_goals simp [e_hfi_sfi, e_hai_sfi, up2, pOut, pInt, pSat, pRaw, pTwo, pSum, pKept, vX4_ofTwoOutputs, vX4_summedIntegral, vX4_keptIntegral, sTab, c1, c5.symm]
    all_goals (intro g1 g2; rw [g1] at g2; exact absurd g2 (by decide))
  · intro c1 w7 e7 c5 w10 e10 w11 e11
    subst e7 e10 e11
    simp only [e_hfi_sfi, e_hai_sfi, up2_at, vX4_ofTwoOutputs, vX4_summedIntegral] at c1 c5
    refine mP_of ⟨mFr_sfi (mFr_sfi (mFr_sfi (mFr.rf) (Nat.le_refl _) (by omega)) (Nat.le_refl _) (by omega)) (Nat.le_refl _) (by omega), fun k hk => ?_, ?_, ?_, ?_⟩
    · simp only [e_hfi_sfi]
      rw [up2_k _ _ _ (by omega), up2_k _ _ _ (by omega), up2_k _ _ _ (by omega)]
    all_goals simp [e_hfi_sfi, e_hai_sfi, up2, pOut, pInt, pSat, pRaw, pTwo, pSum, pKept, vX4_ofTwoOutputs, vX4_summedIntegral, vX4_keptIntegral, sTab, c1, c5]
/-! the run as a function: state (error, heading, actuator, integral, output, measured so far) -/
abbrev xT : Type := Int32 × Int32 × Int32 × Int32 × Int32 × (Nat → Int32)
def xH (S : Nat → Int32) (t : Nat) (σ : xT) : Nat → Int32 := upd σ.2.2.2.2.2 t (pMeas S σ.1)
def xD (S : Nat → Int32) : Nat := (iMax (S 6) 0).toNatClampNeg
def xSn (S : Nat → Int32) (t : Nat) (σ : xT) : Int32 := xH S t σ (t - xD S)
def xCh (S : Nat → Int32) (t : Nat) (σ : xT) : Int32 := if t = 0 then 0 else xSn S t σ - xH S t σ (t - 1 - xD S)
def xNo (S : Nat → Int32) (tab : Int32 → Int32) (t : Nat) (σ : xT) : Int32 := pOut S tab (xSn S t σ) (xCh S t σ) σ.2.2.2.1 σ.2.2.2.2.1
def xNi (S : Nat → Int32) (tab : Int32 → Int32) (t : Nat) (σ : xT) : Int32 := pInt S tab (xSn S t σ) (xCh S t σ) σ.2.2.2.1 σ.2.2.2.2.1
def xNa (S : Nat → Int32) (tab : Int32 → Int32) (t : Nat) (σ : xT) : Int32 := σ.2.2.1 + vX10_limited (xNo S tab t σ - σ.2.2.1) (S 4)
def xNh (S : Nat → Int32) (tab : Int32 → Int32) (cu : Nat → Int32) (t : Nat) (σ : xT) : Int32 := vX10_limited (σ.2.1 + cu t - xNa S tab t σ / 8) 10000
def xNe (S : Nat → Int32) (tab : Int32 → Int32) (cu pu : Nat → Int32) (t : Nat) (σ : xT) : Int32 := vX10_limited (σ.1 + xNh S tab cu t σ / 8 + pu t) 10000
def xN (S : Nat → Int32) (tab : Int32 → Int32) (cu pu : Nat → Int32) (t : Nat) (σ : xT) : xT := (xNe S tab cu pu t σ, xNh S tab cu t σ, xNa S tab t σ, xNi S tab t σ, xNo S tab t σ, xH S t σ)
def xSt (S : Nat → Int32) (tab : Int32 → Int32) (cu pu : Nat → Int32) : Nat → xT | 0 => (S 12, 0, 0, 0, 0, fun _ => 0) | t + 1 => xN S tab cu pu t (xSt S tab cu pu t)
def xW (S : Nat → Int32) (tab : Int32 → Int32) (cu pu : Nat → Int32) (t : Nat) : Int32 := pSat S tab (xSn S t (xSt S tab cu pu t)) (xCh S t (xSt S tab cu pu t)) (xSt S tab cu pu t).2.2.2.1 (xSt S tab cu pu t).2.2.2.2.1
/-- a trace of N steps at a as the states X say -/
def xRep (w : mH) (a : Nat) (S : Nat → Int32) (tab : Int32 → Int32) (cu pu : Nat → Int32) (N : Nat) : Prop := hfi w a 6 = nI N ∧ (∀ t, t ≤ N → hai w (a + 1) t = (xSt S tab cu pu t).1) ∧ ∀ t, t < N → hai w (a + 2) t = xSn S t (xSt S tab cu pu t) ∧ hai w (a + 3) t = (xSt S tab cu pu (t + 1)).2.2.2.2.1 ∧ hai w (a + 4) t = (xSt S tab cu pu (t + 1)).2.2.1 ∧ hai w (a + 5) t = (xSt S tab cu pu (t + 1)).2.2.2.1 ∧ hai w (a + 6) t = xW S tab cu pu t
theorem m_seen {t : Nat} (h : t ≤ 70000) (s : Int32) : iMax (nI t - iMax s 0) 0 = nI (t - (iMax s 0).toNatClampNeg) := by
  have h0 : 0 ≤ (iMax s 0).toInt := by
    have := Int32.le_iff_toInt_le.mp (show (0 : Int32) ≤ iMax s 0 by
      unfold iMax
      split
      · exact Int32.le_refl _
      · rename_i h; exact Int32.not_lt.mp h)
    simpa using this
  have h9 := Int32.toInt_lt (iMax s 0)
  have hm : (iMax s 0).toNatClampNeg = (iMax s 0).toInt.toNat := rfl
  generalize iMax s 0 = m at *
  have ht : (nI t).toInt = t := nI_toInt (by omega)
  have hs : (nI t - m).toInt = t - m.toInt := by
    rw [Int32.toInt_sub, ht, Int.bmod_def]
    omega
  unfold iMax
  by_cases hc : nI t - m < 0
  · rw [if_pos hc]
    have := Int32.lt_iff_toInt_lt.mp hc
    rw [hs] at this
    have e : t - m.toNatClampNeg = 0 := by rw [hm]; simp at this; omega
    rw [e]; rfl
  · rw [if_neg hc]
    have h3 := Int32.le_iff_toInt_le.mp (Int32.not_lt.mp hc)
    rw [hs] at h3
    apply Int32.toInt_inj.mp
    rw [hs, nI_toInt (by omega), hm]
    simp at h3
    omega
theorem m_wi {t : Nat} (h : t < 200) : vX10_isWithin (nI t) 1 199 = if t = 0 then 0 else 1 := by
  unfold vX10_isWithin
  rw [show (1 : Int32) = nI 1 from rfl, show (199 : Int32) = nI 199 from rfl]
  simp only [m_lt (show t ≤ 70000 by omega) (show 1 ≤ 70000 by omega), m_lt (show 199 ≤ 70000 by omega) (show t ≤ 70000 by omega)]
  by_cases h0 : t = 0
  · rw [if_pos (by omega), if_pos h0]
  · rw [if_neg (by omega), if_neg (by omega), if_neg h0]
abbrev mX4_makeRun : mM := (yX4_makeRun, cX4_makeRun, 3, none, [])
theorem u532 : (Cond.code ⟨"LineFollowerBench$Simulation", "begin", "()V"⟩ prog_6_method_4_code 1 (none : Option ClassFile.FieldType) : Cond) ∈ mTs := mTs_in 532 (by decide +kernel) (by decide +kernel)
theorem co_X4_begin : mCode mX4_begin := ⟨u532, u81, by decide⟩
theorem u529 : (Cond.methodLink "LineFollowerBench$Simulation" 84 ⟨"LineFollowerBench$Simulation", "begin", "()V"⟩ : Cond) ∈ mTs := mTs_in 529 (by decide +kernel) (by decide +kernel)
theorem u531 : (Cond.instanceMethod ⟨"LineFollowerBench$Simulation", "begin", "()V"⟩ : Cond) ∈ mTs := mTs_in 531 (by decide +kernel) (by decide +kernel)
theorem u1 : (Cond.selects "LineFollowerBench$Simulation" ⟨"LineFollowerBench$Simulation", "begin", "()V"⟩ ⟨"LineFollowerBench$Simulation", "begin", "()V"⟩ : Cond) ∈ mTs := mTs_in 1 (by decide +kernel) (by decide +kernel)
theorem l_X4_84 : mLinkV "LineFollowerBench$Simulation" 84 0 mX4_begin := ⟨⟨by decide, by decide, by decide +kernel⟩, co_X4_begin, u529, u531, u1⟩
theorem u533 : (Cond.methodLink "LineFollowerBench$Simulation" 87 ⟨"java/lang/Math", "min", "(II)I"⟩ : Cond) ∈ mTs := mTs_in 533 (by decide +kernel) (by decide +kernel)
theorem u379 : (Cond.fieldLink "LineFollowerBench$Simulation" 93 "LineFollowerBench$Trace" "steps" "I" : Cond) ∈ mTs := mTs_in 379 (by decide +kernel) (by decide +kernel)
theorem p_X4_93 : mPut "LineFollowerBench$Simulation" 93 6 6 (.int) false := ⟨RX6, TX6, 7, "LineFollowerBench$Trace", tyX6, rfl, by decide, in_X6, u379, Or.inl rfl, by decide, tyX6_ok, nmX6, by decide +kernel, rfl, fun h => by cases h⟩
set_option maxHeartbeats 4000000 in
set_option maxRecDepth 100000 in
theorem gX4_makeRun_0 {G : mG} {w : mH} {Φ : mF} {a0 a1 a0_0 n_a0_0 : Nat} (h1 : hk w a0 = (4, 0)) (h2 : hfr w a0 0 = some a0_0) (h3 : hk w a0_0 = (16, n_a0_0)) (s1 : vp_in 12 n_a0_0) (s2 : vp_in 13 n_a0_0) (h4 : hk w a1 = (6, 0)) (k1 : ∀ w1 : mH, (w1 = sX4_begin w a0 a0_0) → ∀ w2 : mH, (w2 = sfi w1 a1 6 (iMin (hai w1 a0_0 13) 200)) → mW G mX4_makeRun 6 0 0 23 [(0, .ref a0), (1, .ref a1), (2, .int 0)] [] w2 Φ) : mW G mX4_makeRun 6 0 0 0 [(0, .ref a0), (1, .ref a1)] [] w Φ := by
  refine mW_aload_n (j := 0) dX4_makeRun_0 rfl rfl ?_
  refine mW_callVe (As := []) (rest := []) (kc2 := 0) (ks2 := 0) dX4_makeRun_1 l_X4_84 rfl h1 rfl (by decide) (qX4_begin (w := w) (a0 := a0) h1 h2 h3 s1) (Nat.le_of_ble_eq_true rfl) (by decide) rfl rfl ?_
  refine mW_nm (fun w1 e1 => ?_)
  refine mW_aload_n (j := 1) dX4_makeRun_4 rfl rfl ?_
  refine mW_aload_n (j := 0) dX4_makeRun_5 rfl rfl ?_
  refine mW_getR dX4_makeRun_6 f_X4_18 (s2k (S2_def e1 kkX4_begin rrX4_begin) h1) rfl (s2r (S2_def e1 kkX4_begin rrX4_begin) h2) ?_
  refine mW_bipush (v := 13) dX4_makeRun_9 (by decide) ?_
  refine mW_ialdJ dX4_makeRun_11 (s2k (S2_def e1 kkX4_begin rrX4_begin) h3) s2 (j := 13) (by decide) ?_
  refine mW_sipush (v := 200) dX4_makeRun_12 (by decide) ?_
  refine mW_mminA dX4_makeRun_15 u533 u500 u91 u501 (Nat.le_of_ble_eq_true rfl) (by decide) ?_
  refine mW_put (ty := .int) (w2 := sfi w1 a1 6 (iMin (hai w1 a0_0 13) 200)) dX4_makeRun_18 p_X4_93 (s2k (S2_def e1 kkX4_begin rrX4_begin) h4) (Nat.le_of_ble_eq_true rfl) (by first | rfl | decide | (repeat' split) <;> rfl) rfl (hN_sfi _ _ _ _) (hk_sfi _ _ _ _) (mE_sfi (s2k (S2_def e1 kkX4_begin rrX4_begin) h4) (by decide) (ob_6_6 _ _ _)) ?_
  refine mW_nm (fun w2 e2 => ?_)
  refine mW_iconst (v := 0) dX4_makeRun_21 (by decide) ?_
  refine mW_istore_n (lv2 := [(2, .int 0), (0, .ref a0), (1, .ref a1)]) dX4_makeRun_22 rfl (by decide) rfl ?_
  refine mW_loc [1, 2, 0] (lv2 := [(0, .ref a0), (1, .ref a1), (2, .int 0)]) rfl ?_
  exact k1 w1 e1 w2 e2
theorem f_X4_93 : mFld "LineFollowerBench$Simulation" 93 6 6 := ⟨RX6, TX6, 7, "LineFollowerBench$Trace", rfl, by decide, in_X6, u379, Or.inl rfl, by decide⟩
theorem u365 : (Cond.fieldLink "LineFollowerBench$Simulation" 98 "LineFollowerBench$Trace" "errors" "[I" : Cond) ∈ mTs := mTs_in 365 (by decide +kernel) (by decide +kernel)
theorem f_X4_98 : mFld "LineFollowerBench$Simulation" 98 6 0 := ⟨RX6, TX6, 7, "LineFollowerBench$Trace", rfl, by decide, in_X6, u365, Or.inl rfl, by decide⟩
theorem u328 : (Cond.fieldLink "LineFollowerBench$Simulation" 36 "LineFollowerBench$Simulation" "measured" "[I" : Cond) ∈ mTs := mTs_in 328 (by decide +kernel) (by decide +kernel)
theorem f_X4_36 : mFld "LineFollowerBench$Simulation" 36 4 4 := ⟨RX4, TX4, 11, "LineFollowerBench$Simulation", rfl, by decide, in_X4, u328, Or.inl rfl, by decide⟩
theorem u537 : (Cond.code ⟨"LineFollowerBench$Simulation", "measuredError", "()I"⟩ prog_6_method_5_code 2 (some .int) : Cond) ∈ mTs := mTs_in 537 (by decide +kernel) (by decide +kernel)
theorem co_X4_measuredError : mCode mX4_measuredError := ⟨u537, u81, by decide⟩
theorem u534 : (Cond.methodLink "LineFollowerBench$Simulation" 101 ⟨"LineFollowerBench$Simulation", "measuredError", "()I"⟩ : Cond) ∈ mTs := mTs_in 534 (by decide +kernel) (by decide +kernel)
theorem u536 : (Cond.instanceMethod ⟨"LineFollowerBench$Simulation", "measuredError", "()I"⟩ : Cond) ∈ mTs := mTs_in 536 (by decide +kernel) (by decide +kernel)
theorem u2 : (Cond.selects "LineFollowerBench$Simulation" ⟨"LineFollowerBench$Simulation", "measuredError", "()I"⟩ ⟨"LineFollowerBench$Simulation", "measuredError", "()I"⟩ : Cond) ∈ mTs := mTs_in 2 (by decide +kernel) (by decide +kernel)
theorem l_X4_101 : mLinkV "LineFollowerBench$Simulation" 101 0 mX4_measuredError := ⟨⟨by decide, by decide, by decide +kernel⟩, co_X4_measuredError, u534, u536, u2⟩
theorem u367 : (Cond.fieldLink "LineFollowerBench$Simulation" 105 "LineFollowerBench$Trace" "seen" "[I" : Cond) ∈ mTs := mTs_in 367 (by decide +kernel) (by decide +kernel)
theorem f_X4_105 : mFld "LineFollowerBench$Simulation" 105 6 1 := ⟨RX6, TX6, 7, "LineFollowerBench$Trace", rfl, by decide, in_X6, u367, Or.inl rfl, by decide⟩
theorem u541 : (Cond.code ⟨"LineFollowerBench$Simulation", "seenStep", "(I)I"⟩ prog_6_method_6_code 2 (some .int) : Cond) ∈ mTs := mTs_in 541 (by decide +kernel) (by decide +kernel)
theorem co_X4_seenStep : mCode mX4_seenStep := ⟨u541, u81, by decide⟩
theorem u538 : (Cond.methodLink "LineFollowerBench$Simulation" 108 ⟨"LineFollowerBench$Simulation", "seenStep", "(I)I"⟩ : Cond) ∈ mTs := mTs_in 538 (by decide +kernel) (by decide +kernel)
theorem u540 : (Cond.instanceMethod ⟨"LineFollowerBench$Simulation", "seenStep", "(I)I"⟩ : Cond) ∈ mTs := mTs_in 540 (by decide +kernel) (by decide +kernel)
theorem u3 : (Cond.selects "LineFollowerBench$Simulation" ⟨"LineFollowerBench$Simulation", "seenStep", "(I)I"⟩ ⟨"LineFollowerBench$Simulation", "seenStep", "(I)I"⟩ : Cond) ∈ mTs := mTs_in 3 (by decide +kernel) (by decide +kernel)
theorem l_X4_108 : mLinkV "LineFollowerBench$Simulation" 108 1 mX4_seenStep := ⟨⟨by decide, by decide, by decide +kernel⟩, co_X4_seenStep, u538, u540, u3⟩
theorem u548 : (Cond.code ⟨"LineFollowerBench$Trace", "seenChange", "(I)I"⟩ prog_8_method_4_code 2 (some .int) : Cond) ∈ mTs := mTs_in 548 (by decide +kernel) (by decide +kernel)
theorem co_X6_seenChange : mCode mX6_seenChange := ⟨u548, u82, by decide⟩
theorem u545 : (Cond.methodLink "LineFollowerBench$Simulation" 111 ⟨"LineFollowerBench$Trace", "seenChange", "(I)I"⟩ : Cond) ∈ mTs := mTs_in 545 (by decide +kernel) (by decide +kernel)
theorem u546 : (Cond.instanceMethod ⟨"LineFollowerBench$Trace", "seenChange", "(I)I"⟩ : Cond) ∈ mTs := mTs_in 546 (by decide +kernel) (by decide +kernel)
theorem u547 : (Cond.selects "LineFollowerBench$Trace" ⟨"LineFollowerBench$Trace", "seenChange", "(I)I"⟩ ⟨"LineFollowerBench$Trace", "seenChange", "(I)I"⟩ : Cond) ∈ mTs := mTs_in 547 (by decide +kernel) (by decide +kernel)
theorem l_X4_111 : mLinkV "LineFollowerBench$Simulation" 111 1 mX6_seenChange := ⟨⟨by decide, by decide, by decide +kernel⟩, co_X6_seenChange, u545, u546, u547⟩
theorem u553 : (Cond.code ⟨"LineFollowerBench$Simulation", "control", "(II)V"⟩ prog_6_method_7_code 6 (none : Option ClassFile.FieldType) : Cond) ∈ mTs := mTs_in 553 (by decide +kernel) (by decide +kernel)
theorem co_X4_control : mCode mX4_control := ⟨u553, u81, by decide⟩
theorem u550 : (Cond.methodLink "LineFollowerBench$Simulation" 114 ⟨"LineFollowerBench$Simulation", "control", "(II)V"⟩ : Cond) ∈ mTs := mTs_in 550 (by decide +kernel) (by decide +kernel)
theorem u552 : (Cond.instanceMethod ⟨"LineFollowerBench$Simulation", "control", "(II)V"⟩ : Cond) ∈ mTs := mTs_in 552 (by decide +kernel) (by decide +kernel)
theorem u4 : (Cond.selects "LineFollowerBench$Simulation" ⟨"LineFollowerBench$Simulation", "control", "(II)V"⟩ ⟨"LineFollowerBench$Simulation", "control", "(II)V"⟩ : Cond) ∈ mTs := mTs_in 4 (by decide +kernel) (by decide +kernel)
theorem l_X4_114 : mLinkV "LineFollowerBench$Simulation" 114 2 mX4_control := ⟨⟨by decide, by decide, by decide +kernel⟩, co_X4_control, u550, u552, u4⟩
theorem u581 : (Cond.code ⟨"LineFollowerBench$Simulation", "moveActuator", "()V"⟩ prog_6_method_11_code 1 (none : Option ClassFile.FieldType) : Cond) ∈ mTs := mTs_in 581 (by decide +kernel) (by decide +kernel)
theorem co_X4_moveActuator : mCode mX4_moveActuator := ⟨u581, u81, by decide⟩
theorem u578 : (Cond.methodLink "LineFollowerBench$Simulation" 118 ⟨"LineFollowerBench$Simulation", "moveActuator", "()V"⟩ : Cond) ∈ mTs := mTs_in 578 (by decide +kernel) (by decide +kernel)
theorem u580 : (Cond.instanceMethod ⟨"LineFollowerBench$Simulation", "moveActuator", "()V"⟩ : Cond) ∈ mTs := mTs_in 580 (by decide +kernel) (by decide +kernel)
theorem u9 : (Cond.selects "LineFollowerBench$Simulation" ⟨"LineFollowerBench$Simulation", "moveActuator", "()V"⟩ ⟨"LineFollowerBench$Simulation", "moveActuator", "()V"⟩ : Cond) ∈ mTs := mTs_in 9 (by decide +kernel) (by decide +kernel)
theorem l_X4_118 : mLinkV "LineFollowerBench$Simulation" 118 0 mX4_moveActuator := ⟨⟨by decide, by decide, by decide +kernel⟩, co_X4_moveActuator, u578, u580, u9⟩
theorem u326 : (Cond.fieldLink "LineFollowerBench$Simulation" 30 "LineFollowerBench$Simulation" "curvatures" "[I" : Cond) ∈ mTs := mTs_in 326 (by decide +kernel) (by decide +kernel)
theorem f_X4_30 : mFld "LineFollowerBench$Simulation" 30 4 2 := ⟨RX4, TX4, 11, "LineFollowerBench$Simulation", rfl, by decide, in_X4, u326, Or.inl rfl, by decide⟩
theorem u327 : (Cond.fieldLink "LineFollowerBench$Simulation" 33 "LineFollowerBench$Simulation" "pushes" "[I" : Cond) ∈ mTs := mTs_in 327 (by decide +kernel) (by decide +kernel)
theorem f_X4_33 : mFld "LineFollowerBench$Simulation" 33 4 3 := ⟨RX4, TX4, 11, "LineFollowerBench$Simulation", rfl, by decide, in_X4, u327, Or.inl rfl, by decide⟩
theorem u585 : (Cond.code ⟨"LineFollowerBench$Simulation", "moveRobot", "(II)V"⟩ prog_6_method_12_code 3 (none : Option ClassFile.FieldType) : Cond) ∈ mTs := mTs_in 585 (by decide +kernel) (by decide +kernel)
theorem co_X4_moveRobot : mCode mX4_moveRobot := ⟨u585, u81, by decide⟩
theorem u582 : (Cond.methodLink "LineFollowerBench$Simulation" 121 ⟨"LineFollowerBench$Simulation", "moveRobot", "(II)V"⟩ : Cond) ∈ mTs := mTs_in 582 (by decide +kernel) (by decide +kernel)
theorem u584 : (Cond.instanceMethod ⟨"LineFollowerBench$Simulation", "moveRobot", "(II)V"⟩ : Cond) ∈ mTs := mTs_in 584 (by decide +kernel) (by decide +kernel)
theorem u10 : (Cond.selects "LineFollowerBench$Simulation" ⟨"LineFollowerBench$Simulation", "moveRobot", "(II)V"⟩ ⟨"LineFollowerBench$Simulation", "moveRobot", "(II)V"⟩ : Cond) ∈ mTs := mTs_in 10 (by decide +kernel) (by decide +kernel)
theorem l_X4_121 : mLinkV "LineFollowerBench$Simulation" 121 2 mX4_moveRobot := ⟨⟨by decide, by decide, by decide +kernel⟩, co_X4_moveRobot, u582, u584, u10⟩
theorem u370 : (Cond.fieldLink "LineFollowerBench$Simulation" 124 "LineFollowerBench$Trace" "outputs" "[I" : Cond) ∈ mTs := mTs_in 370 (by decide +kernel) (by decide +kernel)
theorem f_X4_124 : mFld "LineFollowerBench$Simulation" 124 6 2 := ⟨RX6, TX6, 7, "LineFollowerBench$Trace", rfl, by decide, in_X6, u370, Or.inl rfl, by decide⟩
theorem u372 : (Cond.fieldLink "LineFollowerBench$Simulation" 127 "LineFollowerBench$Trace" "actuators" "[I" : Cond) ∈ mTs := mTs_in 372 (by decide +kernel) (by decide +kernel)
theorem f_X4_127 : mFld "LineFollowerBench$Simulation" 127 6 3 := ⟨RX6, TX6, 7, "LineFollowerBench$Trace", rfl, by decide, in_X6, u372, Or.inl rfl, by decide⟩
theorem u374 : (Cond.fieldLink "LineFollowerBench$Simulation" 130 "LineFollowerBench$Trace" "integrals" "[I" : Cond) ∈ mTs := mTs_in 374 (by decide +kernel) (by decide +kernel)
theorem f_X4_130 : mFld "LineFollowerBench$Simulation" 130 6 4 := ⟨RX6, TX6, 7, "LineFollowerBench$Trace", rfl, by decide, in_X6, u374, Or.inl rfl, by decide⟩
theorem u377 : (Cond.fieldLink "LineFollowerBench$Simulation" 133 "LineFollowerBench$Trace" "saturations" "[I" : Cond) ∈ mTs := mTs_in 377 (by decide +kernel) (by decide +kernel)
theorem f_X4_133 : mFld "LineFollowerBench$Simulation" 133 6 5 := ⟨RX6, TX6, 7, "LineFollowerBench$Trace", rfl, by decide, in_X6, u377, Or.inl rfl, by decide⟩
set_option maxHeartbeats 4000000 in
set_option maxRecDepth 100000 in
theorem gX4_makeRun_23 {G : mG} {w : mH} {Φ : mF} {a0 a1 : Nat} {x2 : Int32} {a1_0 n_a1_0 a0_4 a0_0 n_a0_0 n_a0_4 a1_1 n_a1_1 a0_2 n_a0_2 a0_3 n_a0_3 a1_2 n_a1_2 a1_3 n_a1_3 a1_4 n_a1_4 a1_5 n_a1_5 : Nat} (h1 : hk w a1 = (6, 0)) (h2 : hfr w a1 0 = some a1_0) (h3 : hk w a0 = (4, 0)) (h4 : hk w a1_0 = (16, n_a1_0)) (s1 : (¬ ((hfi w a1 6) ≤ x2)) → (¬ (200 ≤ x2)) → vp_in x2 n_a1_0) (h5 : hfr w a0 4 = some a0_4) (h6 : hfr w a0 0 = some a0_0) (h7 : hk w a0_0 = (16, n_a0_0)) (s2 : vp_in 5 n_a0_0) (s3 : (¬ ((hfi w a1 6) ≤ x2)) → (¬ (200 ≤ x2)) → ∀ w1 : mH, (w1 = sai w a1_0 x2.toNatClampNeg (hfi w a0 5)) → (¬ ((hai w1 a0_0 5) ≤ 0)) → ¬ (hai w1 a0_0 5) = 0) (h8 : hk w a0_4 = (16, n_a0_4)) (s4 : (¬ ((hfi w a1 6) ≤ x2)) → (¬ (200 ≤ x2)) → ∀ w1 : mH, (w1 = sai w a1_0 x2.toNatClampNeg (hfi w a0 5)) → vp_in x2 n_a0_4) (h9 : hfr w a1 1 = some a1_1) (s5 : vp_in 6 n_a0_0) (s6 : (¬ ((hfi w a1 6) ≤ x2)) → (¬ (200 ≤ x2)) → ∀ w1 : mH, (w1 = sai w a1_0 x2.toNatClampNeg (hfi w a0 5)) → ∀ w2 : mH, (w2 = sai w1 a0_4 x2.toNatClampNeg (vX4_measuredError w1 a0 a0_0)) → vp_in (vX4_seenStep w2 x2 a0_0) n_a0_4) (h10 : hk w a1_1 = (16, n_a1_1)) (s7 : (¬ ((hfi w a1 6) ≤ x2)) → (¬ (200 ≤ x2)) → ∀ w1 : mH, (w1 = sai w a1_0 x2.toNatClampNeg (hfi w a0 5)) → ∀ w2 : mH, (w2 = sai w1 a0_4 x2.toNatClampNeg (vX4_measuredError w1 a0 a0_0)) → vp_in x2 n_a1_1) (s8 : (¬ ((hfi w a1 6) ≤ x2)) → (¬ (200 ≤ x2)) → ∀ w1 : mH, (w1 = sai w a1_0 x2.toNatClampNeg (hfi w a0 5)) → ∀ w2 : mH, (w2 = sai w1 a0_4 x2.toNatClampNeg (vX4_measuredError w1 a0 a0_0)) → ∀ w3 : mH, (w3 = sai w2 a1_1 x2.toNatClampNeg (hai w2 a0_4 ((vX4_seenStep w2 x2 a0_0).toNatClampNeg))) → (¬ ((vX10_isWithin x2 1 199) = 0)) → vp_in x2 n_a1_1) (s9 : (¬ ((hfi w a1 6) ≤ x2)) → (¬ (200 ≤ x2)) → ∀ w1 : mH, (w1 = sai w a1_0 x2.toNatClampNeg (hfi w a0 5)) → ∀ w2 : mH, (w2 = sai w1 a0_4 x2.toNatClampNeg (vX4_measuredError w1 a0 a0_0)) → ∀ w3 : mH, (w3 = sai w2 a1_1 x2.toNatClampNeg (hai w2 a0_4 ((vX4_seenStep w2 x2 a0_0).toNatClampNeg))) → (¬ ((vX10_isWithin x2 1 199) = 0)) → vp_in (x2 - 1) n_a1_1) (h11 : zSim w a0) (s10 : (¬ ((hfi w a1 6) ≤ x2)) → (¬ (200 ≤ x2)) → ∀ w1 : mH, (w1 = sai w a1_0 x2.toNatClampNeg (hfi w a0 5)) → ∀ w2 : mH, (w2 = sai w1 a0_4 x2.toNatClampNeg (vX4_measuredError w1 a0 a0_0)) → ∀ w3 : mH, (w3 = sai w2 a1_1 x2.toNatClampNeg (hai w2 a0_4 ((vX4_seenStep w2 x2 a0_0).toNatClampNeg))) → sTabOK w3 (a0 + 2)) (s11 : vp_in 4 n_a0_0) (h12 : hfr w a0 2 = some a0_2) (h13 : hk w a0_2 = (16, n_a0_2)) (s12 : (¬ ((hfi w a1 6) ≤ x2)) → (¬ (200 ≤ x2)) → ∀ w1 : mH, (w1 = sai w a1_0 x2.toNatClampNeg (hfi w a0 5)) → ∀ w2 : mH, (w2 = sai w1 a0_4 x2.toNatClampNeg (vX4_measuredError w1 a0 a0_0)) → ∀ w3 : mH, (w3 = sai w2 a1_1 x2.toNatClampNeg (hai w2 a0_4 ((vX4_seenStep w2 x2 a0_0).toNatClampNeg))) → ∀ w4 : mH, (mFr a0 (a0 + 1) w3 w4 ∧ (∀ k, k < 8 → hfi w4 a0 k = hfi w3 a0 k) ∧ hfi w4 a0 9 = pOut (hai w3 (a0 + 1)) (sTab w3 (a0 + 2)) (hai w3 a1_1 x2.toNatClampNeg) (vX6_seenChange w3 x2 a1_1) (hfi w3 a0 8) (hfi w3 a0 9) ∧ hfi w4 a0 10 = pSat (hai w3 (a0 + 1)) (sTab w3 (a0 + 2)) (hai w3 a1_1 x2.toNatClampNeg) (vX6_seenChange w3 x2 a1_1) (hfi w3 a0 8) (hfi w3 a0 9) ∧ hfi w4 a0 8 = pInt (hai w3 (a0 + 1)) (sTab w3 (a0 + 2)) (hai w3 a1_1 x2.toNatClampNeg) (vX6_seenChange w3 x2 a1_1) (hfi w3 a0 8) (hfi w3 a0 9)) → ∀ w5 : mH, (w5 = sX4_moveActuator w4 a0 a0_0) → vp_in x2 n_a0_2) (h14 : hfr w a0 3 = some a0_3) (h15 : hk w a0_3 = (16, n_a0_3)) (s13 : (¬ ((hfi w a1 6) ≤ x2)) → (¬ (200 ≤ x2)) → ∀ w1 : mH, (w1 = sai w a1_0 x2.toNatClampNeg (hfi w a0 5)) → ∀ w2 : mH, (w2 = sai w1 a0_4 x2.toNatClampNeg (vX4_measuredError w1 a0 a0_0)) → ∀ w3 : mH, (w3 = sai w2 a1_1 x2.toNatClampNeg (hai w2 a0_4 ((vX4_seenStep w2 x2 a0_0).toNatClampNeg))) → ∀ w4 : mH, (mFr a0 (a0 + 1) w3 w4 ∧ (∀ k, k < 8 → hfi w4 a0 k = hfi w3 a0 k) ∧ hfi w4 a0 9 = pOut (hai w3 (a0 + 1)) (sTab w3 (a0 + 2)) (hai w3 a1_1 x2.toNatClampNeg) (vX6_seenChange w3 x2 a1_1) (hfi w3 a0 8) (hfi w3 a0 9) ∧ hfi w4 a0 10 = pSat (hai w3 (a0 + 1)) (sTab w3 (a0 + 2)) (hai w3 a1_1 x2.toNatClampNeg) (vX6_seenChange w3 x2 a1_1) (hfi w3 a0 8) (hfi w3 a0 9) ∧ hfi w4 a0 8 = pInt (hai w3 (a0 + 1)) (sTab w3 (a0 + 2)) (hai w3 a1_1 x2.toNatClampNeg) (vX6_seenChange w3 x2 a1_1) (hfi w3 a0 8) (hfi w3 a0 9)) → ∀ w5 : mH, (w5 = sX4_moveActuator w4 a0 a0_0) → vp_in x2 n_a0_3) (h16 : hfr w a1 2 = some a1_2) (h17 : hk w a1_2 = (16, n_a1_2)) (s14 : (¬ ((hfi w a1 6) ≤ x2)) → (¬ (200 ≤ x2)) → ∀ w1 : mH, (w1 = sai w a1_0 x2.toNatClampNeg (hfi w a0 5)) → ∀ w2 : mH, (w2 = sai w1 a0_4 x2.toNatClampNeg (vX4_measuredError w1 a0 a0_0)) → ∀ w3 : mH, (w3 = sai w2 a1_1 x2.toNatClampNeg (hai w2 a0_4 ((vX4_seenStep w2 x2 a0_0).toNatClampNeg))) → ∀ w4 : mH, (mFr a0 (a0 + 1) w3 w4 ∧ (∀ k, k < 8 → hfi w4 a0 k = hfi w3 a0 k) ∧ hfi w4 a0 9 = pOut (hai w3 (a0 + 1)) (sTab w3 (a0 + 2)) (hai w3 a1_1 x2.toNatClampNeg) (vX6_seenChange w3 x2 a1_1) (hfi w3 a0 8) (hfi w3 a0 9) ∧ hfi w4 a0 10 = pSat (hai w3 (a0 + 1)) (sTab w3 (a0 + 2)) (hai w3 a1_1 x2.toNatClampNeg) (vX6_seenChange w3 x2 a1_1) (hfi w3 a0 8) (hfi w3 a0 9) ∧ hfi w4 a0 8 = pInt (hai w3 (a0 + 1)) (sTab w3 (a0 + 2)) (hai w3 a1_1 x2.toNatClampNeg) (vX6_seenChange w3 x2 a1_1) (hfi w3 a0 8) (hfi w3 a0 9)) → ∀ w5 : mH, (w5 = sX4_moveActuator w4 a0 a0_0) → ∀ w6 : mH, (w6 = sX4_moveRobot w5 a0 (hai w5 a0_2 x2.toNatClampNeg) (hai w5 a0_3 x2.toNatClampNeg)) → vp_in x2 n_a1_2) (h18 : hfr w a1 3 = some a1_3) (h19 : hk w a1_3 = (16, n_a1_3)) (s15 : (¬ ((hfi w a1 6) ≤ x2)) → (¬ (200 ≤ x2)) → ∀ w1 : mH, (w1 = sai w a1_0 x2.toNatClampNeg (hfi w a0 5)) → ∀ w2 : mH, (w2 = sai w1 a0_4 x2.toNatClampNeg (vX4_measuredError w1 a0 a0_0)) → ∀ w3 : mH, (w3 = sai w2 a1_1 x2.toNatClampNeg (hai w2 a0_4 ((vX4_seenStep w2 x2 a0_0).toNatClampNeg))) → ∀ w4 : mH, (mFr a0 (a0 + 1) w3 w4 ∧ (∀ k, k < 8 → hfi w4 a0 k = hfi w3 a0 k) ∧ hfi w4 a0 9 = pOut (hai w3 (a0 + 1)) (sTab w3 (a0 + 2)) (hai w3 a1_1 x2.toNatClampNeg) (vX6_seenChange w3 x2 a1_1) (hfi w3 a0 8) (hfi w3 a0 9) ∧ hfi w4 a0 10 = pSat (hai w3 (a0 + 1)) (sTab w3 (a0 + 2)) (hai w3 a1_1 x2.toNatClampNeg) (vX6_seenChange w3 x2 a1_1) (hfi w3 a0 8) (hfi w3 a0 9) ∧ hfi w4 a0 8 = pInt (hai w3 (a0 + 1)) (sTab w3 (a0 + 2)) (hai w3 a1_1 x2.toNatClampNeg) (vX6_seenChange w3 x2 a1_1) (hfi w3 a0 8) (hfi w3 a0 9)) → ∀ w5 : mH, (w5 = sX4_moveActuator w4 a0 a0_0) → ∀ w6 : mH, (w6 = sX4_moveRobot w5 a0 (hai w5 a0_2 x2.toNatClampNeg) (hai w5 a0_3 x2.toNatClampNeg)) → ∀ w7 : mH, (w7 = sai w6 a1_2 x2.toNatClampNeg (hfi w6 a0 9)) → vp_in x2 n_a1_3) (h20 : hfr w a1 4 = some a1_4) (h21 : hk w a1_4 = (16, n_a1_4)) (s16 : (¬ ((hfi w a1 6) ≤ x2)) → (¬ (200 ≤ x2)) → ∀ w1 : mH, (w1 = sai w a1_0 x2.toNatClampNeg (hfi w a0 5)) → ∀ w2 : mH, (w2 = sai w1 a0_4 x2.toNatClampNeg (vX4_measuredError w1 a0 a0_0)) → ∀ w3 : mH, (w3 = sai w2 a1_1 x2.toNatClampNeg (hai w2 a0_4 ((vX4_seenStep w2 x2 a0_0).toNatClampNeg))) → ∀ w4 : mH, (mFr a0 (a0 + 1) w3 w4 ∧ (∀ k, k < 8 → hfi w4 a0 k = hfi w3 a0 k) ∧ hfi w4 a0 9 = pOut (hai w3 (a0 + 1)) (sTab w3 (a0 + 2)) (hai w3 a1_1 x2.toNatClampNeg) (vX6_seenChange w3 x2 a1_1) (hfi w3 a0 8) (hfi w3 a0 9) ∧ hfi w4 a0 10 = pSat (hai w3 (a0 + 1)) (sTab w3 (a0 + 2)) (hai w3 a1_1 x2.toNatClampNeg) (vX6_seenChange w3 x2 a1_1) (hfi w3 a0 8) (hfi w3 a0 9) ∧ hfi w4 a0 8 = pInt (hai w3 (a0 + 1)) (sTab w3 (a0 + 2)) (hai w3 a1_1 x2.toNatClampNeg) (vX6_seenChange w3 x2 a1_1) (hfi w3 a0 8) (hfi w3 a0 9)) → ∀ w5 : mH, (w5 = sX4_moveActuator w4 a0 a0_0) → ∀ w6 : mH, (w6 = sX4_moveRobot w5 a0 (hai w5 a0_2 x2.toNatClampNeg) (hai w5 a0_3 x2.toNatClampNeg)) → ∀ w7 : mH, (w7 = sai w6 a1_2 x2.toNatClampNeg (hfi w6 a0 9)) → ∀ w8 : mH, (w8 = sai w7 a1_3 x2.toNatClampNeg (hfi w7 a0 7)) → vp_in x2 n_a1_4) (h22 : hfr w a1 5 = some a1_5) (h23 : hk w a1_5 = (16, n_a1_5)) (s17 : (¬ ((hfi w a1 6) ≤ x2)) → (¬ (200 ≤ x2)) → ∀ w1 : mH, (w1 = sai w a1_0 x2.toNatClampNeg (hfi w a0 5)) → ∀ w2 : mH, (w2 = sai w1 a0_4 x2.toNatClampNeg (vX4_measuredError w1 a0 a0_0)) → ∀ w3 : mH, (w3 = sai w2 a1_1 x2.toNatClampNeg (hai w2 a0_4 ((vX4_seenStep w2 x2 a0_0).toNatClampNeg))) → ∀ w4 : mH, (mFr a0 (a0 + 1) w3 w4 ∧ (∀ k, k < 8 → hfi w4 a0 k = hfi w3 a0 k) ∧ hfi w4 a0 9 = pOut (hai w3 (a0 + 1)) (sTab w3 (a0 + 2)) (hai w3 a1_1 x2.toNatClampNeg) (vX6_seenChange w3 x2 a1_1) (hfi w3 a0 8) (hfi w3 a0 9) ∧ hfi w4 a0 10 = pSat (hai w3 (a0 + 1)) (sTab w3 (a0 + 2)) (hai w3 a1_1 x2.toNatClampNeg) (vX6_seenChange w3 x2 a1_1) (hfi w3 a0 8) (hfi w3 a0 9) ∧ hfi w4 a0 8 = pInt (hai w3 (a0 + 1)) (sTab w3 (a0 + 2)) (hai w3 a1_1 x2.toNatClampNeg) (vX6_seenChange w3 x2 a1_1) (hfi w3 a0 8) (hfi w3 a0 9)) → ∀ w5 : mH, (w5 = sX4_moveActuator w4 a0 a0_0) → ∀ w6 : mH, (w6 = sX4_moveRobot w5 a0 (hai w5 a0_2 x2.toNatClampNeg) (hai w5 a0_3 x2.toNatClampNeg)) → ∀ w7 : mH, (w7 = sai w6 a1_2 x2.toNatClampNeg (hfi w6 a0 9)) → ∀ w8 : mH, (w8 = sai w7 a1_3 x2.toNatClampNeg (hfi w7 a0 7)) → ∀ w9 : mH, (w9 = sai w8 a1_4 x2.toNatClampNeg (hfi w8 a0 8)) → ((hfi w9 a0 10) = 0) → vp_in x2 n_a1_5) (s18 : (¬ ((hfi w a1 6) ≤ x2)) → (¬ (200 ≤ x2)) → ∀ w1 : mH, (w1 = sai w a1_0 x2.toNatClampNeg (hfi w a0 5)) → ∀ w2 : mH, (w2 = sai w1 a0_4 x2.toNatClampNeg (vX4_measuredError w1 a0 a0_0)) → ∀ w3 : mH, (w3 = sai w2 a1_1 x2.toNatClampNeg (hai w2 a0_4 ((vX4_seenStep w2 x2 a0_0).toNatClampNeg))) → ∀ w4 : mH, (mFr a0 (a0 + 1) w3 w4 ∧ (∀ k, k < 8 → hfi w4 a0 k = hfi w3 a0 k) ∧ hfi w4 a0 9 = pOut (hai w3 (a0 + 1)) (sTab w3 (a0 + 2)) (hai w3 a1_1 x2.toNatClampNeg) (vX6_seenChange w3 x2 a1_1) (hfi w3 a0 8) (hfi w3 a0 9) ∧ hfi w4 a0 10 = pSat (hai w3 (a0 + 1)) (sTab w3 (a0 + 2)) (hai w3 a1_1 x2.toNatClampNeg) (vX6_seenChange w3 x2 a1_1) (hfi w3 a0 8) (hfi w3 a0 9) ∧ hfi w4 a0 8 = pInt (hai w3 (a0 + 1)) (sTab w3 (a0 + 2)) (hai w3 a1_1 x2.toNatClampNeg) (vX6_seenChange w3 x2 a1_1) (hfi w3 a0 8) (hfi w3 a0 9)) → ∀ w5 : mH, (w5 = sX4_moveActuator w4 a0 a0_0) → ∀ w6 : mH, (w6 = sX4_moveRobot w5 a0 (hai w5 a0_2 x2.toNatClampNeg) (hai w5 a0_3 x2.toNatClampNeg)) → ∀ w7 : mH, (w7 = sai w6 a1_2 x2.toNatClampNeg (hfi w6 a0 9)) → ∀ w8 : mH, (w8 = sai w7 a1_3 x2.toNatClampNeg (hfi w7 a0 7)) → ∀ w9 : mH, (w9 = sai w8 a1_4 x2.toNatClampNeg (hfi w8 a0 8)) → ((hfi w9 a0 10) = 0) → ∀ w10 : mH, (w10 = sai w9 a1_5 x2.toNatClampNeg 0) → vp_in (x2 + 1) n_a1_0) (s19 : (¬ ((hfi w a1 6) ≤ x2)) → (¬ (200 ≤ x2)) → ∀ w1 : mH, (w1 = sai w a1_0 x2.toNatClampNeg (hfi w a0 5)) → ∀ w2 : mH, (w2 = sai w1 a0_4 x2.toNatClampNeg (vX4_measuredError w1 a0 a0_0)) → ∀ w3 : mH, (w3 = sai w2 a1_1 x2.toNatClampNeg (hai w2 a0_4 ((vX4_seenStep w2 x2 a0_0).toNatClampNeg))) → ∀ w4 : mH, (mFr a0 (a0 + 1) w3 w4 ∧ (∀ k, k < 8 → hfi w4 a0 k = hfi w3 a0 k) ∧ hfi w4 a0 9 = pOut (hai w3 (a0 + 1)) (sTab w3 (a0 + 2)) (hai w3 a1_1 x2.toNatClampNeg) (vX6_seenChange w3 x2 a1_1) (hfi w3 a0 8) (hfi w3 a0 9) ∧ hfi w4 a0 10 = pSat (hai w3 (a0 + 1)) (sTab w3 (a0 + 2)) (hai w3 a1_1 x2.toNatClampNeg) (vX6_seenChange w3 x2 a1_1) (hfi w3 a0 8) (hfi w3 a0 9) ∧ hfi w4 a0 8 = pInt (hai w3 (a0 + 1)) (sTab w3 (a0 + 2)) (hai w3 a1_1 x2.toNatClampNeg) (vX6_seenChange w3 x2 a1_1) (hfi w3 a0 8) (hfi w3 a0 9)) → ∀ w5 : mH, (w5 = sX4_moveActuator w4 a0 a0_0) → ∀ w6 : mH, (w6 = sX4_moveRobot w5 a0 (hai w5 a0_2 x2.toNatClampNeg) (hai w5 a0_3 x2.toNatClampNeg)) → ∀ w7 : mH, (w7 = sai w6 a1_2 x2.toNatClampNeg (hfi w6 a0 9)) → ∀ w8 : mH, (w8 = sai w7 a1_3 x2.toNatClampNeg (hfi w7 a0 7)) → ∀ w9 : mH, (w9 = sai w8 a1_4 x2.toNatClampNeg (hfi w8 a0 8)) → (¬ ((hfi w9 a0 10) = 0)) → vp_in x2 n_a1_5) (s20 : (¬ ((hfi w a1 6) ≤ x2)) → (¬ (200 ≤ x2)) → ∀ w1 : mH, (w1 = sai w a1_0 x2.toNatClampNeg (hfi w a0 5)) → ∀ w2 : mH, (w2 = sai w1 a0_4 x2.toNatClampNeg (vX4_measuredError w1 a0 a0_0)) → ∀ w3 : mH, (w3 = sai w2 a1_1 x2.toNatClampNeg (hai w2 a0_4 ((vX4_seenStep w2 x2 a0_0).toNatClampNeg))) → ∀ w4 : mH, (mFr a0 (a0 + 1) w3 w4 ∧ (∀ k, k < 8 → hfi w4 a0 k = hfi w3 a0 k) ∧ hfi w4 a0 9 = pOut (hai w3 (a0 + 1)) (sTab w3 (a0 + 2)) (hai w3 a1_1 x2.toNatClampNeg) (vX6_seenChange w3 x2 a1_1) (hfi w3 a0 8) (hfi w3 a0 9) ∧ hfi w4 a0 10 = pSat (hai w3 (a0 + 1)) (sTab w3 (a0 + 2)) (hai w3 a1_1 x2.toNatClampNeg) (vX6_seenChange w3 x2 a1_1) (hfi w3 a0 8) (hfi w3 a0 9) ∧ hfi w4 a0 8 = pInt (hai w3 (a0 + 1)) (sTab w3 (a0 + 2)) (hai w3 a1_1 x2.toNatClampNeg) (vX6_seenChange w3 x2 a1_1) (hfi w3 a0 8) (hfi w3 a0 9)) → ∀ w5 : mH, (w5 = sX4_moveActuator w4 a0 a0_0) → ∀ w6 : mH, (w6 = sX4_moveRobot w5 a0 (hai w5 a0_2 x2.toNatClampNeg) (hai w5 a0_3 x2.toNatClampNeg)) → ∀ w7 : mH, (w7 = sai w6 a1_2 x2.toNatClampNeg (hfi w6 a0 9)) → ∀ w8 : mH, (w8 = sai w7 a1_3 x2.toNatClampNeg (hfi w7 a0 7)) → ∀ w9 : mH, (w9 = sai w8 a1_4 x2.toNatClampNeg (hfi w8 a0 8)) → (¬ ((hfi w9 a0 10) = 0)) → ∀ w12 : mH, (w12 = sai w9 a1_5 x2.toNatClampNeg 1) → vp_in (x2 + 1) n_a1_0) (k1 : ((hfi w a1 6) ≤ x2) → Φ (.inl none) w) (k2 : (¬ ((hfi w a1 6) ≤ x2)) → (200 ≤ x2) → Φ (.inl none) w) (k3 : (¬ ((hfi w a1 6) ≤ x2)) → (¬ (200 ≤ x2)) → ∀ w1 : mH, (w1 = sai w a1_0 x2.toNatClampNeg (hfi w a0 5)) → ∀ w2 : mH, (w2 = sai w1 a0_4 x2.toNatClampNeg (vX4_measuredError w1 a0 a0_0)) → ∀ w3 : mH, (w3 = sai w2 a1_1 x2.toNatClampNeg (hai w2 a0_4 ((vX4_seenStep w2 x2 a0_0).toNatClampNeg))) → ∀ w4 : mH, (mFr a0 (a0 + 1) w3 w4 ∧ (∀ k, k < 8 → hfi w4 a0 k = hfi w3 a0 k) ∧ hfi w4 a0 9 = pOut (hai w3 (a0 + 1)) (sTab w3 (a0 + 2)) (hai w3 a1_1 x2.toNatClampNeg) (vX6_seenChange w3 x2 a1_1) (hfi w3 a0 8) (hfi w3 a0 9) ∧ hfi w4 a0 10 = pSat (hai w3 (a0 + 1)) (sTab w3 (a0 + 2)) (hai w3 a1_1 x2.toNatClampNeg) (vX6_seenChange w3 x2 a1_1) (hfi w3 a0 8) (hfi w3 a0 9) ∧ hfi w4 a0 8 = pInt (hai w3 (a0 + 1)) (sTab w3 (a0 + 2)) (hai w3 a1_1 x2.toNatClampNeg) (vX6_seenChange w3 x2 a1_1) (hfi w3 a0 8) (hfi w3 a0 9)) → ∀ w5 : mH, (w5 = sX4_moveActuator w4 a0 a0_0) → ∀ w6 : mH, (w6 = sX4_moveRobot w5 a0 (hai w5 a0_2 x2.toNatClampNeg) (hai w5 a0_3 x2.toNatClampNeg)) → ∀ w7 : mH, (w7 = sai w6 a1_2 x2.toNatClampNeg (hfi w6 a0 9)) → ∀ w8 : mH, (w8 = sai w7 a1_3 x2.toNatClampNeg (hfi w7 a0 7)) → ∀ w9 : mH, (w9 = sai w8 a1_4 x2.toNatClampNeg (hfi w8 a0 8)) → ((hfi w9 a0 10) = 0) → ∀ w10 : mH, (w10 = sai w9 a1_5 x2.toNatClampNeg 0) → ∀ w11 : mH, (w11 = sai w10 a1_0 ((x2 + 1).toNatClampNeg) (hfi w10 a0 5)) → mW G mX4_makeRun 6 0 0 23 [(0, .ref a0), (1, .ref a1), (2, .int (x2 + 1))] [] w11 Φ) (k4 : (¬ ((hfi w a1 6) ≤ x2)) → (¬ (200 ≤ x2)) → ∀ w1 : mH, (w1 = sai w a1_0 x2.toNatClampNeg (hfi w a0 5)) → ∀ w2 : mH, (w2 = sai w1 a0_4 x2.toNatClampNeg (vX4_measuredError w1 a0 a0_0)) → ∀ w3 : mH, (w3 = sai w2 a1_1 x2.toNatClampNeg (hai w2 a0_4 ((vX4_seenStep w2 x2 a0_0).toNatClampNeg))) → ∀ w4 : mH, (mFr a0 (a0 + 1) w3 w4 ∧ (∀ k, k < 8 → hfi w4 a0 k = hfi w3 a0 k) ∧ hfi w4 a0 9 = pOut (hai w3 (a0 + 1)) (sTab w3 (a0 + 2)) (hai w3 a1_1 x2.toNatClampNeg) (vX6_seenChange w3 x2 a1_1) (hfi w3 a0 8) (hfi w3 a0 9) ∧ hfi w4 a0 10 = pSat (hai w3 (a0 + 1)) (sTab w3 (a0 + 2)) (hai w3 a1_1 x2.toNatClampNeg) (vX6_seenChange w3 x2 a1_1) (hfi w3 a0 8) (hfi w3 a0 9) ∧ hfi w4 a0 8 = pInt (hai w3 (a0 + 1)) (sTab w3 (a0 + 2)) (hai w3 a1_1 x2.toNatClampNeg) (vX6_seenChange w3 x2 a1_1) (hfi w3 a0 8) (hfi w3 a0 9)) → ∀ w5 : mH, (w5 = sX4_moveActuator w4 a0 a0_0) → ∀ w6 : mH, (w6 = sX4_moveRobot w5 a0 (hai w5 a0_2 x2.toNatClampNeg) (hai w5 a0_3 x2.toNatClampNeg)) → ∀ w7 : mH, (w7 = sai w6 a1_2 x2.toNatClampNeg (hfi w6 a0 9)) → ∀ w8 : mH, (w8 = sai w7 a1_3 x2.toNatClampNeg (hfi w7 a0 7)) → ∀ w9 : mH, (w9 = sai w8 a1_4 x2.toNatClampNeg (hfi w8 a0 8)) → (¬ ((hfi w9 a0 10) = 0)) → ∀ w12 : mH, (w12 = sai w9 a1_5 x2.toNatClampNeg 1) → ∀ w13 : mH, (w13 = sai w12 a1_0 ((x2 + 1).toNatClampNeg) (hfi w12 a0 5)) → mW G mX4_makeRun 6 0 0 23 [(0, .ref a0), (1, .ref a1), (2, .int (x2 + 1))] [] w13 Φ) : mW G mX4_makeRun 6 0 0 23 [(0, .ref a0), (1, .ref a1), (2, .int x2)] [] w Φ := by
  refine mW_iload_n (j := 2) dX4_makeRun_23 rfl rfl ?_
  refine mW_aload_n (j := 1) dX4_makeRun_24 rfl rfl ?_
  refine mW_get dX4_makeRun_25 f_X4_93 h1 rfl ?_
  refine mW_icmp_ge (tgt := 175) dX4_makeRun_28 (by decide) (fun c1 => ?_) (fun c1 => ?_)
  · exact mW_vret dX4_makeRun_175 rfl (k1 c1)
  · refine mW_iload_n (j := 2) dX4_makeRun_31 rfl rfl ?_
    refine mW_sipush (v := 200) dX4_makeRun_32 (by decide) ?_
    refine mW_icmp_ge (tgt := 175) dX4_makeRun_35 (by decide) (fun c2 => ?_) (fun c2 => ?_)
    · exact mW_vret dX4_makeRun_175 rfl (k2 c1 c2)
    · refine mW_aload_n (j := 1) dX4_makeRun_38 rfl rfl ?_
      refine mW_getR dX4_makeRun_39 f_X4_98 h1 rfl h2 ?_
      refine mW_iload_n (j := 2) dX4_makeRun_42 rfl rfl ?_
      refine mW_aload_n (j := 0) dX4_makeRun_43 rfl rfl ?_
      refine mW_get dX4_makeRun_44 f_X4_39 h3 rfl ?_
      refine mW_iastJ dX4_makeRun_47 h4 (s1 c1 c2) rfl ?_
      refine mW_nm (fun w1 e1 => ?_)
      refine mW_aload_n (j := 0) dX4_makeRun_48 rfl rfl ?_
      refine mW_getR dX4_makeRun_49 f_X4_36 (s2k (S2_sai e1) h3) rfl (s2r (S2_sai e1) h5) ?_
      refine mW_iload_n (j := 2) dX4_makeRun_52 rfl rfl ?_
      refine mW_aload_n (j := 0) dX4_makeRun_53 rfl rfl ?_
      refine mW_callVe (As := []) (rest := [.int x2, .ref a0_4]) (kc2 := 0) (ks2 := 0) dX4_makeRun_54 l_X4_101 rfl (s2k (S2_sai e1) h3) rfl (by decide) (qX4_measuredError (w := w1) (a0 := a0) (s2k (S2_sai e1) h3) (s2r (S2_sai e1) h6) (s2k (S2_sai e1) h7) s2 (s3 c1 c2 w1 e1)) (Nat.le_of_ble_eq_true rfl) (by decide) rfl rfl ?_
      refine mW_iastJ dX4_makeRun_57 (s2k (S2_sai e1) h8) (s4 c1 c2 w1 e1) rfl ?_
      refine mW_nm (fun w2 e2 => ?_)
      refine mW_aload_n (j := 1) dX4_makeRun_58 rfl rfl ?_
      refine mW_getR dX4_makeRun_59 f_X4_105 (s2k (S2_sai e2) (s2k (S2_sai e1) h1)) rfl (s2r (S2_sai e2) (s2r (S2_sai e1) h9)) ?_
      refine mW_iload_n (j := 2) dX4_makeRun_62 rfl rfl ?_
      refine mW_aload_n (j := 0) dX4_makeRun_63 rfl rfl ?_
      refine mW_getR dX4_makeRun_64 f_X4_36 (s2k (S2_sai e2) (s2k (S2_sai e1) h3)) rfl (s2r (S2_sai e2) (s2r (S2_sai e1) h5)) ?_
      refine mW_aload_n (j := 0) dX4_makeRun_67 rfl rfl ?_
      refine mW_iload_n (j := 2) dX4_makeRun_68 rfl rfl ?_
      refine mW_callVe (As := [.int x2]) (rest := [.ref a0_4, .int x2, .ref a1_1]) (kc2 := 0) (ks2 := 0) dX4_makeRun_69 l_X4_108 rfl (s2k (S2_sai e2) (s2k (S2_sai e1) h3)) rfl (by decide) (qX4_seenStep (w := w2) (a0 := a0) (x1 := x2) (s2k (S2_sai e2) (s2k (S2_sai e1) h3)) (s2r (S2_sai e2) (s2r (S2_sai e1) h6)) (s2k (S2_sai e2) (s2k (S2_sai e1) h7)) s5) (Nat.le_of_ble_eq_true rfl) (by decide) rfl rfl ?_
      refine mW_ialdJ dX4_makeRun_72 (s2k (S2_sai e2) (s2k (S2_sai e1) h8)) (s6 c1 c2 w1 e1 w2 e2) rfl ?_
      refine mW_iastJ dX4_makeRun_73 (s2k (S2_sai e2) (s2k (S2_sai e1) h10)) (s7 c1 c2 w1 e1 w2 e2) rfl ?_
      refine mW_nm (fun w3 e3 => ?_)
      refine mW_aload_n (j := 0) dX4_makeRun_74 rfl rfl ?_
      refine mW_aload_n (j := 1) dX4_makeRun_75 rfl rfl ?_
      refine mW_getR dX4_makeRun_76 f_X4_105 (s2k (S2_sai e3) (s2k (S2_sai e2) (s2k (S2_sai e1) h1))) rfl (s2r (S2_sai e3) (s2r (S2_sai e2) (s2r (S2_sai e1) h9))) ?_
      refine mW_iload_n (j := 2) dX4_makeRun_79 rfl rfl ?_
      refine mW_ialdJ dX4_makeRun_80 (s2k (S2_sai e3) (s2k (S2_sai e2) (s2k (S2_sai e1) h10))) (s7 c1 c2 w1 e1 w2 e2) rfl ?_
      refine mW_aload_n (j := 1) dX4_makeRun_81 rfl rfl ?_
      refine mW_iload_n (j := 2) dX4_makeRun_82 rfl rfl ?_
      refine mW_callVe (As := [.int x2]) (rest := [.int (hai w3 a1_1 x2.toNatClampNeg), .ref a0]) (kc2 := 0) (ks2 := 0) dX4_makeRun_83 l_X4_111 rfl (s2k (S2_sai e3) (s2k (S2_sai e2) (s2k (S2_sai e1) h1))) rfl (by decide) (qX6_seenChange (w := w3) (a0 := a1) (x1 := x2) (s2k (S2_sai e3) (s2k (S2_sai e2) (s2k (S2_sai e1) h1))) (s2r (S2_sai e3) (s2r (S2_sai e2) (s2r (S2_sai e1) h9))) (s2k (S2_sai e3) (s2k (S2_sai e2) (s2k (S2_sai e1) h10))) (s8 c1 c2 w1 e1 w2 e2 w3 e3) (s9 c1 c2 w1 e1 w2 e2 w3 e3)) (Nat.le_of_ble_eq_true rfl) (by decide) rfl rfl ?_
      refine mW_callV (As := [.int (hai w3 a1_1 x2.toNatClampNeg), .int (vX6_seenChange w3 x2 a1_1)]) (rest := []) (kc2 := 0) (ks2 := 0) dX4_makeRun_86 l_X4_114 rfl (s2k (S2_sai e3) (s2k (S2_sai e2) (s2k (S2_sai e1) h3))) rfl (by decide) (rX4_control (w := w3) (a0 := a0) (x1 := hai w3 a1_1 x2.toNatClampNeg) (x2 := (vX6_seenChange w3 x2 a1_1)) (zSim_s2 (S2_sai e3) (zSim_s2 (S2_sai e2) (zSim_s2 (S2_sai e1) h11))) (s10 c1 c2 w1 e1 w2 e2 w3 e3)) (Nat.le_of_ble_eq_true rfl) (by decide) rfl rfl mP_x (mP_k (fun w4 q1 => ?_))
      refine mW_aload_n (j := 0) dX4_makeRun_89 rfl rfl ?_
      refine mW_callVe (As := []) (rest := []) (kc2 := 0) (ks2 := 0) dX4_makeRun_90 l_X4_118 rfl (s2k (mS2.of q1.1.1) (s2k (S2_sai e3) (s2k (S2_sai e2) (s2k (S2_sai e1) h3)))) rfl (by decide) (qX4_moveActuator (w := w4) (a0 := a0) (s2k (mS2.of q1.1.1) (s2k (S2_sai e3) (s2k (S2_sai e2) (s2k (S2_sai e1) h3)))) (s2r (mS2.of q1.1.1) (s2r (S2_sai e3) (s2r (S2_sai e2) (s2r (S2_sai e1) h6)))) (s2k (mS2.of q1.1.1) (s2k (S2_sai e3) (s2k (S2_sai e2) (s2k (S2_sai e1) h7)))) s11) (Nat.le_of_ble_eq_true rfl) (by decide) rfl rfl ?_
      refine mW_nm (fun w5 e4 => ?_)
      refine mW_aload_n (j := 0) dX4_makeRun_93 rfl rfl ?_
      refine mW_aload_n (j := 0) dX4_makeRun_94 rfl rfl ?_
      refine mW_getR dX4_makeRun_95 f_X4_30 (s2k (S2_def e4 kkX4_moveActuator rrX4_moveActuator) (s2k (mS2.of q1.1.1) (s2k (S2_sai e3) (s2k (S2_sai e2) (s2k (S2_sai e1) h3))))) rfl (s2r (S2_def e4 kkX4_moveActuator rrX4_moveActuator) (s2r (mS2.of q1.1.1) (s2r (S2_sai e3) (s2r (S2_sai e2) (s2r (S2_sai e1) h12))))) ?_
      refine mW_iload_n (j := 2) dX4_makeRun_98 rfl rfl ?_
      refine mW_ialdJ dX4_makeRun_99 (s2k (S2_def e4 kkX4_moveActuator rrX4_moveActuator) (s2k (mS2.of q1.1.1) (s2k (S2_sai e3) (s2k (S2_sai e2) (s2k (S2_sai e1) h13))))) (s12 c1 c2 w1 e1 w2 e2 w3 e3 w4 q1 w5 e4) rfl ?_
      refine mW_aload_n (j := 0) dX4_makeRun_100 rfl rfl ?_
      refine mW_getR dX4_makeRun_101 f_X4_33 (s2k (S2_def e4 kkX4_moveActuator rrX4_moveActuator) (s2k (mS2.of q1.1.1) (s2k (S2_sai e3) (s2k (S2_sai e2) (s2k (S2_sai e1) h3))))) rfl (s2r (S2_def e4 kkX4_moveActuator rrX4_moveActuator) (s2r (mS2.of q1.1.1) (s2r (S2_sai e3) (s2r (S2_sai e2) (s2r (S2_sai e1) h14))))) ?_
      refine mW_iload_n (j := 2) dX4_makeRun_104 rfl rfl ?_
      refine mW_ialdJ dX4_makeRun_105 (s2k (S2_def e4 kkX4_moveActuator rrX4_moveActuator) (s2k (mS2.of q1.1.1) (s2k (S2_sai e3) (s2k (S2_sai e2) (s2k (S2_sai e1) h15))))) (s13 c1 c2 w1 e1 w2 e2 w3 e3 w4 q1 w5 e4) rfl ?_
      refine mW_callVe (As := [.int (hai w5 a0_2 x2.toNatClampNeg), .int (hai w5 a0_3 x2.toNatClampNeg)]) (rest := []) (kc2 := 0) (ks2 := 0) dX4_makeRun_106 l_X4_121 rfl (s2k (S2_def e4 kkX4_moveActuator rrX4_moveActuator) (s2k (mS2.of q1.1.1) (s2k (S2_sai e3) (s2k (S2_sai e2) (s2k (S2_sai e1) h3))))) rfl (by decide) (qX4_moveRobot (w := w5) (a0 := a0) (x1 := hai w5 a0_2 x2.toNatClampNeg) (x2 := hai w5 a0_3 x2.toNatClampNeg) (s2k (S2_def e4 kkX4_moveActuator rrX4_moveActuator) (s2k (mS2.of q1.1.1) (s2k (S2_sai e3) (s2k (S2_sai e2) (s2k (S2_sai e1) h3)))))) (Nat.le_of_ble_eq_true rfl) (by decide) rfl rfl ?_
      refine mW_nm (fun w6 e5 => ?_)
      refine mW_aload_n (j := 1) dX4_makeRun_109 rfl rfl ?_
      refine mW_getR dX4_makeRun_110 f_X4_124 (s2k (S2_def e5 kkX4_moveRobot rrX4_moveRobot) (s2k (S2_def e4 kkX4_moveActuator rrX4_moveActuator) (s2k (mS2.of q1.1.1) (s2k (S2_sai e3) (s2k (S2_sai e2) (s2k (S2_sai e1) h1)))))) rfl (s2r (S2_def e5 kkX4_moveRobot rrX4_moveRobot) (s2r (S2_def e4 kkX4_moveActuator rrX4_moveActuator) (s2r (mS2.of q1.1.1) (s2r (S2_sai e3) (s2r (S2_sai e2) (s2r (S2_sai e1) h16)))))) ?_
      refine mW_iload_n (j := 2) dX4_makeRun_113 rfl rfl ?_
      refine mW_aload_n (j := 0) dX4_makeRun_114 rfl rfl ?_
      refine mW_get dX4_makeRun_115 f_X4_52 (s2k (S2_def e5 kkX4_moveRobot rrX4_moveRobot) (s2k (S2_def e4 kkX4_moveActuator rrX4_moveActuator) (s2k (mS2.of q1.1.1) (s2k (S2_sai e3) (s2k (S2_sai e2) (s2k (S2_sai e1) h3)))))) rfl ?_
      refine mW_iastJ dX4_makeRun_118 (s2k (S2_def e5 kkX4_moveRobot rrX4_moveRobot) (s2k (S2_def e4 kkX4_moveActuator rrX4_moveActuator) (s2k (mS2.of q1.1.1) (s2k (S2_sai e3) (s2k (S2_sai e2) (s2k (S2_sai e1) h17)))))) (s14 c1 c2 w1 e1 w2 e2 w3 e3 w4 q1 w5 e4 w6 e5) rfl ?_
      refine mW_nm (fun w7 e6 => ?_)
      refine mW_aload_n (j := 1) dX4_makeRun_119 rfl rfl ?_
      refine mW_getR dX4_makeRun_120 f_X4_127 (s2k (S2_sai e6) (s2k (S2_def e5 kkX4_moveRobot rrX4_moveRobot) (s2k (S2_def e4 kkX4_moveActuator rrX4_moveActuator) (s2k (mS2.of q1.1.1) (s2k (S2_sai e3) (s2k (S2_sai e2) (s2k (S2_sai e1) h1))))))) rfl (s2r (S2_sai e6) (s2r (S2_def e5 kkX4_moveRobot rrX4_moveRobot) (s2r (S2_def e4 kkX4_moveActuator rrX4_moveActuator) (s2r (mS2.of q1.1.1) (s2r (S2_sai e3) (s2r (S2_sai e2) (s2r (S2_sai e1) h18))))))) ?_
      refine mW_iload_n (j := 2) dX4_makeRun_123 rfl rfl ?_
      refine mW_aload_n (j := 0) dX4_makeRun_124 rfl rfl ?_
      refine mW_get dX4_makeRun_125 f_X4_46 (s2k (S2_sai e6) (s2k (S2_def e5 kkX4_moveRobot rrX4_moveRobot) (s2k (S2_def e4 kkX4_moveActuator rrX4_moveActuator) (s2k (mS2.of q1.1.1) (s2k (S2_sai e3) (s2k (S2_sai e2) (s2k (S2_sai e1) h3))))))) rfl ?_
      refine mW_iastJ dX4_makeRun_128 (s2k (S2_sai e6) (s2k (S2_def e5 kkX4_moveRobot rrX4_moveRobot) (s2k (S2_def e4 kkX4_moveActuator rrX4_moveActuator) (s2k (mS2.of q1.1.1) (s2k (S2_sai e3) (s2k (S2_sai e2) (s2k (S2_sai e1) h19))))))) (s15 c1 c2 w1 e1 w2 e2 w3 e3 w4 q1 w5 e4 w6 e5 w7 e6) rfl ?_
      refine mW_nm (fun w8 e7 => ?_)
      refine mW_aload_n (j := 1) dX4_makeRun_129 rfl rfl ?_
      refine mW_getR dX4_makeRun_130 f_X4_130 (s2k (S2_sai e7) (s2k (S2_sai e6) (s2k (S2_def e5 kkX4_moveRobot rrX4_moveRobot) (s2k (S2_def e4 kkX4_moveActuator rrX4_moveActuator) (s2k (mS2.of q1.1.1) (s2k (S2_sai e3) (s2k (S2_sai e2) (s2k (S2_sai e1) h1)))))))) rfl (s2r (S2_sai e7) (s2r (S2_sai e6) (s2r (S2_def e5 kkX4_moveRobot rrX4_moveRobot) (s2r (S2_def e4 kkX4_moveActuator rrX4_moveActuator) (s2r (mS2.of q1.1.1) (s2r (S2_sai e3) (s2r (S2_sai e2) (s2r (S2_sai e1) h20)))))))) ?_
      refine mW_iload_n (j := 2) dX4_makeRun_133 rfl rfl ?_
      refine mW_aload_n (j := 0) dX4_makeRun_134 rfl rfl ?_
      refine mW_get dX4_makeRun_135 f_X4_49 (s2k (S2_sai e7) (s2k (S2_sai e6) (s2k (S2_def e5 kkX4_moveRobot rrX4_moveRobot) (s2k (S2_def e4 kkX4_moveActuator rrX4_moveActuator) (s2k (mS2.of q1.1.1) (s2k (S2_sai e3) (s2k (S2_sai e2) (s2k (S2_sai e1) h3)))))))) rfl ?_
      refine mW_iastJ dX4_makeRun_138 (s2k (S2_sai e7) (s2k (S2_sai e6) (s2k (S2_def e5 kkX4_moveRobot rrX4_moveRobot) (s2k (S2_def e4 kkX4_moveActuator rrX4_moveActuator) (s2k (mS2.of q1.1.1) (s2k (S2_sai e3) (s2k (S2_sai e2) (s2k (S2_sai e1) h21)))))))) (s16 c1 c2 w1 e1 w2 e2 w3 e3 w4 q1 w5 e4 w6 e5 w7 e6 w8 e7) rfl ?_
      refine mW_nm (fun w9 e8 => ?_)
      refine mW_aload_n (j := 1) dX4_makeRun_139 rfl rfl ?_
      refine mW_getR dX4_makeRun_140 f_X4_133 (s2k (S2_sai e8) (s2k (S2_sai e7) (s2k (S2_sai e6) (s2k (S2_def e5 kkX4_moveRobot rrX4_moveRobot) (s2k (S2_def e4 kkX4_moveActuator rrX4_moveActuator) (s2k (mS2.of q1.1.1) (s2k (S2_sai e3) (s2k (S2_sai e2) (s2k (S2_sai e1) h1))))))))) rfl (s2r (S2_sai e8) (s2r (S2_sai e7) (s2r (S2_sai e6) (s2r (S2_def e5 kkX4_moveRobot rrX4_moveRobot) (s2r (S2_def e4 kkX4_moveActuator rrX4_moveActuator) (s2r (mS2.of q1.1.1) (s2r (S2_sai e3) (s2r (S2_sai e2) (s2r (S2_sai e1) h22))))))))) ?_
      refine mW_iload_n (j := 2) dX4_makeRun_143 rfl rfl ?_
      refine mW_aload_n (j := 0) dX4_makeRun_144 rfl rfl ?_
      refine mW_get dX4_makeRun_145 f_X4_55 (s2k (S2_sai e8) (s2k (S2_sai e7) (s2k (S2_sai e6) (s2k (S2_def e5 kkX4_moveRobot rrX4_moveRobot) (s2k (S2_def e4 kkX4_moveActuator rrX4_moveActuator) (s2k (mS2.of q1.1.1) (s2k (S2_sai e3) (s2k (S2_sai e2) (s2k (S2_sai e1) h3))))))))) rfl ?_
      refine mW_if_eq (tgt := 155) dX4_makeRun_148 (by decide) (fun c3 => ?_) (fun c3 => ?_)
      · refine mW_iconst (v := 0) dX4_makeRun_155 (by decide) ?_
        refine mW_iastJ dX4_makeRun_156 (s2k (S2_sai e8) (s2k (S2_sai e7) (s2k (S2_sai e6) (s2k (S2_def e5 kkX4_moveRobot rrX4_moveRobot) (s2k (S2_def e4 kkX4_moveActuator rrX4_moveActuator) (s2k (mS2.of q1.1.1) (s2k (S2_sai e3) (s2k (S2_sai e2) (s2k (S2_sai e1) h23))))))))) (s17 c1 c2 w1 e1 w2 e2 w3 e3 w4 q1 w5 e4 w6 e5 w7 e6 w8 e7 w9 e8 c3) rfl ?_
        refine mW_nm (fun w10 e9 => ?_)
        refine mW_aload_n (j := 1) dX4_makeRun_157 rfl rfl ?_
        refine mW_getR dX4_makeRun_158 f_X4_98 (s2k (S2_sai e9) (s2k (S2_sai e8) (s2k (S2_sai e7) (s2k (S2_sai e6) (s2k (S2_def e5 kkX4_moveRobot rrX4_moveRobot) (s2k (S2_def e4 kkX4_moveActuator rrX4_moveActuator) (s2k (mS2.of q1.1.1) (s2k (S2_sai e3) (s2k (S2_sai e2) (s2k (S2_sai e1) h1)))))))))) rfl (s2r (S2_sai e9) (s2r (S2_sai e8) (s2r (S2_sai e7) (s2r (S2_sai e6) (s2r (S2_def e5 kkX4_moveRobot rrX4_moveRobot) (s2r (S2_def e4 kkX4_moveActuator rrX4_moveActuator) (s2r (mS2.of q1.1.1) (s2r (S2_sai e3) (s2r (S2_sai e2) (s2r (S2_sai e1) h2)))))))))) ?_
        refine mW_iload_n (j := 2) dX4_makeRun_161 rfl rfl ?_
        refine mW_iconst (v := 1) dX4_makeRun_162 (by decide) ?_
        refine mW_iadd dX4_makeRun_163 ?_
        refine mW_aload_n (j := 0) dX4_makeRun_164 rfl rfl ?_
        refine mW_get dX4_makeRun_165 f_X4_39 (s2k (S2_sai e9) (s2k (S2_sai e8) (s2k (S2_sai e7) (s2k (S2_sai e6) (s2k (S2_def e5 kkX4_moveRobot rrX4_moveRobot) (s2k (S2_def e4 kkX4_moveActuator rrX4_moveActuator) (s2k (mS2.of q1.1.1) (s2k (S2_sai e3) (s2k (S2_sai e2) (s2k (S2_sai e1) h3)))))))))) rfl ?_
        refine mW_iastJ dX4_makeRun_168 (s2k (S2_sai e9) (s2k (S2_sai e8) (s2k (S2_sai e7) (s2k (S2_sai e6) (s2k (S2_def e5 kkX4_moveRobot rrX4_moveRobot) (s2k (S2_def e4 kkX4_moveActuator rrX4_moveActuator) (s2k (mS2.of q1.1.1) (s2k (S2_sai e3) (s2k (S2_sai e2) (s2k (S2_sai e1) h4)))))))))) (s18 c1 c2 w1 e1 w2 e2 w3 e3 w4 q1 w5 e4 w6 e5 w7 e6 w8 e7 w9 e8 c3 w10 e9) rfl ?_
        refine mW_nm (fun w11 e10 => ?_)
        refine mW_iinc (j := 2) (v := x2 + 1) (lv2 := [(2, .int (x2 + 1)), (0, .ref a0), (1, .ref a1)]) dX4_makeRun_169 rfl rfl (by decide) rfl ?_
        refine mW_goto (tgt := 23) dX4_makeRun_172 (by decide) ?_
        refine mW_loc [1, 2, 0] (lv2 := [(0, .ref a0), (1, .ref a1), (2, .int (x2 + 1))]) rfl ?_
        exact k3 c1 c2 w1 e1 w2 e2 w3 e3 w4 q1 w5 e4 w6 e5 w7 e6 w8 e7 w9 e8 c3 w10 e9 w11 e10
      · refine mW_iconst (v := 1) dX4_makeRun_151 (by decide) ?_
        refine mW_goto (tgt := 156) dX4_makeRun_152 (by decide) ?_
        refine mW_iastJ dX4_makeRun_156 (s2k (S2_sai e8) (s2k (S2_sai e7) (s2k (S2_sai e6) (s2k (S2_def e5 kkX4_moveRobot rrX4_moveRobot) (s2k (S2_def e4 kkX4_moveActuator rrX4_moveActuator) (s2k (mS2.of q1.1.1) (s2k (S2_sai e3) (s2k (S2_sai e2) (s2k (S2_sai e1) h23))))))))) (s19 c1 c2 w1 e1 w2 e2 w3 e3 w4 q1 w5 e4 w6 e5 w7 e6 w8 e7 w9 e8 c3) rfl ?_
        refine mW_nm (fun w12 e11 => ?_)
        refine mW_aload_n (j := 1) dX4_makeRun_157 rfl rfl ?_
        refine mW_getR dX4_makeRun_158 f_X4_98 (s2k (S2_sai e11) (s2k (S2_sai e8) (s2k (S2_sai e7) (s2k (S2_sai e6) (s2k (S2_def e5 kkX4_moveRobot rrX4_moveRobot) (s2k (S2_def e4 kkX4_moveActuator rrX4_moveActuator) (s2k (mS2.of q1.1.1) (s2k (S2_sai e3) (s2k (S2_sai e2) (s2k (S2_sai e1) h1)))))))))) rfl (s2r (S2_sai e11) (s2r (S2_sai e8) (s2r (S2_sai e7) (s2r (S2_sai e6) (s2r (S2_def e5 kkX4_moveRobot rrX4_moveRobot) (s2r (S2_def e4 kkX4_moveActuator rrX4_moveActuator) (s2r (mS2.of q1.1.1) (s2r (S2_sai e3) (s2r (S2_sai e2) (s2r (S2_sai e1) h2)))))))))) ?_
        refine mW_iload_n (j := 2) dX4_makeRun_161 rfl rfl ?_
        refine mW_iconst (v := 1) dX4_makeRun_162 (by decide) ?_
        refine mW_iadd dX4_makeRun_163 ?_
        refine mW_aload_n (j := 0) dX4_makeRun_164 rfl rfl ?_
        refine mW_get dX4_makeRun_165 f_X4_39 (s2k (S2_sai e11) (s2k (S2_sai e8) (s2k (S2_sai e7) (s2k (S2_sai e6) (s2k (S2_def e5 kkX4_moveRobot rrX4_moveRobot) (s2k (S2_def e4 kkX4_moveActuator rrX4_moveActuator) (s2k (mS2.of q1.1.1) (s2k (S2_sai e3) (s2k (S2_sai e2) (s2k (S2_sai e1) h3)))))))))) rfl ?_
        refine mW_iastJ dX4_makeRun_168 (s2k (S2_sai e11) (s2k (S2_sai e8) (s2k (S2_sai e7) (s2k (S2_sai e6) (s2k (S2_def e5 kkX4_moveRobot rrX4_moveRobot) (s2k (S2_def e4 kkX4_moveActuator rrX4_moveActuator) (s2k (mS2.of q1.1.1) (s2k (S2_sai e3) (s2k (S2_sai e2) (s2k (S2_sai e1) h4)))))))))) (s20 c1 c2 w1 e1 w2 e2 w3 e3 w4 q1 w5 e4 w6 e5 w7 e6 w8 e7 w9 e8 c3 w12 e11) rfl ?_
        refine mW_nm (fun w13 e12 => ?_)
        refine mW_iinc (j := 2) (v := x2 + 1) (lv2 := [(2, .int (x2 + 1)), (0, .ref a0), (1, .ref a1)]) dX4_makeRun_169 rfl rfl (by decide) rfl ?_
        refine mW_goto (tgt := 23) dX4_makeRun_172 (by decide) ?_
        refine mW_loc [1, 2, 0] (lv2 := [(0, .ref a0), (1, .ref a1), (2, .int (x2 + 1))]) rfl ?_
        exact k4 c1 c2 w1 e1 w2 e2 w3 e3 w4 q1 w5 e4 w6 e5 w7 e6 w8 e7 w9 e8 c3 w12 e11 w13 e12
theorem Sh_sfi {w w' : mH} {a k : Nat} {v : Int32} (e : w' = sfi w a k v) : mSh w w' := by subst e; exact ⟨rfl, rfl, rfl, rfl⟩
theorem Sh_sfl {w w' : mH} {a k : Nat} {v : Int64} (e : w' = sfl w a k v) : mSh w w' := by subst e; exact ⟨rfl, rfl, rfl, rfl⟩
theorem Sh_sai {w w' : mH} {a k : Nat} {v : Int32} (e : w' = sai w a k v) : mSh w w' := by subst e; exact ⟨rfl, rfl, rfl, rfl⟩
theorem Sh_sal {w w' : mH} {a k : Nat} {v : Int64} (e : w' = sal w a k v) : mSh w w' := by subst e; exact ⟨rfl, rfl, rfl, rfl⟩
def xX (w : mH) (a0 : Nat) : Nat → xT := xSt (hai w (a0 + 1)) (sTab w (a0 + 2)) (hai w (a0 + 5)) (hai w (a0 + 6))
def xInv (w0 w : mH) (a0 N t : Nat) : Prop := mFr a0 (a0 + 15) w0 w ∧ (∀ b, a0 < b → b < a0 + 7 → hfi w b = hfi w0 b ∧ hai w b = hai w0 b) ∧ hfi w (a0 + 8) 6 = nI N ∧ hfi w a0 5 = (xX w0 a0 t).1 ∧ hfi w a0 6 = (xX w0 a0 t).2.1 ∧ hfi w a0 7 = (xX w0 a0 t).2.2.1 ∧ hfi w a0 8 = (xX w0 a0 t).2.2.2.1 ∧ hfi w a0 9 = (xX w0 a0 t).2.2.2.2.1 ∧ (∀ j, j < t → hai w (a0 + 7) j = (xX w0 a0 t).2.2.2.2.2 j) ∧ (∀ j, j < t → hai w (a0 + 9) j = (xX w0 a0 j).1) ∧ (0 < t → hai w (a0 + 9) t = (xX w0 a0 t).1) ∧ ∀ j, j < t → hai w (a0 + 10) j = xSn (hai w0 (a0 + 1)) j (xX w0 a0 j) ∧ hai w (a0 + 11) j = (xX w0 a0 (j + 1)).2.2.2.2.1 ∧ hai w (a0 + 12) j = (xX w0 a0 (j + 1)).2.2.1 ∧ hai w (a0 + 13) j = (xX w0 a0 (j + 1)).2.2.2.1 ∧ hai w (a0 + 14) j = xW (hai w0 (a0 + 1)) (sTab w0 (a0 + 2)) (hai w0 (a0 + 5)) (hai w0 (a0 + 6)) j
theorem xX_s (w : mH) (a0 t : Nat) : xX w a0 (t + 1) = xN (hai w (a0 + 1)) (sTab w (a0 + 2)) (hai w (a0 + 5)) (hai w (a0 + 6)) t (xX w a0 t) := rfl
set_option maxHeartbeats 4000000 in
theorem x_step {w0 w w1 w2 w3 w4 w5 w6 w7 w8 w9 w10 w11 : mH} {a0 N t : Nat} {v : Int32} (I : xInv w0 w a0 N t) (ht : t < N) (hN : N ≤ 200)
    (e1 : w1 = sai w (a0 + 9) t (hfi w a0 5)) (e2 : w2 = sai w1 (a0 + 7) t (vX4_measuredError w1 a0 (a0 + 1))) (e3 : w3 = sai w2 (a0 + 10) t (hai w2 (a0 + 7) (vX4_seenStep w2 (nI t) (a0 + 1)).toNatClampNeg))
    (q1 : mFr a0 (a0 + 1) w3 w4 ∧ (∀ k, k < 8 → hfi w4 a0 k = hfi w3 a0 k) ∧ hfi w4 a0 9 = pOut (hai w3 (a0 + 1)) (sTab w3 (a0 + 2)) (hai w3 (a0 + 10) t) (vX6_seenChange w3 (nI t) (a0 + 10)) (hfi w3 a0 8) (hfi w3 a0 9) ∧ hfi w4 a0 10 = pSat (hai w3 (a0 + 1)) (sTab w3 (a0 + 2)) (hai w3 (a0 + 10) t) (vX6_seenChange w3 (nI t) (a0 + 10)) (hfi w3 a0 8) (hfi w3 a0 9) ∧ hfi w4 a0 8 = pInt (hai w3 (a0 + 1)) (sTab w3 (a0 + 2)) (hai w3 (a0 + 10) t) (vX6_seenChange w3 (nI t) (a0 + 10)) (hfi w3 a0 8) (hfi w3 a0 9))
    (e4 : w5 = sX4_moveActuator w4 a0 (a0 + 1)) (e5 : w6 = sX4_moveRobot w5 a0 (hai w5 (a0 + 5) t) (hai w5 (a0 + 6) t)) (e6 : w7 = sai w6 (a0 + 11) t (hfi w6 a0 9)) (e7 : w8 = sai w7 (a0 + 12) t (hfi w7 a0 7)) (e8 : w9 = sai w8 (a0 + 13) t (hfi w8 a0 8)) (hv : v = hfi w4 a0 10) (e9 : w10 = sai w9 (a0 + 14) t v) (e10 : w11 = sai w10 (a0 + 9) (t + 1) (hfi w10 a0 5)) : xInv w0 w11 a0 N (t + 1) := by
  obtain ⟨F, K, I1, I2, I3, I4, I5, I6, I7, I8, I9, I10⟩ := I
  obtain ⟨qf, qk, q9, q10, q8⟩ := q1
  generalize hS : hai w0 (a0 + 1) = S at *
  generalize hT : sTab w0 (a0 + 2) = tab at *
  generalize hC : hai w0 (a0 + 5) = cu at *
  generalize hP : hai w0 (a0 + 6) = pu at *
  have hX : xX w0 a0 = xSt S tab cu pu := by unfold xX; rw [hS, hT, hC, hP]
  simp only [hX] at I2 I3 I4 I5 I6 I7 I8 I9 I10
  generalize hσ : xSt S tab cu pu t = σ at *
  have hσ1 : xSt S tab cu pu (t + 1) = xN S tab cu pu t σ := by rw [← hσ]; rfl
  -- what is kept up to w3
  have k3 : ∀ b, b ≠ a0 + 9 → b ≠ a0 + 7 → b ≠ a0 + 10 → hai w3 b = hai w b := fun b h1 h2 h3 => by
    rw [e3, e_hai_sai, up2_a _ _ _ h3, e2, e_hai_sai, up2_a _ _ _ h2, e1, e_hai_sai, up2_a _ _ _ h1]
  have f3 : hfi w3 = hfi w := by rw [e3, e_hfi_sai, e2, e_hfi_sai, e1, e_hfi_sai]
  have S1 : hai w1 (a0 + 1) = S := by
    rw [e1, e_hai_sai, up2_a _ _ _ (by omega), (K (a0 + 1) (by omega) (by omega)).2]; exact hS
  have S3 : hai w3 (a0 + 1) = S := by rw [k3 _ (by omega) (by omega) (by omega), (K (a0 + 1) (by omega) (by omega)).2]; exact hS
  have T3 : sTab w3 (a0 + 2) = tab := by
    rw [← hT]
    unfold sTab
    rw [f3, k3 _ (by omega) (by omega) (by omega), k3 _ (by omega) (by omega) (by omega), (K (a0 + 2) (by omega) (by omega)).1, (K (a0 + 2 + 1) (by omega) (by omega)).2, (K (a0 + 2 + 2) (by omega) (by omega)).2]
  have M2 : ∀ j, j ≤ t → hai w2 (a0 + 7) j = xH S t σ j := fun j hj => by
    rw [e2, e_hai_sai]
    by_cases h : j = t
    · subst h
      rw [up2_at]
      unfold vX4_measuredError xH
      rw [S1, show hfi w1 a0 5 = σ.1 by rw [e1, e_hfi_sai]; exact I2]
      simp [upd, pMeas]
    · rw [up2_k _ _ _ h, e1, e_hai_sai, up2_a _ _ _ (by omega), I7 j (by omega)]
      simp [xH, upd, h]
  have sd : (vX4_seenStep w2 (nI t) (a0 + 1)).toNatClampNeg = t - xD S := by
    have : hai w2 (a0 + 1) = S := by rw [e2, e_hai_sai, up2_a _ _ _ (by omega)]; exact S1
    unfold vX4_seenStep
    rw [this, m_seen (by omega), m_cl (by omega)]
    rfl
  have sn : hai w3 (a0 + 10) t = xSn S t σ := by
    rw [e3, e_hai_sai, up2_at, sd, M2 _ (by omega)]
    rfl
  have ch : vX6_seenChange w3 (nI t) (a0 + 10) = xCh S t σ := by
    unfold vX6_seenChange
    rw [m_wi (by omega), m_cl (by omega), sn]
    by_cases h0 : t = 0
    · subst h0; rfl
    · have ht1 : nI t - 1 = nI (t - 1) := by
        have := m_sub1 (a := t - 1)
        rwa [show t - 1 + 1 = t by omega] at this
      rw [if_neg h0, if_neg (by decide), ht1, m_cl (by omega)]
      unfold xCh
      rw [if_neg h0]
      congr 1
      rw [e3, e_hai_sai, up2_k _ _ _ (by omega), e2, e_hai_sai, up2_a _ _ _ (by omega), e1, e_hai_sai, up2_a _ _ _ (by omega), (I10 (t - 1) (by omega)).1]
      obtain ⟨t', rfl⟩ : ∃ t', t = t' + 1 := ⟨t - 1, by omega⟩
      rw [Nat.add_sub_cancel]
      have e' : σ.2.2.2.2.2 = xH S t' (xSt S tab cu pu t') := by rw [← hσ]; rfl
      unfold xSn
      conv => rhs; unfold xH
      rw [e']
      simp [upd, show ¬ (t' - xD S = t' + 1) by omega]
  rw [S3, T3, sn, ch, f3] at q9 q10 q8
  rw [I5, I6] at q9 q10 q8
  have o9 : hfi w4 a0 9 = xNo S tab t σ := q9
  have o8 : hfi w4 a0 8 = xNi S tab t σ := q8
  have S4 : hai w4 (a0 + 1) = S := by rw [qf.hai (by omega)]; exact S3
  have a5 : hfi w5 a0 7 = xNa S tab t σ := by
    rw [e4]
    unfold sX4_moveActuator
    rw [e_hfi_sfi, up2_at, o9, S4, qk 7 (by decide), f3, I4]
    rfl
  have g5 : ∀ k, k ≠ 7 → hfi w5 a0 k = hfi w4 a0 k := fun k hk => by
    rw [e4]; unfold sX4_moveActuator; rw [e_hfi_sfi, up2_k _ _ _ hk]
  have k5 : ∀ b, hai w5 b = hai w4 b := fun b => by rw [e4]; unfold sX4_moveActuator; rw [e_hai_sfi]
  have cu5 : hai w5 (a0 + 5) = cu := by rw [k5, qf.hai (by omega), k3 _ (by omega) (by omega) (by omega), (K (a0 + 5) (by omega) (by omega)).2]; exact hC
  have pu5 : hai w5 (a0 + 6) = pu := by rw [k5, qf.hai (by omega), k3 _ (by omega) (by omega) (by omega), (K (a0 + 6) (by omega) (by omega)).2]; exact hP
  have h6 : hfi w6 a0 6 = xNh S tab cu t σ := by
    rw [e5]
    unfold sX4_moveRobot
    rw [e_hfi_sfi, up2_k _ _ _ (by decide), e_hfi_sfi, up2_at, a5, cu5, g5 6 (by decide), qk 6 (by decide), f3, I3]
    rfl
  have h5 : hfi w6 a0 5 = xNe S tab cu pu t σ := by
    have h6' := h6
    rw [e5] at h6' ⊢
    unfold sX4_moveRobot at h6' ⊢
    rw [e_hfi_sfi, up2_k _ _ _ (by decide)] at h6'
    rw [e_hfi_sfi, up2_at, h6', pu5]
    rw [e_hfi_sfi, up2_k _ _ _ (by decide), g5 5 (by decide), qk 5 (by decide), f3, I2]
    rfl
  have g6 : ∀ k, k ≠ 5 → k ≠ 6 → hfi w6 a0 k = hfi w5 a0 k := fun k hk hk' => by
    rw [e5]; unfold sX4_moveRobot; rw [e_hfi_sfi, up2_k _ _ _ hk, e_hfi_sfi, up2_k _ _ _ hk']
  have k6 : ∀ b, hai w6 b = hai w4 b := fun b => by rw [e5]; unfold sX4_moveRobot; rw [e_hai_sfi, e_hai_sfi]; exact k5 b
  have i6 : ∀ b, b ≠ a0 → hfi w6 b = hfi w4 b := fun b hb => by
    rw [e5, e4]; unfold sX4_moveRobot sX4_moveActuator
    rw [e_hfi_sfi, up2_a _ _ _ hb, e_hfi_sfi, up2_a _ _ _ hb, e_hfi_sfi, up2_a _ _ _ hb]
  have f7 : hfi w7 = hfi w6 := by rw [e6, e_hfi_sai]
  have f8 : hfi w8 = hfi w6 := by rw [e7, e_hfi_sai, f7]
  have f9 : hfi w9 = hfi w6 := by rw [e8, e_hfi_sai, f8]
  have f10 : hfi w10 = hfi w6 := by rw [e9, e_hfi_sai, f9]
  have f11 : hfi w11 = hfi w6 := by rw [e10, e_hfi_sai, f10]
  have x9 : hfi w6 a0 9 = xNo S tab t σ := by rw [g6 9 (by decide) (by decide), g5 9 (by decide)]; exact o9
  have x8 : hfi w6 a0 8 = xNi S tab t σ := by rw [g6 8 (by decide) (by decide), g5 8 (by decide)]; exact o8
  have x7 : hfi w6 a0 7 = xNa S tab t σ := by rw [g6 7 (by decide) (by decide)]; exact a5
  have k11 : ∀ b, b ≠ a0 + 9 → b ≠ a0 + 11 → b ≠ a0 + 12 → b ≠ a0 + 13 → b ≠ a0 + 14 → hai w11 b = hai w4 b := fun b h1 h2 h3 h4 h5 => by
    rw [e10, e_hai_sai, up2_a _ _ _ h1, e9, e_hai_sai, up2_a _ _ _ h5, e8, e_hai_sai, up2_a _ _ _ h4, e7, e_hai_sai, up2_a _ _ _ h3, e6, e_hai_sai, up2_a _ _ _ h2, k6]
  have k4 : ∀ b, b ≠ a0 → b ≠ a0 + 9 → b ≠ a0 + 7 → b ≠ a0 + 10 → hai w4 b = hai w b := fun b h0 h1 h2 h3 => by
    rw [qf.hai (by omega)]; exact k3 b h1 h2 h3
  have sh : mSh w w11 := by
    have s3 : mSh w w3 := ((Sh_sai e1).tr (Sh_sai e2)).tr (Sh_sai e3)
    have s6 : mSh w4 w6 := ((Sh_sfi e4).tr (Sh_sfi rfl)).tr (Sh_sfi e5)
    have s11 : mSh w6 w11 := ((((Sh_sai e6).tr (Sh_sai e7)).tr (Sh_sai e8)).tr (Sh_sai e9)).tr (Sh_sai e10)
    exact ((s3.tr qf.1).tr s6).tr s11
  have fl : hfl w11 = hfl w4 := by
    rw [e10, e_hfl_sai, e9, e_hfl_sai, e8, e_hfl_sai, e7, e_hfl_sai, e6, e_hfl_sai, e5]; unfold sX4_moveRobot; rw [e_hfl_sfi, e_hfl_sfi, e4]; unfold sX4_moveActuator; rw [e_hfl_sfi]
  have al : hal w11 = hal w4 := by
    rw [e10, e_hal_sai, e9, e_hal_sai, e8, e_hal_sai, e7, e_hal_sai, e6, e_hal_sai, e5]; unfold sX4_moveRobot; rw [e_hal_sfi, e_hal_sfi, e4]; unfold sX4_moveActuator; rw [e_hal_sfi]
  have fl3 : hfl w3 = hfl w ∧ hal w3 = hal w := by rw [e3, e_hfl_sai, e_hal_sai, e2, e_hfl_sai, e_hal_sai, e1, e_hfl_sai, e_hal_sai]; exact ⟨rfl, rfl⟩
  refine ⟨⟨F.1.tr sh, fun b hb => ?_⟩, fun b h1 h2 => ?_, ?_, ?_, ?_, ?_, ?_, ?_, fun j hj => ?_, fun j hj => ?_, fun _ => ?_, fun j hj => ?_⟩
  · rw [f11, i6 b (by omega), qf.hfi (by omega), f3, fl, qf.hfl (by omega), fl3.1, k11 b (by omega) (by omega) (by omega) (by omega) (by omega), k4 b (by omega) (by omega) (by omega) (by omega), al, qf.hal (by omega), fl3.2]
    exact F.2 b hb
  · rw [f11, i6 b (by omega), qf.hfi (by omega), f3, k11 b (by omega) (by omega) (by omega) (by omega) (by omega), k4 b (by omega) (by omega) (by omega) (by omega)]
    exact K b h1 h2
  · rw [f11, i6 _ (by omega), qf.hfi (by omega), f3]; exact I1
  · rw [f11, hX, hσ1]; exact h5
  · rw [f11, hX, hσ1]; exact h6
  · rw [f11, hX, hσ1]; exact x7
  · rw [f11, hX, hσ1]; exact x8
  · rw [f11, hX, hσ1]; exact x9
  · rw [hX, hσ1, k11 _ (by omega) (by omega) (by omega) (by omega) (by omega), qf.hai (by omega), e3, e_hai_sai, up2_a _ _ _ (by omega)]
    exact M2 j (by omega)
  · rw [hX, e10, e_hai_sai, up2_k _ _ _ (by omega), e9, e_hai_sai, up2_a _ _ _ (by omega), e8, e_hai_sai, up2_a _ _ _ (by omega), e7, e_hai_sai, up2_a _ _ _ (by omega), e6, e_hai_sai, up2_a _ _ _ (by omega), k6, qf.hai (by omega), e3, e_hai_sai, up2_a _ _ _ (by omega), e2, e_hai_sai, up2_a _ _ _ (by omega), e1, e_hai_sai]
    by_cases h : j = t
    · subst h
      rw [up2_at, I2, hσ]
    · rw [up2_k _ _ _ h]; exact I8 j (by omega)
  · rw [hX, hσ1, e10, e_hai_sai, up2_at, f10]; exact h5
  · rw [hX, hS, hT, hC, hP]
    have r10 : hai w11 (a0 + 10) = hai w3 (a0 + 10) := by rw [k11 _ (by omega) (by omega) (by omega) (by omega) (by omega), qf.hai (by omega)]
    have r11 : hai w11 (a0 + 11) = upd (hai w (a0 + 11)) t (xNo S tab t σ) := by
      rw [e10, e_hai_sai, up2_a _ _ _ (by omega), e9, e_hai_sai, up2_a _ _ _ (by omega), e8, e_hai_sai, up2_a _ _ _ (by omega), e7, e_hai_sai, up2_a _ _ _ (by omega), e6, e_hai_sai, up2_row, k6, k4 _ (by omega) (by omega) (by omega) (by omega), x9]
    have r12 : hai w11 (a0 + 12) = upd (hai w (a0 + 12)) t (xNa S tab t σ) := by
      rw [e10, e_hai_sai, up2_a _ _ _ (by omega), e9, e_hai_sai, up2_a _ _ _ (by omega), e8, e_hai_sai, up2_a _ _ _ (by omega), e7, e_hai_sai, up2_row, f7, x7, e6, e_hai_sai, up2_a _ _ _ (by omega), k6, k4 _ (by omega) (by omega) (by omega) (by omega)]
    have r13 : hai w11 (a0 + 13) = upd (hai w (a0 + 13)) t (xNi S tab t σ) := by
      rw [e10, e_hai_sai, up2_a _ _ _ (by omega), e9, e_hai_sai, up2_a _ _ _ (by omega), e8, e_hai_sai, up2_row, f8, x8, e7, e_hai_sai, up2_a _ _ _ (by omega), e6, e_hai_sai, up2_a _ _ _ (by omega), k6, k4 _ (by omega) (by omega) (by omega) (by omega)]
    have r14 : hai w11 (a0 + 14) = upd (hai w (a0 + 14)) t v := by
      rw [e10, e_hai_sai, up2_a _ _ _ (by omega), e9, e_hai_sai, up2_row, e8, e_hai_sai, up2_a _ _ _ (by omega), e7, e_hai_sai, up2_a _ _ _ (by omega), e6, e_hai_sai, up2_a _ _ _ (by omega), k6, k4 _ (by omega) (by omega) (by omega) (by omega)]
    rw [r10, r11, r12, r13, r14]
    by_cases h : j = t
    · subst h
      rw [hσ1, hσ]
      refine ⟨sn, by simp [upd, xN], by simp [upd, xN], by simp [upd, xN], ?_⟩
      rw [hv, q10]
      unfold xW
      rw [hσ]
      simp [upd]
    · have hj' : j < t := by omega
      obtain ⟨g1, g2, g3, g4, g5⟩ := I10 j hj'
      refine ⟨?_, by simp [upd, h]; exact g2, by simp [upd, h]; exact g3, by simp [upd, h]; exact g4, by simp [upd, h]; exact g5⟩
      rw [e3, e_hai_sai, up2_k _ _ _ h, e2, e_hai_sai, up2_a _ _ _ (by omega), e1, e_hai_sai, up2_a _ _ _ (by omega)]
      exact g1
theorem m_t2 {t : Nat} (h : ¬ (if t = 0 then (0 : Int32) else 1) = 0) : ∃ t2, t = t2 + 1 := by
  rcases Nat.eq_zero_or_pos t with h0 | h0
  · subst h0; exact absurd rfl h
  · exact ⟨t - 1, by omega⟩
theorem x_body {G : mG} {w0 w : mH} {a0 N t : Nat} {Φ : mF} (z0 : zSim w0 a0) (z1 : zTra w0 (a0 + 8)) (hb : sTabOK w0 (a0 + 2)) (hN : N ≤ 200) (I : xInv w0 w a0 N t) (ht : t ≤ N) (ih : t < N → ∀ w', xInv w0 w' a0 N (t + 1) → mW G mX4_makeRun 6 0 0 23 [(0, .ref a0), (1, .ref (a0 + 8)), (2, .int (nI (t + 1)))] [] w' Φ) (hΦ : t = N → Φ (.inl none) w) : mW G mX4_makeRun 6 0 0 23 [(0, .ref a0), (1, .ref (a0 + 8)), (2, .int (nI t))] [] w Φ := by
  have hs : mS2 w0 w := mS2.of I.1.1
  have hst : hfi w (a0 + 8) 6 = nI N := I.2.2.1
  have hc : ¬ hfi w (a0 + 8) 6 ≤ nI t → t < N := fun c => by
    rw [hst, m_le (by omega) (by omega)] at c; omega
  have hcl : (nI t).toNatClampNeg = t := m_cl (by omega)
  have hcl1 : (nI t + 1).toNatClampNeg = t + 1 := by rw [nI_1]; exact m_cl (by omega)
  refine gX4_makeRun_23 (a1_0 := a0 + 9) (a0_4 := a0 + 7) (a0_0 := a0 + 1) (a1_1 := a0 + 10) (a0_2 := a0 + 5) (a0_3 := a0 + 6) (a1_2 := a0 + 11) (a1_3 := a0 + 12) (a1_4 := a0 + 13) (a1_5 := a0 + 14) ((zTra_s2 hs z1).1) ((zTra_s2 hs z1).2.1) ((zSim_s2 hs z0).1) ((zTra_s2 hs z1).2.2.2.2.2.2.2.1) (by intro c1; intros; have := hc c1; exact m_vp (by omega) (by omega)) ((zSim_s2 hs z0).2.2.2.2.2.1) ((zSim_s2 hs z0).2.1) ((zSim_s2 hs z0).2.2.2.2.2.2.1) (by intros; unfold vp_in; decide) (by intros; rename_i c9; exact fun h0 => c9 (by rw [h0]; decide)) ((zSim_s2 hs z0).2.2.2.2.2.2.2.2.2.2) (by intro c1; intros; have := hc c1; exact m_vp (by omega) (by omega)) ((zTra_s2 hs z1).2.2.1) (by intros; unfold vp_in; decide) (by intro c1; intros; have := hc c1; unfold vX4_seenStep; rw [m_seen (by omega)]; exact m_vp (by omega) (by omega)) ((zTra_s2 hs z1).2.2.2.2.2.2.2.2.1) (by intro c1; intros; have := hc c1; exact m_vp (by omega) (by omega)) (by intro c1; intros; have := hc c1; exact m_vp (by omega) (by omega)) (by intro c1 _ _ _ _ _ _ _ c2; have := hc c1; rw [m_wi (by omega)] at c2; obtain ⟨t2, rfl⟩ := m_t2 c2; rw [m_sub1]; exact m_vp (by omega) (by omega)) ((zSim_s2 hs z0)) (fun c1 _ w1 e1 w2 e2 w3 e3 => by have k := (I.2.1 (a0 + 2) (by omega) (by omega)).1; unfold sTabOK; rw [e3, e_hfi_sai, e2, e_hfi_sai, e1, e_hfi_sai, k]; exact hb) (by intros; unfold vp_in; decide) ((zSim_s2 hs z0).2.2.2.1) ((zSim_s2 hs z0).2.2.2.2.2.2.2.2.1) (by intro c1; intros; have := hc c1; exact m_vp (by omega) (by omega)) ((zSim_s2 hs z0).2.2.2.2.1) ((zSim_s2 hs z0).2.2.2.2.2.2.2.2.2.1) (by intro c1; intros; have := hc c1; exact m_vp (by omega) (by omega)) ((zTra_s2 hs z1).2.2.2.1) ((zTra_s2 hs z1).2.2.2.2.2.2.2.2.2.1) (by intro c1; intros; have := hc c1; exact m_vp (by omega) (by omega)) ((zTra_s2 hs z1).2.2.2.2.1) ((zTra_s2 hs z1).2.2.2.2.2.2.2.2.2.2.1) (by intro c1; intros; have := hc c1; exact m_vp (by omega) (by omega)) ((zTra_s2 hs z1).2.2.2.2.2.1) ((zTra_s2 hs z1).2.2.2.2.2.2.2.2.2.2.2.1) (by intro c1; intros; have := hc c1; exact m_vp (by omega) (by omega)) ((zTra_s2 hs z1).2.2.2.2.2.2.1) ((zTra_s2 hs z1).2.2.2.2.2.2.2.2.2.2.2.2) (by intro c1; intros; have := hc c1; exact m_vp (by omega) (by omega)) (by intro c1; intros; have := hc c1; rw [nI_1]; exact m_vp (by omega) (by omega)) (by intro c1; intros; have := hc c1; exact m_vp (by omega) (by omega)) (by intro c1; intros; have := hc c1; rw [nI_1]; exact m_vp (by omega) (by omega)) ?_ ?_ ?_ ?_
  · intro c1
    refine hΦ ?_
    rw [hst, m_le (by omega) (by omega)] at c1
    omega
  · intro c1 c2
    have := hc c1
    rw [m_200' (by omega)] at c2
    omega
  · intro c1 c2 w1 e1 w2 e2 w3 e3 w4 q1 w5 e4 w6 e5 w7 e6 w8 e7 w9 e8 c3 w10 e9 w11 e10
    have htN := hc c1
    simp only [hcl, hcl1] at e1 e2 e3 e4 e5 e6 e7 e8 e9 e10 q1
    rw [nI_1]
    refine ih htN _ (x_step I htN hN e1 e2 e3 q1 e4 e5 e6 e7 e8 ?_ e9 e10)
    have e49 : hfi w9 a0 10 = hfi w4 a0 10 := by
      rw [e8, e_hfi_sai, e7, e_hfi_sai, e6, e_hfi_sai, e5]
      unfold sX4_moveRobot
      rw [e_hfi_sfi, up2_k _ _ _ (by decide), e_hfi_sfi, up2_k _ _ _ (by decide), e4]
      unfold sX4_moveActuator
      rw [e_hfi_sfi, up2_k _ _ _ (by decide)]
    rw [e49] at c3
    exact c3.symm
  · intro c1 c2 w1 e1 w2 e2 w3 e3 w4 q1 w5 e4 w6 e5 w7 e6 w8 e7 w9 e8 c3 w12 e11 w13 e12
    have htN := hc c1
    simp only [hcl, hcl1] at e1 e2 e3 e4 e5 e6 e7 e8 e11 e12 q1
    rw [nI_1]
    refine ih htN _ (x_step I htN hN e1 e2 e3 q1 e4 e5 e6 e7 e8 ?_ e11 e12)
    have e49 : hfi w9 a0 10 = hfi w4 a0 10 := by
      rw [e8, e_hfi_sai, e7, e_hfi_sai, e6, e_hfi_sai, e5]
      unfold sX4_moveRobot
      rw [e_hfi_sfi, up2_k _ _ _ (by decide), e_hfi_sfi, up2_k _ _ _ (by decide), e4]
      unfold sX4_moveActuator
      rw [e_hfi_sfi, up2_k _ _ _ (by decide)]
    rw [e49] at c3
    rw [q1.2.2.2.1] at c3 ⊢
    unfold pSat at c3 ⊢
    split at c3
    · exact absurd rfl c3
    · rename_i h; rw [if_neg h]
theorem rX4_makeRun {G : mG} {w : mH} {a0 N : Nat} (z0 : zSim w a0) (z1 : zTra w (a0 + 8)) (hb : sTabOK w (a0 + 2)) (hn : hai w (a0 + 1) 13 = nI N) (h1 : 1 ≤ N) (hN : N ≤ 200) : mC G mX4_makeRun 6 0 0 [.ref a0, .ref (a0 + 8)] w (mP none (fun w' => mFr a0 (a0 + 15) w w' ∧ (∀ b, a0 < b → b < a0 + 7 → hfi w' b = hfi w b ∧ hai w' b = hai w b) ∧ xRep w' (a0 + 8) (hai w (a0 + 1)) (sTab w (a0 + 2)) (hai w (a0 + 5)) (hai w (a0 + 6)) N)) := by
  refine mC_of (by decide +kernel) rfl (Nat.le_of_ble_eq_true rfl) rfl ?_
  refine gX4_makeRun_0 (a0_0 := a0 + 1) z0.1 z0.2.1 z0.2.2.2.2.2.2.1 (by intros; unfold vp_in; decide) (by intros; unfold vp_in; decide) z1.1 ?_
  intro w1 e1 w2 e2
  have i2 : iMin (nI N) 200 = nI N := by
    unfold iMin
    rw [if_neg (by rw [m_200 (by omega)]; omega)]
  have I0 : xInv w w2 a0 N 0 := by
    have g1 : ∀ b, b ≠ a0 → hfi w1 b = hfi w b := fun b hb' => by
      rw [e1]; unfold sX4_begin
      simp only [e_hfi_sfi, up2_a _ _ _ hb']
    have g2 : hai w2 = hai w := by
      rw [e2, e_hai_sfi, e1]; unfold sX4_begin
      simp only [e_hai_sfi]
    have g3 : hfi w2 (a0 + 8) 6 = nI N := by
      rw [e2, e_hfi_sfi, up2_at, e1]
      unfold sX4_begin
      simp only [e_hai_sfi]
      rw [hn, i2]
    have g4 : hfi w2 a0 = hfi w1 a0 := by rw [e2, e_hfi_sfi, up2_a _ _ _ (by omega)]
    refine ⟨?_, fun b h h' => ⟨?_, by rw [g2]⟩, g3, ?_, ?_, ?_, ?_, ?_, fun j hj => absurd hj (Nat.not_lt_zero _), fun j hj => absurd hj (Nat.not_lt_zero _), fun h => absurd h (Nat.lt_irrefl _), fun j hj => absurd hj (Nat.not_lt_zero _)⟩
    · subst e1 e2
      unfold sX4_begin
      exact mFr_sfi (mFr_sfi (mFr_sfi (mFr_sfi (mFr_sfi (mFr_sfi (mFr_sfi mFr.rf (by omega) (by omega)) (by omega) (by omega)) (by omega) (by omega)) (by omega) (by omega)) (by omega) (by omega)) (by omega) (by omega)) (by omega) (by omega)
    · rw [e2, e_hfi_sfi, up2_a _ _ _ (by omega), g1 _ (by omega)]
    all_goals
      rw [g4, e1]
      unfold sX4_begin xX xSt
      simp [e_hfi_sfi, up2]
  have key := m_up0 (N := N) (P := fun t => ∀ w', xInv w w' a0 N t → mW G mX4_makeRun 6 0 0 23 [(0, .ref a0), (1, .ref (a0 + 8)), (2, .int (nI t))] [] w' (mP none (fun w' => mFr a0 (a0 + 15) w w' ∧ (∀ b, a0 < b → b < a0 + 7 → hfi w' b = hfi w b ∧ hai w' b = hai w b) ∧ xRep w' (a0 + 8) (hai w (a0 + 1)) (sTab w (a0 + 2)) (hai w (a0 + 5)) (hai w (a0 + 6)) N))) ?_ ?_ 0 (by omega)
  · exact key w2 I0
  · intro w' I
    refine x_body z0 z1 hb hN I (Nat.le_refl _) (fun h => absurd h (Nat.lt_irrefl _)) (fun _ => mP_of ?_)
    obtain ⟨F, K, I1, I2, I3, I4, I5, I6, I7, I8, I9, I10⟩ := I
    refine ⟨F, K, I1, fun t ht => ?_, fun t ht => I10 t ht⟩
    rcases Nat.lt_or_ge t N with h | h
    · exact I8 t h
    · have e : t = N := by omega
      subst e
      exact I9 h1
  · intro t ht ih w' I
    exact x_body z0 z1 hb hN I (by omega) (fun _ => ih) (fun h => by omega)
