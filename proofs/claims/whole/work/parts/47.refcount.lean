abbrev mX11_count : mM := (yX11_count, cX11_count, 4, (some .int), [])
theorem u1860 : (Cond.constantLong "LineFollowerBenchModel" 250 7 : Cond) ∈ mTs := mTs_in 1860 (by decide +kernel) (by decide +kernel)
set_option maxHeartbeats 4000000 in
set_option maxRecDepth 100000 in
theorem gX11_count_0 {G : mG} {w : mH} {Φ : mF} {a0 : Nat} {x1 : Int32} (h1 : hk w a0 = (11, 0)) (k1 : ((vX11_in x1.toInt64 0 7) = 0) → ∀ w1 : mH, (w1 = sfi w a0 0 1) → Φ (.inl (some (.int 0))) w1) (k2 : (¬ ((vX11_in x1.toInt64 0 7) = 0)) → ∀ w2 : mH, (w2 = sfi w a0 0 0) → mW G mX11_count 3 0 0 34 [(0, .ref a0), (1, .int x1), (2, .int 0), (3, .int 0)] [] w2 Φ) : mW G mX11_count 3 0 0 0 [(0, .ref a0), (1, .int x1)] [] w Φ := by
  refine mW_aload_n (j := 0) dX11_count_0 rfl rfl ?_
  refine mW_iload_n (j := 1) dX11_count_1 rfl rfl ?_
  refine mW_i2l dX11_count_2 ?_
  refine mW_lconst (v := 0) dX11_count_3 (by decide) ?_
  refine mW_ldc2 (v := 7) dX11_count_4 u1860 ?_
  refine mW_callSe (As := [.long x1.toInt64, .long 0, .long 7]) (rest := [.ref a0]) (kc2 := 0) (ks2 := 0) dX11_count_7 l_X11_92 rfl (qX11_in (w := w) (y0 := x1.toInt64) (y2 := 0) (y4 := 7)) (Nat.le_of_ble_eq_true rfl) (by decide) rfl rfl ?_
  refine mW_if_eq (tgt := 17) dX11_count_10 (by decide) (fun c1 => ?_) (fun c1 => ?_)
  · refine mW_iconst (v := 1) dX11_count_17 (by decide) ?_
    refine mW_put (ty := .int) (w2 := sfi w a0 0 1) dX11_count_18 p_X11_3 h1 (Nat.le_of_ble_eq_true rfl) (by first | rfl | decide | (repeat' split) <;> rfl) rfl (hN_sfi _ _ _ _) (hk_sfi _ _ _ _) (mE_sfi h1 (by decide) (ob_11_0 _ _ _)) ?_
    refine mW_nm (fun w1 e1 => ?_)
    refine mW_aload_n (j := 0) dX11_count_21 rfl rfl ?_
    refine mW_getL (v := 1) dX11_count_22 f_X11_3 (s2k (S2_sfi e1) h1) rfl (by rw [e1, e_hfi_sfi, up2_at]) ?_
    refine mW_if_eq (tgt := 30) dX11_count_25 (by decide) (fun c => absurd c (by decide)) (fun _ => ?_)
    refine mW_iconst (v := 0) dX11_count_28 (by decide) ?_
    exact mW_iret dX11_count_29 rfl (k1 c1 w1 e1)
  · refine mW_iconst (v := 0) dX11_count_13 (by decide) ?_
    refine mW_goto (tgt := 18) dX11_count_14 (by decide) ?_
    refine mW_put (ty := .int) (w2 := sfi w a0 0 0) dX11_count_18 p_X11_3 h1 (Nat.le_of_ble_eq_true rfl) (by first | rfl | decide | (repeat' split) <;> rfl) rfl (hN_sfi _ _ _ _) (hk_sfi _ _ _ _) (mE_sfi h1 (by decide) (ob_11_0 _ _ _)) ?_
    refine mW_nm (fun w2 e2 => ?_)
    refine mW_aload_n (j := 0) dX11_count_21 rfl rfl ?_
    refine mW_getL (v := 0) dX11_count_22 f_X11_3 (s2k (S2_sfi e2) h1) rfl (by rw [e2, e_hfi_sfi, up2_at]) ?_
    refine mW_if_eq (tgt := 30) dX11_count_25 (by decide) (fun _ => ?_) (fun c => absurd (by decide) c)
    refine mW_iconst (v := 0) dX11_count_30 (by decide) ?_
    refine mW_istore_n (lv2 := [(2, .int 0), (0, .ref a0), (1, .int x1)]) dX11_count_31 rfl (by decide) rfl ?_
    refine mW_iconst (v := 0) dX11_count_32 (by decide) ?_
    refine mW_istore_n (lv2 := [(3, .int 0), (2, .int 0), (0, .ref a0), (1, .int x1)]) dX11_count_33 rfl (by decide) rfl ?_
    refine mW_loc [2, 3, 1, 0] (lv2 := [(0, .ref a0), (1, .int x1), (2, .int 0), (3, .int 0)]) rfl ?_
    exact k2 c1 w2 e2
set_option maxHeartbeats 4000000 in
set_option maxRecDepth 100000 in
theorem gX11_count_34 {G : mG} {w : mH} {Φ : mF} {a0 : Nat} {x1 x2 x3 : Int32} {a0_1 n_a0_1 : Nat} (h1 : hk w a0 = (11, 0)) (h2 : hfr w a0 1 = some a0_1) (h3 : hk w a0_1 = (16, n_a0_1)) (s1 : vp_in 40 n_a0_1) (s2 : vp_in 65 n_a0_1) (s3 : vp_in 29 n_a0_1) (s4 : ((hai w a0_1 40) ≤ x3) → (¬ x1 = 0) → (¬ x1 = 1) → (¬ x1 = 2) → (x1 = 3) → vp_in ((20 + (3 * 0)) + 2) n_a0_1) (s5 : ((hai w a0_1 40) ≤ x3) → (¬ x1 = 0) → (¬ x1 = 1) → (¬ x1 = 2) → (x1 = 3) → vp_in ((20 + (3 * 1)) + 2) n_a0_1) (s6 : ((hai w a0_1 40) ≤ x3) → (¬ x1 = 0) → (¬ x1 = 1) → (¬ x1 = 2) → (x1 = 3) → vp_in ((20 + (3 * 2)) + 2) n_a0_1) (s7 : (¬ ((hai w a0_1 40) ≤ x3)) → vp_in ((41 + (3 * x3)) + 1) n_a0_1) (k1 : ((hai w a0_1 40) ≤ x3) → (x1 = 0) → Φ (.inl (some (.int (hai w a0_1 40)))) w) (k2 : ((hai w a0_1 40) ≤ x3) → (¬ x1 = 0) → (x1 = 1) → Φ (.inl (some (.int (hai w a0_1 65)))) w) (k3 : ((hai w a0_1 40) ≤ x3) → (¬ x1 = 0) → (¬ x1 = 1) → (x1 = 2) → Φ (.inl (some (.int (hai w a0_1 29)))) w) (k4 : ((hai w a0_1 40) ≤ x3) → (¬ x1 = 0) → (¬ x1 = 1) → (¬ x1 = 2) → (x1 = 3) → Φ (.inl (some (.int (vX11_triples w a0_1)))) w) (k5 : ((hai w a0_1 40) ≤ x3) → (¬ x1 = 0) → (¬ x1 = 1) → (¬ x1 = 2) → (¬ x1 = 3) → (x1 = 4) → Φ (.inl (some (.int x2))) w) (k6 : ((hai w a0_1 40) ≤ x3) → (¬ x1 = 0) → (¬ x1 = 1) → (¬ x1 = 2) → (¬ x1 = 3) → (¬ x1 = 4) → (x1 = 5) → Φ (.inl (some (.int (hfi w a0 8)))) w) (k7 : ((hai w a0_1 40) ≤ x3) → (¬ x1 = 0) → (¬ x1 = 1) → (¬ x1 = 2) → (¬ x1 = 3) → (¬ x1 = 4) → (¬ x1 = 5) → (x1 = 6) → Φ (.inl (some (.int (hfi w a0 5)))) w) (k8 : ((hai w a0_1 40) ≤ x3) → (¬ x1 = 0) → (¬ x1 = 1) → (¬ x1 = 2) → (¬ x1 = 3) → (¬ x1 = 4) → (¬ x1 = 5) → (¬ x1 = 6) → ((hfi w a0 25) = 0) → Φ (.inl (some (.int 0))) w) (k9 : ((hai w a0_1 40) ≤ x3) → (¬ x1 = 0) → (¬ x1 = 1) → (¬ x1 = 2) → (¬ x1 = 3) → (¬ x1 = 4) → (¬ x1 = 5) → (¬ x1 = 6) → (¬ ((hfi w a0 25) = 0)) → Φ (.inl (some (.int (hfi w a0 26)))) w) (k10 : (¬ ((hai w a0_1 40) ≤ x3)) → mW G mX11_count 3 0 0 34 [(0, .ref a0), (1, .int x1), (2, .int (x2 + (hai w a0_1 (((41 + (3 * x3)) + 1).toNatClampNeg)))), (3, .int (x3 + 1))] [] w Φ) : mW G mX11_count 3 0 0 34 [(0, .ref a0), (1, .int x1), (2, .int x2), (3, .int x3)] [] w Φ := by
  refine mW_iload_n (j := 3) dX11_count_34 rfl rfl ?_
  refine mW_aload_n (j := 0) dX11_count_35 rfl rfl ?_
  refine mW_getR dX11_count_36 f_X11_13 h1 rfl h2 ?_
  refine mW_bipush (v := 40) dX11_count_39 (by decide) ?_
  refine mW_ialdJ dX11_count_41 h3 s1 (j := 40) (by decide) ?_
  refine mW_icmp_ge (tgt := 67) dX11_count_42 (by decide) (fun c1 => ?_) (fun c1 => ?_)
  · refine mW_iload_n (j := 1) dX11_count_67 rfl rfl ?_
    by_cases c2 : x1 = 0
    · refine mW_tabIn (off := 44) (tgt := 112) dX11_count_68 (by rw [c2]; decide) (by rw [c2]; decide) (by rw [c2]; rfl) (by decide) ?_
      refine mW_aload_n (j := 0) dX11_count_112 rfl rfl ?_
      refine mW_getR dX11_count_113 f_X11_13 h1 rfl h2 ?_
      refine mW_bipush (v := 40) dX11_count_116 (by decide) ?_
      refine mW_ialdJ dX11_count_118 h3 s1 (j := 40) (by decide) ?_
      exact mW_iret dX11_count_119 rfl (k1 c1 c2)
    by_cases c3 : x1 = 1
    · refine mW_tabIn (off := 52) (tgt := 120) dX11_count_68 (by rw [c3]; decide) (by rw [c3]; decide) (by rw [c3]; rfl) (by decide) ?_
      refine mW_aload_n (j := 0) dX11_count_120 rfl rfl ?_
      refine mW_getR dX11_count_121 f_X11_13 h1 rfl h2 ?_
      refine mW_bipush (v := 65) dX11_count_124 (by decide) ?_
      refine mW_ialdJ dX11_count_126 h3 s2 (j := 65) (by decide) ?_
      exact mW_iret dX11_count_127 rfl (k2 c1 c2 c3)
    by_cases c4 : x1 = 2
    · refine mW_tabIn (off := 60) (tgt := 128) dX11_count_68 (by rw [c4]; decide) (by rw [c4]; decide) (by rw [c4]; rfl) (by decide) ?_
      refine mW_aload_n (j := 0) dX11_count_128 rfl rfl ?_
      refine mW_callVe (As := []) (rest := []) (kc2 := 0) (ks2 := 0) dX11_count_129 l_X11_99 rfl h1 rfl (by decide) (qX11_points (w := w) (a0 := a0) h1 h2 h3 s3) (Nat.le_of_ble_eq_true rfl) (by decide) rfl rfl ?_
      exact mW_iret dX11_count_132 rfl (k3 c1 c2 c3 c4)
    by_cases c5 : x1 = 3
    · refine mW_tabIn (off := 65) (tgt := 133) dX11_count_68 (by rw [c5]; decide) (by rw [c5]; decide) (by rw [c5]; rfl) (by decide) ?_
      refine mW_aload_n (j := 0) dX11_count_133 rfl rfl ?_
      refine mW_callVe (As := []) (rest := []) (kc2 := 0) (ks2 := 0) dX11_count_134 l_X11_139 rfl h1 rfl (by decide) (qX11_triples (w := w) (a0 := a0) h1 h2 h3 (s4 c1 c2 c3 c4 c5) (s5 c1 c2 c3 c4 c5) (s6 c1 c2 c3 c4 c5)) (Nat.le_of_ble_eq_true rfl) (by decide) rfl rfl ?_
      exact mW_iret dX11_count_137 rfl (k4 c1 c2 c3 c4 c5)
    by_cases c6 : x1 = 4
    · refine mW_tabIn (off := 70) (tgt := 138) dX11_count_68 (by rw [c6]; decide) (by rw [c6]; decide) (by rw [c6]; rfl) (by decide) ?_
      refine mW_iload_n (j := 2) dX11_count_138 rfl rfl ?_
      exact mW_iret dX11_count_139 rfl (k5 c1 c2 c3 c4 c5 c6)
    by_cases c7 : x1 = 5
    · refine mW_tabIn (off := 72) (tgt := 140) dX11_count_68 (by rw [c7]; decide) (by rw [c7]; decide) (by rw [c7]; rfl) (by decide) ?_
      refine mW_aload_n (j := 0) dX11_count_140 rfl rfl ?_
      refine mW_get dX11_count_141 f_X11_146 h1 rfl ?_
      exact mW_iret dX11_count_144 rfl (k6 c1 c2 c3 c4 c5 c6 c7)
    by_cases c8 : x1 = 6
    · refine mW_tabIn (off := 77) (tgt := 145) dX11_count_68 (by rw [c8]; decide) (by rw [c8]; decide) (by rw [c8]; rfl) (by decide) ?_
      refine mW_aload_n (j := 0) dX11_count_145 rfl rfl ?_
      refine mW_get dX11_count_146 f_X11_83 h1 rfl ?_
      exact mW_iret dX11_count_149 rfl (k7 c1 c2 c3 c4 c5 c6 c7 c8)
    refine mW_tabOut (tgt := 150) dX11_count_68 (m_out (lo := 0) (n := 7) (x := x1) (by decide) (by decide) (fun v q1 q2 => (fun z => z.elim (fun e1 e2 => c2 (m_ti (k := 0) (by decide) (e2.trans e1))) (fun z => z.elim (fun e1 e2 => c3 (m_ti (k := 1) (by decide) (e2.trans e1))) (fun z => z.elim (fun e1 e2 => c4 (m_ti (k := 2) (by decide) (e2.trans e1))) (fun z => z.elim (fun e1 e2 => c5 (m_ti (k := 3) (by decide) (e2.trans e1))) (fun z => z.elim (fun e1 e2 => c6 (m_ti (k := 4) (by decide) (e2.trans e1))) (fun z => z.elim (fun e1 e2 => c7 (m_ti (k := 5) (by decide) (e2.trans e1))) (fun e1 e2 => c8 (m_ti (k := 6) (by decide) (e2.trans e1))))))))) (show v = 0 ∨ v = 1 ∨ v = 2 ∨ v = 3 ∨ v = 4 ∨ v = 5 ∨ v = 6 by omega))) (by decide) ?_
    refine mW_aload_n (j := 0) dX11_count_150 rfl rfl ?_
    refine mW_get dX11_count_151 f_X11_235 h1 rfl ?_
    refine mW_if_eq (tgt := 164) dX11_count_154 (by decide) (fun c9 => ?_) (fun c9 => ?_)
    · refine mW_iconst (v := 0) dX11_count_164 (by decide) ?_
      exact mW_iret dX11_count_165 rfl (k8 c1 c2 c3 c4 c5 c6 c7 c8 c9)
    · refine mW_aload_n (j := 0) dX11_count_157 rfl rfl ?_
      refine mW_get dX11_count_158 f_X11_239 h1 rfl ?_
      refine mW_goto (tgt := 165) dX11_count_161 (by decide) ?_
      exact mW_iret dX11_count_165 rfl (k9 c1 c2 c3 c4 c5 c6 c7 c8 c9)
  · refine mW_iload_n (j := 2) dX11_count_45 rfl rfl ?_
    refine mW_aload_n (j := 0) dX11_count_46 rfl rfl ?_
    refine mW_getR dX11_count_47 f_X11_13 h1 rfl h2 ?_
    refine mW_bipush (v := 41) dX11_count_50 (by decide) ?_
    refine mW_iconst (v := 3) dX11_count_52 (by decide) ?_
    refine mW_iload_n (j := 3) dX11_count_53 rfl rfl ?_
    refine mW_imul dX11_count_54 ?_
    refine mW_iadd dX11_count_55 ?_
    refine mW_iconst (v := 1) dX11_count_56 (by decide) ?_
    refine mW_iadd dX11_count_57 ?_
    refine mW_ialdJ dX11_count_58 h3 (s7 c1) rfl ?_
    refine mW_iadd dX11_count_59 ?_
    refine mW_istore_n (lv2 := [(2, .int (x2 + (hai w a0_1 (((41 + (3 * x3)) + 1).toNatClampNeg)))), (0, .ref a0), (1, .int x1), (3, .int x3)]) dX11_count_60 rfl (by decide) rfl ?_
    refine mW_iinc (j := 3) (v := x3 + 1) (lv2 := [(3, .int (x3 + 1)), (2, .int (x2 + (hai w a0_1 (((41 + (3 * x3)) + 1).toNatClampNeg)))), (0, .ref a0), (1, .int x1)]) dX11_count_61 rfl rfl (by decide) rfl ?_
    refine mW_goto (tgt := 34) dX11_count_64 (by decide) ?_
    refine mW_loc [2, 3, 1, 0] (lv2 := [(0, .ref a0), (1, .int x1), (2, .int (x2 + (hai w a0_1 (((41 + (3 * x3)) + 1).toNatClampNeg)))), (3, .int (x3 + 1))]) rfl ?_
    exact k10 c1
abbrev mX11_hold : mM := (yX11_hold, cX11_hold, 2, (some .int), [])
theorem u1588 : (Cond.fieldLink "LineFollowerBenchModel" 271 "LineFollowerBenchModel" "isHeld" "Z" : Cond) ∈ mTs := mTs_in 1588 (by decide +kernel) (by decide +kernel)
theorem p_X11_271 : mPut "LineFollowerBenchModel" 271 11 28 (.boolean) false := ⟨RX11, TX11, 36, "LineFollowerBenchModel", tyX11, rfl, by decide, in_X11, u1588, Or.inl rfl, by decide, tyX11_ok, nmX11, by decide +kernel, rfl, fun h => by cases h⟩
theorem ob_11_28 (w : mH) (a : Nat) (v : Int32) : mOb (sfi w a 28 v) a 11 = (mOb w a 11).set 28 (.int v) := by simp [mOb, hfi_sfi, hfl_sfi, hfr_sfi, up2]
theorem u1589 : (Cond.fieldLink "LineFollowerBenchModel" 274 "LineFollowerBenchModel" "heldSteps" "I" : Cond) ∈ mTs := mTs_in 1589 (by decide +kernel) (by decide +kernel)
theorem p_X11_274 : mPut "LineFollowerBenchModel" 274 11 29 (.int) false := ⟨RX11, TX11, 36, "LineFollowerBenchModel", tyX11, rfl, by decide, in_X11, u1589, Or.inl rfl, by decide, tyX11_ok, nmX11, by decide +kernel, rfl, fun h => by cases h⟩
theorem ob_11_29 (w : mH) (a : Nat) (v : Int32) : mOb (sfi w a 29 v) a 11 = (mOb w a 11).set 29 (.int v) := by simp [mOb, hfi_sfi, hfl_sfi, hfr_sfi, up2]
set_option maxHeartbeats 4000000 in
set_option maxRecDepth 100000 in
theorem gX11_hold_0 {G : mG} {w : mH} {Φ : mF} {a0 : Nat} (h1 : hk w a0 = (11, 0)) (k1 : ((hfi w a0 25) = 0) → ∀ w1 : mH, (w1 = sfi w a0 0 1) → Φ (.inl (some (.int 0))) w1) (k2 : (¬ ((hfi w a0 25) = 0)) → ∀ w2 : mH, (w2 = sfi w a0 0 0) → ∀ w3 : mH, (w3 = sfi w2 a0 28 1) → ∀ w4 : mH, (w4 = sfi w3 a0 29 (hfi w a0 26)) → mW G mX11_hold 1 0 0 40 [(0, .ref a0), (1, .int 0)] [] w4 Φ) : mW G mX11_hold 1 0 0 0 [(0, .ref a0)] [] w Φ := by
  refine mW_aload_n (j := 0) dX11_hold_0 rfl rfl ?_
  refine mW_aload_n (j := 0) dX11_hold_1 rfl rfl ?_
  refine mW_get dX11_hold_2 f_X11_235 h1 rfl ?_
  refine mW_if_eq (tgt := 12) dX11_hold_5 (by decide) (fun c1 => ?_) (fun c1 => ?_)
  · refine mW_iconst (v := 1) dX11_hold_12 (by decide) ?_
    refine mW_put (ty := .int) (w2 := sfi w a0 0 1) dX11_hold_13 p_X11_3 h1 (Nat.le_of_ble_eq_true rfl) (by first | rfl | decide | (repeat' split) <;> rfl) rfl (hN_sfi _ _ _ _) (hk_sfi _ _ _ _) (mE_sfi h1 (by decide) (ob_11_0 _ _ _)) ?_
    refine mW_nm (fun w1 e1 => ?_)
    refine mW_aload_n (j := 0) dX11_hold_16 rfl rfl ?_
    refine mW_getL (v := 1) dX11_hold_17 f_X11_3 (s2k (S2_sfi e1) h1) rfl (by rw [e1, e_hfi_sfi, up2_at]) ?_
    refine mW_if_eq (tgt := 25) dX11_hold_20 (by decide) (fun c => absurd c (by decide)) (fun _ => ?_)
    refine mW_iconst (v := 0) dX11_hold_23 (by decide) ?_
    exact mW_iret dX11_hold_24 rfl (k1 c1 w1 e1)
  · refine mW_iconst (v := 0) dX11_hold_8 (by decide) ?_
    refine mW_goto (tgt := 13) dX11_hold_9 (by decide) ?_
    refine mW_put (ty := .int) (w2 := sfi w a0 0 0) dX11_hold_13 p_X11_3 h1 (Nat.le_of_ble_eq_true rfl) (by first | rfl | decide | (repeat' split) <;> rfl) rfl (hN_sfi _ _ _ _) (hk_sfi _ _ _ _) (mE_sfi h1 (by decide) (ob_11_0 _ _ _)) ?_
    refine mW_nm (fun w2 e2 => ?_)
    refine mW_aload_n (j := 0) dX11_hold_16 rfl rfl ?_
    refine mW_getL (v := 0) dX11_hold_17 f_X11_3 (s2k (S2_sfi e2) h1) rfl (by rw [e2, e_hfi_sfi, up2_at]) ?_
    refine mW_if_eq (tgt := 25) dX11_hold_20 (by decide) (fun _ => ?_) (fun c => absurd (by decide) c)
    refine mW_aload_n (j := 0) dX11_hold_25 rfl rfl ?_
    refine mW_iconst (v := 1) dX11_hold_26 (by decide) ?_
    refine mW_put (ty := .boolean) (w2 := sfi w2 a0 28 1) dX11_hold_27 p_X11_271 (s2k (S2_sfi e2) h1) (Nat.le_of_ble_eq_true rfl) (by first | rfl | decide | (repeat' split) <;> rfl) rfl (hN_sfi _ _ _ _) (hk_sfi _ _ _ _) (mE_sfi (s2k (S2_sfi e2) h1) (by decide) (ob_11_28 _ _ _)) ?_
    refine mW_nm (fun w3 e3 => ?_)
    refine mW_aload_n (j := 0) dX11_hold_30 rfl rfl ?_
    refine mW_aload_n (j := 0) dX11_hold_31 rfl rfl ?_
    refine mW_getL (v := hfi w a0 26) dX11_hold_32 f_X11_239 (s2k (S2_sfi e3) (s2k (S2_sfi e2) h1)) rfl (by rw [e3, e_hfi_sfi, up2_k _ _ _ (by decide), e2, e_hfi_sfi, up2_k _ _ _ (by decide)]) ?_
    refine mW_put (ty := .int) (w2 := sfi w3 a0 29 (hfi w a0 26)) dX11_hold_35 p_X11_274 (s2k (S2_sfi e3) (s2k (S2_sfi e2) h1)) (Nat.le_of_ble_eq_true rfl) (by first | rfl | decide | (repeat' split) <;> rfl) rfl (hN_sfi _ _ _ _) (hk_sfi _ _ _ _) (mE_sfi (s2k (S2_sfi e3) (s2k (S2_sfi e2) h1)) (by decide) (ob_11_29 _ _ _)) ?_
    refine mW_nm (fun w4 e4 => ?_)
    refine mW_iconst (v := 0) dX11_hold_38 (by decide) ?_
    refine mW_istore_n (lv2 := [(1, .int 0), (0, .ref a0)]) dX11_hold_39 rfl (by decide) rfl ?_
    refine mW_loc [1, 0] (lv2 := [(0, .ref a0), (1, .int 0)]) rfl ?_
    exact k2 c1 w2 e2 w3 e3 w4 e4
theorem f_X11_274 : mFld "LineFollowerBenchModel" 274 11 29 := ⟨RX11, TX11, 36, "LineFollowerBenchModel", rfl, by decide, in_X11, u1589, Or.inl rfl, by decide⟩
theorem u1590 : (Cond.fieldLink "LineFollowerBenchModel" 63 "LineFollowerBenchModel" "held" "[I" : Cond) ∈ mTs := mTs_in 1590 (by decide +kernel) (by decide +kernel)
theorem f_X11_63 : mFld "LineFollowerBenchModel" 63 11 30 := ⟨RX11, TX11, 36, "LineFollowerBenchModel", rfl, by decide, in_X11, u1590, Or.inl rfl, by decide⟩
set_option maxHeartbeats 4000000 in
set_option maxRecDepth 100000 in
theorem gX11_hold_40 {G : mG} {w : mH} {Φ : mF} {a0 : Nat} {x1 : Int32} {a0_30 a0_27 n_a0_27 n_a0_30 : Nat} (h1 : hk w a0 = (11, 0)) (h2 : hfr w a0 30 = some a0_30) (h3 : hfr w a0 27 = some a0_27) (h4 : hk w a0_27 = (16, n_a0_27)) (s1 : (¬ ((hfi w a0 26) < x1)) → vp_in x1 n_a0_27) (h5 : hk w a0_30 = (16, n_a0_30)) (s2 : (¬ ((hfi w a0 26) < x1)) → vp_in x1 n_a0_30) (k1 : ((hfi w a0 26) < x1) → Φ (.inl (some (.int (hfi w a0 29)))) w) (k2 : (¬ ((hfi w a0 26) < x1)) → ∀ w1 : mH, (w1 = sai w a0_30 x1.toNatClampNeg (hai w a0_27 x1.toNatClampNeg)) → mW G mX11_hold 1 0 0 40 [(0, .ref a0), (1, .int (x1 + 1))] [] w1 Φ) : mW G mX11_hold 1 0 0 40 [(0, .ref a0), (1, .int x1)] [] w Φ := by
  refine mW_iload_n (j := 1) dX11_hold_40 rfl rfl ?_
  refine mW_aload_n (j := 0) dX11_hold_41 rfl rfl ?_
  refine mW_get dX11_hold_42 f_X11_239 h1 rfl ?_
  refine mW_icmp_gt (tgt := 66) dX11_hold_45 (by decide) (fun c1 => ?_) (fun c1 => ?_)
  · refine mW_aload_n (j := 0) dX11_hold_66 rfl rfl ?_
    refine mW_get dX11_hold_67 f_X11_274 h1 rfl ?_
    exact mW_iret dX11_hold_70 rfl (k1 c1)
  · refine mW_aload_n (j := 0) dX11_hold_48 rfl rfl ?_
    refine mW_getR dX11_hold_49 f_X11_63 h1 rfl h2 ?_
    refine mW_iload_n (j := 1) dX11_hold_52 rfl rfl ?_
    refine mW_aload_n (j := 0) dX11_hold_53 rfl rfl ?_
    refine mW_getR dX11_hold_54 f_X11_60 h1 rfl h3 ?_
    refine mW_iload_n (j := 1) dX11_hold_57 rfl rfl ?_
    refine mW_ialdJ dX11_hold_58 h4 (s1 c1) rfl ?_
    refine mW_iastJ dX11_hold_59 h5 (s2 c1) rfl ?_
    refine mW_nm (fun w1 e1 => ?_)
    refine mW_iinc (j := 1) (v := x1 + 1) (lv2 := [(1, .int (x1 + 1)), (0, .ref a0)]) dX11_hold_60 rfl rfl (by decide) rfl ?_
    refine mW_goto (tgt := 40) dX11_hold_63 (by decide) ?_
    refine mW_loc [1, 0] (lv2 := [(0, .ref a0), (1, .int (x1 + 1))]) rfl ?_
    exact k2 c1 w1 e1
abbrev mX11_apply : mM := (yX11_apply, cX11_apply, 5, (some .int), [])
set_option maxHeartbeats 4000000 in
set_option maxRecDepth 100000 in
theorem gX11_apply_0 {G : mG} {w : mH} {Φ : mF} {a0 : Nat} {x1 : Int32} {c : Nat} {A : Nat → Int32} {a0_31 n_a0_31 : Nat} (h1 : hk w a0 = (11, 0)) (h2 : hfr w a0 31 = some a0_31) (h3 : hk w a0_31 = (20, n_a0_31)) (s1 : vp_in 0 n_a0_31) (h4 : zRef w a0) (s2 : (x1 = 0) → (¬ ((hai w a0_31 0) = 0)) → ∀ w2 : mH, (w2 = sfi w a0 0 0) → hfi w2 a0 5 = nI c) (s3 : (x1 = 0) → (¬ ((hai w a0_31 0) = 0)) → ∀ w2 : mH, (w2 = sfi w a0 0 0) → c ≤ 6) (s4 : vp_in 1 n_a0_31) (s5 : (¬ (x1 = 0)) → (¬ ((hai w a0_31 1) = 0)) → ∀ w5 : mH, (w5 = sfi w a0 0 0) → hfi w5 a0 5 = nI c) (s6 : (¬ (x1 = 0)) → (¬ ((hai w a0_31 1) = 0)) → ∀ w5 : mH, (w5 = sfi w a0 0 0) → c ≤ 6) (k1 : (x1 = 0) → ((hai w a0_31 0) = 0) → ∀ w1 : mH, (w1 = sfi w a0 0 1) → Φ (.inl (some (.int 0))) w1) (k2 : (x1 = 0) → (¬ ((hai w a0_31 0) = 0)) → ∀ w2 : mH, (w2 = sfi w a0 0 0) → ∀ w3 : mH, (kpO w2 w3 a0 c) → mW G mX11_apply 4 0 0 46 [(0, .ref a0), (1, .int x1), (2, .int 0), (3, .int 0), (4, .int 0)] [] w3 Φ) (k3 : (¬ (x1 = 0)) → ((hai w a0_31 1) = 0) → ∀ w4 : mH, (w4 = sfi w a0 0 1) → Φ (.inl (some (.int 0))) w4) (k4 : (¬ (x1 = 0)) → (¬ ((hai w a0_31 1) = 0)) → ∀ w5 : mH, (w5 = sfi w a0 0 0) → ∀ w6 : mH, (kpO w5 w6 a0 c) → mW G mX11_apply 4 0 0 46 [(0, .ref a0), (1, .int x1), (2, .int 1), (3, .int 0), (4, .int 0)] [] w6 Φ) : mW G mX11_apply 4 0 0 0 [(0, .ref a0), (1, .int x1)] [] w Φ := by
  refine mW_iload_n (j := 1) dX11_apply_0 rfl rfl ?_
  refine mW_if_eq (tgt := 8) dX11_apply_1 (by decide) (fun c1 => ?_) (fun c1 => ?_)
  · refine mW_iconst (v := 0) dX11_apply_8 (by decide) ?_
    refine mW_istore_n (lv2 := [(2, .int 0), (0, .ref a0), (1, .int x1)]) dX11_apply_9 rfl (by decide) rfl ?_
    refine mW_aload_n (j := 1) dX11_apply_10 rfl rfl ?_
    refine mW_aload_n (j := 1) dX11_apply_11 rfl rfl ?_
    refine mW_getR dX11_apply_12 f_X11_66 h1 rfl h2 ?_
    refine mW_iload_n (j := 0) dX11_apply_15 rfl rfl ?_
    refine mW_zaldJ dX11_apply_16 h3 s1 (j := 0) (by decide) ?_
    refine mW_if_eq (tgt := 24) dX11_apply_17 (by decide) (fun c2 => ?_) (fun c2 => ?_)
    · refine mW_iconst (v := 1) dX11_apply_24 (by decide) ?_
      refine mW_put (ty := .int) (w2 := sfi w a0 0 1) dX11_apply_25 p_X11_3 h1 (Nat.le_of_ble_eq_true rfl) (by first | rfl | decide | (repeat' split) <;> rfl) rfl (hN_sfi _ _ _ _) (hk_sfi _ _ _ _) (mE_sfi h1 (by decide) (ob_11_0 _ _ _)) ?_
      refine mW_nm (fun w1 e1 => ?_)
      refine mW_aload_n (j := 1) dX11_apply_28 rfl rfl ?_
      refine mW_getL (v := 1) dX11_apply_29 f_X11_3 (s2k (S2_sfi e1) h1) rfl (by rw [e1, e_hfi_sfi, up2_at]) ?_
      refine mW_if_eq (tgt := 37) dX11_apply_32 (by decide) (fun c => absurd c (by decide)) (fun _ => ?_)
      refine mW_iconst (v := 0) dX11_apply_35 (by decide) ?_
      exact mW_iret dX11_apply_36 rfl (k1 c1 c2 w1 e1)
    · refine mW_iconst (v := 0) dX11_apply_20 (by decide) ?_
      refine mW_goto (tgt := 25) dX11_apply_21 (by decide) ?_
      refine mW_put (ty := .int) (w2 := sfi w a0 0 0) dX11_apply_25 p_X11_3 h1 (Nat.le_of_ble_eq_true rfl) (by first | rfl | decide | (repeat' split) <;> rfl) rfl (hN_sfi _ _ _ _) (hk_sfi _ _ _ _) (mE_sfi h1 (by decide) (ob_11_0 _ _ _)) ?_
      refine mW_nm (fun w2 e2 => ?_)
      refine mW_aload_n (j := 1) dX11_apply_28 rfl rfl ?_
      refine mW_getL (v := 0) dX11_apply_29 f_X11_3 (s2k (S2_sfi e2) h1) rfl (by rw [e2, e_hfi_sfi, up2_at]) ?_
      refine mW_if_eq (tgt := 37) dX11_apply_32 (by decide) (fun _ => ?_) (fun c => absurd (by decide) c)
      refine mW_aload_n (j := 1) dX11_apply_37 rfl rfl ?_
      refine mW_callV (As := []) (rest := []) (kc2 := 0) (ks2 := 0) dX11_apply_38 l_X11_96 rfl (s2k (S2_sfi e2) h1) rfl (by decide) (rX11_keeps (w := w2) (a0 := a0) (zRef_s2 (S2_sfi e2) h4) (s2 c1 c2 w2 e2) (s3 c1 c2 w2 e2)) (Nat.le_of_ble_eq_true rfl) (by decide) rfl rfl mP_x (mP_k (fun w3 q1 => ?_))
      refine mW_iconst (v := 0) dX11_apply_41 (by decide) ?_
      refine mW_istore_n (lv2 := [(3, .int 0), (2, .int 0), (0, .ref a0), (1, .int x1)]) dX11_apply_42 rfl (by decide) rfl ?_
      refine mW_iconst (v := 0) dX11_apply_43 (by decide) ?_
      refine mW_istore (lv2 := [(4, .int 0), (3, .int 0), (2, .int 0), (0, .ref a0), (1, .int x1)]) dX11_apply_44 (by decide) rfl ?_
      refine mW_loc [3, 4, 2, 1, 0] (lv2 := [(0, .ref a0), (1, .int x1), (2, .int 0), (3, .int 0), (4, .int 0)]) rfl ?_
      exact k2 c1 c2 w2 e2 w3 q1
  · refine mW_iconst (v := 1) dX11_apply_4 (by decide) ?_
    refine mW_goto (tgt := 9) dX11_apply_5 (by decide) ?_
    refine mW_istore_n (lv2 := [(2, .int 1), (0, .ref a0), (1, .int x1)]) dX11_apply_9 rfl (by decide) rfl ?_
    refine mW_aload_n (j := 1) dX11_apply_10 rfl rfl ?_
    refine mW_aload_n (j := 1) dX11_apply_11 rfl rfl ?_
    refine mW_getR dX11_apply_12 f_X11_66 h1 rfl h2 ?_
    refine mW_iload_n (j := 0) dX11_apply_15 rfl rfl ?_
    refine mW_zaldJ dX11_apply_16 h3 s4 (j := 1) (by decide) ?_
    refine mW_if_eq (tgt := 24) dX11_apply_17 (by decide) (fun c3 => ?_) (fun c3 => ?_)
    · refine mW_iconst (v := 1) dX11_apply_24 (by decide) ?_
      refine mW_put (ty := .int) (w2 := sfi w a0 0 1) dX11_apply_25 p_X11_3 h1 (Nat.le_of_ble_eq_true rfl) (by first | rfl | decide | (repeat' split) <;> rfl) rfl (hN_sfi _ _ _ _) (hk_sfi _ _ _ _) (mE_sfi h1 (by decide) (ob_11_0 _ _ _)) ?_
      refine mW_nm (fun w4 e3 => ?_)
      refine mW_aload_n (j := 1) dX11_apply_28 rfl rfl ?_
      refine mW_getL (v := 1) dX11_apply_29 f_X11_3 (s2k (S2_sfi e3) h1) rfl (by rw [e3, e_hfi_sfi, up2_at]) ?_
      refine mW_if_eq (tgt := 37) dX11_apply_32 (by decide) (fun c => absurd c (by decide)) (fun _ => ?_)
      refine mW_iconst (v := 0) dX11_apply_35 (by decide) ?_
      exact mW_iret dX11_apply_36 rfl (k3 c1 c3 w4 e3)
    · refine mW_iconst (v := 0) dX11_apply_20 (by decide) ?_
      refine mW_goto (tgt := 25) dX11_apply_21 (by decide) ?_
      refine mW_put (ty := .int) (w2 := sfi w a0 0 0) dX11_apply_25 p_X11_3 h1 (Nat.le_of_ble_eq_true rfl) (by first | rfl | decide | (repeat' split) <;> rfl) rfl (hN_sfi _ _ _ _) (hk_sfi _ _ _ _) (mE_sfi h1 (by decide) (ob_11_0 _ _ _)) ?_
      refine mW_nm (fun w5 e4 => ?_)
      refine mW_aload_n (j := 1) dX11_apply_28 rfl rfl ?_
      refine mW_getL (v := 0) dX11_apply_29 f_X11_3 (s2k (S2_sfi e4) h1) rfl (by rw [e4, e_hfi_sfi, up2_at]) ?_
      refine mW_if_eq (tgt := 37) dX11_apply_32 (by decide) (fun _ => ?_) (fun c => absurd (by decide) c)
      refine mW_aload_n (j := 1) dX11_apply_37 rfl rfl ?_
      refine mW_callV (As := []) (rest := []) (kc2 := 0) (ks2 := 0) dX11_apply_38 l_X11_96 rfl (s2k (S2_sfi e4) h1) rfl (by decide) (rX11_keeps (w := w5) (a0 := a0) (zRef_s2 (S2_sfi e4) h4) (s5 c1 c3 w5 e4) (s6 c1 c3 w5 e4)) (Nat.le_of_ble_eq_true rfl) (by decide) rfl rfl mP_x (mP_k (fun w6 q2 => ?_))
      refine mW_iconst (v := 0) dX11_apply_41 (by decide) ?_
      refine mW_istore_n (lv2 := [(3, .int 0), (2, .int 1), (0, .ref a0), (1, .int x1)]) dX11_apply_42 rfl (by decide) rfl ?_
      refine mW_iconst (v := 0) dX11_apply_43 (by decide) ?_
      refine mW_istore (lv2 := [(4, .int 0), (3, .int 0), (2, .int 1), (0, .ref a0), (1, .int x1)]) dX11_apply_44 (by decide) rfl ?_
      refine mW_loc [3, 4, 2, 1, 0] (lv2 := [(0, .ref a0), (1, .int x1), (2, .int 1), (3, .int 0), (4, .int 0)]) rfl ?_
      exact k4 c1 c3 w5 e4 w6 q2
set_option maxHeartbeats 4000000 in
set_option maxRecDepth 100000 in
theorem gX11_apply_46 {G : mG} {w : mH} {Φ : mF} {a0 : Nat} {x1 x2 x3 x4 : Int32} {c : Nat} {A : Nat → Int32} {a0_1 n_a0_1 a0_32 n_a0_32 : Nat} (h1 : hk w a0 = (11, 0)) (h2 : hfr w a0 1 = some a0_1) (h3 : hk w a0_1 = (16, n_a0_1)) (s1 : (¬ (3 ≤ x4)) → vp_in x4 n_a0_1) (h4 : hfr w a0 32 = some a0_32) (h5 : hk w a0_32 = (16, n_a0_32)) (s2 : (¬ (3 ≤ x4)) → vp_in ((3 * x2) + x4) n_a0_32) (k1 : (3 ≤ x4) → Φ (.inl (some (.int x3))) w) (k2 : (¬ (3 ≤ x4)) → (¬ ((hai w a0_1 x4.toNatClampNeg) = (hai w a0_32 (((3 * x2) + x4).toNatClampNeg)))) → ∀ w1 : mH, (w1 = sai w a0_1 x4.toNatClampNeg (hai w a0_32 (((3 * x2) + x4).toNatClampNeg))) → mW G mX11_apply 4 0 0 46 [(0, .ref a0), (1, .int x1), (2, .int x2), (3, .int (x3 + 1)), (4, .int (x4 + 1))] [] w1 Φ) (k3 : (¬ (3 ≤ x4)) → ((hai w a0_1 x4.toNatClampNeg) = (hai w a0_32 (((3 * x2) + x4).toNatClampNeg))) → ∀ w2 : mH, (w2 = sai w a0_1 x4.toNatClampNeg (hai w a0_32 (((3 * x2) + x4).toNatClampNeg))) → mW G mX11_apply 4 0 0 46 [(0, .ref a0), (1, .int x1), (2, .int x2), (3, .int (x3 + 0)), (4, .int (x4 + 1))] [] w2 Φ) : mW G mX11_apply 4 0 0 46 [(0, .ref a0), (1, .int x1), (2, .int x2), (3, .int x3), (4, .int x4)] [] w Φ := by
  refine mW_iload (j := 4) dX11_apply_46 rfl ?_
  refine mW_iconst (v := 3) dX11_apply_48 (by decide) ?_
  refine mW_icmp_ge (tgt := 105) dX11_apply_49 (by decide) (fun c1 => ?_) (fun c1 => ?_)
  · refine mW_iload_n (j := 3) dX11_apply_105 rfl rfl ?_
    exact mW_iret dX11_apply_106 rfl (k1 c1)
  · refine mW_iload_n (j := 3) dX11_apply_52 rfl rfl ?_
    refine mW_aload_n (j := 0) dX11_apply_53 rfl rfl ?_
    refine mW_getR dX11_apply_54 f_X11_13 h1 rfl h2 ?_
    refine mW_iload (j := 4) dX11_apply_57 rfl ?_
    refine mW_ialdJ dX11_apply_59 h3 (s1 c1) rfl ?_
    refine mW_aload_n (j := 0) dX11_apply_60 rfl rfl ?_
    refine mW_getR dX11_apply_61 f_X11_70 h1 rfl h4 ?_
    refine mW_iconst (v := 3) dX11_apply_64 (by decide) ?_
    refine mW_iload_n (j := 2) dX11_apply_65 rfl rfl ?_
    refine mW_imul dX11_apply_66 ?_
    refine mW_iload (j := 4) dX11_apply_67 rfl ?_
    refine mW_iadd dX11_apply_69 ?_
    refine mW_ialdJ dX11_apply_70 h5 (s2 c1) rfl ?_
    refine mW_icmp_ne (tgt := 78) dX11_apply_71 (by decide) (fun c2 => ?_) (fun c2 => ?_)
    · refine mW_iconst (v := 1) dX11_apply_78 (by decide) ?_
      refine mW_iadd dX11_apply_79 ?_
      refine mW_istore_n (lv2 := [(3, .int (x3 + 1)), (0, .ref a0), (1, .int x1), (2, .int x2), (4, .int x4)]) dX11_apply_80 rfl (by decide) rfl ?_
      refine mW_aload_n (j := 1) dX11_apply_81 rfl rfl ?_
      refine mW_getR dX11_apply_82 f_X11_13 h1 rfl h2 ?_
      refine mW_iload (j := 4) dX11_apply_85 rfl ?_
      refine mW_aload_n (j := 1) dX11_apply_87 rfl rfl ?_
      refine mW_getR dX11_apply_88 f_X11_70 h1 rfl h4 ?_
      refine mW_iconst (v := 3) dX11_apply_91 (by decide) ?_
      refine mW_iload_n (j := 3) dX11_apply_92 rfl rfl ?_
      refine mW_imul dX11_apply_93 ?_
      refine mW_iload (j := 4) dX11_apply_94 rfl ?_
      refine mW_iadd dX11_apply_96 ?_
      refine mW_ialdJ dX11_apply_97 h5 (s2 c1) rfl ?_
      refine mW_iastJ dX11_apply_98 h3 (s1 c1) rfl ?_
      refine mW_nm (fun w1 e1 => ?_)
      refine mW_iinc (j := 4) (v := x4 + 1) (lv2 := [(4, .int (x4 + 1)), (3, .int (x3 + 1)), (0, .ref a0), (1, .int x1), (2, .int x2)]) dX11_apply_99 rfl rfl (by decide) rfl ?_
      refine mW_goto (tgt := 46) dX11_apply_102 (by decide) ?_
      refine mW_loc [2, 3, 4, 1, 0] (lv2 := [(0, .ref a0), (1, .int x1), (2, .int x2), (3, .int (x3 + 1)), (4, .int (x4 + 1))]) rfl ?_
      exact k2 c1 c2 w1 e1
    · refine mW_iconst (v := 0) dX11_apply_74 (by decide) ?_
      refine mW_goto (tgt := 79) dX11_apply_75 (by decide) ?_
      refine mW_iadd dX11_apply_79 ?_
      refine mW_istore_n (lv2 := [(3, .int (x3 + 0)), (0, .ref a0), (1, .int x1), (2, .int x2), (4, .int x4)]) dX11_apply_80 rfl (by decide) rfl ?_
      refine mW_aload_n (j := 1) dX11_apply_81 rfl rfl ?_
      refine mW_getR dX11_apply_82 f_X11_13 h1 rfl h2 ?_
      refine mW_iload (j := 4) dX11_apply_85 rfl ?_
      refine mW_aload_n (j := 1) dX11_apply_87 rfl rfl ?_
      refine mW_getR dX11_apply_88 f_X11_70 h1 rfl h4 ?_
      refine mW_iconst (v := 3) dX11_apply_91 (by decide) ?_
      refine mW_iload_n (j := 3) dX11_apply_92 rfl rfl ?_
      refine mW_imul dX11_apply_93 ?_
      refine mW_iload (j := 4) dX11_apply_94 rfl ?_
      refine mW_iadd dX11_apply_96 ?_
      refine mW_ialdJ dX11_apply_97 h5 (s2 c1) rfl ?_
      refine mW_iastJ dX11_apply_98 h3 (s1 c1) rfl ?_
      refine mW_nm (fun w2 e2 => ?_)
      refine mW_iinc (j := 4) (v := x4 + 1) (lv2 := [(4, .int (x4 + 1)), (3, .int (x3 + 0)), (0, .ref a0), (1, .int x1), (2, .int x2)]) dX11_apply_99 rfl rfl (by decide) rfl ?_
      refine mW_goto (tgt := 46) dX11_apply_102 (by decide) ?_
      refine mW_loc [2, 3, 4, 1, 0] (lv2 := [(0, .ref a0), (1, .int x1), (2, .int x2), (3, .int (x3 + 0)), (4, .int (x4 + 1))]) rfl ?_
      exact k3 c1 c2 w2 e2
/-! the reference: count, hold, apply -/
def ctV (w : mH) (a0 : Nat) (x1 : Int32) : Int32 := if x1 = 0 then hai w (a0 + 1) 40 else if x1 = 1 then hai w (a0 + 1) 65 else if x1 = 2 then hai w (a0 + 1) 29 else if x1 = 3 then vX11_triples w (a0 + 1) else if x1 = 4 then fLen (rL (hai w (a0 + 1))) (nSg (hai w (a0 + 1))) else if x1 = 5 then hfi w a0 8 else if x1 = 6 then hfi w a0 5 else if hfi w a0 25 = 0 then 0 else hfi w a0 26
theorem count_loop {G : mG} {w : mH} {a0 : Nat} {x1 : Int32} (z : zRef w a0) (hB : cntOK (hai w (a0 + 1))) : ∀ j k, k + j = nSg (hai w (a0 + 1)) → mW G mX11_count 3 0 0 34 [(0, .ref a0), (1, .int x1), (2, .int (fLen (rL (hai w (a0 + 1))) k)), (3, .int (nI k))] [] w (mEq (.inl (some (.int (ctV w a0 x1)))) w) := by
  intro j
  have h8 := hB.2.1
  induction j with
  | zero =>
    intro k hk
    have cn : hai w (a0 + 1) 40 ≤ nI k ↔ nSg (hai w (a0 + 1)) ≤ k := by rw [hB.1]; exact m_le (by omega) (by omega)
    have hk' : k = nSg (hai w (a0 + 1)) := by omega
    subst hk'
    refine gX11_count_34 (a0_1 := a0 + 1) z.1 z.2.1 z.2.2.2.2.2.2.2.2.2.2.2.2.2.2.2.2.2.2.2.2.2.2.1 (by intros; unfold vp_in; decide) (by intros; unfold vp_in; decide) (by intros; unfold vp_in; decide) (by intro c1 c2 c3 c4 c5; unfold vp_in; decide) (by intro c1 c2 c3 c4 c5; unfold vp_in; decide) (by intro c1 c2 c3 c4 c5; unfold vp_in; decide) (by intro c1; rw [m_41, nI_1]; exact m_vp (by rw [cn] at c1; omega) (by decide)) ?_ ?_ ?_ ?_ ?_ ?_ ?_ ?_ ?_ ?_
    · intro c1 c2
      have e : ctV w a0 x1 = (hai w (a0 + 1) 40) := by unfold ctV; rw [if_pos c2]
      rw [e]
      exact mEq_rf
    · intro c1 c2 c3
      have e : ctV w a0 x1 = (hai w (a0 + 1) 65) := by unfold ctV; rw [if_neg c2, if_pos c3]
      rw [e]
      exact mEq_rf
    · intro c1 c2 c3 c4
      have e : ctV w a0 x1 = (hai w (a0 + 1) 29) := by unfold ctV; rw [if_neg c2, if_neg c3, if_pos c4]
      rw [e]
      exact mEq_rf
    · intro c1 c2 c3 c4 c5
      have e : ctV w a0 x1 = (vX11_triples w (a0 + 1)) := by unfold ctV; rw [if_neg c2, if_neg c3, if_neg c4, if_pos c5]
      rw [e]
      exact mEq_rf
    · intro c1 c2 c3 c4 c5 c6
      have e : ctV w a0 x1 = fLen (rL (hai w (a0 + 1))) (nSg (hai w (a0 + 1))) := by unfold ctV; rw [if_neg c2, if_neg c3, if_neg c4, if_neg c5, if_pos c6]
      rw [e]
      exact mEq_rf
    · intro c1 c2 c3 c4 c5 c6 c7
      have e : ctV w a0 x1 = (hfi w a0 8) := by unfold ctV; rw [if_neg c2, if_neg c3, if_neg c4, if_neg c5, if_neg c6, if_pos c7]
      rw [e]
      exact mEq_rf
    · intro c1 c2 c3 c4 c5 c6 c7 c8
      have e : ctV w a0 x1 = (hfi w a0 5) := by unfold ctV; rw [if_neg c2, if_neg c3, if_neg c4, if_neg c5, if_neg c6, if_neg c7, if_pos c8]
      rw [e]
      exact mEq_rf
    · intro c1 c2 c3 c4 c5 c6 c7 c8 c9
      have e : ctV w a0 x1 = 0 := by unfold ctV; rw [if_neg c2, if_neg c3, if_neg c4, if_neg c5, if_neg c6, if_neg c7, if_neg c8, if_pos c9]
      rw [e]
      exact mEq_rf
    · intro c1 c2 c3 c4 c5 c6 c7 c8 c9
      have e : ctV w a0 x1 = (hfi w a0 26) := by unfold ctV; rw [if_neg c2, if_neg c3, if_neg c4, if_neg c5, if_neg c6, if_neg c7, if_neg c8, if_neg c9]
      rw [e]
      exact mEq_rf
    · intro c1
      rw [cn] at c1; omega
  | succ j ih =>
    intro k hk
    have cn : hai w (a0 + 1) 40 ≤ nI k ↔ nSg (hai w (a0 + 1)) ≤ k := by rw [hB.1]; exact m_le (by omega) (by omega)
    refine gX11_count_34 (a0_1 := a0 + 1) z.1 z.2.1 z.2.2.2.2.2.2.2.2.2.2.2.2.2.2.2.2.2.2.2.2.2.2.1 (by intros; unfold vp_in; decide) (by intros; unfold vp_in; decide) (by intros; unfold vp_in; decide) (by intro c1 c2 c3 c4 c5; unfold vp_in; decide) (by intro c1 c2 c3 c4 c5; unfold vp_in; decide) (by intro c1 c2 c3 c4 c5; unfold vp_in; decide) (by intro c1; rw [m_41, nI_1]; exact m_vp (by rw [cn] at c1; omega) (by decide)) ?_ ?_ ?_ ?_ ?_ ?_ ?_ ?_ ?_ ?_
    · intro c1 c2
      rw [cn] at c1; omega
    · intro c1 c2 c3
      rw [cn] at c1; omega
    · intro c1 c2 c3 c4
      rw [cn] at c1; omega
    · intro c1 c2 c3 c4 c5
      rw [cn] at c1; omega
    · intro c1 c2 c3 c4 c5 c6
      rw [cn] at c1; omega
    · intro c1 c2 c3 c4 c5 c6 c7
      rw [cn] at c1; omega
    · intro c1 c2 c3 c4 c5 c6 c7 c8
      rw [cn] at c1; omega
    · intro c1 c2 c3 c4 c5 c6 c7 c8 c9
      rw [cn] at c1; omega
    · intro c1 c2 c3 c4 c5 c6 c7 c8 c9
      rw [cn] at c1; omega
    · intro c1
      rw [m_41, nI_1, m_cl (by omega), nI_1]
      exact ih (k + 1) (by omega)
theorem rX11_count {G : mG} {w : mH} {a0 : Nat} {x1 : Int32} (z : zRef w a0) (hB : cntOK (hai w (a0 + 1))) : mC G mX11_count 3 0 0 [.ref a0, .int x1] w (mEq (.inl (some (.int (if vX11_in x1.toInt64 0 7 = 0 then 0 else ctV w a0 x1)))) (sfi w a0 0 (if vX11_in x1.toInt64 0 7 = 0 then 1 else 0))) := by
  refine mC_of (by decide +kernel) rfl (Nat.le_of_ble_eq_true rfl) rfl ?_
  refine gX11_count_0 z.1 ?_ ?_
  · intro c1 w1 e1
    rw [if_pos c1, if_pos c1, e1]
    exact ⟨rfl, rfl⟩
  · intro c1 w2 e2
    rw [if_neg c1, if_neg c1]
    have z2 : zRef w2 a0 := by rw [e2]; exact z
    have hB2 : cntOK (hai w2 (a0 + 1)) := by rw [e2]; exact hB
    have ev : ctV w2 a0 x1 = ctV w a0 x1 := by
      rw [e2]
      unfold ctV
      rw [e_hfi_sfi, up2_k _ _ _ (by decide), up2_k _ _ _ (by decide), up2_k _ _ _ (by decide), up2_k _ _ _ (by decide)]
      rfl
    have := count_loop (x1 := x1) (G := G) z2 hB2 (nSg (hai w2 (a0 + 1))) 0 (by omega)
    rw [ev] at this
    rw [← e2]
    exact this

