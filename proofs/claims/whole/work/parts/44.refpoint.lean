def ptOK (A : Nat → Int32) : Prop := A 29 = nI (nPt A) ∧ nPt A ≤ 5
theorem qX11_pointAt' {G : mG} {w : mH} {a0 : Nat} {x1 : Int32} (z : zRef w a0) (h : ptOK (hai w (a0 + 1))) : mC G mX11_pointAt 2 0 0 [.ref a0, .int x1] w (mEq (.inl (some (.int (fAt (hai w (a0 + 1)) x1)))) w) := qX11_pointAt ⟨z.1, z.2.1, z.2.2.2.2.2.2.2.2.2.2.2.2.2.2.2.2.2.2.2.2.2.2.1⟩ h.1 h.2

abbrev mX11_setPoint : mM := (yX11_setPoint, cX11_setPoint, 4, (some .int), [])
theorem u1694 : (Cond.constantLong "LineFollowerBenchModel" 107 (-10000) : Cond) ∈ mTs := mTs_in 1694 (by decide +kernel) (by decide +kernel)
theorem u1695 : (Cond.constantLong "LineFollowerBenchModel" 109 10000 : Cond) ∈ mTs := mTs_in 1695 (by decide +kernel) (by decide +kernel)
theorem u1696 : (Cond.constantLong "LineFollowerBenchModel" 111 (-1000) : Cond) ∈ mTs := mTs_in 1696 (by decide +kernel) (by decide +kernel)
theorem u1697 : (Cond.constantLong "LineFollowerBenchModel" 113 1000 : Cond) ∈ mTs := mTs_in 1697 (by decide +kernel) (by decide +kernel)
theorem u1701 : (Cond.code ⟨"LineFollowerBenchModel", "pointAt", "(I)I"⟩ prog_13_method_14_code 3 (some .int) : Cond) ∈ mTs := mTs_in 1701 (by decide +kernel) (by decide +kernel)
theorem co_X11_pointAt : mCode mX11_pointAt := ⟨u1701, u85, by decide⟩
theorem u1698 : (Cond.methodLink "LineFollowerBenchModel" 115 ⟨"LineFollowerBenchModel", "pointAt", "(I)I"⟩ : Cond) ∈ mTs := mTs_in 1698 (by decide +kernel) (by decide +kernel)
theorem u1700 : (Cond.instanceMethod ⟨"LineFollowerBenchModel", "pointAt", "(I)I"⟩ : Cond) ∈ mTs := mTs_in 1700 (by decide +kernel) (by decide +kernel)
theorem u39 : (Cond.selects "LineFollowerBenchModel" ⟨"LineFollowerBenchModel", "pointAt", "(I)I"⟩ ⟨"LineFollowerBenchModel", "pointAt", "(I)I"⟩ : Cond) ∈ mTs := mTs_in 39 (by decide +kernel) (by decide +kernel)
theorem l_X11_115 : mLinkV "LineFollowerBenchModel" 115 1 mX11_pointAt := ⟨⟨by decide, by decide, by decide +kernel⟩, co_X11_pointAt, u1698, u1700, u39⟩
set_option maxHeartbeats 4000000 in
set_option maxRecDepth 100000 in
theorem gX11_setPoint_0 {G : mG} {w : mH} {Φ : mF} {a0 : Nat} {x1 x2 : Int32} {c : Nat} {A : Nat → Int32} {a0_1 n_a0_1 : Nat} (h1 : hk w a0 = (11, 0)) (h2 : zRef w a0) (s1 : (¬ ((vX11_in x1.toInt64 (-10000) 10000) = 0)) → (¬ ((vX11_in x2.toInt64 (-1000) 1000) = 0)) → ptOK (hai w (a0 + 1))) (s2 : (¬ ((vX11_in x1.toInt64 (-10000) 10000) = 0)) → (¬ ((vX11_in x2.toInt64 (-1000) 1000) = 0)) → (0 ≤ (fAt (hai w (a0 + 1)) x1)) → ∀ w2 : mH, (w2 = sfi w a0 0 0) → hfi w2 a0 5 = nI c) (s3 : (¬ ((vX11_in x1.toInt64 (-10000) 10000) = 0)) → (¬ ((vX11_in x2.toInt64 (-1000) 1000) = 0)) → (0 ≤ (fAt (hai w (a0 + 1)) x1)) → ∀ w2 : mH, (w2 = sfi w a0 0 0) → c ≤ 6) (s4 : (¬ ((vX11_in x1.toInt64 (-10000) 10000) = 0)) → (¬ ((vX11_in x2.toInt64 (-1000) 1000) = 0)) → (0 ≤ (fAt (hai w (a0 + 1)) x1)) → ∀ w2 : mH, (w2 = sfi w a0 0 0) → ∀ w3 : mH, (kpO w2 w3 a0 c) → ptOK (hai w3 (a0 + 1))) (h3 : hfr w a0 1 = some a0_1) (h4 : hk w a0_1 = (16, n_a0_1)) (s5 : (¬ ((vX11_in x1.toInt64 (-10000) 10000) = 0)) → (¬ ((vX11_in x2.toInt64 (-1000) 1000) = 0)) → (0 ≤ (fAt (hai w (a0 + 1)) x1)) → ∀ w2 : mH, (w2 = sfi w a0 0 0) → ∀ w3 : mH, (kpO w2 w3 a0 c) → (0 ≤ (fAt (hai w3 (a0 + 1)) x1)) → vp_in (30 + (2 * (fAt (hai w3 (a0 + 1)) x1))) n_a0_1) (s6 : (¬ ((vX11_in x1.toInt64 (-10000) 10000) = 0)) → (¬ ((vX11_in x2.toInt64 (-1000) 1000) = 0)) → (0 ≤ (fAt (hai w (a0 + 1)) x1)) → ∀ w2 : mH, (w2 = sfi w a0 0 0) → ∀ w3 : mH, (kpO w2 w3 a0 c) → (0 ≤ (fAt (hai w3 (a0 + 1)) x1)) → ∀ w4 : mH, (w4 = sai w3 a0_1 ((30 + (2 * (fAt (hai w3 (a0 + 1)) x1))).toNatClampNeg) x1) → vp_in ((30 + (2 * (fAt (hai w3 (a0 + 1)) x1))) + 1) n_a0_1) (s7 : vp_in 29 n_a0_1) (s8 : vp_in 29 n_a0_1) (s9 : vp_in 29 n_a0_1) (s10 : (¬ ((vX11_in x1.toInt64 (-10000) 10000) = 0)) → (¬ ((vX11_in x2.toInt64 (-1000) 1000) = 0)) → (¬ (0 ≤ (fAt (hai w (a0 + 1)) x1))) → (¬ ((hai w a0_1 29) = 5)) → ∀ w7 : mH, (w7 = sfi w a0 0 0) → hfi w7 a0 5 = nI c) (s11 : (¬ ((vX11_in x1.toInt64 (-10000) 10000) = 0)) → (¬ ((vX11_in x2.toInt64 (-1000) 1000) = 0)) → (¬ (0 ≤ (fAt (hai w (a0 + 1)) x1))) → (¬ ((hai w a0_1 29) = 5)) → ∀ w7 : mH, (w7 = sfi w a0 0 0) → c ≤ 6) (s12 : (¬ ((vX11_in x1.toInt64 (-10000) 10000) = 0)) → (¬ ((vX11_in x2.toInt64 (-1000) 1000) = 0)) → (¬ (0 ≤ (fAt (hai w (a0 + 1)) x1))) → (¬ ((hai w a0_1 29) = 5)) → ∀ w7 : mH, (w7 = sfi w a0 0 0) → ∀ w8 : mH, (kpO w7 w8 a0 c) → ptOK (hai w8 (a0 + 1))) (s13 : (¬ ((vX11_in x1.toInt64 (-10000) 10000) = 0)) → (¬ ((vX11_in x2.toInt64 (-1000) 1000) = 0)) → (¬ (0 ≤ (fAt (hai w (a0 + 1)) x1))) → (¬ ((hai w a0_1 29) = 5)) → ∀ w7 : mH, (w7 = sfi w a0 0 0) → ∀ w8 : mH, (kpO w7 w8 a0 c) → (0 ≤ (fAt (hai w8 (a0 + 1)) x1)) → vp_in (30 + (2 * (fAt (hai w8 (a0 + 1)) x1))) n_a0_1) (s14 : (¬ ((vX11_in x1.toInt64 (-10000) 10000) = 0)) → (¬ ((vX11_in x2.toInt64 (-1000) 1000) = 0)) → (¬ (0 ≤ (fAt (hai w (a0 + 1)) x1))) → (¬ ((hai w a0_1 29) = 5)) → ∀ w7 : mH, (w7 = sfi w a0 0 0) → ∀ w8 : mH, (kpO w7 w8 a0 c) → (0 ≤ (fAt (hai w8 (a0 + 1)) x1)) → ∀ w9 : mH, (w9 = sai w8 a0_1 ((30 + (2 * (fAt (hai w8 (a0 + 1)) x1))).toNatClampNeg) x1) → vp_in ((30 + (2 * (fAt (hai w8 (a0 + 1)) x1))) + 1) n_a0_1) (k1 : ((vX11_in x1.toInt64 (-10000) 10000) = 0) → ∀ w1 : mH, (w1 = sfi w a0 0 1) → Φ (.inl (some (.int 0))) w1) (k2 : (¬ ((vX11_in x1.toInt64 (-10000) 10000) = 0)) → (¬ ((vX11_in x2.toInt64 (-1000) 1000) = 0)) → (0 ≤ (fAt (hai w (a0 + 1)) x1)) → ∀ w2 : mH, (w2 = sfi w a0 0 0) → ∀ w3 : mH, (kpO w2 w3 a0 c) → (0 ≤ (fAt (hai w3 (a0 + 1)) x1)) → ∀ w4 : mH, (w4 = sai w3 a0_1 ((30 + (2 * (fAt (hai w3 (a0 + 1)) x1))).toNatClampNeg) x1) → ∀ w5 : mH, (w5 = sai w4 a0_1 (((30 + (2 * (fAt (hai w3 (a0 + 1)) x1))) + 1).toNatClampNeg) x2) → Φ (.inl (some (.int (hai w5 a0_1 29)))) w5) (k3 : (¬ ((vX11_in x1.toInt64 (-10000) 10000) = 0)) → (¬ ((vX11_in x2.toInt64 (-1000) 1000) = 0)) → (0 ≤ (fAt (hai w (a0 + 1)) x1)) → ∀ w2 : mH, (w2 = sfi w a0 0 0) → ∀ w3 : mH, (kpO w2 w3 a0 c) → (¬ (0 ≤ (fAt (hai w3 (a0 + 1)) x1))) → ∀ w6 : mH, (w6 = sai w3 a0_1 29 ((hai w3 a0_1 29) + 1)) → mW G mX11_setPoint 4 0 0 96 [(0, .ref a0), (1, .int x1), (2, .int x2), (3, .int (hai w3 a0_1 29))] [] w6 Φ) (k4 : (¬ ((vX11_in x1.toInt64 (-10000) 10000) = 0)) → (¬ ((vX11_in x2.toInt64 (-1000) 1000) = 0)) → (¬ (0 ≤ (fAt (hai w (a0 + 1)) x1))) → (¬ ((hai w a0_1 29) = 5)) → ∀ w7 : mH, (w7 = sfi w a0 0 0) → ∀ w8 : mH, (kpO w7 w8 a0 c) → (0 ≤ (fAt (hai w8 (a0 + 1)) x1)) → ∀ w9 : mH, (w9 = sai w8 a0_1 ((30 + (2 * (fAt (hai w8 (a0 + 1)) x1))).toNatClampNeg) x1) → ∀ w10 : mH, (w10 = sai w9 a0_1 (((30 + (2 * (fAt (hai w8 (a0 + 1)) x1))) + 1).toNatClampNeg) x2) → Φ (.inl (some (.int (hai w10 a0_1 29)))) w10) (k5 : (¬ ((vX11_in x1.toInt64 (-10000) 10000) = 0)) → (¬ ((vX11_in x2.toInt64 (-1000) 1000) = 0)) → (¬ (0 ≤ (fAt (hai w (a0 + 1)) x1))) → (¬ ((hai w a0_1 29) = 5)) → ∀ w7 : mH, (w7 = sfi w a0 0 0) → ∀ w8 : mH, (kpO w7 w8 a0 c) → (¬ (0 ≤ (fAt (hai w8 (a0 + 1)) x1))) → ∀ w11 : mH, (w11 = sai w8 a0_1 29 ((hai w8 a0_1 29) + 1)) → mW G mX11_setPoint 4 0 0 96 [(0, .ref a0), (1, .int x1), (2, .int x2), (3, .int (hai w8 a0_1 29))] [] w11 Φ) (k6 : (¬ ((vX11_in x1.toInt64 (-10000) 10000) = 0)) → (¬ ((vX11_in x2.toInt64 (-1000) 1000) = 0)) → (¬ (0 ≤ (fAt (hai w (a0 + 1)) x1))) → ((hai w a0_1 29) = 5) → ∀ w12 : mH, (w12 = sfi w a0 0 2) → Φ (.inl (some (.int 0))) w12) (k7 : (¬ ((vX11_in x1.toInt64 (-10000) 10000) = 0)) → ((vX11_in x2.toInt64 (-1000) 1000) = 0) → ∀ w13 : mH, (w13 = sfi w a0 0 1) → Φ (.inl (some (.int 0))) w13) : mW G mX11_setPoint 4 0 0 0 [(0, .ref a0), (1, .int x1), (2, .int x2)] [] w Φ := by
  refine mW_aload_n (j := 0) dX11_setPoint_0 rfl rfl ?_
  refine mW_iload_n (j := 1) dX11_setPoint_1 rfl rfl ?_
  refine mW_i2l dX11_setPoint_2 ?_
  refine mW_ldc2 (v := (-10000)) dX11_setPoint_3 u1694 ?_
  refine mW_ldc2 (v := 10000) dX11_setPoint_6 u1695 ?_
  refine mW_callSe (As := [.long x1.toInt64, .long (-10000), .long 10000]) (rest := [.ref a0]) (kc2 := 0) (ks2 := 0) dX11_setPoint_9 l_X11_92 rfl (qX11_in (w := w) (y0 := x1.toInt64) (y2 := (-10000)) (y4 := 10000)) (Nat.le_of_ble_eq_true rfl) (by decide) rfl rfl ?_
  refine mW_if_eq (tgt := 29) dX11_setPoint_12 (by decide) (fun c1 => ?_) (fun c1 => ?_)
  · refine mW_iconst (v := 1) dX11_setPoint_29 (by decide) ?_
    refine mW_goto (tgt := 54) dX11_setPoint_30 (by decide) ?_
    refine mW_put (ty := .int) (w2 := sfi w a0 0 1) dX11_setPoint_54 p_X11_3 h1 (Nat.le_of_ble_eq_true rfl) (by first | rfl | decide | (repeat' split) <;> rfl) rfl (hN_sfi _ _ _ _) (hk_sfi _ _ _ _) (mE_sfi h1 (by decide) (ob_11_0 _ _ _)) ?_
    refine mW_nm (fun w1 e1 => ?_)
    refine mW_aload_n (j := 0) dX11_setPoint_57 rfl rfl ?_
    refine mW_getL (v := 1) dX11_setPoint_58 f_X11_3 (s2k (S2_sfi e1) h1) rfl (by rw [e1, e_hfi_sfi, up2_at]) ?_
    refine mW_if_eq (tgt := 66) dX11_setPoint_61 (by decide) (fun c => absurd c (by decide)) (fun _ => ?_)
    refine mW_iconst (v := 0) dX11_setPoint_64 (by decide) ?_
    exact mW_iret dX11_setPoint_65 rfl (k1 c1 w1 e1)
  · refine mW_iload_n (j := 2) dX11_setPoint_15 rfl rfl ?_
    refine mW_i2l dX11_setPoint_16 ?_
    refine mW_ldc2 (v := (-1000)) dX11_setPoint_17 u1696 ?_
    refine mW_ldc2 (v := 1000) dX11_setPoint_20 u1697 ?_
    refine mW_callSe (As := [.long x2.toInt64, .long (-1000), .long 1000]) (rest := [.ref a0]) (kc2 := 0) (ks2 := 0) dX11_setPoint_23 l_X11_92 rfl (qX11_in (w := w) (y0 := x2.toInt64) (y2 := (-1000)) (y4 := 1000)) (Nat.le_of_ble_eq_true rfl) (by decide) rfl rfl ?_
    refine mW_if_ne (tgt := 33) dX11_setPoint_26 (by decide) (fun c2 => ?_) (fun c2 => ?_)
    · refine mW_aload_n (j := 0) dX11_setPoint_33 rfl rfl ?_
      refine mW_iload_n (j := 1) dX11_setPoint_34 rfl rfl ?_
      refine mW_callVe (As := [.int x1]) (rest := [.ref a0]) (kc2 := 0) (ks2 := 0) dX11_setPoint_35 l_X11_115 rfl h1 rfl (by decide) (qX11_pointAt' (w := w) (a0 := a0) (x1 := x1) h2 (s1 c1 c2)) (Nat.le_of_ble_eq_true rfl) (by decide) rfl rfl ?_
      refine mW_if_ge (tgt := 53) dX11_setPoint_38 (by decide) (fun c3 => ?_) (fun c3 => ?_)
      · refine mW_iconst (v := 0) dX11_setPoint_53 (by decide) ?_
        refine mW_put (ty := .int) (w2 := sfi w a0 0 0) dX11_setPoint_54 p_X11_3 h1 (Nat.le_of_ble_eq_true rfl) (by first | rfl | decide | (repeat' split) <;> rfl) rfl (hN_sfi _ _ _ _) (hk_sfi _ _ _ _) (mE_sfi h1 (by decide) (ob_11_0 _ _ _)) ?_
        refine mW_nm (fun w2 e2 => ?_)
        refine mW_aload_n (j := 0) dX11_setPoint_57 rfl rfl ?_
        refine mW_getL (v := 0) dX11_setPoint_58 f_X11_3 (s2k (S2_sfi e2) h1) rfl (by rw [e2, e_hfi_sfi, up2_at]) ?_
        refine mW_if_eq (tgt := 66) dX11_setPoint_61 (by decide) (fun _ => ?_) (fun c => absurd (by decide) c)
        refine mW_aload_n (j := 0) dX11_setPoint_66 rfl rfl ?_
        refine mW_callV (As := []) (rest := []) (kc2 := 0) (ks2 := 0) dX11_setPoint_67 l_X11_96 rfl (s2k (S2_sfi e2) h1) rfl (by decide) (rX11_keeps (w := w2) (a0 := a0) (zRef_s2 (S2_sfi e2) h2) (s2 c1 c2 c3 w2 e2) (s3 c1 c2 c3 w2 e2)) (Nat.le_of_ble_eq_true rfl) (by decide) rfl rfl mP_x (mP_k (fun w3 q1 => ?_))
        refine mW_aload_n (j := 0) dX11_setPoint_70 rfl rfl ?_
        refine mW_iload_n (j := 1) dX11_setPoint_71 rfl rfl ?_
        refine mW_callVe (As := [.int x1]) (rest := []) (kc2 := 0) (ks2 := 0) dX11_setPoint_72 l_X11_115 rfl (s2k (mS2.of q1.1.1) (s2k (S2_sfi e2) h1)) rfl (by decide) (qX11_pointAt' (w := w3) (a0 := a0) (x1 := x1) (zRef_s2 (mS2.of q1.1.1) (zRef_s2 (S2_sfi e2) h2)) (s4 c1 c2 c3 w2 e2 w3 q1)) (Nat.le_of_ble_eq_true rfl) (by decide) rfl rfl ?_
        refine mW_istore_n (lv2 := [(3, .int (fAt (hai w3 (a0 + 1)) x1)), (0, .ref a0), (1, .int x1), (2, .int x2)]) dX11_setPoint_75 rfl (by decide) rfl ?_
        refine mW_iload_n (j := 0) dX11_setPoint_76 rfl rfl ?_
        refine mW_if_ge (tgt := 155) dX11_setPoint_77 (by decide) (fun c4 => ?_) (fun c4 => ?_)
        · refine mW_aload_n (j := 1) dX11_setPoint_155 rfl rfl ?_
          refine mW_getR dX11_setPoint_156 f_X11_13 (s2k (mS2.of q1.1.1) (s2k (S2_sfi e2) h1)) rfl (s2r (mS2.of q1.1.1) (s2r (S2_sfi e2) h3)) ?_
          refine mW_bipush (v := 30) dX11_setPoint_159 (by decide) ?_
          refine mW_iconst (v := 2) dX11_setPoint_161 (by decide) ?_
          refine mW_iload_n (j := 0) dX11_setPoint_162 rfl rfl ?_
          refine mW_imul dX11_setPoint_163 ?_
          refine mW_iadd dX11_setPoint_164 ?_
          refine mW_iload_n (j := 2) dX11_setPoint_165 rfl rfl ?_
          refine mW_iastJ dX11_setPoint_166 (s2k (mS2.of q1.1.1) (s2k (S2_sfi e2) h4)) (s5 c1 c2 c3 w2 e2 w3 q1 c4) rfl ?_
          refine mW_nm (fun w4 e3 => ?_)
          refine mW_aload_n (j := 1) dX11_setPoint_167 rfl rfl ?_
          refine mW_getR dX11_setPoint_168 f_X11_13 (s2k (S2_sai e3) (s2k (mS2.of q1.1.1) (s2k (S2_sfi e2) h1))) rfl (s2r (S2_sai e3) (s2r (mS2.of q1.1.1) (s2r (S2_sfi e2) h3))) ?_
          refine mW_bipush (v := 30) dX11_setPoint_171 (by decide) ?_
          refine mW_iconst (v := 2) dX11_setPoint_173 (by decide) ?_
          refine mW_iload_n (j := 0) dX11_setPoint_174 rfl rfl ?_
          refine mW_imul dX11_setPoint_175 ?_
          refine mW_iadd dX11_setPoint_176 ?_
          refine mW_iconst (v := 1) dX11_setPoint_177 (by decide) ?_
          refine mW_iadd dX11_setPoint_178 ?_
          refine mW_iload_n (j := 3) dX11_setPoint_179 rfl rfl ?_
          refine mW_iastJ dX11_setPoint_180 (s2k (S2_sai e3) (s2k (mS2.of q1.1.1) (s2k (S2_sfi e2) h4))) (s6 c1 c2 c3 w2 e2 w3 q1 c4 w4 e3) rfl ?_
          refine mW_nm (fun w5 e4 => ?_)
          refine mW_aload_n (j := 1) dX11_setPoint_181 rfl rfl ?_
          refine mW_callVe (As := []) (rest := []) (kc2 := 0) (ks2 := 0) dX11_setPoint_182 l_X11_99 rfl (s2k (S2_sai e4) (s2k (S2_sai e3) (s2k (mS2.of q1.1.1) (s2k (S2_sfi e2) h1)))) rfl (by decide) (qX11_points (w := w5) (a0 := a0) (s2k (S2_sai e4) (s2k (S2_sai e3) (s2k (mS2.of q1.1.1) (s2k (S2_sfi e2) h1)))) (s2r (S2_sai e4) (s2r (S2_sai e3) (s2r (mS2.of q1.1.1) (s2r (S2_sfi e2) h3)))) (s2k (S2_sai e4) (s2k (S2_sai e3) (s2k (mS2.of q1.1.1) (s2k (S2_sfi e2) h4)))) s7) (Nat.le_of_ble_eq_true rfl) (by decide) rfl rfl ?_
          exact mW_iret dX11_setPoint_185 rfl (k2 c1 c2 c3 w2 e2 w3 q1 c4 w4 e3 w5 e4)
        · refine mW_aload_n (j := 1) dX11_setPoint_80 rfl rfl ?_
          refine mW_callVe (As := []) (rest := []) (kc2 := 0) (ks2 := 0) dX11_setPoint_81 l_X11_99 rfl (s2k (mS2.of q1.1.1) (s2k (S2_sfi e2) h1)) rfl (by decide) (qX11_points (w := w3) (a0 := a0) (s2k (mS2.of q1.1.1) (s2k (S2_sfi e2) h1)) (s2r (mS2.of q1.1.1) (s2r (S2_sfi e2) h3)) (s2k (mS2.of q1.1.1) (s2k (S2_sfi e2) h4)) s8) (Nat.le_of_ble_eq_true rfl) (by decide) rfl rfl ?_
          refine mW_istore_n (lv2 := [(3, .int (hai w3 a0_1 29)), (0, .ref a0), (1, .int x1), (2, .int x2)]) dX11_setPoint_84 rfl (by decide) rfl ?_
          refine mW_aload_n (j := 1) dX11_setPoint_85 rfl rfl ?_
          refine mW_getR dX11_setPoint_86 f_X11_13 (s2k (mS2.of q1.1.1) (s2k (S2_sfi e2) h1)) rfl (s2r (mS2.of q1.1.1) (s2r (S2_sfi e2) h3)) ?_
          refine mW_bipush (v := 29) dX11_setPoint_89 (by decide) ?_
          refine mW_dup2 dX11_setPoint_91 rfl rfl ?_
          refine mW_ialdJ dX11_setPoint_92 (s2k (mS2.of q1.1.1) (s2k (S2_sfi e2) h4)) s8 (j := 29) (by decide) ?_
          refine mW_iconst (v := 1) dX11_setPoint_93 (by decide) ?_
          refine mW_iadd dX11_setPoint_94 ?_
          refine mW_iastJ dX11_setPoint_95 (s2k (mS2.of q1.1.1) (s2k (S2_sfi e2) h4)) s8 (j := 29) (by decide) ?_
          refine mW_nm (fun w6 e5 => ?_)
          refine mW_loc [1, 2, 3, 0] (lv2 := [(0, .ref a0), (1, .int x1), (2, .int x2), (3, .int (hai w3 a0_1 29))]) rfl ?_
          exact k3 c1 c2 c3 w2 e2 w3 q1 c4 w6 e5
      · refine mW_aload_n (j := 0) dX11_setPoint_41 rfl rfl ?_
        refine mW_callVe (As := []) (rest := [.ref a0]) (kc2 := 0) (ks2 := 0) dX11_setPoint_42 l_X11_99 rfl h1 rfl (by decide) (qX11_points (w := w) (a0 := a0) h1 h3 h4 s9) (Nat.le_of_ble_eq_true rfl) (by decide) rfl rfl ?_
        refine mW_iconst (v := 5) dX11_setPoint_45 (by decide) ?_
        refine mW_icmp_ne (tgt := 53) dX11_setPoint_46 (by decide) (fun c5 => ?_) (fun c5 => ?_)
        · refine mW_iconst (v := 0) dX11_setPoint_53 (by decide) ?_
          refine mW_put (ty := .int) (w2 := sfi w a0 0 0) dX11_setPoint_54 p_X11_3 h1 (Nat.le_of_ble_eq_true rfl) (by first | rfl | decide | (repeat' split) <;> rfl) rfl (hN_sfi _ _ _ _) (hk_sfi _ _ _ _) (mE_sfi h1 (by decide) (ob_11_0 _ _ _)) ?_
          refine mW_nm (fun w7 e6 => ?_)
          refine mW_aload_n (j := 0) dX11_setPoint_57 rfl rfl ?_
          refine mW_getL (v := 0) dX11_setPoint_58 f_X11_3 (s2k (S2_sfi e6) h1) rfl (by rw [e6, e_hfi_sfi, up2_at]) ?_
          refine mW_if_eq (tgt := 66) dX11_setPoint_61 (by decide) (fun _ => ?_) (fun c => absurd (by decide) c)
          refine mW_aload_n (j := 0) dX11_setPoint_66 rfl rfl ?_
          refine mW_callV (As := []) (rest := []) (kc2 := 0) (ks2 := 0) dX11_setPoint_67 l_X11_96 rfl (s2k (S2_sfi e6) h1) rfl (by decide) (rX11_keeps (w := w7) (a0 := a0) (zRef_s2 (S2_sfi e6) h2) (s10 c1 c2 c3 c5 w7 e6) (s11 c1 c2 c3 c5 w7 e6)) (Nat.le_of_ble_eq_true rfl) (by decide) rfl rfl mP_x (mP_k (fun w8 q2 => ?_))
          refine mW_aload_n (j := 0) dX11_setPoint_70 rfl rfl ?_
          refine mW_iload_n (j := 1) dX11_setPoint_71 rfl rfl ?_
          refine mW_callVe (As := [.int x1]) (rest := []) (kc2 := 0) (ks2 := 0) dX11_setPoint_72 l_X11_115 rfl (s2k (mS2.of q2.1.1) (s2k (S2_sfi e6) h1)) rfl (by decide) (qX11_pointAt' (w := w8) (a0 := a0) (x1 := x1) (zRef_s2 (mS2.of q2.1.1) (zRef_s2 (S2_sfi e6) h2)) (s12 c1 c2 c3 c5 w7 e6 w8 q2)) (Nat.le_of_ble_eq_true rfl) (by decide) rfl rfl ?_
          refine mW_istore_n (lv2 := [(3, .int (fAt (hai w8 (a0 + 1)) x1)), (0, .ref a0), (1, .int x1), (2, .int x2)]) dX11_setPoint_75 rfl (by decide) rfl ?_
          refine mW_iload_n (j := 0) dX11_setPoint_76 rfl rfl ?_
          refine mW_if_ge (tgt := 155) dX11_setPoint_77 (by decide) (fun c6 => ?_) (fun c6 => ?_)
          · refine mW_aload_n (j := 1) dX11_setPoint_155 rfl rfl ?_
            refine mW_getR dX11_setPoint_156 f_X11_13 (s2k (mS2.of q2.1.1) (s2k (S2_sfi e6) h1)) rfl (s2r (mS2.of q2.1.1) (s2r (S2_sfi e6) h3)) ?_
            refine mW_bipush (v := 30) dX11_setPoint_159 (by decide) ?_
            refine mW_iconst (v := 2) dX11_setPoint_161 (by decide) ?_
            refine mW_iload_n (j := 0) dX11_setPoint_162 rfl rfl ?_
            refine mW_imul dX11_setPoint_163 ?_
            refine mW_iadd dX11_setPoint_164 ?_
            refine mW_iload_n (j := 2) dX11_setPoint_165 rfl rfl ?_
            refine mW_iastJ dX11_setPoint_166 (s2k (mS2.of q2.1.1) (s2k (S2_sfi e6) h4)) (s13 c1 c2 c3 c5 w7 e6 w8 q2 c6) rfl ?_
            refine mW_nm (fun w9 e7 => ?_)
            refine mW_aload_n (j := 1) dX11_setPoint_167 rfl rfl ?_
            refine mW_getR dX11_setPoint_168 f_X11_13 (s2k (S2_sai e7) (s2k (mS2.of q2.1.1) (s2k (S2_sfi e6) h1))) rfl (s2r (S2_sai e7) (s2r (mS2.of q2.1.1) (s2r (S2_sfi e6) h3))) ?_
            refine mW_bipush (v := 30) dX11_setPoint_171 (by decide) ?_
            refine mW_iconst (v := 2) dX11_setPoint_173 (by decide) ?_
            refine mW_iload_n (j := 0) dX11_setPoint_174 rfl rfl ?_
            refine mW_imul dX11_setPoint_175 ?_
            refine mW_iadd dX11_setPoint_176 ?_
            refine mW_iconst (v := 1) dX11_setPoint_177 (by decide) ?_
            refine mW_iadd dX11_setPoint_178 ?_
            refine mW_iload_n (j := 3) dX11_setPoint_179 rfl rfl ?_
            refine mW_iastJ dX11_setPoint_180 (s2k (S2_sai e7) (s2k (mS2.of q2.1.1) (s2k (S2_sfi e6) h4))) (s14 c1 c2 c3 c5 w7 e6 w8 q2 c6 w9 e7) rfl ?_
            refine mW_nm (fun w10 e8 => ?_)
            refine mW_aload_n (j := 1) dX11_setPoint_181 rfl rfl ?_
            refine mW_callVe (As := []) (rest := []) (kc2 := 0) (ks2 := 0) dX11_setPoint_182 l_X11_99 rfl (s2k (S2_sai e8) (s2k (S2_sai e7) (s2k (mS2.of q2.1.1) (s2k (S2_sfi e6) h1)))) rfl (by decide) (qX11_points (w := w10) (a0 := a0) (s2k (S2_sai e8) (s2k (S2_sai e7) (s2k (mS2.of q2.1.1) (s2k (S2_sfi e6) h1)))) (s2r (S2_sai e8) (s2r (S2_sai e7) (s2r (mS2.of q2.1.1) (s2r (S2_sfi e6) h3)))) (s2k (S2_sai e8) (s2k (S2_sai e7) (s2k (mS2.of q2.1.1) (s2k (S2_sfi e6) h4)))) s9) (Nat.le_of_ble_eq_true rfl) (by decide) rfl rfl ?_
            exact mW_iret dX11_setPoint_185 rfl (k4 c1 c2 c3 c5 w7 e6 w8 q2 c6 w9 e7 w10 e8)
          · refine mW_aload_n (j := 1) dX11_setPoint_80 rfl rfl ?_
            refine mW_callVe (As := []) (rest := []) (kc2 := 0) (ks2 := 0) dX11_setPoint_81 l_X11_99 rfl (s2k (mS2.of q2.1.1) (s2k (S2_sfi e6) h1)) rfl (by decide) (qX11_points (w := w8) (a0 := a0) (s2k (mS2.of q2.1.1) (s2k (S2_sfi e6) h1)) (s2r (mS2.of q2.1.1) (s2r (S2_sfi e6) h3)) (s2k (mS2.of q2.1.1) (s2k (S2_sfi e6) h4)) s9) (Nat.le_of_ble_eq_true rfl) (by decide) rfl rfl ?_
            refine mW_istore_n (lv2 := [(3, .int (hai w8 a0_1 29)), (0, .ref a0), (1, .int x1), (2, .int x2)]) dX11_setPoint_84 rfl (by decide) rfl ?_
            refine mW_aload_n (j := 1) dX11_setPoint_85 rfl rfl ?_
            refine mW_getR dX11_setPoint_86 f_X11_13 (s2k (mS2.of q2.1.1) (s2k (S2_sfi e6) h1)) rfl (s2r (mS2.of q2.1.1) (s2r (S2_sfi e6) h3)) ?_
            refine mW_bipush (v := 29) dX11_setPoint_89 (by decide) ?_
            refine mW_dup2 dX11_setPoint_91 rfl rfl ?_
            refine mW_ialdJ dX11_setPoint_92 (s2k (mS2.of q2.1.1) (s2k (S2_sfi e6) h4)) s9 (j := 29) (by decide) ?_
            refine mW_iconst (v := 1) dX11_setPoint_93 (by decide) ?_
            refine mW_iadd dX11_setPoint_94 ?_
            refine mW_iastJ dX11_setPoint_95 (s2k (mS2.of q2.1.1) (s2k (S2_sfi e6) h4)) s9 (j := 29) (by decide) ?_
            refine mW_nm (fun w11 e9 => ?_)
            refine mW_loc [1, 2, 3, 0] (lv2 := [(0, .ref a0), (1, .int x1), (2, .int x2), (3, .int (hai w8 a0_1 29))]) rfl ?_
            exact k5 c1 c2 c3 c5 w7 e6 w8 q2 c6 w11 e9
        · refine mW_iconst (v := 2) dX11_setPoint_49 (by decide) ?_
          refine mW_goto (tgt := 54) dX11_setPoint_50 (by decide) ?_
          refine mW_put (ty := .int) (w2 := sfi w a0 0 2) dX11_setPoint_54 p_X11_3 h1 (Nat.le_of_ble_eq_true rfl) (by first | rfl | decide | (repeat' split) <;> rfl) rfl (hN_sfi _ _ _ _) (hk_sfi _ _ _ _) (mE_sfi h1 (by decide) (ob_11_0 _ _ _)) ?_
          refine mW_nm (fun w12 e10 => ?_)
          refine mW_aload_n (j := 0) dX11_setPoint_57 rfl rfl ?_
          refine mW_getL (v := 2) dX11_setPoint_58 f_X11_3 (s2k (S2_sfi e10) h1) rfl (by rw [e10, e_hfi_sfi, up2_at]) ?_
          refine mW_if_eq (tgt := 66) dX11_setPoint_61 (by decide) (fun c => absurd c (by decide)) (fun _ => ?_)
          refine mW_iconst (v := 0) dX11_setPoint_64 (by decide) ?_
          exact mW_iret dX11_setPoint_65 rfl (k6 c1 c2 c3 c5 w12 e10)
    · refine mW_iconst (v := 1) dX11_setPoint_29 (by decide) ?_
      refine mW_goto (tgt := 54) dX11_setPoint_30 (by decide) ?_
      refine mW_put (ty := .int) (w2 := sfi w a0 0 1) dX11_setPoint_54 p_X11_3 h1 (Nat.le_of_ble_eq_true rfl) (by first | rfl | decide | (repeat' split) <;> rfl) rfl (hN_sfi _ _ _ _) (hk_sfi _ _ _ _) (mE_sfi h1 (by decide) (ob_11_0 _ _ _)) ?_
      refine mW_nm (fun w13 e11 => ?_)
      refine mW_aload_n (j := 0) dX11_setPoint_57 rfl rfl ?_
      refine mW_getL (v := 1) dX11_setPoint_58 f_X11_3 (s2k (S2_sfi e11) h1) rfl (by rw [e11, e_hfi_sfi, up2_at]) ?_
      refine mW_if_eq (tgt := 66) dX11_setPoint_61 (by decide) (fun c => absurd c (by decide)) (fun _ => ?_)
      refine mW_iconst (v := 0) dX11_setPoint_64 (by decide) ?_
      exact mW_iret dX11_setPoint_65 rfl (k7 c1 c2 w13 e11)
set_option maxHeartbeats 4000000 in
set_option maxRecDepth 100000 in
theorem gX11_setPoint_96 {G : mG} {w : mH} {Φ : mF} {a0 : Nat} {x1 x2 x3 : Int32} {c : Nat} {A : Nat → Int32} {a0_1 n_a0_1 : Nat} (h1 : hk w a0 = (11, 0)) (h2 : hfr w a0 1 = some a0_1) (h3 : hk w a0_1 = (16, n_a0_1)) (s1 : (x3 ≤ 0) → vp_in (30 + (2 * x3)) n_a0_1) (s2 : (x3 ≤ 0) → ∀ w1 : mH, (w1 = sai w a0_1 ((30 + (2 * x3)).toNatClampNeg) x1) → vp_in ((30 + (2 * x3)) + 1) n_a0_1) (s3 : vp_in 29 n_a0_1) (s4 : (¬ (x3 ≤ 0)) → vp_in (30 + (2 * (x3 - 1))) n_a0_1) (s5 : (¬ (x3 ≤ 0)) → ((vX11_x w (x3 - 1) a0_1) ≤ x1) → vp_in (30 + (2 * x3)) n_a0_1) (s6 : (¬ (x3 ≤ 0)) → ((vX11_x w (x3 - 1) a0_1) ≤ x1) → ∀ w3 : mH, (w3 = sai w a0_1 ((30 + (2 * x3)).toNatClampNeg) x1) → vp_in ((30 + (2 * x3)) + 1) n_a0_1) (s7 : vp_in 29 n_a0_1) (s8 : (¬ (x3 ≤ 0)) → (¬ ((vX11_x w (x3 - 1) a0_1) ≤ x1)) → vp_in (30 + (2 * x3)) n_a0_1) (s9 : (¬ (x3 ≤ 0)) → (¬ ((vX11_x w (x3 - 1) a0_1) ≤ x1)) → ∀ w5 : mH, (w5 = sai w a0_1 ((30 + (2 * x3)).toNatClampNeg) (vX11_x w (x3 - 1) a0_1)) → vp_in ((30 + (2 * (x3 - 1))) + 1) n_a0_1) (s10 : (¬ (x3 ≤ 0)) → (¬ ((vX11_x w (x3 - 1) a0_1) ≤ x1)) → ∀ w5 : mH, (w5 = sai w a0_1 ((30 + (2 * x3)).toNatClampNeg) (vX11_x w (x3 - 1) a0_1)) → vp_in ((30 + (2 * x3)) + 1) n_a0_1) (k1 : (x3 ≤ 0) → ∀ w1 : mH, (w1 = sai w a0_1 ((30 + (2 * x3)).toNatClampNeg) x1) → ∀ w2 : mH, (w2 = sai w1 a0_1 (((30 + (2 * x3)) + 1).toNatClampNeg) x2) → Φ (.inl (some (.int (hai w2 a0_1 29)))) w2) (k2 : (¬ (x3 ≤ 0)) → ((vX11_x w (x3 - 1) a0_1) ≤ x1) → ∀ w3 : mH, (w3 = sai w a0_1 ((30 + (2 * x3)).toNatClampNeg) x1) → ∀ w4 : mH, (w4 = sai w3 a0_1 (((30 + (2 * x3)) + 1).toNatClampNeg) x2) → Φ (.inl (some (.int (hai w4 a0_1 29)))) w4) (k3 : (¬ (x3 ≤ 0)) → (¬ ((vX11_x w (x3 - 1) a0_1) ≤ x1)) → ∀ w5 : mH, (w5 = sai w a0_1 ((30 + (2 * x3)).toNatClampNeg) (vX11_x w (x3 - 1) a0_1)) → ∀ w6 : mH, (w6 = sai w5 a0_1 (((30 + (2 * x3)) + 1).toNatClampNeg) (vX11_y w5 (x3 - 1) a0_1)) → mW G mX11_setPoint 4 0 0 96 [(0, .ref a0), (1, .int x1), (2, .int x2), (3, .int (x3 + (-1)))] [] w6 Φ) : mW G mX11_setPoint 4 0 0 96 [(0, .ref a0), (1, .int x1), (2, .int x2), (3, .int x3)] [] w Φ := by
  refine mW_iload_n (j := 3) dX11_setPoint_96 rfl rfl ?_
  refine mW_if_le (tgt := 155) dX11_setPoint_97 (by decide) (fun c1 => ?_) (fun c1 => ?_)
  · refine mW_aload_n (j := 0) dX11_setPoint_155 rfl rfl ?_
    refine mW_getR dX11_setPoint_156 f_X11_13 h1 rfl h2 ?_
    refine mW_bipush (v := 30) dX11_setPoint_159 (by decide) ?_
    refine mW_iconst (v := 2) dX11_setPoint_161 (by decide) ?_
    refine mW_iload_n (j := 3) dX11_setPoint_162 rfl rfl ?_
    refine mW_imul dX11_setPoint_163 ?_
    refine mW_iadd dX11_setPoint_164 ?_
    refine mW_iload_n (j := 1) dX11_setPoint_165 rfl rfl ?_
    refine mW_iastJ dX11_setPoint_166 h3 (s1 c1) rfl ?_
    refine mW_nm (fun w1 e1 => ?_)
    refine mW_aload_n (j := 0) dX11_setPoint_167 rfl rfl ?_
    refine mW_getR dX11_setPoint_168 f_X11_13 (s2k (S2_sai e1) h1) rfl (s2r (S2_sai e1) h2) ?_
    refine mW_bipush (v := 30) dX11_setPoint_171 (by decide) ?_
    refine mW_iconst (v := 2) dX11_setPoint_173 (by decide) ?_
    refine mW_iload_n (j := 3) dX11_setPoint_174 rfl rfl ?_
    refine mW_imul dX11_setPoint_175 ?_
    refine mW_iadd dX11_setPoint_176 ?_
    refine mW_iconst (v := 1) dX11_setPoint_177 (by decide) ?_
    refine mW_iadd dX11_setPoint_178 ?_
    refine mW_iload_n (j := 2) dX11_setPoint_179 rfl rfl ?_
    refine mW_iastJ dX11_setPoint_180 (s2k (S2_sai e1) h3) (s2 c1 w1 e1) rfl ?_
    refine mW_nm (fun w2 e2 => ?_)
    refine mW_aload_n (j := 0) dX11_setPoint_181 rfl rfl ?_
    refine mW_callVe (As := []) (rest := []) (kc2 := 0) (ks2 := 0) dX11_setPoint_182 l_X11_99 rfl (s2k (S2_sai e2) (s2k (S2_sai e1) h1)) rfl (by decide) (qX11_points (w := w2) (a0 := a0) (s2k (S2_sai e2) (s2k (S2_sai e1) h1)) (s2r (S2_sai e2) (s2r (S2_sai e1) h2)) (s2k (S2_sai e2) (s2k (S2_sai e1) h3)) s3) (Nat.le_of_ble_eq_true rfl) (by decide) rfl rfl ?_
    exact mW_iret dX11_setPoint_185 rfl (k1 c1 w1 e1 w2 e2)
  · refine mW_aload_n (j := 0) dX11_setPoint_100 rfl rfl ?_
    refine mW_iload_n (j := 3) dX11_setPoint_101 rfl rfl ?_
    refine mW_iconst (v := 1) dX11_setPoint_102 (by decide) ?_
    refine mW_isub dX11_setPoint_103 ?_
    refine mW_callVe (As := [.int (x3 - 1)]) (rest := []) (kc2 := 0) (ks2 := 0) dX11_setPoint_104 l_X11_103 rfl h1 rfl (by decide) (qX11_x (w := w) (a0 := a0) (x1 := x3 - 1) h1 h2 h3 (s4 c1)) (Nat.le_of_ble_eq_true rfl) (by decide) rfl rfl ?_
    refine mW_iload_n (j := 1) dX11_setPoint_107 rfl rfl ?_
    refine mW_icmp_le (tgt := 155) dX11_setPoint_108 (by decide) (fun c2 => ?_) (fun c2 => ?_)
    · refine mW_aload_n (j := 0) dX11_setPoint_155 rfl rfl ?_
      refine mW_getR dX11_setPoint_156 f_X11_13 h1 rfl h2 ?_
      refine mW_bipush (v := 30) dX11_setPoint_159 (by decide) ?_
      refine mW_iconst (v := 2) dX11_setPoint_161 (by decide) ?_
      refine mW_iload_n (j := 3) dX11_setPoint_162 rfl rfl ?_
      refine mW_imul dX11_setPoint_163 ?_
      refine mW_iadd dX11_setPoint_164 ?_
      refine mW_iload_n (j := 1) dX11_setPoint_165 rfl rfl ?_
      refine mW_iastJ dX11_setPoint_166 h3 (s5 c1 c2) rfl ?_
      refine mW_nm (fun w3 e3 => ?_)
      refine mW_aload_n (j := 0) dX11_setPoint_167 rfl rfl ?_
      refine mW_getR dX11_setPoint_168 f_X11_13 (s2k (S2_sai e3) h1) rfl (s2r (S2_sai e3) h2) ?_
      refine mW_bipush (v := 30) dX11_setPoint_171 (by decide) ?_
      refine mW_iconst (v := 2) dX11_setPoint_173 (by decide) ?_
      refine mW_iload_n (j := 3) dX11_setPoint_174 rfl rfl ?_
      refine mW_imul dX11_setPoint_175 ?_
      refine mW_iadd dX11_setPoint_176 ?_
      refine mW_iconst (v := 1) dX11_setPoint_177 (by decide) ?_
      refine mW_iadd dX11_setPoint_178 ?_
      refine mW_iload_n (j := 2) dX11_setPoint_179 rfl rfl ?_
      refine mW_iastJ dX11_setPoint_180 (s2k (S2_sai e3) h3) (s6 c1 c2 w3 e3) rfl ?_
      refine mW_nm (fun w4 e4 => ?_)
      refine mW_aload_n (j := 0) dX11_setPoint_181 rfl rfl ?_
      refine mW_callVe (As := []) (rest := []) (kc2 := 0) (ks2 := 0) dX11_setPoint_182 l_X11_99 rfl (s2k (S2_sai e4) (s2k (S2_sai e3) h1)) rfl (by decide) (qX11_points (w := w4) (a0 := a0) (s2k (S2_sai e4) (s2k (S2_sai e3) h1)) (s2r (S2_sai e4) (s2r (S2_sai e3) h2)) (s2k (S2_sai e4) (s2k (S2_sai e3) h3)) s7) (Nat.le_of_ble_eq_true rfl) (by decide) rfl rfl ?_
      exact mW_iret dX11_setPoint_185 rfl (k2 c1 c2 w3 e3 w4 e4)
    · refine mW_aload_n (j := 0) dX11_setPoint_111 rfl rfl ?_
      refine mW_getR dX11_setPoint_112 f_X11_13 h1 rfl h2 ?_
      refine mW_bipush (v := 30) dX11_setPoint_115 (by decide) ?_
      refine mW_iconst (v := 2) dX11_setPoint_117 (by decide) ?_
      refine mW_iload_n (j := 3) dX11_setPoint_118 rfl rfl ?_
      refine mW_imul dX11_setPoint_119 ?_
      refine mW_iadd dX11_setPoint_120 ?_
      refine mW_aload_n (j := 0) dX11_setPoint_121 rfl rfl ?_
      refine mW_iload_n (j := 3) dX11_setPoint_122 rfl rfl ?_
      refine mW_iconst (v := 1) dX11_setPoint_123 (by decide) ?_
      refine mW_isub dX11_setPoint_124 ?_
      refine mW_callVe (As := [.int (x3 - 1)]) (rest := [.int (30 + (2 * x3)), .ref a0_1]) (kc2 := 0) (ks2 := 0) dX11_setPoint_125 l_X11_103 rfl h1 rfl (by decide) (qX11_x (w := w) (a0 := a0) (x1 := x3 - 1) h1 h2 h3 (s4 c1)) (Nat.le_of_ble_eq_true rfl) (by decide) rfl rfl ?_
      refine mW_iastJ dX11_setPoint_128 h3 (s8 c1 c2) rfl ?_
      refine mW_nm (fun w5 e5 => ?_)
      refine mW_aload_n (j := 0) dX11_setPoint_129 rfl rfl ?_
      refine mW_getR dX11_setPoint_130 f_X11_13 (s2k (S2_sai e5) h1) rfl (s2r (S2_sai e5) h2) ?_
      refine mW_bipush (v := 30) dX11_setPoint_133 (by decide) ?_
      refine mW_iconst (v := 2) dX11_setPoint_135 (by decide) ?_
      refine mW_iload_n (j := 3) dX11_setPoint_136 rfl rfl ?_
      refine mW_imul dX11_setPoint_137 ?_
      refine mW_iadd dX11_setPoint_138 ?_
      refine mW_iconst (v := 1) dX11_setPoint_139 (by decide) ?_
      refine mW_iadd dX11_setPoint_140 ?_
      refine mW_aload_n (j := 0) dX11_setPoint_141 rfl rfl ?_
      refine mW_iload_n (j := 3) dX11_setPoint_142 rfl rfl ?_
      refine mW_iconst (v := 1) dX11_setPoint_143 (by decide) ?_
      refine mW_isub dX11_setPoint_144 ?_
      refine mW_callVe (As := [.int (x3 - 1)]) (rest := [.int ((30 + (2 * x3)) + 1), .ref a0_1]) (kc2 := 0) (ks2 := 0) dX11_setPoint_145 l_X11_118 rfl (s2k (S2_sai e5) h1) rfl (by decide) (qX11_y (w := w5) (a0 := a0) (x1 := x3 - 1) (s2k (S2_sai e5) h1) (s2r (S2_sai e5) h2) (s2k (S2_sai e5) h3) (s9 c1 c2 w5 e5)) (Nat.le_of_ble_eq_true rfl) (by decide) rfl rfl ?_
      refine mW_iastJ dX11_setPoint_148 (s2k (S2_sai e5) h3) (s10 c1 c2 w5 e5) rfl ?_
      refine mW_nm (fun w6 e6 => ?_)
      refine mW_iinc (j := 3) (v := x3 + (-1)) (lv2 := [(3, .int (x3 + (-1))), (0, .ref a0), (1, .int x1), (2, .int x2)]) dX11_setPoint_149 rfl rfl (by decide) rfl ?_
      refine mW_goto (tgt := 96) dX11_setPoint_152 (by decide) ?_
      refine mW_loc [1, 2, 3, 0] (lv2 := [(0, .ref a0), (1, .int x1), (2, .int x2), (3, .int (x3 + (-1)))]) rfl ?_
      exact k3 c1 c2 w5 e5 w6 e6
abbrev mX11_removePoint : mM := (yX11_removePoint, cX11_removePoint, 4, (some .int), [])
set_option maxHeartbeats 4000000 in
set_option maxRecDepth 100000 in
theorem gX11_removePoint_0 {G : mG} {w : mH} {Φ : mF} {a0 : Nat} {x1 : Int32} {c : Nat} {A : Nat → Int32} {a0_1 n_a0_1 : Nat} (h1 : hk w a0 = (11, 0)) (h2 : zRef w a0) (s1 : ptOK (hai w (a0 + 1))) (s2 : (0 ≤ (fAt (hai w (a0 + 1)) x1)) → ∀ w1 : mH, (w1 = sfi w a0 0 0) → hfi w1 a0 5 = nI c) (s3 : (0 ≤ (fAt (hai w (a0 + 1)) x1)) → ∀ w1 : mH, (w1 = sfi w a0 0 0) → c ≤ 6) (h3 : hfr w a0 1 = some a0_1) (h4 : hk w a0_1 = (16, n_a0_1)) (s4 : (0 ≤ (fAt (hai w (a0 + 1)) x1)) → ∀ w1 : mH, (w1 = sfi w a0 0 0) → ∀ w2 : mH, (kpO w1 w2 a0 c) → vp_in ((30 + (2 * (fAt (hai w (a0 + 1)) x1))) + 1) n_a0_1) (k1 : (0 ≤ (fAt (hai w (a0 + 1)) x1)) → ∀ w1 : mH, (w1 = sfi w a0 0 0) → ∀ w2 : mH, (kpO w1 w2 a0 c) → mW G mX11_removePoint 4 0 0 38 [(0, .ref a0), (1, .int x1), (2, .int (fAt (hai w (a0 + 1)) x1)), (3, .int (vX11_y w2 (fAt (hai w (a0 + 1)) x1) a0_1))] [] w2 Φ) (k2 : (¬ (0 ≤ (fAt (hai w (a0 + 1)) x1))) → ∀ w3 : mH, (w3 = sfi w a0 0 1) → Φ (.inl (some (.int 0))) w3) : mW G mX11_removePoint 4 0 0 0 [(0, .ref a0), (1, .int x1)] [] w Φ := by
  refine mW_aload_n (j := 0) dX11_removePoint_0 rfl rfl ?_
  refine mW_iload_n (j := 1) dX11_removePoint_1 rfl rfl ?_
  refine mW_callVe (As := [.int x1]) (rest := []) (kc2 := 0) (ks2 := 0) dX11_removePoint_2 l_X11_115 rfl h1 rfl (by decide) (qX11_pointAt' (w := w) (a0 := a0) (x1 := x1) h2 s1) (Nat.le_of_ble_eq_true rfl) (by decide) rfl rfl ?_
  refine mW_istore_n (lv2 := [(2, .int (fAt (hai w (a0 + 1)) x1)), (0, .ref a0), (1, .int x1)]) dX11_removePoint_5 rfl (by decide) rfl ?_
  refine mW_aload_n (j := 1) dX11_removePoint_6 rfl rfl ?_
  refine mW_iload_n (j := 0) dX11_removePoint_7 rfl rfl ?_
  refine mW_if_ge (tgt := 15) dX11_removePoint_8 (by decide) (fun c1 => ?_) (fun c1 => ?_)
  · refine mW_iconst (v := 0) dX11_removePoint_15 (by decide) ?_
    refine mW_put (ty := .int) (w2 := sfi w a0 0 0) dX11_removePoint_16 p_X11_3 h1 (Nat.le_of_ble_eq_true rfl) (by first | rfl | decide | (repeat' split) <;> rfl) rfl (hN_sfi _ _ _ _) (hk_sfi _ _ _ _) (mE_sfi h1 (by decide) (ob_11_0 _ _ _)) ?_
    refine mW_nm (fun w1 e1 => ?_)
    refine mW_aload_n (j := 1) dX11_removePoint_19 rfl rfl ?_
    refine mW_getL (v := 0) dX11_removePoint_20 f_X11_3 (s2k (S2_sfi e1) h1) rfl (by rw [e1, e_hfi_sfi, up2_at]) ?_
    refine mW_if_eq (tgt := 28) dX11_removePoint_23 (by decide) (fun _ => ?_) (fun c => absurd (by decide) c)
    refine mW_aload_n (j := 1) dX11_removePoint_28 rfl rfl ?_
    refine mW_callV (As := []) (rest := []) (kc2 := 0) (ks2 := 0) dX11_removePoint_29 l_X11_96 rfl (s2k (S2_sfi e1) h1) rfl (by decide) (rX11_keeps (w := w1) (a0 := a0) (zRef_s2 (S2_sfi e1) h2) (s2 c1 w1 e1) (s3 c1 w1 e1)) (Nat.le_of_ble_eq_true rfl) (by decide) rfl rfl mP_x (mP_k (fun w2 q1 => ?_))
    refine mW_aload_n (j := 1) dX11_removePoint_32 rfl rfl ?_
    refine mW_iload_n (j := 0) dX11_removePoint_33 rfl rfl ?_
    refine mW_callVe (As := [.int (fAt (hai w (a0 + 1)) x1)]) (rest := []) (kc2 := 0) (ks2 := 0) dX11_removePoint_34 l_X11_118 rfl (s2k (mS2.of q1.1.1) (s2k (S2_sfi e1) h1)) rfl (by decide) (qX11_y (w := w2) (a0 := a0) (x1 := (fAt (hai w (a0 + 1)) x1)) (s2k (mS2.of q1.1.1) (s2k (S2_sfi e1) h1)) (s2r (mS2.of q1.1.1) (s2r (S2_sfi e1) h3)) (s2k (mS2.of q1.1.1) (s2k (S2_sfi e1) h4)) (s4 c1 w1 e1 w2 q1)) (Nat.le_of_ble_eq_true rfl) (by decide) rfl rfl ?_
    refine mW_istore_n (lv2 := [(3, .int (vX11_y w2 (fAt (hai w (a0 + 1)) x1) a0_1)), (2, .int (fAt (hai w (a0 + 1)) x1)), (0, .ref a0), (1, .int x1)]) dX11_removePoint_37 rfl (by decide) rfl ?_
    refine mW_loc [2, 3, 1, 0] (lv2 := [(0, .ref a0), (1, .int x1), (2, .int (fAt (hai w (a0 + 1)) x1)), (3, .int (vX11_y w2 (fAt (hai w (a0 + 1)) x1) a0_1))]) rfl ?_
    exact k1 c1 w1 e1 w2 q1
  · refine mW_iconst (v := 1) dX11_removePoint_11 (by decide) ?_
    refine mW_goto (tgt := 16) dX11_removePoint_12 (by decide) ?_
    refine mW_put (ty := .int) (w2 := sfi w a0 0 1) dX11_removePoint_16 p_X11_3 h1 (Nat.le_of_ble_eq_true rfl) (by first | rfl | decide | (repeat' split) <;> rfl) rfl (hN_sfi _ _ _ _) (hk_sfi _ _ _ _) (mE_sfi h1 (by decide) (ob_11_0 _ _ _)) ?_
    refine mW_nm (fun w3 e2 => ?_)
    refine mW_aload_n (j := 1) dX11_removePoint_19 rfl rfl ?_
    refine mW_getL (v := 1) dX11_removePoint_20 f_X11_3 (s2k (S2_sfi e2) h1) rfl (by rw [e2, e_hfi_sfi, up2_at]) ?_
    refine mW_if_eq (tgt := 28) dX11_removePoint_23 (by decide) (fun c => absurd c (by decide)) (fun _ => ?_)
    refine mW_iconst (v := 0) dX11_removePoint_26 (by decide) ?_
    exact mW_iret dX11_removePoint_27 rfl (k2 c1 w3 e2)
set_option maxHeartbeats 4000000 in
set_option maxRecDepth 100000 in
theorem gX11_removePoint_38 {G : mG} {w : mH} {Φ : mF} {a0 : Nat} {x1 x2 x3 : Int32} {c : Nat} {A : Nat → Int32} {a0_1 n_a0_1 : Nat} (h1 : hk w a0 = (11, 0)) (h2 : hfr w a0 1 = some a0_1) (h3 : hk w a0_1 = (16, n_a0_1)) (s1 : vp_in 29 n_a0_1) (s2 : (¬ ((hai w a0_1 29) ≤ (x2 + 1))) → vp_in (30 + (2 * (x2 + 1))) n_a0_1) (s3 : (¬ ((hai w a0_1 29) ≤ (x2 + 1))) → vp_in (30 + (2 * x2)) n_a0_1) (s4 : (¬ ((hai w a0_1 29) ≤ (x2 + 1))) → ∀ w2 : mH, (w2 = sai w a0_1 ((30 + (2 * x2)).toNatClampNeg) (vX11_x w (x2 + 1) a0_1)) → vp_in ((30 + (2 * (x2 + 1))) + 1) n_a0_1) (s5 : (¬ ((hai w a0_1 29) ≤ (x2 + 1))) → ∀ w2 : mH, (w2 = sai w a0_1 ((30 + (2 * x2)).toNatClampNeg) (vX11_x w (x2 + 1) a0_1)) → vp_in ((30 + (2 * x2)) + 1) n_a0_1) (k1 : ((hai w a0_1 29) ≤ (x2 + 1)) → ∀ w1 : mH, (w1 = sai w a0_1 29 ((hai w a0_1 29) - 1)) → Φ (.inl (some (.int x3))) w1) (k2 : (¬ ((hai w a0_1 29) ≤ (x2 + 1))) → ∀ w2 : mH, (w2 = sai w a0_1 ((30 + (2 * x2)).toNatClampNeg) (vX11_x w (x2 + 1) a0_1)) → ∀ w3 : mH, (w3 = sai w2 a0_1 (((30 + (2 * x2)) + 1).toNatClampNeg) (vX11_y w2 (x2 + 1) a0_1)) → mW G mX11_removePoint 4 0 0 38 [(0, .ref a0), (1, .int x1), (2, .int (x2 + 1)), (3, .int x3)] [] w3 Φ) : mW G mX11_removePoint 4 0 0 38 [(0, .ref a0), (1, .int x1), (2, .int x2), (3, .int x3)] [] w Φ := by
  refine mW_iload_n (j := 2) dX11_removePoint_38 rfl rfl ?_
  refine mW_iconst (v := 1) dX11_removePoint_39 (by decide) ?_
  refine mW_iadd dX11_removePoint_40 ?_
  refine mW_aload_n (j := 0) dX11_removePoint_41 rfl rfl ?_
  refine mW_callVe (As := []) (rest := [.int (x2 + 1)]) (kc2 := 0) (ks2 := 0) dX11_removePoint_42 l_X11_99 rfl h1 rfl (by decide) (qX11_points (w := w) (a0 := a0) h1 h2 h3 s1) (Nat.le_of_ble_eq_true rfl) (by decide) rfl rfl ?_
  refine mW_icmp_ge (tgt := 92) dX11_removePoint_45 (by decide) (fun c1 => ?_) (fun c1 => ?_)
  · refine mW_aload_n (j := 0) dX11_removePoint_92 rfl rfl ?_
    refine mW_getR dX11_removePoint_93 f_X11_13 h1 rfl h2 ?_
    refine mW_bipush (v := 29) dX11_removePoint_96 (by decide) ?_
    refine mW_dup2 dX11_removePoint_98 rfl rfl ?_
    refine mW_ialdJ dX11_removePoint_99 h3 s1 (j := 29) (by decide) ?_
    refine mW_iconst (v := 1) dX11_removePoint_100 (by decide) ?_
    refine mW_isub dX11_removePoint_101 ?_
    refine mW_iastJ dX11_removePoint_102 h3 s1 (j := 29) (by decide) ?_
    refine mW_nm (fun w1 e1 => ?_)
    refine mW_iload_n (j := 3) dX11_removePoint_103 rfl rfl ?_
    exact mW_iret dX11_removePoint_104 rfl (k1 c1 w1 e1)
  · refine mW_aload_n (j := 0) dX11_removePoint_48 rfl rfl ?_
    refine mW_getR dX11_removePoint_49 f_X11_13 h1 rfl h2 ?_
    refine mW_bipush (v := 30) dX11_removePoint_52 (by decide) ?_
    refine mW_iconst (v := 2) dX11_removePoint_54 (by decide) ?_
    refine mW_iload_n (j := 2) dX11_removePoint_55 rfl rfl ?_
    refine mW_imul dX11_removePoint_56 ?_
    refine mW_iadd dX11_removePoint_57 ?_
    refine mW_aload_n (j := 0) dX11_removePoint_58 rfl rfl ?_
    refine mW_iload_n (j := 2) dX11_removePoint_59 rfl rfl ?_
    refine mW_iconst (v := 1) dX11_removePoint_60 (by decide) ?_
    refine mW_iadd dX11_removePoint_61 ?_
    refine mW_callVe (As := [.int (x2 + 1)]) (rest := [.int (30 + (2 * x2)), .ref a0_1]) (kc2 := 0) (ks2 := 0) dX11_removePoint_62 l_X11_103 rfl h1 rfl (by decide) (qX11_x (w := w) (a0 := a0) (x1 := x2 + 1) h1 h2 h3 (s2 c1)) (Nat.le_of_ble_eq_true rfl) (by decide) rfl rfl ?_
    refine mW_iastJ dX11_removePoint_65 h3 (s3 c1) rfl ?_
    refine mW_nm (fun w2 e2 => ?_)
    refine mW_aload_n (j := 0) dX11_removePoint_66 rfl rfl ?_
    refine mW_getR dX11_removePoint_67 f_X11_13 (s2k (S2_sai e2) h1) rfl (s2r (S2_sai e2) h2) ?_
    refine mW_bipush (v := 30) dX11_removePoint_70 (by decide) ?_
    refine mW_iconst (v := 2) dX11_removePoint_72 (by decide) ?_
    refine mW_iload_n (j := 2) dX11_removePoint_73 rfl rfl ?_
    refine mW_imul dX11_removePoint_74 ?_
    refine mW_iadd dX11_removePoint_75 ?_
    refine mW_iconst (v := 1) dX11_removePoint_76 (by decide) ?_
    refine mW_iadd dX11_removePoint_77 ?_
    refine mW_aload_n (j := 0) dX11_removePoint_78 rfl rfl ?_
    refine mW_iload_n (j := 2) dX11_removePoint_79 rfl rfl ?_
    refine mW_iconst (v := 1) dX11_removePoint_80 (by decide) ?_
    refine mW_iadd dX11_removePoint_81 ?_
    refine mW_callVe (As := [.int (x2 + 1)]) (rest := [.int ((30 + (2 * x2)) + 1), .ref a0_1]) (kc2 := 0) (ks2 := 0) dX11_removePoint_82 l_X11_118 rfl (s2k (S2_sai e2) h1) rfl (by decide) (qX11_y (w := w2) (a0 := a0) (x1 := x2 + 1) (s2k (S2_sai e2) h1) (s2r (S2_sai e2) h2) (s2k (S2_sai e2) h3) (s4 c1 w2 e2)) (Nat.le_of_ble_eq_true rfl) (by decide) rfl rfl ?_
    refine mW_iastJ dX11_removePoint_85 (s2k (S2_sai e2) h3) (s5 c1 w2 e2) rfl ?_
    refine mW_nm (fun w3 e3 => ?_)
    refine mW_iinc (j := 2) (v := x2 + 1) (lv2 := [(2, .int (x2 + 1)), (0, .ref a0), (1, .int x1), (3, .int x3)]) dX11_removePoint_86 rfl rfl (by decide) rfl ?_
    refine mW_goto (tgt := 38) dX11_removePoint_89 (by decide) ?_
    refine mW_loc [1, 2, 0, 3] (lv2 := [(0, .ref a0), (1, .int x1), (2, .int (x2 + 1)), (3, .int x3)]) rfl ?_
    exact k2 c1 w2 e2 w3 e3
/-! the reference's points -/
theorem fAt_c {A B : Nat → Int32} {x : Int32} (h : ∀ k, k < 78 → A k = B k) (hA : ptOK A) : fAt A x = fAt B x := by
  have e : nPt A = nPt B := by unfold nPt; rw [h 29 (by decide)]
  unfold fAt
  rw [← e]
  have := hA.2
  exact fIdx_congr _ _ (fun q _ h2 => h (30 + 2 * q) (by omega))
theorem fAt_v (A : Nat → Int32) (x : Int32) : fAt A x = -1 ∨ ∃ q, q < nPt A ∧ fAt A x = nI q := by
  rcases fIdx_spec (X := rX A) (x := x) (nPt A) 0 with h | ⟨q, h1, h2, h3, h4⟩
  · exact Or.inl h.1
  · exact Or.inr ⟨q, by omega, h4⟩
theorem fIn2_c {A B : Nat → Int32} {k : Nat} {p v : Int32} (h : ∀ k, k < 78 → A k = B k) : ∀ j, j < 78 → fIn2 A k p v j = fIn2 B k p v j := fun j hj => by
  unfold fIn2 upd
  by_cases h1 : j = 30 + 2 * k + 1
  · rw [if_pos h1, if_pos h1]
  · rw [if_neg h1, if_neg h1]
    by_cases h2 : j = 30 + 2 * k
    · rw [if_pos h2, if_pos h2]
    · rw [if_neg h2, if_neg h2, h j hj]
theorem upd_c {A B : Nat → Int32} {k : Nat} {u v : Int32} (h : ∀ k, k < 78 → A k = B k) (e : u = v) : ∀ j, j < 78 → upd A k u j = upd B k v j := fun j hj => by
  unfold upd
  by_cases h1 : j = k
  · rw [if_pos h1, if_pos h1, e]
  · rw [if_neg h1, if_neg h1, h j hj]
theorem fIns_c {p : Int32} : ∀ n A B, n ≤ 5 → (∀ k, k < 78 → A k = B k) → (fIns p n A).2 = (fIns p n B).2 ∧ ∀ k, k < 78 → (fIns p n A).1 k = (fIns p n B).1 k
  | 0, A, B, _, h => ⟨rfl, h⟩
  | n + 1, A, B, hn, h => by
    rw [fIns, fIns, h (30 + 2 * n) (by omega)]
    by_cases c : B (30 + 2 * n) ≤ p
    · rw [if_pos c, if_pos c]; exact ⟨rfl, h⟩
    · rw [if_neg c, if_neg c]
      exact fIns_c n _ _ (by omega) (upd_c (upd_c h rfl) (h (30 + 2 * n + 1) (by omega)))
theorem fIns_hi {p : Int32} : ∀ n A, n ≤ 5 → (fIns p n A).2 ≤ n ∧ ∀ j, 78 ≤ j → (fIns p n A).1 j = A j
  | 0, A, _ => ⟨Nat.le_refl _, fun _ _ => rfl⟩
  | n + 1, A, hn => by
    rw [fIns]
    by_cases c : A (30 + 2 * n) ≤ p
    · rw [if_pos c]; exact ⟨Nat.le_refl _, fun _ _ => rfl⟩
    · rw [if_neg c]
      obtain ⟨i1, i2⟩ := fIns_hi (p := p) n (upd (upd A (30 + 2 * (n + 1)) (A (30 + 2 * n))) (30 + 2 * (n + 1) + 1) (A (30 + 2 * n + 1))) (by omega)
      exact ⟨by omega, fun j hj => by rw [i2 j hj, upd_ne (by omega), upd_ne (by omega)]⟩
theorem fIn2_hi {A : Nat → Int32} {k : Nat} {p v : Int32} (hk : k ≤ 5) : ∀ j, 78 ≤ j → fIn2 A k p v j = A j := fun j hj => by
  unfold fIn2
  rw [upd_ne (by omega), upd_ne (by omega)]
theorem sp_loop {G : mG} {w0 : mH} {a0 : Nat} {pl v : Int32} {Φ : mF} (z : zRef w0 a0) : ∀ k w R, k ≤ 5 → hai w (a0 + 1) = R → xF [] [1] a0 w0 w →
    (∀ w', xF [] [1] a0 w0 w' → hai w' (a0 + 1) = fIn2 (fIns pl k R).1 (fIns pl k R).2 pl v → Φ (.inl (some (.int (fIn2 (fIns pl k R).1 (fIns pl k R).2 pl v 29)))) w') → mW G mX11_setPoint 4 0 0 96 [(0, .ref a0), (1, .int pl), (2, .int v), (3, .int (nI k))] [] w Φ := by
  intro k
  induction k with
  | zero =>
    intro w R hk hR F hΦ
    have hs := mS2.of F.1
    refine gX11_setPoint_96 (c := 0) (A := fun _ => 0) (a0_1 := a0 + 1) ((zRef_s2 hs z).1) ((zRef_s2 hs z).2.1) ((zRef_s2 hs z).2.2.2.2.2.2.2.2.2.2.2.2.2.2.2.2.2.2.2.2.2.2.1) (by intro c1; rw [m_30]; exact m_vp (by omega) (by decide)) (by intro c1 w1 e1; rw [m_30, nI_1]; exact m_vp (by omega) (by decide)) (by intros; unfold vp_in; decide) (by intro c1; exact absurd (show nI 0 ≤ 0 by decide) c1) (by intro c1 c2; rw [m_30]; exact m_vp (by omega) (by decide)) (by intro c1 c2 w3 e3; rw [m_30, nI_1]; exact m_vp (by omega) (by decide)) (by intros; unfold vp_in; decide) (by intro c1 c2; rw [m_30]; exact m_vp (by omega) (by decide)) (by intro c1 c2 w5 e5; exact absurd (show nI 0 ≤ 0 by decide) c1) (by intro c1 c2 w5 e5; rw [m_30, nI_1]; exact m_vp (by omega) (by decide)) ?_ ?_ ?_
    · intro _ w1 e1 w2 e2
      have er : hai w2 (a0 + 1) = fIn2 R 0 pl v := by rw [e2, e_hai_sai, up2_row, e1, e_hai_sai, up2_row, hR]; rfl
      have := hΦ w2 (by rw [e2, e1]; exact xF_sai (xF_sai F (by decide)) (by decide)) er
      rw [er]
      exact this
    · intro c1
      exact absurd (show nI 0 ≤ 0 by decide) c1
    · intro c1
      exact absurd (show nI 0 ≤ 0 by decide) c1
  | succ k ih =>
    intro w R hk hR F hΦ
    have hs := mS2.of F.1
    have c0 : nI (k + 1) ≤ 0 ↔ k + 1 = 0 := m_le0 (by omega)
    have e1' : (30 : Int32) + 2 * nI (k + 1) = nI (30 + 2 * (k + 1)) := m_30
    have x1e : vX11_x w (nI (k + 1) - 1) (a0 + 1) = R (30 + 2 * k) := by rw [m_sub1, vX11_x_n (by omega), hR]; rfl
    refine gX11_setPoint_96 (c := 0) (A := fun _ => 0) (a0_1 := a0 + 1) ((zRef_s2 hs z).1) ((zRef_s2 hs z).2.1) ((zRef_s2 hs z).2.2.2.2.2.2.2.2.2.2.2.2.2.2.2.2.2.2.2.2.2.2.1) (by intro c1; rw [m_30]; exact m_vp (by omega) (by decide)) (by intro c1 w1 e1; rw [m_30, nI_1]; exact m_vp (by omega) (by decide)) (by intros; unfold vp_in; decide) (by intro c1; rw [m_sub1, m_30]; exact m_vp (by omega) (by decide)) (by intro c1 c2; rw [m_30]; exact m_vp (by omega) (by decide)) (by intro c1 c2 w3 e3; rw [m_30, nI_1]; exact m_vp (by omega) (by decide)) (by intros; unfold vp_in; decide) (by intro c1 c2; rw [m_30]; exact m_vp (by omega) (by decide)) (by intro c1 c2 w5 e5; rw [m_sub1, m_30, nI_1]; exact m_vp (by omega) (by decide)) (by intro c1 c2 w5 e5; rw [m_30, nI_1]; exact m_vp (by omega) (by decide)) ?_ ?_ ?_
    · intro c1
      rw [c0] at c1
      omega
    · intro c1 c2 w3 e3 w4 e4
      rw [x1e] at c2
      rw [fIns, if_pos c2] at hΦ
      rw [e1', m_cl (by omega)] at e3
      rw [e1', nI_1, m_cl (by omega)] at e4
      have er : hai w4 (a0 + 1) = fIn2 R (k + 1) pl v := by rw [e4, e_hai_sai, up2_row, e3, e_hai_sai, up2_row, hR]; rfl
      have := hΦ w4 (by rw [e4, e3]; exact xF_sai (xF_sai F (by decide)) (by decide)) er
      rw [er]
      exact this
    · intro c1 c2 w5 e5 w6 e6
      rw [x1e] at c2 e5
      rw [fIns, if_neg c2] at hΦ
      rw [e1', m_cl (by omega)] at e5
      have r5 : hai w5 (a0 + 1) = upd R (30 + 2 * (k + 1)) (R (30 + 2 * k)) := by rw [e5, e_hai_sai, up2_row, hR]
      have y1e : vX11_y w5 (nI (k + 1) - 1) (a0 + 1) = R (30 + 2 * k + 1) := by
        rw [m_sub1, vX11_y_n (by omega), r5]
        show upd R (30 + 2 * (k + 1)) (R (30 + 2 * k)) (30 + 2 * k + 1) = _
        rw [upd_ne (by omega)]
      rw [y1e, e1', nI_1, m_cl (by omega)] at e6
      rw [pk_m1]
      exact ih w6 _ (by omega) (by rw [e6, e_hai_sai, up2_row, r5]) (by rw [e6, e5]; exact xF_sai (xF_sai F (by decide)) (by decide)) hΦ

def tSpt (A : Nat → Int32) (x1 x2 : Int32) : Int32 := if vX10_isWithin x1 (-10000) 10000 = 0 then 1 else if vX10_isWithin x2 (-1000) 1000 = 0 then 1 else if fAt A x1 < 0 then (if A 29 = 5 then 2 else 0) else 0
theorem kp_row {w w1 w2 : mH} {a c : Nat} (hA : ptOK (hai w (a + 1))) (e1 : w1 = sfi w a 0 0) (K : kpO w1 w2 a c) : (∀ x : Int32, ptOK (hai w2 (a + 1)) ∧ fAt (hai w2 (a + 1)) x = fAt (hai w (a + 1)) x ∧ ((0 : Int32) ≤ fAt (hai w2 (a + 1)) x → ∃ q, q < 5 ∧ fAt (hai w2 (a + 1)) x = nI q)) ∧ ∀ k, k < 78 → hai w2 (a + 1) k = hai w (a + 1) k := by
  have h : ∀ k, k < 78 → hai w2 (a + 1) k = hai w (a + 1) k := fun k hk => by rw [kp_0 K hk, e1]; rfl
  have hn : nPt (hai w2 (a + 1)) = nPt (hai w (a + 1)) := by unfold nPt; rw [h 29 (by decide)]
  have h2 : ptOK (hai w2 (a + 1)) := ⟨by rw [h 29 (by decide), hn]; exact hA.1, by rw [hn]; exact hA.2⟩
  refine ⟨fun x => ⟨h2, fAt_c h h2, fun q => ?_⟩, h⟩
  rcases fAt_v (hai w2 (a + 1)) x with e | ⟨i, hi, e⟩
  · rw [e] at q; exact absurd q (by decide)
  · exact ⟨i, by have := h2.2; omega, e⟩
theorem rX11_setPoint {G : mG} {w : mH} {a0 c : Nat} {x1 x2 : Int32} (z : zRef w a0) (h5 : hfi w a0 5 = nI c) (hc : c ≤ 6) (hA : ptOK (hai w (a0 + 1))) : mC G mX11_setPoint 4 0 0 [.ref a0, .int x1, .int x2] w (mP (some (.int (if tSpt (hai w (a0 + 1)) x1 x2 = 0 then fPut (hai w (a0 + 1)) x1 x2 29 else 0))) (fun w' => chO w w' a0 c (tSpt (hai w (a0 + 1)) x1 x2) (fPut (hai w (a0 + 1)) x1 x2))) := by
  refine mC_of (by decide +kernel) rfl (Nat.le_of_ble_eq_true rfl) rfl ?_
  refine gX11_setPoint_0 (c := c) (A := fun _ => 0) (a0_1 := a0 + 1) z.1 z (by intro c1 c2; exact hA) (by intro c1 c2 c3 w2 e2; rw [e2, e_hfi_sfi, up2_k _ _ _ (by decide)]; exact h5) (by intro c1 c2 c3 w2 e2; exact hc) (by intro c1 c2 c3 w2 e2 w3 q1; have K := kp_row hA e2 q1; exact (K.1 0).1) z.2.1 z.2.2.2.2.2.2.2.2.2.2.2.2.2.2.2.2.2.2.2.2.2.2.1 (by intro c1 c2 c3 w2 e2 w3 q1 c4; have K := kp_row hA e2 q1; have cx := c4; obtain ⟨q, hq, hqe⟩ := (K.1 x1).2.2 cx; rw [hqe, m_30]; exact m_vp (by omega) (by decide)) (by intro c1 c2 c3 w2 e2 w3 q1 c4 w4 e3; have K := kp_row hA e2 q1; have cx := c4; obtain ⟨q, hq, hqe⟩ := (K.1 x1).2.2 cx; rw [hqe, m_30, nI_1]; exact m_vp (by omega) (by decide)) (by intros; unfold vp_in; decide) (by intros; unfold vp_in; decide) (by intros; unfold vp_in; decide) (by intro c1 c2 c3 c5 w7 e6; rw [e6, e_hfi_sfi, up2_k _ _ _ (by decide)]; exact h5) (by intro c1 c2 c3 c5 w7 e6; exact hc) (by intro c1 c2 c3 c5 w7 e6 w8 q2; have K := kp_row hA e6 q2; exact (K.1 0).1) (by intro c1 c2 c3 c5 w7 e6 w8 q2 c6; have K := kp_row hA e6 q2; have cx := c6; obtain ⟨q, hq, hqe⟩ := (K.1 x1).2.2 cx; rw [hqe, m_30]; exact m_vp (by omega) (by decide)) (by intro c1 c2 c3 c5 w7 e6 w8 q2 c6 w9 e7; have K := kp_row hA e6 q2; have cx := c6; obtain ⟨q, hq, hqe⟩ := (K.1 x1).2.2 cx; rw [hqe, m_30, nI_1]; exact m_vp (by omega) (by decide)) ?_ ?_ ?_ ?_ ?_ ?_ ?_
  · intro c1 w1 e1
    rw [in_eq (a := -10000) (b := 10000) (A := -10000) (B := 10000) rfl rfl] at c1
    have et : tSpt (hai w (a0 + 1)) x1 x2 = 1 := by unfold tSpt; rw [if_pos c1]
    rw [et, if_neg (by decide)]
    exact mP_of (chO_bad (by decide) e1)
  · intro c1 c2 c3 w2 e2 w3 q1 c4 w4 e3 w5 e4
    rw [in_eq (a := -10000) (b := 10000) (A := -10000) (B := 10000) rfl rfl] at c1
    rw [in_eq (a := -1000) (b := 1000) (A := -1000) (B := 1000) rfl rfl] at c2
    have K := kp_row hA e2 q1
    have cx := c4
    obtain ⟨q, hq, hqe⟩ := (K.1 x1).2.2 cx
    have hA5 := hA.2
    have cy : ¬ fAt (hai w (a0 + 1)) x1 < 0 := Int32.not_lt.mpr (by rw [← (K.1 x1).2.1]; exact cx)
    have et : tSpt (hai w (a0 + 1)) x1 x2 = 0 := by unfold tSpt; rw [if_neg c1, if_neg c2, if_neg cy]
    have ep : fPut (hai w (a0 + 1)) x1 x2 = fIn2 (hai w (a0 + 1)) q x1 x2 := by unfold fPut; rw [if_neg cy, ← (K.1 x1).2.1, hqe, m_cl (by omega)]
    rw [hqe, m_30, m_cl (by omega)] at e3
    rw [hqe, m_30, nI_1, m_cl (by omega)] at e4
    have er : hai w5 (a0 + 1) = fIn2 (hai w3 (a0 + 1)) q x1 x2 := by rw [e4, e_hai_sai, up2_row, e3, e_hai_sai, up2_row]; rfl
    rw [et, if_pos rfl, ep, er, fIn2_c K.2 29 (by decide)]
    exact mP_of (chO_ok e2 q1 (by rw [e4, e3]; exact xF_sai (xF_sai xF.rf (by decide)) (by decide)) (fun k hk => by rw [er]; exact fIn2_c K.2 k hk) (fun j hj => by rw [er]; exact fIn2_hi (by omega) j hj))
  · intro c1 c2 c3 w2 e2 w3 q1 c4 w6 e5
    rw [in_eq (a := -10000) (b := 10000) (A := -10000) (B := 10000) rfl rfl] at c1
    rw [in_eq (a := -1000) (b := 1000) (A := -1000) (B := 1000) rfl rfl] at c2
    have K := kp_row hA e2 q1
    exact absurd (by rw [(K.1 x1).2.1]; exact c3) c4
  · intro c1 c2 c3 c5 w7 e6 w8 q2 c6 w9 e7 w10 e8
    rw [in_eq (a := -10000) (b := 10000) (A := -10000) (B := 10000) rfl rfl] at c1
    rw [in_eq (a := -1000) (b := 1000) (A := -1000) (B := 1000) rfl rfl] at c2
    have K := kp_row hA e6 q2
    have cx := c6
    exact absurd (by rw [← (K.1 x1).2.1]; exact cx) c3
  · intro c1 c2 c3 c5 w7 e6 w8 q2 c6 w11 e9
    rw [in_eq (a := -10000) (b := 10000) (A := -10000) (B := 10000) rfl rfl] at c1
    rw [in_eq (a := -1000) (b := 1000) (A := -1000) (B := 1000) rfl rfl] at c2
    have K := kp_row hA e6 q2
    have cy : fAt (hai w (a0 + 1)) x1 < 0 := Int32.not_le.mp (by rw [← (K.1 x1).2.1]; exact c6)
    have h29 : hai w (a0 + 1) 29 = nI (nPt (hai w (a0 + 1))) := hA.1
    have hA5 := hA.2
    have et : tSpt (hai w (a0 + 1)) x1 x2 = 0 := by unfold tSpt; rw [if_neg c1, if_neg c2, if_pos cy, if_neg c5]
    have ep : fPut (hai w (a0 + 1)) x1 x2 = fIn2 (fIns x1 (nPt (hai w (a0 + 1))) (upd (hai w (a0 + 1)) 29 (hai w (a0 + 1) 29 + 1))).1 (fIns x1 (nPt (hai w (a0 + 1))) (upd (hai w (a0 + 1)) 29 (hai w (a0 + 1) 29 + 1))).2 x1 x2 := by unfold fPut; rw [if_pos cy]
    have e29 : hai w8 (a0 + 1) 29 = nI (nPt (hai w (a0 + 1))) := by rw [K.2 29 (by decide)]; exact h29
    have F0 : xF [] [1] a0 w8 w11 := by rw [e9]; exact xF_sai xF.rf (by decide)
    have Z8 := zRef_s2 (mS2.of q2.1.1) (zRef_s2 (mS2.of (show xF [0] [] a0 w w7 by rw [e6]; exact xF_sfi xF.rf (by decide)).1) z)
    rw [e29] at e9 ⊢
    rw [et, if_pos rfl, ep]
    have cc := fIns_c (p := x1) (nPt (hai w (a0 + 1))) _ _ hA5 (upd_c (k := 29) (u := nI (nPt (hai w (a0 + 1))) + 1) (v := hai w (a0 + 1) 29 + 1) K.2 (by rw [h29]))
    refine sp_loop Z8 (nPt (hai w (a0 + 1))) w11 (upd (hai w8 (a0 + 1)) 29 (nI (nPt (hai w (a0 + 1))) + 1)) hA5 (by rw [e9, e_hai_sai, up2_row]) F0 (fun w' F' er => ?_)
    have ek : ∀ k, k < 78 → fIn2 (fIns x1 (nPt (hai w (a0 + 1))) (upd (hai w8 (a0 + 1)) 29 (nI (nPt (hai w (a0 + 1))) + 1))).1 (fIns x1 (nPt (hai w (a0 + 1))) (upd (hai w8 (a0 + 1)) 29 (nI (nPt (hai w (a0 + 1))) + 1))).2 x1 x2 k = fIn2 (fIns x1 (nPt (hai w (a0 + 1))) (upd (hai w (a0 + 1)) 29 (hai w (a0 + 1) 29 + 1))).1 (fIns x1 (nPt (hai w (a0 + 1))) (upd (hai w (a0 + 1)) 29 (hai w (a0 + 1) 29 + 1))).2 x1 x2 k := fun k hk => by
      rw [cc.1]
      exact fIn2_c cc.2 k hk
    rw [ek 29 (by decide)]
    have hi := fIns_hi (p := x1) (nPt (hai w (a0 + 1))) (upd (hai w8 (a0 + 1)) 29 (nI (nPt (hai w (a0 + 1))) + 1)) hA5
    exact mP_of (chO_ok e6 q2 F' (fun k hk => by rw [er]; exact ek k hk) (fun j hj => by rw [er, fIn2_hi (by omega) j hj, hi.2 j hj, upd_ne (by omega)]))
  · intro c1 c2 c3 c5 w12 e10
    rw [in_eq (a := -10000) (b := 10000) (A := -10000) (B := 10000) rfl rfl] at c1
    rw [in_eq (a := -1000) (b := 1000) (A := -1000) (B := 1000) rfl rfl] at c2
    have et : tSpt (hai w (a0 + 1)) x1 x2 = 2 := by unfold tSpt; rw [if_neg c1, if_neg c2, if_pos (Int32.not_le.mp c3), if_pos c5]
    rw [et, if_neg (by decide)]
    exact mP_of (chO_bad (by decide) e10)
  · intro c1 c2 w13 e11
    rw [in_eq (a := -10000) (b := 10000) (A := -10000) (B := 10000) rfl rfl] at c1
    rw [in_eq (a := -1000) (b := 1000) (A := -1000) (B := 1000) rfl rfl] at c2
    have et : tSpt (hai w (a0 + 1)) x1 x2 = 1 := by unfold tSpt; rw [if_neg c1, if_pos c2]
    rw [et, if_neg (by decide)]
    exact mP_of (chO_bad (by decide) e11)

