abbrev mX11_lowest : mM := (yX11_lowest, cX11_lowest, 7, (some .int), [])
set_option maxHeartbeats 4000000 in
set_option maxRecDepth 100000 in
theorem gX11_lowest_0 {G : mG} {w : mH} {Φ : mF} {a0 : Nat} {x1 : Int32} {y2 : Int64} {a0_1 n_a0_1 : Nat} (h1 : hk w a0 = (11, 0)) (h2 : hfr w a0 1 = some a0_1) (h3 : hk w a0_1 = (16, n_a0_1)) (s1 : (¬ ((vX11_in x1.toInt64 0 3) = 0)) → ∀ w2 : mH, (w2 = sfi w a0 0 0) → vp_in x1 n_a0_1) (k1 : ((vX11_in x1.toInt64 0 3) = 0) → ∀ w1 : mH, (w1 = sfi w a0 0 1) → Φ (.inl (some (.int 0))) w1) (k2 : (¬ ((vX11_in x1.toInt64 0 3) = 0)) → ∀ w2 : mH, (w2 = sfi w a0 0 0) → mW G mX11_lowest 8 0 0 47 [(0, .ref a0), (1, .int x1), (2, .long y2), (4, .int (hai w2 a0_1 x1.toNatClampNeg)), (5, .int ((hai w2 a0_1 x1.toNatClampNeg) + 1)), (6, .int 1)] [] w2 Φ) : mW G mX11_lowest 8 0 0 0 [(0, .ref a0), (1, .int x1), (2, .long y2)] [] w Φ := by
  refine mW_aload_n (j := 0) dX11_lowest_0 rfl rfl ?_
  refine mW_iload_n (j := 1) dX11_lowest_1 rfl rfl ?_
  refine mW_i2l dX11_lowest_2 ?_
  refine mW_lconst (v := 0) dX11_lowest_3 (by decide) ?_
  refine mW_ldc2 (v := 3) dX11_lowest_4 u1957 ?_
  refine mW_callSe (As := [.long x1.toInt64, .long 0, .long 3]) (rest := [.ref a0]) (kc2 := 0) (ks2 := 0) dX11_lowest_7 l_X11_92 rfl (qX11_in (w := w) (y0 := x1.toInt64) (y2 := 0) (y4 := 3)) (Nat.le_of_ble_eq_true rfl) (by decide) rfl rfl ?_
  refine mW_if_eq (tgt := 17) dX11_lowest_10 (by decide) (fun c1 => ?_) (fun c1 => ?_)
  · refine mW_iconst (v := 1) dX11_lowest_17 (by decide) ?_
    refine mW_put (ty := .int) (w2 := sfi w a0 0 1) dX11_lowest_18 p_X11_3 h1 (Nat.le_of_ble_eq_true rfl) (by first | rfl | decide | (repeat' split) <;> rfl) rfl (hN_sfi _ _ _ _) (hk_sfi _ _ _ _) (mE_sfi h1 (by decide) (ob_11_0 _ _ _)) ?_
    refine mW_nm (fun w1 e1 => ?_)
    refine mW_aload_n (j := 0) dX11_lowest_21 rfl rfl ?_
    refine mW_getL (v := 1) dX11_lowest_22 f_X11_3 (s2k (S2_sfi e1) h1) rfl (by rw [e1, e_hfi_sfi, up2_at]) ?_
    refine mW_if_eq (tgt := 30) dX11_lowest_25 (by decide) (fun c => absurd c (by decide)) (fun _ => ?_)
    refine mW_iconst (v := 0) dX11_lowest_28 (by decide) ?_
    exact mW_iret dX11_lowest_29 rfl (k1 c1 w1 e1)
  · refine mW_iconst (v := 0) dX11_lowest_13 (by decide) ?_
    refine mW_goto (tgt := 18) dX11_lowest_14 (by decide) ?_
    refine mW_put (ty := .int) (w2 := sfi w a0 0 0) dX11_lowest_18 p_X11_3 h1 (Nat.le_of_ble_eq_true rfl) (by first | rfl | decide | (repeat' split) <;> rfl) rfl (hN_sfi _ _ _ _) (hk_sfi _ _ _ _) (mE_sfi h1 (by decide) (ob_11_0 _ _ _)) ?_
    refine mW_nm (fun w2 e2 => ?_)
    refine mW_aload_n (j := 0) dX11_lowest_21 rfl rfl ?_
    refine mW_getL (v := 0) dX11_lowest_22 f_X11_3 (s2k (S2_sfi e2) h1) rfl (by rw [e2, e_hfi_sfi, up2_at]) ?_
    refine mW_if_eq (tgt := 30) dX11_lowest_25 (by decide) (fun _ => ?_) (fun c => absurd (by decide) c)
    refine mW_aload_n (j := 0) dX11_lowest_30 rfl rfl ?_
    refine mW_getR dX11_lowest_31 f_X11_13 (s2k (S2_sfi e2) h1) rfl (s2r (S2_sfi e2) h2) ?_
    refine mW_iload_n (j := 1) dX11_lowest_34 rfl rfl ?_
    refine mW_ialdJ dX11_lowest_35 (s2k (S2_sfi e2) h3) (s1 c1 w2 e2) rfl ?_
    refine mW_istore (lv2 := [(4, .int (hai w2 a0_1 x1.toNatClampNeg)), (0, .ref a0), (1, .int x1), (2, .long y2)]) dX11_lowest_36 (by decide) rfl ?_
    refine mW_iload (j := 0) dX11_lowest_38 rfl ?_
    refine mW_iconst (v := 1) dX11_lowest_40 (by decide) ?_
    refine mW_iadd dX11_lowest_41 ?_
    refine mW_istore (lv2 := [(5, .int ((hai w2 a0_1 x1.toNatClampNeg) + 1)), (4, .int (hai w2 a0_1 x1.toNatClampNeg)), (0, .ref a0), (1, .int x1), (2, .long y2)]) dX11_lowest_42 (by decide) rfl ?_
    refine mW_iconst (v := 1) dX11_lowest_44 (by decide) ?_
    refine mW_istore (lv2 := [(6, .int 1), (5, .int ((hai w2 a0_1 x1.toNatClampNeg) + 1)), (4, .int (hai w2 a0_1 x1.toNatClampNeg)), (0, .ref a0), (1, .int x1), (2, .long y2)]) dX11_lowest_45 (by decide) rfl ?_
    refine mW_loc [3, 4, 5, 2, 1, 0] (lv2 := [(0, .ref a0), (1, .int x1), (2, .long y2), (4, .int (hai w2 a0_1 x1.toNatClampNeg)), (5, .int ((hai w2 a0_1 x1.toNatClampNeg) + 1)), (6, .int 1)]) rfl ?_
    exact k2 c1 w2 e2
set_option maxHeartbeats 4000000 in
set_option maxRecDepth 100000 in
theorem gX11_lowest_47 {G : mG} {w : mH} {Φ : mF} {a0 : Nat} {x1 : Int32} {y2 : Int64} {x4 x5 x6 : Int32} {N : Nat} {T : Nat → Nat → Int32} {a0_1 n_a0_1 a0_2 n_a0_2 : Nat} (h1 : hk w a0 = (11, 0)) (h2 : hfr w a0 1 = some a0_1) (h3 : hk w a0_1 = (16, n_a0_1)) (s1 : (x6 = 0) → vp_in x1 n_a0_1) (h4 : hfr w a0 2 = some a0_2) (h5 : hk w a0_2 = (16, n_a0_2)) (s2 : (¬ (x6 = 0)) → vp_in x1 n_a0_2) (s3 : (¬ (x6 = 0)) → (x5 ≤ (hai w a0_2 x1.toNatClampNeg)) → vp_in x1 n_a0_1) (s4 : (¬ (x6 = 0)) → (¬ (x5 ≤ (hai w a0_2 x1.toNatClampNeg))) → vp_in x1 n_a0_1) (h6 : zRef w a0) (s5 : (¬ (x6 = 0)) → (¬ (x5 ≤ (hai w a0_2 x1.toNatClampNeg))) → ∀ w7 : mH, (w7 = sai w a0_1 x1.toNatClampNeg (x5 - 1)) → rOK (hai w7 (a0 + 1)) N) (s6 : (¬ (x6 = 0)) → (¬ (x5 ≤ (hai w a0_2 x1.toNatClampNeg))) → ∀ w7 : mH, (w7 = sai w a0_1 x1.toNatClampNeg (x5 - 1)) → ∀ w8 : mH, ((xF [22, 24] [8, 9, 10, 11, 12, 13, 14] a0 w7 w8 ∧ hfi w8 a0 22 = nI N ∧ wT w8 a0 (rTr (hai w7 (a0 + 1))) N (N + 1))) → hfi w8 a0 22 = nI N) (s7 : (¬ (x6 = 0)) → (¬ (x5 ≤ (hai w a0_2 x1.toNatClampNeg))) → ∀ w7 : mH, (w7 = sai w a0_1 x1.toNatClampNeg (x5 - 1)) → ∀ w8 : mH, ((xF [22, 24] [8, 9, 10, 11, 12, 13, 14] a0 w7 w8 ∧ hfi w8 a0 22 = nI N ∧ wT w8 a0 (rTr (hai w7 (a0 + 1))) N (N + 1))) → N ≤ 200) (s8 : (¬ (x6 = 0)) → (¬ (x5 ≤ (hai w a0_2 x1.toNatClampNeg))) → ∀ w7 : mH, (w7 = sai w a0_1 x1.toNatClampNeg (x5 - 1)) → ∀ w8 : mH, ((xF [22, 24] [8, 9, 10, 11, 12, 13, 14] a0 w7 w8 ∧ hfi w8 a0 22 = nI N ∧ wT w8 a0 (rTr (hai w7 (a0 + 1))) N (N + 1))) → 1 ≤ N) (s9 : (¬ (x6 = 0)) → (¬ (x5 ≤ (hai w a0_2 x1.toNatClampNeg))) → ∀ w7 : mH, (w7 = sai w a0_1 x1.toNatClampNeg (x5 - 1)) → ∀ w8 : mH, ((xF [22, 24] [8, 9, 10, 11, 12, 13, 14] a0 w7 w8 ∧ hfi w8 a0 22 = nI N ∧ wT w8 a0 (rTr (hai w7 (a0 + 1))) N (N + 1))) → wT w8 a0 T N (N + 1)) (k1 : (x6 = 0) → ∀ w1 : mH, (w1 = sai w a0_1 x1.toNatClampNeg x4) → (x5 ≤ x4) → ∀ w2 : mH, (w2 = sfi w1 a0 0 0) → Φ (.inl (some (.int x5))) w2) (k2 : (x6 = 0) → ∀ w1 : mH, (w1 = sai w a0_1 x1.toNatClampNeg x4) → (¬ (x5 ≤ x4)) → ∀ w3 : mH, (w3 = sfi w1 a0 0 2) → Φ (.inl (some (.int 0))) w3) (k3 : (¬ (x6 = 0)) → (x5 ≤ (hai w a0_2 x1.toNatClampNeg)) → ∀ w4 : mH, (w4 = sai w a0_1 x1.toNatClampNeg x4) → (x5 ≤ x4) → ∀ w5 : mH, (w5 = sfi w4 a0 0 0) → Φ (.inl (some (.int x5))) w5) (k4 : (¬ (x6 = 0)) → (x5 ≤ (hai w a0_2 x1.toNatClampNeg)) → ∀ w4 : mH, (w4 = sai w a0_1 x1.toNatClampNeg x4) → (¬ (x5 ≤ x4)) → ∀ w6 : mH, (w6 = sfi w4 a0 0 2) → Φ (.inl (some (.int 0))) w6) (k5 : (¬ (x6 = 0)) → (¬ (x5 ≤ (hai w a0_2 x1.toNatClampNeg))) → ∀ w7 : mH, (w7 = sai w a0_1 x1.toNatClampNeg (x5 - 1)) → ∀ w8 : mH, ((xF [22, 24] [8, 9, 10, 11, 12, 13, 14] a0 w7 w8 ∧ hfi w8 a0 22 = nI N ∧ wT w8 a0 (rTr (hai w7 (a0 + 1))) N (N + 1))) → (0 < (lg_cmp (tCost T N (fun k => hai w8 (a0 + 1) (15 + k)) (hai w8 (a0 + 1) 14)) y2)) → mW G mX11_lowest 8 0 0 47 [(0, .ref a0), (1, .int x1), (2, .long y2), (4, .int x4), (5, .int (x5 - 0)), (6, .int 0)] [] w8 Φ) (k6 : (¬ (x6 = 0)) → (¬ (x5 ≤ (hai w a0_2 x1.toNatClampNeg))) → ∀ w7 : mH, (w7 = sai w a0_1 x1.toNatClampNeg (x5 - 1)) → ∀ w8 : mH, ((xF [22, 24] [8, 9, 10, 11, 12, 13, 14] a0 w7 w8 ∧ hfi w8 a0 22 = nI N ∧ wT w8 a0 (rTr (hai w7 (a0 + 1))) N (N + 1))) → (¬ (0 < (lg_cmp (tCost T N (fun k => hai w8 (a0 + 1) (15 + k)) (hai w8 (a0 + 1) 14)) y2))) → mW G mX11_lowest 8 0 0 47 [(0, .ref a0), (1, .int x1), (2, .long y2), (4, .int x4), (5, .int (x5 - 1)), (6, .int 1)] [] w8 Φ) : mW G mX11_lowest 8 0 0 47 [(0, .ref a0), (1, .int x1), (2, .long y2), (4, .int x4), (5, .int x5), (6, .int x6)] [] w Φ := by
  refine mW_iload (j := 5) dX11_lowest_47 rfl ?_
  refine mW_if_eq (tgt := 111) dX11_lowest_49 (by decide) (fun c1 => ?_) (fun c1 => ?_)
  · refine mW_aload_n (j := 0) dX11_lowest_111 rfl rfl ?_
    refine mW_getR dX11_lowest_112 f_X11_13 h1 rfl h2 ?_
    refine mW_iload_n (j := 1) dX11_lowest_115 rfl rfl ?_
    refine mW_iload (j := 3) dX11_lowest_116 rfl ?_
    refine mW_iastJ dX11_lowest_118 h3 (s1 c1) rfl ?_
    refine mW_nm (fun w1 e1 => ?_)
    refine mW_aload_n (j := 0) dX11_lowest_119 rfl rfl ?_
    refine mW_iload (j := 4) dX11_lowest_120 rfl ?_
    refine mW_iload (j := 3) dX11_lowest_122 rfl ?_
    refine mW_icmp_le (tgt := 131) dX11_lowest_124 (by decide) (fun c2 => ?_) (fun c2 => ?_)
    · refine mW_iconst (v := 0) dX11_lowest_131 (by decide) ?_
      refine mW_put (ty := .int) (w2 := sfi w1 a0 0 0) dX11_lowest_132 p_X11_3 (s2k (S2_sai e1) h1) (Nat.le_of_ble_eq_true rfl) (by first | rfl | decide | (repeat' split) <;> rfl) rfl (hN_sfi _ _ _ _) (hk_sfi _ _ _ _) (mE_sfi (s2k (S2_sai e1) h1) (by decide) (ob_11_0 _ _ _)) ?_
      refine mW_nm (fun w2 e2 => ?_)
      refine mW_aload_n (j := 0) dX11_lowest_135 rfl rfl ?_
      refine mW_getL (v := 0) dX11_lowest_136 f_X11_3 (s2k (S2_sfi e2) (s2k (S2_sai e1) h1)) rfl (by rw [e2, e_hfi_sfi, up2_at]) ?_
      refine mW_if_ne (tgt := 147) dX11_lowest_139 (by decide) (fun c => absurd (by decide) c) (fun _ => ?_)
      refine mW_iload (j := 4) dX11_lowest_142 rfl ?_
      refine mW_goto (tgt := 148) dX11_lowest_144 (by decide) ?_
      exact mW_iret dX11_lowest_148 rfl (k1 c1 w1 e1 c2 w2 e2)
    · refine mW_iconst (v := 2) dX11_lowest_127 (by decide) ?_
      refine mW_goto (tgt := 132) dX11_lowest_128 (by decide) ?_
      refine mW_put (ty := .int) (w2 := sfi w1 a0 0 2) dX11_lowest_132 p_X11_3 (s2k (S2_sai e1) h1) (Nat.le_of_ble_eq_true rfl) (by first | rfl | decide | (repeat' split) <;> rfl) rfl (hN_sfi _ _ _ _) (hk_sfi _ _ _ _) (mE_sfi (s2k (S2_sai e1) h1) (by decide) (ob_11_0 _ _ _)) ?_
      refine mW_nm (fun w3 e3 => ?_)
      refine mW_aload_n (j := 0) dX11_lowest_135 rfl rfl ?_
      refine mW_getL (v := 2) dX11_lowest_136 f_X11_3 (s2k (S2_sfi e3) (s2k (S2_sai e1) h1)) rfl (by rw [e3, e_hfi_sfi, up2_at]) ?_
      refine mW_if_ne (tgt := 147) dX11_lowest_139 (by decide) (fun _ => ?_) (fun c => absurd c (by decide))
      refine mW_iconst (v := 0) dX11_lowest_147 (by decide) ?_
      exact mW_iret dX11_lowest_148 rfl (k2 c1 w1 e1 c2 w3 e3)
  · refine mW_iload (j := 4) dX11_lowest_52 rfl ?_
    refine mW_aload_n (j := 0) dX11_lowest_54 rfl rfl ?_
    refine mW_getR dX11_lowest_55 f_X11_17 h1 rfl h4 ?_
    refine mW_iload_n (j := 1) dX11_lowest_58 rfl rfl ?_
    refine mW_ialdJ dX11_lowest_59 h5 (s2 c1) rfl ?_
    refine mW_icmp_le (tgt := 111) dX11_lowest_60 (by decide) (fun c3 => ?_) (fun c3 => ?_)
    · refine mW_aload_n (j := 0) dX11_lowest_111 rfl rfl ?_
      refine mW_getR dX11_lowest_112 f_X11_13 h1 rfl h2 ?_
      refine mW_iload_n (j := 1) dX11_lowest_115 rfl rfl ?_
      refine mW_iload (j := 3) dX11_lowest_116 rfl ?_
      refine mW_iastJ dX11_lowest_118 h3 (s3 c1 c3) rfl ?_
      refine mW_nm (fun w4 e4 => ?_)
      refine mW_aload_n (j := 0) dX11_lowest_119 rfl rfl ?_
      refine mW_iload (j := 4) dX11_lowest_120 rfl ?_
      refine mW_iload (j := 3) dX11_lowest_122 rfl ?_
      refine mW_icmp_le (tgt := 131) dX11_lowest_124 (by decide) (fun c4 => ?_) (fun c4 => ?_)
      · refine mW_iconst (v := 0) dX11_lowest_131 (by decide) ?_
        refine mW_put (ty := .int) (w2 := sfi w4 a0 0 0) dX11_lowest_132 p_X11_3 (s2k (S2_sai e4) h1) (Nat.le_of_ble_eq_true rfl) (by first | rfl | decide | (repeat' split) <;> rfl) rfl (hN_sfi _ _ _ _) (hk_sfi _ _ _ _) (mE_sfi (s2k (S2_sai e4) h1) (by decide) (ob_11_0 _ _ _)) ?_
        refine mW_nm (fun w5 e5 => ?_)
        refine mW_aload_n (j := 0) dX11_lowest_135 rfl rfl ?_
        refine mW_getL (v := 0) dX11_lowest_136 f_X11_3 (s2k (S2_sfi e5) (s2k (S2_sai e4) h1)) rfl (by rw [e5, e_hfi_sfi, up2_at]) ?_
        refine mW_if_ne (tgt := 147) dX11_lowest_139 (by decide) (fun c => absurd (by decide) c) (fun _ => ?_)
        refine mW_iload (j := 4) dX11_lowest_142 rfl ?_
        refine mW_goto (tgt := 148) dX11_lowest_144 (by decide) ?_
        exact mW_iret dX11_lowest_148 rfl (k3 c1 c3 w4 e4 c4 w5 e5)
      · refine mW_iconst (v := 2) dX11_lowest_127 (by decide) ?_
        refine mW_goto (tgt := 132) dX11_lowest_128 (by decide) ?_
        refine mW_put (ty := .int) (w2 := sfi w4 a0 0 2) dX11_lowest_132 p_X11_3 (s2k (S2_sai e4) h1) (Nat.le_of_ble_eq_true rfl) (by first | rfl | decide | (repeat' split) <;> rfl) rfl (hN_sfi _ _ _ _) (hk_sfi _ _ _ _) (mE_sfi (s2k (S2_sai e4) h1) (by decide) (ob_11_0 _ _ _)) ?_
        refine mW_nm (fun w6 e6 => ?_)
        refine mW_aload_n (j := 0) dX11_lowest_135 rfl rfl ?_
        refine mW_getL (v := 2) dX11_lowest_136 f_X11_3 (s2k (S2_sfi e6) (s2k (S2_sai e4) h1)) rfl (by rw [e6, e_hfi_sfi, up2_at]) ?_
        refine mW_if_ne (tgt := 147) dX11_lowest_139 (by decide) (fun _ => ?_) (fun c => absurd c (by decide))
        refine mW_iconst (v := 0) dX11_lowest_147 (by decide) ?_
        exact mW_iret dX11_lowest_148 rfl (k4 c1 c3 w4 e4 c4 w6 e6)
    · refine mW_aload_n (j := 0) dX11_lowest_63 rfl rfl ?_
      refine mW_getR dX11_lowest_64 f_X11_13 h1 rfl h2 ?_
      refine mW_iload_n (j := 1) dX11_lowest_67 rfl rfl ?_
      refine mW_iload (j := 4) dX11_lowest_68 rfl ?_
      refine mW_iconst (v := 1) dX11_lowest_70 (by decide) ?_
      refine mW_isub dX11_lowest_71 ?_
      refine mW_iastJ dX11_lowest_72 h3 (s4 c1 c3) rfl ?_
      refine mW_nm (fun w7 e7 => ?_)
      refine mW_aload_n (j := 0) dX11_lowest_73 rfl rfl ?_
      refine mW_callV (As := []) (rest := []) (kc2 := 0) (ks2 := 0) dX11_lowest_74 l_X11_242 rfl (s2k (S2_sai e7) h1) rfl (by decide) (rX11_runs' (w := w7) (a0 := a0) (zRef_s2 (S2_sai e7) h6) (s5 c1 c3 w7 e7)) (Nat.le_of_ble_eq_true rfl) (by decide) rfl rfl mP_x (mP_k (fun w8 q1 => ?_))
      refine mW_aload_n (j := 0) dX11_lowest_77 rfl rfl ?_
      refine mW_callVe (As := []) (rest := []) (kc2 := 0) (ks2 := 0) dX11_lowest_78 l_X11_255 rfl (s2k (mS2.of q1.1.1) (s2k (S2_sai e7) h1)) rfl (by decide) (rX11_costs (w := w8) (a0 := a0) (zRef_s2 (mS2.of q1.1.1) (zRef_s2 (S2_sai e7) h6)) (s6 c1 c3 w7 e7 w8 q1) (s7 c1 c3 w7 e7 w8 q1) (s8 c1 c3 w7 e7 w8 q1) (s9 c1 c3 w7 e7 w8 q1)) (Nat.le_of_ble_eq_true rfl) (by decide) rfl rfl ?_
      refine mW_lload_n (j := 2) dX11_lowest_81 rfl rfl ?_
      refine mW_lcmp dX11_lowest_82 ?_
      refine mW_if_gt (tgt := 90) dX11_lowest_83 (by decide) (fun c5 => ?_) (fun c5 => ?_)
      · refine mW_iconst (v := 0) dX11_lowest_90 (by decide) ?_
        refine mW_istore (lv2 := [(6, .int 0), (0, .ref a0), (1, .int x1), (2, .long y2), (4, .int x4), (5, .int x5)]) dX11_lowest_91 (by decide) rfl ?_
        refine mW_iload (j := 5) dX11_lowest_93 rfl ?_
        refine mW_iload (j := 0) dX11_lowest_95 rfl ?_
        refine mW_if_eq (tgt := 104) dX11_lowest_97 (by decide) (fun _ => ?_) (fun c => absurd (by decide) c)
        refine mW_iconst (v := 0) dX11_lowest_104 (by decide) ?_
        refine mW_isub dX11_lowest_105 ?_
        refine mW_istore (lv2 := [(5, .int (x5 - 0)), (6, .int 0), (0, .ref a0), (1, .int x1), (2, .long y2), (4, .int x4)]) dX11_lowest_106 (by decide) rfl ?_
        refine mW_goto (tgt := 47) dX11_lowest_108 (by decide) ?_
        refine mW_loc [2, 3, 4, 5, 0, 1] (lv2 := [(0, .ref a0), (1, .int x1), (2, .long y2), (4, .int x4), (5, .int (x5 - 0)), (6, .int 0)]) rfl ?_
        exact k5 c1 c3 w7 e7 w8 q1 c5
      · refine mW_iconst (v := 1) dX11_lowest_86 (by decide) ?_
        refine mW_goto (tgt := 91) dX11_lowest_87 (by decide) ?_
        refine mW_istore (lv2 := [(6, .int 1), (0, .ref a0), (1, .int x1), (2, .long y2), (4, .int x4), (5, .int x5)]) dX11_lowest_91 (by decide) rfl ?_
        refine mW_iload (j := 5) dX11_lowest_93 rfl ?_
        refine mW_iload (j := 0) dX11_lowest_95 rfl ?_
        refine mW_if_eq (tgt := 104) dX11_lowest_97 (by decide) (fun c => absurd c (by decide)) (fun _ => ?_)
        refine mW_iconst (v := 1) dX11_lowest_100 (by decide) ?_
        refine mW_goto (tgt := 105) dX11_lowest_101 (by decide) ?_
        refine mW_isub dX11_lowest_105 ?_
        refine mW_istore (lv2 := [(5, .int (x5 - 1)), (6, .int 1), (0, .ref a0), (1, .int x1), (2, .long y2), (4, .int x4)]) dX11_lowest_106 (by decide) rfl ?_
        refine mW_goto (tgt := 47) dX11_lowest_108 (by decide) ?_
        refine mW_loc [2, 3, 4, 5, 0, 1] (lv2 := [(0, .ref a0), (1, .int x1), (2, .long y2), (4, .int x4), (5, .int (x5 - 1)), (6, .int 1)]) rfl ?_
        exact k6 c1 c3 w7 e7 w8 q1 c5
/-! the reference: lowest -/
theorem upd_u {f : Nat → Int32} {i : Nat} {u v : Int32} : upd (upd f i u) i v = upd f i v := by
  funext j
  unfold upd
  by_cases q : j = i
  · rw [if_pos q, if_pos q]
  · rw [if_neg q, if_neg q, if_neg q]
theorem upd_self {f : Nat → Int32} {i : Nat} {v : Int32} (h : f i = v) : upd f i v = f := by
  funext j
  unfold upd
  by_cases q : j = i
  · rw [if_pos q, q, h]
  · rw [if_neg q]
def rLw (A : Nat → Int32) (N s b : Nat) : Int64 := tCost (rTr (upd A s (nI b))) N (fun k => A (15 + k)) (A 14)
theorem lo_stop {G : mG} {w : mH} {a0 s a v : Nat} {y2 : Int64} {A : Nat → Int32} {y : Int32} {Φ : mF} (z : zRef w a0) (hr : hai w (a0 + 1) = upd A s y) (hs : s < 4) (hA : A s = nI a) (ha : a ≤ 1000) (hv : v ≤ 1001)
    (K1 : v ≤ a → ∀ w', xF [0, 22, 24] [1, 8, 9, 10, 11, 12, 13, 14] a0 w w' → hai w' (a0 + 1) = A → hfi w' a0 0 = 0 → Φ (.inl (some (.int (nI v)))) w') (K2 : ¬ v ≤ a → ∀ w', xF [0, 22, 24] [1, 8, 9, 10, 11, 12, 13, 14] a0 w w' → hai w' (a0 + 1) = A → hfi w' a0 0 = 2 → Φ (.inl (some (.int 0))) w') : mW G mX11_lowest 8 0 0 47 [(0, .ref a0), (1, .int (nI s)), (2, .long y2), (4, .int (nI a)), (5, .int (nI v)), (6, .int 0)] [] w Φ := by
  refine gX11_lowest_47 (N := 1) (T := fun _ _ => 0) (a0_1 := a0 + 1) (a0_2 := a0 + 2) z.1 z.2.1 z.2.2.2.2.2.2.2.2.2.2.2.2.2.2.2.2.2.2.2.2.2.2.1 (by intro c1; exact m_vp (by omega) (by decide)) z.2.2.1 z.2.2.2.2.2.2.2.2.2.2.2.2.2.2.2.2.2.2.2.2.2.2.2.1 (by intro c1; exact m_vp (by omega) (by decide)) (by intro c1 c3; exact m_vp (by omega) (by decide)) (by intro c1 c3; exact m_vp (by omega) (by decide)) z (by intro c1 c3 w7 e7; first | exact absurd rfl c1 | decide) (by intro c1 c3 w7 e7 w8 q1; first | exact absurd rfl c1 | decide) (by intro c1 c3 w7 e7 w8 q1; first | exact absurd rfl c1 | decide) (by intro c1 c3 w7 e7 w8 q1; first | exact absurd rfl c1 | decide) (by intro c1 c3 w7 e7 w8 q1; first | exact absurd rfl c1 | decide) ?_ ?_ ?_ ?_ ?_ ?_
  · intro c1 w1 e1 c2 w2 e2
    rw [m_cl (by omega)] at e1
    have hw : hai w1 (a0 + 1) = A := by rw [e1, e_hai_sai, up2_row, hr, upd_u]; exact upd_self hA
    rw [m_le (by omega) (by omega)] at c2
    exact K1 (by omega) w2 (by rw [e2, e1]; exact xF_sfi (xF_sai xF.rf (by decide)) (by decide)) (by rw [e2, e_hai_sfi]; exact hw) (by rw [e2, e_hfi_sfi, up2_at])
  · intro c1 w1 e1 c2 w3 e3
    rw [m_cl (by omega)] at e1
    have hw : hai w1 (a0 + 1) = A := by rw [e1, e_hai_sai, up2_row, hr, upd_u]; exact upd_self hA
    rw [m_le (by omega) (by omega)] at c2
    exact K2 (by omega) w3 (by rw [e3, e1]; exact xF_sfi (xF_sai xF.rf (by decide)) (by decide)) (by rw [e3, e_hai_sfi]; exact hw) (by rw [e3, e_hfi_sfi, up2_at])
  · intro c1 c3 w4 e4 c4 w5 e5
    exact absurd rfl c1
  · intro c1 c3 w4 e4 c4 w6 e6
    exact absurd rfl c1
  · intro c1 c3 w7 e7 w8 q1 c5
    exact absurd rfl c1
  · intro c1 c3 w7 e7 w8 q1 c5
    exact absurd rfl c1
theorem lo_least {G : mG} {w : mH} {a0 s a v l : Nat} {y2 : Int64} {A : Nat → Int32} {y : Int32} {Φ : mF} (z : zRef w a0) (hr : hai w (a0 + 1) = upd A s y) (hl : hai w (a0 + 2) s = nI l) (hl1 : l ≤ 1) (hv0 : v ≤ l) (hs : s < 4) (hA : A s = nI a) (ha : a ≤ 1000) (hv : v ≤ 1001)
    (K1 : v ≤ a → ∀ w', xF [0, 22, 24] [1, 8, 9, 10, 11, 12, 13, 14] a0 w w' → hai w' (a0 + 1) = A → hfi w' a0 0 = 0 → Φ (.inl (some (.int (nI v)))) w') (K2 : ¬ v ≤ a → ∀ w', xF [0, 22, 24] [1, 8, 9, 10, 11, 12, 13, 14] a0 w w' → hai w' (a0 + 1) = A → hfi w' a0 0 = 2 → Φ (.inl (some (.int 0))) w') : mW G mX11_lowest 8 0 0 47 [(0, .ref a0), (1, .int (nI s)), (2, .long y2), (4, .int (nI a)), (5, .int (nI v)), (6, .int 1)] [] w Φ := by
  have e3 : nI v ≤ hai w (a0 + 2) (nI s).toNatClampNeg := by rw [m_cl (by omega), hl]; exact (m_le (by omega) (by omega)).mpr hv0
  refine gX11_lowest_47 (N := 1) (T := fun _ _ => 0) (a0_1 := a0 + 1) (a0_2 := a0 + 2) z.1 z.2.1 z.2.2.2.2.2.2.2.2.2.2.2.2.2.2.2.2.2.2.2.2.2.2.1 (by intro c1; exact m_vp (by omega) (by decide)) z.2.2.1 z.2.2.2.2.2.2.2.2.2.2.2.2.2.2.2.2.2.2.2.2.2.2.2.1 (by intro c1; exact m_vp (by omega) (by decide)) (by intro c1 c3; exact m_vp (by omega) (by decide)) (by intro c1 c3; exact m_vp (by omega) (by decide)) z (by intro c1 c3 w7 e7; first | exact absurd e3 c3 | decide) (by intro c1 c3 w7 e7 w8 q1; first | exact absurd e3 c3 | decide) (by intro c1 c3 w7 e7 w8 q1; first | exact absurd e3 c3 | decide) (by intro c1 c3 w7 e7 w8 q1; first | exact absurd e3 c3 | decide) (by intro c1 c3 w7 e7 w8 q1; first | exact absurd e3 c3 | decide) ?_ ?_ ?_ ?_ ?_ ?_
  · intro c1 w1 e1 c2 w2 e2
    exact absurd c1 (by decide)
  · intro c1 w1 e1 c2 w3 e3
    exact absurd c1 (by decide)
  · intro c1 c3 w4 e4 c4 w5 e5
    rw [m_cl (by omega)] at e4
    have hw : hai w4 (a0 + 1) = A := by rw [e4, e_hai_sai, up2_row, hr, upd_u]; exact upd_self hA
    rw [m_le (by omega) (by omega)] at c4
    exact K1 (by omega) w5 (by rw [e5, e4]; exact xF_sfi (xF_sai xF.rf (by decide)) (by decide)) (by rw [e5, e_hai_sfi]; exact hw) (by rw [e5, e_hfi_sfi, up2_at])
  · intro c1 c3 w4 e4 c4 w6 e6
    rw [m_cl (by omega)] at e4
    have hw : hai w4 (a0 + 1) = A := by rw [e4, e_hai_sai, up2_row, hr, upd_u]; exact upd_self hA
    rw [m_le (by omega) (by omega)] at c4
    exact K2 (by omega) w6 (by rw [e6, e4]; exact xF_sfi (xF_sai xF.rf (by decide)) (by decide)) (by rw [e6, e_hai_sfi]; exact hw) (by rw [e6, e_hfi_sfi, up2_at])
  · intro c1 c3 w7 e7 w8 q1 c5
    exact absurd e3 c3
  · intro c1 c3 w7 e7 w8 q1 c5
    exact absurd e3 c3
theorem lo_step {G : mG} {w : mH} {a0 N s a v l : Nat} {y2 : Int64} {A : Nat → Int32} {y : Int32} {Φ : mF} (z : zRef w a0) (ok : rOK A N) (hr : hai w (a0 + 1) = upd A s y) (hl : hai w (a0 + 2) s = nI l) (hl1 : l ≤ 1) (hv0 : l ≤ v) (hs : s < 4) (hA : A s = nI a) (ha : a ≤ 1000) (hv : v ≤ 1000)
    (K1 : y2 < rLw A N s v → ∀ w', xF [22, 24] [1, 8, 9, 10, 11, 12, 13, 14] a0 w w' → hai w' (a0 + 1) = upd A s (nI v) → mW G mX11_lowest 8 0 0 47 [(0, .ref a0), (1, .int (nI s)), (2, .long y2), (4, .int (nI a)), (5, .int (nI (v + 1))), (6, .int 0)] [] w' Φ) (K2 : ¬ y2 < rLw A N s v → ∀ w', xF [22, 24] [1, 8, 9, 10, 11, 12, 13, 14] a0 w w' → hai w' (a0 + 1) = upd A s (nI v) → mW G mX11_lowest 8 0 0 47 [(0, .ref a0), (1, .int (nI s)), (2, .long y2), (4, .int (nI a)), (5, .int (nI v)), (6, .int 1)] [] w' Φ) : mW G mX11_lowest 8 0 0 47 [(0, .ref a0), (1, .int (nI s)), (2, .long y2), (4, .int (nI a)), (5, .int (nI (v + 1))), (6, .int 1)] [] w Φ := by
  have e3 : ¬ nI (v + 1) ≤ hai w (a0 + 2) (nI s).toNatClampNeg := by rw [m_cl (by omega), hl, m_le (by omega) (by omega)]; omega
  refine gX11_lowest_47 (N := N) (T := rTr (upd A s (nI v))) (a0_1 := a0 + 1) (a0_2 := a0 + 2) z.1 z.2.1 z.2.2.2.2.2.2.2.2.2.2.2.2.2.2.2.2.2.2.2.2.2.2.1 (by intro c1; exact m_vp (by omega) (by decide)) z.2.2.1 z.2.2.2.2.2.2.2.2.2.2.2.2.2.2.2.2.2.2.2.2.2.2.2.1 (by intro c1; exact m_vp (by omega) (by decide)) (by intro c1 c3; exact m_vp (by omega) (by decide)) (by intro c1 c3; exact m_vp (by omega) (by decide)) z (by intro c1 c3 w7 e7; rw [show hai w7 (a0 + 1) = upd A s (nI v) by rw [e7, e_hai_sai, up2_row, m_cl (by omega), hr, upd_u, m_sub1]]; exact rOK_c (fun k hk => upd_ne (by omega)) ok) (by intro c1 c3 w7 e7 w8 q1; exact q1.2.1) (by intro c1 c3 w7 e7 w8 q1; exact ok.2.2.1) (by intro c1 c3 w7 e7 w8 q1; exact ok.2.1) (by intro c1 c3 w7 e7 w8 q1; rw [← show hai w7 (a0 + 1) = upd A s (nI v) by rw [e7, e_hai_sai, up2_row, m_cl (by omega), hr, upd_u, m_sub1]]; exact q1.2.2) ?_ ?_ ?_ ?_ ?_ ?_
  · intro c1 w1 e1 c2 w2 e2
    exact absurd c1 (by decide)
  · intro c1 w1 e1 c2 w3 e3
    exact absurd c1 (by decide)
  · intro c1 c3 w4 e4 c4 w5 e5
    exact absurd c3 e3
  · intro c1 c3 w4 e4 c4 w6 e6
    exact absurd c3 e3
  · intro c1 c3 w7 e7 w8 q1 c5
    have r7 : hai w7 (a0 + 1) = upd A s (nI v) := by rw [e7, e_hai_sai, up2_row, m_cl (by omega), hr, upd_u, m_sub1]
    have r8 : hai w8 (a0 + 1) = upd A s (nI v) := (q1.1.ai (by decide)).trans r7
    have ev : tCost (rTr (upd A s (nI v))) N (fun k => hai w8 (a0 + 1) (15 + k)) (hai w8 (a0 + 1) 14) = rLw A N s v := by
      have ek : (fun k => upd A s (nI v) (15 + k)) = fun k => A (15 + k) := funext fun k => upd_ne (by omega)
      unfold rLw
      rw [r8, upd_ne (show 14 ≠ s by omega), ek]
    rw [ev, lg_cmp_gt] at c5
    rw [Int32.sub_zero]
    exact K1 c5 w8 (xF.tr (by rw [e7]; exact xF_sai xF.rf (by decide)) (q1.1.wide (by decide) (by decide))) r8
  · intro c1 c3 w7 e7 w8 q1 c5
    have r7 : hai w7 (a0 + 1) = upd A s (nI v) := by rw [e7, e_hai_sai, up2_row, m_cl (by omega), hr, upd_u, m_sub1]
    have r8 : hai w8 (a0 + 1) = upd A s (nI v) := (q1.1.ai (by decide)).trans r7
    have ev : tCost (rTr (upd A s (nI v))) N (fun k => hai w8 (a0 + 1) (15 + k)) (hai w8 (a0 + 1) 14) = rLw A N s v := by
      have ek : (fun k => upd A s (nI v) (15 + k)) = fun k => A (15 + k) := funext fun k => upd_ne (by omega)
      unfold rLw
      rw [r8, upd_ne (show 14 ≠ s by omega), ek]
    rw [ev, lg_cmp_gt] at c5
    rw [m_sub1]
    exact K2 c5 w8 (xF.tr (by rw [e7]; exact xF_sai xF.rf (by decide)) (q1.1.wide (by decide) (by decide))) r8

def tLow (A : Nat → Int32) (N : Nat) (x1 : Int32) (y2 : Int64) : Int32 := if vX11_in x1.toInt64 0 3 = 0 then 1 else if fLowB (rLw A N x1.toNatClampNeg) y2 (sLst x1.toNatClampNeg) ((A x1.toNatClampNeg).toNatClampNeg + 1) = (A x1.toNatClampNeg).toNatClampNeg + 1 then 2 else 0
def vLow (A : Nat → Int32) (N : Nat) (x1 : Int32) (y2 : Int64) : Nat := fLowB (rLw A N x1.toNatClampNeg) y2 (sLst x1.toNatClampNeg) ((A x1.toNatClampNeg).toNatClampNeg + 1)
theorem lo_loop {G : mG} {w0 : mH} {a0 N s a l : Nat} {y2 : Int64} {A : Nat → Int32} {Φ : mF} (z : zRef w0 a0) (ok : rOK A N) (hl : hai w0 (a0 + 2) s = nI l) (hl1 : l ≤ 1) (hs : s < 4) (hA : A s = nI a) (ha : a ≤ 1000) (r : Nat)
    (K1 : r ≤ a → ∀ w', xF [0, 22, 24] [1, 8, 9, 10, 11, 12, 13, 14] a0 w0 w' → hai w' (a0 + 1) = A → hfi w' a0 0 = 0 → Φ (.inl (some (.int (nI r)))) w') (K2 : ¬ r ≤ a → ∀ w', xF [0, 22, 24] [1, 8, 9, 10, 11, 12, 13, 14] a0 w0 w' → hai w' (a0 + 1) = A → hfi w' a0 0 = 2 → Φ (.inl (some (.int 0))) w') :
    ∀ v w y, v ≤ a + 1 → fLowB (rLw A N s) y2 l v = r → xF [22, 24] [1, 8, 9, 10, 11, 12, 13, 14] a0 w0 w → hai w (a0 + 1) = upd A s y → mW G mX11_lowest 8 0 0 47 [(0, .ref a0), (1, .int (nI s)), (2, .long y2), (4, .int (nI a)), (5, .int (nI v)), (6, .int 1)] [] w Φ := by
  intro v
  induction v with
  | zero =>
    intro w y hv hr F hw
    have hr0 : r = 0 := hr.symm
    subst hr0
    exact lo_least (zRef_s2 (mS2.of F.1) z) hw (by rw [F.ai (by decide)]; exact hl) hl1 (Nat.zero_le _) hs hA ha (by omega) (fun q w' F' => K1 q w' ((F.wide (by decide) (by decide)).tr F')) (fun q w' F' => K2 q w' ((F.wide (by decide) (by decide)).tr F'))
  | succ v ih =>
    intro w y hv hr F hw
    rw [fLowB] at hr
    by_cases q1 : v < l
    · rw [if_pos q1] at hr
      subst hr
      exact lo_least (zRef_s2 (mS2.of F.1) z) hw (by rw [F.ai (by decide)]; exact hl) hl1 (by omega) hs hA ha (by omega) (fun q w' F' => K1 q w' ((F.wide (by decide) (by decide)).tr F')) (fun q w' F' => K2 q w' ((F.wide (by decide) (by decide)).tr F'))
    · rw [if_neg q1] at hr
      refine lo_step (zRef_s2 (mS2.of F.1) z) ok hw (by rw [F.ai (by decide)]; exact hl) hl1 (by omega) hs hA ha (by omega) (fun c w1 F1 r1 => ?_) (fun c w1 F1 r1 => ?_)
      · rw [if_pos c] at hr
        subst hr
        have F2 := F.tr F1
        exact lo_stop (zRef_s2 (mS2.of F2.1) z) r1 hs hA ha (by omega) (fun q w' F' => K1 q w' ((F2.wide (by decide) (by decide)).tr F')) (fun q w' F' => K2 q w' ((F2.wide (by decide) (by decide)).tr F'))
      · rw [if_neg c] at hr
        exact ih w1 _ (by omega) hr (F.tr F1) r1
theorem mSv1 {s : Nat} (h : s < 4) : (mSv 1).getD s 0 = nI (sLst s) := by
  have : s = 0 ∨ s = 1 ∨ s = 2 ∨ s = 3 := by omega
  rcases this with q | q | q | q <;> subst q <;> rfl
theorem rX11_lowest {G : mG} {w : mH} {a0 N : Nat} {x1 : Int32} {y2 : Int64} {A : Nat → Int32} (z : zRef w a0) (hk : cst w a0) (hA : hai w (a0 + 1) = A) (ok : rOK A N) (hs : ∀ s, s < 4 → A s = nI (A s).toNatClampNeg ∧ (A s).toNatClampNeg ≤ 1000) : mC G mX11_lowest 8 0 0 [.ref a0, .int x1, .long y2] w (mP (some (.int (if tLow A N x1 y2 = 0 then nI (vLow A N x1 y2) else 0))) (fun w' => xF [0, 22, 24] [1, 8, 9, 10, 11, 12, 13, 14] a0 w w' ∧ hai w' (a0 + 1) = A ∧ hfi w' a0 0 = tLow A N x1 y2)) := by
  refine mC_of (by decide +kernel) rfl (Nat.le_of_ble_eq_true rfl) rfl ?_
  refine gX11_lowest_0 (a0_1 := a0 + 1) z.1 z.2.1 z.2.2.2.2.2.2.2.2.2.2.2.2.2.2.2.2.2.2.2.2.2.2.1 (by intro c1 w2 e2; obtain ⟨i, hi, hx⟩ := iw_N (n := 3) (by decide) rfl (show ¬ vX10_isWithin x1 0 3 = 0 by rw [← in_eq (A := 0) (B := 3) rfl rfl]; exact c1); rw [hx]; exact m_vp (by omega) (by decide)) ?_ ?_
  · intro c1 w1 e1
    have et : tLow A N x1 y2 = 1 := if_pos c1
    rw [et, if_neg (by decide)]
    exact mP_of ⟨by rw [e1]; exact xF_sfi xF.rf (by decide), by rw [e1]; exact hA, by rw [e1, e_hfi_sfi, up2_at]⟩
  · intro c1 w2 e2
    obtain ⟨s, hs3, hx⟩ := iw_N (n := 3) (by decide) rfl (show ¬ vX10_isWithin x1 0 3 = 0 by rw [← in_eq (A := 0) (B := 3) rfl rfl]; exact c1)
    subst hx
    obtain ⟨hAs, ha⟩ := hs s (by omega)
    have cl : (nI s).toNatClampNeg = s := m_cl (by omega)
    have hA2 : hai w2 (a0 + 1) = A := by rw [e2]; exact hA
    have z2 : zRef w2 a0 := by rw [e2]; exact z
    have F2 : xF [0, 22, 24] [1, 8, 9, 10, 11, 12, 13, 14] a0 w w2 := by rw [e2]; exact xF_sfi xF.rf (by decide)
    have hl : hai w2 (a0 + 2) s = nI (sLst s) := by rw [← mSv1 (by omega), ← hk.1 s (by omega), e2]; rfl
    have hl1 : sLst s ≤ 1 := by unfold sLst; split <;> omega
    have hle := fLowB_le (rLw A N s) y2 (sLst s) ((A s).toNatClampNeg + 1)
    rw [cl, hA2, hAs, nI_1]
    have ev : vLow A N (nI s) y2 = fLowB (rLw A N s) y2 (sLst s) ((A s).toNatClampNeg + 1) := by unfold vLow; rw [cl]
    have et : tLow A N (nI s) y2 = if fLowB (rLw A N s) y2 (sLst s) ((A s).toNatClampNeg + 1) = (A s).toNatClampNeg + 1 then 2 else 0 := by unfold tLow; rw [if_neg c1, cl]
    rw [ev, et]
    generalize hra : (A s).toNatClampNeg = a at *
    refine lo_loop z2 ok hl hl1 (by omega) hAs ha (fLowB (rLw A N s) y2 (sLst s) (a + 1)) (fun q w' F r g => ?_) (fun q w' F r g => ?_) (a + 1) w2 (A s) (Nat.le_refl _) rfl xF.rf (by rw [hA2, upd_self rfl])
    · have ne : ¬ fLowB (rLw A N s) y2 (sLst s) (a + 1) = a + 1 := by omega
      rw [if_neg ne, if_pos rfl]
      exact mP_of ⟨F2.tr F, r, g⟩
    · have e : fLowB (rLw A N s) y2 (sLst s) (a + 1) = a + 1 := by omega
      rw [if_pos e, if_neg (by decide)]
      exact mP_of ⟨F2.tr F, r, g⟩

