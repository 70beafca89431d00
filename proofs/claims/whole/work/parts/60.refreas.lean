abbrev mX11_reason : mM := (yX11_reason, cX11_reason, 10, (some .int), [])
set_option maxHeartbeats 4000000 in
set_option maxRecDepth 100000 in
theorem gX11_reason_0 {G : mG} {w : mH} {Φ : mF} {a0 : Nat} {x1 : Int32} {a0_27 n_a0_27 : Nat} (h1 : hk w a0 = (11, 0)) (h2 : hfr w a0 27 = some a0_27) (h3 : hk w a0_27 = (16, n_a0_27)) (s1 : (¬ ((hfi w a0 25) = 0)) → (¬ ((vX11_in x1.toInt64 0 (((hfi w a0 26) - 1).toInt64)) = 0)) → ∀ w2 : mH, (w2 = sfi w a0 0 0) → vp_in (201 + x1) n_a0_27) (s2 : (¬ ((hfi w a0 25) = 0)) → (¬ ((vX11_in x1.toInt64 0 (((hfi w a0 26) - 1).toInt64)) = 0)) → ∀ w2 : mH, (w2 = sfi w a0 0 0) → (¬ (x1 = 0)) → vp_in ((201 + x1) - 1) n_a0_27) (k1 : (¬ ((hfi w a0 25) = 0)) → ((vX11_in x1.toInt64 0 (((hfi w a0 26) - 1).toInt64)) = 0) → ∀ w1 : mH, (w1 = sfi w a0 0 2) → Φ (.inl (some (.int 0))) w1) (k2 : (¬ ((hfi w a0 25) = 0)) → (¬ ((vX11_in x1.toInt64 0 (((hfi w a0 26) - 1).toInt64)) = 0)) → ∀ w2 : mH, (w2 = sfi w a0 0 0) → (¬ (x1 = 0)) → mW G mX11_reason 3 0 0 79 [(0, .ref a0), (1, .int x1), (2, .int (hai w2 a0_27 ((201 + x1).toNatClampNeg))), (3, .int ((hai w2 a0_27 ((201 + x1).toNatClampNeg)) - (hai w2 a0_27 (((201 + x1) - 1).toNatClampNeg))))] [] w2 Φ) (k3 : (¬ ((hfi w a0 25) = 0)) → (¬ ((vX11_in x1.toInt64 0 (((hfi w a0 26) - 1).toInt64)) = 0)) → ∀ w2 : mH, (w2 = sfi w a0 0 0) → (x1 = 0) → mW G mX11_reason 3 0 0 79 [(0, .ref a0), (1, .int x1), (2, .int (hai w2 a0_27 ((201 + x1).toNatClampNeg))), (3, .int 0)] [] w2 Φ) (k4 : ((hfi w a0 25) = 0) → ∀ w3 : mH, (w3 = sfi w a0 0 1) → Φ (.inl (some (.int 0))) w3) : mW G mX11_reason 3 0 0 0 [(0, .ref a0), (1, .int x1)] [] w Φ := by
  refine mW_aload_n (j := 0) dX11_reason_0 rfl rfl ?_
  refine mW_aload_n (j := 0) dX11_reason_1 rfl rfl ?_
  refine mW_get dX11_reason_2 f_X11_235 h1 rfl ?_
  refine mW_if_ne (tgt := 12) dX11_reason_5 (by decide) (fun c1 => ?_) (fun c1 => ?_)
  · refine mW_iload_n (j := 1) dX11_reason_12 rfl rfl ?_
    refine mW_i2l dX11_reason_13 ?_
    refine mW_lconst (v := 0) dX11_reason_14 (by decide) ?_
    refine mW_aload_n (j := 0) dX11_reason_15 rfl rfl ?_
    refine mW_get dX11_reason_16 f_X11_239 h1 rfl ?_
    refine mW_iconst (v := 1) dX11_reason_19 (by decide) ?_
    refine mW_isub dX11_reason_20 ?_
    refine mW_i2l dX11_reason_21 ?_
    refine mW_callSe (As := [.long x1.toInt64, .long 0, .long (((hfi w a0 26) - 1).toInt64)]) (rest := [.ref a0]) (kc2 := 0) (ks2 := 0) dX11_reason_22 l_X11_92 rfl (qX11_in (w := w) (y0 := x1.toInt64) (y2 := 0) (y4 := ((hfi w a0 26) - 1).toInt64)) (Nat.le_of_ble_eq_true rfl) (by decide) rfl rfl ?_
    refine mW_if_eq (tgt := 32) dX11_reason_25 (by decide) (fun c2 => ?_) (fun c2 => ?_)
    · refine mW_iconst (v := 2) dX11_reason_32 (by decide) ?_
      refine mW_put (ty := .int) (w2 := sfi w a0 0 2) dX11_reason_33 p_X11_3 h1 (Nat.le_of_ble_eq_true rfl) (by first | rfl | decide | (repeat' split) <;> rfl) rfl (hN_sfi _ _ _ _) (hk_sfi _ _ _ _) (mE_sfi h1 (by decide) (ob_11_0 _ _ _)) ?_
      refine mW_nm (fun w1 e1 => ?_)
      refine mW_aload_n (j := 0) dX11_reason_36 rfl rfl ?_
      refine mW_getL (v := 2) dX11_reason_37 f_X11_3 (s2k (S2_sfi e1) h1) rfl (by rw [e1, e_hfi_sfi, up2_at]) ?_
      refine mW_if_eq (tgt := 45) dX11_reason_40 (by decide) (fun c => absurd c (by decide)) (fun _ => ?_)
      refine mW_iconst (v := 0) dX11_reason_43 (by decide) ?_
      exact mW_iret dX11_reason_44 rfl (k1 c1 c2 w1 e1)
    · refine mW_iconst (v := 0) dX11_reason_28 (by decide) ?_
      refine mW_goto (tgt := 33) dX11_reason_29 (by decide) ?_
      refine mW_put (ty := .int) (w2 := sfi w a0 0 0) dX11_reason_33 p_X11_3 h1 (Nat.le_of_ble_eq_true rfl) (by first | rfl | decide | (repeat' split) <;> rfl) rfl (hN_sfi _ _ _ _) (hk_sfi _ _ _ _) (mE_sfi h1 (by decide) (ob_11_0 _ _ _)) ?_
      refine mW_nm (fun w2 e2 => ?_)
      refine mW_aload_n (j := 0) dX11_reason_36 rfl rfl ?_
      refine mW_getL (v := 0) dX11_reason_37 f_X11_3 (s2k (S2_sfi e2) h1) rfl (by rw [e2, e_hfi_sfi, up2_at]) ?_
      refine mW_if_eq (tgt := 45) dX11_reason_40 (by decide) (fun _ => ?_) (fun c => absurd (by decide) c)
      refine mW_aload_n (j := 0) dX11_reason_45 rfl rfl ?_
      refine mW_getR dX11_reason_46 f_X11_60 (s2k (S2_sfi e2) h1) rfl (s2r (S2_sfi e2) h2) ?_
      refine mW_sipush (v := 201) dX11_reason_49 (by decide) ?_
      refine mW_iload_n (j := 1) dX11_reason_52 rfl rfl ?_
      refine mW_iadd dX11_reason_53 ?_
      refine mW_ialdJ dX11_reason_54 (s2k (S2_sfi e2) h3) (s1 c1 c2 w2 e2) rfl ?_
      refine mW_istore_n (lv2 := [(2, .int (hai w2 a0_27 ((201 + x1).toNatClampNeg))), (0, .ref a0), (1, .int x1)]) dX11_reason_55 rfl (by decide) rfl ?_
      refine mW_iload_n (j := 2) dX11_reason_56 rfl rfl ?_
      refine mW_if_ne (tgt := 64) dX11_reason_57 (by decide) (fun c3 => ?_) (fun c3 => ?_)
      · refine mW_iload_n (j := 0) dX11_reason_64 rfl rfl ?_
        refine mW_aload_n (j := 1) dX11_reason_65 rfl rfl ?_
        refine mW_getR dX11_reason_66 f_X11_60 (s2k (S2_sfi e2) h1) rfl (s2r (S2_sfi e2) h2) ?_
        refine mW_sipush (v := 201) dX11_reason_69 (by decide) ?_
        refine mW_iload_n (j := 2) dX11_reason_72 rfl rfl ?_
        refine mW_iadd dX11_reason_73 ?_
        refine mW_iconst (v := 1) dX11_reason_74 (by decide) ?_
        refine mW_isub dX11_reason_75 ?_
        refine mW_ialdJ dX11_reason_76 (s2k (S2_sfi e2) h3) (s2 c1 c2 w2 e2 c3) rfl ?_
        refine mW_isub dX11_reason_77 ?_
        refine mW_istore_n (lv2 := [(3, .int ((hai w2 a0_27 ((201 + x1).toNatClampNeg)) - (hai w2 a0_27 (((201 + x1) - 1).toNatClampNeg)))), (2, .int (hai w2 a0_27 ((201 + x1).toNatClampNeg))), (0, .ref a0), (1, .int x1)]) dX11_reason_78 rfl (by decide) rfl ?_
        refine mW_loc [2, 3, 1, 0] (lv2 := [(0, .ref a0), (1, .int x1), (2, .int (hai w2 a0_27 ((201 + x1).toNatClampNeg))), (3, .int ((hai w2 a0_27 ((201 + x1).toNatClampNeg)) - (hai w2 a0_27 (((201 + x1) - 1).toNatClampNeg))))]) rfl ?_
        exact k2 c1 c2 w2 e2 c3
      · refine mW_iconst (v := 0) dX11_reason_60 (by decide) ?_
        refine mW_goto (tgt := 78) dX11_reason_61 (by decide) ?_
        refine mW_istore_n (lv2 := [(3, .int 0), (2, .int (hai w2 a0_27 ((201 + x1).toNatClampNeg))), (0, .ref a0), (1, .int x1)]) dX11_reason_78 rfl (by decide) rfl ?_
        refine mW_loc [2, 3, 1, 0] (lv2 := [(0, .ref a0), (1, .int x1), (2, .int (hai w2 a0_27 ((201 + x1).toNatClampNeg))), (3, .int 0)]) rfl ?_
        exact k3 c1 c2 w2 e2 c3
  · refine mW_iconst (v := 1) dX11_reason_8 (by decide) ?_
    refine mW_goto (tgt := 33) dX11_reason_9 (by decide) ?_
    refine mW_put (ty := .int) (w2 := sfi w a0 0 1) dX11_reason_33 p_X11_3 h1 (Nat.le_of_ble_eq_true rfl) (by first | rfl | decide | (repeat' split) <;> rfl) rfl (hN_sfi _ _ _ _) (hk_sfi _ _ _ _) (mE_sfi h1 (by decide) (ob_11_0 _ _ _)) ?_
    refine mW_nm (fun w3 e3 => ?_)
    refine mW_aload_n (j := 0) dX11_reason_36 rfl rfl ?_
    refine mW_getL (v := 1) dX11_reason_37 f_X11_3 (s2k (S2_sfi e3) h1) rfl (by rw [e3, e_hfi_sfi, up2_at]) ?_
    refine mW_if_eq (tgt := 45) dX11_reason_40 (by decide) (fun c => absurd c (by decide)) (fun _ => ?_)
    refine mW_iconst (v := 0) dX11_reason_43 (by decide) ?_
    exact mW_iret dX11_reason_44 rfl (k4 c1 w3 e3)
set_option maxHeartbeats 4000000 in
set_option maxRecDepth 100000 in
theorem gX11_reason_79 {G : mG} {w : mH} {Φ : mF} {a0 : Nat} {x1 x2 x3 : Int32} {a0_1 n_a0_1 a0_27 n_a0_27 : Nat} (h1 : hk w a0 = (11, 0)) (h2 : hfr w a0 1 = some a0_1) (h3 : hk w a0_1 = (16, n_a0_1)) (s1 : vp_in 0 n_a0_1) (s2 : vp_in 1 n_a0_1) (h4 : hfr w a0 27 = some a0_27) (h5 : hk w a0_27 = (16, n_a0_27)) (s3 : vp_in (804 + x1) n_a0_27) (s4 : vp_in 2 n_a0_1) (k1 : mW G mX11_reason 3 0 0 124 [(0, .ref a0), (1, .int x1), (2, .int x2), (3, .int x3), (4, .long (((hai w a0_1 0).toInt64) * x2.toInt64)), (6, .long (((hai w a0_1 1).toInt64) * ((hai w a0_27 ((804 + x1).toNatClampNeg)).toInt64))), (8, .long (((hai w a0_1 2).toInt64) * x3.toInt64))] [] w Φ) : mW G mX11_reason 3 0 0 79 [(0, .ref a0), (1, .int x1), (2, .int x2), (3, .int x3)] [] w Φ := by
  refine mW_aload_n (j := 0) dX11_reason_79 rfl rfl ?_
  refine mW_getR dX11_reason_80 f_X11_13 h1 rfl h2 ?_
  refine mW_iconst (v := 0) dX11_reason_83 (by decide) ?_
  refine mW_ialdJ dX11_reason_84 h3 s1 (j := 0) (by decide) ?_
  refine mW_i2l dX11_reason_85 ?_
  refine mW_iload_n (j := 2) dX11_reason_86 rfl rfl ?_
  refine mW_i2l dX11_reason_87 ?_
  refine mW_lmul dX11_reason_88 ?_
  refine mW_lstore (lv2 := [(4, .long (((hai w a0_1 0).toInt64) * x2.toInt64)), (0, .ref a0), (1, .int x1), (2, .int x2), (3, .int x3)]) dX11_reason_89 (by decide) rfl ?_
  refine mW_aload_n (j := 1) dX11_reason_91 rfl rfl ?_
  refine mW_getR dX11_reason_92 f_X11_13 h1 rfl h2 ?_
  refine mW_iconst (v := 1) dX11_reason_95 (by decide) ?_
  refine mW_ialdJ dX11_reason_96 h3 s2 (j := 1) (by decide) ?_
  refine mW_i2l dX11_reason_97 ?_
  refine mW_aload_n (j := 1) dX11_reason_98 rfl rfl ?_
  refine mW_getR dX11_reason_99 f_X11_60 h1 rfl h4 ?_
  refine mW_sipush (v := 804) dX11_reason_102 (by decide) ?_
  refine mW_iload_n (j := 2) dX11_reason_105 rfl rfl ?_
  refine mW_iadd dX11_reason_106 ?_
  refine mW_ialdJ dX11_reason_107 h5 s3 rfl ?_
  refine mW_i2l dX11_reason_108 ?_
  refine mW_lmul dX11_reason_109 ?_
  refine mW_lstore (lv2 := [(6, .long (((hai w a0_1 1).toInt64) * ((hai w a0_27 ((804 + x1).toNatClampNeg)).toInt64))), (4, .long (((hai w a0_1 0).toInt64) * x2.toInt64)), (0, .ref a0), (1, .int x1), (2, .int x2), (3, .int x3)]) dX11_reason_110 (by decide) rfl ?_
  refine mW_aload_n (j := 2) dX11_reason_112 rfl rfl ?_
  refine mW_getR dX11_reason_113 f_X11_13 h1 rfl h2 ?_
  refine mW_iconst (v := 2) dX11_reason_116 (by decide) ?_
  refine mW_ialdJ dX11_reason_117 h3 s4 (j := 2) (by decide) ?_
  refine mW_i2l dX11_reason_118 ?_
  refine mW_iload_n (j := 5) dX11_reason_119 rfl rfl ?_
  refine mW_i2l dX11_reason_120 ?_
  refine mW_lmul dX11_reason_121 ?_
  refine mW_lstore (lv2 := [(8, .long (((hai w a0_1 2).toInt64) * x3.toInt64)), (6, .long (((hai w a0_1 1).toInt64) * ((hai w a0_27 ((804 + x1).toNatClampNeg)).toInt64))), (4, .long (((hai w a0_1 0).toInt64) * x2.toInt64)), (0, .ref a0), (1, .int x1), (2, .int x2), (3, .int x3)]) dX11_reason_122 (by decide) rfl ?_
  refine mW_loc [3, 4, 5, 6, 2, 1, 0] (lv2 := [(0, .ref a0), (1, .int x1), (2, .int x2), (3, .int x3), (4, .long (((hai w a0_1 0).toInt64) * x2.toInt64)), (6, .long (((hai w a0_1 1).toInt64) * ((hai w a0_27 ((804 + x1).toNatClampNeg)).toInt64))), (8, .long (((hai w a0_1 2).toInt64) * x3.toInt64))]) rfl ?_
  exact k1
set_option maxHeartbeats 4000000 in
set_option maxRecDepth 100000 in
theorem gX11_reason_124 {G : mG} {w : mH} {Φ : mF} {a0 : Nat} {x1 x2 x3 : Int32} {y4 y6 y8 : Int64}  (k1 : (0 ≤ (lg_cmp y4 0)) → mW G mX11_reason 3 0 0 141 [(0, .ref a0), (1, .int x1), (2, .int x2), (3, .int x3), (4, .long y4), (6, .long y6), (8, .long y8)] [] w Φ) (k2 : (¬ (0 ≤ (lg_cmp y4 0))) → mW G mX11_reason 3 0 0 141 [(0, .ref a0), (1, .int x1), (2, .int x2), (3, .int x3), (4, .long (-y4)), (6, .long y6), (8, .long y8)] [] w Φ) : mW G mX11_reason 3 0 0 124 [(0, .ref a0), (1, .int x1), (2, .int x2), (3, .int x3), (4, .long y4), (6, .long y6), (8, .long y8)] [] w Φ := by
  refine mW_lload (j := 4) dX11_reason_124 rfl ?_
  refine mW_lconst (v := 0) dX11_reason_126 (by decide) ?_
  refine mW_lcmp dX11_reason_127 ?_
  refine mW_if_ge (tgt := 137) dX11_reason_128 (by decide) (fun c1 => ?_) (fun c1 => ?_)
  · refine mW_lload (j := 4) dX11_reason_137 rfl ?_
    refine mW_lstore (lv2 := [(4, .long y4), (0, .ref a0), (1, .int x1), (2, .int x2), (3, .int x3), (6, .long y6), (8, .long y8)]) dX11_reason_139 (by decide) rfl ?_
    refine mW_loc [1, 2, 3, 4, 0, 5, 6] (lv2 := [(0, .ref a0), (1, .int x1), (2, .int x2), (3, .int x3), (4, .long y4), (6, .long y6), (8, .long y8)]) rfl ?_
    exact k1 c1
  · refine mW_lload (j := 4) dX11_reason_131 rfl ?_
    refine mW_lneg dX11_reason_133 ?_
    refine mW_goto (tgt := 139) dX11_reason_134 (by decide) ?_
    refine mW_lstore (lv2 := [(4, .long (-y4)), (0, .ref a0), (1, .int x1), (2, .int x2), (3, .int x3), (6, .long y6), (8, .long y8)]) dX11_reason_139 (by decide) rfl ?_
    refine mW_loc [1, 2, 3, 4, 0, 5, 6] (lv2 := [(0, .ref a0), (1, .int x1), (2, .int x2), (3, .int x3), (4, .long (-y4)), (6, .long y6), (8, .long y8)]) rfl ?_
    exact k2 c1
set_option maxHeartbeats 4000000 in
set_option maxRecDepth 100000 in
theorem gX11_reason_141 {G : mG} {w : mH} {Φ : mF} {a0 : Nat} {x1 x2 x3 : Int32} {y4 y6 y8 : Int64}  (k1 : (0 ≤ (lg_cmp y6 0)) → mW G mX11_reason 3 0 0 158 [(0, .ref a0), (1, .int x1), (2, .int x2), (3, .int x3), (4, .long y4), (6, .long y6), (8, .long y8)] [] w Φ) (k2 : (¬ (0 ≤ (lg_cmp y6 0))) → mW G mX11_reason 3 0 0 158 [(0, .ref a0), (1, .int x1), (2, .int x2), (3, .int x3), (4, .long y4), (6, .long (-y6)), (8, .long y8)] [] w Φ) : mW G mX11_reason 3 0 0 141 [(0, .ref a0), (1, .int x1), (2, .int x2), (3, .int x3), (4, .long y4), (6, .long y6), (8, .long y8)] [] w Φ := by
  refine mW_lload (j := 5) dX11_reason_141 rfl ?_
  refine mW_lconst (v := 0) dX11_reason_143 (by decide) ?_
  refine mW_lcmp dX11_reason_144 ?_
  refine mW_if_ge (tgt := 154) dX11_reason_145 (by decide) (fun c1 => ?_) (fun c1 => ?_)
  · refine mW_lload (j := 5) dX11_reason_154 rfl ?_
    refine mW_lstore (lv2 := [(6, .long y6), (0, .ref a0), (1, .int x1), (2, .int x2), (3, .int x3), (4, .long y4), (8, .long y8)]) dX11_reason_156 (by decide) rfl ?_
    refine mW_loc [1, 2, 3, 4, 5, 0, 6] (lv2 := [(0, .ref a0), (1, .int x1), (2, .int x2), (3, .int x3), (4, .long y4), (6, .long y6), (8, .long y8)]) rfl ?_
    exact k1 c1
  · refine mW_lload (j := 5) dX11_reason_148 rfl ?_
    refine mW_lneg dX11_reason_150 ?_
    refine mW_goto (tgt := 156) dX11_reason_151 (by decide) ?_
    refine mW_lstore (lv2 := [(6, .long (-y6)), (0, .ref a0), (1, .int x1), (2, .int x2), (3, .int x3), (4, .long y4), (8, .long y8)]) dX11_reason_156 (by decide) rfl ?_
    refine mW_loc [1, 2, 3, 4, 5, 0, 6] (lv2 := [(0, .ref a0), (1, .int x1), (2, .int x2), (3, .int x3), (4, .long y4), (6, .long (-y6)), (8, .long y8)]) rfl ?_
    exact k2 c1
set_option maxHeartbeats 4000000 in
set_option maxRecDepth 100000 in
theorem gX11_reason_158 {G : mG} {w : mH} {Φ : mF} {a0 : Nat} {x1 x2 x3 : Int32} {y4 y6 y8 : Int64}  (k1 : (0 ≤ (lg_cmp y8 0)) → mW G mX11_reason 3 0 0 175 [(0, .ref a0), (1, .int x1), (2, .int x2), (3, .int x3), (4, .long y4), (6, .long y6), (8, .long y8)] [] w Φ) (k2 : (¬ (0 ≤ (lg_cmp y8 0))) → mW G mX11_reason 3 0 0 175 [(0, .ref a0), (1, .int x1), (2, .int x2), (3, .int x3), (4, .long y4), (6, .long y6), (8, .long (-y8))] [] w Φ) : mW G mX11_reason 3 0 0 158 [(0, .ref a0), (1, .int x1), (2, .int x2), (3, .int x3), (4, .long y4), (6, .long y6), (8, .long y8)] [] w Φ := by
  refine mW_lload (j := 6) dX11_reason_158 rfl ?_
  refine mW_lconst (v := 0) dX11_reason_160 (by decide) ?_
  refine mW_lcmp dX11_reason_161 ?_
  refine mW_if_ge (tgt := 171) dX11_reason_162 (by decide) (fun c1 => ?_) (fun c1 => ?_)
  · refine mW_lload (j := 6) dX11_reason_171 rfl ?_
    refine mW_lstore (lv2 := [(8, .long y8), (0, .ref a0), (1, .int x1), (2, .int x2), (3, .int x3), (4, .long y4), (6, .long y6)]) dX11_reason_173 (by decide) rfl ?_
    refine mW_loc [1, 2, 3, 4, 5, 6, 0] (lv2 := [(0, .ref a0), (1, .int x1), (2, .int x2), (3, .int x3), (4, .long y4), (6, .long y6), (8, .long y8)]) rfl ?_
    exact k1 c1
  · refine mW_lload (j := 6) dX11_reason_165 rfl ?_
    refine mW_lneg dX11_reason_167 ?_
    refine mW_goto (tgt := 173) dX11_reason_168 (by decide) ?_
    refine mW_lstore (lv2 := [(8, .long (-y8)), (0, .ref a0), (1, .int x1), (2, .int x2), (3, .int x3), (4, .long y4), (6, .long y6)]) dX11_reason_173 (by decide) rfl ?_
    refine mW_loc [1, 2, 3, 4, 5, 6, 0] (lv2 := [(0, .ref a0), (1, .int x1), (2, .int x2), (3, .int x3), (4, .long y4), (6, .long y6), (8, .long (-y8))]) rfl ?_
    exact k2 c1
set_option maxHeartbeats 4000000 in
set_option maxRecDepth 100000 in
theorem gX11_reason_175 {G : mG} {w : mH} {Φ : mF} {a0 : Nat} {x1 x2 x3 : Int32} {y4 y6 y8 : Int64}  (k1 : (¬ ((lg_cmp y4 0) = 0)) → ((lg_cmp y4 y6) < 0) → ((lg_cmp y6 y8) < 0) → Φ (.inl (some (.int 2))) w) (k2 : (¬ ((lg_cmp y4 0) = 0)) → ((lg_cmp y4 y6) < 0) → (¬ ((lg_cmp y6 y8) < 0)) → Φ (.inl (some (.int 1))) w) (k3 : (¬ ((lg_cmp y4 0) = 0)) → (¬ ((lg_cmp y4 y6) < 0)) → ((lg_cmp y4 y8) < 0) → ((lg_cmp y6 y8) < 0) → Φ (.inl (some (.int 2))) w) (k4 : (¬ ((lg_cmp y4 0) = 0)) → (¬ ((lg_cmp y4 y6) < 0)) → ((lg_cmp y4 y8) < 0) → (¬ ((lg_cmp y6 y8) < 0)) → Φ (.inl (some (.int 1))) w) (k5 : (¬ ((lg_cmp y4 0) = 0)) → (¬ ((lg_cmp y4 y6) < 0)) → (¬ ((lg_cmp y4 y8) < 0)) → Φ (.inl (some (.int 0))) w) (k6 : ((lg_cmp y4 0) = 0) → (¬ ((lg_cmp y6 0) = 0)) → ((lg_cmp y4 y6) < 0) → ((lg_cmp y6 y8) < 0) → Φ (.inl (some (.int 2))) w) (k7 : ((lg_cmp y4 0) = 0) → (¬ ((lg_cmp y6 0) = 0)) → ((lg_cmp y4 y6) < 0) → (¬ ((lg_cmp y6 y8) < 0)) → Φ (.inl (some (.int 1))) w) (k8 : ((lg_cmp y4 0) = 0) → (¬ ((lg_cmp y6 0) = 0)) → (¬ ((lg_cmp y4 y6) < 0)) → ((lg_cmp y4 y8) < 0) → ((lg_cmp y6 y8) < 0) → Φ (.inl (some (.int 2))) w) (k9 : ((lg_cmp y4 0) = 0) → (¬ ((lg_cmp y6 0) = 0)) → (¬ ((lg_cmp y4 y6) < 0)) → ((lg_cmp y4 y8) < 0) → (¬ ((lg_cmp y6 y8) < 0)) → Φ (.inl (some (.int 1))) w) (k10 : ((lg_cmp y4 0) = 0) → (¬ ((lg_cmp y6 0) = 0)) → (¬ ((lg_cmp y4 y6) < 0)) → (¬ ((lg_cmp y4 y8) < 0)) → Φ (.inl (some (.int 0))) w) (k11 : ((lg_cmp y4 0) = 0) → ((lg_cmp y6 0) = 0) → (¬ ((lg_cmp y8 0) = 0)) → ((lg_cmp y4 y6) < 0) → ((lg_cmp y6 y8) < 0) → Φ (.inl (some (.int 2))) w) (k12 : ((lg_cmp y4 0) = 0) → ((lg_cmp y6 0) = 0) → (¬ ((lg_cmp y8 0) = 0)) → ((lg_cmp y4 y6) < 0) → (¬ ((lg_cmp y6 y8) < 0)) → Φ (.inl (some (.int 1))) w) (k13 : ((lg_cmp y4 0) = 0) → ((lg_cmp y6 0) = 0) → (¬ ((lg_cmp y8 0) = 0)) → (¬ ((lg_cmp y4 y6) < 0)) → ((lg_cmp y4 y8) < 0) → ((lg_cmp y6 y8) < 0) → Φ (.inl (some (.int 2))) w) (k14 : ((lg_cmp y4 0) = 0) → ((lg_cmp y6 0) = 0) → (¬ ((lg_cmp y8 0) = 0)) → (¬ ((lg_cmp y4 y6) < 0)) → ((lg_cmp y4 y8) < 0) → (¬ ((lg_cmp y6 y8) < 0)) → Φ (.inl (some (.int 1))) w) (k15 : ((lg_cmp y4 0) = 0) → ((lg_cmp y6 0) = 0) → (¬ ((lg_cmp y8 0) = 0)) → (¬ ((lg_cmp y4 y6) < 0)) → (¬ ((lg_cmp y4 y8) < 0)) → Φ (.inl (some (.int 0))) w) (k16 : ((lg_cmp y4 0) = 0) → ((lg_cmp y6 0) = 0) → ((lg_cmp y8 0) = 0) → Φ (.inl (some (.int (-1)))) w) : mW G mX11_reason 3 0 0 175 [(0, .ref a0), (1, .int x1), (2, .int x2), (3, .int x3), (4, .long y4), (6, .long y6), (8, .long y8)] [] w Φ := by
  refine mW_lload (j := 4) dX11_reason_175 rfl ?_
  refine mW_lconst (v := 0) dX11_reason_177 (by decide) ?_
  refine mW_lcmp dX11_reason_178 ?_
  refine mW_if_ne (tgt := 200) dX11_reason_179 (by decide) (fun c1 => ?_) (fun c1 => ?_)
  · refine mW_lload (j := 4) dX11_reason_200 rfl ?_
    refine mW_lload (j := 5) dX11_reason_202 rfl ?_
    refine mW_lcmp dX11_reason_204 ?_
    refine mW_if_lt (tgt := 220) dX11_reason_205 (by decide) (fun c2 => ?_) (fun c2 => ?_)
    · refine mW_lload (j := 5) dX11_reason_220 rfl ?_
      refine mW_lload (j := 6) dX11_reason_222 rfl ?_
      refine mW_lcmp dX11_reason_224 ?_
      refine mW_if_lt (tgt := 232) dX11_reason_225 (by decide) (fun c3 => ?_) (fun c3 => ?_)
      · refine mW_iconst (v := 2) dX11_reason_232 (by decide) ?_
        exact mW_iret dX11_reason_233 rfl (k1 c1 c2 c3)
      · refine mW_iconst (v := 1) dX11_reason_228 (by decide) ?_
        refine mW_goto (tgt := 233) dX11_reason_229 (by decide) ?_
        exact mW_iret dX11_reason_233 rfl (k2 c1 c2 c3)
    · refine mW_lload (j := 4) dX11_reason_208 rfl ?_
      refine mW_lload (j := 6) dX11_reason_210 rfl ?_
      refine mW_lcmp dX11_reason_212 ?_
      refine mW_if_lt (tgt := 220) dX11_reason_213 (by decide) (fun c4 => ?_) (fun c4 => ?_)
      · refine mW_lload (j := 5) dX11_reason_220 rfl ?_
        refine mW_lload (j := 6) dX11_reason_222 rfl ?_
        refine mW_lcmp dX11_reason_224 ?_
        refine mW_if_lt (tgt := 232) dX11_reason_225 (by decide) (fun c5 => ?_) (fun c5 => ?_)
        · refine mW_iconst (v := 2) dX11_reason_232 (by decide) ?_
          exact mW_iret dX11_reason_233 rfl (k3 c1 c2 c4 c5)
        · refine mW_iconst (v := 1) dX11_reason_228 (by decide) ?_
          refine mW_goto (tgt := 233) dX11_reason_229 (by decide) ?_
          exact mW_iret dX11_reason_233 rfl (k4 c1 c2 c4 c5)
      · refine mW_iconst (v := 0) dX11_reason_216 (by decide) ?_
        refine mW_goto (tgt := 233) dX11_reason_217 (by decide) ?_
        exact mW_iret dX11_reason_233 rfl (k5 c1 c2 c4)
  · refine mW_lload (j := 5) dX11_reason_182 rfl ?_
    refine mW_lconst (v := 0) dX11_reason_184 (by decide) ?_
    refine mW_lcmp dX11_reason_185 ?_
    refine mW_if_ne (tgt := 200) dX11_reason_186 (by decide) (fun c6 => ?_) (fun c6 => ?_)
    · refine mW_lload (j := 4) dX11_reason_200 rfl ?_
      refine mW_lload (j := 5) dX11_reason_202 rfl ?_
      refine mW_lcmp dX11_reason_204 ?_
      refine mW_if_lt (tgt := 220) dX11_reason_205 (by decide) (fun c7 => ?_) (fun c7 => ?_)
      · refine mW_lload (j := 5) dX11_reason_220 rfl ?_
        refine mW_lload (j := 6) dX11_reason_222 rfl ?_
        refine mW_lcmp dX11_reason_224 ?_
        refine mW_if_lt (tgt := 232) dX11_reason_225 (by decide) (fun c8 => ?_) (fun c8 => ?_)
        · refine mW_iconst (v := 2) dX11_reason_232 (by decide) ?_
          exact mW_iret dX11_reason_233 rfl (k6 c1 c6 c7 c8)
        · refine mW_iconst (v := 1) dX11_reason_228 (by decide) ?_
          refine mW_goto (tgt := 233) dX11_reason_229 (by decide) ?_
          exact mW_iret dX11_reason_233 rfl (k7 c1 c6 c7 c8)
      · refine mW_lload (j := 4) dX11_reason_208 rfl ?_
        refine mW_lload (j := 6) dX11_reason_210 rfl ?_
        refine mW_lcmp dX11_reason_212 ?_
        refine mW_if_lt (tgt := 220) dX11_reason_213 (by decide) (fun c9 => ?_) (fun c9 => ?_)
        · refine mW_lload (j := 5) dX11_reason_220 rfl ?_
          refine mW_lload (j := 6) dX11_reason_222 rfl ?_
          refine mW_lcmp dX11_reason_224 ?_
          refine mW_if_lt (tgt := 232) dX11_reason_225 (by decide) (fun c10 => ?_) (fun c10 => ?_)
          · refine mW_iconst (v := 2) dX11_reason_232 (by decide) ?_
            exact mW_iret dX11_reason_233 rfl (k8 c1 c6 c7 c9 c10)
          · refine mW_iconst (v := 1) dX11_reason_228 (by decide) ?_
            refine mW_goto (tgt := 233) dX11_reason_229 (by decide) ?_
            exact mW_iret dX11_reason_233 rfl (k9 c1 c6 c7 c9 c10)
        · refine mW_iconst (v := 0) dX11_reason_216 (by decide) ?_
          refine mW_goto (tgt := 233) dX11_reason_217 (by decide) ?_
          exact mW_iret dX11_reason_233 rfl (k10 c1 c6 c7 c9)
    · refine mW_lload (j := 6) dX11_reason_189 rfl ?_
      refine mW_lconst (v := 0) dX11_reason_191 (by decide) ?_
      refine mW_lcmp dX11_reason_192 ?_
      refine mW_if_ne (tgt := 200) dX11_reason_193 (by decide) (fun c11 => ?_) (fun c11 => ?_)
      · refine mW_lload (j := 4) dX11_reason_200 rfl ?_
        refine mW_lload (j := 5) dX11_reason_202 rfl ?_
        refine mW_lcmp dX11_reason_204 ?_
        refine mW_if_lt (tgt := 220) dX11_reason_205 (by decide) (fun c12 => ?_) (fun c12 => ?_)
        · refine mW_lload (j := 5) dX11_reason_220 rfl ?_
          refine mW_lload (j := 6) dX11_reason_222 rfl ?_
          refine mW_lcmp dX11_reason_224 ?_
          refine mW_if_lt (tgt := 232) dX11_reason_225 (by decide) (fun c13 => ?_) (fun c13 => ?_)
          · refine mW_iconst (v := 2) dX11_reason_232 (by decide) ?_
            exact mW_iret dX11_reason_233 rfl (k11 c1 c6 c11 c12 c13)
          · refine mW_iconst (v := 1) dX11_reason_228 (by decide) ?_
            refine mW_goto (tgt := 233) dX11_reason_229 (by decide) ?_
            exact mW_iret dX11_reason_233 rfl (k12 c1 c6 c11 c12 c13)
        · refine mW_lload (j := 4) dX11_reason_208 rfl ?_
          refine mW_lload (j := 6) dX11_reason_210 rfl ?_
          refine mW_lcmp dX11_reason_212 ?_
          refine mW_if_lt (tgt := 220) dX11_reason_213 (by decide) (fun c14 => ?_) (fun c14 => ?_)
          · refine mW_lload (j := 5) dX11_reason_220 rfl ?_
            refine mW_lload (j := 6) dX11_reason_222 rfl ?_
            refine mW_lcmp dX11_reason_224 ?_
            refine mW_if_lt (tgt := 232) dX11_reason_225 (by decide) (fun c15 => ?_) (fun c15 => ?_)
            · refine mW_iconst (v := 2) dX11_reason_232 (by decide) ?_
              exact mW_iret dX11_reason_233 rfl (k13 c1 c6 c11 c12 c14 c15)
            · refine mW_iconst (v := 1) dX11_reason_228 (by decide) ?_
              refine mW_goto (tgt := 233) dX11_reason_229 (by decide) ?_
              exact mW_iret dX11_reason_233 rfl (k14 c1 c6 c11 c12 c14 c15)
          · refine mW_iconst (v := 0) dX11_reason_216 (by decide) ?_
            refine mW_goto (tgt := 233) dX11_reason_217 (by decide) ?_
            exact mW_iret dX11_reason_233 rfl (k15 c1 c6 c11 c12 c14)
      · refine mW_iconst (v := (-1)) dX11_reason_196 (by decide) ?_
        refine mW_goto (tgt := 233) dX11_reason_197 (by decide) ?_
        exact mW_iret dX11_reason_233 rfl (k16 c1 c6 c11)
/-! the reference: reason -/
def lAb (y : Int64) : Int64 := if 0 ≤ lg_cmp y 0 then y else -y
def vRs (y4 y6 y8 : Int64) : Int32 := (if (lg_cmp y4 0) = 0 then (if (lg_cmp y6 0) = 0 then (if (lg_cmp y8 0) = 0 then (-1) else (if (lg_cmp y4 y6) < 0 then (if (lg_cmp y6 y8) < 0 then 2 else 1) else (if (lg_cmp y4 y8) < 0 then (if (lg_cmp y6 y8) < 0 then 2 else 1) else 0))) else (if (lg_cmp y4 y6) < 0 then (if (lg_cmp y6 y8) < 0 then 2 else 1) else (if (lg_cmp y4 y8) < 0 then (if (lg_cmp y6 y8) < 0 then 2 else 1) else 0))) else (if (lg_cmp y4 y6) < 0 then (if (lg_cmp y6 y8) < 0 then 2 else 1) else (if (lg_cmp y4 y8) < 0 then (if (lg_cmp y6 y8) < 0 then 2 else 1) else 0)))
theorem re_2 {G : mG} {w : mH} {a0 : Nat} {x1 x2 x3 : Int32} {y4 y6 y8 : Int64} {Φ : mF} (k : mW G mX11_reason 3 0 0 141 [(0, .ref a0), (1, .int x1), (2, .int x2), (3, .int x3), (4, .long (lAb y4)), (6, .long y6), (8, .long y8)] [] w Φ) : mW G mX11_reason 3 0 0 124 [(0, .ref a0), (1, .int x1), (2, .int x2), (3, .int x3), (4, .long y4), (6, .long y6), (8, .long y8)] [] w Φ := by
  refine gX11_reason_124 ?_ ?_
  · intro c1
    have e : lAb y4 = y4 := if_pos c1
    rw [e] at k
    exact k
  · intro c1
    have e : lAb y4 = -y4 := if_neg c1
    rw [e] at k
    exact k
theorem re_3 {G : mG} {w : mH} {a0 : Nat} {x1 x2 x3 : Int32} {y4 y6 y8 : Int64} {Φ : mF} (k : mW G mX11_reason 3 0 0 158 [(0, .ref a0), (1, .int x1), (2, .int x2), (3, .int x3), (4, .long y4), (6, .long (lAb y6)), (8, .long y8)] [] w Φ) : mW G mX11_reason 3 0 0 141 [(0, .ref a0), (1, .int x1), (2, .int x2), (3, .int x3), (4, .long y4), (6, .long y6), (8, .long y8)] [] w Φ := by
  refine gX11_reason_141 ?_ ?_
  · intro c1
    have e : lAb y6 = y6 := if_pos c1
    rw [e] at k
    exact k
  · intro c1
    have e : lAb y6 = -y6 := if_neg c1
    rw [e] at k
    exact k
theorem re_4 {G : mG} {w : mH} {a0 : Nat} {x1 x2 x3 : Int32} {y4 y6 y8 : Int64} {Φ : mF} (k : mW G mX11_reason 3 0 0 175 [(0, .ref a0), (1, .int x1), (2, .int x2), (3, .int x3), (4, .long y4), (6, .long y6), (8, .long (lAb y8))] [] w Φ) : mW G mX11_reason 3 0 0 158 [(0, .ref a0), (1, .int x1), (2, .int x2), (3, .int x3), (4, .long y4), (6, .long y6), (8, .long y8)] [] w Φ := by
  refine gX11_reason_158 ?_ ?_
  · intro c1
    have e : lAb y8 = y8 := if_pos c1
    rw [e] at k
    exact k
  · intro c1
    have e : lAb y8 = -y8 := if_neg c1
    rw [e] at k
    exact k
theorem re_5 {G : mG} {w : mH} {a0 : Nat} {x1 x2 x3 : Int32} {y4 y6 y8 : Int64} {Φ : mF} (k : Φ (.inl (some (.int (vRs y4 y6 y8)))) w) : mW G mX11_reason 3 0 0 175 [(0, .ref a0), (1, .int x1), (2, .int x2), (3, .int x3), (4, .long y4), (6, .long y6), (8, .long y8)] [] w Φ := by
  refine gX11_reason_175 ?_ ?_ ?_ ?_ ?_ ?_ ?_ ?_ ?_ ?_ ?_ ?_ ?_ ?_ ?_ ?_
  · intro c1 c2 c3
    have e : vRs y4 y6 y8 = 2 := by unfold vRs; rw [if_neg c1, if_pos c2, if_pos c3]
    rw [e] at k
    exact k
  · intro c1 c2 c3
    have e : vRs y4 y6 y8 = 1 := by unfold vRs; rw [if_neg c1, if_pos c2, if_neg c3]
    rw [e] at k
    exact k
  · intro c1 c2 c4 c5
    have e : vRs y4 y6 y8 = 2 := by unfold vRs; rw [if_neg c1, if_neg c2, if_pos c4, if_pos c5]
    rw [e] at k
    exact k
  · intro c1 c2 c4 c5
    have e : vRs y4 y6 y8 = 1 := by unfold vRs; rw [if_neg c1, if_neg c2, if_pos c4, if_neg c5]
    rw [e] at k
    exact k
  · intro c1 c2 c4
    have e : vRs y4 y6 y8 = 0 := by unfold vRs; rw [if_neg c1, if_neg c2, if_neg c4]
    rw [e] at k
    exact k
  · intro c1 c6 c7 c8
    have e : vRs y4 y6 y8 = 2 := by unfold vRs; rw [if_pos c1, if_neg c6, if_pos c7, if_pos c8]
    rw [e] at k
    exact k
  · intro c1 c6 c7 c8
    have e : vRs y4 y6 y8 = 1 := by unfold vRs; rw [if_pos c1, if_neg c6, if_pos c7, if_neg c8]
    rw [e] at k
    exact k
  · intro c1 c6 c7 c9 c10
    have e : vRs y4 y6 y8 = 2 := by unfold vRs; rw [if_pos c1, if_neg c6, if_neg c7, if_pos c9, if_pos c10]
    rw [e] at k
    exact k
  · intro c1 c6 c7 c9 c10
    have e : vRs y4 y6 y8 = 1 := by unfold vRs; rw [if_pos c1, if_neg c6, if_neg c7, if_pos c9, if_neg c10]
    rw [e] at k
    exact k
  · intro c1 c6 c7 c9
    have e : vRs y4 y6 y8 = 0 := by unfold vRs; rw [if_pos c1, if_neg c6, if_neg c7, if_neg c9]
    rw [e] at k
    exact k
  · intro c1 c6 c11 c12 c13
    have e : vRs y4 y6 y8 = 2 := by unfold vRs; rw [if_pos c1, if_pos c6, if_neg c11, if_pos c12, if_pos c13]
    rw [e] at k
    exact k
  · intro c1 c6 c11 c12 c13
    have e : vRs y4 y6 y8 = 1 := by unfold vRs; rw [if_pos c1, if_pos c6, if_neg c11, if_pos c12, if_neg c13]
    rw [e] at k
    exact k
  · intro c1 c6 c11 c12 c14 c15
    have e : vRs y4 y6 y8 = 2 := by unfold vRs; rw [if_pos c1, if_pos c6, if_neg c11, if_neg c12, if_pos c14, if_pos c15]
    rw [e] at k
    exact k
  · intro c1 c6 c11 c12 c14 c15
    have e : vRs y4 y6 y8 = 1 := by unfold vRs; rw [if_pos c1, if_pos c6, if_neg c11, if_neg c12, if_pos c14, if_neg c15]
    rw [e] at k
    exact k
  · intro c1 c6 c11 c12 c14
    have e : vRs y4 y6 y8 = 0 := by unfold vRs; rw [if_pos c1, if_pos c6, if_neg c11, if_neg c12, if_neg c14]
    rw [e] at k
    exact k
  · intro c1 c6 c11
    have e : vRs y4 y6 y8 = (-1) := by unfold vRs; rw [if_pos c1, if_pos c6, if_pos c11]
    rw [e] at k
    exact k
def vRea (A R : Nat → Int32) (t : Nat) : Int32 := vRs (lAb ((A 0).toInt64 * (R (201 + t)).toInt64)) (lAb ((A 1).toInt64 * (R (804 + t)).toInt64)) (lAb ((A 2).toInt64 * (if t = 0 then 0 else R (201 + t) - R (200 + t)).toInt64))
theorem re_1 {G : mG} {w : mH} {a0 t : Nat} {x2 x3 : Int32} {Φ : mF} (z : zRef w a0) (ht : t < 200) (k : Φ (.inl (some (.int (vRs (lAb ((hai w (a0 + 1) 0).toInt64 * x2.toInt64)) (lAb ((hai w (a0 + 1) 1).toInt64 * (hai w (a0 + 15) (804 + t)).toInt64)) (lAb ((hai w (a0 + 1) 2).toInt64 * x3.toInt64)))))) w) : mW G mX11_reason 3 0 0 79 [(0, .ref a0), (1, .int (nI t)), (2, .int x2), (3, .int x3)] [] w Φ := by
  refine gX11_reason_79 (a0_1 := a0 + 1) (a0_27 := a0 + 15) z.1 z.2.1 z.2.2.2.2.2.2.2.2.2.2.2.2.2.2.2.2.2.2.2.2.2.2.1 (by intros; unfold vp_in; decide) (by intros; unfold vp_in; decide) z.2.2.2.2.2.2.2.2.2.2.2.2.2.2.2.1 z.2.2.2.2.2.2.2.2.2.2.2.2.2.2.2.2.2.2.2.2.2.2.2.2.2.2.2.2.2.2.2.2.2.2.2.2.1 (by rw [show (804 : Int32) = nI 804 from rfl, nI_add]; exact m_vp (by omega) (by decide)) (by intros; unfold vp_in; decide) ?_
  have i8 : ((804 : Int32) + nI t).toNatClampNeg = 804 + t := by rw [show (804 : Int32) = nI 804 from rfl, nI_add]; exact m_cl (by omega)
  rw [i8]
  exact re_2 (re_3 (re_4 (re_5 k)))
def tRea (w : mH) (a0 : Nat) (x1 : Int32) : Int32 := if hfi w a0 25 = 0 then 1 else if vX11_in x1.toInt64 0 (hfi w a0 26 - 1).toInt64 = 0 then 2 else 0
theorem rea_ix {w : mH} {a0 : Nat} {x1 : Int32} (hT : ¬ hfi w a0 25 = 0 → ∃ N, hfi w a0 26 = nI N ∧ 1 ≤ N ∧ N ≤ 200) (c1 : ¬ hfi w a0 25 = 0) (c2 : ¬ vX11_in x1.toInt64 0 (hfi w a0 26 - 1).toInt64 = 0) : ∃ N, 1 ≤ N ∧ N ≤ 200 ∧ hfi w a0 26 = nI N ∧ ∃ t, t < N ∧ x1 = nI t := by
  obtain ⟨N, hN, h1, h200⟩ := hT c1
  obtain ⟨m, rfl⟩ : ∃ m, N = m + 1 := ⟨N - 1, by omega⟩
  rw [in_eq (a := 0) (b := hfi w a0 26 - 1) (A := 0) rfl rfl, hN, m_sub1] at c2
  obtain ⟨i, hi, hx⟩ := iw_N (n := m) (by omega) rfl c2
  exact ⟨m + 1, h1, h200, hN, i, by omega, hx⟩
theorem rX11_reason {G : mG} {w : mH} {a0 : Nat} {x1 : Int32} (z : zRef w a0) (hT : ¬ hfi w a0 25 = 0 → ∃ N, hfi w a0 26 = nI N ∧ 1 ≤ N ∧ N ≤ 200) : mC G mX11_reason 3 0 0 [.ref a0, .int x1] w (mEq (.inl (some (.int (if tRea w a0 x1 = 0 then vRea (hai w (a0 + 1)) (hai w (a0 + 15)) x1.toNatClampNeg else 0)))) (sfi w a0 0 (tRea w a0 x1))) := by
  refine mC_of (by decide +kernel) rfl (Nat.le_of_ble_eq_true rfl) rfl ?_
  refine gX11_reason_0 (a0_27 := a0 + 15) z.1 z.2.2.2.2.2.2.2.2.2.2.2.2.2.2.2.1 z.2.2.2.2.2.2.2.2.2.2.2.2.2.2.2.2.2.2.2.2.2.2.2.2.2.2.2.2.2.2.2.2.2.2.2.2.1 (by intro c1 c2 w2 e2; obtain ⟨N, h1, h200, hN, t, ht, hx⟩ := rea_ix hT c1 c2; rw [hx, show (201 : Int32) = nI 201 from rfl, nI_add]; exact m_vp (by omega) (by decide)) (by intro c1 c2 w2 e2 c3; obtain ⟨N, h1, h200, hN, t, ht, hx⟩ := rea_ix hT c1 c2; rw [hx, show (201 : Int32) = nI 201 from rfl, nI_add, show 201 + t = 200 + t + 1 by omega, m_sub1]; exact m_vp (by omega) (by decide)) ?_ ?_ ?_ ?_
  · intro c1 c2 w1 e1
    have et : tRea w a0 x1 = 2 := by unfold tRea; rw [if_neg c1, if_pos c2]
    rw [et, if_neg (by decide), e1]
    exact mEq_rf
  · intro c1 c2 w2 e2 c3
    obtain ⟨N, h1, h200, hN, t, ht, hx⟩ := rea_ix hT c1 c2
    have et : tRea w a0 x1 = 0 := by unfold tRea; rw [if_neg c1, if_neg c2]
    have F : xF [0] [] a0 w w2 := by rw [e2]; exact xF_sfi xF.rf (by decide)
    have g0 : hfi w2 a0 0 = 0 := by rw [e2, e_hfi_sfi, up2_at]
    have z2 : zRef w2 a0 := zRef_s2 (mS2.of F.1) z
    have rA : hai w2 (a0 + 1) = hai w (a0 + 1) := F.ai (by decide)
    have rT : hai w2 (a0 + 15) = hai w (a0 + 15) := F.ai (by decide)
    have i1 : ((201 : Int32) + x1).toNatClampNeg = 201 + t := by rw [hx, show (201 : Int32) = nI 201 from rfl, nI_add]; exact m_cl (by omega)
    have ct : x1.toNatClampNeg = t := by rw [hx]; exact m_cl (by omega)
    have i2 : ((201 : Int32) + x1 - 1).toNatClampNeg = 200 + t := by rw [hx, show (201 : Int32) = nI 201 from rfl, nI_add, show 201 + t = 200 + t + 1 by omega, m_sub1]; exact m_cl (by omega)
    have t0 : ¬ t = 0 := fun q => c3 (by rw [hx, q]; rfl)
    rw [i1, i2, rT, et, if_pos rfl, ← e2, ct]
    unfold vRea
    rw [if_neg t0, hx]
    refine re_1 z2 (by omega) ?_
    rw [rA, rT]
    exact mEq_rf
  · intro c1 c2 w2 e2 c3
    obtain ⟨N, h1, h200, hN, t, ht, hx⟩ := rea_ix hT c1 c2
    have et : tRea w a0 x1 = 0 := by unfold tRea; rw [if_neg c1, if_neg c2]
    have F : xF [0] [] a0 w w2 := by rw [e2]; exact xF_sfi xF.rf (by decide)
    have g0 : hfi w2 a0 0 = 0 := by rw [e2, e_hfi_sfi, up2_at]
    have z2 : zRef w2 a0 := zRef_s2 (mS2.of F.1) z
    have rA : hai w2 (a0 + 1) = hai w (a0 + 1) := F.ai (by decide)
    have rT : hai w2 (a0 + 15) = hai w (a0 + 15) := F.ai (by decide)
    have i1 : ((201 : Int32) + x1).toNatClampNeg = 201 + t := by rw [hx, show (201 : Int32) = nI 201 from rfl, nI_add]; exact m_cl (by omega)
    have ct : x1.toNatClampNeg = t := by rw [hx]; exact m_cl (by omega)
    have t0 : t = 0 := (m_le0 (by omega)).mp (by rw [← hx, c3]; exact Int32.le_refl _)
    rw [i1, rT, et, if_pos rfl, ← e2, ct]
    unfold vRea
    rw [if_pos t0, hx]
    refine re_1 z2 (by omega) ?_
    rw [rA, rT]
    exact mEq_rf
  · intro c1 w3 e3
    have et : tRea w a0 x1 = 1 := by unfold tRea; rw [if_pos c1]
    rw [et, if_neg (by decide), e3]
    exact mEq_rf

