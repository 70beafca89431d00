abbrev mX11_runs : mM := (yX11_runs, cX11_runs, 7, none, [])
theorem p_X11_218 : mPut "LineFollowerBenchModel" 218 11 22 (.int) false := ⟨RX11, TX11, 36, "LineFollowerBenchModel", tyX11, rfl, by decide, in_X11, u1582, Or.inl rfl, by decide, tyX11_ok, nmX11, by decide +kernel, rfl, fun h => by cases h⟩
theorem ob_11_22 (w : mH) (a : Nat) (v : Int32) : mOb (sfi w a 22 v) a 11 = (mOb w a 11).set 22 (.int v) := by simp [mOb, hfi_sfi, hfl_sfi, hfr_sfi, up2]
set_option maxHeartbeats 4000000 in
set_option maxRecDepth 100000 in
theorem gX11_runs_0 {G : mG} {w : mH} {Φ : mF} {a0 a0_1 n_a0_1 : Nat} (h1 : hk w a0 = (11, 0)) (h2 : hfr w a0 1 = some a0_1) (h3 : hk w a0_1 = (16, n_a0_1)) (s1 : vp_in 12 n_a0_1) (s2 : vp_in 13 n_a0_1) (k1 : ∀ w1 : mH, (w1 = sfi w a0 22 (hai w a0_1 13)) → mW G mX11_runs 4 0 0 32 [(0, .ref a0), (1, .int (hai w a0_1 12)), (2, .int 0), (3, .int 0), (4, .int 0), (5, .int 0), (6, .int 0)] [] w1 Φ) : mW G mX11_runs 4 0 0 0 [(0, .ref a0)] [] w Φ := by
  refine mW_aload_n (j := 0) dX11_runs_0 rfl rfl ?_
  refine mW_getR dX11_runs_1 f_X11_13 h1 rfl h2 ?_
  refine mW_bipush (v := 12) dX11_runs_4 (by decide) ?_
  refine mW_ialdJ dX11_runs_6 h3 s1 (j := 12) (by decide) ?_
  refine mW_istore_n (lv2 := [(1, .int (hai w a0_1 12)), (0, .ref a0)]) dX11_runs_7 rfl (by decide) rfl ?_
  refine mW_iconst (v := 0) dX11_runs_8 (by decide) ?_
  refine mW_istore_n (lv2 := [(2, .int 0), (1, .int (hai w a0_1 12)), (0, .ref a0)]) dX11_runs_9 rfl (by decide) rfl ?_
  refine mW_iconst (v := 0) dX11_runs_10 (by decide) ?_
  refine mW_istore_n (lv2 := [(3, .int 0), (2, .int 0), (1, .int (hai w a0_1 12)), (0, .ref a0)]) dX11_runs_11 rfl (by decide) rfl ?_
  refine mW_iconst (v := 0) dX11_runs_12 (by decide) ?_
  refine mW_istore (lv2 := [(4, .int 0), (3, .int 0), (2, .int 0), (1, .int (hai w a0_1 12)), (0, .ref a0)]) dX11_runs_13 (by decide) rfl ?_
  refine mW_iconst (v := 0) dX11_runs_15 (by decide) ?_
  refine mW_istore (lv2 := [(5, .int 0), (4, .int 0), (3, .int 0), (2, .int 0), (1, .int (hai w a0_1 12)), (0, .ref a0)]) dX11_runs_16 (by decide) rfl ?_
  refine mW_aload_n (j := 5) dX11_runs_18 rfl rfl ?_
  refine mW_aload_n (j := 5) dX11_runs_19 rfl rfl ?_
  refine mW_getR dX11_runs_20 f_X11_13 h1 rfl h2 ?_
  refine mW_bipush (v := 13) dX11_runs_23 (by decide) ?_
  refine mW_ialdJ dX11_runs_25 h3 s2 (j := 13) (by decide) ?_
  refine mW_put (ty := .int) (w2 := sfi w a0 22 (hai w a0_1 13)) dX11_runs_26 p_X11_218 h1 (Nat.le_of_ble_eq_true rfl) (by first | rfl | decide | (repeat' split) <;> rfl) rfl (hN_sfi _ _ _ _) (hk_sfi _ _ _ _) (mE_sfi h1 (by decide) (ob_11_22 _ _ _)) ?_
  refine mW_nm (fun w1 e1 => ?_)
  refine mW_iconst (v := 0) dX11_runs_29 (by decide) ?_
  refine mW_istore (lv2 := [(6, .int 0), (5, .int 0), (4, .int 0), (3, .int 0), (2, .int 0), (1, .int (hai w a0_1 12)), (0, .ref a0)]) dX11_runs_30 (by decide) rfl ?_
  refine mW_loc [6, 5, 4, 3, 2, 1, 0] (lv2 := [(0, .ref a0), (1, .int (hai w a0_1 12)), (2, .int 0), (3, .int 0), (4, .int 0), (5, .int 0), (6, .int 0)]) rfl ?_
  exact k1 w1 e1
theorem u1576 : (Cond.fieldLink "LineFollowerBenchModel" 42 "LineFollowerBenchModel" "measured" "[I" : Cond) ∈ mTs := mTs_in 1576 (by decide +kernel) (by decide +kernel)
theorem f_X11_42 : mFld "LineFollowerBenchModel" 42 11 16 := ⟨RX11, TX11, 36, "LineFollowerBenchModel", rfl, by decide, in_X11, u1576, Or.inl rfl, by decide⟩
theorem u1577 : (Cond.fieldLink "LineFollowerBenchModel" 45 "LineFollowerBenchModel" "seens" "[I" : Cond) ∈ mTs := mTs_in 1577 (by decide +kernel) (by decide +kernel)
theorem f_X11_45 : mFld "LineFollowerBenchModel" 45 11 17 := ⟨RX11, TX11, 36, "LineFollowerBenchModel", rfl, by decide, in_X11, u1577, Or.inl rfl, by decide⟩
set_option maxHeartbeats 4000000 in
set_option maxRecDepth 100000 in
theorem gX11_runs_32 {G : mG} {w : mH} {Φ : mF} {a0 : Nat} {x1 x2 x3 x4 x5 x6 : Int32} {a0_15 n_a0_15 a0_16 a0_1 n_a0_1 n_a0_16 a0_17 n_a0_17 : Nat} (h1 : hk w a0 = (11, 0)) (h2 : hfr w a0 15 = some a0_15) (h3 : hk w a0_15 = (16, n_a0_15)) (s1 : (¬ ((hfi w a0 22) ≤ x6)) → vp_in x6 n_a0_15) (h4 : hfr w a0 16 = some a0_16) (h5 : hfr w a0 1 = some a0_1) (h6 : hk w a0_1 = (16, n_a0_1)) (s2 : vp_in 5 n_a0_1) (s3 : (¬ ((hfi w a0 22) ≤ x6)) → ∀ w1 : mH, (w1 = sai w a0_15 x6.toNatClampNeg x1) → ¬ (hai w1 a0_1 5) = 0) (h7 : hk w a0_16 = (16, n_a0_16)) (s4 : (¬ ((hfi w a0 22) ≤ x6)) → ∀ w1 : mH, (w1 = sai w a0_15 x6.toNatClampNeg x1) → vp_in x6 n_a0_16) (h8 : hfr w a0 17 = some a0_17) (s5 : vp_in 6 n_a0_1) (s6 : (¬ ((hfi w a0 22) ≤ x6)) → ∀ w1 : mH, (w1 = sai w a0_15 x6.toNatClampNeg x1) → ∀ w2 : mH, (w2 = sai w1 a0_16 x6.toNatClampNeg ((x1 / (hai w1 a0_1 5)) * (hai w1 a0_1 5))) → ((hai w2 a0_1 6) ≤ x6) → vp_in (x6 - (hai w2 a0_1 6)) n_a0_16) (h9 : hk w a0_17 = (16, n_a0_17)) (s7 : (¬ ((hfi w a0 22) ≤ x6)) → ∀ w1 : mH, (w1 = sai w a0_15 x6.toNatClampNeg x1) → ∀ w2 : mH, (w2 = sai w1 a0_16 x6.toNatClampNeg ((x1 / (hai w1 a0_1 5)) * (hai w1 a0_1 5))) → ((hai w2 a0_1 6) ≤ x6) → vp_in x6 n_a0_17) (s8 : vp_in 0 n_a0_16) (s9 : (¬ ((hfi w a0 22) ≤ x6)) → ∀ w1 : mH, (w1 = sai w a0_15 x6.toNatClampNeg x1) → ∀ w2 : mH, (w2 = sai w1 a0_16 x6.toNatClampNeg ((x1 / (hai w1 a0_1 5)) * (hai w1 a0_1 5))) → (¬ ((hai w2 a0_1 6) ≤ x6)) → vp_in x6 n_a0_17) (k1 : ((hfi w a0 22) ≤ x6) → mW G mX11_runs 4 0 0 300 [(0, .ref a0), (1, .int x1), (2, .int x2), (3, .int x3), (4, .int x4), (5, .int x5), (6, .int x6)] [] w Φ) (k2 : (¬ ((hfi w a0 22) ≤ x6)) → ∀ w1 : mH, (w1 = sai w a0_15 x6.toNatClampNeg x1) → ∀ w2 : mH, (w2 = sai w1 a0_16 x6.toNatClampNeg ((x1 / (hai w1 a0_1 5)) * (hai w1 a0_1 5))) → ((hai w2 a0_1 6) ≤ x6) → ∀ w3 : mH, (w3 = sai w2 a0_17 x6.toNatClampNeg (hai w2 a0_16 ((x6 - (hai w2 a0_1 6)).toNatClampNeg))) → mW G mX11_runs 4 0 0 114 [(0, .ref a0), (1, .int x1), (2, .int x2), (3, .int x3), (4, .int x4), (5, .int x5), (6, .int x6)] [] w3 Φ) (k3 : (¬ ((hfi w a0 22) ≤ x6)) → ∀ w1 : mH, (w1 = sai w a0_15 x6.toNatClampNeg x1) → ∀ w2 : mH, (w2 = sai w1 a0_16 x6.toNatClampNeg ((x1 / (hai w1 a0_1 5)) * (hai w1 a0_1 5))) → (¬ ((hai w2 a0_1 6) ≤ x6)) → ∀ w4 : mH, (w4 = sai w2 a0_17 x6.toNatClampNeg (hai w2 a0_16 0)) → mW G mX11_runs 4 0 0 114 [(0, .ref a0), (1, .int x1), (2, .int x2), (3, .int x3), (4, .int x4), (5, .int x5), (6, .int x6)] [] w4 Φ) : mW G mX11_runs 4 0 0 32 [(0, .ref a0), (1, .int x1), (2, .int x2), (3, .int x3), (4, .int x4), (5, .int x5), (6, .int x6)] [] w Φ := by
  refine mW_iload (j := 6) dX11_runs_32 rfl ?_
  refine mW_aload_n (j := 0) dX11_runs_34 rfl rfl ?_
  refine mW_get dX11_runs_35 f_X11_218 h1 rfl ?_
  refine mW_icmp_ge (tgt := 300) dX11_runs_38 (by decide) (fun c1 => ?_) (fun c1 => ?_)
  · exact k1 c1
  · refine mW_aload_n (j := 0) dX11_runs_41 rfl rfl ?_
    refine mW_getR dX11_runs_42 f_X11_39 h1 rfl h2 ?_
    refine mW_iload (j := 6) dX11_runs_45 rfl ?_
    refine mW_iload_n (j := 1) dX11_runs_47 rfl rfl ?_
    refine mW_iastJ dX11_runs_48 h3 (s1 c1) rfl ?_
    refine mW_nm (fun w1 e1 => ?_)
    refine mW_aload_n (j := 0) dX11_runs_49 rfl rfl ?_
    refine mW_getR dX11_runs_50 f_X11_42 (s2k (S2_sai e1) h1) rfl (s2r (S2_sai e1) h4) ?_
    refine mW_iload (j := 6) dX11_runs_53 rfl ?_
    refine mW_iload_n (j := 1) dX11_runs_55 rfl rfl ?_
    refine mW_aload_n (j := 0) dX11_runs_56 rfl rfl ?_
    refine mW_getR dX11_runs_57 f_X11_13 (s2k (S2_sai e1) h1) rfl (s2r (S2_sai e1) h5) ?_
    refine mW_iconst (v := 5) dX11_runs_60 (by decide) ?_
    refine mW_ialdJ dX11_runs_61 (s2k (S2_sai e1) h6) s2 (j := 5) (by decide) ?_
    refine mW_idiv dX11_runs_62 (s3 c1 w1 e1) ?_
    refine mW_aload_n (j := 0) dX11_runs_63 rfl rfl ?_
    refine mW_getR dX11_runs_64 f_X11_13 (s2k (S2_sai e1) h1) rfl (s2r (S2_sai e1) h5) ?_
    refine mW_iconst (v := 5) dX11_runs_67 (by decide) ?_
    refine mW_ialdJ dX11_runs_68 (s2k (S2_sai e1) h6) s2 (j := 5) (by decide) ?_
    refine mW_imul dX11_runs_69 ?_
    refine mW_iastJ dX11_runs_70 (s2k (S2_sai e1) h7) (s4 c1 w1 e1) rfl ?_
    refine mW_nm (fun w2 e2 => ?_)
    refine mW_aload_n (j := 0) dX11_runs_71 rfl rfl ?_
    refine mW_getR dX11_runs_72 f_X11_45 (s2k (S2_sai e2) (s2k (S2_sai e1) h1)) rfl (s2r (S2_sai e2) (s2r (S2_sai e1) h8)) ?_
    refine mW_iload (j := 6) dX11_runs_75 rfl ?_
    refine mW_iload (j := 6) dX11_runs_77 rfl ?_
    refine mW_aload_n (j := 0) dX11_runs_79 rfl rfl ?_
    refine mW_getR dX11_runs_80 f_X11_13 (s2k (S2_sai e2) (s2k (S2_sai e1) h1)) rfl (s2r (S2_sai e2) (s2r (S2_sai e1) h5)) ?_
    refine mW_bipush (v := 6) dX11_runs_83 (by decide) ?_
    refine mW_ialdJ dX11_runs_85 (s2k (S2_sai e2) (s2k (S2_sai e1) h6)) s5 (j := 6) (by decide) ?_
    refine mW_icmp_ge (tgt := 98) dX11_runs_86 (by decide) (fun c2 => ?_) (fun c2 => ?_)
    · refine mW_aload_n (j := 0) dX11_runs_98 rfl rfl ?_
      refine mW_getR dX11_runs_99 f_X11_42 (s2k (S2_sai e2) (s2k (S2_sai e1) h1)) rfl (s2r (S2_sai e2) (s2r (S2_sai e1) h4)) ?_
      refine mW_iload (j := 6) dX11_runs_102 rfl ?_
      refine mW_aload_n (j := 0) dX11_runs_104 rfl rfl ?_
      refine mW_getR dX11_runs_105 f_X11_13 (s2k (S2_sai e2) (s2k (S2_sai e1) h1)) rfl (s2r (S2_sai e2) (s2r (S2_sai e1) h5)) ?_
      refine mW_bipush (v := 6) dX11_runs_108 (by decide) ?_
      refine mW_ialdJ dX11_runs_110 (s2k (S2_sai e2) (s2k (S2_sai e1) h6)) s5 (j := 6) (by decide) ?_
      refine mW_isub dX11_runs_111 ?_
      refine mW_ialdJ dX11_runs_112 (s2k (S2_sai e2) (s2k (S2_sai e1) h7)) (s6 c1 w1 e1 w2 e2 c2) rfl ?_
      refine mW_iastJ dX11_runs_113 (s2k (S2_sai e2) (s2k (S2_sai e1) h9)) (s7 c1 w1 e1 w2 e2 c2) rfl ?_
      refine mW_nm (fun w3 e3 => ?_)
      exact k2 c1 w1 e1 w2 e2 c2 w3 e3
    · refine mW_aload_n (j := 0) dX11_runs_89 rfl rfl ?_
      refine mW_getR dX11_runs_90 f_X11_42 (s2k (S2_sai e2) (s2k (S2_sai e1) h1)) rfl (s2r (S2_sai e2) (s2r (S2_sai e1) h4)) ?_
      refine mW_iconst (v := 0) dX11_runs_93 (by decide) ?_
      refine mW_ialdJ dX11_runs_94 (s2k (S2_sai e2) (s2k (S2_sai e1) h7)) s8 (j := 0) (by decide) ?_
      refine mW_goto (tgt := 113) dX11_runs_95 (by decide) ?_
      refine mW_iastJ dX11_runs_113 (s2k (S2_sai e2) (s2k (S2_sai e1) h9)) (s9 c1 w1 e1 w2 e2 c2) rfl ?_
      refine mW_nm (fun w4 e4 => ?_)
      exact k3 c1 w1 e1 w2 e2 c2 w4 e4
theorem u1832 : (Cond.code ⟨"LineFollowerBenchModel", "controls", "(IIII)V"⟩ prog_13_method_41_code 5 (none : Option ClassFile.FieldType) : Cond) ∈ mTs := mTs_in 1832 (by decide +kernel) (by decide +kernel)
theorem co_X11_controls : mCode mX11_controls := ⟨u1832, u85, by decide⟩
theorem u1829 : (Cond.methodLink "LineFollowerBenchModel" 221 ⟨"LineFollowerBenchModel", "controls", "(IIII)V"⟩ : Cond) ∈ mTs := mTs_in 1829 (by decide +kernel) (by decide +kernel)
theorem u1831 : (Cond.instanceMethod ⟨"LineFollowerBenchModel", "controls", "(IIII)V"⟩ : Cond) ∈ mTs := mTs_in 1831 (by decide +kernel) (by decide +kernel)
theorem u56 : (Cond.selects "LineFollowerBenchModel" ⟨"LineFollowerBenchModel", "controls", "(IIII)V"⟩ ⟨"LineFollowerBenchModel", "controls", "(IIII)V"⟩ : Cond) ∈ mTs := mTs_in 56 (by decide +kernel) (by decide +kernel)
theorem l_X11_221 : mLinkV "LineFollowerBenchModel" 221 4 mX11_controls := ⟨⟨by decide, by decide, by decide +kernel⟩, co_X11_controls, u1829, u1831, u56⟩
set_option maxHeartbeats 4000000 in
set_option maxRecDepth 100000 in
theorem gX11_runs_114 {G : mG} {w : mH} {Φ : mF} {a0 : Nat} {x1 x2 x3 x4 x5 x6 : Int32} {a0_17 n_a0_17 : Nat} (h1 : hk w a0 = (11, 0)) (h2 : hfr w a0 17 = some a0_17) (h3 : hk w a0_17 = (16, n_a0_17)) (s1 : vp_in x6 n_a0_17) (s2 : (¬ (x6 = 0)) → vp_in (x6 - 1) n_a0_17) (h4 : zRef w a0) (s3 : (¬ (x6 = 0)) → ptOK (hai w (a0 + 1))) (s4 : (¬ (x6 = 0)) → srt (hai w (a0 + 1))) (s5 : (x6 = 0) → ptOK (hai w (a0 + 1))) (s6 : (x6 = 0) → srt (hai w (a0 + 1))) (k1 : (¬ (x6 = 0)) → ∀ w1 : mH, (coO w w1 a0 (hai w a0_17 x6.toNatClampNeg) ((hai w a0_17 x6.toNatClampNeg) - (hai w a0_17 ((x6 - 1).toNatClampNeg))) x4 x5) → mW G mX11_runs 4 0 0 155 [(0, .ref a0), (1, .int x1), (2, .int x2), (3, .int x3), (4, .int x4), (5, .int x5), (6, .int x6)] [] w1 Φ) (k2 : (x6 = 0) → ∀ w2 : mH, (coO w w2 a0 (hai w a0_17 x6.toNatClampNeg) 0 x4 x5) → mW G mX11_runs 4 0 0 155 [(0, .ref a0), (1, .int x1), (2, .int x2), (3, .int x3), (4, .int x4), (5, .int x5), (6, .int x6)] [] w2 Φ) : mW G mX11_runs 4 0 0 114 [(0, .ref a0), (1, .int x1), (2, .int x2), (3, .int x3), (4, .int x4), (5, .int x5), (6, .int x6)] [] w Φ := by
  refine mW_aload_n (j := 0) dX11_runs_114 rfl rfl ?_
  refine mW_aload_n (j := 0) dX11_runs_115 rfl rfl ?_
  refine mW_getR dX11_runs_116 f_X11_45 h1 rfl h2 ?_
  refine mW_iload (j := 6) dX11_runs_119 rfl ?_
  refine mW_ialdJ dX11_runs_121 h3 s1 rfl ?_
  refine mW_iload (j := 6) dX11_runs_122 rfl ?_
  refine mW_if_ne (tgt := 131) dX11_runs_124 (by decide) (fun c1 => ?_) (fun c1 => ?_)
  · refine mW_aload_n (j := 0) dX11_runs_131 rfl rfl ?_
    refine mW_getR dX11_runs_132 f_X11_45 h1 rfl h2 ?_
    refine mW_iload (j := 6) dX11_runs_135 rfl ?_
    refine mW_ialdJ dX11_runs_137 h3 s1 rfl ?_
    refine mW_aload_n (j := 0) dX11_runs_138 rfl rfl ?_
    refine mW_getR dX11_runs_139 f_X11_45 h1 rfl h2 ?_
    refine mW_iload (j := 6) dX11_runs_142 rfl ?_
    refine mW_iconst (v := 1) dX11_runs_144 (by decide) ?_
    refine mW_isub dX11_runs_145 ?_
    refine mW_ialdJ dX11_runs_146 h3 (s2 c1) rfl ?_
    refine mW_isub dX11_runs_147 ?_
    refine mW_iload (j := 4) dX11_runs_148 rfl ?_
    refine mW_iload (j := 5) dX11_runs_150 rfl ?_
    refine mW_callV (As := [.int (hai w a0_17 x6.toNatClampNeg), .int ((hai w a0_17 x6.toNatClampNeg) - (hai w a0_17 ((x6 - 1).toNatClampNeg))), .int x4, .int x5]) (rest := []) (kc2 := 0) (ks2 := 0) dX11_runs_152 l_X11_221 rfl h1 rfl (by decide) (rX11_controls (w := w) (a0 := a0) (x1 := hai w a0_17 x6.toNatClampNeg) (x2 := (hai w a0_17 x6.toNatClampNeg) - (hai w a0_17 ((x6 - 1).toNatClampNeg))) (x3 := x4) (x4 := x5) h4 (s3 c1) (s4 c1)) (Nat.le_of_ble_eq_true rfl) (by decide) rfl rfl mP_x (mP_k (fun w1 q1 => ?_))
    exact k1 c1 w1 q1
  · refine mW_iconst (v := 0) dX11_runs_127 (by decide) ?_
    refine mW_goto (tgt := 148) dX11_runs_128 (by decide) ?_
    refine mW_iload (j := 4) dX11_runs_148 rfl ?_
    refine mW_iload (j := 5) dX11_runs_150 rfl ?_
    refine mW_callV (As := [.int (hai w a0_17 x6.toNatClampNeg), .int 0, .int x4, .int x5]) (rest := []) (kc2 := 0) (ks2 := 0) dX11_runs_152 l_X11_221 rfl h1 rfl (by decide) (rX11_controls (w := w) (a0 := a0) (x1 := hai w a0_17 x6.toNatClampNeg) (x2 := 0) (x3 := x4) (x4 := x5) h4 (s5 c1) (s6 c1)) (Nat.le_of_ble_eq_true rfl) (by decide) rfl rfl mP_x (mP_k (fun w2 q2 => ?_))
    exact k2 c1 w2 q2
theorem u1581 : (Cond.fieldLink "LineFollowerBenchModel" 57 "LineFollowerBenchModel" "wide" "[I" : Cond) ∈ mTs := mTs_in 1581 (by decide +kernel) (by decide +kernel)
theorem f_X11_57 : mFld "LineFollowerBenchModel" 57 11 21 := ⟨RX11, TX11, 36, "LineFollowerBenchModel", rfl, by decide, in_X11, u1581, Or.inl rfl, by decide⟩
set_option maxHeartbeats 4000000 in
set_option maxRecDepth 100000 in
theorem gX11_runs_155 {G : mG} {w : mH} {Φ : mF} {a0 : Nat} {x1 x2 x3 x4 x5 x6 : Int32} {a0_1 n_a0_1 a0_21 n_a0_21 : Nat} (h1 : hk w a0 = (11, 0)) (h2 : hfr w a0 1 = some a0_1) (h3 : hk w a0_1 = (16, n_a0_1)) (s1 : vp_in 3 n_a0_1) (h4 : hfr w a0 21 = some a0_21) (h5 : hk w a0_21 = (16, n_a0_21)) (s2 : ((lg_cmp (hfl w a0 23) (((vX11_limited_ (hfl w a0 23) ((hai w a0_1 3).toInt64)).toInt32).toInt64)) = 0) → vp_in x6 n_a0_21) (s3 : (¬ ((lg_cmp (hfl w a0 23) (((vX11_limited_ (hfl w a0 23) ((hai w a0_1 3).toInt64)).toInt32).toInt64)) = 0)) → vp_in x6 n_a0_21) (k1 : ((lg_cmp (hfl w a0 23) (((vX11_limited_ (hfl w a0 23) ((hai w a0_1 3).toInt64)).toInt32).toInt64)) = 0) → ∀ w1 : mH, (w1 = sai w a0_21 x6.toNatClampNeg 0) → mW G mX11_runs 4 0 0 195 [(0, .ref a0), (1, .int x1), (2, .int x2), (3, .int x3), (4, .int x4), (5, .int ((vX11_limited_ (hfl w a0 23) ((hai w a0_1 3).toInt64)).toInt32)), (6, .int x6)] [] w1 Φ) (k2 : (¬ ((lg_cmp (hfl w a0 23) (((vX11_limited_ (hfl w a0 23) ((hai w a0_1 3).toInt64)).toInt32).toInt64)) = 0)) → ∀ w2 : mH, (w2 = sai w a0_21 x6.toNatClampNeg 1) → mW G mX11_runs 4 0 0 195 [(0, .ref a0), (1, .int x1), (2, .int x2), (3, .int x3), (4, .int x4), (5, .int ((vX11_limited_ (hfl w a0 23) ((hai w a0_1 3).toInt64)).toInt32)), (6, .int x6)] [] w2 Φ) : mW G mX11_runs 4 0 0 155 [(0, .ref a0), (1, .int x1), (2, .int x2), (3, .int x3), (4, .int x4), (5, .int x5), (6, .int x6)] [] w Φ := by
  refine mW_aload_n (j := 0) dX11_runs_155 rfl rfl ?_
  refine mW_get dX11_runs_156 f_X11_201 h1 rfl ?_
  refine mW_aload_n (j := 0) dX11_runs_159 rfl rfl ?_
  refine mW_getR dX11_runs_160 f_X11_13 h1 rfl h2 ?_
  refine mW_iconst (v := 3) dX11_runs_163 (by decide) ?_
  refine mW_ialdJ dX11_runs_164 h3 s1 (j := 3) (by decide) ?_
  refine mW_i2l dX11_runs_165 ?_
  refine mW_callSe (As := [.long (hfl w a0 23), .long ((hai w a0_1 3).toInt64)]) (rest := []) (kc2 := 0) (ks2 := 0) dX11_runs_166 l_X11_215 rfl (qX11_limited_ (w := w) (y0 := hfl w a0 23) (y2 := (hai w a0_1 3).toInt64)) (Nat.le_of_ble_eq_true rfl) (by decide) rfl rfl ?_
  refine mW_l2i dX11_runs_169 ?_
  refine mW_istore (lv2 := [(5, .int ((vX11_limited_ (hfl w a0 23) ((hai w a0_1 3).toInt64)).toInt32)), (0, .ref a0), (1, .int x1), (2, .int x2), (3, .int x3), (4, .int x4), (6, .int x6)]) dX11_runs_170 (by decide) rfl ?_
  refine mW_aload_n (j := 1) dX11_runs_172 rfl rfl ?_
  refine mW_getR dX11_runs_173 f_X11_57 h1 rfl h4 ?_
  refine mW_iload (j := 6) dX11_runs_176 rfl ?_
  refine mW_aload_n (j := 1) dX11_runs_178 rfl rfl ?_
  refine mW_get dX11_runs_179 f_X11_201 h1 rfl ?_
  refine mW_iload (j := 0) dX11_runs_182 rfl ?_
  refine mW_i2l dX11_runs_184 ?_
  refine mW_lcmp dX11_runs_185 ?_
  refine mW_if_eq (tgt := 193) dX11_runs_186 (by decide) (fun c1 => ?_) (fun c1 => ?_)
  · refine mW_iconst (v := 0) dX11_runs_193 (by decide) ?_
    refine mW_iastJ dX11_runs_194 h5 (s2 c1) rfl ?_
    refine mW_nm (fun w1 e1 => ?_)
    refine mW_loc [1, 2, 3, 4, 5, 0, 6] (lv2 := [(0, .ref a0), (1, .int x1), (2, .int x2), (3, .int x3), (4, .int x4), (5, .int ((vX11_limited_ (hfl w a0 23) ((hai w a0_1 3).toInt64)).toInt32)), (6, .int x6)]) rfl ?_
    exact k1 c1 w1 e1
  · refine mW_iconst (v := 1) dX11_runs_189 (by decide) ?_
    refine mW_goto (tgt := 194) dX11_runs_190 (by decide) ?_
    refine mW_iastJ dX11_runs_194 h5 (s3 c1) rfl ?_
    refine mW_nm (fun w2 e2 => ?_)
    refine mW_loc [1, 2, 3, 4, 5, 0, 6] (lv2 := [(0, .ref a0), (1, .int x1), (2, .int x2), (3, .int x3), (4, .int x4), (5, .int ((vX11_limited_ (hfl w a0 23) ((hai w a0_1 3).toInt64)).toInt32)), (6, .int x6)]) rfl ?_
    exact k2 c1 w2 e2
theorem u1844 : (Cond.code ⟨"LineFollowerBenchModel", "integralBehind", "(III)I"⟩ prog_13_method_42_code 4 (some .int) : Cond) ∈ mTs := mTs_in 1844 (by decide +kernel) (by decide +kernel)
theorem co_X11_integralBehind : mCode mX11_integralBehind := ⟨u1844, u85, by decide⟩
theorem u1841 : (Cond.methodLink "LineFollowerBenchModel" 225 ⟨"LineFollowerBenchModel", "integralBehind", "(III)I"⟩ : Cond) ∈ mTs := mTs_in 1841 (by decide +kernel) (by decide +kernel)
theorem u1843 : (Cond.instanceMethod ⟨"LineFollowerBenchModel", "integralBehind", "(III)I"⟩ : Cond) ∈ mTs := mTs_in 1843 (by decide +kernel) (by decide +kernel)
theorem u57 : (Cond.selects "LineFollowerBenchModel" ⟨"LineFollowerBenchModel", "integralBehind", "(III)I"⟩ ⟨"LineFollowerBenchModel", "integralBehind", "(III)I"⟩ : Cond) ∈ mTs := mTs_in 57 (by decide +kernel) (by decide +kernel)
theorem l_X11_225 : mLinkV "LineFollowerBenchModel" 225 3 mX11_integralBehind := ⟨⟨by decide, by decide, by decide +kernel⟩, co_X11_integralBehind, u1841, u1843, u57⟩
theorem u1578 : (Cond.fieldLink "LineFollowerBenchModel" 48 "LineFollowerBenchModel" "outputs" "[I" : Cond) ∈ mTs := mTs_in 1578 (by decide +kernel) (by decide +kernel)
theorem f_X11_48 : mFld "LineFollowerBenchModel" 48 11 18 := ⟨RX11, TX11, 36, "LineFollowerBenchModel", rfl, by decide, in_X11, u1578, Or.inl rfl, by decide⟩
theorem u1579 : (Cond.fieldLink "LineFollowerBenchModel" 51 "LineFollowerBenchModel" "actuators" "[I" : Cond) ∈ mTs := mTs_in 1579 (by decide +kernel) (by decide +kernel)
theorem f_X11_51 : mFld "LineFollowerBenchModel" 51 11 19 := ⟨RX11, TX11, 36, "LineFollowerBenchModel", rfl, by decide, in_X11, u1579, Or.inl rfl, by decide⟩
theorem u1580 : (Cond.fieldLink "LineFollowerBenchModel" 54 "LineFollowerBenchModel" "integrals" "[I" : Cond) ∈ mTs := mTs_in 1580 (by decide +kernel) (by decide +kernel)
theorem f_X11_54 : mFld "LineFollowerBenchModel" 54 11 20 := ⟨RX11, TX11, 36, "LineFollowerBenchModel", rfl, by decide, in_X11, u1580, Or.inl rfl, by decide⟩
set_option maxHeartbeats 4000000 in
set_option maxRecDepth 100000 in
theorem gX11_runs_195 {G : mG} {w : mH} {Φ : mF} {a0 : Nat} {x1 x2 x3 x4 x5 x6 : Int32} {a0_17 n_a0_17 a0_1 n_a0_1 a0_18 n_a0_18 a0_19 n_a0_19 a0_20 n_a0_20 : Nat} (h1 : hk w a0 = (11, 0)) (h2 : hfr w a0 17 = some a0_17) (h3 : hk w a0_17 = (16, n_a0_17)) (s1 : vp_in x6 n_a0_17) (h4 : hfr w a0 1 = some a0_1) (h5 : hk w a0_1 = (16, n_a0_1)) (s2 : vp_in 10 n_a0_1) (s3 : ((hai w a0_1 10) = 0) → vp_in 7 n_a0_1) (s4 : ((hai w a0_1 10) = 0) → (¬ ((hai w a0_1 7) = 2)) → ((hai w a0_1 7) = 3) → vp_in 9 n_a0_1) (s5 : vp_in 4 n_a0_1) (h6 : zRef w a0) (s6 : kL (hai w (a0 + 1))) (s7 : cntOK (hai w (a0 + 1))) (h7 : hfr w a0 18 = some a0_18) (h8 : hk w a0_18 = (16, n_a0_18)) (s8 : vp_in x6 n_a0_18) (h9 : hfr w a0 19 = some a0_19) (h10 : hk w a0_19 = (16, n_a0_19)) (s9 : ∀ w1 : mH, (w1 = sai w a0_18 x6.toNatClampNeg x5) → vp_in x6 n_a0_19) (h11 : hfr w a0 20 = some a0_20) (h12 : hk w a0_20 = (16, n_a0_20)) (s10 : ∀ w1 : mH, (w1 = sai w a0_18 x6.toNatClampNeg x5) → ∀ w2 : mH, (w2 = sai w1 a0_19 x6.toNatClampNeg (x3 + (vX11_limited (x5 - x3) (hai w a0_1 4)))) → vp_in x6 n_a0_20) (k1 : ∀ w1 : mH, (w1 = sai w a0_18 x6.toNatClampNeg x5) → ∀ w2 : mH, (w2 = sai w1 a0_19 x6.toNatClampNeg (x3 + (vX11_limited (x5 - x3) (hai w a0_1 4)))) → ∀ w3 : mH, (w3 = sai w2 a0_20 x6.toNatClampNeg (vX11_integralBehind w a0 x4 (hai w a0_17 x6.toNatClampNeg) x5 a0_1)) → mW G mX11_runs 4 0 0 32 [(0, .ref a0), (1, .int (vX11_limited ((x1 + ((vX11_limited ((x2 + (rCur (hai w (a0 + 1)) x6)) - ((x3 + (vX11_limited (x5 - x3) (hai w a0_1 4))) / 8)) 10000) / 8)) + (rPus (hai w (a0 + 1)) x6)) 10000)), (2, .int (vX11_limited ((x2 + (rCur (hai w (a0 + 1)) x6)) - ((x3 + (vX11_limited (x5 - x3) (hai w a0_1 4))) / 8)) 10000)), (3, .int (x3 + (vX11_limited (x5 - x3) (hai w a0_1 4)))), (4, .int (vX11_integralBehind w a0 x4 (hai w a0_17 x6.toNatClampNeg) x5 a0_1)), (5, .int x5), (6, .int (x6 + 1))] [] w3 Φ) : mW G mX11_runs 4 0 0 195 [(0, .ref a0), (1, .int x1), (2, .int x2), (3, .int x3), (4, .int x4), (5, .int x5), (6, .int x6)] [] w Φ := by
  refine mW_aload_n (j := 0) dX11_runs_195 rfl rfl ?_
  refine mW_iload (j := 4) dX11_runs_196 rfl ?_
  refine mW_aload_n (j := 0) dX11_runs_198 rfl rfl ?_
  refine mW_getR dX11_runs_199 f_X11_45 h1 rfl h2 ?_
  refine mW_iload (j := 6) dX11_runs_202 rfl ?_
  refine mW_ialdJ dX11_runs_204 h3 s1 rfl ?_
  refine mW_iload (j := 5) dX11_runs_205 rfl ?_
  refine mW_callVe (As := [.int x4, .int (hai w a0_17 x6.toNatClampNeg), .int x5]) (rest := []) (kc2 := 0) (ks2 := 0) dX11_runs_207 l_X11_225 rfl h1 rfl (by decide) (qX11_integralBehind (w := w) (a0 := a0) (x1 := x4) (x2 := hai w a0_17 x6.toNatClampNeg) (x3 := x5) h1 h4 h5 s2 s3 s4) (Nat.le_of_ble_eq_true rfl) (by decide) rfl rfl ?_
  refine mW_istore (lv2 := [(4, .int (vX11_integralBehind w a0 x4 (hai w a0_17 x6.toNatClampNeg) x5 a0_1)), (0, .ref a0), (1, .int x1), (2, .int x2), (3, .int x3), (5, .int x5), (6, .int x6)]) dX11_runs_210 (by decide) rfl ?_
  refine mW_iload_n (j := 4) dX11_runs_212 rfl rfl ?_
  refine mW_iload (j := 5) dX11_runs_213 rfl ?_
  refine mW_iload_n (j := 4) dX11_runs_215 rfl rfl ?_
  refine mW_isub dX11_runs_216 ?_
  refine mW_aload_n (j := 1) dX11_runs_217 rfl rfl ?_
  refine mW_getR dX11_runs_218 f_X11_13 h1 rfl h4 ?_
  refine mW_iconst (v := 4) dX11_runs_221 (by decide) ?_
  refine mW_ialdJ dX11_runs_222 h5 s5 (j := 4) (by decide) ?_
  refine mW_callSe (As := [.int (x5 - x3), .int (hai w a0_1 4)]) (rest := [.int x3]) (kc2 := 0) (ks2 := 0) dX11_runs_223 l_X11_206 rfl (qX11_limited (w := w) (x0 := x5 - x3) (x1 := hai w a0_1 4)) (Nat.le_of_ble_eq_true rfl) (by decide) rfl rfl ?_
  refine mW_iadd dX11_runs_226 ?_
  refine mW_istore_n (lv2 := [(3, .int (x3 + (vX11_limited (x5 - x3) (hai w a0_1 4)))), (4, .int (vX11_integralBehind w a0 x4 (hai w a0_17 x6.toNatClampNeg) x5 a0_1)), (0, .ref a0), (1, .int x1), (2, .int x2), (5, .int x5), (6, .int x6)]) dX11_runs_227 rfl (by decide) rfl ?_
  refine mW_iload_n (j := 4) dX11_runs_228 rfl rfl ?_
  refine mW_aload_n (j := 2) dX11_runs_229 rfl rfl ?_
  refine mW_iload (j := 6) dX11_runs_230 rfl ?_
  refine mW_callVe (As := [.int x6]) (rest := [.int x2]) (kc2 := 0) (ks2 := 0) dX11_runs_232 l_X11_192 rfl h1 rfl (by decide) (qX11_curved' (w := w) (a0 := a0) (x1 := x6) h6 s6) (Nat.le_of_ble_eq_true rfl) (by decide) rfl rfl ?_
  refine mW_iadd dX11_runs_235 ?_
  refine mW_iload_n (j := 0) dX11_runs_236 rfl rfl ?_
  refine mW_bipush (v := 8) dX11_runs_237 (by decide) ?_
  refine mW_idiv dX11_runs_239 (by decide) ?_
  refine mW_isub dX11_runs_240 ?_
  refine mW_sipush (v := 10000) dX11_runs_241 (by decide) ?_
  refine mW_callSe (As := [.int ((x2 + (rCur (hai w (a0 + 1)) x6)) - ((x3 + (vX11_limited (x5 - x3) (hai w a0_1 4))) / 8)), .int 10000]) (rest := []) (kc2 := 0) (ks2 := 0) dX11_runs_244 l_X11_206 rfl (qX11_limited (w := w) (x0 := (x2 + (rCur (hai w (a0 + 1)) x6)) - ((x3 + (vX11_limited (x5 - x3) (hai w a0_1 4))) / 8)) (x1 := 10000)) (Nat.le_of_ble_eq_true rfl) (by decide) rfl rfl ?_
  refine mW_istore_n (lv2 := [(2, .int (vX11_limited ((x2 + (rCur (hai w (a0 + 1)) x6)) - ((x3 + (vX11_limited (x5 - x3) (hai w a0_1 4))) / 8)) 10000)), (3, .int (x3 + (vX11_limited (x5 - x3) (hai w a0_1 4)))), (4, .int (vX11_integralBehind w a0 x4 (hai w a0_17 x6.toNatClampNeg) x5 a0_1)), (0, .ref a0), (1, .int x1), (5, .int x5), (6, .int x6)]) dX11_runs_247 rfl (by decide) rfl ?_
  refine mW_iload_n (j := 4) dX11_runs_248 rfl rfl ?_
  refine mW_iload_n (j := 0) dX11_runs_249 rfl rfl ?_
  refine mW_bipush (v := 8) dX11_runs_250 (by decide) ?_
  refine mW_idiv dX11_runs_252 (by decide) ?_
  refine mW_iadd dX11_runs_253 ?_
  refine mW_aload_n (j := 3) dX11_runs_254 rfl rfl ?_
  refine mW_iload (j := 6) dX11_runs_255 rfl ?_
  refine mW_callVe (As := [.int x6]) (rest := [.int (x1 + ((vX11_limited ((x2 + (rCur (hai w (a0 + 1)) x6)) - ((x3 + (vX11_limited (x5 - x3) (hai w a0_1 4))) / 8)) 10000) / 8))]) (kc2 := 0) (ks2 := 0) dX11_runs_257 l_X11_195 rfl h1 rfl (by decide) (qX11_pushed' (w := w) (a0 := a0) (x1 := x6) h6 s7) (Nat.le_of_ble_eq_true rfl) (by decide) rfl rfl ?_
  refine mW_iadd dX11_runs_260 ?_
  refine mW_sipush (v := 10000) dX11_runs_261 (by decide) ?_
  refine mW_callSe (As := [.int ((x1 + ((vX11_limited ((x2 + (rCur (hai w (a0 + 1)) x6)) - ((x3 + (vX11_limited (x5 - x3) (hai w a0_1 4))) / 8)) 10000) / 8)) + (rPus (hai w (a0 + 1)) x6)), .int 10000]) (rest := []) (kc2 := 0) (ks2 := 0) dX11_runs_264 l_X11_206 rfl (qX11_limited (w := w) (x0 := (x1 + ((vX11_limited ((x2 + (rCur (hai w (a0 + 1)) x6)) - ((x3 + (vX11_limited (x5 - x3) (hai w a0_1 4))) / 8)) 10000) / 8)) + (rPus (hai w (a0 + 1)) x6)) (x1 := 10000)) (Nat.le_of_ble_eq_true rfl) (by decide) rfl rfl ?_
  refine mW_istore_n (lv2 := [(1, .int (vX11_limited ((x1 + ((vX11_limited ((x2 + (rCur (hai w (a0 + 1)) x6)) - ((x3 + (vX11_limited (x5 - x3) (hai w a0_1 4))) / 8)) 10000) / 8)) + (rPus (hai w (a0 + 1)) x6)) 10000)), (2, .int (vX11_limited ((x2 + (rCur (hai w (a0 + 1)) x6)) - ((x3 + (vX11_limited (x5 - x3) (hai w a0_1 4))) / 8)) 10000)), (3, .int (x3 + (vX11_limited (x5 - x3) (hai w a0_1 4)))), (4, .int (vX11_integralBehind w a0 x4 (hai w a0_17 x6.toNatClampNeg) x5 a0_1)), (0, .ref a0), (5, .int x5), (6, .int x6)]) dX11_runs_267 rfl (by decide) rfl ?_
  refine mW_aload_n (j := 4) dX11_runs_268 rfl rfl ?_
  refine mW_getR dX11_runs_269 f_X11_48 h1 rfl h7 ?_
  refine mW_iload (j := 6) dX11_runs_272 rfl ?_
  refine mW_iload (j := 5) dX11_runs_274 rfl ?_
  refine mW_iastJ dX11_runs_276 h8 s8 rfl ?_
  refine mW_nm (fun w1 e1 => ?_)
  refine mW_aload_n (j := 4) dX11_runs_277 rfl rfl ?_
  refine mW_getR dX11_runs_278 f_X11_51 (s2k (S2_sai e1) h1) rfl (s2r (S2_sai e1) h9) ?_
  refine mW_iload (j := 6) dX11_runs_281 rfl ?_
  refine mW_iload_n (j := 2) dX11_runs_283 rfl rfl ?_
  refine mW_iastJ dX11_runs_284 (s2k (S2_sai e1) h10) (s9 w1 e1) rfl ?_
  refine mW_nm (fun w2 e2 => ?_)
  refine mW_aload_n (j := 4) dX11_runs_285 rfl rfl ?_
  refine mW_getR dX11_runs_286 f_X11_54 (s2k (S2_sai e2) (s2k (S2_sai e1) h1)) rfl (s2r (S2_sai e2) (s2r (S2_sai e1) h11)) ?_
  refine mW_iload (j := 6) dX11_runs_289 rfl ?_
  refine mW_iload (j := 3) dX11_runs_291 rfl ?_
  refine mW_iastJ dX11_runs_293 (s2k (S2_sai e2) (s2k (S2_sai e1) h12)) (s10 w1 e1 w2 e2) rfl ?_
  refine mW_nm (fun w3 e3 => ?_)
  refine mW_iinc (j := 6) (v := x6 + 1) (lv2 := [(6, .int (x6 + 1)), (1, .int (vX11_limited ((x1 + ((vX11_limited ((x2 + (rCur (hai w (a0 + 1)) x6)) - ((x3 + (vX11_limited (x5 - x3) (hai w a0_1 4))) / 8)) 10000) / 8)) + (rPus (hai w (a0 + 1)) x6)) 10000)), (2, .int (vX11_limited ((x2 + (rCur (hai w (a0 + 1)) x6)) - ((x3 + (vX11_limited (x5 - x3) (hai w a0_1 4))) / 8)) 10000)), (3, .int (x3 + (vX11_limited (x5 - x3) (hai w a0_1 4)))), (4, .int (vX11_integralBehind w a0 x4 (hai w a0_17 x6.toNatClampNeg) x5 a0_1)), (0, .ref a0), (5, .int x5)]) dX11_runs_294 rfl rfl (by decide) rfl ?_
  refine mW_goto (tgt := 32) dX11_runs_297 (by decide) ?_
  refine mW_loc [5, 1, 2, 3, 4, 6, 0] (lv2 := [(0, .ref a0), (1, .int (vX11_limited ((x1 + ((vX11_limited ((x2 + (rCur (hai w (a0 + 1)) x6)) - ((x3 + (vX11_limited (x5 - x3) (hai w a0_1 4))) / 8)) 10000) / 8)) + (rPus (hai w (a0 + 1)) x6)) 10000)), (2, .int (vX11_limited ((x2 + (rCur (hai w (a0 + 1)) x6)) - ((x3 + (vX11_limited (x5 - x3) (hai w a0_1 4))) / 8)) 10000)), (3, .int (x3 + (vX11_limited (x5 - x3) (hai w a0_1 4)))), (4, .int (vX11_integralBehind w a0 x4 (hai w a0_17 x6.toNatClampNeg) x5 a0_1)), (5, .int x5), (6, .int (x6 + 1))]) rfl ?_
  exact k1 w1 e1 w2 e2 w3 e3
set_option maxHeartbeats 4000000 in
set_option maxRecDepth 100000 in
theorem gX11_runs_300 {G : mG} {w : mH} {Φ : mF} {a0 : Nat} {x1 x2 x3 x4 x5 x6 : Int32} {a0_15 n_a0_15 : Nat} (h1 : hk w a0 = (11, 0)) (h2 : hfr w a0 15 = some a0_15) (h3 : hk w a0_15 = (16, n_a0_15)) (s1 : vp_in (hfi w a0 22) n_a0_15) (k1 : ∀ w1 : mH, (w1 = sai w a0_15 ((hfi w a0 22).toNatClampNeg) x1) → Φ (.inl none) w1) : mW G mX11_runs 4 0 0 300 [(0, .ref a0), (1, .int x1), (2, .int x2), (3, .int x3), (4, .int x4), (5, .int x5), (6, .int x6)] [] w Φ := by
  refine mW_aload_n (j := 0) dX11_runs_300 rfl rfl ?_
  refine mW_getR dX11_runs_301 f_X11_39 h1 rfl h2 ?_
  refine mW_aload_n (j := 0) dX11_runs_304 rfl rfl ?_
  refine mW_get dX11_runs_305 f_X11_218 h1 rfl ?_
  refine mW_iload_n (j := 1) dX11_runs_308 rfl rfl ?_
  refine mW_iastJ dX11_runs_309 h3 s1 rfl ?_
  refine mW_nm (fun w1 e1 => ?_)
  exact mW_vret dX11_runs_310 rfl (k1 w1 e1)
theorem m_sub {a b : Nat} (h : b ≤ a) : nI a - nI b = nI (a - b) := by
  obtain ⟨c, rfl⟩ : ∃ c, a = c + b := ⟨a - b, by omega⟩
  rw [← nI_add, Nat.add_sub_cancel, Int32.add_sub_cancel]
theorem upd_c2 {f g : Nat → Int32} {i j : Nat} {v : Int32} (h : ¬ j = i → f j = g j) : upd f i v j = upd g i v j := by
  unfold upd
  by_cases q : j = i
  · rw [if_pos q, if_pos q]
  · rw [if_neg q, if_neg q, h q]
def yMe (A : Nat → Int32) (e : Int32) : Int32 := e / A 5 * A 5
def yBeh (A : Nat → Int32) (raw : Int64) (nx i s out : Int32) : Int32 := if A 10 = 0 then (if A 7 = 2 then (if lg_cmp raw out.toInt64 = 0 then nx else (if lg_cmp raw 0 ≤ 0 then (if 0 ≤ lg_cmp raw 0 then nx else (if 0 ≤ s then nx else i)) else (if 0 < s then i else (if 0 ≤ lg_cmp raw 0 then nx else (if 0 ≤ s then nx else i))))) else (if A 7 = 3 then (vX11_limited_ (nx.toInt64 - (raw - out.toInt64) * (A 9).toInt64 / 16) 1000000).toInt32 else nx)) else i
theorem yBeh_eq (w : mH) (a0 b : Nat) (i s o : Int32) : vX11_integralBehind w a0 i s o b = yBeh (hai w b) (hfl w a0 23) (hfi w a0 24) i s o := rfl
def yH (A : Nat → Int32) (t : Nat) (σ : xT) : Nat → Int32 := upd σ.2.2.2.2.2 t (yMe A σ.1)
def yD (A : Nat → Int32) : Nat := (A 6).toNatClampNeg
def ySn (A : Nat → Int32) (t : Nat) (σ : xT) : Int32 := yH A t σ (t - yD A)
def yCh (A : Nat → Int32) (t : Nat) (σ : xT) : Int32 := if t = 0 then 0 else ySn A t σ - yH A t σ (t - 1 - yD A)
def yRw (A : Nat → Int32) (t : Nat) (σ : xT) : Int64 := yRaw A (ySn A t σ) (yCh A t σ) σ.2.2.2.1 σ.2.2.2.2.1
def yNo (A : Nat → Int32) (t : Nat) (σ : xT) : Int32 := (vX11_limited_ (yRw A t σ) (A 3).toInt64).toInt32
def yNi (A : Nat → Int32) (t : Nat) (σ : xT) : Int32 := yBeh A (yRw A t σ) (yNx A σ.2.2.2.1 (ySn A t σ)) σ.2.2.2.1 (ySn A t σ) (yNo A t σ)
def yNa (A : Nat → Int32) (t : Nat) (σ : xT) : Int32 := σ.2.2.1 + vX11_limited (yNo A t σ - σ.2.2.1) (A 4)
def yNh (A : Nat → Int32) (t : Nat) (σ : xT) : Int32 := vX11_limited (σ.2.1 + rCur A (nI t) - yNa A t σ / 8) 10000
def yNe (A : Nat → Int32) (t : Nat) (σ : xT) : Int32 := vX11_limited (σ.1 + yNh A t σ / 8 + rPus A (nI t)) 10000
def yW (A : Nat → Int32) (t : Nat) (σ : xT) : Int32 := if lg_cmp (yRw A t σ) (yNo A t σ).toInt64 = 0 then 0 else 1
def yN (A : Nat → Int32) (t : Nat) (σ : xT) : xT := (yNe A t σ, yNh A t σ, yNa A t σ, yNi A t σ, yNo A t σ, yH A t σ)
def ySt (A : Nat → Int32) : Nat → xT | 0 => (A 12, 0, 0, 0, 0, fun _ => 0) | t + 1 => yN A t (ySt A t)
theorem run_a {G : mG} {w : mH} {a0 N t d : Nat} {x1 x2 x3 x4 x5 : Int32} {A M : Nat → Int32} {Φ : mF} (z : zRef w a0) (hA : hai w (a0 + 1) = A) (hN : hfi w a0 22 = nI N) (h200 : N ≤ 200) (ht : t < N) (h5 : ¬ A 5 = 0) (h6 : A 6 = nI d) (hd : d ≤ 70000) (hM : ∀ j, j < t → hai w (a0 + 9) j = M j)
    (k : ∀ w', xF [] [8, 9, 10] a0 w w' → hai w' (a0 + 8) = upd (hai w (a0 + 8)) t x1 → hai w' (a0 + 9) = upd (hai w (a0 + 9)) t (yMe A x1) → hai w' (a0 + 10) = upd (hai w (a0 + 10)) t (upd M t (yMe A x1) (t - d)) → mW G mX11_runs 4 0 0 114 [(0, .ref a0), (1, .int x1), (2, .int x2), (3, .int x3), (4, .int x4), (5, .int x5), (6, .int (nI t))] [] w' Φ) : mW G mX11_runs 4 0 0 32 [(0, .ref a0), (1, .int x1), (2, .int x2), (3, .int x3), (4, .int x4), (5, .int x5), (6, .int (nI t))] [] w Φ := by
  have n18 : a0 + 1 ≠ a0 + 8 := by omega
  have n19 : a0 + 1 ≠ a0 + 9 := by omega
  have n8a : a0 + 8 ≠ a0 + 10 := by omega
  have n89 : a0 + 8 ≠ a0 + 9 := by omega
  have n98 : a0 + 9 ≠ a0 + 8 := by omega
  have n9a : a0 + 9 ≠ a0 + 10 := by omega
  have na9 : a0 + 10 ≠ a0 + 9 := by omega
  have na8 : a0 + 10 ≠ a0 + 8 := by omega
  refine gX11_runs_32 (a0_15 := a0 + 8) (a0_16 := a0 + 9) (a0_1 := a0 + 1) (a0_17 := a0 + 10) z.1 z.2.2.2.2.2.2.2.2.1 z.2.2.2.2.2.2.2.2.2.2.2.2.2.2.2.2.2.2.2.2.2.2.2.2.2.2.2.2.2.1 (by intro c1; exact m_vp (by omega) (by decide)) z.2.2.2.2.2.2.2.2.2.1 z.2.1 z.2.2.2.2.2.2.2.2.2.2.2.2.2.2.2.2.2.2.2.2.2.2.1 (by intros; unfold vp_in; decide) (by intro c1 w1 e1; rw [(show hai w1 (a0 + 1) = A by rw [e1, e_hai_sai, up2_a _ _ _ n18]; exact hA)]; exact h5) z.2.2.2.2.2.2.2.2.2.2.2.2.2.2.2.2.2.2.2.2.2.2.2.2.2.2.2.2.2.2.1 (by intro c1 w1 e1; exact m_vp (by omega) (by decide)) z.2.2.2.2.2.2.2.2.2.2.1 (by intros; unfold vp_in; decide) (by intro c1 w1 e1 w2 e2 c2; rw [(show hai w2 (a0 + 1) = A by rw [e2, e_hai_sai, up2_a _ _ _ n19, e1, e_hai_sai, up2_a _ _ _ n18]; exact hA), h6] at c2 ⊢; rw [m_le (by omega) (by omega)] at c2; rw [m_sub c2]; exact m_vp (by omega) (by decide)) z.2.2.2.2.2.2.2.2.2.2.2.2.2.2.2.2.2.2.2.2.2.2.2.2.2.2.2.2.2.2.2.1 (by intro c1 w1 e1 w2 e2 c2; exact m_vp (by omega) (by decide)) (by intros; unfold vp_in; decide) (by intro c1 w1 e1 w2 e2 c2; exact m_vp (by omega) (by decide)) ?_ ?_ ?_
  · intro c1
    rw [hN, m_le (by omega) (by omega)] at c1; omega
  · intro c1 w1 e1 w2 e2 c2 w3 e3
    have r1 : hai w1 (a0 + 1) = A := by rw [e1, e_hai_sai, up2_a _ _ _ n18]; exact hA
    have r2 : hai w2 (a0 + 1) = A := by rw [e2, e_hai_sai, up2_a _ _ _ n19]; exact r1
    rw [r1, m_cl (by omega)] at e2
    rw [m_cl (by omega)] at e1
    rw [r2, h6, m_le (by omega) (by omega)] at c2
    rw [r2, h6, m_sub c2, m_cl (by omega), m_cl (by omega)] at e3
    have q8 : hai w3 (a0 + 8) = upd (hai w (a0 + 8)) t x1 := by rw [e3, e_hai_sai, up2_a _ _ _ n8a, e2, e_hai_sai, up2_a _ _ _ n89, e1, e_hai_sai, up2_row]
    have q9' : hai w2 (a0 + 9) = upd (hai w (a0 + 9)) t (yMe A x1) := by rw [e2, e_hai_sai, up2_row, e1, e_hai_sai, up2_a _ _ _ n98]; rfl
    have q9 : hai w3 (a0 + 9) = upd (hai w (a0 + 9)) t (yMe A x1) := by rw [e3, e_hai_sai, up2_a _ _ _ n9a]; exact q9'
    refine k w3 (by rw [e3, e2, e1]; exact xF_sai (xF_sai (xF_sai xF.rf (by decide)) (by decide)) (by decide)) q8 q9 ?_
    rw [e3, e_hai_sai, up2_row, q9', e2, e_hai_sai, up2_a _ _ _ na9, e1, e_hai_sai, up2_a _ _ _ na8]
    congr 1
    exact upd_c2 (fun q => hM _ (by omega))
  · intro c1 w1 e1 w2 e2 c2 w4 e4
    have r1 : hai w1 (a0 + 1) = A := by rw [e1, e_hai_sai, up2_a _ _ _ n18]; exact hA
    have r2 : hai w2 (a0 + 1) = A := by rw [e2, e_hai_sai, up2_a _ _ _ n19]; exact r1
    rw [r1, m_cl (by omega)] at e2
    rw [m_cl (by omega)] at e1
    rw [r2, h6, m_le (by omega) (by omega)] at c2
    rw [m_cl (by omega)] at e4
    have q8 : hai w4 (a0 + 8) = upd (hai w (a0 + 8)) t x1 := by rw [e4, e_hai_sai, up2_a _ _ _ n8a, e2, e_hai_sai, up2_a _ _ _ n89, e1, e_hai_sai, up2_row]
    have q9' : hai w2 (a0 + 9) = upd (hai w (a0 + 9)) t (yMe A x1) := by rw [e2, e_hai_sai, up2_row, e1, e_hai_sai, up2_a _ _ _ n98]; rfl
    have q9 : hai w4 (a0 + 9) = upd (hai w (a0 + 9)) t (yMe A x1) := by rw [e4, e_hai_sai, up2_a _ _ _ n9a]; exact q9'
    refine k w4 (by rw [e4, e2, e1]; exact xF_sai (xF_sai (xF_sai xF.rf (by decide)) (by decide)) (by decide)) q8 q9 ?_
    rw [e4, e_hai_sai, up2_row, q9', e2, e_hai_sai, up2_a _ _ _ na9, e1, e_hai_sai, up2_a _ _ _ na8]
    congr 1
    rw [show t - d = 0 by omega]
    exact upd_c2 (fun q => hM _ (by omega))

theorem m_t3 {t : Nat} (h : ¬ nI t = 0) : ∃ t1, t = t1 + 1 := by
  cases t with
  | zero => exact absurd rfl h
  | succ n => exact ⟨n, rfl⟩
theorem run_b {G : mG} {w : mH} {a0 t : Nat} {x1 x2 x3 x4 x5 : Int32} {Φ : mF} (z : zRef w a0) (hp : ptOK (hai w (a0 + 1))) (hs : srt (hai w (a0 + 1))) (ht : t < 200)
    (k : ∀ w', coO w w' a0 (hai w (a0 + 10) t) (if t = 0 then 0 else hai w (a0 + 10) t - hai w (a0 + 10) (t - 1)) x4 x5 → mW G mX11_runs 4 0 0 155 [(0, .ref a0), (1, .int x1), (2, .int x2), (3, .int x3), (4, .int x4), (5, .int x5), (6, .int (nI t))] [] w' Φ) : mW G mX11_runs 4 0 0 114 [(0, .ref a0), (1, .int x1), (2, .int x2), (3, .int x3), (4, .int x4), (5, .int x5), (6, .int (nI t))] [] w Φ := by
  refine gX11_runs_114 (a0_17 := a0 + 10) z.1 z.2.2.2.2.2.2.2.2.2.2.1 z.2.2.2.2.2.2.2.2.2.2.2.2.2.2.2.2.2.2.2.2.2.2.2.2.2.2.2.2.2.2.2.1 (by exact m_vp (by omega) (by decide)) (by intro c1; obtain ⟨t1, rfl⟩ : ∃ t1, t = t1 + 1 := m_t3 c1; rw [m_sub1]; exact m_vp (by omega) (by decide)) z (by intro c1; assumption) (by intro c1; assumption) (by intro c1; assumption) (by intro c1; assumption) ?_ ?_
  · intro c1 w1 q1
    obtain ⟨t1, rfl⟩ : ∃ t1, t = t1 + 1 := m_t3 c1
    rw [m_sub1, m_cl (by omega), m_cl (by omega)] at q1
    exact k w1 (by rw [if_neg (by omega)]; exact q1)
  · intro c1 w2 q2
    have h0 : t = 0 := (m_le0 (by omega)).mp (by rw [c1]; exact Int32.le_refl _)
    subst h0
    exact k w2 q2


theorem run_x {G : mG} {w : mH} {a0 t : Nat} {x1 x2 x3 x4 x5 : Int32} {Φ : mF} (z : zRef w a0) (ht : t < 200)
    (k : ∀ w' (o : Int32), o = (vX11_limited_ (hfl w a0 23) (hai w (a0 + 1) 3).toInt64).toInt32 → w' = sai w (a0 + 14) t (if lg_cmp (hfl w a0 23) o.toInt64 = 0 then 0 else 1) → mW G mX11_runs 4 0 0 195 [(0, .ref a0), (1, .int x1), (2, .int x2), (3, .int x3), (4, .int x4), (5, .int o), (6, .int (nI t))] [] w' Φ) : mW G mX11_runs 4 0 0 155 [(0, .ref a0), (1, .int x1), (2, .int x2), (3, .int x3), (4, .int x4), (5, .int x5), (6, .int (nI t))] [] w Φ := by
  refine gX11_runs_155 (a0_1 := a0 + 1) (a0_21 := a0 + 14) z.1 z.2.1 z.2.2.2.2.2.2.2.2.2.2.2.2.2.2.2.2.2.2.2.2.2.2.1 (by intros; unfold vp_in; decide) z.2.2.2.2.2.2.2.2.2.2.2.2.2.2.1 z.2.2.2.2.2.2.2.2.2.2.2.2.2.2.2.2.2.2.2.2.2.2.2.2.2.2.2.2.2.2.2.2.2.2.2.1 (by intro c1; exact m_vp (by omega) (by decide)) (by intro c1; exact m_vp (by omega) (by decide)) ?_ ?_
  · intro c1 w1 e1
    rw [m_cl (by omega)] at e1
    exact k w1 _ rfl (by rw [if_pos c1]; exact e1)
  · intro c1 w2 e2
    rw [m_cl (by omega)] at e2
    exact k w2 _ rfl (by rw [if_neg c1]; exact e2)

theorem run_d {G : mG} {w : mH} {a0 t : Nat} {x1 x2 x3 x4 x5 : Int32} {A : Nat → Int32} {Φ : mF} (z : zRef w a0) (ht : t < 200) (hA : hai w (a0 + 1) = A) (hk : kL A)
    (k : ∀ w' (a' h' : Int32), a' = x3 + vX11_limited (x5 - x3) (A 4) → h' = vX11_limited (x2 + rCur A (nI t) - a' / 8) 10000 → xF [] [11, 12, 13] a0 w w' → hai w' (a0 + 11) = upd (hai w (a0 + 11)) t x5 → hai w' (a0 + 12) = upd (hai w (a0 + 12)) t a' → hai w' (a0 + 13) = upd (hai w (a0 + 13)) t (yBeh A (hfl w a0 23) (hfi w a0 24) x4 (hai w (a0 + 10) t) x5) →
      mW G mX11_runs 4 0 0 32 [(0, .ref a0), (1, .int (vX11_limited (x1 + h' / 8 + rPus A (nI t)) 10000)), (2, .int h'), (3, .int a'), (4, .int (yBeh A (hfl w a0 23) (hfi w a0 24) x4 (hai w (a0 + 10) t) x5)), (5, .int x5), (6, .int (nI (t + 1)))] [] w' Φ) : mW G mX11_runs 4 0 0 195 [(0, .ref a0), (1, .int x1), (2, .int x2), (3, .int x3), (4, .int x4), (5, .int x5), (6, .int (nI t))] [] w Φ := by
  subst hA
  refine gX11_runs_195 (a0_17 := a0 + 10) (a0_1 := a0 + 1) (a0_18 := a0 + 11) (a0_19 := a0 + 12) (a0_20 := a0 + 13) z.1 z.2.2.2.2.2.2.2.2.2.2.1 z.2.2.2.2.2.2.2.2.2.2.2.2.2.2.2.2.2.2.2.2.2.2.2.2.2.2.2.2.2.2.2.1 (by exact m_vp (by omega) (by decide)) z.2.1 z.2.2.2.2.2.2.2.2.2.2.2.2.2.2.2.2.2.2.2.2.2.2.1 (by intros; unfold vp_in; decide) (by intros; unfold vp_in; decide) (by intros; unfold vp_in; decide) (by intros; unfold vp_in; decide) z (by exact hk) (by exact hk.1) z.2.2.2.2.2.2.2.2.2.2.2.1 z.2.2.2.2.2.2.2.2.2.2.2.2.2.2.2.2.2.2.2.2.2.2.2.2.2.2.2.2.2.2.2.2.1 (by exact m_vp (by omega) (by decide)) z.2.2.2.2.2.2.2.2.2.2.2.2.1 z.2.2.2.2.2.2.2.2.2.2.2.2.2.2.2.2.2.2.2.2.2.2.2.2.2.2.2.2.2.2.2.2.2.1 (by intro w1 e1; exact m_vp (by omega) (by decide)) z.2.2.2.2.2.2.2.2.2.2.2.2.2.1 z.2.2.2.2.2.2.2.2.2.2.2.2.2.2.2.2.2.2.2.2.2.2.2.2.2.2.2.2.2.2.2.2.2.2.1 (by intro w1 e1 w2 e2; exact m_vp (by omega) (by decide)) ?_
  · intro w1 e1 w2 e2 w3 e3
    rw [m_cl (by omega)] at e1 e2 e3
    rw [yBeh_eq] at e3 ⊢
    rw [m_cl (by omega), nI_1]
    refine k w3 _ _ rfl rfl (by rw [e3, e2, e1]; exact xF_sai (xF_sai (xF_sai xF.rf (by decide)) (by decide)) (by decide)) ?_ ?_ ?_
    · rw [e3, e_hai_sai, up2_a _ _ _ (by omega), e2, e_hai_sai, up2_a _ _ _ (by omega), e1, e_hai_sai, up2_row]
    · rw [e3, e_hai_sai, up2_a _ _ _ (by omega), e2, e_hai_sai, up2_row, e1, e_hai_sai, up2_a _ _ _ (by omega)]
    · rw [e3, e_hai_sai, up2_row, e2, e_hai_sai, up2_a _ _ _ (by omega), e1, e_hai_sai, up2_a _ _ _ (by omega)]

theorem run_end {G : mG} {w : mH} {a0 N : Nat} {x1 x2 x3 x4 x5 : Int32} {Φ : mF} (z : zRef w a0) (hN : hfi w a0 22 = nI N) (h200 : N ≤ 200) (k : ∀ w', w' = sai w (a0 + 8) N x1 → Φ (.inl none) w') : mW G mX11_runs 4 0 0 32 [(0, .ref a0), (1, .int x1), (2, .int x2), (3, .int x3), (4, .int x4), (5, .int x5), (6, .int (nI N))] [] w Φ := by
  refine gX11_runs_32 (a0_15 := a0 + 8) (a0_16 := a0 + 9) (a0_1 := a0 + 1) (a0_17 := a0 + 10) z.1 z.2.2.2.2.2.2.2.2.1 z.2.2.2.2.2.2.2.2.2.2.2.2.2.2.2.2.2.2.2.2.2.2.2.2.2.2.2.2.2.1 (by intro c1; exact absurd (by rw [hN]; exact Int32.le_refl _) c1) z.2.2.2.2.2.2.2.2.2.1 z.2.1 z.2.2.2.2.2.2.2.2.2.2.2.2.2.2.2.2.2.2.2.2.2.2.1 (by intros; unfold vp_in; decide) (by intro c1 w1 e1; exact absurd (by rw [hN]; exact Int32.le_refl _) c1) z.2.2.2.2.2.2.2.2.2.2.2.2.2.2.2.2.2.2.2.2.2.2.2.2.2.2.2.2.2.2.1 (by intro c1 w1 e1; exact absurd (by rw [hN]; exact Int32.le_refl _) c1) z.2.2.2.2.2.2.2.2.2.2.1 (by intros; unfold vp_in; decide) (by intro c1 w1 e1 w2 e2 c2; exact absurd (by rw [hN]; exact Int32.le_refl _) c1) z.2.2.2.2.2.2.2.2.2.2.2.2.2.2.2.2.2.2.2.2.2.2.2.2.2.2.2.2.2.2.2.1 (by intro c1 w1 e1 w2 e2 c2; exact absurd (by rw [hN]; exact Int32.le_refl _) c1) (by intros; unfold vp_in; decide) (by intro c1 w1 e1 w2 e2 c2; exact absurd (by rw [hN]; exact Int32.le_refl _) c1) ?_ ?_ ?_
  · intro c1
    refine gX11_runs_300 (a0_15 := a0 + 8) z.1 z.2.2.2.2.2.2.2.2.1 z.2.2.2.2.2.2.2.2.2.2.2.2.2.2.2.2.2.2.2.2.2.2.2.2.2.2.2.2.2.1 (by rw [hN]; exact m_vp (by omega) (by decide)) ?_
    intro w1 e1
    rw [hN, m_cl (by omega)] at e1
    exact k w1 e1
  · intro c1 w1 e1 w2 e2 c2 w3 e3
    exact absurd (by rw [hN]; exact Int32.le_refl _) c1
  · intro c1 w1 e1 w2 e2 c2 w4 e4
    exact absurd (by rw [hN]; exact Int32.le_refl _) c1

theorem y_hist (A : Nat → Int32) : ∀ n j, j < n → (ySt A n).2.2.2.2.2 j = yMe A (ySt A j).1 := by
  intro n
  induction n with
  | zero => intro j hj; omega
  | succ n ih =>
    intro j hj
    show upd (ySt A n).2.2.2.2.2 n (yMe A (ySt A n).1) j = _
    unfold upd
    by_cases h : j = n
    · rw [if_pos h, h]
    · rw [if_neg h]
      exact ih j (by omega)
/-- the rows of the reference hold N steps of its run -/
def yRep (w : mH) (a : Nat) (A : Nat → Int32) (t : Nat) : Prop := (∀ j, j < t → hai w (a + 8) j = (ySt A j).1) ∧ (∀ j, j < t → hai w (a + 10) j = ySn A j (ySt A j)) ∧ (∀ j, j < t → hai w (a + 11) j = (ySt A (j + 1)).2.2.2.2.1) ∧ (∀ j, j < t → hai w (a + 12) j = (ySt A (j + 1)).2.2.1) ∧ (∀ j, j < t → hai w (a + 13) j = (ySt A (j + 1)).2.2.2.1) ∧ ∀ j, j < t → hai w (a + 14) j = yW A j (ySt A j)
def rOK (A : Nat → Int32) (N : Nat) : Prop := A 13 = nI N ∧ 1 ≤ N ∧ N ≤ 200 ∧ ptOK A ∧ srt A ∧ kL A ∧ ¬ A 5 = 0 ∧ A 6 = nI (yD A) ∧ yD A ≤ 70000
theorem upd_s {f g : Nat → Int32} {t : Nat} {v : Int32} {H : Nat → Int32} (e : g = upd f t v) (h : ∀ j, j < t → f j = H j) (q : v = H t) : ∀ j, j < t + 1 → g j = H j := by
  intro j hj
  rw [e]
  unfold upd
  by_cases c : j = t
  · rw [if_pos c, c]; exact q
  · rw [if_neg c]; exact h j (by omega)
theorem run_loop {G : mG} {w0 : mH} {a0 N : Nat} {A : Nat → Int32} {Φ : mF} (z : zRef w0 a0) (ok : rOK A N) (hA0 : hai w0 (a0 + 1) = A)
    (hΦ : ∀ w', xF [22, 24] [8, 9, 10, 11, 12, 13, 14] a0 w0 w' → hfi w' a0 22 = nI N → yRep w' a0 A N → hai w' (a0 + 8) N = (ySt A N).1 → Φ (.inl none) w') :
    ∀ j t w, t + j = N → xF [22, 24] [8, 9, 10, 11, 12, 13, 14] a0 w0 w → hfi w a0 22 = nI N → yRep w a0 A t → (∀ i, i < t → hai w (a0 + 9) i = yMe A (ySt A i).1) → mW G mX11_runs 4 0 0 32 [(0, .ref a0), (1, .int (ySt A t).1), (2, .int (ySt A t).2.1), (3, .int (ySt A t).2.2.1), (4, .int (ySt A t).2.2.2.1), (5, .int (ySt A t).2.2.2.2.1), (6, .int (nI t))] [] w Φ := by
  obtain ⟨h13, h1, h200, hp, hs, hk, h5, h6, hd⟩ := ok
  intro j
  induction j with
  | zero =>
    intro t w ht F hN R H9
    have ht' : t = N := by omega
    subst ht'
    have z1 : zRef w a0 := zRef_s2 (mS2.of F.1) z
    refine run_end z1 hN h200 (fun w1 e1 => ?_)
    have F1 : xF [22, 24] [8, 9, 10, 11, 12, 13, 14] a0 w0 w1 := by rw [e1]; exact xF_sai F (by decide)
    obtain ⟨R8, R10, R11, R12, R13, R14⟩ := R
    have k8 : hai w1 (a0 + 8) = upd (hai w (a0 + 8)) t (ySt A t).1 := by rw [e1, e_hai_sai, up2_row]
    refine hΦ w1 F1 (by rw [e1]; exact hN) ⟨fun j hj => ?_, ?_, ?_, ?_, ?_, ?_⟩ ?_
    · rw [k8, upd_ne (by omega)]; exact R8 j hj
    · rw [e1, e_hai_sai, up2_a _ _ _ (by omega)]; exact R10
    · rw [e1, e_hai_sai, up2_a _ _ _ (by omega)]; exact R11
    · rw [e1, e_hai_sai, up2_a _ _ _ (by omega)]; exact R12
    · rw [e1, e_hai_sai, up2_a _ _ _ (by omega)]; exact R13
    · rw [e1, e_hai_sai, up2_a _ _ _ (by omega)]; exact R14
    · rw [k8]; exact if_pos rfl
  | succ j ih =>
    intro t w ht F hN R H9
    have z1 : zRef w a0 := zRef_s2 (mS2.of F.1) z
    have hA : hai w (a0 + 1) = A := (F.ai (by decide)).trans hA0
    have HM : ∀ i, i < t → hai w (a0 + 9) i = (ySt A t).2.2.2.2.2 i := fun i hi => by rw [H9 i hi, y_hist A t i hi]
    obtain ⟨R8, R10, R11, R12, R13, R14⟩ := R
    refine run_a z1 hA hN h200 (by omega) h5 h6 hd HM (fun w1 F1 k8 k9 k10 => ?_)
    have z2 : zRef w1 a0 := zRef_s2 (mS2.of F1.1) z1
    have hA1 : hai w1 (a0 + 1) = A := (F1.ai (by decide)).trans hA
    refine run_b z2 (by rw [hA1]; exact hp) (by rw [hA1]; exact hs) (by omega) (fun w2 C => ?_)
    obtain ⟨F2, g24, g23⟩ := C
    have s10 : hai w1 (a0 + 10) t = ySn A t (ySt A t) := by rw [k10]; exact if_pos rfl
    have sch : (if t = 0 then 0 else hai w1 (a0 + 10) t - hai w1 (a0 + 10) (t - 1)) = yCh A t (ySt A t) := by
      unfold yCh
      by_cases h0 : t = 0
      · rw [if_pos h0, if_pos h0]
      · rw [if_neg h0, if_neg h0, s10]
        obtain ⟨m, rfl⟩ : ∃ m, t = m + 1 := ⟨t - 1, by omega⟩
        rw [Nat.add_sub_cancel, k10, upd_ne (by omega), R10 m (by omega)]
        congr 1
        show upd (ySt A m).2.2.2.2.2 m (yMe A (ySt A m).1) (m - yD A) = upd (ySt A (m + 1)).2.2.2.2.2 (m + 1) _ (m - yD A)
        rw [upd_ne (show m - yD A ≠ m + 1 by omega)]
        rfl
    rw [sch, s10, hA1] at g23
    rw [s10, hA1] at g24
    have z3 : zRef w2 a0 := zRef_s2 (mS2.of F2.1) z2
    have hA2 : hai w2 (a0 + 1) = A := (F2.ai (by decide)).trans hA1
    refine run_x z3 (by omega) (fun w3 o eo e3 => ?_)
    rw [hA2, g23] at eo
    rw [eo, g23] at e3
    subst eo
    have F3 : xF [] [14] a0 w2 w3 := by rw [e3]; exact xF_sai xF.rf (by decide)
    have z4 : zRef w3 a0 := zRef_s2 (mS2.of F3.1) z3
    have hA3 : hai w3 (a0 + 1) = A := (F3.ai (by decide)).trans hA2
    refine run_d z4 (by omega) hA3 hk (fun w4 a' h' ea eh F4 k11 k12 k13 => ?_)
    have g3 : hfl w3 a0 23 = yRw A t (ySt A t) := by rw [e3]; exact g23
    have g4 : hfi w3 a0 24 = yNx A (ySt A t).2.2.2.1 (ySn A t (ySt A t)) := by rw [e3]; exact g24
    have g10 : hai w3 (a0 + 10) t = ySn A t (ySt A t) := by rw [F3.ai (by decide), F2.ai (by decide), s10]
    rw [g3, g4, g10] at k13 ⊢
    subst ea
    subst eh
    have FF : xF [22, 24] [8, 9, 10, 11, 12, 13, 14] a0 w0 w4 := (((F.tr (F1.wide (by decide) (by decide))).tr (F2.wide (by decide) (by decide))).tr (F3.wide (by decide) (by decide))).tr (F4.wide (by decide) (by decide))
    refine ih (t + 1) w4 (by omega) FF (by rw [F4.fi (by decide), F3.fi (by decide), F2.fi (by decide), F1.fi (by decide)]; exact hN) ⟨?_, ?_, ?_, ?_, ?_, ?_⟩ ?_
    · rw [F4.ai (by decide), F3.ai (by decide), F2.ai (by decide)]; exact upd_s k8 R8 rfl
    · rw [F4.ai (by decide), F3.ai (by decide), F2.ai (by decide)]; exact upd_s k10 R10 rfl
    · exact upd_s (k11.trans (by rw [F3.ai (by decide), F2.ai (by decide), F1.ai (by decide)]; rfl)) R11 rfl
    · exact upd_s (k12.trans (by rw [F3.ai (by decide), F2.ai (by decide), F1.ai (by decide)]; rfl)) R12 rfl
    · exact upd_s (k13.trans (by rw [F3.ai (by decide), F2.ai (by decide), F1.ai (by decide)]; rfl)) R13 rfl
    · rw [F4.ai (by decide)]
      exact upd_s (by rw [e3, e_hai_sai, up2_row, F2.ai (by decide), F1.ai (by decide)]; rfl) R14 rfl
    · rw [F4.ai (by decide), F3.ai (by decide), F2.ai (by decide)]; exact upd_s k9 H9 rfl
theorem rX11_runs {G : mG} {w : mH} {a0 N : Nat} (z : zRef w a0) (ok : rOK (hai w (a0 + 1)) N) : mC G mX11_runs 4 0 0 [.ref a0] w (mP none (fun w' => xF [22, 24] [8, 9, 10, 11, 12, 13, 14] a0 w w' ∧ hfi w' a0 22 = nI N ∧ yRep w' a0 (hai w (a0 + 1)) N ∧ hai w' (a0 + 8) N = (ySt (hai w (a0 + 1)) N).1)) := by
  refine mC_of (by decide +kernel) rfl (Nat.le_of_ble_eq_true rfl) rfl ?_
  refine gX11_runs_0 (a0_1 := a0 + 1) z.1 z.2.1 z.2.2.2.2.2.2.2.2.2.2.2.2.2.2.2.2.2.2.2.2.2.2.1 (by intros; unfold vp_in; decide) (by intros; unfold vp_in; decide) ?_
  intro w1 e1
  have F : xF [22, 24] [8, 9, 10, 11, 12, 13, 14] a0 w w1 := by rw [e1]; exact xF_sfi xF.rf (by decide)
  have := run_loop (G := G) (Φ := mP none (fun w' => xF [22, 24] [8, 9, 10, 11, 12, 13, 14] a0 w w' ∧ hfi w' a0 22 = nI N ∧ yRep w' a0 (hai w (a0 + 1)) N ∧ hai w' (a0 + 8) N = (ySt (hai w (a0 + 1)) N).1)) z ok rfl (fun w' a b c d => mP_of ⟨a, b, c, d⟩) N 0 w1 (by omega) F (by rw [e1, e_hfi_sfi, up2_at]; exact ok.1) ⟨fun j hj => absurd hj (by omega), fun j hj => absurd hj (by omega), fun j hj => absurd hj (by omega), fun j hj => absurd hj (by omega), fun j hj => absurd hj (by omega), fun j hj => absurd hj (by omega)⟩ (fun i hi => absurd hi (by omega))
  exact this

