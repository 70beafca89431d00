abbrev mX11_search : mM := (yX11_search, cX11_search, 8, (some .int), [])
theorem u1803 : (Cond.constantLong "LineFollowerBenchModel" 188 (-1) : Cond) ∈ mTs := mTs_in 1803 (by decide +kernel) (by decide +kernel)
set_option maxHeartbeats 4000000 in
set_option maxRecDepth 100000 in
theorem gX11_search_0 {G : mG} {w : mH} {Φ : mF} {a0 : Nat} (h1 : hk w a0 = (11, 0)) (k1 : ∀ w1 : mH, (w1 = sfi w a0 0 0) → mW G mX11_search 8 0 0 11 [(0, .ref a0), (1, .long (-1)), (3, .int 0)] [] w1 Φ) : mW G mX11_search 8 0 0 0 [(0, .ref a0)] [] w Φ := by
  refine mW_aload_n (j := 0) dX11_search_0 rfl rfl ?_
  refine mW_iconst (v := 0) dX11_search_1 (by decide) ?_
  refine mW_put (ty := .int) (w2 := sfi w a0 0 0) dX11_search_2 p_X11_3 h1 (Nat.le_of_ble_eq_true rfl) (by first | rfl | decide | (repeat' split) <;> rfl) rfl (hN_sfi _ _ _ _) (hk_sfi _ _ _ _) (mE_sfi h1 (by decide) (ob_11_0 _ _ _)) ?_
  refine mW_nm (fun w1 e1 => ?_)
  refine mW_ldc2 (v := (-1)) dX11_search_5 u1803 ?_
  refine mW_lstore_n (lv2 := [(1, .long (-1)), (0, .ref a0)]) dX11_search_8 rfl (by decide) rfl ?_
  refine mW_iconst (v := 0) dX11_search_9 (by decide) ?_
  refine mW_istore_n (lv2 := [(3, .int 0), (1, .long (-1)), (0, .ref a0)]) dX11_search_10 rfl (by decide) rfl ?_
  refine mW_loc [2, 1, 0] (lv2 := [(0, .ref a0), (1, .long (-1)), (3, .int 0)]) rfl ?_
  exact k1 w1 e1
theorem u1595 : (Cond.fieldLink "LineFollowerBenchModel" 80 "LineFollowerBenchModel" "one" "[I" : Cond) ∈ mTs := mTs_in 1595 (by decide +kernel) (by decide +kernel)
theorem f_X11_80 : mFld "LineFollowerBenchModel" 80 11 35 := ⟨RX11, TX11, 36, "LineFollowerBenchModel", rfl, by decide, in_X11, u1595, Or.inl rfl, by decide⟩
theorem u1944 : (Cond.code ⟨"LineFollowerBenchModel", "finds", "(IIIIJ)V"⟩ prog_13_method_60_code 11 (none : Option ClassFile.FieldType) : Cond) ∈ mTs := mTs_in 1944 (by decide +kernel) (by decide +kernel)
theorem co_X11_finds : mCode mX11_finds := ⟨u1944, u85, by decide⟩
theorem u1941 : (Cond.methodLink "LineFollowerBenchModel" 290 ⟨"LineFollowerBenchModel", "finds", "(IIIIJ)V"⟩ : Cond) ∈ mTs := mTs_in 1941 (by decide +kernel) (by decide +kernel)
theorem u1943 : (Cond.instanceMethod ⟨"LineFollowerBenchModel", "finds", "(IIIIJ)V"⟩ : Cond) ∈ mTs := mTs_in 1943 (by decide +kernel) (by decide +kernel)
theorem u67 : (Cond.selects "LineFollowerBenchModel" ⟨"LineFollowerBenchModel", "finds", "(IIIIJ)V"⟩ ⟨"LineFollowerBenchModel", "finds", "(IIIIJ)V"⟩ : Cond) ∈ mTs := mTs_in 67 (by decide +kernel) (by decide +kernel)
theorem l_X11_290 : mLinkV "LineFollowerBenchModel" 290 5 mX11_finds := ⟨⟨by decide, by decide, by decide +kernel⟩, co_X11_finds, u1941, u1943, u67⟩
set_option maxHeartbeats 4000000 in
set_option maxRecDepth 100000 in
theorem gX11_search_11 {G : mG} {w : mH} {Φ : mF} {a0 : Nat} {y1 : Int64} {x3 : Int32} {N f a0_1 n_a0_1 a0_35 n_a0_35 : Nat} (h1 : hk w a0 = (11, 0)) (h2 : hfr w a0 1 = some a0_1) (h3 : hk w a0_1 = (16, n_a0_1)) (s1 : vp_in ((20 + (3 * 0)) + 2) n_a0_1) (h4 : hfr w a0 35 = some a0_35) (h5 : hk w a0_35 = (16, n_a0_35)) (s2 : vp_in 0 n_a0_35) (s3 : vp_in 1 n_a0_35) (s4 : vp_in 2 n_a0_35) (h6 : zRef w a0) (s5 : ((vX11_gridCount w 0 a0_1) ≤ x3) → rOK (hai w (a0 + 1)) N) (s6 : ((vX11_gridCount w 0 a0_1) ≤ x3) → gOK (hai w (a0 + 1))) (s7 : ((vX11_gridCount w 0 a0_1) ≤ x3) → 0 = nI f) (s8 : ((vX11_gridCount w 0 a0_1) ≤ x3) → f ≤ 1) (s9 : ((vX11_gridCount w 0 a0_1) ≤ x3) → ∀ w1 : mH, (fdO w w1 a0 f (hai w a0_35 0) (hai w a0_35 1) (hai w a0_35 2) y1 (nI (fGt (qR (hai w (a0 + 1)) N) y1 (gT (hai w (a0 + 1)))))) → vp_in ((20 + (3 * 1)) + 2) n_a0_1) (s10 : ((vX11_gridCount w 0 a0_1) ≤ x3) → ∀ w1 : mH, (fdO w w1 a0 f (hai w a0_35 0) (hai w a0_35 1) (hai w a0_35 2) y1 (nI (fGt (qR (hai w (a0 + 1)) N) y1 (gT (hai w (a0 + 1)))))) → vp_in ((20 + (3 * 2)) + 2) n_a0_1) (k1 : ((vX11_gridCount w 0 a0_1) ≤ x3) → ∀ w1 : mH, (fdO w w1 a0 f (hai w a0_35 0) (hai w a0_35 1) (hai w a0_35 2) y1 (nI (fGt (qR (hai w (a0 + 1)) N) y1 (gT (hai w (a0 + 1)))))) → Φ (.inl (some (.int (vX11_triples w1 a0_1)))) w1) (k2 : (¬ ((vX11_gridCount w 0 a0_1) ≤ x3)) → mW G mX11_search 8 0 0 23 [(0, .ref a0), (1, .long y1), (3, .int x3), (4, .int 0)] [] w Φ) : mW G mX11_search 8 0 0 11 [(0, .ref a0), (1, .long y1), (3, .int x3)] [] w Φ := by
  refine mW_iload_n (j := 2) dX11_search_11 rfl rfl ?_
  refine mW_aload_n (j := 0) dX11_search_12 rfl rfl ?_
  refine mW_iconst (v := 0) dX11_search_13 (by decide) ?_
  refine mW_callVe (As := [.int 0]) (rest := [.int x3]) (kc2 := 0) (ks2 := 0) dX11_search_14 l_X11_128 rfl h1 rfl (by decide) (qX11_gridCount (w := w) (a0 := a0) (x1 := 0) h1 h2 h3 s1) (Nat.le_of_ble_eq_true rfl) (by decide) rfl rfl ?_
  refine mW_icmp_ge (tgt := 147) dX11_search_17 (by decide) (fun c1 => ?_) (fun c1 => ?_)
  · refine mW_aload_n (j := 0) dX11_search_147 rfl rfl ?_
    refine mW_iconst (v := 0) dX11_search_148 (by decide) ?_
    refine mW_aload_n (j := 0) dX11_search_149 rfl rfl ?_
    refine mW_getR dX11_search_150 f_X11_80 h1 rfl h4 ?_
    refine mW_iconst (v := 0) dX11_search_153 (by decide) ?_
    refine mW_ialdJ dX11_search_154 h5 s2 (j := 0) (by decide) ?_
    refine mW_aload_n (j := 0) dX11_search_155 rfl rfl ?_
    refine mW_getR dX11_search_156 f_X11_80 h1 rfl h4 ?_
    refine mW_iconst (v := 1) dX11_search_159 (by decide) ?_
    refine mW_ialdJ dX11_search_160 h5 s3 (j := 1) (by decide) ?_
    refine mW_aload_n (j := 0) dX11_search_161 rfl rfl ?_
    refine mW_getR dX11_search_162 f_X11_80 h1 rfl h4 ?_
    refine mW_iconst (v := 2) dX11_search_165 (by decide) ?_
    refine mW_ialdJ dX11_search_166 h5 s4 (j := 2) (by decide) ?_
    refine mW_lload_n (j := 1) dX11_search_167 rfl rfl ?_
    refine mW_callV (As := [.int 0, .int (hai w a0_35 0), .int (hai w a0_35 1), .int (hai w a0_35 2), .long y1]) (rest := []) (kc2 := 0) (ks2 := 0) dX11_search_168 l_X11_290 rfl h1 rfl (by decide) (rX11_finds (w := w) (a0 := a0) (x1 := 0) (x2 := hai w a0_35 0) (x3 := hai w a0_35 1) (x4 := hai w a0_35 2) (y5 := y1) h6 (s5 c1) (s6 c1) (s7 c1) (s8 c1)) (Nat.le_of_ble_eq_true rfl) (by decide) rfl rfl mP_x (mP_k (fun w1 q1 => ?_))
    refine mW_aload_n (j := 0) dX11_search_171 rfl rfl ?_
    refine mW_callVe (As := []) (rest := []) (kc2 := 0) (ks2 := 0) dX11_search_172 l_X11_139 rfl (s2k (mS2.of q1.1.1) h1) rfl (by decide) (qX11_triples (w := w1) (a0 := a0) (s2k (mS2.of q1.1.1) h1) (s2r (mS2.of q1.1.1) h2) (s2k (mS2.of q1.1.1) h3) s1 (s9 c1 w1 q1) (s10 c1 w1 q1)) (Nat.le_of_ble_eq_true rfl) (by decide) rfl rfl ?_
    exact mW_iret dX11_search_175 rfl (k1 c1 w1 q1)
  · refine mW_iconst (v := 0) dX11_search_20 (by decide) ?_
    refine mW_istore (lv2 := [(4, .int 0), (0, .ref a0), (1, .long y1), (3, .int x3)]) dX11_search_21 (by decide) rfl ?_
    refine mW_loc [1, 2, 3, 0] (lv2 := [(0, .ref a0), (1, .long y1), (3, .int x3), (4, .int 0)]) rfl ?_
    exact k2 c1
set_option maxHeartbeats 4000000 in
set_option maxRecDepth 100000 in
theorem gX11_search_23 {G : mG} {w : mH} {Φ : mF} {a0 : Nat} {y1 : Int64} {x3 x4 : Int32} {a0_1 n_a0_1 : Nat} (h1 : hk w a0 = (11, 0)) (h2 : hfr w a0 1 = some a0_1) (h3 : hk w a0_1 = (16, n_a0_1)) (s1 : vp_in ((20 + (3 * 1)) + 2) n_a0_1) (k1 : ((vX11_gridCount w 1 a0_1) ≤ x4) → mW G mX11_search 8 0 0 11 [(0, .ref a0), (1, .long y1), (3, .int (x3 + 1))] [] w Φ) (k2 : (¬ ((vX11_gridCount w 1 a0_1) ≤ x4)) → mW G mX11_search 8 0 0 36 [(0, .ref a0), (1, .long y1), (3, .int x3), (4, .int x4), (5, .int 0)] [] w Φ) : mW G mX11_search 8 0 0 23 [(0, .ref a0), (1, .long y1), (3, .int x3), (4, .int x4)] [] w Φ := by
  refine mW_iload (j := 3) dX11_search_23 rfl ?_
  refine mW_aload_n (j := 0) dX11_search_25 rfl rfl ?_
  refine mW_iconst (v := 1) dX11_search_26 (by decide) ?_
  refine mW_callVe (As := [.int 1]) (rest := [.int x4]) (kc2 := 0) (ks2 := 0) dX11_search_27 l_X11_128 rfl h1 rfl (by decide) (qX11_gridCount (w := w) (a0 := a0) (x1 := 1) h1 h2 h3 s1) (Nat.le_of_ble_eq_true rfl) (by decide) rfl rfl ?_
  refine mW_icmp_ge (tgt := 141) dX11_search_30 (by decide) (fun c1 => ?_) (fun c1 => ?_)
  · refine mW_iinc (j := 2) (v := x3 + 1) (lv2 := [(3, .int (x3 + 1)), (0, .ref a0), (1, .long y1), (4, .int x4)]) dX11_search_141 rfl rfl (by decide) rfl ?_
    refine mW_goto (tgt := 11) dX11_search_144 (by decide) ?_
    refine mW_loc [1, 2, 0] (lv2 := [(0, .ref a0), (1, .long y1), (3, .int (x3 + 1))]) rfl ?_
    exact k1 c1
  · refine mW_iconst (v := 0) dX11_search_33 (by decide) ?_
    refine mW_istore (lv2 := [(5, .int 0), (0, .ref a0), (1, .long y1), (3, .int x3), (4, .int x4)]) dX11_search_34 (by decide) rfl ?_
    refine mW_loc [1, 2, 3, 4, 0] (lv2 := [(0, .ref a0), (1, .long y1), (3, .int x3), (4, .int x4), (5, .int 0)]) rfl ?_
    exact k2 c1
set_option maxHeartbeats 4000000 in
set_option maxRecDepth 100000 in
theorem gX11_search_36 {G : mG} {w : mH} {Φ : mF} {a0 : Nat} {y1 : Int64} {x3 x4 x5 : Int32} {N a0_1 n_a0_1 a0_35 n_a0_35 : Nat} (h1 : hk w a0 = (11, 0)) (h2 : hfr w a0 1 = some a0_1) (h3 : hk w a0_1 = (16, n_a0_1)) (s1 : vp_in ((20 + (3 * 2)) + 2) n_a0_1) (s2 : (¬ ((vX11_gridCount w 2 a0_1) ≤ x5)) → vp_in (20 + (3 * 0)) n_a0_1) (s3 : (¬ ((vX11_gridCount w 2 a0_1) ≤ x5)) → vp_in ((20 + (3 * 0)) + 1) n_a0_1) (s4 : (¬ ((vX11_gridCount w 2 a0_1) ≤ x5)) → vp_in (20 + (3 * 1)) n_a0_1) (s5 : (¬ ((vX11_gridCount w 2 a0_1) ≤ x5)) → vp_in ((20 + (3 * 1)) + 1) n_a0_1) (s6 : (¬ ((vX11_gridCount w 2 a0_1) ≤ x5)) → vp_in (20 + (3 * 2)) n_a0_1) (s7 : (¬ ((vX11_gridCount w 2 a0_1) ≤ x5)) → vp_in ((20 + (3 * 2)) + 1) n_a0_1) (h4 : zRef w a0) (s8 : (¬ ((vX11_gridCount w 2 a0_1) ≤ x5)) → rOK (hai w (a0 + 1)) N) (h5 : hfr w a0 35 = some a0_35) (h6 : hk w a0_35 = (16, n_a0_35)) (s9 : vp_in 0 n_a0_35) (s10 : vp_in 1 n_a0_35) (s11 : vp_in 2 n_a0_35) (s12 : vp_in 0 n_a0_35) (s13 : vp_in 1 n_a0_35) (s14 : vp_in 2 n_a0_35) (k1 : ((vX11_gridCount w 2 a0_1) ≤ x5) → mW G mX11_search 8 0 0 23 [(0, .ref a0), (1, .long y1), (3, .int x3), (4, .int (x4 + 1))] [] w Φ) (k2 : (¬ ((vX11_gridCount w 2 a0_1) ≤ x5)) → ∀ w1 : mH, (xF [22, 24] [8, 9, 10, 11, 12, 13, 14] a0 w w1) → ((lg_cmp y1 0) < 0) → ∀ w2 : mH, (w2 = sai w1 a0_35 0 (vX11_gridValue w1 0 x3 a0_1)) → ∀ w3 : mH, (w3 = sai w2 a0_35 1 (vX11_gridValue w2 1 x4 a0_1)) → ∀ w4 : mH, (w4 = sai w3 a0_35 2 (vX11_gridValue w3 2 x5 a0_1)) → mW G mX11_search 8 0 0 36 [(0, .ref a0), (1, .long (rCW (hai w (a0 + 1)) N (vX11_gridValue w 0 x3 a0_1) (vX11_gridValue w 1 x4 a0_1) (vX11_gridValue w 2 x5 a0_1))), (3, .int x3), (4, .int x4), (5, .int (x5 + 1))] [] w4 Φ) (k3 : (¬ ((vX11_gridCount w 2 a0_1) ≤ x5)) → ∀ w1 : mH, (xF [22, 24] [8, 9, 10, 11, 12, 13, 14] a0 w w1) → (¬ ((lg_cmp y1 0) < 0)) → ((lg_cmp (rCW (hai w (a0 + 1)) N (vX11_gridValue w 0 x3 a0_1) (vX11_gridValue w 1 x4 a0_1) (vX11_gridValue w 2 x5 a0_1)) y1) < 0) → ∀ w5 : mH, (w5 = sai w1 a0_35 0 (vX11_gridValue w1 0 x3 a0_1)) → ∀ w6 : mH, (w6 = sai w5 a0_35 1 (vX11_gridValue w5 1 x4 a0_1)) → ∀ w7 : mH, (w7 = sai w6 a0_35 2 (vX11_gridValue w6 2 x5 a0_1)) → mW G mX11_search 8 0 0 36 [(0, .ref a0), (1, .long (rCW (hai w (a0 + 1)) N (vX11_gridValue w 0 x3 a0_1) (vX11_gridValue w 1 x4 a0_1) (vX11_gridValue w 2 x5 a0_1))), (3, .int x3), (4, .int x4), (5, .int (x5 + 1))] [] w7 Φ) (k4 : (¬ ((vX11_gridCount w 2 a0_1) ≤ x5)) → ∀ w1 : mH, (xF [22, 24] [8, 9, 10, 11, 12, 13, 14] a0 w w1) → (¬ ((lg_cmp y1 0) < 0)) → (¬ ((lg_cmp (rCW (hai w (a0 + 1)) N (vX11_gridValue w 0 x3 a0_1) (vX11_gridValue w 1 x4 a0_1) (vX11_gridValue w 2 x5 a0_1)) y1) < 0)) → mW G mX11_search 8 0 0 36 [(0, .ref a0), (1, .long y1), (3, .int x3), (4, .int x4), (5, .int (x5 + 1))] [] w1 Φ) : mW G mX11_search 8 0 0 36 [(0, .ref a0), (1, .long y1), (3, .int x3), (4, .int x4), (5, .int x5)] [] w Φ := by
  refine mW_iload (j := 4) dX11_search_36 rfl ?_
  refine mW_aload_n (j := 0) dX11_search_38 rfl rfl ?_
  refine mW_iconst (v := 2) dX11_search_39 (by decide) ?_
  refine mW_callVe (As := [.int 2]) (rest := [.int x5]) (kc2 := 0) (ks2 := 0) dX11_search_40 l_X11_128 rfl h1 rfl (by decide) (qX11_gridCount (w := w) (a0 := a0) (x1 := 2) h1 h2 h3 s1) (Nat.le_of_ble_eq_true rfl) (by decide) rfl rfl ?_
  refine mW_icmp_ge (tgt := 135) dX11_search_43 (by decide) (fun c1 => ?_) (fun c1 => ?_)
  · refine mW_iinc (j := 3) (v := x4 + 1) (lv2 := [(4, .int (x4 + 1)), (0, .ref a0), (1, .long y1), (3, .int x3), (5, .int x5)]) dX11_search_135 rfl rfl (by decide) rfl ?_
    refine mW_goto (tgt := 23) dX11_search_138 (by decide) ?_
    refine mW_loc [1, 2, 3, 0] (lv2 := [(0, .ref a0), (1, .long y1), (3, .int x3), (4, .int (x4 + 1))]) rfl ?_
    exact k1 c1
  · refine mW_aload_n (j := 0) dX11_search_46 rfl rfl ?_
    refine mW_aload_n (j := 0) dX11_search_47 rfl rfl ?_
    refine mW_iconst (v := 0) dX11_search_48 (by decide) ?_
    refine mW_iload_n (j := 2) dX11_search_49 rfl rfl ?_
    refine mW_callVe (As := [.int 0, .int x3]) (rest := [.ref a0]) (kc2 := 0) (ks2 := 0) dX11_search_50 l_X11_283 rfl h1 rfl (by decide) (qX11_gridValue (w := w) (a0 := a0) (x1 := 0) (x2 := x3) h1 h2 h3 (s2 c1) (s3 c1)) (Nat.le_of_ble_eq_true rfl) (by decide) rfl rfl ?_
    refine mW_aload_n (j := 0) dX11_search_53 rfl rfl ?_
    refine mW_iconst (v := 1) dX11_search_54 (by decide) ?_
    refine mW_iload (j := 3) dX11_search_55 rfl ?_
    refine mW_callVe (As := [.int 1, .int x4]) (rest := [.int (vX11_gridValue w 0 x3 a0_1), .ref a0]) (kc2 := 0) (ks2 := 0) dX11_search_57 l_X11_283 rfl h1 rfl (by decide) (qX11_gridValue (w := w) (a0 := a0) (x1 := 1) (x2 := x4) h1 h2 h3 (s4 c1) (s5 c1)) (Nat.le_of_ble_eq_true rfl) (by decide) rfl rfl ?_
    refine mW_aload_n (j := 0) dX11_search_60 rfl rfl ?_
    refine mW_iconst (v := 2) dX11_search_61 (by decide) ?_
    refine mW_iload (j := 4) dX11_search_62 rfl ?_
    refine mW_callVe (As := [.int 2, .int x5]) (rest := [.int (vX11_gridValue w 1 x4 a0_1), .int (vX11_gridValue w 0 x3 a0_1), .ref a0]) (kc2 := 0) (ks2 := 0) dX11_search_64 l_X11_283 rfl h1 rfl (by decide) (qX11_gridValue (w := w) (a0 := a0) (x1 := 2) (x2 := x5) h1 h2 h3 (s6 c1) (s7 c1)) (Nat.le_of_ble_eq_true rfl) (by decide) rfl rfl ?_
    refine mW_callV (As := [.int (vX11_gridValue w 0 x3 a0_1), .int (vX11_gridValue w 1 x4 a0_1), .int (vX11_gridValue w 2 x5 a0_1)]) (rest := []) (kc2 := 0) (ks2 := 0) dX11_search_67 l_X11_286 rfl h1 rfl (by decide) (rX11_costWith (w := w) (a0 := a0) (x1 := (vX11_gridValue w 0 x3 a0_1)) (x2 := (vX11_gridValue w 1 x4 a0_1)) (x3 := (vX11_gridValue w 2 x5 a0_1)) h4 (s8 c1)) (Nat.le_of_ble_eq_true rfl) (by decide) rfl rfl mP_x (mP_k (fun w1 q1 => ?_))
    refine mW_lstore (lv2 := [(6, .long (rCW (hai w (a0 + 1)) N (vX11_gridValue w 0 x3 a0_1) (vX11_gridValue w 1 x4 a0_1) (vX11_gridValue w 2 x5 a0_1))), (0, .ref a0), (1, .long y1), (3, .int x3), (4, .int x4), (5, .int x5)]) dX11_search_70 (by decide) rfl ?_
    refine mW_lload_n (j := 2) dX11_search_72 rfl rfl ?_
    refine mW_lconst (v := 0) dX11_search_73 (by decide) ?_
    refine mW_lcmp dX11_search_74 ?_
    refine mW_if_lt (tgt := 88) dX11_search_75 (by decide) (fun c2 => ?_) (fun c2 => ?_)
    · refine mW_lload (j := 0) dX11_search_88 rfl ?_
      refine mW_lstore_n (lv2 := [(1, .long (rCW (hai w (a0 + 1)) N (vX11_gridValue w 0 x3 a0_1) (vX11_gridValue w 1 x4 a0_1) (vX11_gridValue w 2 x5 a0_1))), (6, .long (rCW (hai w (a0 + 1)) N (vX11_gridValue w 0 x3 a0_1) (vX11_gridValue w 1 x4 a0_1) (vX11_gridValue w 2 x5 a0_1))), (0, .ref a0), (3, .int x3), (4, .int x4), (5, .int x5)]) dX11_search_90 rfl (by decide) rfl ?_
      refine mW_aload_n (j := 2) dX11_search_91 rfl rfl ?_
      refine mW_getR dX11_search_92 f_X11_80 (s2k (mS2.of q1.1) h1) rfl (s2r (mS2.of q1.1) h5) ?_
      refine mW_iconst (v := 0) dX11_search_95 (by decide) ?_
      refine mW_aload_n (j := 2) dX11_search_96 rfl rfl ?_
      refine mW_iconst (v := 0) dX11_search_97 (by decide) ?_
      refine mW_iload_n (j := 3) dX11_search_98 rfl rfl ?_
      refine mW_callVe (As := [.int 0, .int x3]) (rest := [.int 0, .ref a0_35]) (kc2 := 0) (ks2 := 0) dX11_search_99 l_X11_283 rfl (s2k (mS2.of q1.1) h1) rfl (by decide) (qX11_gridValue (w := w1) (a0 := a0) (x1 := 0) (x2 := x3) (s2k (mS2.of q1.1) h1) (s2r (mS2.of q1.1) h2) (s2k (mS2.of q1.1) h3) (s2 c1) (s3 c1)) (Nat.le_of_ble_eq_true rfl) (by decide) rfl rfl ?_
      refine mW_iastJ dX11_search_102 (s2k (mS2.of q1.1) h6) s9 (j := 0) (by decide) ?_
      refine mW_nm (fun w2 e1 => ?_)
      refine mW_aload_n (j := 2) dX11_search_103 rfl rfl ?_
      refine mW_getR dX11_search_104 f_X11_80 (s2k (S2_sai e1) (s2k (mS2.of q1.1) h1)) rfl (s2r (S2_sai e1) (s2r (mS2.of q1.1) h5)) ?_
      refine mW_iconst (v := 1) dX11_search_107 (by decide) ?_
      refine mW_aload_n (j := 2) dX11_search_108 rfl rfl ?_
      refine mW_iconst (v := 1) dX11_search_109 (by decide) ?_
      refine mW_iload (j := 4) dX11_search_110 rfl ?_
      refine mW_callVe (As := [.int 1, .int x4]) (rest := [.int 1, .ref a0_35]) (kc2 := 0) (ks2 := 0) dX11_search_112 l_X11_283 rfl (s2k (S2_sai e1) (s2k (mS2.of q1.1) h1)) rfl (by decide) (qX11_gridValue (w := w2) (a0 := a0) (x1 := 1) (x2 := x4) (s2k (S2_sai e1) (s2k (mS2.of q1.1) h1)) (s2r (S2_sai e1) (s2r (mS2.of q1.1) h2)) (s2k (S2_sai e1) (s2k (mS2.of q1.1) h3)) (s4 c1) (s5 c1)) (Nat.le_of_ble_eq_true rfl) (by decide) rfl rfl ?_
      refine mW_iastJ dX11_search_115 (s2k (S2_sai e1) (s2k (mS2.of q1.1) h6)) s10 (j := 1) (by decide) ?_
      refine mW_nm (fun w3 e2 => ?_)
      refine mW_aload_n (j := 2) dX11_search_116 rfl rfl ?_
      refine mW_getR dX11_search_117 f_X11_80 (s2k (S2_sai e2) (s2k (S2_sai e1) (s2k (mS2.of q1.1) h1))) rfl (s2r (S2_sai e2) (s2r (S2_sai e1) (s2r (mS2.of q1.1) h5))) ?_
      refine mW_iconst (v := 2) dX11_search_120 (by decide) ?_
      refine mW_aload_n (j := 2) dX11_search_121 rfl rfl ?_
      refine mW_iconst (v := 2) dX11_search_122 (by decide) ?_
      refine mW_iload (j := 5) dX11_search_123 rfl ?_
      refine mW_callVe (As := [.int 2, .int x5]) (rest := [.int 2, .ref a0_35]) (kc2 := 0) (ks2 := 0) dX11_search_125 l_X11_283 rfl (s2k (S2_sai e2) (s2k (S2_sai e1) (s2k (mS2.of q1.1) h1))) rfl (by decide) (qX11_gridValue (w := w3) (a0 := a0) (x1 := 2) (x2 := x5) (s2k (S2_sai e2) (s2k (S2_sai e1) (s2k (mS2.of q1.1) h1))) (s2r (S2_sai e2) (s2r (S2_sai e1) (s2r (mS2.of q1.1) h2))) (s2k (S2_sai e2) (s2k (S2_sai e1) (s2k (mS2.of q1.1) h3))) (s6 c1) (s7 c1)) (Nat.le_of_ble_eq_true rfl) (by decide) rfl rfl ?_
      refine mW_iastJ dX11_search_128 (s2k (S2_sai e2) (s2k (S2_sai e1) (s2k (mS2.of q1.1) h6))) s11 (j := 2) (by decide) ?_
      refine mW_nm (fun w4 e3 => ?_)
      refine mW_iinc (j := 5) (v := x5 + 1) (lv2 := [(5, .int (x5 + 1)), (1, .long (rCW (hai w (a0 + 1)) N (vX11_gridValue w 0 x3 a0_1) (vX11_gridValue w 1 x4 a0_1) (vX11_gridValue w 2 x5 a0_1))), (6, .long (rCW (hai w (a0 + 1)) N (vX11_gridValue w 0 x3 a0_1) (vX11_gridValue w 1 x4 a0_1) (vX11_gridValue w 2 x5 a0_1))), (0, .ref a0), (3, .int x3), (4, .int x4)]) dX11_search_129 rfl rfl (by decide) rfl ?_
      refine mW_goto (tgt := 36) dX11_search_132 (by decide) ?_
      refine mW_loc [3, 1, 4, 5, 0] (lv2 := [(0, .ref a0), (1, .long (rCW (hai w (a0 + 1)) N (vX11_gridValue w 0 x3 a0_1) (vX11_gridValue w 1 x4 a0_1) (vX11_gridValue w 2 x5 a0_1))), (3, .int x3), (4, .int x4), (5, .int (x5 + 1))]) rfl ?_
      exact k2 c1 w1 q1 c2 w2 e1 w3 e2 w4 e3
    · refine mW_lload (j := 0) dX11_search_78 rfl ?_
      refine mW_lload_n (j := 2) dX11_search_80 rfl rfl ?_
      refine mW_lcmp dX11_search_81 ?_
      refine mW_if_lt (tgt := 88) dX11_search_82 (by decide) (fun c3 => ?_) (fun c3 => ?_)
      · refine mW_lload (j := 0) dX11_search_88 rfl ?_
        refine mW_lstore_n (lv2 := [(1, .long (rCW (hai w (a0 + 1)) N (vX11_gridValue w 0 x3 a0_1) (vX11_gridValue w 1 x4 a0_1) (vX11_gridValue w 2 x5 a0_1))), (6, .long (rCW (hai w (a0 + 1)) N (vX11_gridValue w 0 x3 a0_1) (vX11_gridValue w 1 x4 a0_1) (vX11_gridValue w 2 x5 a0_1))), (0, .ref a0), (3, .int x3), (4, .int x4), (5, .int x5)]) dX11_search_90 rfl (by decide) rfl ?_
        refine mW_aload_n (j := 2) dX11_search_91 rfl rfl ?_
        refine mW_getR dX11_search_92 f_X11_80 (s2k (mS2.of q1.1) h1) rfl (s2r (mS2.of q1.1) h5) ?_
        refine mW_iconst (v := 0) dX11_search_95 (by decide) ?_
        refine mW_aload_n (j := 2) dX11_search_96 rfl rfl ?_
        refine mW_iconst (v := 0) dX11_search_97 (by decide) ?_
        refine mW_iload_n (j := 3) dX11_search_98 rfl rfl ?_
        refine mW_callVe (As := [.int 0, .int x3]) (rest := [.int 0, .ref a0_35]) (kc2 := 0) (ks2 := 0) dX11_search_99 l_X11_283 rfl (s2k (mS2.of q1.1) h1) rfl (by decide) (qX11_gridValue (w := w1) (a0 := a0) (x1 := 0) (x2 := x3) (s2k (mS2.of q1.1) h1) (s2r (mS2.of q1.1) h2) (s2k (mS2.of q1.1) h3) (s2 c1) (s3 c1)) (Nat.le_of_ble_eq_true rfl) (by decide) rfl rfl ?_
        refine mW_iastJ dX11_search_102 (s2k (mS2.of q1.1) h6) s12 (j := 0) (by decide) ?_
        refine mW_nm (fun w5 e4 => ?_)
        refine mW_aload_n (j := 2) dX11_search_103 rfl rfl ?_
        refine mW_getR dX11_search_104 f_X11_80 (s2k (S2_sai e4) (s2k (mS2.of q1.1) h1)) rfl (s2r (S2_sai e4) (s2r (mS2.of q1.1) h5)) ?_
        refine mW_iconst (v := 1) dX11_search_107 (by decide) ?_
        refine mW_aload_n (j := 2) dX11_search_108 rfl rfl ?_
        refine mW_iconst (v := 1) dX11_search_109 (by decide) ?_
        refine mW_iload (j := 4) dX11_search_110 rfl ?_
        refine mW_callVe (As := [.int 1, .int x4]) (rest := [.int 1, .ref a0_35]) (kc2 := 0) (ks2 := 0) dX11_search_112 l_X11_283 rfl (s2k (S2_sai e4) (s2k (mS2.of q1.1) h1)) rfl (by decide) (qX11_gridValue (w := w5) (a0 := a0) (x1 := 1) (x2 := x4) (s2k (S2_sai e4) (s2k (mS2.of q1.1) h1)) (s2r (S2_sai e4) (s2r (mS2.of q1.1) h2)) (s2k (S2_sai e4) (s2k (mS2.of q1.1) h3)) (s4 c1) (s5 c1)) (Nat.le_of_ble_eq_true rfl) (by decide) rfl rfl ?_
        refine mW_iastJ dX11_search_115 (s2k (S2_sai e4) (s2k (mS2.of q1.1) h6)) s13 (j := 1) (by decide) ?_
        refine mW_nm (fun w6 e5 => ?_)
        refine mW_aload_n (j := 2) dX11_search_116 rfl rfl ?_
        refine mW_getR dX11_search_117 f_X11_80 (s2k (S2_sai e5) (s2k (S2_sai e4) (s2k (mS2.of q1.1) h1))) rfl (s2r (S2_sai e5) (s2r (S2_sai e4) (s2r (mS2.of q1.1) h5))) ?_
        refine mW_iconst (v := 2) dX11_search_120 (by decide) ?_
        refine mW_aload_n (j := 2) dX11_search_121 rfl rfl ?_
        refine mW_iconst (v := 2) dX11_search_122 (by decide) ?_
        refine mW_iload (j := 5) dX11_search_123 rfl ?_
        refine mW_callVe (As := [.int 2, .int x5]) (rest := [.int 2, .ref a0_35]) (kc2 := 0) (ks2 := 0) dX11_search_125 l_X11_283 rfl (s2k (S2_sai e5) (s2k (S2_sai e4) (s2k (mS2.of q1.1) h1))) rfl (by decide) (qX11_gridValue (w := w6) (a0 := a0) (x1 := 2) (x2 := x5) (s2k (S2_sai e5) (s2k (S2_sai e4) (s2k (mS2.of q1.1) h1))) (s2r (S2_sai e5) (s2r (S2_sai e4) (s2r (mS2.of q1.1) h2))) (s2k (S2_sai e5) (s2k (S2_sai e4) (s2k (mS2.of q1.1) h3))) (s6 c1) (s7 c1)) (Nat.le_of_ble_eq_true rfl) (by decide) rfl rfl ?_
        refine mW_iastJ dX11_search_128 (s2k (S2_sai e5) (s2k (S2_sai e4) (s2k (mS2.of q1.1) h6))) s14 (j := 2) (by decide) ?_
        refine mW_nm (fun w7 e6 => ?_)
        refine mW_iinc (j := 5) (v := x5 + 1) (lv2 := [(5, .int (x5 + 1)), (1, .long (rCW (hai w (a0 + 1)) N (vX11_gridValue w 0 x3 a0_1) (vX11_gridValue w 1 x4 a0_1) (vX11_gridValue w 2 x5 a0_1))), (6, .long (rCW (hai w (a0 + 1)) N (vX11_gridValue w 0 x3 a0_1) (vX11_gridValue w 1 x4 a0_1) (vX11_gridValue w 2 x5 a0_1))), (0, .ref a0), (3, .int x3), (4, .int x4)]) dX11_search_129 rfl rfl (by decide) rfl ?_
        refine mW_goto (tgt := 36) dX11_search_132 (by decide) ?_
        refine mW_loc [3, 1, 4, 5, 0] (lv2 := [(0, .ref a0), (1, .long (rCW (hai w (a0 + 1)) N (vX11_gridValue w 0 x3 a0_1) (vX11_gridValue w 1 x4 a0_1) (vX11_gridValue w 2 x5 a0_1))), (3, .int x3), (4, .int x4), (5, .int (x5 + 1))]) rfl ?_
        exact k3 c1 w1 q1 c2 c3 w5 e4 w6 e5 w7 e6
      · refine mW_goto (tgt := 129) dX11_search_85 (by decide) ?_
        refine mW_iinc (j := 5) (v := x5 + 1) (lv2 := [(5, .int (x5 + 1)), (6, .long (rCW (hai w (a0 + 1)) N (vX11_gridValue w 0 x3 a0_1) (vX11_gridValue w 1 x4 a0_1) (vX11_gridValue w 2 x5 a0_1))), (0, .ref a0), (1, .long y1), (3, .int x3), (4, .int x4)]) dX11_search_129 rfl rfl (by decide) rfl ?_
        refine mW_goto (tgt := 36) dX11_search_132 (by decide) ?_
        refine mW_loc [2, 3, 4, 5, 0] (lv2 := [(0, .ref a0), (1, .long y1), (3, .int x3), (4, .int x4), (5, .int (x5 + 1))]) rfl ?_
        exact k4 c1 w1 q1 c2 c3
/-! the reference: search -/
def oOne (A : Nat → Int32) (m : Nat) (R : Nat → Int32) : Prop := R 0 = gVal A 0 (m / cG A 2 / cG A 1) ∧ R 1 = gVal A 1 (m / cG A 2 % cG A 1) ∧ R 2 = gVal A 2 (m % cG A 2)
def lst (q : Nat → Int64) (m : Nat) : Int64 := if m = 0 then -1 else q (fBest q m)
theorem lst_s {q : Nat → Int64} {m : Nat} (hq : ∀ j, j ≤ m → 0 ≤ q j) : lst q (m + 1) = if lst q m < 0 then q m else if q m < lst q m then q m else lst q m := by
  unfold lst
  rw [if_neg (Nat.succ_ne_zero m), fBest]
  by_cases h0 : m = 0
  · subst h0
    rw [if_pos rfl, if_pos rfl, if_pos (by decide)]
  · have hb : fBest q m < m := fBest_lt q m (by omega)
    rw [if_neg h0, if_neg h0, if_neg (Int64.not_lt.mpr (hq _ (by omega)))]
    by_cases h : q m < q (fBest q m)
    · rw [if_pos h, if_pos h]
    · rw [if_neg h, if_neg h]
theorem se_3 {G : mG} {w : mH} {a0 N i j k : Nat} {y1 : Int64} {A : Nat → Int32} {Φ : mF} (z : zRef w a0) (hA : hai w (a0 + 1) = A) (ok : rOK (hai w (a0 + 1)) N) (og : gOK A) (hi : i < cG A 0) (hj : j < cG A 1) (hk : k < cG A 2)
    (K1 : y1 < 0 ∨ qR A N (fl A i j k) < y1 → ∀ w', xF [22, 24] [8, 9, 10, 11, 12, 13, 14, 21] a0 w w' → hai w' (a0 + 21) 0 = gVal A 0 i → hai w' (a0 + 21) 1 = gVal A 1 j → hai w' (a0 + 21) 2 = gVal A 2 k → mW G mX11_search 8 0 0 36 [(0, .ref a0), (1, .long (qR A N (fl A i j k))), (3, .int (nI i)), (4, .int (nI j)), (5, .int (nI (k + 1)))] [] w' Φ)
    (K2 : ¬ y1 < 0 → ¬ qR A N (fl A i j k) < y1 → ∀ w', xF [22, 24] [8, 9, 10, 11, 12, 13, 14, 21] a0 w w' → hai w' (a0 + 21) = hai w (a0 + 21) → mW G mX11_search 8 0 0 36 [(0, .ref a0), (1, .long y1), (3, .int (nI i)), (4, .int (nI j)), (5, .int (nI (k + 1)))] [] w' Φ) : mW G mX11_search 8 0 0 36 [(0, .ref a0), (1, .long y1), (3, .int (nI i)), (4, .int (nI j)), (5, .int (nI k))] [] w Φ := by
  have o2 := (og 2 (by decide)).2.2
  have q2 := gC_le og (g := 2) (x := k) (by decide) (by omega)
  refine gX11_search_36 (N := N) (a0_1 := a0 + 1) (a0_35 := a0 + 21) z.1 z.2.1 z.2.2.2.2.2.2.2.2.2.2.2.2.2.2.2.2.2.2.2.2.2.2.1 (by unfold vp_in; decide) (by intro c1; unfold vp_in; decide) (by intro c1; unfold vp_in; decide) (by intro c1; unfold vp_in; decide) (by intro c1; unfold vp_in; decide) (by intro c1; unfold vp_in; decide) (by intro c1; unfold vp_in; decide) z (by intro c1; exact ok) z.2.2.2.2.2.2.2.2.2.2.2.2.2.2.2.2.2.2.2.2.2.1 z.2.2.2.2.2.2.2.2.2.2.2.2.2.2.2.2.2.2.2.2.2.2.2.2.2.2.2.2.2.2.2.2.2.2.2.2.2.2.2.2.2.2 (by intros; unfold vp_in; decide) (by intros; unfold vp_in; decide) (by intros; unfold vp_in; decide) (by intros; unfold vp_in; decide) (by intros; unfold vp_in; decide) (by intros; unfold vp_in; decide) ?_ ?_ ?_ ?_
  · intro c1
    rw [gC_2, hA] at c1
    exact absurd (q2.mp c1) (by omega)
  · intro c1 w1 q1 c2 w2 e1 w3 e2 w4 e3
    rw [lg_cmp_lt] at c2
    have A1 : hai w1 (a0 + 1) = A := (q1.ai (by decide)).trans hA
    have A2 : hai w2 (a0 + 1) = A := by rw [e1, e_hai_sai, up2_a _ _ _ (by omega)]; exact A1
    have A3 : hai w3 (a0 + 1) = A := by rw [e2, e_hai_sai, up2_a _ _ _ (by omega)]; exact A2
    rw [gW_0 A1] at e1
    rw [gW_1 A2] at e2
    rw [gW_2 A3] at e3
    rw [nI_1, gW_0 hA, gW_1 hA, gW_2 hA, hA, ← qR_fl hj hk]
    refine K1 (Or.inl c2) w4 (by rw [e3, e2, e1]; exact xF_sai (xF_sai (xF_sai (q1.wide (by decide) (by decide)) (by decide)) (by decide)) (by decide)) ?_ ?_ ?_
    · rw [e3, e_hai_sai, up2_k _ _ _ (by decide), e2, e_hai_sai, up2_k _ _ _ (by decide), e1, e_hai_sai, up2_at]
    · rw [e3, e_hai_sai, up2_k _ _ _ (by decide), e2, e_hai_sai, up2_at]
    · rw [e3, e_hai_sai, up2_at]
  · intro c1 w1 q1 c2 c3 w5 e4 w6 e5 w7 e6
    rw [lg_cmp_lt] at c2
    rw [gW_0 hA, gW_1 hA, gW_2 hA, hA, ← qR_fl hj hk, lg_cmp_lt] at c3
    have A1 : hai w1 (a0 + 1) = A := (q1.ai (by decide)).trans hA
    have A2 : hai w5 (a0 + 1) = A := by rw [e4, e_hai_sai, up2_a _ _ _ (by omega)]; exact A1
    have A3 : hai w6 (a0 + 1) = A := by rw [e5, e_hai_sai, up2_a _ _ _ (by omega)]; exact A2
    rw [gW_0 A1] at e4
    rw [gW_1 A2] at e5
    rw [gW_2 A3] at e6
    rw [nI_1, gW_0 hA, gW_1 hA, gW_2 hA, hA, ← qR_fl hj hk]
    refine K1 (Or.inr c3) w7 (by rw [e6, e5, e4]; exact xF_sai (xF_sai (xF_sai (q1.wide (by decide) (by decide)) (by decide)) (by decide)) (by decide)) ?_ ?_ ?_
    · rw [e6, e_hai_sai, up2_k _ _ _ (by decide), e5, e_hai_sai, up2_k _ _ _ (by decide), e4, e_hai_sai, up2_at]
    · rw [e6, e_hai_sai, up2_k _ _ _ (by decide), e5, e_hai_sai, up2_at]
    · rw [e6, e_hai_sai, up2_at]
  · intro c1 w1 q1 c2 c3
    rw [lg_cmp_lt] at c2
    rw [gW_0 hA, gW_1 hA, gW_2 hA, hA, ← qR_fl hj hk, lg_cmp_lt] at c3
    rw [nI_1]
    exact K2 c2 c3 w1 (q1.wide (by decide) (by decide)) (q1.ai (by decide))

theorem se_3e {G : mG} {w : mH} {a0 i j : Nat} {y1 : Int64} {A : Nat → Int32} {Φ : mF} (z : zRef w a0) (hA : hai w (a0 + 1) = A) (og : gOK A) (K : mW G mX11_search 8 0 0 23 [(0, .ref a0), (1, .long y1), (3, .int (nI i)), (4, .int (nI (j + 1)))] [] w Φ) : mW G mX11_search 8 0 0 36 [(0, .ref a0), (1, .long y1), (3, .int (nI i)), (4, .int (nI j)), (5, .int (nI (cG A 2)))] [] w Φ := by
  have o2 := (og 2 (by decide)).2.2
  have q2 := gC_le og (g := 2) (x := cG A 2) (by decide) (by omega)
  refine gX11_search_36 (N := 0) (a0_1 := a0 + 1) (a0_35 := a0 + 21) z.1 z.2.1 z.2.2.2.2.2.2.2.2.2.2.2.2.2.2.2.2.2.2.2.2.2.2.1 (by unfold vp_in; decide) (by intro c1; unfold vp_in; decide) (by intro c1; unfold vp_in; decide) (by intro c1; unfold vp_in; decide) (by intro c1; unfold vp_in; decide) (by intro c1; unfold vp_in; decide) (by intro c1; unfold vp_in; decide) z (by intro c1; rw [gC_2, hA] at c1; exact absurd (q2.mpr (by omega)) c1) z.2.2.2.2.2.2.2.2.2.2.2.2.2.2.2.2.2.2.2.2.2.1 z.2.2.2.2.2.2.2.2.2.2.2.2.2.2.2.2.2.2.2.2.2.2.2.2.2.2.2.2.2.2.2.2.2.2.2.2.2.2.2.2.2.2 (by intros; unfold vp_in; decide) (by intros; unfold vp_in; decide) (by intros; unfold vp_in; decide) (by intros; unfold vp_in; decide) (by intros; unfold vp_in; decide) (by intros; unfold vp_in; decide) ?_ ?_ ?_ ?_
  · intro c1
    rw [nI_1]
    exact K
  · intro c1 w1 q1 c2 w2 e1 w3 e2 w4 e3
    rw [gC_2, hA] at c1
    exact absurd (q2.mpr (by omega)) c1
  · intro c1 w1 q1 c2 c3 w5 e4 w6 e5 w7 e6
    rw [gC_2, hA] at c1
    exact absurd (q2.mpr (by omega)) c1
  · intro c1 w1 q1 c2 c3
    rw [gC_2, hA] at c1
    exact absurd (q2.mpr (by omega)) c1
theorem se_2 {G : mG} {w : mH} {a0 i j : Nat} {y1 : Int64} {A : Nat → Int32} {Φ : mF} (z : zRef w a0) (hA : hai w (a0 + 1) = A) (og : gOK A) (hj : j ≤ cG A 1)
    (k1 : j = cG A 1 → mW G mX11_search 8 0 0 11 [(0, .ref a0), (1, .long y1), (3, .int (nI (i + 1)))] [] w Φ) (k2 : j < cG A 1 → mW G mX11_search 8 0 0 36 [(0, .ref a0), (1, .long y1), (3, .int (nI i)), (4, .int (nI j)), (5, .int (nI 0))] [] w Φ) : mW G mX11_search 8 0 0 23 [(0, .ref a0), (1, .long y1), (3, .int (nI i)), (4, .int (nI j))] [] w Φ := by
  have o2 := (og 1 (by decide)).2.2
  have q2 := gC_le og (g := 1) (x := j) (by decide) (by omega)
  refine gX11_search_23 (a0_1 := a0 + 1) z.1 z.2.1 z.2.2.2.2.2.2.2.2.2.2.2.2.2.2.2.2.2.2.2.2.2.2.1 (by unfold vp_in; decide) ?_ ?_
  · intro c1
    rw [gC_1, hA] at c1
    have e : j = cG A 1 := by have := q2.mp c1; omega
    rw [nI_1]
    exact k1 e
  · intro c1
    rw [gC_1, hA] at c1
    exact k2 (Nat.lt_of_not_le (fun q => c1 (q2.mpr q)))
theorem tri_eq (w : mH) (b : Nat) : vX11_triples w b = trI (hai w b) := by
  unfold vX11_triples
  rw [gC_0, gC_1, gC_2]
  rfl
def fdR (w w' : mH) (a0 f : Nat) (p i d : Int32) (c : Int64) (n : Int32) : Prop := hai w' (a0 + 17) = upd (hai w (a0 + 17)) f 1 ∧ hai w' (a0 + 18) = upd (upd (upd (hai w (a0 + 18)) (3 * f) p) (3 * f + 1) i) (3 * f + 2) d ∧ (∀ j, hal w' (a0 + 19) j = if j = f then c else hal w (a0 + 19) j) ∧ hai w' (a0 + 20) = upd (hai w (a0 + 20)) f n
theorem fdR_of {w w1 w' : mH} {a0 f : Nat} {p i d n : Int32} {c : Int64} {F P : List Nat} (h : fdO w1 w' a0 f p i d c n) (g : xF F P a0 w w1) (k1 : 17 ∉ P) (k2 : 18 ∉ P) (k3 : 19 ∉ P) (k4 : 20 ∉ P) : fdR w w' a0 f p i d c n := by
  obtain ⟨-, h1, h2, h3, h4⟩ := h
  rw [g.ai k1] at h1
  rw [g.ai k2] at h2
  rw [g.al k3] at h3
  rw [g.ai k4] at h4
  exact ⟨h1, h2, h3, h4⟩
theorem se_1 {G : mG} {w : mH} {a0 N i : Nat} {y1 : Int64} {A : Nat → Int32} {Φ : mF} (z : zRef w a0) (hA : hai w (a0 + 1) = A) (ok : rOK (hai w (a0 + 1)) N) (og' : gOK A) (hi : i ≤ cG A 0)
    (k1 : i = cG A 0 → ∀ w', fdO w w' a0 0 (hai w (a0 + 21) 0) (hai w (a0 + 21) 1) (hai w (a0 + 21) 2) y1 (nI (fGt (qR A N) y1 (gT A))) → Φ (.inl (some (.int (trI A)))) w') (k2 : i < cG A 0 → mW G mX11_search 8 0 0 23 [(0, .ref a0), (1, .long y1), (3, .int (nI i)), (4, .int (nI 0))] [] w Φ) : mW G mX11_search 8 0 0 11 [(0, .ref a0), (1, .long y1), (3, .int (nI i))] [] w Φ := by
  have og : gOK (hai w (a0 + 1)) := by rw [hA]; exact og'
  have o2 := (og' 0 (by decide)).2.2
  have q2 := gC_le og' (g := 0) (x := i) (by decide) (by omega)
  refine gX11_search_11 (N := N) (f := 0) (a0_1 := a0 + 1) (a0_35 := a0 + 21) z.1 z.2.1 z.2.2.2.2.2.2.2.2.2.2.2.2.2.2.2.2.2.2.2.2.2.2.1 (by unfold vp_in; decide) z.2.2.2.2.2.2.2.2.2.2.2.2.2.2.2.2.2.2.2.2.2.1 z.2.2.2.2.2.2.2.2.2.2.2.2.2.2.2.2.2.2.2.2.2.2.2.2.2.2.2.2.2.2.2.2.2.2.2.2.2.2.2.2.2.2 (by intros; unfold vp_in; decide) (by intros; unfold vp_in; decide) (by intros; unfold vp_in; decide) z (by intro c1; exact ok) (by intro c1; exact og) (by intro c1; rfl) (by intro c1; decide) (by intro c1 w1 q1; unfold vp_in; decide) (by intro c1 w1 q1; unfold vp_in; decide) ?_ ?_
  · intro c1 w1 q1
    rw [gC_0, hA] at c1
    have e : i = cG A 0 := by have := q2.mp c1; omega
    rw [hA] at q1
    rw [tri_eq, q1.1.ai (by decide), hA]
    exact k1 e w1 q1
  · intro c1
    rw [gC_0, hA] at c1
    exact k2 (Nat.lt_of_not_le (fun q => c1 (q2.mpr q)))
theorem rX11_search {G : mG} {w : mH} {a0 N : Nat} (z : zRef w a0) (ok : rOK (hai w (a0 + 1)) N) (og : gOK (hai w (a0 + 1))) (hq : ∀ m, m < gT (hai w (a0 + 1)) → 0 ≤ qR (hai w (a0 + 1)) N m) : mC G mX11_search 8 0 0 [.ref a0] w (mP (some (.int (trI (hai w (a0 + 1))))) (fun w' => xF [0, 22, 24] [8, 9, 10, 11, 12, 13, 14, 17, 18, 19, 20, 21] a0 w w' ∧ hfi w' a0 0 = 0 ∧ ∀ B, B = fBest (qR (hai w (a0 + 1)) N) (gT (hai w (a0 + 1))) → fdR w w' a0 0 (gVal (hai w (a0 + 1)) 0 (B / cG (hai w (a0 + 1)) 2 / cG (hai w (a0 + 1)) 1)) (gVal (hai w (a0 + 1)) 1 (B / cG (hai w (a0 + 1)) 2 % cG (hai w (a0 + 1)) 1)) (gVal (hai w (a0 + 1)) 2 (B % cG (hai w (a0 + 1)) 2)) (qR (hai w (a0 + 1)) N B) (nI (fGt (qR (hai w (a0 + 1)) N) (qR (hai w (a0 + 1)) N B) (gT (hai w (a0 + 1))))))) := by
  have F0 : xF [0, 22, 24] [8, 9, 10, 11, 12, 13, 14, 17, 18, 19, 20, 21] a0 w (sfi w a0 0 0) := xF_sfi xF.rf (by decide)
  refine mC_of (by decide +kernel) rfl (Nat.le_of_ble_eq_true rfl) rfl ?_
  refine gX11_search_0 z.1 ?_
  intro w5 e5
  have hA : hai w5 (a0 + 1) = hai w (a0 + 1) := by rw [e5]; rfl
  have z5 : zRef w5 a0 := by rw [e5]; exact z
  have g0 : hfi w5 a0 0 = 0 := by rw [e5, e_hfi_sfi, up2_at]
  rw [← e5] at F0
  have F5 : xF [0] [] a0 w w5 := by rw [e5]; exact xF_sfi xF.rf (by decide)
  generalize hAA : hai w (a0 + 1) = A at *
  have c1 := (og 0 (by decide)).2.1
  have c2 := (og 1 (by decide)).2.1
  have c3 := (og 2 (by decide)).2.1
  have hg : 0 < gT A := Nat.mul_pos (Nat.mul_pos (by omega) (by omega)) (by omega)
  have L := fl_ind (A := A)
    (P0 := fun m i => m ≤ gT A → ∀ w', xF [22, 24] [8, 9, 10, 11, 12, 13, 14, 21] a0 w5 w' → (0 < m → oOne A (fBest (qR A N) m) (hai w' (a0 + 21))) → mW G mX11_search 8 0 0 11 [(0, .ref a0), (1, .long (lst (qR A N) m)), (3, .int (nI i))] [] w' (mP (some (.int (trI A))) (fun w' => xF [0, 22, 24] [8, 9, 10, 11, 12, 13, 14, 17, 18, 19, 20, 21] a0 w w' ∧ hfi w' a0 0 = 0 ∧ ∀ B, B = fBest (qR A N) (gT A) → fdR w w' a0 0 (gVal A 0 (B / cG A 2 / cG A 1)) (gVal A 1 (B / cG A 2 % cG A 1)) (gVal A 2 (B % cG A 2)) (qR A N B) (nI (fGt (qR A N) (qR A N B) (gT A))))))
    (P1 := fun m i j => m ≤ gT A → ∀ w', xF [22, 24] [8, 9, 10, 11, 12, 13, 14, 21] a0 w5 w' → (0 < m → oOne A (fBest (qR A N) m) (hai w' (a0 + 21))) → mW G mX11_search 8 0 0 23 [(0, .ref a0), (1, .long (lst (qR A N) m)), (3, .int (nI i)), (4, .int (nI j))] [] w' (mP (some (.int (trI A))) (fun w' => xF [0, 22, 24] [8, 9, 10, 11, 12, 13, 14, 17, 18, 19, 20, 21] a0 w w' ∧ hfi w' a0 0 = 0 ∧ ∀ B, B = fBest (qR A N) (gT A) → fdR w w' a0 0 (gVal A 0 (B / cG A 2 / cG A 1)) (gVal A 1 (B / cG A 2 % cG A 1)) (gVal A 2 (B % cG A 2)) (qR A N B) (nI (fGt (qR A N) (qR A N B) (gT A))))))
    (P2 := fun m i j k => m ≤ gT A → ∀ w', xF [22, 24] [8, 9, 10, 11, 12, 13, 14, 21] a0 w5 w' → (0 < m → oOne A (fBest (qR A N) m) (hai w' (a0 + 21))) → mW G mX11_search 8 0 0 36 [(0, .ref a0), (1, .long (lst (qR A N) m)), (3, .int (nI i)), (4, .int (nI j)), (5, .int (nI k))] [] w' (mP (some (.int (trI A))) (fun w' => xF [0, 22, 24] [8, 9, 10, 11, 12, 13, 14, 17, 18, 19, 20, 21] a0 w w' ∧ hfi w' a0 0 = 0 ∧ ∀ B, B = fBest (qR A N) (gT A) → fdR w w' a0 0 (gVal A 0 (B / cG A 2 / cG A 1)) (gVal A 1 (B / cG A 2 % cG A 1)) (gVal A 2 (B % cG A 2)) (qR A N B) (nI (fGt (qR A N) (qR A N B) (gT A))))))
    (fun _ w' F O => se_1 (zRef_s2 (mS2.of F.1) z5) ((F.ai (by decide)).trans hA) (by rw [F.ai (by decide), hA]; exact ok) og (Nat.le_refl _) (fun _ w6 D => mP_of (by
      have O' := O hg
      obtain ⟨o1, o2, o3⟩ := O'
      rw [o1, o2, o3, show lst (qR A N) (gT A) = qR A N (fBest (qR A N) (gT A)) from if_neg (by omega)] at D
      refine ⟨(F0.tr (F.wide (by decide) (by decide))).tr (D.1.wide (by decide) (by decide)), ?_, fun B hB => ?_⟩
      · rw [D.1.fi (by decide), F.fi (by decide), g0]
      · subst hB
        exact fdR_of D ((F5.wide (F' := [0, 22, 24]) (P' := [8, 9, 10, 11, 12, 13, 14, 21]) (by decide) (by decide)).tr (F.wide (by decide) (by decide))) (by decide) (by decide) (by decide) (by decide))) (fun q => absurd q (by omega)))
    (fun m i hi h hm w' F O => se_1 (zRef_s2 (mS2.of F.1) z5) ((F.ai (by decide)).trans hA) (by rw [F.ai (by decide), hA]; exact ok) og (Nat.le_of_lt hi) (fun q => absurd q (by omega)) (fun _ => h hm w' F O))
    (fun m i hi h hm w' F O => se_2 (zRef_s2 (mS2.of F.1) z5) ((F.ai (by decide)).trans hA) og (Nat.le_refl _) (fun _ => h hm w' F O) (fun q => absurd q (by omega)))
    (fun m i j hi hj h hm w' F O => se_2 (zRef_s2 (mS2.of F.1) z5) ((F.ai (by decide)).trans hA) og (Nat.le_of_lt hj) (fun q => absurd q (by omega)) (fun _ => h hm w' F O))
    (fun m i j hi hj h hm w' F O => se_3e (zRef_s2 (mS2.of F.1) z5) ((F.ai (by decide)).trans hA) og (h hm w' F O))
    (fun i j k hi hj hk h hm w' F O => by
      have hfl := fl_lt hi hj hk
      have hs := lst_s (q := qR A N) (m := fl A i j k) (fun j hj => hq j (by omega))
      obtain ⟨v1, v2, v3⟩ := fl_inv (i := i) hj hk
      refine se_3 (zRef_s2 (mS2.of F.1) z5) ((F.ai (by decide)).trans hA) (by rw [F.ai (by decide), hA]; exact ok) og hi hj hk (fun or w6 F6 r0 r1 r2 => ?_) (fun n1 n2 w6 F6 r => ?_)
      · have e1 : lst (qR A N) (fl A i j k + 1) = qR A N (fl A i j k) := by
          rw [hs]
          by_cases q : lst (qR A N) (fl A i j k) < 0
          · rw [if_pos q]
          · rw [if_neg q, if_pos (or.resolve_left q)]
        have := h (by omega) w6 (F.tr F6) (fun _ => by
          have e2 : fBest (qR A N) (fl A i j k + 1) = fl A i j k := by
            rw [fBest]
            by_cases q0 : fl A i j k = 0
            · rw [if_pos q0, q0]
            · have hb := fBest_lt (qR A N) (fl A i j k) (by omega)
              have q1 : ¬ lst (qR A N) (fl A i j k) < 0 := by
                unfold lst
                rw [if_neg q0]
                exact Int64.not_lt.mpr (hq _ (by omega))
              have q2 := or.resolve_left q1
              unfold lst at q2
              rw [if_neg q0] at q2
              rw [if_neg q0, if_pos q2]
          rw [e2]
          exact ⟨by rw [v1]; exact r0, by rw [v2]; exact r1, by rw [v3]; exact r2⟩)
        rw [e1] at this
        exact this
      · have q0 : ¬ fl A i j k = 0 := fun q => n1 (by unfold lst; rw [if_pos q]; decide)
        have e1 : lst (qR A N) (fl A i j k + 1) = lst (qR A N) (fl A i j k) := by rw [hs, if_neg n1, if_neg n2]
        have := h (by omega) w6 (F.tr F6) (fun _ => by
          have e2 : fBest (qR A N) (fl A i j k + 1) = fBest (qR A N) (fl A i j k) := by
            unfold lst at n2
            rw [if_neg q0] at n2
            rw [fBest, if_neg q0, if_neg n2]
          rw [e2, r]
          exact O (by omega))
        rw [e1] at this
        exact this)
  exact L (by omega) w5 xF.rf (fun q => absurd q (by omega))

