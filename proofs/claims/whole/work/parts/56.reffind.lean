abbrev mX11_finds : mM := (yX11_finds, cX11_finds, 11, none, [])
set_option maxHeartbeats 4000000 in
set_option maxRecDepth 100000 in
theorem gX11_finds_0 {G : mG} {w : mH} {Φ : mF} {a0 : Nat} {x1 x2 x3 x4 : Int32} {y5 : Int64} {a0_31 n_a0_31 a0_32 n_a0_32 a0_33 n_a0_33 : Nat} (h1 : hk w a0 = (11, 0)) (h2 : hfr w a0 31 = some a0_31) (h3 : hk w a0_31 = (20, n_a0_31)) (s1 : vp_in x1 n_a0_31) (h4 : hfr w a0 32 = some a0_32) (h5 : hk w a0_32 = (16, n_a0_32)) (s2 : ∀ w1 : mH, (w1 = sai w a0_31 x1.toNatClampNeg (vp_nar .boolean 1)) → vp_in (3 * x1) n_a0_32) (s3 : ∀ w1 : mH, (w1 = sai w a0_31 x1.toNatClampNeg (vp_nar .boolean 1)) → ∀ w2 : mH, (w2 = sai w1 a0_32 ((3 * x1).toNatClampNeg) x2) → vp_in ((3 * x1) + 1) n_a0_32) (s4 : ∀ w1 : mH, (w1 = sai w a0_31 x1.toNatClampNeg (vp_nar .boolean 1)) → ∀ w2 : mH, (w2 = sai w1 a0_32 ((3 * x1).toNatClampNeg) x2) → ∀ w3 : mH, (w3 = sai w2 a0_32 (((3 * x1) + 1).toNatClampNeg) x3) → vp_in ((3 * x1) + 2) n_a0_32) (h6 : hfr w a0 33 = some a0_33) (h7 : hk w a0_33 = (17, n_a0_33)) (s5 : ∀ w1 : mH, (w1 = sai w a0_31 x1.toNatClampNeg (vp_nar .boolean 1)) → ∀ w2 : mH, (w2 = sai w1 a0_32 ((3 * x1).toNatClampNeg) x2) → ∀ w3 : mH, (w3 = sai w2 a0_32 (((3 * x1) + 1).toNatClampNeg) x3) → ∀ w4 : mH, (w4 = sai w3 a0_32 (((3 * x1) + 2).toNatClampNeg) x4) → vp_in x1 n_a0_33) (k1 : ∀ w1 : mH, (w1 = sai w a0_31 x1.toNatClampNeg (vp_nar .boolean 1)) → ∀ w2 : mH, (w2 = sai w1 a0_32 ((3 * x1).toNatClampNeg) x2) → ∀ w3 : mH, (w3 = sai w2 a0_32 (((3 * x1) + 1).toNatClampNeg) x3) → ∀ w4 : mH, (w4 = sai w3 a0_32 (((3 * x1) + 2).toNatClampNeg) x4) → ∀ w5 : mH, (w5 = sal w4 a0_33 x1.toNatClampNeg y5) → mW G mX11_finds 7 0 0 53 [(0, .ref a0), (1, .int x1), (2, .int x2), (3, .int x3), (4, .int x4), (5, .long y5), (7, .int 0), (8, .int 0)] [] w5 Φ) : mW G mX11_finds 7 0 0 0 [(0, .ref a0), (1, .int x1), (2, .int x2), (3, .int x3), (4, .int x4), (5, .long y5)] [] w Φ := by
  refine mW_aload_n (j := 0) dX11_finds_0 rfl rfl ?_
  refine mW_getR dX11_finds_1 f_X11_66 h1 rfl h2 ?_
  refine mW_iload_n (j := 1) dX11_finds_4 rfl rfl ?_
  refine mW_iconst (v := 1) dX11_finds_5 (by decide) ?_
  refine mW_zastJ dX11_finds_6 h3 s1 rfl ?_
  refine mW_nm (fun w1 e1 => ?_)
  refine mW_aload_n (j := 0) dX11_finds_7 rfl rfl ?_
  refine mW_getR dX11_finds_8 f_X11_70 (s2k (S2_sai e1) h1) rfl (s2r (S2_sai e1) h4) ?_
  refine mW_iconst (v := 3) dX11_finds_11 (by decide) ?_
  refine mW_iload_n (j := 1) dX11_finds_12 rfl rfl ?_
  refine mW_imul dX11_finds_13 ?_
  refine mW_iload_n (j := 2) dX11_finds_14 rfl rfl ?_
  refine mW_iastJ dX11_finds_15 (s2k (S2_sai e1) h5) (s2 w1 e1) rfl ?_
  refine mW_nm (fun w2 e2 => ?_)
  refine mW_aload_n (j := 0) dX11_finds_16 rfl rfl ?_
  refine mW_getR dX11_finds_17 f_X11_70 (s2k (S2_sai e2) (s2k (S2_sai e1) h1)) rfl (s2r (S2_sai e2) (s2r (S2_sai e1) h4)) ?_
  refine mW_iconst (v := 3) dX11_finds_20 (by decide) ?_
  refine mW_iload_n (j := 1) dX11_finds_21 rfl rfl ?_
  refine mW_imul dX11_finds_22 ?_
  refine mW_iconst (v := 1) dX11_finds_23 (by decide) ?_
  refine mW_iadd dX11_finds_24 ?_
  refine mW_iload_n (j := 3) dX11_finds_25 rfl rfl ?_
  refine mW_iastJ dX11_finds_26 (s2k (S2_sai e2) (s2k (S2_sai e1) h5)) (s3 w1 e1 w2 e2) rfl ?_
  refine mW_nm (fun w3 e3 => ?_)
  refine mW_aload_n (j := 0) dX11_finds_27 rfl rfl ?_
  refine mW_getR dX11_finds_28 f_X11_70 (s2k (S2_sai e3) (s2k (S2_sai e2) (s2k (S2_sai e1) h1))) rfl (s2r (S2_sai e3) (s2r (S2_sai e2) (s2r (S2_sai e1) h4))) ?_
  refine mW_iconst (v := 3) dX11_finds_31 (by decide) ?_
  refine mW_iload_n (j := 1) dX11_finds_32 rfl rfl ?_
  refine mW_imul dX11_finds_33 ?_
  refine mW_iconst (v := 2) dX11_finds_34 (by decide) ?_
  refine mW_iadd dX11_finds_35 ?_
  refine mW_iload (j := 4) dX11_finds_36 rfl ?_
  refine mW_iastJ dX11_finds_38 (s2k (S2_sai e3) (s2k (S2_sai e2) (s2k (S2_sai e1) h5))) (s4 w1 e1 w2 e2 w3 e3) rfl ?_
  refine mW_nm (fun w4 e4 => ?_)
  refine mW_aload_n (j := 0) dX11_finds_39 rfl rfl ?_
  refine mW_getR dX11_finds_40 f_X11_73 (s2k (S2_sai e4) (s2k (S2_sai e3) (s2k (S2_sai e2) (s2k (S2_sai e1) h1)))) rfl (s2r (S2_sai e4) (s2r (S2_sai e3) (s2r (S2_sai e2) (s2r (S2_sai e1) h6)))) ?_
  refine mW_iload_n (j := 1) dX11_finds_43 rfl rfl ?_
  refine mW_lload (j := 5) dX11_finds_44 rfl ?_
  refine mW_lastJ dX11_finds_46 (s2k (S2_sai e4) (s2k (S2_sai e3) (s2k (S2_sai e2) (s2k (S2_sai e1) h7)))) (s5 w1 e1 w2 e2 w3 e3 w4 e4) rfl ?_
  refine mW_nm (fun w5 e5 => ?_)
  refine mW_iconst (v := 0) dX11_finds_47 (by decide) ?_
  refine mW_istore (lv2 := [(7, .int 0), (0, .ref a0), (1, .int x1), (2, .int x2), (3, .int x3), (4, .int x4), (5, .long y5)]) dX11_finds_48 (by decide) rfl ?_
  refine mW_iconst (v := 0) dX11_finds_50 (by decide) ?_
  refine mW_istore (lv2 := [(8, .int 0), (7, .int 0), (0, .ref a0), (1, .int x1), (2, .int x2), (3, .int x3), (4, .int x4), (5, .long y5)]) dX11_finds_51 (by decide) rfl ?_
  refine mW_loc [2, 3, 4, 5, 6, 7, 1, 0] (lv2 := [(0, .ref a0), (1, .int x1), (2, .int x2), (3, .int x3), (4, .int x4), (5, .long y5), (7, .int 0), (8, .int 0)]) rfl ?_
  exact k1 w1 e1 w2 e2 w3 e3 w4 e4 w5 e5
set_option maxHeartbeats 4000000 in
set_option maxRecDepth 100000 in
theorem gX11_finds_53 {G : mG} {w : mH} {Φ : mF} {a0 : Nat} {x1 x2 x3 x4 : Int32} {y5 : Int64} {x7 x8 : Int32} {a0_1 n_a0_1 a0_34 n_a0_34 : Nat} (h1 : hk w a0 = (11, 0)) (h2 : hfr w a0 1 = some a0_1) (h3 : hk w a0_1 = (16, n_a0_1)) (s1 : vp_in ((20 + (3 * 0)) + 2) n_a0_1) (h4 : hfr w a0 34 = some a0_34) (h5 : hk w a0_34 = (16, n_a0_34)) (s2 : ((vX11_gridCount w 0 a0_1) ≤ x8) → vp_in x1 n_a0_34) (k1 : ((vX11_gridCount w 0 a0_1) ≤ x8) → ∀ w1 : mH, (w1 = sai w a0_34 x1.toNatClampNeg x7) → Φ (.inl none) w1) (k2 : (¬ ((vX11_gridCount w 0 a0_1) ≤ x8)) → mW G mX11_finds 7 0 0 66 [(0, .ref a0), (1, .int x1), (2, .int x2), (3, .int x3), (4, .int x4), (5, .long y5), (7, .int x7), (8, .int x8), (9, .int 0)] [] w Φ) : mW G mX11_finds 7 0 0 53 [(0, .ref a0), (1, .int x1), (2, .int x2), (3, .int x3), (4, .int x4), (5, .long y5), (7, .int x7), (8, .int x8)] [] w Φ := by
  refine mW_iload (j := 7) dX11_finds_53 rfl ?_
  refine mW_aload_n (j := 0) dX11_finds_55 rfl rfl ?_
  refine mW_iconst (v := 0) dX11_finds_56 (by decide) ?_
  refine mW_callVe (As := [.int 0]) (rest := [.int x8]) (kc2 := 0) (ks2 := 0) dX11_finds_57 l_X11_128 rfl h1 rfl (by decide) (qX11_gridCount (w := w) (a0 := a0) (x1 := 0) h1 h2 h3 s1) (Nat.le_of_ble_eq_true rfl) (by decide) rfl rfl ?_
  refine mW_icmp_ge (tgt := 148) dX11_finds_60 (by decide) (fun c1 => ?_) (fun c1 => ?_)
  · refine mW_aload_n (j := 0) dX11_finds_148 rfl rfl ?_
    refine mW_getR dX11_finds_149 f_X11_77 h1 rfl h4 ?_
    refine mW_iload_n (j := 1) dX11_finds_152 rfl rfl ?_
    refine mW_iload (j := 6) dX11_finds_153 rfl ?_
    refine mW_iastJ dX11_finds_155 h5 (s2 c1) rfl ?_
    refine mW_nm (fun w1 e1 => ?_)
    exact mW_vret dX11_finds_156 rfl (k1 c1 w1 e1)
  · refine mW_iconst (v := 0) dX11_finds_63 (by decide) ?_
    refine mW_istore (lv2 := [(9, .int 0), (0, .ref a0), (1, .int x1), (2, .int x2), (3, .int x3), (4, .int x4), (5, .long y5), (7, .int x7), (8, .int x8)]) dX11_finds_64 (by decide) rfl ?_
    refine mW_loc [1, 2, 3, 4, 5, 6, 7, 8, 0] (lv2 := [(0, .ref a0), (1, .int x1), (2, .int x2), (3, .int x3), (4, .int x4), (5, .long y5), (7, .int x7), (8, .int x8), (9, .int 0)]) rfl ?_
    exact k2 c1
set_option maxHeartbeats 4000000 in
set_option maxRecDepth 100000 in
theorem gX11_finds_66 {G : mG} {w : mH} {Φ : mF} {a0 : Nat} {x1 x2 x3 x4 : Int32} {y5 : Int64} {x7 x8 x9 : Int32} {a0_1 n_a0_1 : Nat} (h1 : hk w a0 = (11, 0)) (h2 : hfr w a0 1 = some a0_1) (h3 : hk w a0_1 = (16, n_a0_1)) (s1 : vp_in ((20 + (3 * 1)) + 2) n_a0_1) (k1 : ((vX11_gridCount w 1 a0_1) ≤ x9) → mW G mX11_finds 7 0 0 53 [(0, .ref a0), (1, .int x1), (2, .int x2), (3, .int x3), (4, .int x4), (5, .long y5), (7, .int x7), (8, .int (x8 + 1))] [] w Φ) (k2 : (¬ ((vX11_gridCount w 1 a0_1) ≤ x9)) → mW G mX11_finds 7 0 0 79 [(0, .ref a0), (1, .int x1), (2, .int x2), (3, .int x3), (4, .int x4), (5, .long y5), (7, .int x7), (8, .int x8), (9, .int x9), (10, .int 0)] [] w Φ) : mW G mX11_finds 7 0 0 66 [(0, .ref a0), (1, .int x1), (2, .int x2), (3, .int x3), (4, .int x4), (5, .long y5), (7, .int x7), (8, .int x8), (9, .int x9)] [] w Φ := by
  refine mW_iload (j := 8) dX11_finds_66 rfl ?_
  refine mW_aload_n (j := 0) dX11_finds_68 rfl rfl ?_
  refine mW_iconst (v := 1) dX11_finds_69 (by decide) ?_
  refine mW_callVe (As := [.int 1]) (rest := [.int x9]) (kc2 := 0) (ks2 := 0) dX11_finds_70 l_X11_128 rfl h1 rfl (by decide) (qX11_gridCount (w := w) (a0 := a0) (x1 := 1) h1 h2 h3 s1) (Nat.le_of_ble_eq_true rfl) (by decide) rfl rfl ?_
  refine mW_icmp_ge (tgt := 142) dX11_finds_73 (by decide) (fun c1 => ?_) (fun c1 => ?_)
  · refine mW_iinc (j := 7) (v := x8 + 1) (lv2 := [(8, .int (x8 + 1)), (0, .ref a0), (1, .int x1), (2, .int x2), (3, .int x3), (4, .int x4), (5, .long y5), (7, .int x7), (9, .int x9)]) dX11_finds_142 rfl rfl (by decide) rfl ?_
    refine mW_goto (tgt := 53) dX11_finds_145 (by decide) ?_
    refine mW_loc [1, 2, 3, 4, 5, 6, 7, 0] (lv2 := [(0, .ref a0), (1, .int x1), (2, .int x2), (3, .int x3), (4, .int x4), (5, .long y5), (7, .int x7), (8, .int (x8 + 1))]) rfl ?_
    exact k1 c1
  · refine mW_iconst (v := 0) dX11_finds_76 (by decide) ?_
    refine mW_istore (lv2 := [(10, .int 0), (0, .ref a0), (1, .int x1), (2, .int x2), (3, .int x3), (4, .int x4), (5, .long y5), (7, .int x7), (8, .int x8), (9, .int x9)]) dX11_finds_77 (by decide) rfl ?_
    refine mW_loc [1, 2, 3, 4, 5, 6, 7, 8, 9, 0] (lv2 := [(0, .ref a0), (1, .int x1), (2, .int x2), (3, .int x3), (4, .int x4), (5, .long y5), (7, .int x7), (8, .int x8), (9, .int x9), (10, .int 0)]) rfl ?_
    exact k2 c1
theorem u1928 : (Cond.code ⟨"LineFollowerBenchModel", "gridValue", "(II)I"⟩ prog_13_method_59_code 3 (some .int) : Cond) ∈ mTs := mTs_in 1928 (by decide +kernel) (by decide +kernel)
theorem co_X11_gridValue : mCode mX11_gridValue := ⟨u1928, u85, by decide⟩
theorem u1925 : (Cond.methodLink "LineFollowerBenchModel" 283 ⟨"LineFollowerBenchModel", "gridValue", "(II)I"⟩ : Cond) ∈ mTs := mTs_in 1925 (by decide +kernel) (by decide +kernel)
theorem u1927 : (Cond.instanceMethod ⟨"LineFollowerBenchModel", "gridValue", "(II)I"⟩ : Cond) ∈ mTs := mTs_in 1927 (by decide +kernel) (by decide +kernel)
theorem u63 : (Cond.selects "LineFollowerBenchModel" ⟨"LineFollowerBenchModel", "gridValue", "(II)I"⟩ ⟨"LineFollowerBenchModel", "gridValue", "(II)I"⟩ : Cond) ∈ mTs := mTs_in 63 (by decide +kernel) (by decide +kernel)
theorem l_X11_283 : mLinkV "LineFollowerBenchModel" 283 2 mX11_gridValue := ⟨⟨by decide, by decide, by decide +kernel⟩, co_X11_gridValue, u1925, u1927, u63⟩
theorem u1940 : (Cond.code ⟨"LineFollowerBenchModel", "costWith", "(III)J"⟩ prog_13_method_58_code 9 (some .long) : Cond) ∈ mTs := mTs_in 1940 (by decide +kernel) (by decide +kernel)
theorem co_X11_costWith : mCode mX11_costWith := ⟨u1940, u85, by decide⟩
theorem u1937 : (Cond.methodLink "LineFollowerBenchModel" 286 ⟨"LineFollowerBenchModel", "costWith", "(III)J"⟩ : Cond) ∈ mTs := mTs_in 1937 (by decide +kernel) (by decide +kernel)
theorem u1939 : (Cond.instanceMethod ⟨"LineFollowerBenchModel", "costWith", "(III)J"⟩ : Cond) ∈ mTs := mTs_in 1939 (by decide +kernel) (by decide +kernel)
theorem u66 : (Cond.selects "LineFollowerBenchModel" ⟨"LineFollowerBenchModel", "costWith", "(III)J"⟩ ⟨"LineFollowerBenchModel", "costWith", "(III)J"⟩ : Cond) ∈ mTs := mTs_in 66 (by decide +kernel) (by decide +kernel)
theorem l_X11_286 : mLinkV "LineFollowerBenchModel" 286 3 mX11_costWith := ⟨⟨by decide, by decide, by decide +kernel⟩, co_X11_costWith, u1937, u1939, u66⟩
set_option maxHeartbeats 4000000 in
set_option maxRecDepth 100000 in
theorem gX11_finds_79 {G : mG} {w : mH} {Φ : mF} {a0 : Nat} {x1 x2 x3 x4 : Int32} {y5 : Int64} {x7 x8 x9 x10 : Int32} {N a0_1 n_a0_1 : Nat} (h1 : hk w a0 = (11, 0)) (h2 : hfr w a0 1 = some a0_1) (h3 : hk w a0_1 = (16, n_a0_1)) (s1 : vp_in ((20 + (3 * 2)) + 2) n_a0_1) (s2 : (¬ ((vX11_gridCount w 2 a0_1) ≤ x10)) → vp_in (20 + (3 * 0)) n_a0_1) (s3 : (¬ ((vX11_gridCount w 2 a0_1) ≤ x10)) → vp_in ((20 + (3 * 0)) + 1) n_a0_1) (s4 : (¬ ((vX11_gridCount w 2 a0_1) ≤ x10)) → vp_in (20 + (3 * 1)) n_a0_1) (s5 : (¬ ((vX11_gridCount w 2 a0_1) ≤ x10)) → vp_in ((20 + (3 * 1)) + 1) n_a0_1) (s6 : (¬ ((vX11_gridCount w 2 a0_1) ≤ x10)) → vp_in (20 + (3 * 2)) n_a0_1) (s7 : (¬ ((vX11_gridCount w 2 a0_1) ≤ x10)) → vp_in ((20 + (3 * 2)) + 1) n_a0_1) (h4 : zRef w a0) (s8 : (¬ ((vX11_gridCount w 2 a0_1) ≤ x10)) → rOK (hai w (a0 + 1)) N) (k1 : ((vX11_gridCount w 2 a0_1) ≤ x10) → mW G mX11_finds 7 0 0 66 [(0, .ref a0), (1, .int x1), (2, .int x2), (3, .int x3), (4, .int x4), (5, .long y5), (7, .int x7), (8, .int x8), (9, .int (x9 + 1))] [] w Φ) (k2 : (¬ ((vX11_gridCount w 2 a0_1) ≤ x10)) → ∀ w1 : mH, (xF [22, 24] [8, 9, 10, 11, 12, 13, 14] a0 w w1) → ((lg_cmp (rCW (hai w (a0 + 1)) N (vX11_gridValue w 0 x8 a0_1) (vX11_gridValue w 1 x9 a0_1) (vX11_gridValue w 2 x10 a0_1)) y5) ≤ 0) → mW G mX11_finds 7 0 0 79 [(0, .ref a0), (1, .int x1), (2, .int x2), (3, .int x3), (4, .int x4), (5, .long y5), (7, .int (x7 + 0)), (8, .int x8), (9, .int x9), (10, .int (x10 + 1))] [] w1 Φ) (k3 : (¬ ((vX11_gridCount w 2 a0_1) ≤ x10)) → ∀ w1 : mH, (xF [22, 24] [8, 9, 10, 11, 12, 13, 14] a0 w w1) → (¬ ((lg_cmp (rCW (hai w (a0 + 1)) N (vX11_gridValue w 0 x8 a0_1) (vX11_gridValue w 1 x9 a0_1) (vX11_gridValue w 2 x10 a0_1)) y5) ≤ 0)) → mW G mX11_finds 7 0 0 79 [(0, .ref a0), (1, .int x1), (2, .int x2), (3, .int x3), (4, .int x4), (5, .long y5), (7, .int (x7 + 1)), (8, .int x8), (9, .int x9), (10, .int (x10 + 1))] [] w1 Φ) : mW G mX11_finds 7 0 0 79 [(0, .ref a0), (1, .int x1), (2, .int x2), (3, .int x3), (4, .int x4), (5, .long y5), (7, .int x7), (8, .int x8), (9, .int x9), (10, .int x10)] [] w Φ := by
  refine mW_iload (j := 9) dX11_finds_79 rfl ?_
  refine mW_aload_n (j := 0) dX11_finds_81 rfl rfl ?_
  refine mW_iconst (v := 2) dX11_finds_82 (by decide) ?_
  refine mW_callVe (As := [.int 2]) (rest := [.int x10]) (kc2 := 0) (ks2 := 0) dX11_finds_83 l_X11_128 rfl h1 rfl (by decide) (qX11_gridCount (w := w) (a0 := a0) (x1 := 2) h1 h2 h3 s1) (Nat.le_of_ble_eq_true rfl) (by decide) rfl rfl ?_
  refine mW_icmp_ge (tgt := 136) dX11_finds_86 (by decide) (fun c1 => ?_) (fun c1 => ?_)
  · refine mW_iinc (j := 8) (v := x9 + 1) (lv2 := [(9, .int (x9 + 1)), (0, .ref a0), (1, .int x1), (2, .int x2), (3, .int x3), (4, .int x4), (5, .long y5), (7, .int x7), (8, .int x8), (10, .int x10)]) dX11_finds_136 rfl rfl (by decide) rfl ?_
    refine mW_goto (tgt := 66) dX11_finds_139 (by decide) ?_
    refine mW_loc [1, 2, 3, 4, 5, 6, 7, 8, 0] (lv2 := [(0, .ref a0), (1, .int x1), (2, .int x2), (3, .int x3), (4, .int x4), (5, .long y5), (7, .int x7), (8, .int x8), (9, .int (x9 + 1))]) rfl ?_
    exact k1 c1
  · refine mW_iload (j := 6) dX11_finds_89 rfl ?_
    refine mW_aload_n (j := 0) dX11_finds_91 rfl rfl ?_
    refine mW_aload_n (j := 0) dX11_finds_92 rfl rfl ?_
    refine mW_iconst (v := 0) dX11_finds_93 (by decide) ?_
    refine mW_iload (j := 7) dX11_finds_94 rfl ?_
    refine mW_callVe (As := [.int 0, .int x8]) (rest := [.ref a0, .int x7]) (kc2 := 0) (ks2 := 0) dX11_finds_96 l_X11_283 rfl h1 rfl (by decide) (qX11_gridValue (w := w) (a0 := a0) (x1 := 0) (x2 := x8) h1 h2 h3 (s2 c1) (s3 c1)) (Nat.le_of_ble_eq_true rfl) (by decide) rfl rfl ?_
    refine mW_aload_n (j := 0) dX11_finds_99 rfl rfl ?_
    refine mW_iconst (v := 1) dX11_finds_100 (by decide) ?_
    refine mW_iload (j := 8) dX11_finds_101 rfl ?_
    refine mW_callVe (As := [.int 1, .int x9]) (rest := [.int (vX11_gridValue w 0 x8 a0_1), .ref a0, .int x7]) (kc2 := 0) (ks2 := 0) dX11_finds_103 l_X11_283 rfl h1 rfl (by decide) (qX11_gridValue (w := w) (a0 := a0) (x1 := 1) (x2 := x9) h1 h2 h3 (s4 c1) (s5 c1)) (Nat.le_of_ble_eq_true rfl) (by decide) rfl rfl ?_
    refine mW_aload_n (j := 0) dX11_finds_106 rfl rfl ?_
    refine mW_iconst (v := 2) dX11_finds_107 (by decide) ?_
    refine mW_iload (j := 9) dX11_finds_108 rfl ?_
    refine mW_callVe (As := [.int 2, .int x10]) (rest := [.int (vX11_gridValue w 1 x9 a0_1), .int (vX11_gridValue w 0 x8 a0_1), .ref a0, .int x7]) (kc2 := 0) (ks2 := 0) dX11_finds_110 l_X11_283 rfl h1 rfl (by decide) (qX11_gridValue (w := w) (a0 := a0) (x1 := 2) (x2 := x10) h1 h2 h3 (s6 c1) (s7 c1)) (Nat.le_of_ble_eq_true rfl) (by decide) rfl rfl ?_
    refine mW_callV (As := [.int (vX11_gridValue w 0 x8 a0_1), .int (vX11_gridValue w 1 x9 a0_1), .int (vX11_gridValue w 2 x10 a0_1)]) (rest := [.int x7]) (kc2 := 0) (ks2 := 0) dX11_finds_113 l_X11_286 rfl h1 rfl (by decide) (rX11_costWith (w := w) (a0 := a0) (x1 := (vX11_gridValue w 0 x8 a0_1)) (x2 := (vX11_gridValue w 1 x9 a0_1)) (x3 := (vX11_gridValue w 2 x10 a0_1)) h4 (s8 c1)) (Nat.le_of_ble_eq_true rfl) (by decide) rfl rfl mP_x (mP_k (fun w1 q1 => ?_))
    refine mW_lload (j := 5) dX11_finds_116 rfl ?_
    refine mW_lcmp dX11_finds_118 ?_
    refine mW_if_le (tgt := 126) dX11_finds_119 (by decide) (fun c2 => ?_) (fun c2 => ?_)
    · refine mW_iconst (v := 0) dX11_finds_126 (by decide) ?_
      refine mW_iadd dX11_finds_127 ?_
      refine mW_istore (lv2 := [(7, .int (x7 + 0)), (0, .ref a0), (1, .int x1), (2, .int x2), (3, .int x3), (4, .int x4), (5, .long y5), (8, .int x8), (9, .int x9), (10, .int x10)]) dX11_finds_128 (by decide) rfl ?_
      refine mW_iinc (j := 9) (v := x10 + 1) (lv2 := [(10, .int (x10 + 1)), (7, .int (x7 + 0)), (0, .ref a0), (1, .int x1), (2, .int x2), (3, .int x3), (4, .int x4), (5, .long y5), (8, .int x8), (9, .int x9)]) dX11_finds_130 rfl rfl (by decide) rfl ?_
      refine mW_goto (tgt := 79) dX11_finds_133 (by decide) ?_
      refine mW_loc [2, 3, 4, 5, 6, 7, 1, 8, 9, 0] (lv2 := [(0, .ref a0), (1, .int x1), (2, .int x2), (3, .int x3), (4, .int x4), (5, .long y5), (7, .int (x7 + 0)), (8, .int x8), (9, .int x9), (10, .int (x10 + 1))]) rfl ?_
      exact k2 c1 w1 q1 c2
    · refine mW_iconst (v := 1) dX11_finds_122 (by decide) ?_
      refine mW_goto (tgt := 127) dX11_finds_123 (by decide) ?_
      refine mW_iadd dX11_finds_127 ?_
      refine mW_istore (lv2 := [(7, .int (x7 + 1)), (0, .ref a0), (1, .int x1), (2, .int x2), (3, .int x3), (4, .int x4), (5, .long y5), (8, .int x8), (9, .int x9), (10, .int x10)]) dX11_finds_128 (by decide) rfl ?_
      refine mW_iinc (j := 9) (v := x10 + 1) (lv2 := [(10, .int (x10 + 1)), (7, .int (x7 + 1)), (0, .ref a0), (1, .int x1), (2, .int x2), (3, .int x3), (4, .int x4), (5, .long y5), (8, .int x8), (9, .int x9)]) dX11_finds_130 rfl rfl (by decide) rfl ?_
      refine mW_goto (tgt := 79) dX11_finds_133 (by decide) ?_
      refine mW_loc [2, 3, 4, 5, 6, 7, 1, 8, 9, 0] (lv2 := [(0, .ref a0), (1, .int x1), (2, .int x2), (3, .int x3), (4, .int x4), (5, .long y5), (7, .int (x7 + 1)), (8, .int x8), (9, .int x9), (10, .int (x10 + 1))]) rfl ?_
      exact k3 c1 w1 q1 c2
/-! the reference: finds, search -/
theorem gC_0 (w : mH) (b : Nat) : vX11_gridCount w 0 b = hai w b 22 := by
  unfold vX11_gridCount
  rw [show (20 + 3 * (0 : Int32) + 2).toNatClampNeg = 22 by decide]
theorem gV_0 (w : mH) (b : Nat) (x : Int32) : vX11_gridValue w 0 x b = hai w b 20 + hai w b 21 * x := by
  unfold vX11_gridValue vX11_gridFirst vX11_gridStep
  rw [show (20 + 3 * (0 : Int32)).toNatClampNeg = 20 by decide, show (20 + 3 * (0 : Int32) + 1).toNatClampNeg = 21 by decide]
theorem gC_1 (w : mH) (b : Nat) : vX11_gridCount w 1 b = hai w b 25 := by
  unfold vX11_gridCount
  rw [show (20 + 3 * (1 : Int32) + 2).toNatClampNeg = 25 by decide]
theorem gV_1 (w : mH) (b : Nat) (x : Int32) : vX11_gridValue w 1 x b = hai w b 23 + hai w b 24 * x := by
  unfold vX11_gridValue vX11_gridFirst vX11_gridStep
  rw [show (20 + 3 * (1 : Int32)).toNatClampNeg = 23 by decide, show (20 + 3 * (1 : Int32) + 1).toNatClampNeg = 24 by decide]
theorem gC_2 (w : mH) (b : Nat) : vX11_gridCount w 2 b = hai w b 28 := by
  unfold vX11_gridCount
  rw [show (20 + 3 * (2 : Int32) + 2).toNatClampNeg = 28 by decide]
theorem gV_2 (w : mH) (b : Nat) (x : Int32) : vX11_gridValue w 2 x b = hai w b 26 + hai w b 27 * x := by
  unfold vX11_gridValue vX11_gridFirst vX11_gridStep
  rw [show (20 + 3 * (2 : Int32)).toNatClampNeg = 26 by decide, show (20 + 3 * (2 : Int32) + 1).toNatClampNeg = 27 by decide]
theorem gW_0 {w : mH} {b x : Nat} {A : Nat → Int32} (h : hai w b = A) : vX11_gridValue w 0 (nI x) b = gVal A 0 x := by rw [gV_0, h]; rfl
theorem gW_1 {w : mH} {b x : Nat} {A : Nat → Int32} (h : hai w b = A) : vX11_gridValue w 1 (nI x) b = gVal A 1 x := by rw [gV_1, h]; rfl
theorem gW_2 {w : mH} {b x : Nat} {A : Nat → Int32} (h : hai w b = A) : vX11_gridValue w 2 (nI x) b = gVal A 2 x := by rw [gV_2, h]; rfl
theorem fl_inv {A : Nat → Int32} {i j k : Nat} (hj : j < cG A 1) (hk : k < cG A 2) : fl A i j k / cG A 2 / cG A 1 = i ∧ fl A i j k / cG A 2 % cG A 1 = j ∧ fl A i j k % cG A 2 = k := by
  have d1 : fl A i j k / cG A 2 = i * cG A 1 + j := by
    unfold fl
    rw [Nat.mul_comm, Nat.mul_add_div (by omega), Nat.div_eq_of_lt hk, Nat.add_zero]
  refine ⟨?_, ?_, ?_⟩
  · rw [d1, Nat.mul_comm, Nat.mul_add_div (by omega), Nat.div_eq_of_lt hj, Nat.add_zero]
  · rw [d1, Nat.mul_comm, Nat.mul_add_mod, Nat.mod_eq_of_lt hj]
  · unfold fl
    rw [Nat.mul_comm, Nat.mul_add_mod, Nat.mod_eq_of_lt hk]
/-- three nested loops over a grid, from behind -/
theorem fl_ind {A : Nat → Int32} {P0 : Nat → Nat → Prop} {P1 : Nat → Nat → Nat → Prop} {P2 : Nat → Nat → Nat → Nat → Prop}
    (e0 : P0 (gT A) (cG A 0)) (h0 : ∀ m i, i < cG A 0 → P1 m i 0 → P0 m i) (e1 : ∀ m i, i < cG A 0 → P0 m (i + 1) → P1 m i (cG A 1)) (h1 : ∀ m i j, i < cG A 0 → j < cG A 1 → P2 m i j 0 → P1 m i j)
    (e2 : ∀ m i j, i < cG A 0 → j < cG A 1 → P1 m i (j + 1) → P2 m i j (cG A 2)) (h2 : ∀ i j k, i < cG A 0 → j < cG A 1 → k < cG A 2 → P2 (fl A i j k + 1) i j (k + 1) → P2 (fl A i j k) i j k) : P0 0 0 := by
  have c2 : ∀ i j, i < cG A 0 → j < cG A 1 → P1 (fl A i (j + 1) 0) i (j + 1) → ∀ n k, k + n = cG A 2 → P2 (fl A i j k) i j k := by
    intro i j hi hj hP n
    induction n with
    | zero =>
      intro k hk
      have hk' : k = cG A 2 := by omega
      subst hk'
      have := e2 (fl A i (j + 1) 0) i j hi hj hP
      rwa [show fl A i (j + 1) 0 = fl A i j (cG A 2) by unfold fl; rw [← Nat.add_assoc, Nat.succ_mul]; omega] at this
    | succ n ih =>
      intro k hk
      exact h2 i j k hi hj (by omega) (ih (k + 1) (by omega))
  have c1 : ∀ i, i < cG A 0 → P0 (fl A (i + 1) 0 0) (i + 1) → ∀ n j, j + n = cG A 1 → P1 (fl A i j 0) i j := by
    intro i hi hP n
    induction n with
    | zero =>
      intro j hj
      have hj' : j = cG A 1 := by omega
      subst hj'
      have := e1 (fl A (i + 1) 0 0) i hi hP
      rwa [show fl A (i + 1) 0 0 = fl A i (cG A 1) 0 by simp only [fl, Nat.add_zero, Nat.succ_mul]] at this
    | succ n ih =>
      intro j hj
      exact h1 _ i j hi (by omega) (c2 i j hi (by omega) (ih (j + 1) (by omega)) (cG A 2) 0 (by omega))
  have c0 : ∀ n i, i + n = cG A 0 → P0 (fl A i 0 0) i := by
    intro n
    induction n with
    | zero =>
      intro i hi
      have hi' : i = cG A 0 := by omega
      subst hi'
      rw [show fl A (cG A 0) 0 0 = gT A by simp only [fl, gT, Nat.add_zero]]
      exact e0
    | succ n ih =>
      intro i hi
      exact h0 _ i (by omega) (c1 i (by omega) (ih (i + 1) (by omega)) (cG A 1) 0 (by omega))
  have := c0 (cG A 0) 0 (by omega)
  rwa [show fl A 0 0 0 = 0 by simp only [fl, Nat.zero_mul, Nat.add_zero]] at this
def qR (A : Nat → Int32) (N m : Nat) : Int64 := rCW A N (gVal A 0 (m / cG A 2 / cG A 1)) (gVal A 1 (m / cG A 2 % cG A 1)) (gVal A 2 (m % cG A 2))
theorem qR_fl {A : Nat → Int32} {N i j k : Nat} (hj : j < cG A 1) (hk : k < cG A 2) : qR A N (fl A i j k) = rCW A N (gVal A 0 i) (gVal A 1 j) (gVal A 2 k) := by
  obtain ⟨h1, h2, h3⟩ := fl_inv (i := i) hj hk
  unfold qR
  rw [h1, h2, h3]
theorem gC_le {A : Nat → Int32} {g x : Nat} (ok : gOK A) (hg : g < 3) (hx : x ≤ 70000) : A (22 + 3 * g) ≤ nI x ↔ cG A g ≤ x := by
  obtain ⟨e, -, h6⟩ := ok g hg
  rw [show 22 + 3 * g = 20 + 3 * g + 2 by omega, e]
  exact m_le (by omega) hx
theorem fi_3 {G : mG} {w : mH} {a0 N i j k : Nat} {x1 x2 x3 x4 x7 : Int32} {y5 : Int64} {A : Nat → Int32} {Φ : mF} (z : zRef w a0) (hA : hai w (a0 + 1) = A) (ok : rOK (hai w (a0 + 1)) N) (og : gOK A) (hi : i < cG A 0) (hj : j < cG A 1) (hk : k < cG A 2)
    (K : ∀ w', xF [22, 24] [8, 9, 10, 11, 12, 13, 14] a0 w w' → mW G mX11_finds 7 0 0 79 [(0, .ref a0), (1, .int x1), (2, .int x2), (3, .int x3), (4, .int x4), (5, .long y5), (7, .int (if y5 < qR A N (fl A i j k) then x7 + 1 else x7)), (8, .int (nI i)), (9, .int (nI j)), (10, .int (nI (k + 1)))] [] w' Φ) : mW G mX11_finds 7 0 0 79 [(0, .ref a0), (1, .int x1), (2, .int x2), (3, .int x3), (4, .int x4), (5, .long y5), (7, .int x7), (8, .int (nI i)), (9, .int (nI j)), (10, .int (nI k))] [] w Φ := by
  have o2 := (og 2 (by decide)).2.2
  have q2 := gC_le og (g := 2) (x := k) (by decide) (by omega)
  refine gX11_finds_79 (N := N) (a0_1 := a0 + 1) z.1 z.2.1 z.2.2.2.2.2.2.2.2.2.2.2.2.2.2.2.2.2.2.2.2.2.2.1 (by unfold vp_in; decide) (by intro c1; unfold vp_in; decide) (by intro c1; unfold vp_in; decide) (by intro c1; unfold vp_in; decide) (by intro c1; unfold vp_in; decide) (by intro c1; unfold vp_in; decide) (by intro c1; unfold vp_in; decide) z (by intro c1; exact ok) ?_ ?_ ?_
  · intro c1
    rw [gC_2, hA] at c1
    exact absurd (q2.mp c1) (by omega)
  · intro c1 w1 q1 c2
    rw [gW_0 hA, gW_1 hA, gW_2 hA, hA, lg_cmp_le] at c2
    have := K w1 q1
    rw [qR_fl hj hk, if_neg (Int64.not_lt.mpr c2)] at this
    rw [Int32.add_zero, nI_1]
    exact this
  · intro c1 w1 q1 c2
    rw [gW_0 hA, gW_1 hA, gW_2 hA, hA, lg_cmp_le] at c2
    have := K w1 q1
    rw [qR_fl hj hk, if_pos (Int64.not_le.mp c2)] at this
    rw [nI_1]
    exact this

theorem fi_2 {G : mG} {w : mH} {a0 i j : Nat} {x1 x2 x3 x4 x7 : Int32} {y5 : Int64} {A : Nat → Int32} {Φ : mF} (z : zRef w a0) (hA : hai w (a0 + 1) = A) (og : gOK A) (hj : j ≤ cG A 1)
    (k1 : j = cG A 1 → mW G mX11_finds 7 0 0 53 [(0, .ref a0), (1, .int x1), (2, .int x2), (3, .int x3), (4, .int x4), (5, .long y5), (7, .int x7), (8, .int (nI (i + 1)))] [] w Φ) (k2 : j < cG A 1 → mW G mX11_finds 7 0 0 79 [(0, .ref a0), (1, .int x1), (2, .int x2), (3, .int x3), (4, .int x4), (5, .long y5), (7, .int x7), (8, .int (nI i)), (9, .int (nI j)), (10, .int (nI 0))] [] w Φ) : mW G mX11_finds 7 0 0 66 [(0, .ref a0), (1, .int x1), (2, .int x2), (3, .int x3), (4, .int x4), (5, .long y5), (7, .int x7), (8, .int (nI i)), (9, .int (nI j))] [] w Φ := by
  have o2 := (og 1 (by decide)).2.2
  have q2 := gC_le og (g := 1) (x := j) (by decide) (by omega)
  refine gX11_finds_66 (a0_1 := a0 + 1) z.1 z.2.1 z.2.2.2.2.2.2.2.2.2.2.2.2.2.2.2.2.2.2.2.2.2.2.1 (by unfold vp_in; decide) ?_ ?_
  · intro c1
    rw [gC_1, hA] at c1
    have e : j = cG A 1 := by have := q2.mp c1; omega
    rw [nI_1]
    exact k1 e
  · intro c1
    rw [gC_1, hA] at c1
    exact k2 (Nat.lt_of_not_le (fun q => c1 (q2.mpr q)))
theorem fi_1 {G : mG} {w : mH} {a0 i : Nat} {x1 x2 x3 x4 x7 : Int32} {y5 : Int64} {A : Nat → Int32} {Φ : mF} {f : Nat} (hx : x1 = nI f) (hf : f ≤ 1) (z : zRef w a0) (hA : hai w (a0 + 1) = A) (og : gOK A) (hi : i ≤ cG A 0)
    (k1 : i = cG A 0 → ∀ w', w' = sai w (a0 + 20) f x7 → Φ (.inl none) w') (k2 : i < cG A 0 → mW G mX11_finds 7 0 0 66 [(0, .ref a0), (1, .int x1), (2, .int x2), (3, .int x3), (4, .int x4), (5, .long y5), (7, .int x7), (8, .int (nI i)), (9, .int (nI 0))] [] w Φ) : mW G mX11_finds 7 0 0 53 [(0, .ref a0), (1, .int x1), (2, .int x2), (3, .int x3), (4, .int x4), (5, .long y5), (7, .int x7), (8, .int (nI i))] [] w Φ := by
  have o2 := (og 0 (by decide)).2.2
  have q2 := gC_le og (g := 0) (x := i) (by decide) (by omega)
  refine gX11_finds_53 (a0_1 := a0 + 1) (a0_34 := a0 + 20) z.1 z.2.1 z.2.2.2.2.2.2.2.2.2.2.2.2.2.2.2.2.2.2.2.2.2.2.1 (by unfold vp_in; decide) z.2.2.2.2.2.2.2.2.2.2.2.2.2.2.2.2.2.2.2.2.1 z.2.2.2.2.2.2.2.2.2.2.2.2.2.2.2.2.2.2.2.2.2.2.2.2.2.2.2.2.2.2.2.2.2.2.2.2.2.2.2.2.2.1 (by intro c1; rw [hx]; exact m_vp (by omega) (by decide)) ?_ ?_
  · intro c1 w1 e1
    rw [gC_0, hA] at c1
    have e : i = cG A 0 := by have := q2.mp c1; omega
    rw [hx, m_cl (by omega)] at e1
    exact k1 e w1 e1
  · intro c1
    rw [gC_0, hA] at c1
    exact k2 (Nat.lt_of_not_le (fun q => c1 (q2.mpr q)))
theorem fi_3e {G : mG} {w : mH} {a0 i j : Nat} {x1 x2 x3 x4 x7 : Int32} {y5 : Int64} {A : Nat → Int32} {Φ : mF} (z : zRef w a0) (hA : hai w (a0 + 1) = A) (og : gOK A) (K : mW G mX11_finds 7 0 0 66 [(0, .ref a0), (1, .int x1), (2, .int x2), (3, .int x3), (4, .int x4), (5, .long y5), (7, .int x7), (8, .int (nI i)), (9, .int (nI (j + 1)))] [] w Φ) : mW G mX11_finds 7 0 0 79 [(0, .ref a0), (1, .int x1), (2, .int x2), (3, .int x3), (4, .int x4), (5, .long y5), (7, .int x7), (8, .int (nI i)), (9, .int (nI j)), (10, .int (nI (cG A 2)))] [] w Φ := by
  have o2 := (og 2 (by decide)).2.2
  have q2 := gC_le og (g := 2) (x := cG A 2) (by decide) (by omega)
  refine gX11_finds_79 (N := 0) (a0_1 := a0 + 1) z.1 z.2.1 z.2.2.2.2.2.2.2.2.2.2.2.2.2.2.2.2.2.2.2.2.2.2.1 (by unfold vp_in; decide) (by intro c1; unfold vp_in; decide) (by intro c1; unfold vp_in; decide) (by intro c1; unfold vp_in; decide) (by intro c1; unfold vp_in; decide) (by intro c1; unfold vp_in; decide) (by intro c1; unfold vp_in; decide) z (by intro c1; rw [gC_2, hA] at c1; exact absurd (q2.mpr (by omega)) c1) ?_ ?_ ?_
  · intro c1
    rw [nI_1]
    exact K
  · intro c1 w1 q1 c2
    rw [gC_2, hA] at c1
    exact absurd (q2.mpr (by omega)) c1
  · intro c1 w1 q1 c2
    rw [gC_2, hA] at c1
    exact absurd (q2.mpr (by omega)) c1

def fdO (w w' : mH) (a0 f : Nat) (p i d : Int32) (c : Int64) (n : Int32) : Prop := xF [22, 24] [8, 9, 10, 11, 12, 13, 14, 17, 18, 19, 20] a0 w w' ∧ hai w' (a0 + 17) = upd (hai w (a0 + 17)) f 1 ∧ hai w' (a0 + 18) = upd (upd (upd (hai w (a0 + 18)) (3 * f) p) (3 * f + 1) i) (3 * f + 2) d ∧ (∀ j, hal w' (a0 + 19) j = if j = f then c else hal w (a0 + 19) j) ∧ hai w' (a0 + 20) = upd (hai w (a0 + 20)) f n
theorem rX11_finds {G : mG} {w : mH} {a0 N f : Nat} {x1 x2 x3 x4 : Int32} {y5 : Int64} (z : zRef w a0) (ok : rOK (hai w (a0 + 1)) N) (og : gOK (hai w (a0 + 1))) (hx : x1 = nI f) (hf : f ≤ 1) : mC G mX11_finds 7 0 0 [.ref a0, .int x1, .int x2, .int x3, .int x4, .long y5] w (mP none (fun w' => fdO w w' a0 f x2 x3 x4 y5 (nI (fGt (qR (hai w (a0 + 1)) N) y5 (gT (hai w (a0 + 1))))))) := by
  have i3 : (3 : Int32) * x1 = nI (3 * f) := by rw [hx, show (3 : Int32) = nI 3 from rfl, pk_mul]
  have i32 : nI (3 * f) + 2 = nI (3 * f + 2) := by rw [show (2 : Int32) = nI 2 from rfl, nI_add]
  refine mC_of (by decide +kernel) rfl (Nat.le_of_ble_eq_true rfl) rfl ?_
  refine gX11_finds_0 (a0_31 := a0 + 17) (a0_32 := a0 + 18) (a0_33 := a0 + 19) z.1 z.2.2.2.2.2.2.2.2.2.2.2.2.2.2.2.2.2.1 z.2.2.2.2.2.2.2.2.2.2.2.2.2.2.2.2.2.2.2.2.2.2.2.2.2.2.2.2.2.2.2.2.2.2.2.2.2.2.1 (by rw [hx]; exact m_vp (by omega) (by decide)) z.2.2.2.2.2.2.2.2.2.2.2.2.2.2.2.2.2.2.1 z.2.2.2.2.2.2.2.2.2.2.2.2.2.2.2.2.2.2.2.2.2.2.2.2.2.2.2.2.2.2.2.2.2.2.2.2.2.2.2.1 (by intro w1 e1; rw [i3]; exact m_vp (by omega) (by decide)) (by intro w1 e1 w2 e2; rw [i3, nI_1]; exact m_vp (by omega) (by decide)) (by intro w1 e1 w2 e2 w3 e3; rw [i3, i32]; exact m_vp (by omega) (by decide)) z.2.2.2.2.2.2.2.2.2.2.2.2.2.2.2.2.2.2.2.1 z.2.2.2.2.2.2.2.2.2.2.2.2.2.2.2.2.2.2.2.2.2.2.2.2.2.2.2.2.2.2.2.2.2.2.2.2.2.2.2.2.1 (by intro w1 e1 w2 e2 w3 e3 w4 e4; rw [hx]; exact m_vp (by omega) (by decide)) ?_
  intro w1 e1 w2 e2 w3 e3 w4 e4 w5 e5
  rw [hx, m_cl (by omega)] at e1 e5
  rw [i3, m_cl (by omega)] at e2
  rw [i3, nI_1, m_cl (by omega)] at e3
  rw [i3, i32, m_cl (by omega)] at e4
  have F5 : xF [22, 24] [8, 9, 10, 11, 12, 13, 14, 17, 18, 19, 20] a0 w w5 := by rw [e5, e4, e3, e2, e1]; exact xF_sal (xF_sai (xF_sai (xF_sai (xF_sai xF.rf (by decide)) (by decide)) (by decide)) (by decide)) (by decide)
  have g17 : hai w5 (a0 + 17) = upd (hai w (a0 + 17)) f 1 := by
    rw [e5, e_hai_sal, e4, e_hai_sai, up2_a _ _ _ (by omega), e3, e_hai_sai, up2_a _ _ _ (by omega), e2, e_hai_sai, up2_a _ _ _ (by omega), e1, e_hai_sai, up2_row]
    rfl
  have g18 : hai w5 (a0 + 18) = upd (upd (upd (hai w (a0 + 18)) (3 * f) x2) (3 * f + 1) x3) (3 * f + 2) x4 := by
    rw [e5, e_hai_sal, e4, e_hai_sai, up2_row, e3, e_hai_sai, up2_row, e2, e_hai_sai, up2_row, e1, e_hai_sai, up2_a _ _ _ (by omega)]
  have g19 : ∀ j, hal w5 (a0 + 19) j = if j = f then y5 else hal w (a0 + 19) j := fun j => by
    rw [e5, e_hal_sal, e4, e_hal_sai, e3, e_hal_sai, e2, e_hal_sai, e1, e_hal_sai]
    unfold up2
    by_cases q : j = f
    · rw [if_pos q, if_pos ⟨rfl, q⟩]
    · rw [if_neg q, if_neg (fun s => q s.2)]
  have g20 : hai w5 (a0 + 20) = hai w (a0 + 20) := by
    rw [e5, e_hai_sal, e4, e_hai_sai, up2_a _ _ _ (by omega), e3, e_hai_sai, up2_a _ _ _ (by omega), e2, e_hai_sai, up2_a _ _ _ (by omega), e1, e_hai_sai, up2_a _ _ _ (by omega)]
  have hA : hai w5 (a0 + 1) = hai w (a0 + 1) := F5.ai (by decide)
  have z5 : zRef w5 a0 := zRef_s2 (mS2.of F5.1) z
  generalize hAA : hai w (a0 + 1) = A at *
  have L := fl_ind (A := A)
    (P0 := fun m i => ∀ w', xF [22, 24] [8, 9, 10, 11, 12, 13, 14] a0 w5 w' → mW G mX11_finds 7 0 0 53 [(0, .ref a0), (1, .int x1), (2, .int x2), (3, .int x3), (4, .int x4), (5, .long y5), (7, .int (nI (fGt (qR A N) y5 m))), (8, .int (nI i))] [] w' (mP none (fun w' => fdO w w' a0 f x2 x3 x4 y5 (nI (fGt (qR A N) y5 (gT A))))))
    (P1 := fun m i j => ∀ w', xF [22, 24] [8, 9, 10, 11, 12, 13, 14] a0 w5 w' → mW G mX11_finds 7 0 0 66 [(0, .ref a0), (1, .int x1), (2, .int x2), (3, .int x3), (4, .int x4), (5, .long y5), (7, .int (nI (fGt (qR A N) y5 m))), (8, .int (nI i)), (9, .int (nI j))] [] w' (mP none (fun w' => fdO w w' a0 f x2 x3 x4 y5 (nI (fGt (qR A N) y5 (gT A))))))
    (P2 := fun m i j k => ∀ w', xF [22, 24] [8, 9, 10, 11, 12, 13, 14] a0 w5 w' → mW G mX11_finds 7 0 0 79 [(0, .ref a0), (1, .int x1), (2, .int x2), (3, .int x3), (4, .int x4), (5, .long y5), (7, .int (nI (fGt (qR A N) y5 m))), (8, .int (nI i)), (9, .int (nI j)), (10, .int (nI k))] [] w' (mP none (fun w' => fdO w w' a0 f x2 x3 x4 y5 (nI (fGt (qR A N) y5 (gT A))))))
    (fun w' F => fi_1 hx hf (zRef_s2 (mS2.of F.1) z5) ((F.ai (by decide)).trans hA) og (Nat.le_refl _) (fun _ w6 e6 => mP_of (by
      have F6 : xF [22, 24] [8, 9, 10, 11, 12, 13, 14, 17, 18, 19, 20] a0 w w6 := (F5.tr (F.wide (by decide) (by decide))).tr (by rw [e6]; exact xF_sai xF.rf (by decide))
      refine ⟨F6, ?_, ?_, fun j => ?_, ?_⟩
      · rw [e6, e_hai_sai, up2_a _ _ _ (by omega), F.ai (by decide), g17]
      · rw [e6, e_hai_sai, up2_a _ _ _ (by omega), F.ai (by decide), g18]
      · rw [e6, e_hal_sai, F.al (by decide), g19]
      · rw [e6, e_hai_sai, up2_row, F.ai (by decide), g20])) (fun q => absurd q (by omega)))
    (fun m i hi h w' F => fi_1 hx hf (zRef_s2 (mS2.of F.1) z5) ((F.ai (by decide)).trans hA) og (Nat.le_of_lt hi) (fun q => absurd q (by omega)) (fun _ => h w' F))
    (fun m i hi h w' F => fi_2 (zRef_s2 (mS2.of F.1) z5) ((F.ai (by decide)).trans hA) og (Nat.le_refl _) (fun _ => h w' F) (fun q => absurd q (by omega)))
    (fun m i j hi hj h w' F => fi_2 (zRef_s2 (mS2.of F.1) z5) ((F.ai (by decide)).trans hA) og (Nat.le_of_lt hj) (fun q => absurd q (by omega)) (fun _ => h w' F))
    (fun m i j hi hj h w' F => fi_3e (zRef_s2 (mS2.of F.1) z5) ((F.ai (by decide)).trans hA) og (h w' F))
    (fun i j k hi hj hk h w' F => fi_3 (zRef_s2 (mS2.of F.1) z5) ((F.ai (by decide)).trans hA) (by rw [F.ai (by decide), hA]; exact ok) og hi hj hk (fun w6 F6 => by
      have := h w6 (F.tr F6)
      rw [fGt] at this
      by_cases q : y5 < qR A N (fl A i j k)
      · rw [if_pos q] at this ⊢
        rw [nI_1]; exact this
      · rw [if_neg q] at this ⊢
        exact this))
  exact L w5 xF.rf

