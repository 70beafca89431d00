abbrev mX11_costOfOne : mM := (yX11_costOfOne, cX11_costOfOne, 1, (some .long), [])
set_option maxHeartbeats 4000000 in
set_option maxRecDepth 100000 in
theorem gX11_costOfOne_0 {G : mG} {w : mH} {Φ : mF} {a0 N a0_35 n_a0_35 : Nat} (h1 : hk w a0 = (11, 0)) (h2 : hfr w a0 35 = some a0_35) (h3 : hk w a0_35 = (16, n_a0_35)) (s1 : vp_in 0 n_a0_35) (s2 : vp_in 1 n_a0_35) (s3 : vp_in 2 n_a0_35) (h4 : zRef w a0) (s4 : rOK (hai w (a0 + 1)) N) (k1 : ∀ w1 : mH, (xF [22, 24] [8, 9, 10, 11, 12, 13, 14] a0 w w1) → Φ (.inl (some (.long (rCW (hai w (a0 + 1)) N (hai w a0_35 0) (hai w a0_35 1) (hai w a0_35 2))))) w1) : mW G mX11_costOfOne 7 0 0 0 [(0, .ref a0)] [] w Φ := by
  refine mW_aload_n (j := 0) dX11_costOfOne_0 rfl rfl ?_
  refine mW_aload_n (j := 0) dX11_costOfOne_1 rfl rfl ?_
  refine mW_getR dX11_costOfOne_2 f_X11_80 h1 rfl h2 ?_
  refine mW_iconst (v := 0) dX11_costOfOne_5 (by decide) ?_
  refine mW_ialdJ dX11_costOfOne_6 h3 s1 (j := 0) (by decide) ?_
  refine mW_aload_n (j := 0) dX11_costOfOne_7 rfl rfl ?_
  refine mW_getR dX11_costOfOne_8 f_X11_80 h1 rfl h2 ?_
  refine mW_iconst (v := 1) dX11_costOfOne_11 (by decide) ?_
  refine mW_ialdJ dX11_costOfOne_12 h3 s2 (j := 1) (by decide) ?_
  refine mW_aload_n (j := 0) dX11_costOfOne_13 rfl rfl ?_
  refine mW_getR dX11_costOfOne_14 f_X11_80 h1 rfl h2 ?_
  refine mW_iconst (v := 2) dX11_costOfOne_17 (by decide) ?_
  refine mW_ialdJ dX11_costOfOne_18 h3 s3 (j := 2) (by decide) ?_
  refine mW_callV (As := [.int (hai w a0_35 0), .int (hai w a0_35 1), .int (hai w a0_35 2)]) (rest := []) (kc2 := 0) (ks2 := 0) dX11_costOfOne_19 l_X11_286 rfl h1 rfl (by decide) (rX11_costWith (w := w) (a0 := a0) (x1 := hai w a0_35 0) (x2 := hai w a0_35 1) (x3 := hai w a0_35 2) h4 s4) (Nat.le_of_ble_eq_true rfl) (by decide) rfl rfl mP_x (mP_k (fun w1 q1 => ?_))
  exact mW_lret dX11_costOfOne_22 rfl (k1 w1 q1)
/-! the reference: climb -/
theorem rX11_costOfOne {G : mG} {w : mH} {a0 N : Nat} (z : zRef w a0) (ok : rOK (hai w (a0 + 1)) N) : mC G mX11_costOfOne 7 0 0 [.ref a0] w (mP (some (.long (rCW (hai w (a0 + 1)) N (hai w (a0 + 21) 0) (hai w (a0 + 21) 1) (hai w (a0 + 21) 2)))) (fun w' => xF [22, 24] [8, 9, 10, 11, 12, 13, 14] a0 w w')) := by
  refine mC_of (by decide +kernel) rfl (Nat.le_of_ble_eq_true rfl) rfl ?_
  refine gX11_costOfOne_0 (N := N) (a0_35 := a0 + 21) z.1 z.2.2.2.2.2.2.2.2.2.2.2.2.2.2.2.2.2.2.2.2.2.1 z.2.2.2.2.2.2.2.2.2.2.2.2.2.2.2.2.2.2.2.2.2.2.2.2.2.2.2.2.2.2.2.2.2.2.2.2.2.2.2.2.2.2 (by intros; unfold vp_in; decide) (by intros; unfold vp_in; decide) (by intros; unfold vp_in; decide) z (by exact ok) ?_
  intro w1 q1
  exact mP_of q1

abbrev mX11_climb : mM := (yX11_climb, cX11_climb, 12, (some .int), [])
set_option maxHeartbeats 4000000 in
set_option maxRecDepth 100000 in
theorem gX11_climb_0 {G : mG} {w : mH} {Φ : mF} {a0 : Nat} (h1 : hk w a0 = (11, 0)) (k1 : ∀ w1 : mH, (w1 = sfi w a0 0 0) → mW G mX11_climb 8 0 0 7 [(0, .ref a0), (1, .int 0)] [] w1 Φ) : mW G mX11_climb 8 0 0 0 [(0, .ref a0)] [] w Φ := by
  refine mW_aload_n (j := 0) dX11_climb_0 rfl rfl ?_
  refine mW_iconst (v := 0) dX11_climb_1 (by decide) ?_
  refine mW_put (ty := .int) (w2 := sfi w a0 0 0) dX11_climb_2 p_X11_3 h1 (Nat.le_of_ble_eq_true rfl) (by first | rfl | decide | (repeat' split) <;> rfl) rfl (hN_sfi _ _ _ _) (hk_sfi _ _ _ _) (mE_sfi h1 (by decide) (ob_11_0 _ _ _)) ?_
  refine mW_nm (fun w1 e1 => ?_)
  refine mW_iconst (v := 0) dX11_climb_5 (by decide) ?_
  refine mW_istore_n (lv2 := [(1, .int 0), (0, .ref a0)]) dX11_climb_6 rfl (by decide) rfl ?_
  refine mW_loc [1, 0] (lv2 := [(0, .ref a0), (1, .int 0)]) rfl ?_
  exact k1 w1 e1
theorem u1952 : (Cond.code ⟨"LineFollowerBenchModel", "costOfOne", "()J"⟩ prog_13_method_62_code 1 (some .long) : Cond) ∈ mTs := mTs_in 1952 (by decide +kernel) (by decide +kernel)
theorem co_X11_costOfOne : mCode mX11_costOfOne := ⟨u1952, u85, by decide⟩
theorem u1949 : (Cond.methodLink "LineFollowerBenchModel" 294 ⟨"LineFollowerBenchModel", "costOfOne", "()J"⟩ : Cond) ∈ mTs := mTs_in 1949 (by decide +kernel) (by decide +kernel)
theorem u1951 : (Cond.instanceMethod ⟨"LineFollowerBenchModel", "costOfOne", "()J"⟩ : Cond) ∈ mTs := mTs_in 1951 (by decide +kernel) (by decide +kernel)
theorem u68 : (Cond.selects "LineFollowerBenchModel" ⟨"LineFollowerBenchModel", "costOfOne", "()J"⟩ ⟨"LineFollowerBenchModel", "costOfOne", "()J"⟩ : Cond) ∈ mTs := mTs_in 68 (by decide +kernel) (by decide +kernel)
theorem l_X11_294 : mLinkV "LineFollowerBenchModel" 294 0 mX11_costOfOne := ⟨⟨by decide, by decide, by decide +kernel⟩, co_X11_costOfOne, u1949, u1951, u68⟩
set_option maxHeartbeats 4000000 in
set_option maxRecDepth 100000 in
theorem gX11_climb_7 {G : mG} {w : mH} {Φ : mF} {a0 : Nat} {x1 : Int32} {N a0_35 a0_1 n_a0_1 n_a0_35 : Nat} (h1 : hk w a0 = (11, 0)) (h2 : zRef w a0) (s1 : (3 ≤ x1) → rOK (hai w (a0 + 1)) N) (h3 : hfr w a0 35 = some a0_35) (h4 : hfr w a0 1 = some a0_1) (h5 : hk w a0_1 = (16, n_a0_1)) (s2 : (¬ (3 ≤ x1)) → vp_in (20 + (3 * x1)) n_a0_1) (h6 : hk w a0_35 = (16, n_a0_35)) (s3 : (¬ (3 ≤ x1)) → vp_in x1 n_a0_35) (k1 : (3 ≤ x1) → ∀ w1 : mH, (xF [22, 24] [8, 9, 10, 11, 12, 13, 14] a0 w w1) → mW G mX11_climb 8 0 0 39 [(0, .ref a0), (1, .long (rCW (hai w (a0 + 1)) N (hai w (a0 + 21) 0) (hai w (a0 + 21) 1) (hai w (a0 + 21) 2))), (3, .int 0), (4, .int 0)] [] w1 Φ) (k2 : (¬ (3 ≤ x1)) → ∀ w2 : mH, (w2 = sai w a0_35 x1.toNatClampNeg (vX11_gridFirst w x1 a0_1)) → mW G mX11_climb 8 0 0 7 [(0, .ref a0), (1, .int (x1 + 1))] [] w2 Φ) : mW G mX11_climb 8 0 0 7 [(0, .ref a0), (1, .int x1)] [] w Φ := by
  refine mW_iload_n (j := 1) dX11_climb_7 rfl rfl ?_
  refine mW_iconst (v := 3) dX11_climb_8 (by decide) ?_
  refine mW_icmp_ge (tgt := 29) dX11_climb_9 (by decide) (fun c1 => ?_) (fun c1 => ?_)
  · refine mW_aload_n (j := 0) dX11_climb_29 rfl rfl ?_
    refine mW_callV (As := []) (rest := []) (kc2 := 0) (ks2 := 0) dX11_climb_30 l_X11_294 rfl h1 rfl (by decide) (rX11_costOfOne (w := w) (a0 := a0) h2 (s1 c1)) (Nat.le_of_ble_eq_true rfl) (by decide) rfl rfl mP_x (mP_k (fun w1 q1 => ?_))
    refine mW_lstore_n (lv2 := [(1, .long (rCW (hai w (a0 + 1)) N (hai w (a0 + 21) 0) (hai w (a0 + 21) 1) (hai w (a0 + 21) 2))), (0, .ref a0)]) dX11_climb_33 rfl (by decide) rfl ?_
    refine mW_iconst (v := 0) dX11_climb_34 (by decide) ?_
    refine mW_istore_n (lv2 := [(3, .int 0), (1, .long (rCW (hai w (a0 + 1)) N (hai w (a0 + 21) 0) (hai w (a0 + 21) 1) (hai w (a0 + 21) 2))), (0, .ref a0)]) dX11_climb_35 rfl (by decide) rfl ?_
    refine mW_iconst (v := 0) dX11_climb_36 (by decide) ?_
    refine mW_istore (lv2 := [(4, .int 0), (3, .int 0), (1, .long (rCW (hai w (a0 + 1)) N (hai w (a0 + 21) 0) (hai w (a0 + 21) 1) (hai w (a0 + 21) 2))), (0, .ref a0)]) dX11_climb_37 (by decide) rfl ?_
    refine mW_loc [3, 2, 1, 0] (lv2 := [(0, .ref a0), (1, .long (rCW (hai w (a0 + 1)) N (hai w (a0 + 21) 0) (hai w (a0 + 21) 1) (hai w (a0 + 21) 2))), (3, .int 0), (4, .int 0)]) rfl ?_
    exact k1 c1 w1 q1
  · refine mW_aload_n (j := 0) dX11_climb_12 rfl rfl ?_
    refine mW_getR dX11_climb_13 f_X11_80 h1 rfl h3 ?_
    refine mW_iload_n (j := 1) dX11_climb_16 rfl rfl ?_
    refine mW_aload_n (j := 0) dX11_climb_17 rfl rfl ?_
    refine mW_iload_n (j := 1) dX11_climb_18 rfl rfl ?_
    refine mW_callVe (As := [.int x1]) (rest := [.int x1, .ref a0_35]) (kc2 := 0) (ks2 := 0) dX11_climb_19 l_X11_277 rfl h1 rfl (by decide) (qX11_gridFirst (w := w) (a0 := a0) (x1 := x1) h1 h4 h5 (s2 c1)) (Nat.le_of_ble_eq_true rfl) (by decide) rfl rfl ?_
    refine mW_iastJ dX11_climb_22 h6 (s3 c1) rfl ?_
    refine mW_nm (fun w2 e1 => ?_)
    refine mW_iinc (j := 1) (v := x1 + 1) (lv2 := [(1, .int (x1 + 1)), (0, .ref a0)]) dX11_climb_23 rfl rfl (by decide) rfl ?_
    refine mW_goto (tgt := 7) dX11_climb_26 (by decide) ?_
    refine mW_loc [1, 0] (lv2 := [(0, .ref a0), (1, .int (x1 + 1))]) rfl ?_
    exact k2 c1 w2 e1
set_option maxHeartbeats 4000000 in
set_option maxRecDepth 100000 in
theorem gX11_climb_39 {G : mG} {w : mH} {Φ : mF} {a0 : Nat} {y1 : Int64} {x3 x4 : Int32} {N f a0_35 n_a0_35 : Nat} (h1 : hk w a0 = (11, 0)) (h2 : hfr w a0 35 = some a0_35) (h3 : hk w a0_35 = (16, n_a0_35)) (s1 : vp_in 0 n_a0_35) (s2 : vp_in 1 n_a0_35) (s3 : vp_in 2 n_a0_35) (h4 : zRef w a0) (s4 : (3 ≤ x3) → rOK (hai w (a0 + 1)) N) (s5 : (3 ≤ x3) → gOK (hai w (a0 + 1))) (s6 : (3 ≤ x3) → 1 = nI f) (s7 : (3 ≤ x3) → f ≤ 1) (k1 : (3 ≤ x3) → ∀ w1 : mH, (fdO w w1 a0 f (hai w a0_35 0) (hai w a0_35 1) (hai w a0_35 2) y1 (nI (fGt (qR (hai w (a0 + 1)) N) y1 (gT (hai w (a0 + 1)))))) → Φ (.inl (some (.int x4))) w1) (k2 : (¬ (3 ≤ x3)) → mW G mX11_climb 8 0 0 61 [(0, .ref a0), (1, .long y1), (3, .int x3), (4, .int x4), (5, .int (x4 - x4 / 3 * 3)), (6, .int 0), (7, .long (-1)), (9, .int 0)] [] w Φ) : mW G mX11_climb 8 0 0 39 [(0, .ref a0), (1, .long y1), (3, .int x3), (4, .int x4)] [] w Φ := by
  refine mW_iload_n (j := 2) dX11_climb_39 rfl rfl ?_
  refine mW_iconst (v := 3) dX11_climb_40 (by decide) ?_
  refine mW_icmp_ge (tgt := 163) dX11_climb_41 (by decide) (fun c1 => ?_) (fun c1 => ?_)
  · refine mW_aload_n (j := 0) dX11_climb_163 rfl rfl ?_
    refine mW_iconst (v := 1) dX11_climb_164 (by decide) ?_
    refine mW_aload_n (j := 0) dX11_climb_165 rfl rfl ?_
    refine mW_getR dX11_climb_166 f_X11_80 h1 rfl h2 ?_
    refine mW_iconst (v := 0) dX11_climb_169 (by decide) ?_
    refine mW_ialdJ dX11_climb_170 h3 s1 (j := 0) (by decide) ?_
    refine mW_aload_n (j := 0) dX11_climb_171 rfl rfl ?_
    refine mW_getR dX11_climb_172 f_X11_80 h1 rfl h2 ?_
    refine mW_iconst (v := 1) dX11_climb_175 (by decide) ?_
    refine mW_ialdJ dX11_climb_176 h3 s2 (j := 1) (by decide) ?_
    refine mW_aload_n (j := 0) dX11_climb_177 rfl rfl ?_
    refine mW_getR dX11_climb_178 f_X11_80 h1 rfl h2 ?_
    refine mW_iconst (v := 2) dX11_climb_181 (by decide) ?_
    refine mW_ialdJ dX11_climb_182 h3 s3 (j := 2) (by decide) ?_
    refine mW_lload_n (j := 1) dX11_climb_183 rfl rfl ?_
    refine mW_callV (As := [.int 1, .int (hai w a0_35 0), .int (hai w a0_35 1), .int (hai w a0_35 2), .long y1]) (rest := []) (kc2 := 0) (ks2 := 0) dX11_climb_184 l_X11_290 rfl h1 rfl (by decide) (rX11_finds (w := w) (a0 := a0) (x1 := 1) (x2 := hai w a0_35 0) (x3 := hai w a0_35 1) (x4 := hai w a0_35 2) (y5 := y1) h4 (s4 c1) (s5 c1) (s6 c1) (s7 c1)) (Nat.le_of_ble_eq_true rfl) (by decide) rfl rfl mP_x (mP_k (fun w1 q1 => ?_))
    refine mW_iload (j := 3) dX11_climb_187 rfl ?_
    exact mW_iret dX11_climb_189 rfl (k1 c1 w1 q1)
  · refine mW_iload (j := 3) dX11_climb_44 rfl ?_
    refine mW_iconst (v := 3) dX11_climb_46 (by decide) ?_
    refine mW_irem dX11_climb_47 (by decide) ?_
    refine mW_istore (lv2 := [(5, .int (x4 - x4 / 3 * 3)), (0, .ref a0), (1, .long y1), (3, .int x3), (4, .int x4)]) dX11_climb_48 (by decide) rfl ?_
    refine mW_iconst (v := 0) dX11_climb_50 (by decide) ?_
    refine mW_istore (lv2 := [(6, .int 0), (5, .int (x4 - x4 / 3 * 3)), (0, .ref a0), (1, .long y1), (3, .int x3), (4, .int x4)]) dX11_climb_51 (by decide) rfl ?_
    refine mW_ldc2 (v := (-1)) dX11_climb_53 u1803 ?_
    refine mW_lstore (lv2 := [(7, .long (-1)), (6, .int 0), (5, .int (x4 - x4 / 3 * 3)), (0, .ref a0), (1, .long y1), (3, .int x3), (4, .int x4)]) dX11_climb_56 (by decide) rfl ?_
    refine mW_iconst (v := 0) dX11_climb_58 (by decide) ?_
    refine mW_istore (lv2 := [(9, .int 0), (7, .long (-1)), (6, .int 0), (5, .int (x4 - x4 / 3 * 3)), (0, .ref a0), (1, .long y1), (3, .int x3), (4, .int x4)]) dX11_climb_59 (by decide) rfl ?_
    refine mW_loc [4, 5, 6, 7, 3, 2, 1, 0] (lv2 := [(0, .ref a0), (1, .long y1), (3, .int x3), (4, .int x4), (5, .int (x4 - x4 / 3 * 3)), (6, .int 0), (7, .long (-1)), (9, .int 0)]) rfl ?_
    exact k2 c1
set_option maxHeartbeats 4000000 in
set_option maxRecDepth 100000 in
theorem gX11_climb_61 {G : mG} {w : mH} {Φ : mF} {a0 : Nat} {y1 : Int64} {x3 x4 x5 x6 : Int32} {y7 : Int64} {x9 : Int32} {N a0_1 n_a0_1 a0_35 n_a0_35 : Nat} (h1 : hk w a0 = (11, 0)) (h2 : hfr w a0 1 = some a0_1) (h3 : hk w a0_1 = (16, n_a0_1)) (s1 : vp_in ((20 + (3 * x5)) + 2) n_a0_1) (h4 : hfr w a0 35 = some a0_35) (h5 : hk w a0_35 = (16, n_a0_35)) (s2 : ((vX11_gridCount w x5 a0_1) ≤ x9) → vp_in x5 n_a0_35) (s3 : (¬ ((vX11_gridCount w x5 a0_1) ≤ x9)) → vp_in (20 + (3 * x5)) n_a0_1) (s4 : (¬ ((vX11_gridCount w x5 a0_1) ≤ x9)) → vp_in ((20 + (3 * x5)) + 1) n_a0_1) (s5 : (¬ ((vX11_gridCount w x5 a0_1) ≤ x9)) → vp_in x5 n_a0_35) (h6 : zRef w a0) (s6 : (¬ ((vX11_gridCount w x5 a0_1) ≤ x9)) → ∀ w2 : mH, (w2 = sai w a0_35 x5.toNatClampNeg (vX11_gridValue w x5 x9 a0_1)) → rOK (hai w2 (a0 + 1)) N) (k1 : ((vX11_gridCount w x5 a0_1) ≤ x9) → ∀ w1 : mH, (w1 = sai w a0_35 x5.toNatClampNeg x6) → (¬ ((lg_cmp y7 y1) = 0)) → mW G mX11_climb 8 0 0 39 [(0, .ref a0), (1, .long y7), (3, .int 0), (4, .int (x4 + 1))] [] w1 Φ) (k2 : ((vX11_gridCount w x5 a0_1) ≤ x9) → ∀ w1 : mH, (w1 = sai w a0_35 x5.toNatClampNeg x6) → ((lg_cmp y7 y1) = 0) → mW G mX11_climb 8 0 0 39 [(0, .ref a0), (1, .long y7), (3, .int (x3 + 1)), (4, .int (x4 + 1))] [] w1 Φ) (k3 : (¬ ((vX11_gridCount w x5 a0_1) ≤ x9)) → ∀ w2 : mH, (w2 = sai w a0_35 x5.toNatClampNeg (vX11_gridValue w x5 x9 a0_1)) → ∀ w3 : mH, (xF [22, 24] [8, 9, 10, 11, 12, 13, 14] a0 w2 w3) → ((lg_cmp y7 0) < 0) → mW G mX11_climb 8 0 0 61 [(0, .ref a0), (1, .long y1), (3, .int x3), (4, .int x4), (5, .int x5), (6, .int (hai w3 a0_35 x5.toNatClampNeg)), (7, .long (rCW (hai w2 (a0 + 1)) N (hai w2 (a0 + 21) 0) (hai w2 (a0 + 21) 1) (hai w2 (a0 + 21) 2))), (9, .int (x9 + 1))] [] w3 Φ) (k4 : (¬ ((vX11_gridCount w x5 a0_1) ≤ x9)) → ∀ w2 : mH, (w2 = sai w a0_35 x5.toNatClampNeg (vX11_gridValue w x5 x9 a0_1)) → ∀ w3 : mH, (xF [22, 24] [8, 9, 10, 11, 12, 13, 14] a0 w2 w3) → (¬ ((lg_cmp y7 0) < 0)) → ((lg_cmp (rCW (hai w2 (a0 + 1)) N (hai w2 (a0 + 21) 0) (hai w2 (a0 + 21) 1) (hai w2 (a0 + 21) 2)) y7) < 0) → mW G mX11_climb 8 0 0 61 [(0, .ref a0), (1, .long y1), (3, .int x3), (4, .int x4), (5, .int x5), (6, .int (hai w3 a0_35 x5.toNatClampNeg)), (7, .long (rCW (hai w2 (a0 + 1)) N (hai w2 (a0 + 21) 0) (hai w2 (a0 + 21) 1) (hai w2 (a0 + 21) 2))), (9, .int (x9 + 1))] [] w3 Φ) (k5 : (¬ ((vX11_gridCount w x5 a0_1) ≤ x9)) → ∀ w2 : mH, (w2 = sai w a0_35 x5.toNatClampNeg (vX11_gridValue w x5 x9 a0_1)) → ∀ w3 : mH, (xF [22, 24] [8, 9, 10, 11, 12, 13, 14] a0 w2 w3) → (¬ ((lg_cmp y7 0) < 0)) → (¬ ((lg_cmp (rCW (hai w2 (a0 + 1)) N (hai w2 (a0 + 21) 0) (hai w2 (a0 + 21) 1) (hai w2 (a0 + 21) 2)) y7) < 0)) → mW G mX11_climb 8 0 0 61 [(0, .ref a0), (1, .long y1), (3, .int x3), (4, .int x4), (5, .int x5), (6, .int x6), (7, .long y7), (9, .int (x9 + 1))] [] w3 Φ) : mW G mX11_climb 8 0 0 61 [(0, .ref a0), (1, .long y1), (3, .int x3), (4, .int x4), (5, .int x5), (6, .int x6), (7, .long y7), (9, .int x9)] [] w Φ := by
  refine mW_iload (j := 7) dX11_climb_61 rfl ?_
  refine mW_aload_n (j := 0) dX11_climb_63 rfl rfl ?_
  refine mW_iload (j := 4) dX11_climb_64 rfl ?_
  refine mW_callVe (As := [.int x5]) (rest := [.int x9]) (kc2 := 0) (ks2 := 0) dX11_climb_66 l_X11_128 rfl h1 rfl (by decide) (qX11_gridCount (w := w) (a0 := a0) (x1 := x5) h1 h2 h3 s1) (Nat.le_of_ble_eq_true rfl) (by decide) rfl rfl ?_
  refine mW_icmp_ge (tgt := 130) dX11_climb_69 (by decide) (fun c1 => ?_) (fun c1 => ?_)
  · refine mW_aload_n (j := 0) dX11_climb_130 rfl rfl ?_
    refine mW_getR dX11_climb_131 f_X11_80 h1 rfl h4 ?_
    refine mW_iload (j := 4) dX11_climb_134 rfl ?_
    refine mW_iload (j := 5) dX11_climb_136 rfl ?_
    refine mW_iastJ dX11_climb_138 h5 (s2 c1) rfl ?_
    refine mW_nm (fun w1 e1 => ?_)
    refine mW_lload (j := 6) dX11_climb_139 rfl ?_
    refine mW_lload_n (j := 1) dX11_climb_141 rfl rfl ?_
    refine mW_lcmp dX11_climb_142 ?_
    refine mW_if_ne (tgt := 152) dX11_climb_143 (by decide) (fun c2 => ?_) (fun c2 => ?_)
    · refine mW_iconst (v := 0) dX11_climb_152 (by decide) ?_
      refine mW_istore_n (lv2 := [(3, .int 0), (0, .ref a0), (1, .long y1), (4, .int x4), (5, .int x5), (6, .int x6), (7, .long y7), (9, .int x9)]) dX11_climb_153 rfl (by decide) rfl ?_
      refine mW_lload (j := 6) dX11_climb_154 rfl ?_
      refine mW_lstore_n (lv2 := [(1, .long y7), (3, .int 0), (0, .ref a0), (4, .int x4), (5, .int x5), (6, .int x6), (7, .long y7), (9, .int x9)]) dX11_climb_156 rfl (by decide) rfl ?_
      refine mW_iinc (j := 3) (v := x4 + 1) (lv2 := [(4, .int (x4 + 1)), (1, .long y7), (3, .int 0), (0, .ref a0), (5, .int x5), (6, .int x6), (7, .long y7), (9, .int x9)]) dX11_climb_157 rfl rfl (by decide) rfl ?_
      refine mW_goto (tgt := 39) dX11_climb_160 (by decide) ?_
      refine mW_loc [3, 1, 2, 0] (lv2 := [(0, .ref a0), (1, .long y7), (3, .int 0), (4, .int (x4 + 1))]) rfl ?_
      exact k1 c1 w1 e1 c2
    · refine mW_iload_n (j := 2) dX11_climb_146 rfl rfl ?_
      refine mW_iconst (v := 1) dX11_climb_147 (by decide) ?_
      refine mW_iadd dX11_climb_148 ?_
      refine mW_goto (tgt := 153) dX11_climb_149 (by decide) ?_
      refine mW_istore_n (lv2 := [(3, .int (x3 + 1)), (0, .ref a0), (1, .long y1), (4, .int x4), (5, .int x5), (6, .int x6), (7, .long y7), (9, .int x9)]) dX11_climb_153 rfl (by decide) rfl ?_
      refine mW_lload (j := 6) dX11_climb_154 rfl ?_
      refine mW_lstore_n (lv2 := [(1, .long y7), (3, .int (x3 + 1)), (0, .ref a0), (4, .int x4), (5, .int x5), (6, .int x6), (7, .long y7), (9, .int x9)]) dX11_climb_156 rfl (by decide) rfl ?_
      refine mW_iinc (j := 3) (v := x4 + 1) (lv2 := [(4, .int (x4 + 1)), (1, .long y7), (3, .int (x3 + 1)), (0, .ref a0), (5, .int x5), (6, .int x6), (7, .long y7), (9, .int x9)]) dX11_climb_157 rfl rfl (by decide) rfl ?_
      refine mW_goto (tgt := 39) dX11_climb_160 (by decide) ?_
      refine mW_loc [3, 1, 2, 0] (lv2 := [(0, .ref a0), (1, .long y7), (3, .int (x3 + 1)), (4, .int (x4 + 1))]) rfl ?_
      exact k2 c1 w1 e1 c2
  · refine mW_aload_n (j := 0) dX11_climb_72 rfl rfl ?_
    refine mW_getR dX11_climb_73 f_X11_80 h1 rfl h4 ?_
    refine mW_iload (j := 4) dX11_climb_76 rfl ?_
    refine mW_aload_n (j := 0) dX11_climb_78 rfl rfl ?_
    refine mW_iload (j := 4) dX11_climb_79 rfl ?_
    refine mW_iload (j := 7) dX11_climb_81 rfl ?_
    refine mW_callVe (As := [.int x5, .int x9]) (rest := [.int x5, .ref a0_35]) (kc2 := 0) (ks2 := 0) dX11_climb_83 l_X11_283 rfl h1 rfl (by decide) (qX11_gridValue (w := w) (a0 := a0) (x1 := x5) (x2 := x9) h1 h2 h3 (s3 c1) (s4 c1)) (Nat.le_of_ble_eq_true rfl) (by decide) rfl rfl ?_
    refine mW_iastJ dX11_climb_86 h5 (s5 c1) rfl ?_
    refine mW_nm (fun w2 e2 => ?_)
    refine mW_aload_n (j := 0) dX11_climb_87 rfl rfl ?_
    refine mW_callV (As := []) (rest := []) (kc2 := 0) (ks2 := 0) dX11_climb_88 l_X11_294 rfl (s2k (S2_sai e2) h1) rfl (by decide) (rX11_costOfOne (w := w2) (a0 := a0) (zRef_s2 (S2_sai e2) h6) (s6 c1 w2 e2)) (Nat.le_of_ble_eq_true rfl) (by decide) rfl rfl mP_x (mP_k (fun w3 q1 => ?_))
    refine mW_lstore (lv2 := [(10, .long (rCW (hai w2 (a0 + 1)) N (hai w2 (a0 + 21) 0) (hai w2 (a0 + 21) 1) (hai w2 (a0 + 21) 2))), (0, .ref a0), (1, .long y1), (3, .int x3), (4, .int x4), (5, .int x5), (6, .int x6), (7, .long y7), (9, .int x9)]) dX11_climb_91 (by decide) rfl ?_
    refine mW_lload (j := 7) dX11_climb_93 rfl ?_
    refine mW_lconst (v := 0) dX11_climb_95 (by decide) ?_
    refine mW_lcmp dX11_climb_96 ?_
    refine mW_if_lt (tgt := 111) dX11_climb_97 (by decide) (fun c3 => ?_) (fun c3 => ?_)
    · refine mW_lload (j := 0) dX11_climb_111 rfl ?_
      refine mW_lstore (lv2 := [(7, .long (rCW (hai w2 (a0 + 1)) N (hai w2 (a0 + 21) 0) (hai w2 (a0 + 21) 1) (hai w2 (a0 + 21) 2))), (10, .long (rCW (hai w2 (a0 + 1)) N (hai w2 (a0 + 21) 0) (hai w2 (a0 + 21) 1) (hai w2 (a0 + 21) 2))), (0, .ref a0), (1, .long y1), (3, .int x3), (4, .int x4), (5, .int x5), (6, .int x6), (9, .int x9)]) dX11_climb_113 (by decide) rfl ?_
      refine mW_aload_n (j := 2) dX11_climb_115 rfl rfl ?_
      refine mW_getR dX11_climb_116 f_X11_80 (s2k (mS2.of q1.1) (s2k (S2_sai e2) h1)) rfl (s2r (mS2.of q1.1) (s2r (S2_sai e2) h4)) ?_
      refine mW_iload (j := 6) dX11_climb_119 rfl ?_
      refine mW_ialdJ dX11_climb_121 (s2k (mS2.of q1.1) (s2k (S2_sai e2) h5)) (s5 c1) rfl ?_
      refine mW_istore (lv2 := [(6, .int (hai w3 a0_35 x5.toNatClampNeg)), (7, .long (rCW (hai w2 (a0 + 1)) N (hai w2 (a0 + 21) 0) (hai w2 (a0 + 21) 1) (hai w2 (a0 + 21) 2))), (10, .long (rCW (hai w2 (a0 + 1)) N (hai w2 (a0 + 21) 0) (hai w2 (a0 + 21) 1) (hai w2 (a0 + 21) 2))), (0, .ref a0), (1, .long y1), (3, .int x3), (4, .int x4), (5, .int x5), (9, .int x9)]) dX11_climb_122 (by decide) rfl ?_
      refine mW_iinc (j := 8) (v := x9 + 1) (lv2 := [(9, .int (x9 + 1)), (6, .int (hai w3 a0_35 x5.toNatClampNeg)), (7, .long (rCW (hai w2 (a0 + 1)) N (hai w2 (a0 + 21) 0) (hai w2 (a0 + 21) 1) (hai w2 (a0 + 21) 2))), (10, .long (rCW (hai w2 (a0 + 1)) N (hai w2 (a0 + 21) 0) (hai w2 (a0 + 21) 1) (hai w2 (a0 + 21) 2))), (0, .ref a0), (1, .long y1), (3, .int x3), (4, .int x4), (5, .int x5)]) dX11_climb_124 rfl rfl (by decide) rfl ?_
      refine mW_goto (tgt := 61) dX11_climb_127 (by decide) ?_
      refine mW_loc [4, 5, 6, 7, 8, 1, 2, 0] (lv2 := [(0, .ref a0), (1, .long y1), (3, .int x3), (4, .int x4), (5, .int x5), (6, .int (hai w3 a0_35 x5.toNatClampNeg)), (7, .long (rCW (hai w2 (a0 + 1)) N (hai w2 (a0 + 21) 0) (hai w2 (a0 + 21) 1) (hai w2 (a0 + 21) 2))), (9, .int (x9 + 1))]) rfl ?_
      exact k3 c1 w2 e2 w3 q1 c3
    · refine mW_lload (j := 0) dX11_climb_100 rfl ?_
      refine mW_lload (j := 7) dX11_climb_102 rfl ?_
      refine mW_lcmp dX11_climb_104 ?_
      refine mW_if_lt (tgt := 111) dX11_climb_105 (by decide) (fun c4 => ?_) (fun c4 => ?_)
      · refine mW_lload (j := 0) dX11_climb_111 rfl ?_
        refine mW_lstore (lv2 := [(7, .long (rCW (hai w2 (a0 + 1)) N (hai w2 (a0 + 21) 0) (hai w2 (a0 + 21) 1) (hai w2 (a0 + 21) 2))), (10, .long (rCW (hai w2 (a0 + 1)) N (hai w2 (a0 + 21) 0) (hai w2 (a0 + 21) 1) (hai w2 (a0 + 21) 2))), (0, .ref a0), (1, .long y1), (3, .int x3), (4, .int x4), (5, .int x5), (6, .int x6), (9, .int x9)]) dX11_climb_113 (by decide) rfl ?_
        refine mW_aload_n (j := 2) dX11_climb_115 rfl rfl ?_
        refine mW_getR dX11_climb_116 f_X11_80 (s2k (mS2.of q1.1) (s2k (S2_sai e2) h1)) rfl (s2r (mS2.of q1.1) (s2r (S2_sai e2) h4)) ?_
        refine mW_iload (j := 6) dX11_climb_119 rfl ?_
        refine mW_ialdJ dX11_climb_121 (s2k (mS2.of q1.1) (s2k (S2_sai e2) h5)) (s5 c1) rfl ?_
        refine mW_istore (lv2 := [(6, .int (hai w3 a0_35 x5.toNatClampNeg)), (7, .long (rCW (hai w2 (a0 + 1)) N (hai w2 (a0 + 21) 0) (hai w2 (a0 + 21) 1) (hai w2 (a0 + 21) 2))), (10, .long (rCW (hai w2 (a0 + 1)) N (hai w2 (a0 + 21) 0) (hai w2 (a0 + 21) 1) (hai w2 (a0 + 21) 2))), (0, .ref a0), (1, .long y1), (3, .int x3), (4, .int x4), (5, .int x5), (9, .int x9)]) dX11_climb_122 (by decide) rfl ?_
        refine mW_iinc (j := 8) (v := x9 + 1) (lv2 := [(9, .int (x9 + 1)), (6, .int (hai w3 a0_35 x5.toNatClampNeg)), (7, .long (rCW (hai w2 (a0 + 1)) N (hai w2 (a0 + 21) 0) (hai w2 (a0 + 21) 1) (hai w2 (a0 + 21) 2))), (10, .long (rCW (hai w2 (a0 + 1)) N (hai w2 (a0 + 21) 0) (hai w2 (a0 + 21) 1) (hai w2 (a0 + 21) 2))), (0, .ref a0), (1, .long y1), (3, .int x3), (4, .int x4), (5, .int x5)]) dX11_climb_124 rfl rfl (by decide) rfl ?_
        refine mW_goto (tgt := 61) dX11_climb_127 (by decide) ?_
        refine mW_loc [4, 5, 6, 7, 8, 1, 2, 0] (lv2 := [(0, .ref a0), (1, .long y1), (3, .int x3), (4, .int x4), (5, .int x5), (6, .int (hai w3 a0_35 x5.toNatClampNeg)), (7, .long (rCW (hai w2 (a0 + 1)) N (hai w2 (a0 + 21) 0) (hai w2 (a0 + 21) 1) (hai w2 (a0 + 21) 2))), (9, .int (x9 + 1))]) rfl ?_
        exact k4 c1 w2 e2 w3 q1 c3 c4
      · refine mW_goto (tgt := 124) dX11_climb_108 (by decide) ?_
        refine mW_iinc (j := 8) (v := x9 + 1) (lv2 := [(9, .int (x9 + 1)), (10, .long (rCW (hai w2 (a0 + 1)) N (hai w2 (a0 + 21) 0) (hai w2 (a0 + 21) 1) (hai w2 (a0 + 21) 2))), (0, .ref a0), (1, .long y1), (3, .int x3), (4, .int x4), (5, .int x5), (6, .int x6), (7, .long y7)]) dX11_climb_124 rfl rfl (by decide) rfl ?_
        refine mW_goto (tgt := 61) dX11_climb_127 (by decide) ?_
        refine mW_loc [2, 3, 4, 5, 6, 7, 8, 0] (lv2 := [(0, .ref a0), (1, .long y1), (3, .int x3), (4, .int x4), (5, .int x5), (6, .int x6), (7, .long y7), (9, .int (x9 + 1))]) rfl ?_
        exact k5 c1 w2 e2 w3 q1 c3 c4
def yOne (A : Nat → Int32) (x : Nat → Nat) (R : Nat → Int32) : Prop := ∀ h, h < 3 → R h = gVal A h (x h)
theorem rCW_one {A R : Nat → Int32} {N : Nat} {x : Nat → Nat} (h : yOne A x R) (hx : xOK A x) : rCW A N (R 0) (R 1) (R 2) = qR A N (fx A x) := by
  unfold fx
  rw [qR_fl (hx 1 (by decide)) (hx 2 (by decide)), h 0 (by decide), h 1 (by decide), h 2 (by decide)]
theorem gW_g {w : mH} {b x g : Nat} {A : Nat → Int32} (h : hai w b = A) (hg : g < 3) : vX11_gridValue w (nI g) (nI x) b = gVal A g x := by
  have : g = 0 ∨ g = 1 ∨ g = 2 := by omega
  rcases this with q | q | q <;> subst q
  · exact gW_0 h
  · exact gW_1 h
  · exact gW_2 h
theorem gC_g {w : mH} {b g : Nat} {A : Nat → Int32} (h : hai w b = A) (hg : g < 3) : vX11_gridCount w (nI g) b = A (22 + 3 * g) := by
  have : g = 0 ∨ g = 1 ∨ g = 2 := by omega
  rw [← h]
  rcases this with q | q | q <;> subst q
  · exact gC_0 w b
  · exact gC_1 w b
  · exact gC_2 w b
theorem i20_g {g : Nat} : (20 : Int32) + 3 * nI g = nI (20 + 3 * g) := by rw [show (3 : Int32) = nI 3 from rfl, pk_mul, show (20 : Int32) = nI 20 from rfl, nI_add]
theorem cl_row {G : mG} {w : mH} {a0 N g v : Nat} {y1 : Int64} {x3 x4 : Int32} {A : Nat → Int32} {x : Nat → Nat} {Φ : mF} (z : zRef w a0) (hA : hai w (a0 + 1) = A) (ok : rOK A N) (og : gOK A) (hx : xOK A x) (hg : g < 3) (hv : v < cG A g) (hq : ∀ m, m < gT A → 0 ≤ qR A N m)
    (ho : ∀ h, h < 3 → ¬ h = g → hai w (a0 + 21) h = gVal A h (x h))
    (K : ∀ w', xF [22, 24] [8, 9, 10, 11, 12, 13, 14, 21] a0 w w' → (∀ h, h < 3 → ¬ h = g → hai w' (a0 + 21) h = gVal A h (x h)) → mW G mX11_climb 8 0 0 61 [(0, .ref a0), (1, .long y1), (3, .int x3), (4, .int x4), (5, .int (nI g)), (6, .int (if v + 1 = 0 then 0 else gVal A g (fBest (rowQ (qR A N) A x g) (v + 1)))), (7, .long (lst (rowQ (qR A N) A x g) (v + 1))), (9, .int (nI (v + 1)))] [] w' Φ) : mW G mX11_climb 8 0 0 61 [(0, .ref a0), (1, .long y1), (3, .int x3), (4, .int x4), (5, .int (nI g)), (6, .int (if v = 0 then 0 else gVal A g (fBest (rowQ (qR A N) A x g) v))), (7, .long (lst (rowQ (qR A N) A x g) v)), (9, .int (nI v))] [] w Φ := by
  have o6 := (og g hg).2.2
  have i20 := i20_g (g := g)
  have q2 := gC_le og (g := g) (x := v) hg (by omega)
  have hqr : ∀ j, j ≤ v → 0 ≤ rowQ (qR A N) A x g j := fun j hj => hq _ (fx_lt (xs_ok hx (by omega)))
  have hs := lst_s (q := rowQ (qR A N) A x g) (m := v) hqr
  refine gX11_climb_61 (N := N) (a0_1 := a0 + 1) (a0_35 := a0 + 21) z.1 z.2.1 z.2.2.2.2.2.2.2.2.2.2.2.2.2.2.2.2.2.2.2.2.2.2.1 (by rw [i20, show (2 : Int32) = nI 2 from rfl, nI_add]; exact m_vp (by omega) (by decide)) z.2.2.2.2.2.2.2.2.2.2.2.2.2.2.2.2.2.2.2.2.2.1 z.2.2.2.2.2.2.2.2.2.2.2.2.2.2.2.2.2.2.2.2.2.2.2.2.2.2.2.2.2.2.2.2.2.2.2.2.2.2.2.2.2.2 (by intro c1; exact m_vp (by omega) (by decide)) (by intro c1; rw [i20]; exact m_vp (by omega) (by decide)) (by intro c1; rw [i20, show (1 : Int32) = nI 1 from rfl, nI_add]; exact m_vp (by omega) (by decide)) (by intro c1; exact m_vp (by omega) (by decide)) z (by intro c1 w2 e2; rw [show hai w2 (a0 + 1) = A by rw [e2, e_hai_sai, up2_a _ _ _ (by omega)]; exact hA]; exact ok) ?_ ?_ ?_ ?_ ?_
  · intro c1 w1 e1 c2
    rw [gC_g hA hg] at c1
    exact absurd (q2.mp c1) (by omega)
  · intro c1 w1 e1 c2
    rw [gC_g hA hg] at c1
    exact absurd (q2.mp c1) (by omega)
  · intro c1 w2 e2 w3 q1 c3
    have A2 : hai w2 (a0 + 1) = A := by rw [e2, e_hai_sai, up2_a _ _ _ (by omega)]; exact hA
    rw [m_cl (by omega), gW_g hA hg] at e2
    have o2 : ∀ h, h < 3 → hai w2 (a0 + 21) h = gVal A h (xs x g v h) := fun h hh => by
      rw [e2, e_hai_sai, up2_row]
      unfold upd xs
      by_cases q : h = g
      · rw [if_pos q, if_pos q, q]
      · rw [if_neg q, if_neg q]; exact ho h hh q
    have ev : rCW (hai w2 (a0 + 1)) N (hai w2 (a0 + 21) 0) (hai w2 (a0 + 21) 1) (hai w2 (a0 + 21) 2) = rowQ (qR A N) A x g v := by
      rw [A2]; exact rCW_one o2 (xs_ok hx hv)
    have F2 : xF [22, 24] [8, 9, 10, 11, 12, 13, 14, 21] a0 w w3 := xF.tr (by rw [e2]; exact xF_sai xF.rf (by decide)) (q1.wide (by decide) (by decide))
    have r21 : hai w3 (a0 + 21) = hai w2 (a0 + 21) := q1.ai (by decide)
    rw [lg_cmp_lt] at c3
    have v0 : v = 0 := Classical.byContradiction fun q => by
      have hb := hqr (fBest (rowQ (qR A N) A x g) v) (Nat.le_of_lt (fBest_lt (rowQ (qR A N) A x g) v (by omega)))
      have c5 := c3
      unfold lst at c5
      rw [if_neg q] at c5
      exact absurd c5 (Int64.not_lt.mpr hb)
    rw [ev, nI_1, m_cl (by omega), r21, o2 g hg]
    have := K w3 F2 (fun h hh q => by rw [r21, o2 h hh]; unfold xs; rw [if_neg q])
    rw [hs, if_pos c3, if_neg (Nat.succ_ne_zero v)] at this
    have e1 : fBest (rowQ (qR A N) A x g) (v + 1) = xs x g v g := by unfold xs; rw [if_pos rfl, fBest, if_pos v0, v0]
    rw [e1] at this
    exact this
  · intro c1 w2 e2 w3 q1 c3 c4
    have A2 : hai w2 (a0 + 1) = A := by rw [e2, e_hai_sai, up2_a _ _ _ (by omega)]; exact hA
    rw [m_cl (by omega), gW_g hA hg] at e2
    have o2 : ∀ h, h < 3 → hai w2 (a0 + 21) h = gVal A h (xs x g v h) := fun h hh => by
      rw [e2, e_hai_sai, up2_row]
      unfold upd xs
      by_cases q : h = g
      · rw [if_pos q, if_pos q, q]
      · rw [if_neg q, if_neg q]; exact ho h hh q
    have ev : rCW (hai w2 (a0 + 1)) N (hai w2 (a0 + 21) 0) (hai w2 (a0 + 21) 1) (hai w2 (a0 + 21) 2) = rowQ (qR A N) A x g v := by
      rw [A2]; exact rCW_one o2 (xs_ok hx hv)
    have F2 : xF [22, 24] [8, 9, 10, 11, 12, 13, 14, 21] a0 w w3 := xF.tr (by rw [e2]; exact xF_sai xF.rf (by decide)) (q1.wide (by decide) (by decide))
    have r21 : hai w3 (a0 + 21) = hai w2 (a0 + 21) := q1.ai (by decide)
    rw [lg_cmp_lt] at c3
    rw [ev, lg_cmp_lt] at c4
    have v0 : ¬ v = 0 := fun q => c3 (by unfold lst; rw [if_pos q]; decide)
    rw [ev, nI_1, m_cl (by omega), r21, o2 g hg]
    have := K w3 F2 (fun h hh q => by rw [r21, o2 h hh]; unfold xs; rw [if_neg q])
    rw [hs, if_neg c3, if_pos c4, if_neg (Nat.succ_ne_zero v)] at this
    have c5 := c4
    unfold lst at c5
    rw [if_neg v0] at c5
    have e1 : fBest (rowQ (qR A N) A x g) (v + 1) = xs x g v g := by unfold xs; rw [if_pos rfl, fBest, if_neg v0, if_pos c5]
    rw [e1] at this
    exact this
  · intro c1 w2 e2 w3 q1 c3 c4
    have A2 : hai w2 (a0 + 1) = A := by rw [e2, e_hai_sai, up2_a _ _ _ (by omega)]; exact hA
    rw [m_cl (by omega), gW_g hA hg] at e2
    have o2 : ∀ h, h < 3 → hai w2 (a0 + 21) h = gVal A h (xs x g v h) := fun h hh => by
      rw [e2, e_hai_sai, up2_row]
      unfold upd xs
      by_cases q : h = g
      · rw [if_pos q, if_pos q, q]
      · rw [if_neg q, if_neg q]; exact ho h hh q
    have ev : rCW (hai w2 (a0 + 1)) N (hai w2 (a0 + 21) 0) (hai w2 (a0 + 21) 1) (hai w2 (a0 + 21) 2) = rowQ (qR A N) A x g v := by
      rw [A2]; exact rCW_one o2 (xs_ok hx hv)
    have F2 : xF [22, 24] [8, 9, 10, 11, 12, 13, 14, 21] a0 w w3 := xF.tr (by rw [e2]; exact xF_sai xF.rf (by decide)) (q1.wide (by decide) (by decide))
    have r21 : hai w3 (a0 + 21) = hai w2 (a0 + 21) := q1.ai (by decide)
    rw [lg_cmp_lt] at c3
    rw [ev, lg_cmp_lt] at c4
    have v0 : ¬ v = 0 := fun q => c3 (by unfold lst; rw [if_pos q]; decide)
    rw [nI_1]
    have := K w3 F2 (fun h hh q => by rw [r21, o2 h hh]; unfold xs; rw [if_neg q])
    rw [hs, if_neg c3, if_neg c4, if_neg (Nat.succ_ne_zero v)] at this
    have c5 := c4
    unfold lst at c5
    rw [if_neg v0] at c5
    have e1 : fBest (rowQ (qR A N) A x g) (v + 1) = fBest (rowQ (qR A N) A x g) v := by rw [fBest, if_neg v0, if_neg c5]
    rw [e1] at this
    rw [if_neg v0]
    exact this

theorem cl_end {G : mG} {w : mH} {a0 N g : Nat} {y1 : Int64} {x3 x4 : Int32} {A : Nat → Int32} {x : Nat → Nat} {Φ : mF} (z : zRef w a0) (hA : hai w (a0 + 1) = A) (og : gOK A) (hg : g < 3)
    (ho : ∀ h, h < 3 → ¬ h = g → hai w (a0 + 21) h = gVal A h (x h))
    (K1 : ¬ qR A N (fx A (xs x g (bRow (qR A N) A x g))) = y1 → ∀ w', xF [22, 24] [8, 9, 10, 11, 12, 13, 14, 21] a0 w w' → yOne A (xs x g (bRow (qR A N) A x g)) (hai w' (a0 + 21)) → mW G mX11_climb 8 0 0 39 [(0, .ref a0), (1, .long (qR A N (fx A (xs x g (bRow (qR A N) A x g))))), (3, .int 0), (4, .int (x4 + 1))] [] w' Φ)
    (K2 : qR A N (fx A (xs x g (bRow (qR A N) A x g))) = y1 → ∀ w', xF [22, 24] [8, 9, 10, 11, 12, 13, 14, 21] a0 w w' → yOne A (xs x g (bRow (qR A N) A x g)) (hai w' (a0 + 21)) → mW G mX11_climb 8 0 0 39 [(0, .ref a0), (1, .long (qR A N (fx A (xs x g (bRow (qR A N) A x g))))), (3, .int (x3 + 1)), (4, .int (x4 + 1))] [] w' Φ) : mW G mX11_climb 8 0 0 61 [(0, .ref a0), (1, .long y1), (3, .int x3), (4, .int x4), (5, .int (nI g)), (6, .int (if cG A g = 0 then 0 else gVal A g (fBest (rowQ (qR A N) A x g) (cG A g)))), (7, .long (lst (rowQ (qR A N) A x g) (cG A g))), (9, .int (nI (cG A g)))] [] w Φ := by
  have o1 := (og g hg).2.1
  have o6 := (og g hg).2.2
  have i20 := i20_g (g := g)
  have q2 := gC_le og (g := g) (x := cG A g) hg (by omega)
  have vv : (if cG A g = 0 then 0 else gVal A g (fBest (rowQ (qR A N) A x g) (cG A g))) = gVal A g (bRow (qR A N) A x g) := if_neg (by omega)
  have ll : lst (rowQ (qR A N) A x g) (cG A g) = qR A N (fx A (xs x g (bRow (qR A N) A x g))) := if_neg (by omega)
  refine gX11_climb_61 (N := N) (a0_1 := a0 + 1) (a0_35 := a0 + 21) z.1 z.2.1 z.2.2.2.2.2.2.2.2.2.2.2.2.2.2.2.2.2.2.2.2.2.2.1 (by rw [i20, show (2 : Int32) = nI 2 from rfl, nI_add]; exact m_vp (by omega) (by decide)) z.2.2.2.2.2.2.2.2.2.2.2.2.2.2.2.2.2.2.2.2.2.1 z.2.2.2.2.2.2.2.2.2.2.2.2.2.2.2.2.2.2.2.2.2.2.2.2.2.2.2.2.2.2.2.2.2.2.2.2.2.2.2.2.2.2 (by intro c1; exact m_vp (by omega) (by decide)) (by intro c1; rw [i20]; exact m_vp (by omega) (by decide)) (by intro c1; rw [i20, show (1 : Int32) = nI 1 from rfl, nI_add]; exact m_vp (by omega) (by decide)) (by intro c1; exact m_vp (by omega) (by decide)) z (by intro c1 w2 e2; rw [gC_g hA hg] at c1; exact absurd (q2.mpr (Nat.le_refl _)) c1) ?_ ?_ ?_ ?_ ?_
  · intro c1 w1 e1 c2
    rw [m_cl (by omega)] at e1
    have O : yOne A (xs x g (bRow (qR A N) A x g)) (hai w1 (a0 + 21)) := fun h hh => by
      rw [e1, e_hai_sai, up2_row, vv]
      unfold upd xs
      by_cases q : h = g
      · rw [if_pos q, if_pos q, q]
      · rw [if_neg q, if_neg q]; exact ho h hh q
    have F1 : xF [22, 24] [8, 9, 10, 11, 12, 13, 14, 21] a0 w w1 := by rw [e1]; exact xF_sai xF.rf (by decide)
    rw [ll, lg_cmp_eq] at c2
    have := K1 c2 w1 F1 O
    rw [ll]
    exact this
  · intro c1 w1 e1 c2
    rw [m_cl (by omega)] at e1
    have O : yOne A (xs x g (bRow (qR A N) A x g)) (hai w1 (a0 + 21)) := fun h hh => by
      rw [e1, e_hai_sai, up2_row, vv]
      unfold upd xs
      by_cases q : h = g
      · rw [if_pos q, if_pos q, q]
      · rw [if_neg q, if_neg q]; exact ho h hh q
    have F1 : xF [22, 24] [8, 9, 10, 11, 12, 13, 14, 21] a0 w w1 := by rw [e1]; exact xF_sai xF.rf (by decide)
    rw [ll, lg_cmp_eq] at c2
    have := K2 c2 w1 F1 O
    rw [ll]
    exact this
  · intro c1 w2 e2 w3 q1 c3
    rw [gC_g hA hg] at c1
    exact absurd (q2.mpr (Nat.le_refl _)) c1
  · intro c1 w2 e2 w3 q1 c3 c4
    rw [gC_g hA hg] at c1
    exact absurd (q2.mpr (Nat.le_refl _)) c1
  · intro c1 w2 e2 w3 q1 c3 c4
    rw [gC_g hA hg] at c1
    exact absurd (q2.mpr (Nat.le_refl _)) c1
theorem cl_rows {G : mG} {w0 : mH} {a0 N g : Nat} {y1 : Int64} {x3 x4 : Int32} {A : Nat → Int32} {x : Nat → Nat} {Φ : mF} (z : zRef w0 a0) (hA : hai w0 (a0 + 1) = A) (ok : rOK A N) (og : gOK A) (hx : xOK A x) (hg : g < 3) (hq : ∀ m, m < gT A → 0 ≤ qR A N m)
    (K1 : ¬ qR A N (fx A (xs x g (bRow (qR A N) A x g))) = y1 → ∀ w', xF [22, 24] [8, 9, 10, 11, 12, 13, 14, 21] a0 w0 w' → yOne A (xs x g (bRow (qR A N) A x g)) (hai w' (a0 + 21)) → mW G mX11_climb 8 0 0 39 [(0, .ref a0), (1, .long (qR A N (fx A (xs x g (bRow (qR A N) A x g))))), (3, .int 0), (4, .int (x4 + 1))] [] w' Φ)
    (K2 : qR A N (fx A (xs x g (bRow (qR A N) A x g))) = y1 → ∀ w', xF [22, 24] [8, 9, 10, 11, 12, 13, 14, 21] a0 w0 w' → yOne A (xs x g (bRow (qR A N) A x g)) (hai w' (a0 + 21)) → mW G mX11_climb 8 0 0 39 [(0, .ref a0), (1, .long (qR A N (fx A (xs x g (bRow (qR A N) A x g))))), (3, .int (x3 + 1)), (4, .int (x4 + 1))] [] w' Φ) :
    ∀ j v w, v + j = cG A g → xF [22, 24] [8, 9, 10, 11, 12, 13, 14, 21] a0 w0 w → (∀ h, h < 3 → ¬ h = g → hai w (a0 + 21) h = gVal A h (x h)) → mW G mX11_climb 8 0 0 61 [(0, .ref a0), (1, .long y1), (3, .int x3), (4, .int x4), (5, .int (nI g)), (6, .int (if v = 0 then 0 else gVal A g (fBest (rowQ (qR A N) A x g) v))), (7, .long (lst (rowQ (qR A N) A x g) v)), (9, .int (nI v))] [] w Φ := by
  intro j
  induction j with
  | zero =>
    intro v w hv F ho
    have : v = cG A g := by omega
    subst this
    exact cl_end (zRef_s2 (mS2.of F.1) z) ((F.ai (by decide)).trans hA) og hg ho (fun c w' F' O => K1 c w' (F.tr F') O) (fun c w' F' O => K2 c w' (F.tr F') O)
  | succ j ih =>
    intro v w hv F ho
    exact cl_row (zRef_s2 (mS2.of F.1) z) ((F.ai (by decide)).trans hA) ok og hx hg (by omega) hq ho (fun w' F' ho' => ih (v + 1) w' (by omega) (F.tr F') ho')
def fd1 (w w' : mH) (a0 N : Nat) (A : Nat → Int32) (x : Nat → Nat) : Prop := fdR w w' a0 1 (gVal A 0 (x 0)) (gVal A 1 (x 1)) (gVal A 2 (x 2)) (qR A N (fx A x)) (nI (fGt (qR A N) (qR A N (fx A x)) (gT A)))
theorem cl_39 {G : mG} {w : mH} {a0 N n u : Nat} {y1 : Int64} {A : Nat → Int32} {x : Nat → Nat} {Φ : mF} (z : zRef w a0) (hA : hai w (a0 + 1) = A) (ok : rOK A N) (og : gOK A) (hu : u ≤ 3) (hn : n < 700) (O : yOne A x (hai w (a0 + 21)))
    (K1 : u = 3 → ∀ w', fdO w w' a0 1 (gVal A 0 (x 0)) (gVal A 1 (x 1)) (gVal A 2 (x 2)) y1 (nI (fGt (qR A N) y1 (gT A))) → Φ (.inl (some (.int (nI n)))) w')
    (K2 : u < 3 → mW G mX11_climb 8 0 0 61 [(0, .ref a0), (1, .long y1), (3, .int (nI u)), (4, .int (nI n)), (5, .int (nI (n % 3))), (6, .int 0), (7, .long (-1)), (9, .int 0)] [] w Φ) : mW G mX11_climb 8 0 0 39 [(0, .ref a0), (1, .long y1), (3, .int (nI u)), (4, .int (nI n))] [] w Φ := by
  have h3 : (3 : Int32) ≤ nI u ↔ 3 ≤ u := m_le (a := 3) (by omega) (by omega)
  refine gX11_climb_39 (N := N) (f := 1) (a0_35 := a0 + 21) z.1 z.2.2.2.2.2.2.2.2.2.2.2.2.2.2.2.2.2.2.2.2.2.1 z.2.2.2.2.2.2.2.2.2.2.2.2.2.2.2.2.2.2.2.2.2.2.2.2.2.2.2.2.2.2.2.2.2.2.2.2.2.2.2.2.2.2 (by intros; unfold vp_in; decide) (by intros; unfold vp_in; decide) (by intros; unfold vp_in; decide) z (by intro c1; rw [hA]; exact ok) (by intro c1; rw [hA]; exact og) (by intro c1; rfl) (by intro c1; decide) ?_ ?_
  · intro c1 w1 q1
    rw [h3] at c1
    rw [O 0 (by decide), O 1 (by decide), O 2 (by decide), hA] at q1
    exact K1 (by omega) w1 q1
  · intro c1
    rw [h3] at c1
    have := K2 (by omega)
    rw [m_r3 n hn]
    exact this
theorem cl_loop {G : mG} {w0 : mH} {a0 N : Nat} {A : Nat → Int32} {Φ : mF} (z : zRef w0 a0) (hA : hai w0 (a0 + 1) = A) (ok : rOK A N) (og : gOK A) (hq : ∀ m, m < gT A → 0 ≤ qR A N m) : ∀ f x n u w, cP (qR A N) A x u ≤ f → n + f ≤ 648 → u ≤ 3 → xOK A x → xF [22, 24] [8, 9, 10, 11, 12, 13, 14, 21] a0 w0 w → yOne A x (hai w (a0 + 21)) →
    (∀ w', xF [22, 24] [8, 9, 10, 11, 12, 13, 14, 17, 18, 19, 20, 21] a0 w0 w' → fd1 w0 w' a0 N A (cL (qR A N) A f x n u).1 → Φ (.inl (some (.int (nI (cL (qR A N) A f x n u).2)))) w') →
    mW G mX11_climb 8 0 0 39 [(0, .ref a0), (1, .long (qR A N (fx A x))), (3, .int (nI u)), (4, .int (nI n))] [] w Φ := by
  have fin : ∀ x n w, xF [22, 24] [8, 9, 10, 11, 12, 13, 14, 21] a0 w0 w → ∀ w', fdO w w' a0 1 (gVal A 0 (x 0)) (gVal A 1 (x 1)) (gVal A 2 (x 2)) (qR A N (fx A x)) (nI (fGt (qR A N) (qR A N (fx A x)) (gT A))) → (∀ w', xF [22, 24] [8, 9, 10, 11, 12, 13, 14, 17, 18, 19, 20, 21] a0 w0 w' → fd1 w0 w' a0 N A x → Φ (.inl (some (.int (nI n)))) w') → Φ (.inl (some (.int (nI n)))) w' := fun x n w F w' D hΦ =>
    hΦ w' ((F.wide (by decide) (by decide)).tr (D.1.wide (by decide) (by decide))) (fdR_of D F (by decide) (by decide) (by decide) (by decide))
  intro f
  induction f with
  | zero =>
    intro x n u w hP hn hu hx F O hΦ
    have hu3 : u = 3 := by unfold cP at hP; omega
    subst hu3
    exact cl_39 (zRef_s2 (mS2.of F.1) z) ((F.ai (by decide)).trans hA) ok og (by decide) (by omega) O (fun _ w' D => fin x n w F w' D hΦ) (fun q => absurd q (by decide))
  | succ f ih =>
    intro x n u w hP hn hu hx F O hΦ
    refine cl_39 (zRef_s2 (mS2.of F.1) z) ((F.ai (by decide)).trans hA) ok og hu (by omega) O (fun u3 w' D => ?_) (fun u3 => ?_)
    · have e9 : cL (qR A N) A (f + 1) x n u = (x, n) := by rw [cL, if_neg (by omega)]
      rw [e9] at hΦ
      exact fin x n w F w' D hΦ
    · have hst := cP_step (q := qR A N) (n := n) og hx u3
      have hg := Nat.mod_lt n (show 0 < 3 by decide)
      have L := cl_rows (G := G) (w0 := w) (y1 := qR A N (fx A x)) (x3 := nI u) (x4 := nI n) (Φ := Φ) (zRef_s2 (mS2.of F.1) z) ((F.ai (by decide)).trans hA) ok og hx hg hq (fun c w' F' O' => by
          have c' : ¬ qR A N (fx A (cNx (qR A N) A x n)) = qR A N (fx A x) := c
          have e9 : cL (qR A N) A (f + 1) x n u = cL (qR A N) A f (cNx (qR A N) A x n) (n + 1) 0 := by rw [cL, if_pos u3, if_neg c']
          rw [e9] at hΦ
          rw [if_neg c'] at hst
          rw [nI_1]
          exact ih (cNx (qR A N) A x n) (n + 1) 0 w' (by omega) (by omega) (by omega) (cNx_ok og hx) (F.tr F') O' hΦ) (fun c w' F' O' => by
          have c' : qR A N (fx A (cNx (qR A N) A x n)) = qR A N (fx A x) := c
          have e9 : cL (qR A N) A (f + 1) x n u = cL (qR A N) A f (cNx (qR A N) A x n) (n + 1) (u + 1) := by rw [cL, if_pos u3, if_pos c']
          rw [e9] at hΦ
          rw [if_pos c'] at hst
          rw [nI_1, nI_1]
          exact ih (cNx (qR A N) A x n) (n + 1) (u + 1) w' (by omega) (by omega) (by omega) (cNx_ok og hx) (F.tr F') O' hΦ) (cG A (n % 3)) 0 w (by omega) xF.rf (fun h hh _ => O h hh)
      exact L

theorem cl_7 {G : mG} {w : mH} {a0 N g : Nat} {A : Nat → Int32} {Φ : mF} (z : zRef w a0) (hA : hai w (a0 + 1) = A) (ok : rOK A N) (og : gOK A) (hg : g ≤ 3) (O : ∀ h, h < g → hai w (a0 + 21) h = gVal A h 0)
    (K1 : g = 3 → ∀ w', xF [22, 24] [8, 9, 10, 11, 12, 13, 14] a0 w w' → mW G mX11_climb 8 0 0 39 [(0, .ref a0), (1, .long (qR A N (fx A zx))), (3, .int 0), (4, .int 0)] [] w' Φ)
    (K2 : g < 3 → ∀ w', xF [22, 24] [8, 9, 10, 11, 12, 13, 14, 21] a0 w w' → (∀ h, h < g + 1 → hai w' (a0 + 21) h = gVal A h 0) → mW G mX11_climb 8 0 0 7 [(0, .ref a0), (1, .int (nI (g + 1)))] [] w' Φ) : mW G mX11_climb 8 0 0 7 [(0, .ref a0), (1, .int (nI g))] [] w Φ := by
  have h3 : (3 : Int32) ≤ nI g ↔ 3 ≤ g := m_le (a := 3) (by omega) (by omega)
  have i20 := i20_g (g := g)
  refine gX11_climb_7 (N := N) (a0_35 := a0 + 21) (a0_1 := a0 + 1) z.1 z (by intro c1; rw [hA]; exact ok) z.2.2.2.2.2.2.2.2.2.2.2.2.2.2.2.2.2.2.2.2.2.1 z.2.1 z.2.2.2.2.2.2.2.2.2.2.2.2.2.2.2.2.2.2.2.2.2.2.1 (by intro c1; rw [i20]; exact m_vp (by have h := Nat.lt_of_not_le (fun q => c1 (h3.mpr q)); omega) (by decide)) z.2.2.2.2.2.2.2.2.2.2.2.2.2.2.2.2.2.2.2.2.2.2.2.2.2.2.2.2.2.2.2.2.2.2.2.2.2.2.2.2.2.2 (by intro c1; exact m_vp (by have h := Nat.lt_of_not_le (fun q => c1 (h3.mpr q)); omega) (by decide)) ?_ ?_
  · intro c1 w1 q1
    rw [h3] at c1
    have g3 : g = 3 := by omega
    have O' : yOne A zx (hai w (a0 + 21)) := fun h hh => O h (by omega)
    have := K1 g3 w1 q1
    rw [hA, rCW_one O' (zx_ok og)]
    exact this
  · intro c1 w2 e1
    rw [h3] at c1
    rw [m_cl (by omega)] at e1
    have ev : vX11_gridFirst w (nI g) (a0 + 1) = gVal A g 0 := by
      unfold vX11_gridFirst gVal
      rw [i20, m_cl (by omega), hA, show nI 0 = 0 from rfl, Int32.mul_zero, Int32.add_zero]
    rw [ev] at e1
    rw [nI_1]
    refine K2 (by omega) w2 (by rw [e1]; exact xF_sai xF.rf (by decide)) (fun h hh => ?_)
    rw [e1, e_hai_sai, up2_row]
    unfold upd
    by_cases q : h = g
    · rw [if_pos q, q]
    · rw [if_neg q]; exact O h (by omega)
theorem rX11_climb {G : mG} {w : mH} {a0 N : Nat} {A : Nat → Int32} (z : zRef w a0) (hA : hai w (a0 + 1) = A) (ok : rOK A N) (og : gOK A) (hq : ∀ m, m < gT A → 0 ≤ qR A N m) : mC G mX11_climb 8 0 0 [.ref a0] w (mP (some (.int (nI (cL (qR A N) A 648 zx 0 0).2))) (fun w' => xF [0, 22, 24] [8, 9, 10, 11, 12, 13, 14, 17, 18, 19, 20, 21] a0 w w' ∧ hfi w' a0 0 = 0 ∧ fd1 w w' a0 N A (cL (qR A N) A 648 zx 0 0).1)) := by
  refine mC_of (by decide +kernel) rfl (Nat.le_of_ble_eq_true rfl) rfl ?_
  refine gX11_climb_0 z.1 ?_
  intro w5 e5
  have hA5 : hai w5 (a0 + 1) = A := by rw [e5]; exact hA
  have z5 : zRef w5 a0 := by rw [e5]; exact z
  have g0 : hfi w5 a0 0 = 0 := by rw [e5, e_hfi_sfi, up2_at]
  have F5 : xF [0] [] a0 w w5 := by rw [e5]; exact xF_sfi xF.rf (by decide)
  have key : ∀ j g w', g + j = 3 → xF [22, 24] [8, 9, 10, 11, 12, 13, 14, 21] a0 w5 w' → (∀ h, h < g → hai w' (a0 + 21) h = gVal A h 0) → mW G mX11_climb 8 0 0 7 [(0, .ref a0), (1, .int (nI g))] [] w' (mP (some (.int (nI (cL (qR A N) A 648 zx 0 0).2))) (fun w' => xF [0, 22, 24] [8, 9, 10, 11, 12, 13, 14, 17, 18, 19, 20, 21] a0 w w' ∧ hfi w' a0 0 = 0 ∧ fd1 w w' a0 N A (cL (qR A N) A 648 zx 0 0).1)) := by
    intro j
    induction j with
    | zero =>
      intro g w' hj F O
      refine cl_7 (zRef_s2 (mS2.of F.1) z5) ((F.ai (by decide)).trans hA5) ok og (by omega) O (fun g3 w2 F2 => ?_) (fun q => absurd q (by omega))
      have F3 : xF [22, 24] [8, 9, 10, 11, 12, 13, 14, 21] a0 w5 w2 := F.tr (F2.wide (by decide) (by decide))
      have O2 : yOne A zx (hai w2 (a0 + 21)) := fun h hh => by rw [F2.ai (by decide)]; exact O h (by omega)
      exact cl_loop (zRef_s2 (mS2.of F3.1) z5) ((F3.ai (by decide)).trans hA5) ok og hq 648 zx 0 0 w2 (cP_0 og (zx_ok og)) (by decide) (by decide) (zx_ok og) xF.rf O2 (fun w3 F4 D => mP_of (by
        have FF : xF [0, 22, 24] [8, 9, 10, 11, 12, 13, 14, 17, 18, 19, 20, 21] a0 w w3 := ((F5.wide (by decide) (by decide)).tr (F3.wide (by decide) (by decide))).tr (F4.wide (by decide) (by decide))
        refine ⟨FF, ?_, ?_⟩
        · rw [F4.fi (by decide), F3.fi (by decide), g0]
        · unfold fd1 fdR at D ⊢
          rw [F3.ai (i := 17) (by decide), F3.ai (i := 18) (by decide), F3.al (i := 19) (by decide), F3.ai (i := 20) (by decide), F5.ai (i := 17) (by decide), F5.ai (i := 18) (by decide), F5.al (i := 19) (by decide), F5.ai (i := 20) (by decide)] at D
          exact D))
    | succ j ih =>
      intro g w' hj F O
      refine cl_7 (zRef_s2 (mS2.of F.1) z5) ((F.ai (by decide)).trans hA5) ok og (by omega) O (fun q => absurd q (by omega)) (fun _ w2 F2 O2 => ?_)
      exact ih (g + 1) w2 (by omega) (F.tr F2) O2
  exact key 3 0 w5 (by omega) xF.rf (fun h hh => absurd hh (by omega))

