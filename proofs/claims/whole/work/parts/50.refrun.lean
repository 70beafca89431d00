/-! the reference: the run -/
def yNx (A : Nat → Int32) (i s : Int32) : Int32 := if A 10 = 1 then i else if A 10 = 2 then i else if A 7 = 1 then vX11_limited (vX11_limited (i + s) 1000000) (A 8) else vX11_limited (i + s) 1000000
def yRaw (A : Nat → Int32) (s ch i out : Int32) : Int64 := if A 10 = 1 then (if s ≤ A 11 then (if -(A 11) ≤ s then out.toInt64 else (-(A 3)).toInt64) else (A 3).toInt64) else if A 10 = 2 then (rTab A s).toInt64 else ((A 0).toInt64 * s.toInt64 + (A 1).toInt64 * (yNx A i s).toInt64 + (A 2).toInt64 * ch.toInt64) / 64
def coO (w w' : mH) (a0 : Nat) (s ch i out : Int32) : Prop := xF [24] [] a0 w w' ∧ hfi w' a0 24 = yNx (hai w (a0 + 1)) i s ∧ hfl w' a0 23 = yRaw (hai w (a0 + 1)) s ch i out
abbrev mX11_controls : mM := (yX11_controls, cX11_controls, 5, none, [])
theorem p_X11_198 : mPut "LineFollowerBenchModel" 198 11 24 (.int) false := ⟨RX11, TX11, 36, "LineFollowerBenchModel", tyX11, rfl, by decide, in_X11, u1584, Or.inl rfl, by decide, tyX11_ok, nmX11, by decide +kernel, rfl, fun h => by cases h⟩
theorem ob_11_24 (w : mH) (a : Nat) (v : Int32) : mOb (sfi w a 24 v) a 11 = (mOb w a 11).set 24 (.int v) := by simp [mOb, hfi_sfi, hfl_sfi, hfr_sfi, up2]
theorem u1833 : (Cond.constant "LineFollowerBenchModel" 205 1000000 : Cond) ∈ mTs := mTs_in 1833 (by decide +kernel) (by decide +kernel)
theorem u1836 : (Cond.code ⟨"LineFollowerBenchModel", "limited", "(II)I"⟩ prog_13_method_4_code 2 (some .int) : Cond) ∈ mTs := mTs_in 1836 (by decide +kernel) (by decide +kernel)
theorem co_X11_limited : mCode mX11_limited := ⟨u1836, u85, by decide⟩
theorem u1834 : (Cond.methodLink "LineFollowerBenchModel" 206 ⟨"LineFollowerBenchModel", "limited", "(II)I"⟩ : Cond) ∈ mTs := mTs_in 1834 (by decide +kernel) (by decide +kernel)
theorem u1835 : (Cond.static ⟨"LineFollowerBenchModel", "limited", "(II)I"⟩ : Cond) ∈ mTs := mTs_in 1835 (by decide +kernel) (by decide +kernel)
theorem l_X11_206 : mLinkS "LineFollowerBenchModel" 206 2 mX11_limited := ⟨⟨by decide, by decide, by decide +kernel⟩, co_X11_limited, u1834, u1835⟩
theorem u1837 : (Cond.constantLong "LineFollowerBenchModel" 209 64 : Cond) ∈ mTs := mTs_in 1837 (by decide +kernel) (by decide +kernel)
theorem p_X11_201 : mPut "LineFollowerBenchModel" 201 11 23 (.long) false := ⟨RX11, TX11, 36, "LineFollowerBenchModel", tyX11, rfl, by decide, in_X11, u1583, Or.inl rfl, by decide, tyX11_ok, nmX11, by decide +kernel, rfl, fun h => by cases h⟩
theorem ob_11_23 (w : mH) (a : Nat) (v : Int64) : mOb (sfl w a 23 v) a 11 = (mOb w a 11).set 23 (.long v) := by simp [mOb, hfi_sfl, hfl_sfl, hfr_sfl, up2]
set_option maxHeartbeats 4000000 in
set_option maxRecDepth 100000 in
theorem gX11_controls_0 {G : mG} {w : mH} {Φ : mF} {a0 : Nat} {x1 x2 x3 x4 : Int32} {a0_1 n_a0_1 : Nat} (h1 : hk w a0 = (11, 0)) (h2 : hfr w a0 1 = some a0_1) (h3 : hk w a0_1 = (16, n_a0_1)) (s1 : vp_in 10 n_a0_1) (s2 : vp_in 7 n_a0_1) (s3 : vp_in 0 n_a0_1) (s4 : vp_in 1 n_a0_1) (s5 : vp_in 2 n_a0_1) (s6 : vp_in 8 n_a0_1) (s7 : vp_in 0 n_a0_1) (s8 : vp_in 1 n_a0_1) (s9 : vp_in 2 n_a0_1) (h4 : zRef w a0) (s10 : ∀ w1 : mH, (w1 = sfi w a0 24 x3) → (¬ ((hai w1 a0_1 10) = 1)) → ((hai w1 a0_1 10) = 2) → ptOK (hai w1 (a0 + 1))) (s11 : ∀ w1 : mH, (w1 = sfi w a0 24 x3) → (¬ ((hai w1 a0_1 10) = 1)) → ((hai w1 a0_1 10) = 2) → srt (hai w1 (a0 + 1))) (s12 : vp_in 11 n_a0_1) (s13 : vp_in 3 n_a0_1) (s14 : vp_in 3 n_a0_1) (k1 : ∀ w1 : mH, (w1 = sfi w a0 24 x3) → (¬ ((hai w1 a0_1 10) = 1)) → (¬ ((hai w1 a0_1 10) = 2)) → ∀ w2 : mH, (w2 = sfi w1 a0 24 (vX11_limited (x3 + x1) 1000000)) → (¬ ((hai w2 a0_1 7) = 1)) → ∀ w3 : mH, (w3 = sfi w2 a0 24 (vX11_limited (x3 + x1) 1000000)) → ∀ w4 : mH, (w4 = sfl w3 a0 23 ((((((hai w3 a0_1 0).toInt64) * x1.toInt64) + (((hai w3 a0_1 1).toInt64) * ((vX11_limited (x3 + x1) 1000000).toInt64))) + (((hai w3 a0_1 2).toInt64) * x2.toInt64)) / 64)) → Φ (.inl none) w4) (k2 : ∀ w1 : mH, (w1 = sfi w a0 24 x3) → (¬ ((hai w1 a0_1 10) = 1)) → (¬ ((hai w1 a0_1 10) = 2)) → ∀ w2 : mH, (w2 = sfi w1 a0 24 (vX11_limited (x3 + x1) 1000000)) → ((hai w2 a0_1 7) = 1) → ∀ w5 : mH, (w5 = sfi w2 a0 24 (vX11_limited (vX11_limited (x3 + x1) 1000000) (hai w2 a0_1 8))) → ∀ w6 : mH, (w6 = sfl w5 a0 23 ((((((hai w5 a0_1 0).toInt64) * x1.toInt64) + (((hai w5 a0_1 1).toInt64) * ((vX11_limited (vX11_limited (x3 + x1) 1000000) (hai w2 a0_1 8)).toInt64))) + (((hai w5 a0_1 2).toInt64) * x2.toInt64)) / 64)) → Φ (.inl none) w6) (k3 : ∀ w1 : mH, (w1 = sfi w a0 24 x3) → (¬ ((hai w1 a0_1 10) = 1)) → ((hai w1 a0_1 10) = 2) → ∀ w7 : mH, (w7 = sfl w1 a0 23 ((rTab (hai w1 (a0 + 1)) x1).toInt64)) → Φ (.inl none) w7) (k4 : ∀ w1 : mH, (w1 = sfi w a0 24 x3) → ((hai w1 a0_1 10) = 1) → (x1 ≤ (hai w1 a0_1 11)) → ((-(hai w1 a0_1 11)) ≤ x1) → ∀ w8 : mH, (w8 = sfl w1 a0 23 x4.toInt64) → Φ (.inl none) w8) (k5 : ∀ w1 : mH, (w1 = sfi w a0 24 x3) → ((hai w1 a0_1 10) = 1) → (x1 ≤ (hai w1 a0_1 11)) → (¬ ((-(hai w1 a0_1 11)) ≤ x1)) → ∀ w9 : mH, (w9 = sfl w1 a0 23 ((-(hai w1 a0_1 3)).toInt64)) → Φ (.inl none) w9) (k6 : ∀ w1 : mH, (w1 = sfi w a0 24 x3) → ((hai w1 a0_1 10) = 1) → (¬ (x1 ≤ (hai w1 a0_1 11))) → ∀ w10 : mH, (w10 = sfl w1 a0 23 ((hai w1 a0_1 3).toInt64)) → Φ (.inl none) w10) : mW G mX11_controls 3 0 0 0 [(0, .ref a0), (1, .int x1), (2, .int x2), (3, .int x3), (4, .int x4)] [] w Φ := by
  refine mW_aload_n (j := 0) dX11_controls_0 rfl rfl ?_
  refine mW_iload_n (j := 3) dX11_controls_1 rfl rfl ?_
  refine mW_put (ty := .int) (w2 := sfi w a0 24 x3) dX11_controls_2 p_X11_198 h1 (Nat.le_of_ble_eq_true rfl) (by first | rfl | decide | (repeat' split) <;> rfl) rfl (hN_sfi _ _ _ _) (hk_sfi _ _ _ _) (mE_sfi h1 (by decide) (ob_11_24 _ _ _)) ?_
  refine mW_nm (fun w1 e1 => ?_)
  refine mW_aload_n (j := 0) dX11_controls_5 rfl rfl ?_
  refine mW_getR dX11_controls_6 f_X11_13 (s2k (S2_sfi e1) h1) rfl (s2r (S2_sfi e1) h2) ?_
  refine mW_bipush (v := 10) dX11_controls_9 (by decide) ?_
  refine mW_ialdJ dX11_controls_11 (s2k (S2_sfi e1) h3) s1 (j := 10) (by decide) ?_
  refine mW_iconst (v := 1) dX11_controls_12 (by decide) ?_
  refine mW_icmp_ne (tgt := 70) dX11_controls_13 (by decide) (fun c1 => ?_) (fun c1 => ?_)
  · refine mW_aload_n (j := 0) dX11_controls_70 rfl rfl ?_
    refine mW_getR dX11_controls_71 f_X11_13 (s2k (S2_sfi e1) h1) rfl (s2r (S2_sfi e1) h2) ?_
    refine mW_bipush (v := 10) dX11_controls_74 (by decide) ?_
    refine mW_ialdJ dX11_controls_76 (s2k (S2_sfi e1) h3) s1 (j := 10) (by decide) ?_
    refine mW_iconst (v := 2) dX11_controls_77 (by decide) ?_
    refine mW_icmp_ne (tgt := 94) dX11_controls_78 (by decide) (fun c2 => ?_) (fun c2 => ?_)
    · refine mW_aload_n (j := 0) dX11_controls_94 rfl rfl ?_
      refine mW_iload_n (j := 3) dX11_controls_95 rfl rfl ?_
      refine mW_iload_n (j := 1) dX11_controls_96 rfl rfl ?_
      refine mW_iadd dX11_controls_97 ?_
      refine mW_ldc (v := 1000000) dX11_controls_98 u1833 ?_
      refine mW_callSe (As := [.int (x3 + x1), .int 1000000]) (rest := [.ref a0]) (kc2 := 0) (ks2 := 0) dX11_controls_100 l_X11_206 rfl (qX11_limited (w := w1) (x0 := x3 + x1) (x1 := 1000000)) (Nat.le_of_ble_eq_true rfl) (by decide) rfl rfl ?_
      refine mW_put (ty := .int) (w2 := sfi w1 a0 24 (vX11_limited (x3 + x1) 1000000)) dX11_controls_103 p_X11_198 (s2k (S2_sfi e1) h1) (Nat.le_of_ble_eq_true rfl) (by first | rfl | decide | (repeat' split) <;> rfl) rfl (hN_sfi _ _ _ _) (hk_sfi _ _ _ _) (mE_sfi (s2k (S2_sfi e1) h1) (by decide) (ob_11_24 _ _ _)) ?_
      refine mW_nm (fun w2 e2 => ?_)
      refine mW_aload_n (j := 0) dX11_controls_106 rfl rfl ?_
      refine mW_aload_n (j := 0) dX11_controls_107 rfl rfl ?_
      refine mW_getR dX11_controls_108 f_X11_13 (s2k (S2_sfi e2) (s2k (S2_sfi e1) h1)) rfl (s2r (S2_sfi e2) (s2r (S2_sfi e1) h2)) ?_
      refine mW_bipush (v := 7) dX11_controls_111 (by decide) ?_
      refine mW_ialdJ dX11_controls_113 (s2k (S2_sfi e2) (s2k (S2_sfi e1) h3)) s2 (j := 7) (by decide) ?_
      refine mW_iconst (v := 1) dX11_controls_114 (by decide) ?_
      refine mW_icmp_ne (tgt := 135) dX11_controls_115 (by decide) (fun c3 => ?_) (fun c3 => ?_)
      · refine mW_aload_n (j := 0) dX11_controls_135 rfl rfl ?_
        refine mW_getL (v := (vX11_limited (x3 + x1) 1000000)) dX11_controls_136 f_X11_198 (s2k (S2_sfi e2) (s2k (S2_sfi e1) h1)) rfl (by rw [e2, e_hfi_sfi, up2_at]) ?_
        refine mW_put (ty := .int) (w2 := sfi w2 a0 24 (vX11_limited (x3 + x1) 1000000)) dX11_controls_139 p_X11_198 (s2k (S2_sfi e2) (s2k (S2_sfi e1) h1)) (Nat.le_of_ble_eq_true rfl) (by first | rfl | decide | (repeat' split) <;> rfl) rfl (hN_sfi _ _ _ _) (hk_sfi _ _ _ _) (mE_sfi (s2k (S2_sfi e2) (s2k (S2_sfi e1) h1)) (by decide) (ob_11_24 _ _ _)) ?_
        refine mW_nm (fun w3 e3 => ?_)
        refine mW_aload_n (j := 0) dX11_controls_142 rfl rfl ?_
        refine mW_aload_n (j := 0) dX11_controls_143 rfl rfl ?_
        refine mW_getR dX11_controls_144 f_X11_13 (s2k (S2_sfi e3) (s2k (S2_sfi e2) (s2k (S2_sfi e1) h1))) rfl (s2r (S2_sfi e3) (s2r (S2_sfi e2) (s2r (S2_sfi e1) h2))) ?_
        refine mW_iconst (v := 0) dX11_controls_147 (by decide) ?_
        refine mW_ialdJ dX11_controls_148 (s2k (S2_sfi e3) (s2k (S2_sfi e2) (s2k (S2_sfi e1) h3))) s3 (j := 0) (by decide) ?_
        refine mW_i2l dX11_controls_149 ?_
        refine mW_iload_n (j := 1) dX11_controls_150 rfl rfl ?_
        refine mW_i2l dX11_controls_151 ?_
        refine mW_lmul dX11_controls_152 ?_
        refine mW_aload_n (j := 0) dX11_controls_153 rfl rfl ?_
        refine mW_getR dX11_controls_154 f_X11_13 (s2k (S2_sfi e3) (s2k (S2_sfi e2) (s2k (S2_sfi e1) h1))) rfl (s2r (S2_sfi e3) (s2r (S2_sfi e2) (s2r (S2_sfi e1) h2))) ?_
        refine mW_iconst (v := 1) dX11_controls_157 (by decide) ?_
        refine mW_ialdJ dX11_controls_158 (s2k (S2_sfi e3) (s2k (S2_sfi e2) (s2k (S2_sfi e1) h3))) s4 (j := 1) (by decide) ?_
        refine mW_i2l dX11_controls_159 ?_
        refine mW_aload_n (j := 0) dX11_controls_160 rfl rfl ?_
        refine mW_getL (v := (vX11_limited (x3 + x1) 1000000)) dX11_controls_161 f_X11_198 (s2k (S2_sfi e3) (s2k (S2_sfi e2) (s2k (S2_sfi e1) h1))) rfl (by rw [e3, e_hfi_sfi, up2_at]) ?_
        refine mW_i2l dX11_controls_164 ?_
        refine mW_lmul dX11_controls_165 ?_
        refine mW_ladd dX11_controls_166 ?_
        refine mW_aload_n (j := 0) dX11_controls_167 rfl rfl ?_
        refine mW_getR dX11_controls_168 f_X11_13 (s2k (S2_sfi e3) (s2k (S2_sfi e2) (s2k (S2_sfi e1) h1))) rfl (s2r (S2_sfi e3) (s2r (S2_sfi e2) (s2r (S2_sfi e1) h2))) ?_
        refine mW_iconst (v := 2) dX11_controls_171 (by decide) ?_
        refine mW_ialdJ dX11_controls_172 (s2k (S2_sfi e3) (s2k (S2_sfi e2) (s2k (S2_sfi e1) h3))) s5 (j := 2) (by decide) ?_
        refine mW_i2l dX11_controls_173 ?_
        refine mW_iload_n (j := 2) dX11_controls_174 rfl rfl ?_
        refine mW_i2l dX11_controls_175 ?_
        refine mW_lmul dX11_controls_176 ?_
        refine mW_ladd dX11_controls_177 ?_
        refine mW_ldc2 (v := 64) dX11_controls_178 u1837 ?_
        refine mW_ldiv dX11_controls_181 (by decide) ?_
        refine mW_put (ty := .long) (w2 := sfl w3 a0 23 ((((((hai w3 a0_1 0).toInt64) * x1.toInt64) + (((hai w3 a0_1 1).toInt64) * ((vX11_limited (x3 + x1) 1000000).toInt64))) + (((hai w3 a0_1 2).toInt64) * x2.toInt64)) / 64)) dX11_controls_182 p_X11_201 (s2k (S2_sfi e3) (s2k (S2_sfi e2) (s2k (S2_sfi e1) h1))) (Nat.le_of_ble_eq_true rfl) (by first | rfl | decide | (repeat' split) <;> rfl) rfl (hN_sfl _ _ _ _) (hk_sfl _ _ _ _) (mE_sfl (s2k (S2_sfi e3) (s2k (S2_sfi e2) (s2k (S2_sfi e1) h1))) (by decide) (ob_11_23 _ _ _)) ?_
        refine mW_nm (fun w4 e4 => ?_)
        exact mW_vret dX11_controls_185 rfl (k1 w1 e1 c1 c2 w2 e2 c3 w3 e3 w4 e4)
      · refine mW_aload_n (j := 0) dX11_controls_118 rfl rfl ?_
        refine mW_getL (v := (vX11_limited (x3 + x1) 1000000)) dX11_controls_119 f_X11_198 (s2k (S2_sfi e2) (s2k (S2_sfi e1) h1)) rfl (by rw [e2, e_hfi_sfi, up2_at]) ?_
        refine mW_aload_n (j := 0) dX11_controls_122 rfl rfl ?_
        refine mW_getR dX11_controls_123 f_X11_13 (s2k (S2_sfi e2) (s2k (S2_sfi e1) h1)) rfl (s2r (S2_sfi e2) (s2r (S2_sfi e1) h2)) ?_
        refine mW_bipush (v := 8) dX11_controls_126 (by decide) ?_
        refine mW_ialdJ dX11_controls_128 (s2k (S2_sfi e2) (s2k (S2_sfi e1) h3)) s6 (j := 8) (by decide) ?_
        refine mW_callSe (As := [.int (vX11_limited (x3 + x1) 1000000), .int (hai w2 a0_1 8)]) (rest := [.ref a0]) (kc2 := 0) (ks2 := 0) dX11_controls_129 l_X11_206 rfl (qX11_limited (w := w2) (x0 := (vX11_limited (x3 + x1) 1000000)) (x1 := hai w2 a0_1 8)) (Nat.le_of_ble_eq_true rfl) (by decide) rfl rfl ?_
        refine mW_goto (tgt := 139) dX11_controls_132 (by decide) ?_
        refine mW_put (ty := .int) (w2 := sfi w2 a0 24 (vX11_limited (vX11_limited (x3 + x1) 1000000) (hai w2 a0_1 8))) dX11_controls_139 p_X11_198 (s2k (S2_sfi e2) (s2k (S2_sfi e1) h1)) (Nat.le_of_ble_eq_true rfl) (by first | rfl | decide | (repeat' split) <;> rfl) rfl (hN_sfi _ _ _ _) (hk_sfi _ _ _ _) (mE_sfi (s2k (S2_sfi e2) (s2k (S2_sfi e1) h1)) (by decide) (ob_11_24 _ _ _)) ?_
        refine mW_nm (fun w5 e5 => ?_)
        refine mW_aload_n (j := 0) dX11_controls_142 rfl rfl ?_
        refine mW_aload_n (j := 0) dX11_controls_143 rfl rfl ?_
        refine mW_getR dX11_controls_144 f_X11_13 (s2k (S2_sfi e5) (s2k (S2_sfi e2) (s2k (S2_sfi e1) h1))) rfl (s2r (S2_sfi e5) (s2r (S2_sfi e2) (s2r (S2_sfi e1) h2))) ?_
        refine mW_iconst (v := 0) dX11_controls_147 (by decide) ?_
        refine mW_ialdJ dX11_controls_148 (s2k (S2_sfi e5) (s2k (S2_sfi e2) (s2k (S2_sfi e1) h3))) s7 (j := 0) (by decide) ?_
        refine mW_i2l dX11_controls_149 ?_
        refine mW_iload_n (j := 1) dX11_controls_150 rfl rfl ?_
        refine mW_i2l dX11_controls_151 ?_
        refine mW_lmul dX11_controls_152 ?_
        refine mW_aload_n (j := 0) dX11_controls_153 rfl rfl ?_
        refine mW_getR dX11_controls_154 f_X11_13 (s2k (S2_sfi e5) (s2k (S2_sfi e2) (s2k (S2_sfi e1) h1))) rfl (s2r (S2_sfi e5) (s2r (S2_sfi e2) (s2r (S2_sfi e1) h2))) ?_
        refine mW_iconst (v := 1) dX11_controls_157 (by decide) ?_
        refine mW_ialdJ dX11_controls_158 (s2k (S2_sfi e5) (s2k (S2_sfi e2) (s2k (S2_sfi e1) h3))) s8 (j := 1) (by decide) ?_
        refine mW_i2l dX11_controls_159 ?_
        refine mW_aload_n (j := 0) dX11_controls_160 rfl rfl ?_
        refine mW_getL (v := (vX11_limited (vX11_limited (x3 + x1) 1000000) (hai w2 a0_1 8))) dX11_controls_161 f_X11_198 (s2k (S2_sfi e5) (s2k (S2_sfi e2) (s2k (S2_sfi e1) h1))) rfl (by rw [e5, e_hfi_sfi, up2_at]) ?_
        refine mW_i2l dX11_controls_164 ?_
        refine mW_lmul dX11_controls_165 ?_
        refine mW_ladd dX11_controls_166 ?_
        refine mW_aload_n (j := 0) dX11_controls_167 rfl rfl ?_
        refine mW_getR dX11_controls_168 f_X11_13 (s2k (S2_sfi e5) (s2k (S2_sfi e2) (s2k (S2_sfi e1) h1))) rfl (s2r (S2_sfi e5) (s2r (S2_sfi e2) (s2r (S2_sfi e1) h2))) ?_
        refine mW_iconst (v := 2) dX11_controls_171 (by decide) ?_
        refine mW_ialdJ dX11_controls_172 (s2k (S2_sfi e5) (s2k (S2_sfi e2) (s2k (S2_sfi e1) h3))) s9 (j := 2) (by decide) ?_
        refine mW_i2l dX11_controls_173 ?_
        refine mW_iload_n (j := 2) dX11_controls_174 rfl rfl ?_
        refine mW_i2l dX11_controls_175 ?_
        refine mW_lmul dX11_controls_176 ?_
        refine mW_ladd dX11_controls_177 ?_
        refine mW_ldc2 (v := 64) dX11_controls_178 u1837 ?_
        refine mW_ldiv dX11_controls_181 (by decide) ?_
        refine mW_put (ty := .long) (w2 := sfl w5 a0 23 ((((((hai w5 a0_1 0).toInt64) * x1.toInt64) + (((hai w5 a0_1 1).toInt64) * ((vX11_limited (vX11_limited (x3 + x1) 1000000) (hai w2 a0_1 8)).toInt64))) + (((hai w5 a0_1 2).toInt64) * x2.toInt64)) / 64)) dX11_controls_182 p_X11_201 (s2k (S2_sfi e5) (s2k (S2_sfi e2) (s2k (S2_sfi e1) h1))) (Nat.le_of_ble_eq_true rfl) (by first | rfl | decide | (repeat' split) <;> rfl) rfl (hN_sfl _ _ _ _) (hk_sfl _ _ _ _) (mE_sfl (s2k (S2_sfi e5) (s2k (S2_sfi e2) (s2k (S2_sfi e1) h1))) (by decide) (ob_11_23 _ _ _)) ?_
        refine mW_nm (fun w6 e6 => ?_)
        exact mW_vret dX11_controls_185 rfl (k2 w1 e1 c1 c2 w2 e2 c3 w5 e5 w6 e6)
    · refine mW_aload_n (j := 0) dX11_controls_81 rfl rfl ?_
      refine mW_aload_n (j := 0) dX11_controls_82 rfl rfl ?_
      refine mW_iload_n (j := 1) dX11_controls_83 rfl rfl ?_
      refine mW_callVe (As := [.int x1]) (rest := [.ref a0]) (kc2 := 0) (ks2 := 0) dX11_controls_84 l_X11_121 rfl (s2k (S2_sfi e1) h1) rfl (by decide) (qX11_tabled' (w := w1) (a0 := a0) (x1 := x1) (zRef_s2 (S2_sfi e1) h4) (s10 w1 e1 c1 c2) (s11 w1 e1 c1 c2)) (Nat.le_of_ble_eq_true rfl) (by decide) rfl rfl ?_
      refine mW_i2l dX11_controls_87 ?_
      refine mW_put (ty := .long) (w2 := sfl w1 a0 23 ((rTab (hai w1 (a0 + 1)) x1).toInt64)) dX11_controls_88 p_X11_201 (s2k (S2_sfi e1) h1) (Nat.le_of_ble_eq_true rfl) (by first | rfl | decide | (repeat' split) <;> rfl) rfl (hN_sfl _ _ _ _) (hk_sfl _ _ _ _) (mE_sfl (s2k (S2_sfi e1) h1) (by decide) (ob_11_23 _ _ _)) ?_
      refine mW_nm (fun w7 e7 => ?_)
      refine mW_goto (tgt := 185) dX11_controls_91 (by decide) ?_
      exact mW_vret dX11_controls_185 rfl (k3 w1 e1 c1 c2 w7 e7)
  · refine mW_aload_n (j := 0) dX11_controls_16 rfl rfl ?_
    refine mW_iload_n (j := 1) dX11_controls_17 rfl rfl ?_
    refine mW_aload_n (j := 0) dX11_controls_18 rfl rfl ?_
    refine mW_getR dX11_controls_19 f_X11_13 (s2k (S2_sfi e1) h1) rfl (s2r (S2_sfi e1) h2) ?_
    refine mW_bipush (v := 11) dX11_controls_22 (by decide) ?_
    refine mW_ialdJ dX11_controls_24 (s2k (S2_sfi e1) h3) s12 (j := 11) (by decide) ?_
    refine mW_icmp_le (tgt := 38) dX11_controls_25 (by decide) (fun c4 => ?_) (fun c4 => ?_)
    · refine mW_iload_n (j := 1) dX11_controls_38 rfl rfl ?_
      refine mW_aload_n (j := 0) dX11_controls_39 rfl rfl ?_
      refine mW_getR dX11_controls_40 f_X11_13 (s2k (S2_sfi e1) h1) rfl (s2r (S2_sfi e1) h2) ?_
      refine mW_bipush (v := 11) dX11_controls_43 (by decide) ?_
      refine mW_ialdJ dX11_controls_45 (s2k (S2_sfi e1) h3) s12 (j := 11) (by decide) ?_
      refine mW_ineg dX11_controls_46 ?_
      refine mW_icmp_ge (tgt := 61) dX11_controls_47 (by decide) (fun c5 => ?_) (fun c5 => ?_)
      · refine mW_iload (j := 4) dX11_controls_61 rfl ?_
        refine mW_i2l dX11_controls_63 ?_
        refine mW_put (ty := .long) (w2 := sfl w1 a0 23 x4.toInt64) dX11_controls_64 p_X11_201 (s2k (S2_sfi e1) h1) (Nat.le_of_ble_eq_true rfl) (by first | rfl | decide | (repeat' split) <;> rfl) rfl (hN_sfl _ _ _ _) (hk_sfl _ _ _ _) (mE_sfl (s2k (S2_sfi e1) h1) (by decide) (ob_11_23 _ _ _)) ?_
        refine mW_nm (fun w8 e8 => ?_)
        refine mW_goto (tgt := 185) dX11_controls_67 (by decide) ?_
        exact mW_vret dX11_controls_185 rfl (k4 w1 e1 c1 c4 c5 w8 e8)
      · refine mW_aload_n (j := 0) dX11_controls_50 rfl rfl ?_
        refine mW_getR dX11_controls_51 f_X11_13 (s2k (S2_sfi e1) h1) rfl (s2r (S2_sfi e1) h2) ?_
        refine mW_iconst (v := 3) dX11_controls_54 (by decide) ?_
        refine mW_ialdJ dX11_controls_55 (s2k (S2_sfi e1) h3) s13 (j := 3) (by decide) ?_
        refine mW_ineg dX11_controls_56 ?_
        refine mW_i2l dX11_controls_57 ?_
        refine mW_goto (tgt := 64) dX11_controls_58 (by decide) ?_
        refine mW_put (ty := .long) (w2 := sfl w1 a0 23 ((-(hai w1 a0_1 3)).toInt64)) dX11_controls_64 p_X11_201 (s2k (S2_sfi e1) h1) (Nat.le_of_ble_eq_true rfl) (by first | rfl | decide | (repeat' split) <;> rfl) rfl (hN_sfl _ _ _ _) (hk_sfl _ _ _ _) (mE_sfl (s2k (S2_sfi e1) h1) (by decide) (ob_11_23 _ _ _)) ?_
        refine mW_nm (fun w9 e9 => ?_)
        refine mW_goto (tgt := 185) dX11_controls_67 (by decide) ?_
        exact mW_vret dX11_controls_185 rfl (k5 w1 e1 c1 c4 c5 w9 e9)
    · refine mW_aload_n (j := 0) dX11_controls_28 rfl rfl ?_
      refine mW_getR dX11_controls_29 f_X11_13 (s2k (S2_sfi e1) h1) rfl (s2r (S2_sfi e1) h2) ?_
      refine mW_iconst (v := 3) dX11_controls_32 (by decide) ?_
      refine mW_ialdJ dX11_controls_33 (s2k (S2_sfi e1) h3) s14 (j := 3) (by decide) ?_
      refine mW_i2l dX11_controls_34 ?_
      refine mW_goto (tgt := 64) dX11_controls_35 (by decide) ?_
      refine mW_put (ty := .long) (w2 := sfl w1 a0 23 ((hai w1 a0_1 3).toInt64)) dX11_controls_64 p_X11_201 (s2k (S2_sfi e1) h1) (Nat.le_of_ble_eq_true rfl) (by first | rfl | decide | (repeat' split) <;> rfl) rfl (hN_sfl _ _ _ _) (hk_sfl _ _ _ _) (mE_sfl (s2k (S2_sfi e1) h1) (by decide) (ob_11_23 _ _ _)) ?_
      refine mW_nm (fun w10 e10 => ?_)
      refine mW_goto (tgt := 185) dX11_controls_67 (by decide) ?_
      exact mW_vret dX11_controls_185 rfl (k6 w1 e1 c1 c4 w10 e10)
theorem rX11_controls {G : mG} {w : mH} {a0 : Nat} {x1 x2 x3 x4 : Int32} (z : zRef w a0) (hp : ptOK (hai w (a0 + 1))) (hs : srt (hai w (a0 + 1))) : mC G mX11_controls 3 0 0 [.ref a0, .int x1, .int x2, .int x3, .int x4] w (mP none (fun w' => coO w w' a0 x1 x2 x3 x4)) := by
  refine mC_of (by decide +kernel) rfl (Nat.le_of_ble_eq_true rfl) rfl ?_
  refine gX11_controls_0 (a0_1 := a0 + 1) z.1 z.2.1 z.2.2.2.2.2.2.2.2.2.2.2.2.2.2.2.2.2.2.2.2.2.2.1 (by intros; unfold vp_in; decide) (by intros; unfold vp_in; decide) (by intros; unfold vp_in; decide) (by intros; unfold vp_in; decide) (by intros; unfold vp_in; decide) (by intros; unfold vp_in; decide) (by intros; unfold vp_in; decide) (by intros; unfold vp_in; decide) (by intros; unfold vp_in; decide) z (by intro w1 e1 c1 c2; subst e1; assumption) (by intro w1 e1 c1 c2; subst e1; assumption) (by intros; unfold vp_in; decide) (by intros; unfold vp_in; decide) (by intros; unfold vp_in; decide) ?_ ?_ ?_ ?_ ?_ ?_
  · intro w1 e1 c1 c2 w2 e2 c3 w3 e3 w4 e4
    have F : xF [24] [] a0 w w4 := by rw [e4, e3, e2, e1]; exact xF_sfl (xF_sfi (xF_sfi (xF_sfi (xF.rf) (by decide)) (by decide)) (by decide))
    have r1 : hai w1 (a0 + 1) = hai w (a0 + 1) := by rw [e1]; rfl
    have r2 : hai w2 (a0 + 1) = hai w (a0 + 1) := by rw [e2]; exact r1
    have r3 : hai w3 (a0 + 1) = hai w (a0 + 1) := by rw [e3]; exact r2
    rw [r1] at c1 c2
    rw [r2] at c3
    rw [r3] at e4
    have y : yNx (hai w (a0 + 1)) x3 x1 = vX11_limited (x3 + x1) 1000000 := by unfold yNx; rw [if_neg c1, if_neg c2, if_neg c3]
    exact mP_of ⟨F, by rw [y, e4, e_hfi_sfl, e3, e_hfi_sfi, up2_at], by unfold yRaw; rw [if_neg c1, if_neg c2, y, e4, e_hfl_sfl, up2_at]⟩
  · intro w1 e1 c1 c2 w2 e2 c3 w5 e5 w6 e6
    have F : xF [24] [] a0 w w6 := by rw [e6, e5, e2, e1]; exact xF_sfl (xF_sfi (xF_sfi (xF_sfi (xF.rf) (by decide)) (by decide)) (by decide))
    have r1 : hai w1 (a0 + 1) = hai w (a0 + 1) := by rw [e1]; rfl
    have r2 : hai w2 (a0 + 1) = hai w (a0 + 1) := by rw [e2]; exact r1
    have r3 : hai w5 (a0 + 1) = hai w (a0 + 1) := by rw [e5]; exact r2
    rw [r1] at c1 c2
    rw [r2] at c3
    rw [r2] at e5 e6
    rw [r3] at e6
    have y : yNx (hai w (a0 + 1)) x3 x1 = vX11_limited (vX11_limited (x3 + x1) 1000000) (hai w (a0 + 1) 8) := by unfold yNx; rw [if_neg c1, if_neg c2, if_pos c3]
    exact mP_of ⟨F, by rw [y, e6, e_hfi_sfl, e5, e_hfi_sfi, up2_at], by unfold yRaw; rw [if_neg c1, if_neg c2, y, e6, e_hfl_sfl, up2_at]⟩
  · intro w1 e1 c1 c2 w7 e7
    have F : xF [24] [] a0 w w7 := by rw [e7, e1]; exact xF_sfl (xF_sfi (xF.rf) (by decide))
    have r1 : hai w1 (a0 + 1) = hai w (a0 + 1) := by rw [e1]; rfl
    rw [r1] at c1 c2 e7
    exact mP_of ⟨F, by unfold yNx; rw [if_neg c1, if_pos c2, e7, e_hfi_sfl, e1, e_hfi_sfi, up2_at], by unfold yRaw; rw [if_neg c1, if_pos c2, e7, e_hfl_sfl, up2_at]⟩
  · intro w1 e1 c1 c4 c5 w8 e8
    have F : xF [24] [] a0 w w8 := by rw [e8, e1]; exact xF_sfl (xF_sfi (xF.rf) (by decide))
    have r1 : hai w1 (a0 + 1) = hai w (a0 + 1) := by rw [e1]; rfl
    rw [r1] at c1 c4 c5 
    exact mP_of ⟨F, by unfold yNx; rw [if_pos c1, e8, e_hfi_sfl, e1, e_hfi_sfi, up2_at], by unfold yRaw; rw [if_pos c1, if_pos c4, if_pos c5, e8, e_hfl_sfl, up2_at]⟩
  · intro w1 e1 c1 c4 c5 w9 e9
    have F : xF [24] [] a0 w w9 := by rw [e9, e1]; exact xF_sfl (xF_sfi (xF.rf) (by decide))
    have r1 : hai w1 (a0 + 1) = hai w (a0 + 1) := by rw [e1]; rfl
    rw [r1] at c1 c4 c5 e9
    exact mP_of ⟨F, by unfold yNx; rw [if_pos c1, e9, e_hfi_sfl, e1, e_hfi_sfi, up2_at], by unfold yRaw; rw [if_pos c1, if_pos c4, if_neg c5, e9, e_hfl_sfl, up2_at]⟩
  · intro w1 e1 c1 c4 w10 e10
    have F : xF [24] [] a0 w w10 := by rw [e10, e1]; exact xF_sfl (xF_sfi (xF.rf) (by decide))
    have r1 : hai w1 (a0 + 1) = hai w (a0 + 1) := by rw [e1]; rfl
    rw [r1] at c1 c4 e10
    exact mP_of ⟨F, by unfold yNx; rw [if_pos c1, e10, e_hfi_sfl, e1, e_hfi_sfi, up2_at], by unfold yRaw; rw [if_pos c1, if_neg c4, e10, e_hfl_sfl, up2_at]⟩

