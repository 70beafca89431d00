abbrev mX11_describe : mM := (yX11_describe, cX11_describe, 4, (some .int), [])
set_option maxHeartbeats 4000000 in
set_option maxRecDepth 100000 in
theorem gX11_describe_0 {G : mG} {w : mH} {Φ : mF} {a0 : Nat} {x1 : Int32} (h1 : hk w a0 = (11, 0)) (k1 : ∀ w1 : mH, (w1 = sfi w a0 14 0) → mW G mX11_describe 3 0 0 7 [(0, .ref a0), (1, .int x1), (2, .int 0)] [] w1 Φ) : mW G mX11_describe 3 0 0 0 [(0, .ref a0), (1, .int x1)] [] w Φ := by
  refine mW_aload_n (j := 0) dX11_describe_0 rfl rfl ?_
  refine mW_iconst (v := 0) dX11_describe_1 (by decide) ?_
  refine mW_put (ty := .int) (w2 := sfi w a0 14 0) dX11_describe_2 p_X11_176 h1 (Nat.le_of_ble_eq_true rfl) (by first | rfl | decide | (repeat' split) <;> rfl) rfl (hN_sfi _ _ _ _) (hk_sfi _ _ _ _) (mE_sfi h1 (by decide) (ob_11_14 _ _ _)) ?_
  refine mW_nm (fun w1 e1 => ?_)
  refine mW_iconst (v := 0) dX11_describe_5 (by decide) ?_
  refine mW_istore_n (lv2 := [(2, .int 0), (0, .ref a0), (1, .int x1)]) dX11_describe_6 rfl (by decide) rfl ?_
  refine mW_loc [1, 2, 0] (lv2 := [(0, .ref a0), (1, .int x1), (2, .int 0)]) rfl ?_
  exact k1 w1 e1
set_option maxHeartbeats 4000000 in
set_option maxRecDepth 100000 in
theorem gX11_describe_7 {G : mG} {w : mH} {Φ : mF} {a0 : Nat} {x1 x2 : Int32} {a0_1 n_a0_1 : Nat} (h1 : hk w a0 = (11, 0)) (h2 : hfr w a0 1 = some a0_1) (h3 : hk w a0_1 = (16, n_a0_1)) (s1 : vp_in 40 n_a0_1) (h4 : zRef w a0) (s2 : (¬ ((hai w a0_1 40) ≤ x2)) → (¬ ((hfi w a0 14) ≤ 0)) → tL w a0 199) (k1 : ((hai w a0_1 40) ≤ x2) → mW G mX11_describe 3 0 0 121 [(0, .ref a0), (1, .int x1), (2, .int x2)] [] w Φ) (k2 : (¬ ((hai w a0_1 40) ≤ x2)) → ((hfi w a0 14) ≤ 0) → mW G mX11_describe 3 0 0 38 [(0, .ref a0), (1, .int x1), (2, .int x2), (3, .int (41 + (3 * x2)))] [] w Φ) (k3 : (¬ ((hai w a0_1 40) ≤ x2)) → (¬ ((hfi w a0 14) ≤ 0)) → ∀ w1 : mH, (wrO w w1 a0 [59]) → mW G mX11_describe 3 0 0 38 [(0, .ref a0), (1, .int x1), (2, .int x2), (3, .int (41 + (3 * x2)))] [] w1 Φ) : mW G mX11_describe 3 0 0 7 [(0, .ref a0), (1, .int x1), (2, .int x2)] [] w Φ := by
  refine mW_iload_n (j := 2) dX11_describe_7 rfl rfl ?_
  refine mW_aload_n (j := 0) dX11_describe_8 rfl rfl ?_
  refine mW_getR dX11_describe_9 f_X11_13 h1 rfl h2 ?_
  refine mW_bipush (v := 40) dX11_describe_12 (by decide) ?_
  refine mW_ialdJ dX11_describe_14 h3 s1 (j := 40) (by decide) ?_
  refine mW_icmp_ge (tgt := 121) dX11_describe_15 (by decide) (fun c1 => ?_) (fun c1 => ?_)
  · exact k1 c1
  · refine mW_bipush (v := 41) dX11_describe_18 (by decide) ?_
    refine mW_iconst (v := 3) dX11_describe_20 (by decide) ?_
    refine mW_iload_n (j := 2) dX11_describe_21 rfl rfl ?_
    refine mW_imul dX11_describe_22 ?_
    refine mW_iadd dX11_describe_23 ?_
    refine mW_istore_n (lv2 := [(3, .int (41 + (3 * x2))), (0, .ref a0), (1, .int x1), (2, .int x2)]) dX11_describe_24 rfl (by decide) rfl ?_
    refine mW_aload_n (j := 1) dX11_describe_25 rfl rfl ?_
    refine mW_get dX11_describe_26 f_X11_176 h1 rfl ?_
    refine mW_if_le (tgt := 38) dX11_describe_29 (by decide) (fun c2 => ?_) (fun c2 => ?_)
    · refine mW_loc [1, 2, 3, 0] (lv2 := [(0, .ref a0), (1, .int x1), (2, .int x2), (3, .int (41 + (3 * x2)))]) rfl ?_
      exact k2 c1 c2
    · refine mW_aload_n (j := 1) dX11_describe_32 rfl rfl ?_
      refine mW_bipush (v := 59) dX11_describe_33 (by decide) ?_
      refine mW_callV (As := [.int 59]) (rest := []) (kc2 := 0) (ks2 := 0) dX11_describe_35 l_X11_182 rfl h1 rfl (by decide) (rX11_writes (w := w) (a0 := a0) (x1 := 59) h4 (s2 c1 c2)) (Nat.le_of_ble_eq_true rfl) (by decide) rfl rfl mP_x (mP_k (fun w1 q1 => ?_))
      refine mW_loc [1, 2, 3, 0] (lv2 := [(0, .ref a0), (1, .int x1), (2, .int x2), (3, .int (41 + (3 * x2)))]) rfl ?_
      exact k3 c1 c2 w1 q1
theorem u1799 : (Cond.code ⟨"LineFollowerBenchModel", "writesNumber", "(I)V"⟩ prog_13_method_35_code 3 (none : Option ClassFile.FieldType) : Cond) ∈ mTs := mTs_in 1799 (by decide +kernel) (by decide +kernel)
theorem co_X11_writesNumber : mCode mX11_writesNumber := ⟨u1799, u85, by decide⟩
theorem u1796 : (Cond.methodLink "LineFollowerBenchModel" 185 ⟨"LineFollowerBenchModel", "writesNumber", "(I)V"⟩ : Cond) ∈ mTs := mTs_in 1796 (by decide +kernel) (by decide +kernel)
theorem u1798 : (Cond.instanceMethod ⟨"LineFollowerBenchModel", "writesNumber", "(I)V"⟩ : Cond) ∈ mTs := mTs_in 1798 (by decide +kernel) (by decide +kernel)
theorem u52 : (Cond.selects "LineFollowerBenchModel" ⟨"LineFollowerBenchModel", "writesNumber", "(I)V"⟩ ⟨"LineFollowerBenchModel", "writesNumber", "(I)V"⟩ : Cond) ∈ mTs := mTs_in 52 (by decide +kernel) (by decide +kernel)
theorem l_X11_185 : mLinkV "LineFollowerBenchModel" 185 1 mX11_writesNumber := ⟨⟨by decide, by decide, by decide +kernel⟩, co_X11_writesNumber, u1796, u1798, u52⟩
set_option maxHeartbeats 4000000 in
set_option maxRecDepth 100000 in
theorem gX11_describe_38 {G : mG} {w : mH} {Φ : mF} {a0 : Nat} {x1 x2 x3 : Int32} {a0_1 n_a0_1 : Nat} (h1 : hk w a0 = (11, 0)) (h2 : hfr w a0 1 = some a0_1) (h3 : hk w a0_1 = (16, n_a0_1)) (s1 : vp_in x3 n_a0_1) (h4 : zRef w a0) (s2 : (¬ ((hai w a0_1 x3.toNatClampNeg) = 0)) → (¬ ((hai w a0_1 x3.toNatClampNeg) = 1)) → tL w a0 199) (s3 : (¬ ((hai w a0_1 x3.toNatClampNeg) = 0)) → (¬ ((hai w a0_1 x3.toNatClampNeg) = 1)) → ∀ w1 : mH, (wrO w w1 a0 [114]) → vp_in (x3 + 1) n_a0_1) (s4 : (¬ ((hai w a0_1 x3.toNatClampNeg) = 0)) → (¬ ((hai w a0_1 x3.toNatClampNeg) = 1)) → ∀ w1 : mH, (wrO w w1 a0 [114]) → tL w1 a0 190) (s5 : (¬ ((hai w a0_1 x3.toNatClampNeg) = 0)) → (¬ ((hai w a0_1 x3.toNatClampNeg) = 1)) → ∀ w1 : mH, (wrO w w1 a0 [114]) → ∀ w2 : mH, (wrO w1 w2 a0 (dNum (hai w1 a0_1 ((x3 + 1).toNatClampNeg)))) → (¬ ((hai w2 a0_1 x3.toNatClampNeg) = 0)) → tL w2 a0 199) (s6 : (¬ ((hai w a0_1 x3.toNatClampNeg) = 0)) → (¬ ((hai w a0_1 x3.toNatClampNeg) = 1)) → ∀ w1 : mH, (wrO w w1 a0 [114]) → ∀ w2 : mH, (wrO w1 w2 a0 (dNum (hai w1 a0_1 ((x3 + 1).toNatClampNeg)))) → (¬ ((hai w2 a0_1 x3.toNatClampNeg) = 0)) → ∀ w3 : mH, (wrO w2 w3 a0 [58]) → vp_in (x3 + 2) n_a0_1) (s7 : (¬ ((hai w a0_1 x3.toNatClampNeg) = 0)) → (¬ ((hai w a0_1 x3.toNatClampNeg) = 1)) → ∀ w1 : mH, (wrO w w1 a0 [114]) → ∀ w2 : mH, (wrO w1 w2 a0 (dNum (hai w1 a0_1 ((x3 + 1).toNatClampNeg)))) → (¬ ((hai w2 a0_1 x3.toNatClampNeg) = 0)) → ∀ w3 : mH, (wrO w2 w3 a0 [58]) → tL w3 a0 190) (s8 : (¬ ((hai w a0_1 x3.toNatClampNeg) = 0)) → ((hai w a0_1 x3.toNatClampNeg) = 1) → tL w a0 199) (s9 : (¬ ((hai w a0_1 x3.toNatClampNeg) = 0)) → ((hai w a0_1 x3.toNatClampNeg) = 1) → ∀ w5 : mH, (wrO w w5 a0 [98]) → vp_in (x3 + 1) n_a0_1) (s10 : (¬ ((hai w a0_1 x3.toNatClampNeg) = 0)) → ((hai w a0_1 x3.toNatClampNeg) = 1) → ∀ w5 : mH, (wrO w w5 a0 [98]) → tL w5 a0 190) (s11 : (¬ ((hai w a0_1 x3.toNatClampNeg) = 0)) → ((hai w a0_1 x3.toNatClampNeg) = 1) → ∀ w5 : mH, (wrO w w5 a0 [98]) → ∀ w6 : mH, (wrO w5 w6 a0 (dNum (hai w5 a0_1 ((x3 + 1).toNatClampNeg)))) → (¬ ((hai w6 a0_1 x3.toNatClampNeg) = 0)) → tL w6 a0 199) (s12 : (¬ ((hai w a0_1 x3.toNatClampNeg) = 0)) → ((hai w a0_1 x3.toNatClampNeg) = 1) → ∀ w5 : mH, (wrO w w5 a0 [98]) → ∀ w6 : mH, (wrO w5 w6 a0 (dNum (hai w5 a0_1 ((x3 + 1).toNatClampNeg)))) → (¬ ((hai w6 a0_1 x3.toNatClampNeg) = 0)) → ∀ w7 : mH, (wrO w6 w7 a0 [58]) → vp_in (x3 + 2) n_a0_1) (s13 : (¬ ((hai w a0_1 x3.toNatClampNeg) = 0)) → ((hai w a0_1 x3.toNatClampNeg) = 1) → ∀ w5 : mH, (wrO w w5 a0 [98]) → ∀ w6 : mH, (wrO w5 w6 a0 (dNum (hai w5 a0_1 ((x3 + 1).toNatClampNeg)))) → (¬ ((hai w6 a0_1 x3.toNatClampNeg) = 0)) → ∀ w7 : mH, (wrO w6 w7 a0 [58]) → tL w7 a0 190) (s14 : ((hai w a0_1 x3.toNatClampNeg) = 0) → tL w a0 199) (s15 : ((hai w a0_1 x3.toNatClampNeg) = 0) → ∀ w9 : mH, (wrO w w9 a0 [115]) → vp_in (x3 + 1) n_a0_1) (s16 : ((hai w a0_1 x3.toNatClampNeg) = 0) → ∀ w9 : mH, (wrO w w9 a0 [115]) → tL w9 a0 190) (s17 : ((hai w a0_1 x3.toNatClampNeg) = 0) → ∀ w9 : mH, (wrO w w9 a0 [115]) → ∀ w10 : mH, (wrO w9 w10 a0 (dNum (hai w9 a0_1 ((x3 + 1).toNatClampNeg)))) → (¬ ((hai w10 a0_1 x3.toNatClampNeg) = 0)) → tL w10 a0 199) (s18 : ((hai w a0_1 x3.toNatClampNeg) = 0) → ∀ w9 : mH, (wrO w w9 a0 [115]) → ∀ w10 : mH, (wrO w9 w10 a0 (dNum (hai w9 a0_1 ((x3 + 1).toNatClampNeg)))) → (¬ ((hai w10 a0_1 x3.toNatClampNeg) = 0)) → ∀ w11 : mH, (wrO w10 w11 a0 [58]) → vp_in (x3 + 2) n_a0_1) (s19 : ((hai w a0_1 x3.toNatClampNeg) = 0) → ∀ w9 : mH, (wrO w w9 a0 [115]) → ∀ w10 : mH, (wrO w9 w10 a0 (dNum (hai w9 a0_1 ((x3 + 1).toNatClampNeg)))) → (¬ ((hai w10 a0_1 x3.toNatClampNeg) = 0)) → ∀ w11 : mH, (wrO w10 w11 a0 [58]) → tL w11 a0 190) (k1 : (¬ ((hai w a0_1 x3.toNatClampNeg) = 0)) → (¬ ((hai w a0_1 x3.toNatClampNeg) = 1)) → ∀ w1 : mH, (wrO w w1 a0 [114]) → ∀ w2 : mH, (wrO w1 w2 a0 (dNum (hai w1 a0_1 ((x3 + 1).toNatClampNeg)))) → (¬ ((hai w2 a0_1 x3.toNatClampNeg) = 0)) → ∀ w3 : mH, (wrO w2 w3 a0 [58]) → ∀ w4 : mH, (wrO w3 w4 a0 (dNum (hai w3 a0_1 ((x3 + 2).toNatClampNeg)))) → mW G mX11_describe 3 0 0 7 [(0, .ref a0), (1, .int x1), (2, .int (x2 + 1))] [] w4 Φ) (k2 : (¬ ((hai w a0_1 x3.toNatClampNeg) = 0)) → (¬ ((hai w a0_1 x3.toNatClampNeg) = 1)) → ∀ w1 : mH, (wrO w w1 a0 [114]) → ∀ w2 : mH, (wrO w1 w2 a0 (dNum (hai w1 a0_1 ((x3 + 1).toNatClampNeg)))) → ((hai w2 a0_1 x3.toNatClampNeg) = 0) → mW G mX11_describe 3 0 0 7 [(0, .ref a0), (1, .int x1), (2, .int (x2 + 1))] [] w2 Φ) (k3 : (¬ ((hai w a0_1 x3.toNatClampNeg) = 0)) → ((hai w a0_1 x3.toNatClampNeg) = 1) → ∀ w5 : mH, (wrO w w5 a0 [98]) → ∀ w6 : mH, (wrO w5 w6 a0 (dNum (hai w5 a0_1 ((x3 + 1).toNatClampNeg)))) → (¬ ((hai w6 a0_1 x3.toNatClampNeg) = 0)) → ∀ w7 : mH, (wrO w6 w7 a0 [58]) → ∀ w8 : mH, (wrO w7 w8 a0 (dNum (hai w7 a0_1 ((x3 + 2).toNatClampNeg)))) → mW G mX11_describe 3 0 0 7 [(0, .ref a0), (1, .int x1), (2, .int (x2 + 1))] [] w8 Φ) (k4 : (¬ ((hai w a0_1 x3.toNatClampNeg) = 0)) → ((hai w a0_1 x3.toNatClampNeg) = 1) → ∀ w5 : mH, (wrO w w5 a0 [98]) → ∀ w6 : mH, (wrO w5 w6 a0 (dNum (hai w5 a0_1 ((x3 + 1).toNatClampNeg)))) → ((hai w6 a0_1 x3.toNatClampNeg) = 0) → mW G mX11_describe 3 0 0 7 [(0, .ref a0), (1, .int x1), (2, .int (x2 + 1))] [] w6 Φ) (k5 : ((hai w a0_1 x3.toNatClampNeg) = 0) → ∀ w9 : mH, (wrO w w9 a0 [115]) → ∀ w10 : mH, (wrO w9 w10 a0 (dNum (hai w9 a0_1 ((x3 + 1).toNatClampNeg)))) → (¬ ((hai w10 a0_1 x3.toNatClampNeg) = 0)) → ∀ w11 : mH, (wrO w10 w11 a0 [58]) → ∀ w12 : mH, (wrO w11 w12 a0 (dNum (hai w11 a0_1 ((x3 + 2).toNatClampNeg)))) → mW G mX11_describe 3 0 0 7 [(0, .ref a0), (1, .int x1), (2, .int (x2 + 1))] [] w12 Φ) (k6 : ((hai w a0_1 x3.toNatClampNeg) = 0) → ∀ w9 : mH, (wrO w w9 a0 [115]) → ∀ w10 : mH, (wrO w9 w10 a0 (dNum (hai w9 a0_1 ((x3 + 1).toNatClampNeg)))) → ((hai w10 a0_1 x3.toNatClampNeg) = 0) → mW G mX11_describe 3 0 0 7 [(0, .ref a0), (1, .int x1), (2, .int (x2 + 1))] [] w10 Φ) : mW G mX11_describe 3 0 0 38 [(0, .ref a0), (1, .int x1), (2, .int x2), (3, .int x3)] [] w Φ := by
  refine mW_aload_n (j := 0) dX11_describe_38 rfl rfl ?_
  refine mW_aload_n (j := 0) dX11_describe_39 rfl rfl ?_
  refine mW_getR dX11_describe_40 f_X11_13 h1 rfl h2 ?_
  refine mW_iload_n (j := 3) dX11_describe_43 rfl rfl ?_
  refine mW_ialdJ dX11_describe_44 h3 s1 rfl ?_
  refine mW_if_ne (tgt := 53) dX11_describe_45 (by decide) (fun c1 => ?_) (fun c1 => ?_)
  · refine mW_aload_n (j := 0) dX11_describe_53 rfl rfl ?_
    refine mW_getR dX11_describe_54 f_X11_13 h1 rfl h2 ?_
    refine mW_iload_n (j := 3) dX11_describe_57 rfl rfl ?_
    refine mW_ialdJ dX11_describe_58 h3 s1 rfl ?_
    refine mW_iconst (v := 1) dX11_describe_59 (by decide) ?_
    refine mW_icmp_ne (tgt := 68) dX11_describe_60 (by decide) (fun c2 => ?_) (fun c2 => ?_)
    · refine mW_bipush (v := 114) dX11_describe_68 (by decide) ?_
      refine mW_callV (As := [.int 114]) (rest := []) (kc2 := 0) (ks2 := 0) dX11_describe_70 l_X11_182 rfl h1 rfl (by decide) (rX11_writes (w := w) (a0 := a0) (x1 := 114) h4 (s2 c1 c2)) (Nat.le_of_ble_eq_true rfl) (by decide) rfl rfl mP_x (mP_k (fun w1 q1 => ?_))
      refine mW_aload_n (j := 0) dX11_describe_73 rfl rfl ?_
      refine mW_aload_n (j := 0) dX11_describe_74 rfl rfl ?_
      refine mW_getR dX11_describe_75 f_X11_13 (s2k (mS2.of q1.1.1) h1) rfl (s2r (mS2.of q1.1.1) h2) ?_
      refine mW_iload_n (j := 3) dX11_describe_78 rfl rfl ?_
      refine mW_iconst (v := 1) dX11_describe_79 (by decide) ?_
      refine mW_iadd dX11_describe_80 ?_
      refine mW_ialdJ dX11_describe_81 (s2k (mS2.of q1.1.1) h3) (s3 c1 c2 w1 q1) rfl ?_
      refine mW_callV (As := [.int (hai w1 a0_1 ((x3 + 1).toNatClampNeg))]) (rest := []) (kc2 := 0) (ks2 := 0) dX11_describe_82 l_X11_185 rfl (s2k (mS2.of q1.1.1) h1) rfl (by decide) (rX11_writesNumber (w := w1) (a0 := a0) (x1 := hai w1 a0_1 ((x3 + 1).toNatClampNeg)) (zRef_s2 (mS2.of q1.1.1) h4) (s4 c1 c2 w1 q1)) (Nat.le_of_ble_eq_true rfl) (by decide) rfl rfl mP_x (mP_k (fun w2 q2 => ?_))
      refine mW_aload_n (j := 0) dX11_describe_85 rfl rfl ?_
      refine mW_getR dX11_describe_86 f_X11_13 (s2k (mS2.of q2.1.1) (s2k (mS2.of q1.1.1) h1)) rfl (s2r (mS2.of q2.1.1) (s2r (mS2.of q1.1.1) h2)) ?_
      refine mW_iload_n (j := 3) dX11_describe_89 rfl rfl ?_
      refine mW_ialdJ dX11_describe_90 (s2k (mS2.of q2.1.1) (s2k (mS2.of q1.1.1) h3)) s1 rfl ?_
      refine mW_if_ne (tgt := 97) dX11_describe_91 (by decide) (fun c3 => ?_) (fun c3 => ?_)
      · refine mW_aload_n (j := 0) dX11_describe_97 rfl rfl ?_
        refine mW_bipush (v := 58) dX11_describe_98 (by decide) ?_
        refine mW_callV (As := [.int 58]) (rest := []) (kc2 := 0) (ks2 := 0) dX11_describe_100 l_X11_182 rfl (s2k (mS2.of q2.1.1) (s2k (mS2.of q1.1.1) h1)) rfl (by decide) (rX11_writes (w := w2) (a0 := a0) (x1 := 58) (zRef_s2 (mS2.of q2.1.1) (zRef_s2 (mS2.of q1.1.1) h4)) (s5 c1 c2 w1 q1 w2 q2 c3)) (Nat.le_of_ble_eq_true rfl) (by decide) rfl rfl mP_x (mP_k (fun w3 q3 => ?_))
        refine mW_aload_n (j := 0) dX11_describe_103 rfl rfl ?_
        refine mW_aload_n (j := 0) dX11_describe_104 rfl rfl ?_
        refine mW_getR dX11_describe_105 f_X11_13 (s2k (mS2.of q3.1.1) (s2k (mS2.of q2.1.1) (s2k (mS2.of q1.1.1) h1))) rfl (s2r (mS2.of q3.1.1) (s2r (mS2.of q2.1.1) (s2r (mS2.of q1.1.1) h2))) ?_
        refine mW_iload_n (j := 3) dX11_describe_108 rfl rfl ?_
        refine mW_iconst (v := 2) dX11_describe_109 (by decide) ?_
        refine mW_iadd dX11_describe_110 ?_
        refine mW_ialdJ dX11_describe_111 (s2k (mS2.of q3.1.1) (s2k (mS2.of q2.1.1) (s2k (mS2.of q1.1.1) h3))) (s6 c1 c2 w1 q1 w2 q2 c3 w3 q3) rfl ?_
        refine mW_callV (As := [.int (hai w3 a0_1 ((x3 + 2).toNatClampNeg))]) (rest := []) (kc2 := 0) (ks2 := 0) dX11_describe_112 l_X11_185 rfl (s2k (mS2.of q3.1.1) (s2k (mS2.of q2.1.1) (s2k (mS2.of q1.1.1) h1))) rfl (by decide) (rX11_writesNumber (w := w3) (a0 := a0) (x1 := hai w3 a0_1 ((x3 + 2).toNatClampNeg)) (zRef_s2 (mS2.of q3.1.1) (zRef_s2 (mS2.of q2.1.1) (zRef_s2 (mS2.of q1.1.1) h4))) (s7 c1 c2 w1 q1 w2 q2 c3 w3 q3)) (Nat.le_of_ble_eq_true rfl) (by decide) rfl rfl mP_x (mP_k (fun w4 q4 => ?_))
        refine mW_iinc (j := 2) (v := x2 + 1) (lv2 := [(2, .int (x2 + 1)), (0, .ref a0), (1, .int x1), (3, .int x3)]) dX11_describe_115 rfl rfl (by decide) rfl ?_
        refine mW_goto (tgt := 7) dX11_describe_118 (by decide) ?_
        refine mW_loc [1, 2, 0] (lv2 := [(0, .ref a0), (1, .int x1), (2, .int (x2 + 1))]) rfl ?_
        exact k1 c1 c2 w1 q1 w2 q2 c3 w3 q3 w4 q4
      · refine mW_goto (tgt := 115) dX11_describe_94 (by decide) ?_
        refine mW_iinc (j := 2) (v := x2 + 1) (lv2 := [(2, .int (x2 + 1)), (0, .ref a0), (1, .int x1), (3, .int x3)]) dX11_describe_115 rfl rfl (by decide) rfl ?_
        refine mW_goto (tgt := 7) dX11_describe_118 (by decide) ?_
        refine mW_loc [1, 2, 0] (lv2 := [(0, .ref a0), (1, .int x1), (2, .int (x2 + 1))]) rfl ?_
        exact k2 c1 c2 w1 q1 w2 q2 c3
    · refine mW_bipush (v := 98) dX11_describe_63 (by decide) ?_
      refine mW_goto (tgt := 70) dX11_describe_65 (by decide) ?_
      refine mW_callV (As := [.int 98]) (rest := []) (kc2 := 0) (ks2 := 0) dX11_describe_70 l_X11_182 rfl h1 rfl (by decide) (rX11_writes (w := w) (a0 := a0) (x1 := 98) h4 (s8 c1 c2)) (Nat.le_of_ble_eq_true rfl) (by decide) rfl rfl mP_x (mP_k (fun w5 q5 => ?_))
      refine mW_aload_n (j := 0) dX11_describe_73 rfl rfl ?_
      refine mW_aload_n (j := 0) dX11_describe_74 rfl rfl ?_
      refine mW_getR dX11_describe_75 f_X11_13 (s2k (mS2.of q5.1.1) h1) rfl (s2r (mS2.of q5.1.1) h2) ?_
      refine mW_iload_n (j := 3) dX11_describe_78 rfl rfl ?_
      refine mW_iconst (v := 1) dX11_describe_79 (by decide) ?_
      refine mW_iadd dX11_describe_80 ?_
      refine mW_ialdJ dX11_describe_81 (s2k (mS2.of q5.1.1) h3) (s9 c1 c2 w5 q5) rfl ?_
      refine mW_callV (As := [.int (hai w5 a0_1 ((x3 + 1).toNatClampNeg))]) (rest := []) (kc2 := 0) (ks2 := 0) dX11_describe_82 l_X11_185 rfl (s2k (mS2.of q5.1.1) h1) rfl (by decide) (rX11_writesNumber (w := w5) (a0 := a0) (x1 := hai w5 a0_1 ((x3 + 1).toNatClampNeg)) (zRef_s2 (mS2.of q5.1.1) h4) (s10 c1 c2 w5 q5)) (Nat.le_of_ble_eq_true rfl) (by decide) rfl rfl mP_x (mP_k (fun w6 q6 => ?_))
      refine mW_aload_n (j := 0) dX11_describe_85 rfl rfl ?_
      refine mW_getR dX11_describe_86 f_X11_13 (s2k (mS2.of q6.1.1) (s2k (mS2.of q5.1.1) h1)) rfl (s2r (mS2.of q6.1.1) (s2r (mS2.of q5.1.1) h2)) ?_
      refine mW_iload_n (j := 3) dX11_describe_89 rfl rfl ?_
      refine mW_ialdJ dX11_describe_90 (s2k (mS2.of q6.1.1) (s2k (mS2.of q5.1.1) h3)) s1 rfl ?_
      refine mW_if_ne (tgt := 97) dX11_describe_91 (by decide) (fun c4 => ?_) (fun c4 => ?_)
      · refine mW_aload_n (j := 0) dX11_describe_97 rfl rfl ?_
        refine mW_bipush (v := 58) dX11_describe_98 (by decide) ?_
        refine mW_callV (As := [.int 58]) (rest := []) (kc2 := 0) (ks2 := 0) dX11_describe_100 l_X11_182 rfl (s2k (mS2.of q6.1.1) (s2k (mS2.of q5.1.1) h1)) rfl (by decide) (rX11_writes (w := w6) (a0 := a0) (x1 := 58) (zRef_s2 (mS2.of q6.1.1) (zRef_s2 (mS2.of q5.1.1) h4)) (s11 c1 c2 w5 q5 w6 q6 c4)) (Nat.le_of_ble_eq_true rfl) (by decide) rfl rfl mP_x (mP_k (fun w7 q7 => ?_))
        refine mW_aload_n (j := 0) dX11_describe_103 rfl rfl ?_
        refine mW_aload_n (j := 0) dX11_describe_104 rfl rfl ?_
        refine mW_getR dX11_describe_105 f_X11_13 (s2k (mS2.of q7.1.1) (s2k (mS2.of q6.1.1) (s2k (mS2.of q5.1.1) h1))) rfl (s2r (mS2.of q7.1.1) (s2r (mS2.of q6.1.1) (s2r (mS2.of q5.1.1) h2))) ?_
        refine mW_iload_n (j := 3) dX11_describe_108 rfl rfl ?_
        refine mW_iconst (v := 2) dX11_describe_109 (by decide) ?_
        refine mW_iadd dX11_describe_110 ?_
        refine mW_ialdJ dX11_describe_111 (s2k (mS2.of q7.1.1) (s2k (mS2.of q6.1.1) (s2k (mS2.of q5.1.1) h3))) (s12 c1 c2 w5 q5 w6 q6 c4 w7 q7) rfl ?_
        refine mW_callV (As := [.int (hai w7 a0_1 ((x3 + 2).toNatClampNeg))]) (rest := []) (kc2 := 0) (ks2 := 0) dX11_describe_112 l_X11_185 rfl (s2k (mS2.of q7.1.1) (s2k (mS2.of q6.1.1) (s2k (mS2.of q5.1.1) h1))) rfl (by decide) (rX11_writesNumber (w := w7) (a0 := a0) (x1 := hai w7 a0_1 ((x3 + 2).toNatClampNeg)) (zRef_s2 (mS2.of q7.1.1) (zRef_s2 (mS2.of q6.1.1) (zRef_s2 (mS2.of q5.1.1) h4))) (s13 c1 c2 w5 q5 w6 q6 c4 w7 q7)) (Nat.le_of_ble_eq_true rfl) (by decide) rfl rfl mP_x (mP_k (fun w8 q8 => ?_))
        refine mW_iinc (j := 2) (v := x2 + 1) (lv2 := [(2, .int (x2 + 1)), (0, .ref a0), (1, .int x1), (3, .int x3)]) dX11_describe_115 rfl rfl (by decide) rfl ?_
        refine mW_goto (tgt := 7) dX11_describe_118 (by decide) ?_
        refine mW_loc [1, 2, 0] (lv2 := [(0, .ref a0), (1, .int x1), (2, .int (x2 + 1))]) rfl ?_
        exact k3 c1 c2 w5 q5 w6 q6 c4 w7 q7 w8 q8
      · refine mW_goto (tgt := 115) dX11_describe_94 (by decide) ?_
        refine mW_iinc (j := 2) (v := x2 + 1) (lv2 := [(2, .int (x2 + 1)), (0, .ref a0), (1, .int x1), (3, .int x3)]) dX11_describe_115 rfl rfl (by decide) rfl ?_
        refine mW_goto (tgt := 7) dX11_describe_118 (by decide) ?_
        refine mW_loc [1, 2, 0] (lv2 := [(0, .ref a0), (1, .int x1), (2, .int (x2 + 1))]) rfl ?_
        exact k4 c1 c2 w5 q5 w6 q6 c4
  · refine mW_bipush (v := 115) dX11_describe_48 (by decide) ?_
    refine mW_goto (tgt := 70) dX11_describe_50 (by decide) ?_
    refine mW_callV (As := [.int 115]) (rest := []) (kc2 := 0) (ks2 := 0) dX11_describe_70 l_X11_182 rfl h1 rfl (by decide) (rX11_writes (w := w) (a0 := a0) (x1 := 115) h4 (s14 c1)) (Nat.le_of_ble_eq_true rfl) (by decide) rfl rfl mP_x (mP_k (fun w9 q9 => ?_))
    refine mW_aload_n (j := 0) dX11_describe_73 rfl rfl ?_
    refine mW_aload_n (j := 0) dX11_describe_74 rfl rfl ?_
    refine mW_getR dX11_describe_75 f_X11_13 (s2k (mS2.of q9.1.1) h1) rfl (s2r (mS2.of q9.1.1) h2) ?_
    refine mW_iload_n (j := 3) dX11_describe_78 rfl rfl ?_
    refine mW_iconst (v := 1) dX11_describe_79 (by decide) ?_
    refine mW_iadd dX11_describe_80 ?_
    refine mW_ialdJ dX11_describe_81 (s2k (mS2.of q9.1.1) h3) (s15 c1 w9 q9) rfl ?_
    refine mW_callV (As := [.int (hai w9 a0_1 ((x3 + 1).toNatClampNeg))]) (rest := []) (kc2 := 0) (ks2 := 0) dX11_describe_82 l_X11_185 rfl (s2k (mS2.of q9.1.1) h1) rfl (by decide) (rX11_writesNumber (w := w9) (a0 := a0) (x1 := hai w9 a0_1 ((x3 + 1).toNatClampNeg)) (zRef_s2 (mS2.of q9.1.1) h4) (s16 c1 w9 q9)) (Nat.le_of_ble_eq_true rfl) (by decide) rfl rfl mP_x (mP_k (fun w10 q10 => ?_))
    refine mW_aload_n (j := 0) dX11_describe_85 rfl rfl ?_
    refine mW_getR dX11_describe_86 f_X11_13 (s2k (mS2.of q10.1.1) (s2k (mS2.of q9.1.1) h1)) rfl (s2r (mS2.of q10.1.1) (s2r (mS2.of q9.1.1) h2)) ?_
    refine mW_iload_n (j := 3) dX11_describe_89 rfl rfl ?_
    refine mW_ialdJ dX11_describe_90 (s2k (mS2.of q10.1.1) (s2k (mS2.of q9.1.1) h3)) s1 rfl ?_
    refine mW_if_ne (tgt := 97) dX11_describe_91 (by decide) (fun c5 => ?_) (fun c5 => ?_)
    · refine mW_aload_n (j := 0) dX11_describe_97 rfl rfl ?_
      refine mW_bipush (v := 58) dX11_describe_98 (by decide) ?_
      refine mW_callV (As := [.int 58]) (rest := []) (kc2 := 0) (ks2 := 0) dX11_describe_100 l_X11_182 rfl (s2k (mS2.of q10.1.1) (s2k (mS2.of q9.1.1) h1)) rfl (by decide) (rX11_writes (w := w10) (a0 := a0) (x1 := 58) (zRef_s2 (mS2.of q10.1.1) (zRef_s2 (mS2.of q9.1.1) h4)) (s17 c1 w9 q9 w10 q10 c5)) (Nat.le_of_ble_eq_true rfl) (by decide) rfl rfl mP_x (mP_k (fun w11 q11 => ?_))
      refine mW_aload_n (j := 0) dX11_describe_103 rfl rfl ?_
      refine mW_aload_n (j := 0) dX11_describe_104 rfl rfl ?_
      refine mW_getR dX11_describe_105 f_X11_13 (s2k (mS2.of q11.1.1) (s2k (mS2.of q10.1.1) (s2k (mS2.of q9.1.1) h1))) rfl (s2r (mS2.of q11.1.1) (s2r (mS2.of q10.1.1) (s2r (mS2.of q9.1.1) h2))) ?_
      refine mW_iload_n (j := 3) dX11_describe_108 rfl rfl ?_
      refine mW_iconst (v := 2) dX11_describe_109 (by decide) ?_
      refine mW_iadd dX11_describe_110 ?_
      refine mW_ialdJ dX11_describe_111 (s2k (mS2.of q11.1.1) (s2k (mS2.of q10.1.1) (s2k (mS2.of q9.1.1) h3))) (s18 c1 w9 q9 w10 q10 c5 w11 q11) rfl ?_
      refine mW_callV (As := [.int (hai w11 a0_1 ((x3 + 2).toNatClampNeg))]) (rest := []) (kc2 := 0) (ks2 := 0) dX11_describe_112 l_X11_185 rfl (s2k (mS2.of q11.1.1) (s2k (mS2.of q10.1.1) (s2k (mS2.of q9.1.1) h1))) rfl (by decide) (rX11_writesNumber (w := w11) (a0 := a0) (x1 := hai w11 a0_1 ((x3 + 2).toNatClampNeg)) (zRef_s2 (mS2.of q11.1.1) (zRef_s2 (mS2.of q10.1.1) (zRef_s2 (mS2.of q9.1.1) h4))) (s19 c1 w9 q9 w10 q10 c5 w11 q11)) (Nat.le_of_ble_eq_true rfl) (by decide) rfl rfl mP_x (mP_k (fun w12 q12 => ?_))
      refine mW_iinc (j := 2) (v := x2 + 1) (lv2 := [(2, .int (x2 + 1)), (0, .ref a0), (1, .int x1), (3, .int x3)]) dX11_describe_115 rfl rfl (by decide) rfl ?_
      refine mW_goto (tgt := 7) dX11_describe_118 (by decide) ?_
      refine mW_loc [1, 2, 0] (lv2 := [(0, .ref a0), (1, .int x1), (2, .int (x2 + 1))]) rfl ?_
      exact k5 c1 w9 q9 w10 q10 c5 w11 q11 w12 q12
    · refine mW_goto (tgt := 115) dX11_describe_94 (by decide) ?_
      refine mW_iinc (j := 2) (v := x2 + 1) (lv2 := [(2, .int (x2 + 1)), (0, .ref a0), (1, .int x1), (3, .int x3)]) dX11_describe_115 rfl rfl (by decide) rfl ?_
      refine mW_goto (tgt := 7) dX11_describe_118 (by decide) ?_
      refine mW_loc [1, 2, 0] (lv2 := [(0, .ref a0), (1, .int x1), (2, .int (x2 + 1))]) rfl ?_
      exact k6 c1 w9 q9 w10 q10 c5
set_option maxHeartbeats 4000000 in
set_option maxRecDepth 100000 in
theorem gX11_describe_121 {G : mG} {w : mH} {Φ : mF} {a0 : Nat} {x1 x2 : Int32}  (k1 : mW G mX11_describe 3 0 0 123 [(0, .ref a0), (1, .int x1), (2, .int 0)] [] w Φ) : mW G mX11_describe 3 0 0 121 [(0, .ref a0), (1, .int x1), (2, .int x2)] [] w Φ := by
  refine mW_iconst (v := 0) dX11_describe_121 (by decide) ?_
  refine mW_istore_n (lv2 := [(2, .int 0), (0, .ref a0), (1, .int x1)]) dX11_describe_122 rfl (by decide) rfl ?_
  refine mW_loc [1, 2, 0] (lv2 := [(0, .ref a0), (1, .int x1), (2, .int 0)]) rfl ?_
  exact k1
set_option maxHeartbeats 4000000 in
set_option maxRecDepth 100000 in
theorem gX11_describe_123 {G : mG} {w : mH} {Φ : mF} {a0 : Nat} {x1 x2 : Int32} {a0_1 n_a0_1 : Nat} (h1 : hk w a0 = (11, 0)) (h2 : hfr w a0 1 = some a0_1) (h3 : hk w a0_1 = (16, n_a0_1)) (s1 : vp_in 65 n_a0_1) (h4 : zRef w a0) (s2 : (¬ ((hai w a0_1 65) ≤ x2)) → (¬ ((hfi w a0 14) ≤ 0)) → tL w a0 199) (k1 : ((hai w a0_1 65) ≤ x2) → mW G mX11_describe 3 0 0 212 [(0, .ref a0), (1, .int x1), (2, .int x2)] [] w Φ) (k2 : (¬ ((hai w a0_1 65) ≤ x2)) → ((hfi w a0 14) ≤ 0) → mW G mX11_describe 3 0 0 154 [(0, .ref a0), (1, .int x1), (2, .int x2), (3, .int (66 + (3 * x2)))] [] w Φ) (k3 : (¬ ((hai w a0_1 65) ≤ x2)) → (¬ ((hfi w a0 14) ≤ 0)) → ∀ w1 : mH, (wrO w w1 a0 [59]) → mW G mX11_describe 3 0 0 154 [(0, .ref a0), (1, .int x1), (2, .int x2), (3, .int (66 + (3 * x2)))] [] w1 Φ) : mW G mX11_describe 3 0 0 123 [(0, .ref a0), (1, .int x1), (2, .int x2)] [] w Φ := by
  refine mW_iload_n (j := 2) dX11_describe_123 rfl rfl ?_
  refine mW_aload_n (j := 0) dX11_describe_124 rfl rfl ?_
  refine mW_getR dX11_describe_125 f_X11_13 h1 rfl h2 ?_
  refine mW_bipush (v := 65) dX11_describe_128 (by decide) ?_
  refine mW_ialdJ dX11_describe_130 h3 s1 (j := 65) (by decide) ?_
  refine mW_icmp_ge (tgt := 212) dX11_describe_131 (by decide) (fun c1 => ?_) (fun c1 => ?_)
  · exact k1 c1
  · refine mW_bipush (v := 66) dX11_describe_134 (by decide) ?_
    refine mW_iconst (v := 3) dX11_describe_136 (by decide) ?_
    refine mW_iload_n (j := 2) dX11_describe_137 rfl rfl ?_
    refine mW_imul dX11_describe_138 ?_
    refine mW_iadd dX11_describe_139 ?_
    refine mW_istore_n (lv2 := [(3, .int (66 + (3 * x2))), (0, .ref a0), (1, .int x1), (2, .int x2)]) dX11_describe_140 rfl (by decide) rfl ?_
    refine mW_aload_n (j := 1) dX11_describe_141 rfl rfl ?_
    refine mW_get dX11_describe_142 f_X11_176 h1 rfl ?_
    refine mW_if_le (tgt := 154) dX11_describe_145 (by decide) (fun c2 => ?_) (fun c2 => ?_)
    · refine mW_loc [1, 2, 3, 0] (lv2 := [(0, .ref a0), (1, .int x1), (2, .int x2), (3, .int (66 + (3 * x2)))]) rfl ?_
      exact k2 c1 c2
    · refine mW_aload_n (j := 1) dX11_describe_148 rfl rfl ?_
      refine mW_bipush (v := 59) dX11_describe_149 (by decide) ?_
      refine mW_callV (As := [.int 59]) (rest := []) (kc2 := 0) (ks2 := 0) dX11_describe_151 l_X11_182 rfl h1 rfl (by decide) (rX11_writes (w := w) (a0 := a0) (x1 := 59) h4 (s2 c1 c2)) (Nat.le_of_ble_eq_true rfl) (by decide) rfl rfl mP_x (mP_k (fun w1 q1 => ?_))
      refine mW_loc [1, 2, 3, 0] (lv2 := [(0, .ref a0), (1, .int x1), (2, .int x2), (3, .int (66 + (3 * x2)))]) rfl ?_
      exact k3 c1 c2 w1 q1
set_option maxHeartbeats 4000000 in
set_option maxRecDepth 100000 in
theorem gX11_describe_154 {G : mG} {w : mH} {Φ : mF} {a0 : Nat} {x1 x2 x3 : Int32} {a0_1 n_a0_1 : Nat} (h1 : hk w a0 = (11, 0)) (h2 : zRef w a0) (s1 : tL w a0 199) (h3 : hfr w a0 1 = some a0_1) (h4 : hk w a0_1 = (16, n_a0_1)) (s2 : ∀ w1 : mH, (wrO w w1 a0 [112]) → vp_in x3 n_a0_1) (s3 : ∀ w1 : mH, (wrO w w1 a0 [112]) → tL w1 a0 190) (s4 : ∀ w1 : mH, (wrO w w1 a0 [112]) → ∀ w2 : mH, (wrO w1 w2 a0 (dNum (hai w1 a0_1 x3.toNatClampNeg))) → tL w2 a0 199) (s5 : ∀ w1 : mH, (wrO w w1 a0 [112]) → ∀ w2 : mH, (wrO w1 w2 a0 (dNum (hai w1 a0_1 x3.toNatClampNeg))) → ∀ w3 : mH, (wrO w2 w3 a0 [58]) → vp_in (x3 + 1) n_a0_1) (s6 : ∀ w1 : mH, (wrO w w1 a0 [112]) → ∀ w2 : mH, (wrO w1 w2 a0 (dNum (hai w1 a0_1 x3.toNatClampNeg))) → ∀ w3 : mH, (wrO w2 w3 a0 [58]) → tL w3 a0 190) (s7 : ∀ w1 : mH, (wrO w w1 a0 [112]) → ∀ w2 : mH, (wrO w1 w2 a0 (dNum (hai w1 a0_1 x3.toNatClampNeg))) → ∀ w3 : mH, (wrO w2 w3 a0 [58]) → ∀ w4 : mH, (wrO w3 w4 a0 (dNum (hai w3 a0_1 ((x3 + 1).toNatClampNeg)))) → tL w4 a0 199) (s8 : ∀ w1 : mH, (wrO w w1 a0 [112]) → ∀ w2 : mH, (wrO w1 w2 a0 (dNum (hai w1 a0_1 x3.toNatClampNeg))) → ∀ w3 : mH, (wrO w2 w3 a0 [58]) → ∀ w4 : mH, (wrO w3 w4 a0 (dNum (hai w3 a0_1 ((x3 + 1).toNatClampNeg)))) → ∀ w5 : mH, (wrO w4 w5 a0 [42]) → vp_in (x3 + 2) n_a0_1) (s9 : ∀ w1 : mH, (wrO w w1 a0 [112]) → ∀ w2 : mH, (wrO w1 w2 a0 (dNum (hai w1 a0_1 x3.toNatClampNeg))) → ∀ w3 : mH, (wrO w2 w3 a0 [58]) → ∀ w4 : mH, (wrO w3 w4 a0 (dNum (hai w3 a0_1 ((x3 + 1).toNatClampNeg)))) → ∀ w5 : mH, (wrO w4 w5 a0 [42]) → tL w5 a0 190) (k1 : ∀ w1 : mH, (wrO w w1 a0 [112]) → ∀ w2 : mH, (wrO w1 w2 a0 (dNum (hai w1 a0_1 x3.toNatClampNeg))) → ∀ w3 : mH, (wrO w2 w3 a0 [58]) → ∀ w4 : mH, (wrO w3 w4 a0 (dNum (hai w3 a0_1 ((x3 + 1).toNatClampNeg)))) → ∀ w5 : mH, (wrO w4 w5 a0 [42]) → ∀ w6 : mH, (wrO w5 w6 a0 (dNum (hai w5 a0_1 ((x3 + 2).toNatClampNeg)))) → mW G mX11_describe 3 0 0 123 [(0, .ref a0), (1, .int x1), (2, .int (x2 + 1))] [] w6 Φ) : mW G mX11_describe 3 0 0 154 [(0, .ref a0), (1, .int x1), (2, .int x2), (3, .int x3)] [] w Φ := by
  refine mW_aload_n (j := 0) dX11_describe_154 rfl rfl ?_
  refine mW_bipush (v := 112) dX11_describe_155 (by decide) ?_
  refine mW_callV (As := [.int 112]) (rest := []) (kc2 := 0) (ks2 := 0) dX11_describe_157 l_X11_182 rfl h1 rfl (by decide) (rX11_writes (w := w) (a0 := a0) (x1 := 112) h2 s1) (Nat.le_of_ble_eq_true rfl) (by decide) rfl rfl mP_x (mP_k (fun w1 q1 => ?_))
  refine mW_aload_n (j := 0) dX11_describe_160 rfl rfl ?_
  refine mW_aload_n (j := 0) dX11_describe_161 rfl rfl ?_
  refine mW_getR dX11_describe_162 f_X11_13 (s2k (mS2.of q1.1.1) h1) rfl (s2r (mS2.of q1.1.1) h3) ?_
  refine mW_iload_n (j := 3) dX11_describe_165 rfl rfl ?_
  refine mW_ialdJ dX11_describe_166 (s2k (mS2.of q1.1.1) h4) (s2 w1 q1) rfl ?_
  refine mW_callV (As := [.int (hai w1 a0_1 x3.toNatClampNeg)]) (rest := []) (kc2 := 0) (ks2 := 0) dX11_describe_167 l_X11_185 rfl (s2k (mS2.of q1.1.1) h1) rfl (by decide) (rX11_writesNumber (w := w1) (a0 := a0) (x1 := hai w1 a0_1 x3.toNatClampNeg) (zRef_s2 (mS2.of q1.1.1) h2) (s3 w1 q1)) (Nat.le_of_ble_eq_true rfl) (by decide) rfl rfl mP_x (mP_k (fun w2 q2 => ?_))
  refine mW_aload_n (j := 0) dX11_describe_170 rfl rfl ?_
  refine mW_bipush (v := 58) dX11_describe_171 (by decide) ?_
  refine mW_callV (As := [.int 58]) (rest := []) (kc2 := 0) (ks2 := 0) dX11_describe_173 l_X11_182 rfl (s2k (mS2.of q2.1.1) (s2k (mS2.of q1.1.1) h1)) rfl (by decide) (rX11_writes (w := w2) (a0 := a0) (x1 := 58) (zRef_s2 (mS2.of q2.1.1) (zRef_s2 (mS2.of q1.1.1) h2)) (s4 w1 q1 w2 q2)) (Nat.le_of_ble_eq_true rfl) (by decide) rfl rfl mP_x (mP_k (fun w3 q3 => ?_))
  refine mW_aload_n (j := 0) dX11_describe_176 rfl rfl ?_
  refine mW_aload_n (j := 0) dX11_describe_177 rfl rfl ?_
  refine mW_getR dX11_describe_178 f_X11_13 (s2k (mS2.of q3.1.1) (s2k (mS2.of q2.1.1) (s2k (mS2.of q1.1.1) h1))) rfl (s2r (mS2.of q3.1.1) (s2r (mS2.of q2.1.1) (s2r (mS2.of q1.1.1) h3))) ?_
  refine mW_iload_n (j := 3) dX11_describe_181 rfl rfl ?_
  refine mW_iconst (v := 1) dX11_describe_182 (by decide) ?_
  refine mW_iadd dX11_describe_183 ?_
  refine mW_ialdJ dX11_describe_184 (s2k (mS2.of q3.1.1) (s2k (mS2.of q2.1.1) (s2k (mS2.of q1.1.1) h4))) (s5 w1 q1 w2 q2 w3 q3) rfl ?_
  refine mW_callV (As := [.int (hai w3 a0_1 ((x3 + 1).toNatClampNeg))]) (rest := []) (kc2 := 0) (ks2 := 0) dX11_describe_185 l_X11_185 rfl (s2k (mS2.of q3.1.1) (s2k (mS2.of q2.1.1) (s2k (mS2.of q1.1.1) h1))) rfl (by decide) (rX11_writesNumber (w := w3) (a0 := a0) (x1 := hai w3 a0_1 ((x3 + 1).toNatClampNeg)) (zRef_s2 (mS2.of q3.1.1) (zRef_s2 (mS2.of q2.1.1) (zRef_s2 (mS2.of q1.1.1) h2))) (s6 w1 q1 w2 q2 w3 q3)) (Nat.le_of_ble_eq_true rfl) (by decide) rfl rfl mP_x (mP_k (fun w4 q4 => ?_))
  refine mW_aload_n (j := 0) dX11_describe_188 rfl rfl ?_
  refine mW_bipush (v := 42) dX11_describe_189 (by decide) ?_
  refine mW_callV (As := [.int 42]) (rest := []) (kc2 := 0) (ks2 := 0) dX11_describe_191 l_X11_182 rfl (s2k (mS2.of q4.1.1) (s2k (mS2.of q3.1.1) (s2k (mS2.of q2.1.1) (s2k (mS2.of q1.1.1) h1)))) rfl (by decide) (rX11_writes (w := w4) (a0 := a0) (x1 := 42) (zRef_s2 (mS2.of q4.1.1) (zRef_s2 (mS2.of q3.1.1) (zRef_s2 (mS2.of q2.1.1) (zRef_s2 (mS2.of q1.1.1) h2)))) (s7 w1 q1 w2 q2 w3 q3 w4 q4)) (Nat.le_of_ble_eq_true rfl) (by decide) rfl rfl mP_x (mP_k (fun w5 q5 => ?_))
  refine mW_aload_n (j := 0) dX11_describe_194 rfl rfl ?_
  refine mW_aload_n (j := 0) dX11_describe_195 rfl rfl ?_
  refine mW_getR dX11_describe_196 f_X11_13 (s2k (mS2.of q5.1.1) (s2k (mS2.of q4.1.1) (s2k (mS2.of q3.1.1) (s2k (mS2.of q2.1.1) (s2k (mS2.of q1.1.1) h1))))) rfl (s2r (mS2.of q5.1.1) (s2r (mS2.of q4.1.1) (s2r (mS2.of q3.1.1) (s2r (mS2.of q2.1.1) (s2r (mS2.of q1.1.1) h3))))) ?_
  refine mW_iload_n (j := 3) dX11_describe_199 rfl rfl ?_
  refine mW_iconst (v := 2) dX11_describe_200 (by decide) ?_
  refine mW_iadd dX11_describe_201 ?_
  refine mW_ialdJ dX11_describe_202 (s2k (mS2.of q5.1.1) (s2k (mS2.of q4.1.1) (s2k (mS2.of q3.1.1) (s2k (mS2.of q2.1.1) (s2k (mS2.of q1.1.1) h4))))) (s8 w1 q1 w2 q2 w3 q3 w4 q4 w5 q5) rfl ?_
  refine mW_callV (As := [.int (hai w5 a0_1 ((x3 + 2).toNatClampNeg))]) (rest := []) (kc2 := 0) (ks2 := 0) dX11_describe_203 l_X11_185 rfl (s2k (mS2.of q5.1.1) (s2k (mS2.of q4.1.1) (s2k (mS2.of q3.1.1) (s2k (mS2.of q2.1.1) (s2k (mS2.of q1.1.1) h1))))) rfl (by decide) (rX11_writesNumber (w := w5) (a0 := a0) (x1 := hai w5 a0_1 ((x3 + 2).toNatClampNeg)) (zRef_s2 (mS2.of q5.1.1) (zRef_s2 (mS2.of q4.1.1) (zRef_s2 (mS2.of q3.1.1) (zRef_s2 (mS2.of q2.1.1) (zRef_s2 (mS2.of q1.1.1) h2))))) (s9 w1 q1 w2 q2 w3 q3 w4 q4 w5 q5)) (Nat.le_of_ble_eq_true rfl) (by decide) rfl rfl mP_x (mP_k (fun w6 q6 => ?_))
  refine mW_iinc (j := 2) (v := x2 + 1) (lv2 := [(2, .int (x2 + 1)), (0, .ref a0), (1, .int x1), (3, .int x3)]) dX11_describe_206 rfl rfl (by decide) rfl ?_
  refine mW_goto (tgt := 123) dX11_describe_209 (by decide) ?_
  refine mW_loc [1, 2, 0] (lv2 := [(0, .ref a0), (1, .int x1), (2, .int (x2 + 1))]) rfl ?_
  exact k1 w1 q1 w2 q2 w3 q3 w4 q4 w5 q5 w6 q6
set_option maxHeartbeats 4000000 in
set_option maxRecDepth 100000 in
theorem gX11_describe_212 {G : mG} {w : mH} {Φ : mF} {a0 : Nat} {x1 x2 : Int32} {a0_13 n_a0_13 : Nat} (h1 : hk w a0 = (11, 0)) (h2 : hfr w a0 13 = some a0_13) (h3 : hk w a0_13 = (16, n_a0_13)) (s1 : (¬ ((vX11_in x1.toInt64 (-1) (((hfi w a0 14) - 1).toInt64)) = 0)) → ∀ w2 : mH, (w2 = sfi w a0 0 0) → (0 ≤ x1) → vp_in x1 n_a0_13) (k1 : ((vX11_in x1.toInt64 (-1) (((hfi w a0 14) - 1).toInt64)) = 0) → ∀ w1 : mH, (w1 = sfi w a0 0 1) → Φ (.inl (some (.int 0))) w1) (k2 : (¬ ((vX11_in x1.toInt64 (-1) (((hfi w a0 14) - 1).toInt64)) = 0)) → ∀ w2 : mH, (w2 = sfi w a0 0 0) → (0 ≤ x1) → Φ (.inl (some (.int (hai w2 a0_13 x1.toNatClampNeg)))) w2) (k3 : (¬ ((vX11_in x1.toInt64 (-1) (((hfi w a0 14) - 1).toInt64)) = 0)) → ∀ w2 : mH, (w2 = sfi w a0 0 0) → (¬ (0 ≤ x1)) → Φ (.inl (some (.int (hfi w a0 14)))) w2) : mW G mX11_describe 3 0 0 212 [(0, .ref a0), (1, .int x1), (2, .int x2)] [] w Φ := by
  refine mW_aload_n (j := 0) dX11_describe_212 rfl rfl ?_
  refine mW_iload_n (j := 1) dX11_describe_213 rfl rfl ?_
  refine mW_i2l dX11_describe_214 ?_
  refine mW_ldc2 (v := (-1)) dX11_describe_215 u1803 ?_
  refine mW_aload_n (j := 0) dX11_describe_218 rfl rfl ?_
  refine mW_get dX11_describe_219 f_X11_176 h1 rfl ?_
  refine mW_iconst (v := 1) dX11_describe_222 (by decide) ?_
  refine mW_isub dX11_describe_223 ?_
  refine mW_i2l dX11_describe_224 ?_
  refine mW_callSe (As := [.long x1.toInt64, .long (-1), .long (((hfi w a0 14) - 1).toInt64)]) (rest := [.ref a0]) (kc2 := 0) (ks2 := 0) dX11_describe_225 l_X11_92 rfl (qX11_in (w := w) (y0 := x1.toInt64) (y2 := (-1)) (y4 := ((hfi w a0 14) - 1).toInt64)) (Nat.le_of_ble_eq_true rfl) (by decide) rfl rfl ?_
  refine mW_if_eq (tgt := 235) dX11_describe_228 (by decide) (fun c1 => ?_) (fun c1 => ?_)
  · refine mW_iconst (v := 1) dX11_describe_235 (by decide) ?_
    refine mW_put (ty := .int) (w2 := sfi w a0 0 1) dX11_describe_236 p_X11_3 h1 (Nat.le_of_ble_eq_true rfl) (by first | rfl | decide | (repeat' split) <;> rfl) rfl (hN_sfi _ _ _ _) (hk_sfi _ _ _ _) (mE_sfi h1 (by decide) (ob_11_0 _ _ _)) ?_
    refine mW_nm (fun w1 e1 => ?_)
    refine mW_aload_n (j := 0) dX11_describe_239 rfl rfl ?_
    refine mW_getL (v := 1) dX11_describe_240 f_X11_3 (s2k (S2_sfi e1) h1) rfl (by rw [e1, e_hfi_sfi, up2_at]) ?_
    refine mW_if_eq (tgt := 250) dX11_describe_243 (by decide) (fun c => absurd c (by decide)) (fun _ => ?_)
    refine mW_iconst (v := 0) dX11_describe_246 (by decide) ?_
    refine mW_goto (tgt := 267) dX11_describe_247 (by decide) ?_
    exact mW_iret dX11_describe_267 rfl (k1 c1 w1 e1)
  · refine mW_iconst (v := 0) dX11_describe_231 (by decide) ?_
    refine mW_goto (tgt := 236) dX11_describe_232 (by decide) ?_
    refine mW_put (ty := .int) (w2 := sfi w a0 0 0) dX11_describe_236 p_X11_3 h1 (Nat.le_of_ble_eq_true rfl) (by first | rfl | decide | (repeat' split) <;> rfl) rfl (hN_sfi _ _ _ _) (hk_sfi _ _ _ _) (mE_sfi h1 (by decide) (ob_11_0 _ _ _)) ?_
    refine mW_nm (fun w2 e2 => ?_)
    refine mW_aload_n (j := 0) dX11_describe_239 rfl rfl ?_
    refine mW_getL (v := 0) dX11_describe_240 f_X11_3 (s2k (S2_sfi e2) h1) rfl (by rw [e2, e_hfi_sfi, up2_at]) ?_
    refine mW_if_eq (tgt := 250) dX11_describe_243 (by decide) (fun _ => ?_) (fun c => absurd (by decide) c)
    refine mW_iload_n (j := 1) dX11_describe_250 rfl rfl ?_
    refine mW_if_ge (tgt := 261) dX11_describe_251 (by decide) (fun c2 => ?_) (fun c2 => ?_)
    · refine mW_aload_n (j := 0) dX11_describe_261 rfl rfl ?_
      refine mW_getR dX11_describe_262 f_X11_36 (s2k (S2_sfi e2) h1) rfl (s2r (S2_sfi e2) h2) ?_
      refine mW_iload_n (j := 1) dX11_describe_265 rfl rfl ?_
      refine mW_ialdJ dX11_describe_266 (s2k (S2_sfi e2) h3) (s1 c1 w2 e2 c2) rfl ?_
      exact mW_iret dX11_describe_267 rfl (k2 c1 w2 e2 c2)
    · refine mW_aload_n (j := 0) dX11_describe_254 rfl rfl ?_
      refine mW_getL (v := hfi w a0 14) dX11_describe_255 f_X11_176 (s2k (S2_sfi e2) h1) rfl (by rw [e2, e_hfi_sfi, up2_k _ _ _ (by decide)]) ?_
      refine mW_goto (tgt := 267) dX11_describe_258 (by decide) ?_
      exact mW_iret dX11_describe_267 rfl (k3 c1 w2 e2 c2)
theorem wrO.nx {w w' : mH} {a0 n : Nat} {l : List Int32} (q : wrO w w' a0 l) (hl : l.length ≤ 4) (h : tL w a0 n) : tL w' a0 (n + 4) := (q.2.2 n h).le (by omega)
def sep (l : List Int32) : List Int32 := if l.length = 0 then [] else [59]
def sgL (A : Nat → Int32) (k : Nat) : List Int32 := ([if A (41 + 3 * k) = 0 then 115 else if A (41 + 3 * k) = 1 then 98 else 114] ++ dNum (A (42 + 3 * k))) ++ (if A (41 + 3 * k) = 0 then [] else [58] ++ dNum (A (43 + 3 * k)))
def psL (A : Nat → Int32) (k : Nat) : List Int32 := (((([112] ++ dNum (A (66 + 3 * k))) ++ [58]) ++ dNum (A (67 + 3 * k))) ++ [42]) ++ dNum (A (68 + 3 * k))
def tSg (A : Nat → Int32) : Nat → List Int32 | 0 => [] | k + 1 => (tSg A k ++ sep (tSg A k)) ++ sgL A k
def tPu (A : Nat → Int32) (n : Nat) : Nat → List Int32 | 0 => tSg A n | k + 1 => (tPu A n k ++ sep (tPu A n k)) ++ psL A k
theorem sgL_len (A : Nat → Int32) (k : Nat) : (sgL A k).length ≤ 10 := by
  have h1 := dNum_len (A (42 + 3 * k))
  have h2 := dNum_len (A (43 + 3 * k))
  unfold sgL
  split <;> simp only [List.length_append, List.length_cons, List.length_nil] <;> omega
theorem psL_len (A : Nat → Int32) (k : Nat) : (psL A k).length ≤ 15 := by
  have h1 := dNum_len (A (66 + 3 * k))
  have h2 := dNum_len (A (67 + 3 * k))
  have h3 := dNum_len (A (68 + 3 * k))
  unfold psL
  simp only [List.length_append, List.length_cons, List.length_nil]
  omega
theorem sep_len (l : List Int32) : (sep l).length ≤ 1 := by unfold sep; split <;> exact Nat.le_of_ble_eq_true rfl
theorem tSg_len (A : Nat → Int32) : ∀ k, (tSg A k).length ≤ 11 * k
  | 0 => Nat.le_refl _
  | k + 1 => by
    have := tSg_len A k
    have h1 := sep_len (tSg A k)
    have h2 := sgL_len A k
    rw [tSg, List.length_append, List.length_append]
    omega
theorem tPu_len (A : Nat → Int32) (n : Nat) : ∀ k, (tPu A n k).length ≤ 11 * n + 16 * k
  | 0 => tSg_len A n
  | k + 1 => by
    have := tPu_len A n k
    have h1 := sep_len (tPu A n k)
    have h2 := psL_len A k
    rw [tPu, List.length_append, List.length_append]
    omega
theorem des_2 {G : mG} {w : mH} {a0 k : Nat} {x1 : Int32} {A : Nat → Int32} {Φ : mF} (z : zRef w a0) (hA : hai w (a0 + 1) = A) (hk : k < 8) (h : tL w a0 140) (K : ∀ w', wrO w w' a0 (sgL A k) → mW G mX11_describe 3 0 0 7 [(0, .ref a0), (1, .int x1), (2, .int (nI (k + 1)))] [] w' Φ) : mW G mX11_describe 3 0 0 38 [(0, .ref a0), (1, .int x1), (2, .int (nI k)), (3, .int (41 + 3 * nI k))] [] w Φ := by
  have hx3 : (41 : Int32) + 3 * nI k = nI (41 + 3 * k) := by rw [show (3 : Int32) = nI 3 from rfl, pk_mul, show (41 : Int32) = nI 41 from rfl, nI_add]
  have i0 : ((41 : Int32) + 3 * nI k).toNatClampNeg = 41 + 3 * k := by rw [hx3]; exact m_cl (by omega)
  have i1 : ((41 : Int32) + 3 * nI k + 1).toNatClampNeg = 42 + 3 * k := by rw [hx3, nI_1, m_cl (by omega)]; omega
  have i2 : ((41 : Int32) + 3 * nI k + 2).toNatClampNeg = 43 + 3 * k := by rw [hx3, show (2 : Int32) = nI 2 from rfl, nI_add, m_cl (by omega)]; omega
  rw [← nI_1] at K
  refine gX11_describe_38 (a0_1 := a0 + 1) z.1 z.2.1 z.2.2.2.2.2.2.2.2.2.2.2.2.2.2.2.2.2.2.2.2.2.2.1 (by rw [hx3]; exact m_vp (by omega) (by decide)) z (by intro c1 c2; exact h.le (Nat.le_of_ble_eq_true rfl)) (by intro c1 c2 w1 q1; rw [hx3, show (1 : Int32) = nI 1 from rfl, nI_add]; exact m_vp (by omega) (by decide)) (by intro c1 c2 w1 q1; exact (q1.nx (Nat.le_of_ble_eq_true rfl) h).le (Nat.le_of_ble_eq_true rfl)) (by intro c1 c2 w1 q1 w2 q2 c3; exact (q2.nx (dNum_len _) (q1.nx (Nat.le_of_ble_eq_true rfl) h)).le (Nat.le_of_ble_eq_true rfl)) (by intro c1 c2 w1 q1 w2 q2 c3 w3 q3; rw [hx3, show (2 : Int32) = nI 2 from rfl, nI_add]; exact m_vp (by omega) (by decide)) (by intro c1 c2 w1 q1 w2 q2 c3 w3 q3; exact (q3.nx (Nat.le_of_ble_eq_true rfl) (q2.nx (dNum_len _) (q1.nx (Nat.le_of_ble_eq_true rfl) h))).le (Nat.le_of_ble_eq_true rfl)) (by intro c1 c2; exact h.le (Nat.le_of_ble_eq_true rfl)) (by intro c1 c2 w5 q5; rw [hx3, show (1 : Int32) = nI 1 from rfl, nI_add]; exact m_vp (by omega) (by decide)) (by intro c1 c2 w5 q5; exact (q5.nx (Nat.le_of_ble_eq_true rfl) h).le (Nat.le_of_ble_eq_true rfl)) (by intro c1 c2 w5 q5 w6 q6 c4; exact (q6.nx (dNum_len _) (q5.nx (Nat.le_of_ble_eq_true rfl) h)).le (Nat.le_of_ble_eq_true rfl)) (by intro c1 c2 w5 q5 w6 q6 c4 w7 q7; rw [hx3, show (2 : Int32) = nI 2 from rfl, nI_add]; exact m_vp (by omega) (by decide)) (by intro c1 c2 w5 q5 w6 q6 c4 w7 q7; exact (q7.nx (Nat.le_of_ble_eq_true rfl) (q6.nx (dNum_len _) (q5.nx (Nat.le_of_ble_eq_true rfl) h))).le (Nat.le_of_ble_eq_true rfl)) (by intro c1; exact h.le (Nat.le_of_ble_eq_true rfl)) (by intro c1 w9 q9; rw [hx3, show (1 : Int32) = nI 1 from rfl, nI_add]; exact m_vp (by omega) (by decide)) (by intro c1 w9 q9; exact (q9.nx (Nat.le_of_ble_eq_true rfl) h).le (Nat.le_of_ble_eq_true rfl)) (by intro c1 w9 q9 w10 q10 c5; exact (q10.nx (dNum_len _) (q9.nx (Nat.le_of_ble_eq_true rfl) h)).le (Nat.le_of_ble_eq_true rfl)) (by intro c1 w9 q9 w10 q10 c5 w11 q11; rw [hx3, show (2 : Int32) = nI 2 from rfl, nI_add]; exact m_vp (by omega) (by decide)) (by intro c1 w9 q9 w10 q10 c5 w11 q11; exact (q11.nx (Nat.le_of_ble_eq_true rfl) (q10.nx (dNum_len _) (q9.nx (Nat.le_of_ble_eq_true rfl) h))).le (Nat.le_of_ble_eq_true rfl)) ?_ ?_ ?_ ?_ ?_ ?_
  · intro c1 c2 w1 q1 w2 q2 c3 w3 q3 w4 q4
    have A1 : hai w1 (a0 + 1) = A := (q1.1.ai (by decide)).trans hA
    have A2 : hai w2 (a0 + 1) = A := (q2.1.ai (by decide)).trans A1
    rw [A1, i1] at q2
    rw [hA, i0] at c1
    rw [hA, i0] at c2
    rw [A2, i0] at c3
    have A3 : hai w3 (a0 + 1) = A := (q3.1.ai (by decide)).trans A2
    rw [A3, i2] at q4
    refine K w4 ?_
    have e : sgL A k = ((([114] ++ dNum (A (42 + 3 * k))) ++ [58]) ++ dNum (A (43 + 3 * k))) := by unfold sgL; rw [if_neg c1, if_neg c2, if_neg c3]; simp only [List.append_assoc]
    rw [e]
    exact (((q1.tr q2).tr q3).tr q4)
  · intro c1 c2 w1 q1 w2 q2 c3
    have A1 : hai w1 (a0 + 1) = A := (q1.1.ai (by decide)).trans hA
    have A2 : hai w2 (a0 + 1) = A := (q2.1.ai (by decide)).trans A1
    rw [A1, i1] at q2
    rw [hA, i0] at c1
    rw [hA, i0] at c2
    rw [A2, i0] at c3
    refine K w2 ?_
    have e : sgL A k = ([114] ++ dNum (A (42 + 3 * k))) := by unfold sgL; rw [if_neg c1, if_neg c2, if_pos c3]; simp only [List.append_nil]
    rw [e]
    exact (q1.tr q2)
  · intro c1 c2 w5 q5 w6 q6 c4 w7 q7 w8 q8
    have A1 : hai w5 (a0 + 1) = A := (q5.1.ai (by decide)).trans hA
    have A2 : hai w6 (a0 + 1) = A := (q6.1.ai (by decide)).trans A1
    rw [A1, i1] at q6
    rw [hA, i0] at c1
    rw [hA, i0] at c2
    rw [A2, i0] at c4
    have A3 : hai w7 (a0 + 1) = A := (q7.1.ai (by decide)).trans A2
    rw [A3, i2] at q8
    refine K w8 ?_
    have e : sgL A k = ((([98] ++ dNum (A (42 + 3 * k))) ++ [58]) ++ dNum (A (43 + 3 * k))) := by unfold sgL; rw [if_neg c1, if_pos c2, if_neg c4]; simp only [List.append_assoc]
    rw [e]
    exact (((q5.tr q6).tr q7).tr q8)
  · intro c1 c2 w5 q5 w6 q6 c4
    have A1 : hai w5 (a0 + 1) = A := (q5.1.ai (by decide)).trans hA
    have A2 : hai w6 (a0 + 1) = A := (q6.1.ai (by decide)).trans A1
    rw [A1, i1] at q6
    rw [hA, i0] at c1
    rw [hA, i0] at c2
    rw [A2, i0] at c4
    refine K w6 ?_
    have e : sgL A k = ([98] ++ dNum (A (42 + 3 * k))) := by unfold sgL; rw [if_neg c1, if_pos c2, if_pos c4]; simp only [List.append_nil]
    rw [e]
    exact (q5.tr q6)
  · intro c1 w9 q9 w10 q10 c5 w11 q11 w12 q12
    have A1 : hai w9 (a0 + 1) = A := (q9.1.ai (by decide)).trans hA
    have A2 : hai w10 (a0 + 1) = A := (q10.1.ai (by decide)).trans A1
    rw [A1, i1] at q10
    rw [hA, i0] at c1
    rw [A2, i0] at c5
    have A3 : hai w11 (a0 + 1) = A := (q11.1.ai (by decide)).trans A2
    rw [A3, i2] at q12
    refine K w12 ?_
    have e : sgL A k = ((([115] ++ dNum (A (42 + 3 * k))) ++ [58]) ++ dNum (A (43 + 3 * k))) := by unfold sgL; rw [if_pos c1, if_neg c5]; simp only [List.append_assoc]
    rw [e]
    exact (((q9.tr q10).tr q11).tr q12)
  · intro c1 w9 q9 w10 q10 c5
    have A1 : hai w9 (a0 + 1) = A := (q9.1.ai (by decide)).trans hA
    have A2 : hai w10 (a0 + 1) = A := (q10.1.ai (by decide)).trans A1
    rw [A1, i1] at q10
    rw [hA, i0] at c1
    rw [A2, i0] at c5
    refine K w10 ?_
    have e : sgL A k = ([115] ++ dNum (A (42 + 3 * k))) := by unfold sgL; rw [if_pos c1, if_pos c5]; simp only [List.append_nil]
    rw [e]
    exact (q9.tr q10)
theorem des_5 {G : mG} {w : mH} {a0 k : Nat} {x1 : Int32} {A : Nat → Int32} {Φ : mF} (z : zRef w a0) (hA : hai w (a0 + 1) = A) (hk : k < 4) (h : tL w a0 170) (K : ∀ w', wrO w w' a0 (psL A k) → mW G mX11_describe 3 0 0 123 [(0, .ref a0), (1, .int x1), (2, .int (nI (k + 1)))] [] w' Φ) : mW G mX11_describe 3 0 0 154 [(0, .ref a0), (1, .int x1), (2, .int (nI k)), (3, .int (66 + 3 * nI k))] [] w Φ := by
  have hx3 : (66 : Int32) + 3 * nI k = nI (66 + 3 * k) := by rw [show (3 : Int32) = nI 3 from rfl, pk_mul, show (66 : Int32) = nI 66 from rfl, nI_add]
  have i0 : ((66 : Int32) + 3 * nI k).toNatClampNeg = 66 + 3 * k := by rw [hx3]; exact m_cl (by omega)
  have i1 : ((66 : Int32) + 3 * nI k + 1).toNatClampNeg = 67 + 3 * k := by rw [hx3, nI_1, m_cl (by omega)]; omega
  have i2 : ((66 : Int32) + 3 * nI k + 2).toNatClampNeg = 68 + 3 * k := by rw [hx3, show (2 : Int32) = nI 2 from rfl, nI_add, m_cl (by omega)]; omega
  rw [← nI_1] at K
  refine gX11_describe_154 (a0_1 := a0 + 1) z.1 z (by exact h.le (Nat.le_of_ble_eq_true rfl)) z.2.1 z.2.2.2.2.2.2.2.2.2.2.2.2.2.2.2.2.2.2.2.2.2.2.1 (by intro w1 q1; rw [hx3]; exact m_vp (by omega) (by decide)) (by intro w1 q1; exact (q1.nx (Nat.le_of_ble_eq_true rfl) h).le (Nat.le_of_ble_eq_true rfl)) (by intro w1 q1 w2 q2; exact (q2.nx (dNum_len _) (q1.nx (Nat.le_of_ble_eq_true rfl) h)).le (Nat.le_of_ble_eq_true rfl)) (by intro w1 q1 w2 q2 w3 q3; rw [hx3, show (1 : Int32) = nI 1 from rfl, nI_add]; exact m_vp (by omega) (by decide)) (by intro w1 q1 w2 q2 w3 q3; exact (q3.nx (Nat.le_of_ble_eq_true rfl) (q2.nx (dNum_len _) (q1.nx (Nat.le_of_ble_eq_true rfl) h))).le (Nat.le_of_ble_eq_true rfl)) (by intro w1 q1 w2 q2 w3 q3 w4 q4; exact (q4.nx (dNum_len _) (q3.nx (Nat.le_of_ble_eq_true rfl) (q2.nx (dNum_len _) (q1.nx (Nat.le_of_ble_eq_true rfl) h)))).le (Nat.le_of_ble_eq_true rfl)) (by intro w1 q1 w2 q2 w3 q3 w4 q4 w5 q5; rw [hx3, show (2 : Int32) = nI 2 from rfl, nI_add]; exact m_vp (by omega) (by decide)) (by intro w1 q1 w2 q2 w3 q3 w4 q4 w5 q5; exact (q5.nx (Nat.le_of_ble_eq_true rfl) (q4.nx (dNum_len _) (q3.nx (Nat.le_of_ble_eq_true rfl) (q2.nx (dNum_len _) (q1.nx (Nat.le_of_ble_eq_true rfl) h))))).le (Nat.le_of_ble_eq_true rfl)) ?_
  · intro w1 q1 w2 q2 w3 q3 w4 q4 w5 q5 w6 q6
    have A1 : hai w1 (a0 + 1) = A := (q1.1.ai (by decide)).trans hA
    have A2 : hai w2 (a0 + 1) = A := (q2.1.ai (by decide)).trans A1
    have A3 : hai w3 (a0 + 1) = A := (q3.1.ai (by decide)).trans A2
    have A4 : hai w4 (a0 + 1) = A := (q4.1.ai (by decide)).trans A3
    have A5 : hai w5 (a0 + 1) = A := (q5.1.ai (by decide)).trans A4
    rw [A1, i0] at q2
    rw [A3, i1] at q4
    rw [A5, i2] at q6
    exact K w6 (((((q1.tr q2).tr q3).tr q4).tr q5).tr q6)

theorem wrO.rf {w : mH} {a0 : Nat} : wrO w w a0 [] := ⟨xF.rf, (List.append_nil _).symm, fun _ h => h⟩
theorem tL_0 {w : mH} {a0 n : Nat} (h : tL w a0 n) (hn : n ≤ 200) : hfi w a0 14 ≤ 0 ↔ (txt w a0).length = 0 := by
  rw [txt_len, h.1]
  exact m_le0 (by have := h.2; omega)
theorem des_1 {G : mG} {w : mH} {a0 n k : Nat} {x1 : Int32} {A : Nat → Int32} {Φ : mF} (z : zRef w a0) (hA : hai w (a0 + 1) = A) (hn : A 40 = nI n) (hn8 : n ≤ 8) (hk : k ≤ n) (h : tL w a0 130)
    (K1 : k = n → mW G mX11_describe 3 0 0 121 [(0, .ref a0), (1, .int x1), (2, .int (nI k))] [] w Φ) (K2 : k < n → ∀ w', wrO w w' a0 (sep (txt w a0)) → mW G mX11_describe 3 0 0 38 [(0, .ref a0), (1, .int x1), (2, .int (nI k)), (3, .int (41 + 3 * nI k))] [] w' Φ) : mW G mX11_describe 3 0 0 7 [(0, .ref a0), (1, .int x1), (2, .int (nI k))] [] w Φ := by
  have e : hai w (a0 + 1) 40 ≤ nI k ↔ n ≤ k := by rw [hA, hn]; exact m_le (by omega) (by omega)
  have e0 := tL_0 h (by decide)
  refine gX11_describe_7 (a0_1 := a0 + 1) z.1 z.2.1 z.2.2.2.2.2.2.2.2.2.2.2.2.2.2.2.2.2.2.2.2.2.2.1 (by intros; unfold vp_in; decide) z (by intro c1 c2; exact h.le (Nat.le_of_ble_eq_true rfl)) ?_ ?_ ?_
  · intro c1
    rw [e] at c1
    exact K1 (by omega)
  · intro c1 c2
    rw [e] at c1
    rw [e0] at c2
    refine K2 (by omega) w ?_
    rw [show sep (txt w a0) = [] from if_pos c2]
    exact wrO.rf
  · intro c1 c2 w1 q1
    rw [e] at c1
    rw [e0] at c2
    refine K2 (by omega) w1 ?_
    rw [show sep (txt w a0) = [59] from if_neg c2]
    exact q1
theorem des_4 {G : mG} {w : mH} {a0 n k : Nat} {x1 : Int32} {A : Nat → Int32} {Φ : mF} (z : zRef w a0) (hA : hai w (a0 + 1) = A) (hn : A 65 = nI n) (hn4 : n ≤ 4) (hk : k ≤ n) (h : tL w a0 160)
    (K1 : k = n → mW G mX11_describe 3 0 0 212 [(0, .ref a0), (1, .int x1), (2, .int (nI k))] [] w Φ) (K2 : k < n → ∀ w', wrO w w' a0 (sep (txt w a0)) → mW G mX11_describe 3 0 0 154 [(0, .ref a0), (1, .int x1), (2, .int (nI k)), (3, .int (66 + 3 * nI k))] [] w' Φ) : mW G mX11_describe 3 0 0 123 [(0, .ref a0), (1, .int x1), (2, .int (nI k))] [] w Φ := by
  have e : hai w (a0 + 1) 65 ≤ nI k ↔ n ≤ k := by rw [hA, hn]; exact m_le (by omega) (by omega)
  have e0 := tL_0 h (by decide)
  refine gX11_describe_123 (a0_1 := a0 + 1) z.1 z.2.1 z.2.2.2.2.2.2.2.2.2.2.2.2.2.2.2.2.2.2.2.2.2.2.1 (by intros; unfold vp_in; decide) z (by intro c1 c2; exact h.le (Nat.le_of_ble_eq_true rfl)) ?_ ?_ ?_
  · intro c1
    rw [e] at c1
    exact K1 (by omega)
  · intro c1 c2
    rw [e] at c1
    rw [e0] at c2
    refine K2 (by omega) w ?_
    rw [show sep (txt w a0) = [] from if_pos c2]
    exact wrO.rf
  · intro c1 c2 w1 q1
    rw [e] at c1
    rw [e0] at c2
    refine K2 (by omega) w1 ?_
    rw [show sep (txt w a0) = [59] from if_neg c2]
    exact q1
theorem des_ix {w : mH} {a0 n : Nat} {x1 : Int32} (h : tL w a0 n) (h14 : n ≤ 200) (c1 : ¬ vX11_in x1.toInt64 (-1) (hfi w a0 14 - 1).toInt64 = 0) (c2 : 0 ≤ x1) : ∃ i, i < tLn w a0 ∧ x1 = nI i := by
  rw [in_eq (a := -1) (b := hfi w a0 14 - 1) (A := -1) rfl rfl, h.1] at c1
  have hl := h.2
  obtain ⟨h1, h2⟩ := iw_n c1
  by_cases q : tLn w a0 = 0
  · rw [q] at h2
    exact absurd (Int32.le_trans c2 h2) (by decide)
  · obtain ⟨m, hm⟩ : ∃ m, tLn w a0 = m + 1 := ⟨tLn w a0 - 1, by omega⟩
    rw [hm, m_sub1] at h2
    obtain ⟨i, hi, hx⟩ := iw_N (x := x1) (n := m) (by omega) rfl (by rw [iw_0]; exact fun q => q ⟨c2, h2⟩)
    exact ⟨i, by omega, hx⟩
theorem txt_at {w : mH} {a0 i : Nat} (h : i < tLn w a0) : hai w (a0 + 7) i = (txt w a0).getD i 0 := by
  unfold txt
  rw [List.getD_eq_getElem?_getD, List.getElem?_map, List.getElem?_range h]
  rfl
def tDes (T : List Int32) (x1 : Int32) : Int32 := if vX11_in x1.toInt64 (-1) (nI T.length - 1).toInt64 = 0 then 1 else 0
def vDes (T : List Int32) (x1 : Int32) : Int32 := if tDes T x1 = 0 then (if 0 ≤ x1 then T.getD x1.toNatClampNeg 0 else nI T.length) else 0
theorem des_6 {G : mG} {w : mH} {a0 n : Nat} {x1 x2 : Int32} {Φ : mF} (z : zRef w a0) (h : tL w a0 n) (h14 : n ≤ 200) (K : ∀ w', w' = sfi w a0 0 (tDes (txt w a0) x1) → Φ (.inl (some (.int (vDes (txt w a0) x1)))) w') : mW G mX11_describe 3 0 0 212 [(0, .ref a0), (1, .int x1), (2, .int x2)] [] w Φ := by
  have e14 : hfi w a0 14 = nI (txt w a0).length := by rw [txt_len]; exact h.1
  refine gX11_describe_212 (a0_13 := a0 + 7) z.1 z.2.2.2.2.2.2.2.1 z.2.2.2.2.2.2.2.2.2.2.2.2.2.2.2.2.2.2.2.2.2.2.2.2.2.2.2.2.1 (by intro c1 w2 e2 c2; obtain ⟨i, hi, hx⟩ := des_ix h h14 c1 c2; have := h.2; rw [hx]; exact m_vp (by omega) (by decide)) ?_ ?_ ?_
  · intro c1 w1 e1
    rw [e14] at c1
    have et : tDes (txt w a0) x1 = 1 := if_pos c1
    have := K w1 (by rw [et]; exact e1)
    unfold vDes at this
    rw [et, if_neg (by decide)] at this
    exact this
  · intro c1 w2 e2 c2
    have c1' := c1
    rw [e14] at c1
    have et : tDes (txt w a0) x1 = 0 := if_neg c1
    have := K w2 (by rw [et]; exact e2)
    unfold vDes at this
    rw [et, if_pos rfl, if_pos c2] at this
    obtain ⟨i, hi, hx⟩ := des_ix h h14 c1' c2
    rw [hx, m_cl (by have := h.2; omega), ← txt_at hi] at this
    rw [hx, m_cl (by have := h.2; omega), show hai w2 (a0 + 7) = hai w (a0 + 7) by rw [e2]; rfl]
    exact this
  · intro c1 w2 e2 c2
    rw [e14] at c1
    have et : tDes (txt w a0) x1 = 0 := if_neg c1
    have := K w2 (by rw [et]; exact e2)
    unfold vDes at this
    rw [et, if_pos rfl, if_neg c2] at this
    rw [e14]
    exact this
theorem rX11_describe {G : mG} {w : mH} {a0 : Nat} {x1 : Int32} {A : Nat → Int32} (z : zRef w a0) (hA : hai w (a0 + 1) = A) (hc : cntOK A) : mC G mX11_describe 3 0 0 [.ref a0, .int x1] w (mP (some (.int (vDes (tPu A (nSg A) (nPs A)) x1))) (fun w' => xF [0, 14] [7] a0 w w' ∧ hfi w' a0 0 = tDes (tPu A (nSg A) (nPs A)) x1)) := by
  obtain ⟨h40, h8, h65, h4⟩ := hc
  refine mC_of (by decide +kernel) rfl (Nat.le_of_ble_eq_true rfl) rfl ?_
  refine gX11_describe_0 z.1 ?_
  intro w1 e1
  have F1 : xF [14] [7] a0 w w1 := by rw [e1]; exact xF_sfi xF.rf (by decide)
  have z1 : zRef w1 a0 := zRef_s2 (mS2.of F1.1) z
  have hA1 : hai w1 (a0 + 1) = A := (F1.ai (by decide)).trans hA
  have g14 : hfi w1 a0 14 = 0 := by rw [e1, e_hfi_sfi, up2_at]
  have l1 : tLn w1 a0 = 0 := by unfold tLn; rw [g14]; rfl
  have t1 : txt w1 a0 = [] := by unfold txt; rw [l1]; rfl
  have tl1 : tL w1 a0 0 := ⟨by rw [g14, l1]; rfl, by omega⟩
  have fin : ∀ w2, wrO w1 w2 a0 (tPu A (nSg A) (nPs A)) → ∀ x2, mW G mX11_describe 3 0 0 212 [(0, .ref a0), (1, .int x1), (2, .int x2)] [] w2 (mP (some (.int (vDes (tPu A (nSg A) (nPs A)) x1))) (fun w' => xF [0, 14] [7] a0 w w' ∧ hfi w' a0 0 = tDes (tPu A (nSg A) (nPs A)) x1)) := fun w2 W x2 => by
    have tx : txt w2 a0 = tPu A (nSg A) (nPs A) := by rw [W.2.1, t1]; rfl
    have hl := tPu_len A (nSg A) (nPs A)
    refine des_6 (n := 0 + (tPu A (nSg A) (nPs A)).length) (zRef_s2 (mS2.of W.1.1) z1) (W.2.2 0 tl1) (by omega) (fun w' e' => ?_)
    rw [tx] at e' ⊢
    refine mP_of ⟨?_, by rw [e', e_hfi_sfi, up2_at]⟩
    exact ((F1.tr W.1).wide (by decide) (by decide)).tr (by rw [e']; exact xF_sfi xF.rf (by decide))
  have key2 : ∀ j k w2, k + j = nPs A → wrO w1 w2 a0 (tPu A (nSg A) k) → mW G mX11_describe 3 0 0 123 [(0, .ref a0), (1, .int x1), (2, .int (nI k))] [] w2 (mP (some (.int (vDes (tPu A (nSg A) (nPs A)) x1))) (fun w' => xF [0, 14] [7] a0 w w' ∧ hfi w' a0 0 = tDes (tPu A (nSg A) (nPs A)) x1)) := by
    intro j
    induction j with
    | zero =>
      intro k w2 hk W
      have hk' : k = nPs A := by omega
      subst hk'
      have hl := tPu_len A (nSg A) (nPs A)
      exact des_4 (n := nPs A) (zRef_s2 (mS2.of W.1.1) z1) ((W.1.ai (by decide)).trans hA1) h65 h4 (Nat.le_refl _) ((W.2.2 0 tl1).le (by omega)) (fun _ => fin w2 W _) (fun q => absurd q (by omega))
    | succ j ih =>
      intro k w2 hk W
      have hl := tPu_len A (nSg A) k
      have tx : txt w2 a0 = tPu A (nSg A) k := by rw [W.2.1, t1]; rfl
      refine des_4 (n := nPs A) (zRef_s2 (mS2.of W.1.1) z1) ((W.1.ai (by decide)).trans hA1) h65 h4 (by omega) ((W.2.2 0 tl1).le (by omega)) (fun q => absurd q (by omega)) (fun _ w3 W3 => ?_)
      rw [tx] at W3
      have W4 := W.tr W3
      have hs := sep_len (tPu A (nSg A) k)
      refine des_5 (zRef_s2 (mS2.of W4.1.1) z1) ((W4.1.ai (by decide)).trans hA1) (by omega) ((W4.2.2 0 tl1).le (by rw [List.length_append]; omega)) (fun w5 W5 => ?_)
      exact ih (k + 1) w5 (by omega) (W4.tr W5)
  have key1 : ∀ j k w2, k + j = nSg A → wrO w1 w2 a0 (tSg A k) → mW G mX11_describe 3 0 0 7 [(0, .ref a0), (1, .int x1), (2, .int (nI k))] [] w2 (mP (some (.int (vDes (tPu A (nSg A) (nPs A)) x1))) (fun w' => xF [0, 14] [7] a0 w w' ∧ hfi w' a0 0 = tDes (tPu A (nSg A) (nPs A)) x1)) := by
    intro j
    induction j with
    | zero =>
      intro k w2 hk W
      have hk' : k = nSg A := by omega
      subst hk'
      have hl := tSg_len A (nSg A)
      refine des_1 (n := nSg A) (zRef_s2 (mS2.of W.1.1) z1) ((W.1.ai (by decide)).trans hA1) h40 h8 (Nat.le_refl _) ((W.2.2 0 tl1).le (by omega)) (fun _ => ?_) (fun q => absurd q (by omega))
      have z2 : zRef w2 a0 := zRef_s2 (mS2.of W.1.1) z1
      refine gX11_describe_121 ?_
      exact key2 (nPs A) 0 w2 (by omega) W
    | succ j ih =>
      intro k w2 hk W
      have hl := tSg_len A k
      have tx : txt w2 a0 = tSg A k := by rw [W.2.1, t1]; rfl
      refine des_1 (n := nSg A) (zRef_s2 (mS2.of W.1.1) z1) ((W.1.ai (by decide)).trans hA1) h40 h8 (by omega) ((W.2.2 0 tl1).le (by omega)) (fun q => absurd q (by omega)) (fun _ w3 W3 => ?_)
      rw [tx] at W3
      have W4 := W.tr W3
      have hs := sep_len (tSg A k)
      refine des_2 (zRef_s2 (mS2.of W4.1.1) z1) ((W4.1.ai (by decide)).trans hA1) (by omega) ((W4.2.2 0 tl1).le (by rw [List.length_append]; omega)) (fun w5 W5 => ?_)
      exact ih (k + 1) w5 (by omega) (W4.tr W5)
  exact key1 (nSg A) 0 w1 (by omega) wrO.rf

