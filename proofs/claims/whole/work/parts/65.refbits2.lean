/-! sums of squares and shares: exact -/
def sqS (E : Nat → Int32) : Nat → Int64 | 0 => 0 | k + 1 => sqS E k + (E k).toInt64 * (E k).toInt64
def dSum (E : Nat → Int32) : Nat → UInt64 | 0 => FP.dconst0 | k + 1 => FP.dadd (dSum E k) (FP.dmul (FP.i2d (E k)) (FP.i2d (E k)))
def eB (E : Nat → Int32) (n : Nat) : Prop := ∀ j, j < n → -10000 ≤ (E j).toInt ∧ (E j).toInt ≤ 10000
theorem sq1 {x : Int32} (h1 : -10000 ≤ x.toInt) (h2 : x.toInt ≤ 10000) : FP.Core.dmul (FP.Core.i2d x) (FP.Core.i2d x) = FP.Core.l2d (x.toInt64 * x.toInt64) ∧ (x.toInt64 * x.toInt64).toInt = x.toInt * x.toInt ∧ 0 ≤ x.toInt * x.toInt ∧ x.toInt * x.toInt ≤ 100000000 := by
  have hp : 0 ≤ x.toInt * x.toInt := by
    rcases Int.le_total 0 x.toInt with h | h
    · exact Int.mul_nonneg h h
    · exact Int.mul_nonneg_of_nonpos_of_nonpos h h
  have hu : x.toInt * x.toInt ≤ 100000000 := by
    have h3 : x.toInt.natAbs ≤ 10000 := by omega
    have h4 : x.toInt.natAbs * x.toInt.natAbs ≤ 10000 * 10000 := Nat.mul_le_mul h3 h3
    have h5 : ((x.toInt.natAbs * x.toInt.natAbs : Nat) : Int) = x.toInt * x.toInt := Int.natAbs_mul_self
    omega
  have e : x.toInt64.toInt = x.toInt := Int32.toInt_toInt64 x
  have hm : (x.toInt64 * x.toInt64).toInt = x.toInt * x.toInt := by
    rw [FP.Core.int64_mul (by rw [e]; omega) (by rw [e]; omega), e]
  refine ⟨?_, hm, hp, hu⟩
  rw [FP.Core.i2d_l2d]
  have hs : FP.Core.Small53 x.toInt64 := by unfold FP.Core.Small53; rw [e]; omega
  by_cases h0 : x.toInt64 = 0
  · rw [FP.Core.dmul_l2d_zero hs hs (Or.inl h0), h0]
    rfl
  · exact FP.Core.dmul_l2d hs hs h0 h0 (by rw [e]; omega) (by rw [e]; omega)
theorem dSum_eq {E : Nat → Int32} : ∀ k, k ≤ 201 → eB E k → FP.Core.l2d (sqS E k) = dSum E k ∧ 0 ≤ (sqS E k).toInt ∧ (sqS E k).toInt ≤ 100000000 * k
  | 0, _, _ => ⟨show FP.Core.l2d 0 = FP.dconst0 by decide +kernel, show (0 : Int) ≤ (0 : Int64).toInt by decide, show (0 : Int64).toInt ≤ 100000000 * ((0 : Nat) : Int) by decide⟩
  | k + 1, hk, h => by
    obtain ⟨h1, h2, h3⟩ := dSum_eq k (by omega) (fun j hj => h j (by omega))
    obtain ⟨q1, q2, q3, q4⟩ := sq1 (h k (by omega)).1 (h k (by omega)).2
    have ea : (sqS E (k + 1)).toInt = (sqS E k).toInt + (E k).toInt * (E k).toInt := by
      rw [sqS, FP.Core.int64_add (by rw [q2]; omega) (by rw [q2]; omega), q2]
    refine ⟨?_, by rw [ea]; omega, by rw [ea]; omega⟩
    show FP.Core.l2d (sqS E k + _) = FP.Core.dadd (dSum E k) (FP.Core.dmul (FP.Core.i2d (E k)) (FP.Core.i2d (E k)))
    rw [q1, ← h1, FP.Core.dadd_l2d (by unfold FP.Core.Small53; omega) (by unfold FP.Core.Small53; rw [q2]; omega)]
theorem l2d_nn (a : Int64) : FP.Core.val64 (FP.Core.l2d a) ≠ .nan := (FP.Core.notNaN_iff _).mp (FP.Core.l2d_notNaN a)
theorem l2f_nn (a : Int64) : FP.Core.val32 (FP.Core.l2f a) ≠ .nan := (FP.Core.notNaN_iff32 _).mp (FP.Core.l2f_notNaN a)
theorem n_i64 {n : Nat} (h : n ≤ 70000) : (nI n).toInt64.toInt = n := by rw [Int32.toInt_toInt64, nI_toInt (by omega)]
/-- the mean of the squares: +0, or a number as nD writes it -/
theorem dMean {E : Nat → Int32} {N : Nat} (hN : N ≤ 200) (h : eB E (N + 1)) : FP.Core.ddiv (dSum E (N + 1)) (FP.Core.i2d (nI (N + 1))) = 0 ∨ ∃ e t : Nat, 1 ≤ e ∧ e ≤ 2046 ∧ t < 4503599627370496 ∧ FP.Core.ddiv (dSum E (N + 1)) (FP.Core.i2d (nI (N + 1))) = nD e t := by
  obtain ⟨h1, h2, h3⟩ := dSum_eq (N + 1) (by omega) h
  rw [← h1, FP.Core.i2d_l2d]
  have en := n_i64 (n := N + 1) (by omega)
  by_cases h0 : (sqS E (N + 1)).toInt = 0
  · left
    have e0 : sqS E (N + 1) = 0 := Int64.toInt_inj.mp h0
    obtain ⟨d, r, ed, d1, -, -, -⟩ := wi64 (a := (nI (N + 1)).toInt64) (by rw [en]; omega) (by rw [en]; omega)
    refine FP.Core.val64_inj ?_ ?_ <;> rw [FP.Core.val64_ddiv, ed, e0, FP.Core.l2d_zero, show FP.Core.val64 0 = .fin false 0 (-1074) by decide +kernel]
    · show (if d = 0 then _ else _) ≠ _
      rw [if_neg (by omega)]
      show (if (0 : Nat) = 0 then _ else _) ≠ _
      rw [if_pos rfl]
      exact FP.Core.Datum.noConfusion
    · show (if d = 0 then _ else _) = _
      rw [if_neg (by omega)]
      show (if (0 : Nat) = 0 then _ else _) = _
      rw [if_pos rfl]
      decide +kernel
  · right
    exact mean64 (by omega) (by omega) (by rw [en]; omega) (by rw [en]; omega)
theorem dMean_nn {E : Nat → Int32} {N : Nat} (hN : N ≤ 200) (h : eB E (N + 1)) : FP.Core.val64 (FP.Core.ddiv (dSum E (N + 1)) (FP.Core.i2d (nI (N + 1)))) ≠ .nan := by
  rcases dMean hN h with e | ⟨e, t, h1, h2, h3, q⟩
  · rw [e]; decide +kernel
  · rw [q]; exact nD_ne h1 h2 h3
/-- the share: +0, or a number as nF writes it -/
theorem fShare {n N : Nat} (hn : n ≤ 200) (h1 : 1 ≤ N) (hN : N ≤ 200) : FP.Core.fdiv (FP.Core.i2f (nI n)) (FP.Core.i2f (nI N)) = 0 ∨ ∃ e t : Nat, 1 ≤ e ∧ e ≤ 254 ∧ t < 8388608 ∧ FP.Core.fdiv (FP.Core.i2f (nI n)) (FP.Core.i2f (nI N)) = nF e t := by
  rw [FP.Core.i2f_l2f, FP.Core.i2f_l2f]
  have en := n_i64 (n := n) (by omega)
  have eN := n_i64 (n := N) (by omega)
  by_cases h0 : n = 0
  · left
    subst h0
    obtain ⟨d, r, ed, d1, -, -, -⟩ := wi32 (a := (nI N).toInt64) (by rw [eN]; omega) (by rw [eN]; omega)
    refine FP.Core.val32_inj ?_ ?_ <;> rw [FP.Core.val32_fdiv, ed, show (nI 0).toInt64 = 0 from rfl, FP.Core.l2f_zero, show FP.Core.val32 0 = .fin false 0 (-149) by decide +kernel]
    · show (if d = 0 then _ else _) ≠ _
      rw [if_neg (by omega)]
      show (if (0 : Nat) = 0 then _ else _) ≠ _
      rw [if_pos rfl]
      exact FP.Core.Datum.noConfusion
    · show (if d = 0 then _ else _) = _
      rw [if_neg (by omega)]
      show (if (0 : Nat) = 0 then _ else _) = _
      rw [if_pos rfl]
      decide +kernel
  · right
    exact mean32 (by rw [en]; omega) (by rw [en]; omega) (by rw [eN]; omega) (by rw [eN]; omega)
theorem fShare_nn {n N : Nat} (hn : n ≤ 200) (h1 : 1 ≤ N) (hN : N ≤ 200) : FP.Core.val32 (FP.Core.fdiv (FP.Core.i2f (nI n)) (FP.Core.i2f (nI N))) ≠ .nan := by
  rcases fShare hn h1 hN with e | ⟨e, t, h1, h2, h3, q⟩
  · rw [e]; decide +kernel
  · rw [q]; exact nF_ne h1 h2 h3
abbrev mX11_meanSquareBits : mM := (yX11_meanSquareBits, cX11_meanSquareBits, 6, (some .long), [])
set_option maxHeartbeats 4000000 in
set_option maxRecDepth 100000 in
theorem gX11_meanSquareBits_0 {G : mG} {w : mH} {Φ : mF} {a0 : Nat} (h1 : hk w a0 = (11, 0)) (k1 : ((hfi w a0 25) = 0) → ∀ w1 : mH, (w1 = sfi w a0 0 1) → Φ (.inl (some (.long 0))) w1) (k2 : (¬ ((hfi w a0 25) = 0)) → ∀ w2 : mH, (w2 = sfi w a0 0 0) → mW G mX11_meanSquareBits 3 0 0 29 [(0, .ref a0), (1, .double FP.dconst0), (3, .int 0)] [] w2 Φ) : mW G mX11_meanSquareBits 3 0 0 0 [(0, .ref a0)] [] w Φ := by
  refine mW_aload_n (j := 0) dX11_meanSquareBits_0 rfl rfl ?_
  refine mW_aload_n (j := 0) dX11_meanSquareBits_1 rfl rfl ?_
  refine mW_get dX11_meanSquareBits_2 f_X11_235 h1 rfl ?_
  refine mW_if_eq (tgt := 12) dX11_meanSquareBits_5 (by decide) (fun c1 => ?_) (fun c1 => ?_)
  · refine mW_iconst (v := 1) dX11_meanSquareBits_12 (by decide) ?_
    refine mW_put (ty := .int) (w2 := sfi w a0 0 1) dX11_meanSquareBits_13 p_X11_3 h1 (Nat.le_of_ble_eq_true rfl) (by first | rfl | decide | (repeat' split) <;> rfl) rfl (hN_sfi _ _ _ _) (hk_sfi _ _ _ _) (mE_sfi h1 (by decide) (ob_11_0 _ _ _)) ?_
    refine mW_nm (fun w1 e1 => ?_)
    refine mW_aload_n (j := 0) dX11_meanSquareBits_16 rfl rfl ?_
    refine mW_getL (v := 1) dX11_meanSquareBits_17 f_X11_3 (s2k (S2_sfi e1) h1) rfl (by rw [e1, e_hfi_sfi, up2_at]) ?_
    refine mW_if_eq (tgt := 25) dX11_meanSquareBits_20 (by decide) (fun c => absurd c (by decide)) (fun _ => ?_)
    refine mW_lconst (v := 0) dX11_meanSquareBits_23 (by decide) ?_
    exact mW_lret dX11_meanSquareBits_24 rfl (k1 c1 w1 e1)
  · refine mW_iconst (v := 0) dX11_meanSquareBits_8 (by decide) ?_
    refine mW_goto (tgt := 13) dX11_meanSquareBits_9 (by decide) ?_
    refine mW_put (ty := .int) (w2 := sfi w a0 0 0) dX11_meanSquareBits_13 p_X11_3 h1 (Nat.le_of_ble_eq_true rfl) (by first | rfl | decide | (repeat' split) <;> rfl) rfl (hN_sfi _ _ _ _) (hk_sfi _ _ _ _) (mE_sfi h1 (by decide) (ob_11_0 _ _ _)) ?_
    refine mW_nm (fun w2 e2 => ?_)
    refine mW_aload_n (j := 0) dX11_meanSquareBits_16 rfl rfl ?_
    refine mW_getL (v := 0) dX11_meanSquareBits_17 f_X11_3 (s2k (S2_sfi e2) h1) rfl (by rw [e2, e_hfi_sfi, up2_at]) ?_
    refine mW_if_eq (tgt := 25) dX11_meanSquareBits_20 (by decide) (fun _ => ?_) (fun c => absurd (by decide) c)
    refine mW_dconst0 dX11_meanSquareBits_25 ?_
    refine mW_dstore_n (lv2 := [(1, .double FP.dconst0), (0, .ref a0)]) dX11_meanSquareBits_26 rfl (by decide) rfl ?_
    refine mW_iconst (v := 0) dX11_meanSquareBits_27 (by decide) ?_
    refine mW_istore_n (lv2 := [(3, .int 0), (1, .double FP.dconst0), (0, .ref a0)]) dX11_meanSquareBits_28 rfl (by decide) rfl ?_
    refine mW_loc [2, 1, 0] (lv2 := [(0, .ref a0), (1, .double FP.dconst0), (3, .int 0)]) rfl ?_
    exact k2 c1 w2 e2
set_option maxHeartbeats 4000000 in
set_option maxRecDepth 100000 in
theorem gX11_meanSquareBits_29 {G : mG} {w : mH} {Φ : mF} {a0 : Nat} {z1 : UInt64} {x3 : Int32} {a0_27 n_a0_27 : Nat} (h1 : hk w a0 = (11, 0)) (h2 : hfr w a0 27 = some a0_27) (h3 : hk w a0_27 = (16, n_a0_27)) (s1 : (¬ ((hfi w a0 26) < x3)) → vp_in x3 n_a0_27) (s2 : (¬ ((hfi w a0 26) < x3)) → vf_n64 (FP.dmul (FP.i2d (hai w a0_27 x3.toNatClampNeg)) (FP.i2d (hai w a0_27 x3.toNatClampNeg)))) (s3 : (¬ ((hfi w a0 26) < x3)) → vf_n64 (FP.dadd z1 (FP.dmul (FP.i2d (hai w a0_27 x3.toNatClampNeg)) (FP.i2d (hai w a0_27 x3.toNatClampNeg))))) (k1 : ((hfi w a0 26) < x3) → mW G mX11_meanSquareBits 3 0 0 60 [(0, .ref a0), (1, .double z1), (3, .int x3)] [] w Φ) (k2 : (¬ ((hfi w a0 26) < x3)) → mW G mX11_meanSquareBits 3 0 0 29 [(0, .ref a0), (1, .double (FP.dadd z1 (FP.dmul (FP.i2d (hai w a0_27 x3.toNatClampNeg)) (FP.i2d (hai w a0_27 x3.toNatClampNeg))))), (3, .int (x3 + 1))] [] w Φ) : mW G mX11_meanSquareBits 3 0 0 29 [(0, .ref a0), (1, .double z1), (3, .int x3)] [] w Φ := by
  refine mW_iload_n (j := 2) dX11_meanSquareBits_29 rfl rfl ?_
  refine mW_aload_n (j := 0) dX11_meanSquareBits_30 rfl rfl ?_
  refine mW_get dX11_meanSquareBits_31 f_X11_239 h1 rfl ?_
  refine mW_icmp_gt (tgt := 60) dX11_meanSquareBits_34 (by decide) (fun c1 => ?_) (fun c1 => ?_)
  · exact k1 c1
  · refine mW_aload_n (j := 0) dX11_meanSquareBits_37 rfl rfl ?_
    refine mW_getR dX11_meanSquareBits_38 f_X11_60 h1 rfl h2 ?_
    refine mW_iload_n (j := 2) dX11_meanSquareBits_41 rfl rfl ?_
    refine mW_ialdJ dX11_meanSquareBits_42 h3 (s1 c1) rfl ?_
    refine mW_i2d dX11_meanSquareBits_43 ?_
    refine mW_dstore (lv2 := [(4, .double (FP.i2d (hai w a0_27 x3.toNatClampNeg))), (0, .ref a0), (1, .double z1), (3, .int x3)]) dX11_meanSquareBits_44 (by decide) rfl ?_
    refine mW_dload_n (j := 2) dX11_meanSquareBits_46 rfl rfl ?_
    refine mW_dload (j := 0) dX11_meanSquareBits_47 rfl ?_
    refine mW_dload (j := 0) dX11_meanSquareBits_49 rfl ?_
    refine mW_dmul dX11_meanSquareBits_51 (s2 c1) ?_
    refine mW_dadd dX11_meanSquareBits_52 (s3 c1) ?_
    refine mW_dstore_n (lv2 := [(1, .double (FP.dadd z1 (FP.dmul (FP.i2d (hai w a0_27 x3.toNatClampNeg)) (FP.i2d (hai w a0_27 x3.toNatClampNeg))))), (4, .double (FP.i2d (hai w a0_27 x3.toNatClampNeg))), (0, .ref a0), (3, .int x3)]) dX11_meanSquareBits_53 rfl (by decide) rfl ?_
    refine mW_iinc (j := 3) (v := x3 + 1) (lv2 := [(3, .int (x3 + 1)), (1, .double (FP.dadd z1 (FP.dmul (FP.i2d (hai w a0_27 x3.toNatClampNeg)) (FP.i2d (hai w a0_27 x3.toNatClampNeg))))), (4, .double (FP.i2d (hai w a0_27 x3.toNatClampNeg))), (0, .ref a0)]) dX11_meanSquareBits_54 rfl rfl (by decide) rfl ?_
    refine mW_goto (tgt := 29) dX11_meanSquareBits_57 (by decide) ?_
    refine mW_loc [3, 1, 0] (lv2 := [(0, .ref a0), (1, .double (FP.dadd z1 (FP.dmul (FP.i2d (hai w a0_27 x3.toNatClampNeg)) (FP.i2d (hai w a0_27 x3.toNatClampNeg))))), (3, .int (x3 + 1))]) rfl ?_
    exact k2 c1
theorem u1891 : (Cond.code ⟨"java/lang/Double", "doubleToLongBits", "(D)J"⟩ prog_21_method_23_code 2 (some .long) : Cond) ∈ mTs := mTs_in 1891 (by decide +kernel) (by decide +kernel)
theorem co_Jxe99ae_doubleToLongBits_ccdee : mCode mJxe99ae_doubleToLongBits_ccdee := ⟨u1891, u103, by decide⟩
theorem u1889 : (Cond.methodLink "LineFollowerBenchModel" 259 ⟨"java/lang/Double", "doubleToLongBits", "(D)J"⟩ : Cond) ∈ mTs := mTs_in 1889 (by decide +kernel) (by decide +kernel)
theorem u1890 : (Cond.static ⟨"java/lang/Double", "doubleToLongBits", "(D)J"⟩ : Cond) ∈ mTs := mTs_in 1890 (by decide +kernel) (by decide +kernel)
theorem l_X11_259 : mLinkS "LineFollowerBenchModel" 259 1 mJxe99ae_doubleToLongBits_ccdee := ⟨⟨by decide, by decide, by decide +kernel⟩, co_Jxe99ae_doubleToLongBits_ccdee, u1889, u1890⟩
set_option maxHeartbeats 4000000 in
set_option maxRecDepth 100000 in
theorem gX11_meanSquareBits_60 {G : mG} {w : mH} {Φ : mF} {a0 : Nat} {z1 : UInt64} {x3 : Int32} (h1 : hk w a0 = (11, 0)) (s1 : vf_n64 (FP.ddiv z1 (FP.i2d ((hfi w a0 26) + 1)))) (s2 : FP.Core.val64 (FP.ddiv z1 (FP.i2d ((hfi w a0 26) + 1))) ≠ .nan) (k1 : Φ (.inl (some (.long ((FP.ddiv z1 (FP.i2d ((hfi w a0 26) + 1))).toInt64)))) w) : mW G mX11_meanSquareBits 3 0 0 60 [(0, .ref a0), (1, .double z1), (3, .int x3)] [] w Φ := by
  refine mW_dload_n (j := 1) dX11_meanSquareBits_60 rfl rfl ?_
  refine mW_aload_n (j := 0) dX11_meanSquareBits_61 rfl rfl ?_
  refine mW_get dX11_meanSquareBits_62 f_X11_239 h1 rfl ?_
  refine mW_iconst (v := 1) dX11_meanSquareBits_65 (by decide) ?_
  refine mW_iadd dX11_meanSquareBits_66 ?_
  refine mW_i2d dX11_meanSquareBits_67 ?_
  refine mW_ddiv dX11_meanSquareBits_68 s1 ?_
  refine mW_callSe (As := [.double (FP.ddiv z1 (FP.i2d ((hfi w a0 26) + 1)))]) (rest := []) (kc2 := 0) (ks2 := 0) dX11_meanSquareBits_69 l_X11_259 rfl (qDL (w := w) (z0 := FP.ddiv z1 (FP.i2d ((hfi w a0 26) + 1))) s2) (Nat.le_of_ble_eq_true rfl) (by decide) rfl rfl ?_
  exact mW_lret dX11_meanSquareBits_72 rfl (k1)
abbrev mX11_saturatedBits : mM := (yX11_saturatedBits, cX11_saturatedBits, 3, (some .int), [])
set_option maxHeartbeats 4000000 in
set_option maxRecDepth 100000 in
theorem gX11_saturatedBits_0 {G : mG} {w : mH} {Φ : mF} {a0 : Nat} (h1 : hk w a0 = (11, 0)) (k1 : ((hfi w a0 25) = 0) → ∀ w1 : mH, (w1 = sfi w a0 0 1) → Φ (.inl (some (.int 0))) w1) (k2 : (¬ ((hfi w a0 25) = 0)) → ∀ w2 : mH, (w2 = sfi w a0 0 0) → mW G mX11_saturatedBits 3 0 0 29 [(0, .ref a0), (1, .int 0), (2, .int 0)] [] w2 Φ) : mW G mX11_saturatedBits 3 0 0 0 [(0, .ref a0)] [] w Φ := by
  refine mW_aload_n (j := 0) dX11_saturatedBits_0 rfl rfl ?_
  refine mW_aload_n (j := 0) dX11_saturatedBits_1 rfl rfl ?_
  refine mW_get dX11_saturatedBits_2 f_X11_235 h1 rfl ?_
  refine mW_if_eq (tgt := 12) dX11_saturatedBits_5 (by decide) (fun c1 => ?_) (fun c1 => ?_)
  · refine mW_iconst (v := 1) dX11_saturatedBits_12 (by decide) ?_
    refine mW_put (ty := .int) (w2 := sfi w a0 0 1) dX11_saturatedBits_13 p_X11_3 h1 (Nat.le_of_ble_eq_true rfl) (by first | rfl | decide | (repeat' split) <;> rfl) rfl (hN_sfi _ _ _ _) (hk_sfi _ _ _ _) (mE_sfi h1 (by decide) (ob_11_0 _ _ _)) ?_
    refine mW_nm (fun w1 e1 => ?_)
    refine mW_aload_n (j := 0) dX11_saturatedBits_16 rfl rfl ?_
    refine mW_getL (v := 1) dX11_saturatedBits_17 f_X11_3 (s2k (S2_sfi e1) h1) rfl (by rw [e1, e_hfi_sfi, up2_at]) ?_
    refine mW_if_eq (tgt := 25) dX11_saturatedBits_20 (by decide) (fun c => absurd c (by decide)) (fun _ => ?_)
    refine mW_iconst (v := 0) dX11_saturatedBits_23 (by decide) ?_
    exact mW_iret dX11_saturatedBits_24 rfl (k1 c1 w1 e1)
  · refine mW_iconst (v := 0) dX11_saturatedBits_8 (by decide) ?_
    refine mW_goto (tgt := 13) dX11_saturatedBits_9 (by decide) ?_
    refine mW_put (ty := .int) (w2 := sfi w a0 0 0) dX11_saturatedBits_13 p_X11_3 h1 (Nat.le_of_ble_eq_true rfl) (by first | rfl | decide | (repeat' split) <;> rfl) rfl (hN_sfi _ _ _ _) (hk_sfi _ _ _ _) (mE_sfi h1 (by decide) (ob_11_0 _ _ _)) ?_
    refine mW_nm (fun w2 e2 => ?_)
    refine mW_aload_n (j := 0) dX11_saturatedBits_16 rfl rfl ?_
    refine mW_getL (v := 0) dX11_saturatedBits_17 f_X11_3 (s2k (S2_sfi e2) h1) rfl (by rw [e2, e_hfi_sfi, up2_at]) ?_
    refine mW_if_eq (tgt := 25) dX11_saturatedBits_20 (by decide) (fun _ => ?_) (fun c => absurd (by decide) c)
    refine mW_iconst (v := 0) dX11_saturatedBits_25 (by decide) ?_
    refine mW_istore_n (lv2 := [(1, .int 0), (0, .ref a0)]) dX11_saturatedBits_26 rfl (by decide) rfl ?_
    refine mW_iconst (v := 0) dX11_saturatedBits_27 (by decide) ?_
    refine mW_istore_n (lv2 := [(2, .int 0), (1, .int 0), (0, .ref a0)]) dX11_saturatedBits_28 rfl (by decide) rfl ?_
    refine mW_loc [2, 1, 0] (lv2 := [(0, .ref a0), (1, .int 0), (2, .int 0)]) rfl ?_
    exact k2 c1 w2 e2
set_option maxHeartbeats 4000000 in
set_option maxRecDepth 100000 in
theorem gX11_saturatedBits_29 {G : mG} {w : mH} {Φ : mF} {a0 : Nat} {x1 x2 : Int32} {a0_27 n_a0_27 : Nat} (h1 : hk w a0 = (11, 0)) (h2 : hfr w a0 27 = some a0_27) (h3 : hk w a0_27 = (16, n_a0_27)) (s1 : (¬ ((hfi w a0 26) ≤ x2)) → vp_in (1005 + x2) n_a0_27) (k1 : ((hfi w a0 26) ≤ x2) → mW G mX11_saturatedBits 3 0 0 56 [(0, .ref a0), (1, .int x1), (2, .int x2)] [] w Φ) (k2 : (¬ ((hfi w a0 26) ≤ x2)) → mW G mX11_saturatedBits 3 0 0 29 [(0, .ref a0), (1, .int (x1 + (hai w a0_27 ((1005 + x2).toNatClampNeg)))), (2, .int (x2 + 1))] [] w Φ) : mW G mX11_saturatedBits 3 0 0 29 [(0, .ref a0), (1, .int x1), (2, .int x2)] [] w Φ := by
  refine mW_iload_n (j := 2) dX11_saturatedBits_29 rfl rfl ?_
  refine mW_aload_n (j := 0) dX11_saturatedBits_30 rfl rfl ?_
  refine mW_get dX11_saturatedBits_31 f_X11_239 h1 rfl ?_
  refine mW_icmp_ge (tgt := 56) dX11_saturatedBits_34 (by decide) (fun c1 => ?_) (fun c1 => ?_)
  · exact k1 c1
  · refine mW_iload_n (j := 1) dX11_saturatedBits_37 rfl rfl ?_
    refine mW_aload_n (j := 0) dX11_saturatedBits_38 rfl rfl ?_
    refine mW_getR dX11_saturatedBits_39 f_X11_60 h1 rfl h2 ?_
    refine mW_sipush (v := 1005) dX11_saturatedBits_42 (by decide) ?_
    refine mW_iload_n (j := 2) dX11_saturatedBits_45 rfl rfl ?_
    refine mW_iadd dX11_saturatedBits_46 ?_
    refine mW_ialdJ dX11_saturatedBits_47 h3 (s1 c1) rfl ?_
    refine mW_iadd dX11_saturatedBits_48 ?_
    refine mW_istore_n (lv2 := [(1, .int (x1 + (hai w a0_27 ((1005 + x2).toNatClampNeg)))), (0, .ref a0), (2, .int x2)]) dX11_saturatedBits_49 rfl (by decide) rfl ?_
    refine mW_iinc (j := 2) (v := x2 + 1) (lv2 := [(2, .int (x2 + 1)), (1, .int (x1 + (hai w a0_27 ((1005 + x2).toNatClampNeg)))), (0, .ref a0)]) dX11_saturatedBits_50 rfl rfl (by decide) rfl ?_
    refine mW_goto (tgt := 29) dX11_saturatedBits_53 (by decide) ?_
    refine mW_loc [2, 1, 0] (lv2 := [(0, .ref a0), (1, .int (x1 + (hai w a0_27 ((1005 + x2).toNatClampNeg)))), (2, .int (x2 + 1))]) rfl ?_
    exact k2 c1
theorem u1905 : (Cond.code ⟨"java/lang/Float", "floatToIntBits", "(F)I"⟩ prog_23_method_24_code 1 (some .int) : Cond) ∈ mTs := mTs_in 1905 (by decide +kernel) (by decide +kernel)
theorem co_Jxf58ca_floatToIntBits_5c35a : mCode mJxf58ca_floatToIntBits_5c35a := ⟨u1905, u104, by decide⟩
theorem u1903 : (Cond.methodLink "LineFollowerBenchModel" 265 ⟨"java/lang/Float", "floatToIntBits", "(F)I"⟩ : Cond) ∈ mTs := mTs_in 1903 (by decide +kernel) (by decide +kernel)
theorem u1904 : (Cond.static ⟨"java/lang/Float", "floatToIntBits", "(F)I"⟩ : Cond) ∈ mTs := mTs_in 1904 (by decide +kernel) (by decide +kernel)
theorem l_X11_265 : mLinkS "LineFollowerBenchModel" 265 1 mJxf58ca_floatToIntBits_5c35a := ⟨⟨by decide, by decide, by decide +kernel⟩, co_Jxf58ca_floatToIntBits_5c35a, u1903, u1904⟩
set_option maxHeartbeats 4000000 in
set_option maxRecDepth 100000 in
theorem gX11_saturatedBits_56 {G : mG} {w : mH} {Φ : mF} {a0 : Nat} {x1 x2 : Int32} (h1 : hk w a0 = (11, 0)) (s1 : vf_n32 (FP.fdiv (FP.i2f x1) (FP.i2f (hfi w a0 26)))) (s2 : FP.Core.val32 (FP.fdiv (FP.i2f x1) (FP.i2f (hfi w a0 26))) ≠ .nan) (k1 : Φ (.inl (some (.int ((FP.fdiv (FP.i2f x1) (FP.i2f (hfi w a0 26))).toInt32)))) w) : mW G mX11_saturatedBits 3 0 0 56 [(0, .ref a0), (1, .int x1), (2, .int x2)] [] w Φ := by
  refine mW_iload_n (j := 1) dX11_saturatedBits_56 rfl rfl ?_
  refine mW_i2f dX11_saturatedBits_57 ?_
  refine mW_aload_n (j := 0) dX11_saturatedBits_58 rfl rfl ?_
  refine mW_get dX11_saturatedBits_59 f_X11_239 h1 rfl ?_
  refine mW_i2f dX11_saturatedBits_62 ?_
  refine mW_fdiv dX11_saturatedBits_63 s1 ?_
  refine mW_callSe (As := [.float (FP.fdiv (FP.i2f x1) (FP.i2f (hfi w a0 26)))]) (rest := []) (kc2 := 0) (ks2 := 0) dX11_saturatedBits_64 l_X11_265 rfl (qFI (w := w) (f0 := FP.fdiv (FP.i2f x1) (FP.i2f (hfi w a0 26))) s2) (Nat.le_of_ble_eq_true rfl) (by decide) rfl rfl ?_
  exact mW_iret dX11_saturatedBits_67 rfl (k1)
theorem ms_loop {G : mG} {w : mH} {a0 N : Nat} {Φ : mF} (z : zRef w a0) (hN : hfi w a0 26 = nI N) (h200 : N ≤ 200) (h : eB (hai w (a0 + 15)) (N + 1)) (hΦ : Φ (.inl (some (.long (FP.ddiv (dSum (hai w (a0 + 15)) (N + 1)) (FP.i2d (nI (N + 1)))).toInt64))) w) : ∀ j t, t + j = N + 1 → mW G mX11_meanSquareBits 3 0 0 29 [(0, .ref a0), (1, .double (dSum (hai w (a0 + 15)) t)), (3, .int (nI t))] [] w Φ := by
  have fin : mW G mX11_meanSquareBits 3 0 0 60 [(0, .ref a0), (1, .double (dSum (hai w (a0 + 15)) (N + 1))), (3, .int (nI (N + 1)))] [] w Φ := by
    refine gX11_meanSquareBits_60 z.1 (by rw [hN, nI_1]; exact n64_of (dMean_nn h200 h)) (by rw [hN, nI_1]; exact dMean_nn h200 h) ?_
    rw [hN, nI_1]
    exact hΦ
  intro j
  induction j with
  | zero =>
    intro t ht
    have ht' : t = N + 1 := by omega
    refine gX11_meanSquareBits_29 (a0_27 := a0 + 15) z.1 z.2.2.2.2.2.2.2.2.2.2.2.2.2.2.2.1 z.2.2.2.2.2.2.2.2.2.2.2.2.2.2.2.2.2.2.2.2.2.2.2.2.2.2.2.2.2.2.2.2.2.2.2.2.1 (by intro c1; rw [hN, m_lt (by omega) (by omega)] at c1; exact m_vp (by omega) (by decide)) (by intro c1; rw [hN, m_lt (by omega) (by omega)] at c1; rw [m_cl (by omega)]; exact n64_of (by show FP.Core.val64 (FP.Core.dmul (FP.Core.i2d _) (FP.Core.i2d _)) ≠ _; rw [(sq1 (h t (by omega)).1 (h t (by omega)).2).1]; exact l2d_nn _)) (by intro c1; rw [hN, m_lt (by omega) (by omega)] at c1; rw [m_cl (by omega)]; exact n64_of (by rw [show FP.dadd (dSum (hai w (a0 + 15)) t) (FP.dmul (FP.i2d (hai w (a0 + 15) t)) (FP.i2d (hai w (a0 + 15) t))) = dSum (hai w (a0 + 15)) (t + 1) from rfl, ← (dSum_eq (t + 1) (by omega) (fun j hj => h j (by omega))).1]; exact l2d_nn _)) ?_ ?_
    · intro _
      subst ht'
      exact fin
    · intro c1
      rw [hN, m_lt (by omega) (by omega)] at c1
      omega
  | succ j ih =>
    intro t ht
    refine gX11_meanSquareBits_29 (a0_27 := a0 + 15) z.1 z.2.2.2.2.2.2.2.2.2.2.2.2.2.2.2.1 z.2.2.2.2.2.2.2.2.2.2.2.2.2.2.2.2.2.2.2.2.2.2.2.2.2.2.2.2.2.2.2.2.2.2.2.2.1 (by intro c1; rw [hN, m_lt (by omega) (by omega)] at c1; exact m_vp (by omega) (by decide)) (by intro c1; rw [hN, m_lt (by omega) (by omega)] at c1; rw [m_cl (by omega)]; exact n64_of (by show FP.Core.val64 (FP.Core.dmul (FP.Core.i2d _) (FP.Core.i2d _)) ≠ _; rw [(sq1 (h t (by omega)).1 (h t (by omega)).2).1]; exact l2d_nn _)) (by intro c1; rw [hN, m_lt (by omega) (by omega)] at c1; rw [m_cl (by omega)]; exact n64_of (by rw [show FP.dadd (dSum (hai w (a0 + 15)) t) (FP.dmul (FP.i2d (hai w (a0 + 15) t)) (FP.i2d (hai w (a0 + 15) t))) = dSum (hai w (a0 + 15)) (t + 1) from rfl, ← (dSum_eq (t + 1) (by omega) (fun j hj => h j (by omega))).1]; exact l2d_nn _)) ?_ ?_
    · intro c1
      rw [hN, m_lt (by omega) (by omega)] at c1
      omega
    · intro c1
      rw [m_cl (by omega), nI_1]
      exact ih (t + 1) (by omega)
theorem rX11_meanSquareBits {G : mG} {w : mH} {a0 N : Nat} (z : zRef w a0) (hT : ¬ hfi w a0 25 = 0 → hfi w a0 26 = nI N ∧ N ≤ 200 ∧ eB (hai w (a0 + 15)) (N + 1)) : mC G mX11_meanSquareBits 3 0 0 [.ref a0] w (mEq (.inl (some (.long (if hfi w a0 25 = 0 then 0 else (FP.ddiv (dSum (hai w (a0 + 15)) (N + 1)) (FP.i2d (nI (N + 1)))).toInt64)))) (sfi w a0 0 (if hfi w a0 25 = 0 then 1 else 0))) := by
  refine mC_of (by decide +kernel) rfl (Nat.le_of_ble_eq_true rfl) rfl ?_
  refine gX11_meanSquareBits_0 z.1 ?_ ?_
  · intro c1 w1 e1
    rw [if_pos c1, if_pos c1, e1]
    exact mEq_rf
  · intro c1 w2 e2
    obtain ⟨hN, h200, h⟩ := hT c1
    rw [if_neg c1, if_neg c1, ← e2]
    have z2 : zRef w2 a0 := by rw [e2]; exact z
    have g26 : hfi w2 a0 26 = nI N := by rw [e2, e_hfi_sfi, up2_k _ _ _ (by decide)]; exact hN
    have r15 : hai w2 (a0 + 15) = hai w (a0 + 15) := by rw [e2]; rfl
    rw [← r15] at h ⊢
    exact ms_loop z2 g26 h200 h mEq_rf (N + 1) 0 (by omega)
def eS (R : Nat → Int32) (N : Nat) : Prop := ∀ t, t < N → R (1005 + t) = 0 ∨ R (1005 + t) = 1
theorem eS_n {R : Nat → Int32} {N : Nat} (h : eS R N) : ∀ k, k ≤ N → ∃ n, n ≤ k ∧ fSat (fun t => R (1005 + t)) k = nI n
  | 0, _ => ⟨0, Nat.le_refl _, rfl⟩
  | k + 1, hk => by
    obtain ⟨n, hn, e⟩ := eS_n h k (by omega)
    rcases h k (by omega) with q | q
    · exact ⟨n, by omega, by rw [fSat, e, q, Int32.add_zero]⟩
    · exact ⟨n + 1, by omega, by rw [fSat, e, q, nI_1]⟩
theorem sb_loop {G : mG} {w : mH} {a0 N : Nat} {Φ : mF} (z : zRef w a0) (hN : hfi w a0 26 = nI N) (h1 : 1 ≤ N) (h200 : N ≤ 200) (h : eS (hai w (a0 + 15)) N) (hΦ : Φ (.inl (some (.int (FP.fdiv (FP.i2f (fSat (fun t => hai w (a0 + 15) (1005 + t)) N)) (FP.i2f (nI N))).toInt32))) w) : ∀ j t, t + j = N → mW G mX11_saturatedBits 3 0 0 29 [(0, .ref a0), (1, .int (fSat (fun t => hai w (a0 + 15) (1005 + t)) t)), (2, .int (nI t))] [] w Φ := by
  obtain ⟨n, hn1, hn⟩ := eS_n h N (Nat.le_refl _)
  have hn2 : n ≤ 200 := by omega
  have fin : mW G mX11_saturatedBits 3 0 0 56 [(0, .ref a0), (1, .int (fSat (fun t => hai w (a0 + 15) (1005 + t)) N)), (2, .int (nI N))] [] w Φ := by
    refine gX11_saturatedBits_56 z.1 (by rw [hN, hn]; exact n32_of (fShare_nn hn2 h1 h200)) (by rw [hN, hn]; exact fShare_nn hn2 h1 h200) ?_
    rw [hN]
    exact hΦ
  intro j
  induction j with
  | zero =>
    intro t ht
    have ht' : t = N := by omega
    refine gX11_saturatedBits_29 (a0_27 := a0 + 15) z.1 z.2.2.2.2.2.2.2.2.2.2.2.2.2.2.2.1 z.2.2.2.2.2.2.2.2.2.2.2.2.2.2.2.2.2.2.2.2.2.2.2.2.2.2.2.2.2.2.2.2.2.2.2.2.1 (by intro c1; rw [hN, m_le (by omega) (by omega)] at c1; rw [show (1005 : Int32) = nI 1005 from rfl, nI_add]; exact m_vp (by omega) (by decide)) ?_ ?_
    · intro _
      subst ht'
      exact fin
    · intro c1
      rw [hN, m_le (by omega) (by omega)] at c1
      omega
  | succ j ih =>
    intro t ht
    refine gX11_saturatedBits_29 (a0_27 := a0 + 15) z.1 z.2.2.2.2.2.2.2.2.2.2.2.2.2.2.2.1 z.2.2.2.2.2.2.2.2.2.2.2.2.2.2.2.2.2.2.2.2.2.2.2.2.2.2.2.2.2.2.2.2.2.2.2.2.1 (by intro c1; rw [hN, m_le (by omega) (by omega)] at c1; rw [show (1005 : Int32) = nI 1005 from rfl, nI_add]; exact m_vp (by omega) (by decide)) ?_ ?_
    · intro c1
      rw [hN, m_le (by omega) (by omega)] at c1
      omega
    · intro c1
      have e : ((1005 : Int32) + nI t).toNatClampNeg = 1005 + t := by rw [show (1005 : Int32) = nI 1005 from rfl, nI_add]; exact m_cl (by omega)
      rw [e, nI_1]
      exact ih (t + 1) (by omega)
theorem rX11_saturatedBits {G : mG} {w : mH} {a0 N : Nat} (z : zRef w a0) (hT : ¬ hfi w a0 25 = 0 → hfi w a0 26 = nI N ∧ 1 ≤ N ∧ N ≤ 200 ∧ eS (hai w (a0 + 15)) N) : mC G mX11_saturatedBits 3 0 0 [.ref a0] w (mEq (.inl (some (.int (if hfi w a0 25 = 0 then 0 else (FP.fdiv (FP.i2f (fSat (fun t => hai w (a0 + 15) (1005 + t)) N)) (FP.i2f (nI N))).toInt32)))) (sfi w a0 0 (if hfi w a0 25 = 0 then 1 else 0))) := by
  refine mC_of (by decide +kernel) rfl (Nat.le_of_ble_eq_true rfl) rfl ?_
  refine gX11_saturatedBits_0 z.1 ?_ ?_
  · intro c1 w1 e1
    rw [if_pos c1, if_pos c1, e1]
    exact mEq_rf
  · intro c1 w2 e2
    obtain ⟨hN, h1, h200, h⟩ := hT c1
    rw [if_neg c1, if_neg c1, ← e2]
    have z2 : zRef w2 a0 := by rw [e2]; exact z
    have g26 : hfi w2 a0 26 = nI N := by rw [e2, e_hfi_sfi, up2_k _ _ _ (by decide)]; exact hN
    have r15 : hai w2 (a0 + 15) = hai w (a0 + 15) := by rw [e2]; rfl
    rw [← r15] at h ⊢
    exact sb_loop z2 g26 h1 h200 h mEq_rf N 0 (by omega)

