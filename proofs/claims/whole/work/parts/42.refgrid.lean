abbrev mX11_setGrid : mM := (yX11_setGrid, cX11_setGrid, 5, (some .int), [])
theorem u1740 : (Cond.constantLong "LineFollowerBenchModel" 131 2 : Cond) ∈ mTs := mTs_in 1740 (by decide +kernel) (by decide +kernel)
theorem u1741 : (Cond.constantLong "LineFollowerBenchModel" 133 999 : Cond) ∈ mTs := mTs_in 1741 (by decide +kernel) (by decide +kernel)
theorem u1742 : (Cond.constantLong "LineFollowerBenchModel" 135 200 : Cond) ∈ mTs := mTs_in 1742 (by decide +kernel) (by decide +kernel)
theorem u1743 : (Cond.constantLong "LineFollowerBenchModel" 137 6 : Cond) ∈ mTs := mTs_in 1743 (by decide +kernel) (by decide +kernel)
theorem u1747 : (Cond.code ⟨"LineFollowerBenchModel", "triples", "()I"⟩ prog_13_method_24_code 1 (some .int) : Cond) ∈ mTs := mTs_in 1747 (by decide +kernel) (by decide +kernel)
theorem co_X11_triples : mCode mX11_triples := ⟨u1747, u85, by decide⟩
theorem u1744 : (Cond.methodLink "LineFollowerBenchModel" 139 ⟨"LineFollowerBenchModel", "triples", "()I"⟩ : Cond) ∈ mTs := mTs_in 1744 (by decide +kernel) (by decide +kernel)
theorem u1746 : (Cond.instanceMethod ⟨"LineFollowerBenchModel", "triples", "()I"⟩ : Cond) ∈ mTs := mTs_in 1746 (by decide +kernel) (by decide +kernel)
theorem u44 : (Cond.selects "LineFollowerBenchModel" ⟨"LineFollowerBenchModel", "triples", "()I"⟩ ⟨"LineFollowerBenchModel", "triples", "()I"⟩ : Cond) ∈ mTs := mTs_in 44 (by decide +kernel) (by decide +kernel)
theorem l_X11_139 : mLinkV "LineFollowerBenchModel" 139 0 mX11_triples := ⟨⟨by decide, by decide, by decide +kernel⟩, co_X11_triples, u1744, u1746, u44⟩
set_option maxHeartbeats 4000000 in
set_option maxRecDepth 100000 in
theorem gX11_setGrid_0 {G : mG} {w : mH} {Φ : mF} {a0 : Nat} {x1 x2 x3 x4 : Int32} {c : Nat} {A : Nat → Int32} {a0_1 n_a0_1 : Nat} (h1 : hk w a0 = (11, 0)) (h2 : zRef w a0) (s1 : (¬ ((vX11_in x1.toInt64 0 2) = 0)) → (¬ ((vX11_in x2.toInt64 0 999) = 0)) → (¬ ((vX11_in x3.toInt64 1 200) = 0)) → (¬ ((vX11_in x4.toInt64 1 6) = 0)) → ((x2 + (x3 * (x4 - 1))) ≤ 999) → ∀ w4 : mH, (w4 = sfi w a0 0 0) → hfi w4 a0 5 = nI c) (s2 : (¬ ((vX11_in x1.toInt64 0 2) = 0)) → (¬ ((vX11_in x2.toInt64 0 999) = 0)) → (¬ ((vX11_in x3.toInt64 1 200) = 0)) → (¬ ((vX11_in x4.toInt64 1 6) = 0)) → ((x2 + (x3 * (x4 - 1))) ≤ 999) → ∀ w4 : mH, (w4 = sfi w a0 0 0) → c ≤ 6) (h3 : hfr w a0 1 = some a0_1) (h4 : hk w a0_1 = (16, n_a0_1)) (s3 : (¬ ((vX11_in x1.toInt64 0 2) = 0)) → (¬ ((vX11_in x2.toInt64 0 999) = 0)) → (¬ ((vX11_in x3.toInt64 1 200) = 0)) → (¬ ((vX11_in x4.toInt64 1 6) = 0)) → ((x2 + (x3 * (x4 - 1))) ≤ 999) → ∀ w4 : mH, (w4 = sfi w a0 0 0) → ∀ w5 : mH, (kpO w4 w5 a0 c) → vp_in (20 + (3 * x1)) n_a0_1) (s4 : (¬ ((vX11_in x1.toInt64 0 2) = 0)) → (¬ ((vX11_in x2.toInt64 0 999) = 0)) → (¬ ((vX11_in x3.toInt64 1 200) = 0)) → (¬ ((vX11_in x4.toInt64 1 6) = 0)) → ((x2 + (x3 * (x4 - 1))) ≤ 999) → ∀ w4 : mH, (w4 = sfi w a0 0 0) → ∀ w5 : mH, (kpO w4 w5 a0 c) → ∀ w6 : mH, (w6 = sai w5 a0_1 ((20 + (3 * x1)).toNatClampNeg) x2) → vp_in ((20 + (3 * x1)) + 1) n_a0_1) (s5 : (¬ ((vX11_in x1.toInt64 0 2) = 0)) → (¬ ((vX11_in x2.toInt64 0 999) = 0)) → (¬ ((vX11_in x3.toInt64 1 200) = 0)) → (¬ ((vX11_in x4.toInt64 1 6) = 0)) → ((x2 + (x3 * (x4 - 1))) ≤ 999) → ∀ w4 : mH, (w4 = sfi w a0 0 0) → ∀ w5 : mH, (kpO w4 w5 a0 c) → ∀ w6 : mH, (w6 = sai w5 a0_1 ((20 + (3 * x1)).toNatClampNeg) x2) → ∀ w7 : mH, (w7 = sai w6 a0_1 (((20 + (3 * x1)) + 1).toNatClampNeg) x3) → vp_in ((20 + (3 * x1)) + 2) n_a0_1) (s6 : (¬ ((vX11_in x1.toInt64 0 2) = 0)) → (¬ ((vX11_in x2.toInt64 0 999) = 0)) → (¬ ((vX11_in x3.toInt64 1 200) = 0)) → (¬ ((vX11_in x4.toInt64 1 6) = 0)) → ((x2 + (x3 * (x4 - 1))) ≤ 999) → ∀ w4 : mH, (w4 = sfi w a0 0 0) → ∀ w5 : mH, (kpO w4 w5 a0 c) → ∀ w6 : mH, (w6 = sai w5 a0_1 ((20 + (3 * x1)).toNatClampNeg) x2) → ∀ w7 : mH, (w7 = sai w6 a0_1 (((20 + (3 * x1)) + 1).toNatClampNeg) x3) → ∀ w8 : mH, (w8 = sai w7 a0_1 (((20 + (3 * x1)) + 2).toNatClampNeg) x4) → vp_in ((20 + (3 * 0)) + 2) n_a0_1) (s7 : (¬ ((vX11_in x1.toInt64 0 2) = 0)) → (¬ ((vX11_in x2.toInt64 0 999) = 0)) → (¬ ((vX11_in x3.toInt64 1 200) = 0)) → (¬ ((vX11_in x4.toInt64 1 6) = 0)) → ((x2 + (x3 * (x4 - 1))) ≤ 999) → ∀ w4 : mH, (w4 = sfi w a0 0 0) → ∀ w5 : mH, (kpO w4 w5 a0 c) → ∀ w6 : mH, (w6 = sai w5 a0_1 ((20 + (3 * x1)).toNatClampNeg) x2) → ∀ w7 : mH, (w7 = sai w6 a0_1 (((20 + (3 * x1)) + 1).toNatClampNeg) x3) → ∀ w8 : mH, (w8 = sai w7 a0_1 (((20 + (3 * x1)) + 2).toNatClampNeg) x4) → vp_in ((20 + (3 * 1)) + 2) n_a0_1) (s8 : (¬ ((vX11_in x1.toInt64 0 2) = 0)) → (¬ ((vX11_in x2.toInt64 0 999) = 0)) → (¬ ((vX11_in x3.toInt64 1 200) = 0)) → (¬ ((vX11_in x4.toInt64 1 6) = 0)) → ((x2 + (x3 * (x4 - 1))) ≤ 999) → ∀ w4 : mH, (w4 = sfi w a0 0 0) → ∀ w5 : mH, (kpO w4 w5 a0 c) → ∀ w6 : mH, (w6 = sai w5 a0_1 ((20 + (3 * x1)).toNatClampNeg) x2) → ∀ w7 : mH, (w7 = sai w6 a0_1 (((20 + (3 * x1)) + 1).toNatClampNeg) x3) → ∀ w8 : mH, (w8 = sai w7 a0_1 (((20 + (3 * x1)) + 2).toNatClampNeg) x4) → vp_in ((20 + (3 * 2)) + 2) n_a0_1) (k1 : (¬ ((vX11_in x1.toInt64 0 2) = 0)) → ((vX11_in x2.toInt64 0 999) = 0) → ∀ w1 : mH, (w1 = sfi w a0 0 2) → Φ (.inl (some (.int 0))) w1) (k2 : (¬ ((vX11_in x1.toInt64 0 2) = 0)) → (¬ ((vX11_in x2.toInt64 0 999) = 0)) → ((vX11_in x3.toInt64 1 200) = 0) → ∀ w2 : mH, (w2 = sfi w a0 0 2) → Φ (.inl (some (.int 0))) w2) (k3 : (¬ ((vX11_in x1.toInt64 0 2) = 0)) → (¬ ((vX11_in x2.toInt64 0 999) = 0)) → (¬ ((vX11_in x3.toInt64 1 200) = 0)) → ((vX11_in x4.toInt64 1 6) = 0) → ∀ w3 : mH, (w3 = sfi w a0 0 2) → Φ (.inl (some (.int 0))) w3) (k4 : (¬ ((vX11_in x1.toInt64 0 2) = 0)) → (¬ ((vX11_in x2.toInt64 0 999) = 0)) → (¬ ((vX11_in x3.toInt64 1 200) = 0)) → (¬ ((vX11_in x4.toInt64 1 6) = 0)) → ((x2 + (x3 * (x4 - 1))) ≤ 999) → ∀ w4 : mH, (w4 = sfi w a0 0 0) → ∀ w5 : mH, (kpO w4 w5 a0 c) → ∀ w6 : mH, (w6 = sai w5 a0_1 ((20 + (3 * x1)).toNatClampNeg) x2) → ∀ w7 : mH, (w7 = sai w6 a0_1 (((20 + (3 * x1)) + 1).toNatClampNeg) x3) → ∀ w8 : mH, (w8 = sai w7 a0_1 (((20 + (3 * x1)) + 2).toNatClampNeg) x4) → Φ (.inl (some (.int (vX11_triples w8 a0_1)))) w8) (k5 : (¬ ((vX11_in x1.toInt64 0 2) = 0)) → (¬ ((vX11_in x2.toInt64 0 999) = 0)) → (¬ ((vX11_in x3.toInt64 1 200) = 0)) → (¬ ((vX11_in x4.toInt64 1 6) = 0)) → (¬ ((x2 + (x3 * (x4 - 1))) ≤ 999)) → ∀ w9 : mH, (w9 = sfi w a0 0 2) → Φ (.inl (some (.int 0))) w9) (k6 : ((vX11_in x1.toInt64 0 2) = 0) → ∀ w10 : mH, (w10 = sfi w a0 0 1) → Φ (.inl (some (.int 0))) w10) : mW G mX11_setGrid 4 0 0 0 [(0, .ref a0), (1, .int x1), (2, .int x2), (3, .int x3), (4, .int x4)] [] w Φ := by
  refine mW_aload_n (j := 0) dX11_setGrid_0 rfl rfl ?_
  refine mW_iload_n (j := 1) dX11_setGrid_1 rfl rfl ?_
  refine mW_i2l dX11_setGrid_2 ?_
  refine mW_lconst (v := 0) dX11_setGrid_3 (by decide) ?_
  refine mW_ldc2 (v := 2) dX11_setGrid_4 u1740 ?_
  refine mW_callSe (As := [.long x1.toInt64, .long 0, .long 2]) (rest := [.ref a0]) (kc2 := 0) (ks2 := 0) dX11_setGrid_7 l_X11_92 rfl (qX11_in (w := w) (y0 := x1.toInt64) (y2 := 0) (y4 := 2)) (Nat.le_of_ble_eq_true rfl) (by decide) rfl rfl ?_
  refine mW_if_ne (tgt := 17) dX11_setGrid_10 (by decide) (fun c1 => ?_) (fun c1 => ?_)
  · refine mW_iload_n (j := 2) dX11_setGrid_17 rfl rfl ?_
    refine mW_i2l dX11_setGrid_18 ?_
    refine mW_lconst (v := 0) dX11_setGrid_19 (by decide) ?_
    refine mW_ldc2 (v := 999) dX11_setGrid_20 u1741 ?_
    refine mW_callSe (As := [.long x2.toInt64, .long 0, .long 999]) (rest := [.ref a0]) (kc2 := 0) (ks2 := 0) dX11_setGrid_23 l_X11_92 rfl (qX11_in (w := w) (y0 := x2.toInt64) (y2 := 0) (y4 := 999)) (Nat.le_of_ble_eq_true rfl) (by decide) rfl rfl ?_
    refine mW_if_eq (tgt := 68) dX11_setGrid_26 (by decide) (fun c2 => ?_) (fun c2 => ?_)
    · refine mW_iconst (v := 2) dX11_setGrid_68 (by decide) ?_
      refine mW_goto (tgt := 73) dX11_setGrid_69 (by decide) ?_
      refine mW_put (ty := .int) (w2 := sfi w a0 0 2) dX11_setGrid_73 p_X11_3 h1 (Nat.le_of_ble_eq_true rfl) (by first | rfl | decide | (repeat' split) <;> rfl) rfl (hN_sfi _ _ _ _) (hk_sfi _ _ _ _) (mE_sfi h1 (by decide) (ob_11_0 _ _ _)) ?_
      refine mW_nm (fun w1 e1 => ?_)
      refine mW_aload_n (j := 0) dX11_setGrid_76 rfl rfl ?_
      refine mW_getL (v := 2) dX11_setGrid_77 f_X11_3 (s2k (S2_sfi e1) h1) rfl (by rw [e1, e_hfi_sfi, up2_at]) ?_
      refine mW_if_eq (tgt := 85) dX11_setGrid_80 (by decide) (fun c => absurd c (by decide)) (fun _ => ?_)
      refine mW_iconst (v := 0) dX11_setGrid_83 (by decide) ?_
      exact mW_iret dX11_setGrid_84 rfl (k1 c1 c2 w1 e1)
    · refine mW_iload_n (j := 3) dX11_setGrid_29 rfl rfl ?_
      refine mW_i2l dX11_setGrid_30 ?_
      refine mW_lconst (v := 1) dX11_setGrid_31 (by decide) ?_
      refine mW_ldc2 (v := 200) dX11_setGrid_32 u1742 ?_
      refine mW_callSe (As := [.long x3.toInt64, .long 1, .long 200]) (rest := [.ref a0]) (kc2 := 0) (ks2 := 0) dX11_setGrid_35 l_X11_92 rfl (qX11_in (w := w) (y0 := x3.toInt64) (y2 := 1) (y4 := 200)) (Nat.le_of_ble_eq_true rfl) (by decide) rfl rfl ?_
      refine mW_if_eq (tgt := 68) dX11_setGrid_38 (by decide) (fun c3 => ?_) (fun c3 => ?_)
      · refine mW_iconst (v := 2) dX11_setGrid_68 (by decide) ?_
        refine mW_goto (tgt := 73) dX11_setGrid_69 (by decide) ?_
        refine mW_put (ty := .int) (w2 := sfi w a0 0 2) dX11_setGrid_73 p_X11_3 h1 (Nat.le_of_ble_eq_true rfl) (by first | rfl | decide | (repeat' split) <;> rfl) rfl (hN_sfi _ _ _ _) (hk_sfi _ _ _ _) (mE_sfi h1 (by decide) (ob_11_0 _ _ _)) ?_
        refine mW_nm (fun w2 e2 => ?_)
        refine mW_aload_n (j := 0) dX11_setGrid_76 rfl rfl ?_
        refine mW_getL (v := 2) dX11_setGrid_77 f_X11_3 (s2k (S2_sfi e2) h1) rfl (by rw [e2, e_hfi_sfi, up2_at]) ?_
        refine mW_if_eq (tgt := 85) dX11_setGrid_80 (by decide) (fun c => absurd c (by decide)) (fun _ => ?_)
        refine mW_iconst (v := 0) dX11_setGrid_83 (by decide) ?_
        exact mW_iret dX11_setGrid_84 rfl (k2 c1 c2 c3 w2 e2)
      · refine mW_iload (j := 4) dX11_setGrid_41 rfl ?_
        refine mW_i2l dX11_setGrid_43 ?_
        refine mW_lconst (v := 1) dX11_setGrid_44 (by decide) ?_
        refine mW_ldc2 (v := 6) dX11_setGrid_45 u1743 ?_
        refine mW_callSe (As := [.long x4.toInt64, .long 1, .long 6]) (rest := [.ref a0]) (kc2 := 0) (ks2 := 0) dX11_setGrid_48 l_X11_92 rfl (qX11_in (w := w) (y0 := x4.toInt64) (y2 := 1) (y4 := 6)) (Nat.le_of_ble_eq_true rfl) (by decide) rfl rfl ?_
        refine mW_if_eq (tgt := 68) dX11_setGrid_51 (by decide) (fun c4 => ?_) (fun c4 => ?_)
        · refine mW_iconst (v := 2) dX11_setGrid_68 (by decide) ?_
          refine mW_goto (tgt := 73) dX11_setGrid_69 (by decide) ?_
          refine mW_put (ty := .int) (w2 := sfi w a0 0 2) dX11_setGrid_73 p_X11_3 h1 (Nat.le_of_ble_eq_true rfl) (by first | rfl | decide | (repeat' split) <;> rfl) rfl (hN_sfi _ _ _ _) (hk_sfi _ _ _ _) (mE_sfi h1 (by decide) (ob_11_0 _ _ _)) ?_
          refine mW_nm (fun w3 e3 => ?_)
          refine mW_aload_n (j := 0) dX11_setGrid_76 rfl rfl ?_
          refine mW_getL (v := 2) dX11_setGrid_77 f_X11_3 (s2k (S2_sfi e3) h1) rfl (by rw [e3, e_hfi_sfi, up2_at]) ?_
          refine mW_if_eq (tgt := 85) dX11_setGrid_80 (by decide) (fun c => absurd c (by decide)) (fun _ => ?_)
          refine mW_iconst (v := 0) dX11_setGrid_83 (by decide) ?_
          exact mW_iret dX11_setGrid_84 rfl (k3 c1 c2 c3 c4 w3 e3)
        · refine mW_iload_n (j := 2) dX11_setGrid_54 rfl rfl ?_
          refine mW_iload_n (j := 3) dX11_setGrid_55 rfl rfl ?_
          refine mW_iload (j := 4) dX11_setGrid_56 rfl ?_
          refine mW_iconst (v := 1) dX11_setGrid_58 (by decide) ?_
          refine mW_isub dX11_setGrid_59 ?_
          refine mW_imul dX11_setGrid_60 ?_
          refine mW_iadd dX11_setGrid_61 ?_
          refine mW_sipush (v := 999) dX11_setGrid_62 (by decide) ?_
          refine mW_icmp_le (tgt := 72) dX11_setGrid_65 (by decide) (fun c5 => ?_) (fun c5 => ?_)
          · refine mW_iconst (v := 0) dX11_setGrid_72 (by decide) ?_
            refine mW_put (ty := .int) (w2 := sfi w a0 0 0) dX11_setGrid_73 p_X11_3 h1 (Nat.le_of_ble_eq_true rfl) (by first | rfl | decide | (repeat' split) <;> rfl) rfl (hN_sfi _ _ _ _) (hk_sfi _ _ _ _) (mE_sfi h1 (by decide) (ob_11_0 _ _ _)) ?_
            refine mW_nm (fun w4 e4 => ?_)
            refine mW_aload_n (j := 0) dX11_setGrid_76 rfl rfl ?_
            refine mW_getL (v := 0) dX11_setGrid_77 f_X11_3 (s2k (S2_sfi e4) h1) rfl (by rw [e4, e_hfi_sfi, up2_at]) ?_
            refine mW_if_eq (tgt := 85) dX11_setGrid_80 (by decide) (fun _ => ?_) (fun c => absurd (by decide) c)
            refine mW_aload_n (j := 0) dX11_setGrid_85 rfl rfl ?_
            refine mW_callV (As := []) (rest := []) (kc2 := 0) (ks2 := 0) dX11_setGrid_86 l_X11_96 rfl (s2k (S2_sfi e4) h1) rfl (by decide) (rX11_keeps (w := w4) (a0 := a0) (zRef_s2 (S2_sfi e4) h2) (s1 c1 c2 c3 c4 c5 w4 e4) (s2 c1 c2 c3 c4 c5 w4 e4)) (Nat.le_of_ble_eq_true rfl) (by decide) rfl rfl mP_x (mP_k (fun w5 q1 => ?_))
            refine mW_aload_n (j := 0) dX11_setGrid_89 rfl rfl ?_
            refine mW_getR dX11_setGrid_90 f_X11_13 (s2k (mS2.of q1.1.1) (s2k (S2_sfi e4) h1)) rfl (s2r (mS2.of q1.1.1) (s2r (S2_sfi e4) h3)) ?_
            refine mW_bipush (v := 20) dX11_setGrid_93 (by decide) ?_
            refine mW_iconst (v := 3) dX11_setGrid_95 (by decide) ?_
            refine mW_iload_n (j := 1) dX11_setGrid_96 rfl rfl ?_
            refine mW_imul dX11_setGrid_97 ?_
            refine mW_iadd dX11_setGrid_98 ?_
            refine mW_iload_n (j := 2) dX11_setGrid_99 rfl rfl ?_
            refine mW_iastJ dX11_setGrid_100 (s2k (mS2.of q1.1.1) (s2k (S2_sfi e4) h4)) (s3 c1 c2 c3 c4 c5 w4 e4 w5 q1) rfl ?_
            refine mW_nm (fun w6 e5 => ?_)
            refine mW_aload_n (j := 0) dX11_setGrid_101 rfl rfl ?_
            refine mW_getR dX11_setGrid_102 f_X11_13 (s2k (S2_sai e5) (s2k (mS2.of q1.1.1) (s2k (S2_sfi e4) h1))) rfl (s2r (S2_sai e5) (s2r (mS2.of q1.1.1) (s2r (S2_sfi e4) h3))) ?_
            refine mW_bipush (v := 20) dX11_setGrid_105 (by decide) ?_
            refine mW_iconst (v := 3) dX11_setGrid_107 (by decide) ?_
            refine mW_iload_n (j := 1) dX11_setGrid_108 rfl rfl ?_
            refine mW_imul dX11_setGrid_109 ?_
            refine mW_iadd dX11_setGrid_110 ?_
            refine mW_iconst (v := 1) dX11_setGrid_111 (by decide) ?_
            refine mW_iadd dX11_setGrid_112 ?_
            refine mW_iload_n (j := 3) dX11_setGrid_113 rfl rfl ?_
            refine mW_iastJ dX11_setGrid_114 (s2k (S2_sai e5) (s2k (mS2.of q1.1.1) (s2k (S2_sfi e4) h4))) (s4 c1 c2 c3 c4 c5 w4 e4 w5 q1 w6 e5) rfl ?_
            refine mW_nm (fun w7 e6 => ?_)
            refine mW_aload_n (j := 0) dX11_setGrid_115 rfl rfl ?_
            refine mW_getR dX11_setGrid_116 f_X11_13 (s2k (S2_sai e6) (s2k (S2_sai e5) (s2k (mS2.of q1.1.1) (s2k (S2_sfi e4) h1)))) rfl (s2r (S2_sai e6) (s2r (S2_sai e5) (s2r (mS2.of q1.1.1) (s2r (S2_sfi e4) h3)))) ?_
            refine mW_bipush (v := 20) dX11_setGrid_119 (by decide) ?_
            refine mW_iconst (v := 3) dX11_setGrid_121 (by decide) ?_
            refine mW_iload_n (j := 1) dX11_setGrid_122 rfl rfl ?_
            refine mW_imul dX11_setGrid_123 ?_
            refine mW_iadd dX11_setGrid_124 ?_
            refine mW_iconst (v := 2) dX11_setGrid_125 (by decide) ?_
            refine mW_iadd dX11_setGrid_126 ?_
            refine mW_iload (j := 4) dX11_setGrid_127 rfl ?_
            refine mW_iastJ dX11_setGrid_129 (s2k (S2_sai e6) (s2k (S2_sai e5) (s2k (mS2.of q1.1.1) (s2k (S2_sfi e4) h4)))) (s5 c1 c2 c3 c4 c5 w4 e4 w5 q1 w6 e5 w7 e6) rfl ?_
            refine mW_nm (fun w8 e7 => ?_)
            refine mW_aload_n (j := 0) dX11_setGrid_130 rfl rfl ?_
            refine mW_callVe (As := []) (rest := []) (kc2 := 0) (ks2 := 0) dX11_setGrid_131 l_X11_139 rfl (s2k (S2_sai e7) (s2k (S2_sai e6) (s2k (S2_sai e5) (s2k (mS2.of q1.1.1) (s2k (S2_sfi e4) h1))))) rfl (by decide) (qX11_triples (w := w8) (a0 := a0) (s2k (S2_sai e7) (s2k (S2_sai e6) (s2k (S2_sai e5) (s2k (mS2.of q1.1.1) (s2k (S2_sfi e4) h1))))) (s2r (S2_sai e7) (s2r (S2_sai e6) (s2r (S2_sai e5) (s2r (mS2.of q1.1.1) (s2r (S2_sfi e4) h3))))) (s2k (S2_sai e7) (s2k (S2_sai e6) (s2k (S2_sai e5) (s2k (mS2.of q1.1.1) (s2k (S2_sfi e4) h4))))) (s6 c1 c2 c3 c4 c5 w4 e4 w5 q1 w6 e5 w7 e6 w8 e7) (s7 c1 c2 c3 c4 c5 w4 e4 w5 q1 w6 e5 w7 e6 w8 e7) (s8 c1 c2 c3 c4 c5 w4 e4 w5 q1 w6 e5 w7 e6 w8 e7)) (Nat.le_of_ble_eq_true rfl) (by decide) rfl rfl ?_
            exact mW_iret dX11_setGrid_134 rfl (k4 c1 c2 c3 c4 c5 w4 e4 w5 q1 w6 e5 w7 e6 w8 e7)
          · refine mW_iconst (v := 2) dX11_setGrid_68 (by decide) ?_
            refine mW_goto (tgt := 73) dX11_setGrid_69 (by decide) ?_
            refine mW_put (ty := .int) (w2 := sfi w a0 0 2) dX11_setGrid_73 p_X11_3 h1 (Nat.le_of_ble_eq_true rfl) (by first | rfl | decide | (repeat' split) <;> rfl) rfl (hN_sfi _ _ _ _) (hk_sfi _ _ _ _) (mE_sfi h1 (by decide) (ob_11_0 _ _ _)) ?_
            refine mW_nm (fun w9 e8 => ?_)
            refine mW_aload_n (j := 0) dX11_setGrid_76 rfl rfl ?_
            refine mW_getL (v := 2) dX11_setGrid_77 f_X11_3 (s2k (S2_sfi e8) h1) rfl (by rw [e8, e_hfi_sfi, up2_at]) ?_
            refine mW_if_eq (tgt := 85) dX11_setGrid_80 (by decide) (fun c => absurd c (by decide)) (fun _ => ?_)
            refine mW_iconst (v := 0) dX11_setGrid_83 (by decide) ?_
            exact mW_iret dX11_setGrid_84 rfl (k5 c1 c2 c3 c4 c5 w9 e8)
  · refine mW_iconst (v := 1) dX11_setGrid_13 (by decide) ?_
    refine mW_goto (tgt := 73) dX11_setGrid_14 (by decide) ?_
    refine mW_put (ty := .int) (w2 := sfi w a0 0 1) dX11_setGrid_73 p_X11_3 h1 (Nat.le_of_ble_eq_true rfl) (by first | rfl | decide | (repeat' split) <;> rfl) rfl (hN_sfi _ _ _ _) (hk_sfi _ _ _ _) (mE_sfi h1 (by decide) (ob_11_0 _ _ _)) ?_
    refine mW_nm (fun w10 e9 => ?_)
    refine mW_aload_n (j := 0) dX11_setGrid_76 rfl rfl ?_
    refine mW_getL (v := 1) dX11_setGrid_77 f_X11_3 (s2k (S2_sfi e9) h1) rfl (by rw [e9, e_hfi_sfi, up2_at]) ?_
    refine mW_if_eq (tgt := 85) dX11_setGrid_80 (by decide) (fun c => absurd c (by decide)) (fun _ => ?_)
    refine mW_iconst (v := 0) dX11_setGrid_83 (by decide) ?_
    exact mW_iret dX11_setGrid_84 rfl (k6 c1 w10 e9)
theorem rX11_setGrid {G : mG} {w : mH} {a0 c : Nat} {x1 x2 x3 x4 : Int32} (z : zRef w a0) (h5 : hfi w a0 5 = nI c) (hc : c ≤ 6) : mC G mX11_setGrid 4 0 0 [.ref a0, .int x1, .int x2, .int x3, .int x4] w (mP (some (.int (if tGrd x1 x2 x3 x4 = 0 then trI (upG (hai w (a0 + 1)) x1.toNatClampNeg x2 x3 x4) else 0))) (fun w' => chO w w' a0 c (tGrd x1 x2 x3 x4) (upG (hai w (a0 + 1)) x1.toNatClampNeg x2 x3 x4))) := by
  refine mC_of (by decide +kernel) rfl (Nat.le_of_ble_eq_true rfl) rfl ?_
  refine gX11_setGrid_0 (c := c) (A := fun _ => 0) (a0_1 := a0 + 1) z.1 z (by intro c1 c2 c3 c4 c5 w4 e4; obtain ⟨g, hg, hx⟩ := iw_N (n := 2) (by decide) rfl (show ¬ vX10_isWithin x1 0 2 = 0 by rw [← in_eq (A := 0) (B := 2) rfl rfl]; exact c1); have e20 : (20 : Int32) + 3 * x1 = nI (20 + 3 * g) := (by rw [hx, show (3 : Int32) = nI 3 from rfl, pk_mul, show (20 : Int32) = nI 20 from rfl, nI_add]); have e21 : (20 : Int32) + 3 * x1 + 1 = nI (20 + 3 * g + 1) := (by rw [e20, nI_1]); have e22 : (20 : Int32) + 3 * x1 + 2 = nI (20 + 3 * g + 2) := (by rw [e20, show (2 : Int32) = nI 2 from rfl, nI_add]); rw [e4, e_hfi_sfi, up2_k _ _ _ (by decide)]; exact h5) (by intro c1 c2 c3 c4 c5 w4 e4; obtain ⟨g, hg, hx⟩ := iw_N (n := 2) (by decide) rfl (show ¬ vX10_isWithin x1 0 2 = 0 by rw [← in_eq (A := 0) (B := 2) rfl rfl]; exact c1); have e20 : (20 : Int32) + 3 * x1 = nI (20 + 3 * g) := (by rw [hx, show (3 : Int32) = nI 3 from rfl, pk_mul, show (20 : Int32) = nI 20 from rfl, nI_add]); have e21 : (20 : Int32) + 3 * x1 + 1 = nI (20 + 3 * g + 1) := (by rw [e20, nI_1]); have e22 : (20 : Int32) + 3 * x1 + 2 = nI (20 + 3 * g + 2) := (by rw [e20, show (2 : Int32) = nI 2 from rfl, nI_add]); exact hc) z.2.1 z.2.2.2.2.2.2.2.2.2.2.2.2.2.2.2.2.2.2.2.2.2.2.1 (by intro c1 c2 c3 c4 c5 w4 e4 w5 q1; obtain ⟨g, hg, hx⟩ := iw_N (n := 2) (by decide) rfl (show ¬ vX10_isWithin x1 0 2 = 0 by rw [← in_eq (A := 0) (B := 2) rfl rfl]; exact c1); have e20 : (20 : Int32) + 3 * x1 = nI (20 + 3 * g) := (by rw [hx, show (3 : Int32) = nI 3 from rfl, pk_mul, show (20 : Int32) = nI 20 from rfl, nI_add]); have e21 : (20 : Int32) + 3 * x1 + 1 = nI (20 + 3 * g + 1) := (by rw [e20, nI_1]); have e22 : (20 : Int32) + 3 * x1 + 2 = nI (20 + 3 * g + 2) := (by rw [e20, show (2 : Int32) = nI 2 from rfl, nI_add]); rw [e20]; exact m_vp (by omega) (by decide)) (by intro c1 c2 c3 c4 c5 w4 e4 w5 q1 w6 e5; obtain ⟨g, hg, hx⟩ := iw_N (n := 2) (by decide) rfl (show ¬ vX10_isWithin x1 0 2 = 0 by rw [← in_eq (A := 0) (B := 2) rfl rfl]; exact c1); have e20 : (20 : Int32) + 3 * x1 = nI (20 + 3 * g) := (by rw [hx, show (3 : Int32) = nI 3 from rfl, pk_mul, show (20 : Int32) = nI 20 from rfl, nI_add]); have e21 : (20 : Int32) + 3 * x1 + 1 = nI (20 + 3 * g + 1) := (by rw [e20, nI_1]); have e22 : (20 : Int32) + 3 * x1 + 2 = nI (20 + 3 * g + 2) := (by rw [e20, show (2 : Int32) = nI 2 from rfl, nI_add]); rw [e21]; exact m_vp (by omega) (by decide)) (by intro c1 c2 c3 c4 c5 w4 e4 w5 q1 w6 e5 w7 e6; obtain ⟨g, hg, hx⟩ := iw_N (n := 2) (by decide) rfl (show ¬ vX10_isWithin x1 0 2 = 0 by rw [← in_eq (A := 0) (B := 2) rfl rfl]; exact c1); have e20 : (20 : Int32) + 3 * x1 = nI (20 + 3 * g) := (by rw [hx, show (3 : Int32) = nI 3 from rfl, pk_mul, show (20 : Int32) = nI 20 from rfl, nI_add]); have e21 : (20 : Int32) + 3 * x1 + 1 = nI (20 + 3 * g + 1) := (by rw [e20, nI_1]); have e22 : (20 : Int32) + 3 * x1 + 2 = nI (20 + 3 * g + 2) := (by rw [e20, show (2 : Int32) = nI 2 from rfl, nI_add]); rw [e22]; exact m_vp (by omega) (by decide)) (by intro c1 c2 c3 c4 c5 w4 e4 w5 q1 w6 e5 w7 e6 w8 e7; obtain ⟨g, hg, hx⟩ := iw_N (n := 2) (by decide) rfl (show ¬ vX10_isWithin x1 0 2 = 0 by rw [← in_eq (A := 0) (B := 2) rfl rfl]; exact c1); have e20 : (20 : Int32) + 3 * x1 = nI (20 + 3 * g) := (by rw [hx, show (3 : Int32) = nI 3 from rfl, pk_mul, show (20 : Int32) = nI 20 from rfl, nI_add]); have e21 : (20 : Int32) + 3 * x1 + 1 = nI (20 + 3 * g + 1) := (by rw [e20, nI_1]); have e22 : (20 : Int32) + 3 * x1 + 2 = nI (20 + 3 * g + 2) := (by rw [e20, show (2 : Int32) = nI 2 from rfl, nI_add]); unfold vp_in; decide) (by intro c1 c2 c3 c4 c5 w4 e4 w5 q1 w6 e5 w7 e6 w8 e7; obtain ⟨g, hg, hx⟩ := iw_N (n := 2) (by decide) rfl (show ¬ vX10_isWithin x1 0 2 = 0 by rw [← in_eq (A := 0) (B := 2) rfl rfl]; exact c1); have e20 : (20 : Int32) + 3 * x1 = nI (20 + 3 * g) := (by rw [hx, show (3 : Int32) = nI 3 from rfl, pk_mul, show (20 : Int32) = nI 20 from rfl, nI_add]); have e21 : (20 : Int32) + 3 * x1 + 1 = nI (20 + 3 * g + 1) := (by rw [e20, nI_1]); have e22 : (20 : Int32) + 3 * x1 + 2 = nI (20 + 3 * g + 2) := (by rw [e20, show (2 : Int32) = nI 2 from rfl, nI_add]); unfold vp_in; decide) (by intro c1 c2 c3 c4 c5 w4 e4 w5 q1 w6 e5 w7 e6 w8 e7; obtain ⟨g, hg, hx⟩ := iw_N (n := 2) (by decide) rfl (show ¬ vX10_isWithin x1 0 2 = 0 by rw [← in_eq (A := 0) (B := 2) rfl rfl]; exact c1); have e20 : (20 : Int32) + 3 * x1 = nI (20 + 3 * g) := (by rw [hx, show (3 : Int32) = nI 3 from rfl, pk_mul, show (20 : Int32) = nI 20 from rfl, nI_add]); have e21 : (20 : Int32) + 3 * x1 + 1 = nI (20 + 3 * g + 1) := (by rw [e20, nI_1]); have e22 : (20 : Int32) + 3 * x1 + 2 = nI (20 + 3 * g + 2) := (by rw [e20, show (2 : Int32) = nI 2 from rfl, nI_add]); unfold vp_in; decide) ?_ ?_ ?_ ?_ ?_ ?_
  · intro c1 c2 w1 e1
    obtain ⟨g, hg, hx⟩ := iw_N (n := 2) (by decide) rfl (show ¬ vX10_isWithin x1 0 2 = 0 by rw [← in_eq (A := 0) (B := 2) rfl rfl]; exact c1)
    have e20 : (20 : Int32) + 3 * x1 = nI (20 + 3 * g) := (by rw [hx, show (3 : Int32) = nI 3 from rfl, pk_mul, show (20 : Int32) = nI 20 from rfl, nI_add])
    have e21 : (20 : Int32) + 3 * x1 + 1 = nI (20 + 3 * g + 1) := (by rw [e20, nI_1])
    have e22 : (20 : Int32) + 3 * x1 + 2 = nI (20 + 3 * g + 2) := (by rw [e20, show (2 : Int32) = nI 2 from rfl, nI_add])
    have c1e : ¬ vX10_isWithin x1 0 2 = 0 := (by rw [← in_eq (A := 0) (B := 2) rfl rfl]; exact c1)
    rw [in_eq (a := 0) (b := 999) (A := 0) (B := 999) rfl rfl] at c2
    have et : tGrd x1 x2 x3 x4 = 2 := by unfold tGrd; rw [if_neg c1e, if_pos c2]
    rw [et, if_neg (by decide)]
    exact mP_of (chO_bad (by decide) e1)
  · intro c1 c2 c3 w2 e2
    obtain ⟨g, hg, hx⟩ := iw_N (n := 2) (by decide) rfl (show ¬ vX10_isWithin x1 0 2 = 0 by rw [← in_eq (A := 0) (B := 2) rfl rfl]; exact c1)
    have e20 : (20 : Int32) + 3 * x1 = nI (20 + 3 * g) := (by rw [hx, show (3 : Int32) = nI 3 from rfl, pk_mul, show (20 : Int32) = nI 20 from rfl, nI_add])
    have e21 : (20 : Int32) + 3 * x1 + 1 = nI (20 + 3 * g + 1) := (by rw [e20, nI_1])
    have e22 : (20 : Int32) + 3 * x1 + 2 = nI (20 + 3 * g + 2) := (by rw [e20, show (2 : Int32) = nI 2 from rfl, nI_add])
    have c1e : ¬ vX10_isWithin x1 0 2 = 0 := (by rw [← in_eq (A := 0) (B := 2) rfl rfl]; exact c1)
    rw [in_eq (a := 0) (b := 999) (A := 0) (B := 999) rfl rfl] at c2
    rw [in_eq (a := 1) (b := 200) (A := 1) (B := 200) rfl rfl] at c3
    have et : tGrd x1 x2 x3 x4 = 2 := by unfold tGrd; rw [if_neg c1e, if_neg c2, if_pos c3]
    rw [et, if_neg (by decide)]
    exact mP_of (chO_bad (by decide) e2)
  · intro c1 c2 c3 c4 w3 e3
    obtain ⟨g, hg, hx⟩ := iw_N (n := 2) (by decide) rfl (show ¬ vX10_isWithin x1 0 2 = 0 by rw [← in_eq (A := 0) (B := 2) rfl rfl]; exact c1)
    have e20 : (20 : Int32) + 3 * x1 = nI (20 + 3 * g) := (by rw [hx, show (3 : Int32) = nI 3 from rfl, pk_mul, show (20 : Int32) = nI 20 from rfl, nI_add])
    have e21 : (20 : Int32) + 3 * x1 + 1 = nI (20 + 3 * g + 1) := (by rw [e20, nI_1])
    have e22 : (20 : Int32) + 3 * x1 + 2 = nI (20 + 3 * g + 2) := (by rw [e20, show (2 : Int32) = nI 2 from rfl, nI_add])
    have c1e : ¬ vX10_isWithin x1 0 2 = 0 := (by rw [← in_eq (A := 0) (B := 2) rfl rfl]; exact c1)
    rw [in_eq (a := 0) (b := 999) (A := 0) (B := 999) rfl rfl] at c2
    rw [in_eq (a := 1) (b := 200) (A := 1) (B := 200) rfl rfl] at c3
    rw [in_eq (a := 1) (b := 6) (A := 1) (B := 6) rfl rfl] at c4
    have et : tGrd x1 x2 x3 x4 = 2 := by unfold tGrd; rw [if_neg c1e, if_neg c2, if_neg c3, if_pos c4]
    rw [et, if_neg (by decide)]
    exact mP_of (chO_bad (by decide) e3)
  · intro c1 c2 c3 c4 c5 w4 e4 w5 q1 w6 e5 w7 e6 w8 e7
    obtain ⟨g, hg, hx⟩ := iw_N (n := 2) (by decide) rfl (show ¬ vX10_isWithin x1 0 2 = 0 by rw [← in_eq (A := 0) (B := 2) rfl rfl]; exact c1)
    have e20 : (20 : Int32) + 3 * x1 = nI (20 + 3 * g) := (by rw [hx, show (3 : Int32) = nI 3 from rfl, pk_mul, show (20 : Int32) = nI 20 from rfl, nI_add])
    have e21 : (20 : Int32) + 3 * x1 + 1 = nI (20 + 3 * g + 1) := (by rw [e20, nI_1])
    have e22 : (20 : Int32) + 3 * x1 + 2 = nI (20 + 3 * g + 2) := (by rw [e20, show (2 : Int32) = nI 2 from rfl, nI_add])
    have c1e : ¬ vX10_isWithin x1 0 2 = 0 := (by rw [← in_eq (A := 0) (B := 2) rfl rfl]; exact c1)
    rw [in_eq (a := 0) (b := 999) (A := 0) (B := 999) rfl rfl] at c2
    rw [in_eq (a := 1) (b := 200) (A := 1) (B := 200) rfl rfl] at c3
    rw [in_eq (a := 1) (b := 6) (A := 1) (B := 6) rfl rfl] at c4
    have ei : x1.toNatClampNeg = g := by rw [hx]; exact m_cl (by omega)
    have et : tGrd x1 x2 x3 x4 = 0 := by unfold tGrd; rw [if_neg c1e, if_neg c2, if_neg c3, if_neg c4, if_pos c5]
    rw [e20, m_cl (by omega)] at e5
    rw [e21, m_cl (by omega)] at e6
    rw [e22, m_cl (by omega)] at e7
    have er : hai w8 (a0 + 1) = upd (upd (upd (hai w5 (a0 + 1)) (20 + 3 * g) x2) (20 + 3 * g + 1) x3) (20 + 3 * g + 2) x4 := by
      rw [e7, e_hai_sai, up2_row, e6, e_hai_sai, up2_row, e5, e_hai_sai, up2_row]
    have ek : ∀ k, k < 78 → hai w8 (a0 + 1) k = upG (hai w (a0 + 1)) g x2 x3 x4 k := fun k hk => by
      rw [er]
      unfold upG upd
      by_cases d2 : k = 20 + 3 * g + 2
      · rw [if_pos d2, if_pos d2]
      · rw [if_neg d2, if_neg d2]
        by_cases d1 : k = 20 + 3 * g + 1
        · rw [if_pos d1, if_pos d1]
        · rw [if_neg d1, if_neg d1]
          by_cases d0 : k = 20 + 3 * g
          · rw [if_pos d0, if_pos d0]
          · rw [if_neg d0, if_neg d0, kp_0 q1 hk, e4]; rfl
    have ev : vX11_triples w8 (a0 + 1) = trI (upG (hai w (a0 + 1)) g x2 x3 x4) := by
      show hai w8 (a0 + 1) 22 * hai w8 (a0 + 1) 25 * hai w8 (a0 + 1) 28 = _
      rw [ek 22 (by decide), ek 25 (by decide), ek 28 (by decide)]
      rfl
    rw [et, if_pos rfl, ev, ei]
    refine mP_of (chO_ok e4 q1 (by rw [e7, e6, e5]; exact xF_sai (xF_sai (xF_sai xF.rf (by decide)) (by decide)) (by decide)) ek (fun j hj => ?_))
    rw [er, upd_ne (by omega), upd_ne (by omega), upd_ne (by omega)]
  · intro c1 c2 c3 c4 c5 w9 e8
    obtain ⟨g, hg, hx⟩ := iw_N (n := 2) (by decide) rfl (show ¬ vX10_isWithin x1 0 2 = 0 by rw [← in_eq (A := 0) (B := 2) rfl rfl]; exact c1)
    have e20 : (20 : Int32) + 3 * x1 = nI (20 + 3 * g) := (by rw [hx, show (3 : Int32) = nI 3 from rfl, pk_mul, show (20 : Int32) = nI 20 from rfl, nI_add])
    have e21 : (20 : Int32) + 3 * x1 + 1 = nI (20 + 3 * g + 1) := (by rw [e20, nI_1])
    have e22 : (20 : Int32) + 3 * x1 + 2 = nI (20 + 3 * g + 2) := (by rw [e20, show (2 : Int32) = nI 2 from rfl, nI_add])
    have c1e : ¬ vX10_isWithin x1 0 2 = 0 := (by rw [← in_eq (A := 0) (B := 2) rfl rfl]; exact c1)
    rw [in_eq (a := 0) (b := 999) (A := 0) (B := 999) rfl rfl] at c2
    rw [in_eq (a := 1) (b := 200) (A := 1) (B := 200) rfl rfl] at c3
    rw [in_eq (a := 1) (b := 6) (A := 1) (B := 6) rfl rfl] at c4
    have et : tGrd x1 x2 x3 x4 = 2 := by unfold tGrd; rw [if_neg c1e, if_neg c2, if_neg c3, if_neg c4, if_neg c5]
    rw [et, if_neg (by decide)]
    exact mP_of (chO_bad (by decide) e8)
  · intro c1 w10 e9
    have c1e : vX10_isWithin x1 0 2 = 0 := (by rw [← in_eq (A := 0) (B := 2) rfl rfl]; exact c1)
    have et : tGrd x1 x2 x3 x4 = 1 := by unfold tGrd; rw [if_pos c1e]
    rw [et, if_neg (by decide)]
    exact mP_of (chO_bad (by decide) e9)

