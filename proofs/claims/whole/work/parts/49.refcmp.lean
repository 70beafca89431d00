abbrev mX11_compare : mM := (yX11_compare, cX11_compare, 7, (some .int), [])
theorem f_X11_271 : mFld "LineFollowerBenchModel" 271 11 28 := ⟨RX11, TX11, 36, "LineFollowerBenchModel", rfl, by decide, in_X11, u1588, Or.inl rfl, by decide⟩
set_option maxHeartbeats 4000000 in
set_option maxRecDepth 100000 in
theorem gX11_compare_0 {G : mG} {w : mH} {Φ : mF} {a0 : Nat} {x1 : Int32} (h1 : hk w a0 = (11, 0)) (k1 : ((hfi w a0 25) = 0) → ∀ w1 : mH, (w1 = sfi w a0 0 1) → Φ (.inl (some (.int 0))) w1) (k2 : (¬ ((hfi w a0 25) = 0)) → (¬ ((hfi w a0 28) = 0)) → ((vX11_in x1.toInt64 0 2) = 0) → ∀ w2 : mH, (w2 = sfi w a0 0 2) → Φ (.inl (some (.int 0))) w2) (k3 : (¬ ((hfi w a0 25) = 0)) → (¬ ((hfi w a0 28) = 0)) → (¬ ((vX11_in x1.toInt64 0 2) = 0)) → ∀ w3 : mH, (w3 = sfi w a0 0 0) → mW G mX11_compare 2 0 0 58 [(0, .ref a0), (1, .int x1), (2, .int 0), (3, .int (-1)), (4, .int 0), (5, .int 0)] [] w3 Φ) (k4 : (¬ ((hfi w a0 25) = 0)) → ((hfi w a0 28) = 0) → ∀ w4 : mH, (w4 = sfi w a0 0 1) → Φ (.inl (some (.int 0))) w4) : mW G mX11_compare 2 0 0 0 [(0, .ref a0), (1, .int x1)] [] w Φ := by
  refine mW_aload_n (j := 0) dX11_compare_0 rfl rfl ?_
  refine mW_aload_n (j := 0) dX11_compare_1 rfl rfl ?_
  refine mW_get dX11_compare_2 f_X11_235 h1 rfl ?_
  refine mW_if_eq (tgt := 15) dX11_compare_5 (by decide) (fun c1 => ?_) (fun c1 => ?_)
  · refine mW_iconst (v := 1) dX11_compare_15 (by decide) ?_
    refine mW_goto (tgt := 36) dX11_compare_16 (by decide) ?_
    refine mW_put (ty := .int) (w2 := sfi w a0 0 1) dX11_compare_36 p_X11_3 h1 (Nat.le_of_ble_eq_true rfl) (by first | rfl | decide | (repeat' split) <;> rfl) rfl (hN_sfi _ _ _ _) (hk_sfi _ _ _ _) (mE_sfi h1 (by decide) (ob_11_0 _ _ _)) ?_
    refine mW_nm (fun w1 e1 => ?_)
    refine mW_aload_n (j := 0) dX11_compare_39 rfl rfl ?_
    refine mW_getL (v := 1) dX11_compare_40 f_X11_3 (s2k (S2_sfi e1) h1) rfl (by rw [e1, e_hfi_sfi, up2_at]) ?_
    refine mW_if_eq (tgt := 48) dX11_compare_43 (by decide) (fun c => absurd c (by decide)) (fun _ => ?_)
    refine mW_iconst (v := 0) dX11_compare_46 (by decide) ?_
    exact mW_iret dX11_compare_47 rfl (k1 c1 w1 e1)
  · refine mW_aload_n (j := 0) dX11_compare_8 rfl rfl ?_
    refine mW_get dX11_compare_9 f_X11_271 h1 rfl ?_
    refine mW_if_ne (tgt := 19) dX11_compare_12 (by decide) (fun c2 => ?_) (fun c2 => ?_)
    · refine mW_iload_n (j := 1) dX11_compare_19 rfl rfl ?_
      refine mW_i2l dX11_compare_20 ?_
      refine mW_lconst (v := 0) dX11_compare_21 (by decide) ?_
      refine mW_ldc2 (v := 2) dX11_compare_22 u1740 ?_
      refine mW_callSe (As := [.long x1.toInt64, .long 0, .long 2]) (rest := [.ref a0]) (kc2 := 0) (ks2 := 0) dX11_compare_25 l_X11_92 rfl (qX11_in (w := w) (y0 := x1.toInt64) (y2 := 0) (y4 := 2)) (Nat.le_of_ble_eq_true rfl) (by decide) rfl rfl ?_
      refine mW_if_eq (tgt := 35) dX11_compare_28 (by decide) (fun c3 => ?_) (fun c3 => ?_)
      · refine mW_iconst (v := 2) dX11_compare_35 (by decide) ?_
        refine mW_put (ty := .int) (w2 := sfi w a0 0 2) dX11_compare_36 p_X11_3 h1 (Nat.le_of_ble_eq_true rfl) (by first | rfl | decide | (repeat' split) <;> rfl) rfl (hN_sfi _ _ _ _) (hk_sfi _ _ _ _) (mE_sfi h1 (by decide) (ob_11_0 _ _ _)) ?_
        refine mW_nm (fun w2 e2 => ?_)
        refine mW_aload_n (j := 0) dX11_compare_39 rfl rfl ?_
        refine mW_getL (v := 2) dX11_compare_40 f_X11_3 (s2k (S2_sfi e2) h1) rfl (by rw [e2, e_hfi_sfi, up2_at]) ?_
        refine mW_if_eq (tgt := 48) dX11_compare_43 (by decide) (fun c => absurd c (by decide)) (fun _ => ?_)
        refine mW_iconst (v := 0) dX11_compare_46 (by decide) ?_
        exact mW_iret dX11_compare_47 rfl (k2 c1 c2 c3 w2 e2)
      · refine mW_iconst (v := 0) dX11_compare_31 (by decide) ?_
        refine mW_goto (tgt := 36) dX11_compare_32 (by decide) ?_
        refine mW_put (ty := .int) (w2 := sfi w a0 0 0) dX11_compare_36 p_X11_3 h1 (Nat.le_of_ble_eq_true rfl) (by first | rfl | decide | (repeat' split) <;> rfl) rfl (hN_sfi _ _ _ _) (hk_sfi _ _ _ _) (mE_sfi h1 (by decide) (ob_11_0 _ _ _)) ?_
        refine mW_nm (fun w3 e3 => ?_)
        refine mW_aload_n (j := 0) dX11_compare_39 rfl rfl ?_
        refine mW_getL (v := 0) dX11_compare_40 f_X11_3 (s2k (S2_sfi e3) h1) rfl (by rw [e3, e_hfi_sfi, up2_at]) ?_
        refine mW_if_eq (tgt := 48) dX11_compare_43 (by decide) (fun _ => ?_) (fun c => absurd (by decide) c)
        refine mW_iconst (v := 0) dX11_compare_48 (by decide) ?_
        refine mW_istore_n (lv2 := [(2, .int 0), (0, .ref a0), (1, .int x1)]) dX11_compare_49 rfl (by decide) rfl ?_
        refine mW_iconst (v := (-1)) dX11_compare_50 (by decide) ?_
        refine mW_istore_n (lv2 := [(3, .int (-1)), (2, .int 0), (0, .ref a0), (1, .int x1)]) dX11_compare_51 rfl (by decide) rfl ?_
        refine mW_iconst (v := 0) dX11_compare_52 (by decide) ?_
        refine mW_istore (lv2 := [(4, .int 0), (3, .int (-1)), (2, .int 0), (0, .ref a0), (1, .int x1)]) dX11_compare_53 (by decide) rfl ?_
        refine mW_iconst (v := 0) dX11_compare_55 (by decide) ?_
        refine mW_istore (lv2 := [(5, .int 0), (4, .int 0), (3, .int (-1)), (2, .int 0), (0, .ref a0), (1, .int x1)]) dX11_compare_56 (by decide) rfl ?_
        refine mW_loc [4, 5, 3, 2, 1, 0] (lv2 := [(0, .ref a0), (1, .int x1), (2, .int 0), (3, .int (-1)), (4, .int 0), (5, .int 0)]) rfl ?_
        exact k3 c1 c2 c3 w3 e3
    · refine mW_iconst (v := 1) dX11_compare_15 (by decide) ?_
      refine mW_goto (tgt := 36) dX11_compare_16 (by decide) ?_
      refine mW_put (ty := .int) (w2 := sfi w a0 0 1) dX11_compare_36 p_X11_3 h1 (Nat.le_of_ble_eq_true rfl) (by first | rfl | decide | (repeat' split) <;> rfl) rfl (hN_sfi _ _ _ _) (hk_sfi _ _ _ _) (mE_sfi h1 (by decide) (ob_11_0 _ _ _)) ?_
      refine mW_nm (fun w4 e4 => ?_)
      refine mW_aload_n (j := 0) dX11_compare_39 rfl rfl ?_
      refine mW_getL (v := 1) dX11_compare_40 f_X11_3 (s2k (S2_sfi e4) h1) rfl (by rw [e4, e_hfi_sfi, up2_at]) ?_
      refine mW_if_eq (tgt := 48) dX11_compare_43 (by decide) (fun c => absurd c (by decide)) (fun _ => ?_)
      refine mW_iconst (v := 0) dX11_compare_46 (by decide) ?_
      exact mW_iret dX11_compare_47 rfl (k4 c1 c2 w4 e4)
set_option maxHeartbeats 4000000 in
set_option maxRecDepth 100000 in
theorem gX11_compare_58 {G : mG} {w : mH} {Φ : mF} {a0 : Nat} {x1 x2 x3 x4 x5 : Int32} {a0_27 n_a0_27 a0_30 n_a0_30 : Nat} (h1 : hk w a0 = (11, 0)) (h2 : hfr w a0 27 = some a0_27) (h3 : hk w a0_27 = (16, n_a0_27)) (s1 : (¬ ((hfi w a0 26) < x5)) → (¬ ((hfi w a0 29) < x5)) → vp_in x5 n_a0_27) (h4 : hfr w a0 30 = some a0_30) (h5 : hk w a0_30 = (16, n_a0_30)) (s2 : (¬ ((hfi w a0 26) < x5)) → (¬ ((hfi w a0 29) < x5)) → vp_in x5 n_a0_30) (k1 : ((hfi w a0 26) < x5) → (¬ (x1 = 0)) → (¬ (x1 = 1)) → Φ (.inl (some (.int x4))) w) (k2 : ((hfi w a0 26) < x5) → (¬ (x1 = 0)) → (x1 = 1) → Φ (.inl (some (.int x3))) w) (k3 : ((hfi w a0 26) < x5) → (x1 = 0) → Φ (.inl (some (.int x2))) w) (k4 : (¬ ((hfi w a0 26) < x5)) → ((hfi w a0 29) < x5) → (¬ (x1 = 0)) → (¬ (x1 = 1)) → Φ (.inl (some (.int x4))) w) (k5 : (¬ ((hfi w a0 26) < x5)) → ((hfi w a0 29) < x5) → (¬ (x1 = 0)) → (x1 = 1) → Φ (.inl (some (.int x3))) w) (k6 : (¬ ((hfi w a0 26) < x5)) → ((hfi w a0 29) < x5) → (x1 = 0) → Φ (.inl (some (.int x2))) w) (k7 : (¬ ((hfi w a0 26) < x5)) → (¬ ((hfi w a0 29) < x5)) → ((vX11_amount ((hai w a0_27 x5.toNatClampNeg) - (hai w a0_30 x5.toNatClampNeg))) ≤ x2) → (0 ≤ x3) → ((vX11_amount (hai w a0_30 x5.toNatClampNeg)) ≤ (vX11_amount (hai w a0_27 x5.toNatClampNeg))) → mW G mX11_compare 2 0 0 58 [(0, .ref a0), (1, .int x1), (2, .int x2), (3, .int x3), (4, .int (x4 + 0)), (5, .int (x5 + 1))] [] w Φ) (k8 : (¬ ((hfi w a0 26) < x5)) → (¬ ((hfi w a0 29) < x5)) → ((vX11_amount ((hai w a0_27 x5.toNatClampNeg) - (hai w a0_30 x5.toNatClampNeg))) ≤ x2) → (0 ≤ x3) → (¬ ((vX11_amount (hai w a0_30 x5.toNatClampNeg)) ≤ (vX11_amount (hai w a0_27 x5.toNatClampNeg)))) → mW G mX11_compare 2 0 0 58 [(0, .ref a0), (1, .int x1), (2, .int x2), (3, .int x3), (4, .int (x4 + 1)), (5, .int (x5 + 1))] [] w Φ) (k9 : (¬ ((hfi w a0 26) < x5)) → (¬ ((hfi w a0 29) < x5)) → ((vX11_amount ((hai w a0_27 x5.toNatClampNeg) - (hai w a0_30 x5.toNatClampNeg))) ≤ x2) → (¬ (0 ≤ x3)) → ((vX11_amount ((hai w a0_27 x5.toNatClampNeg) - (hai w a0_30 x5.toNatClampNeg))) ≤ 0) → ((vX11_amount (hai w a0_30 x5.toNatClampNeg)) ≤ (vX11_amount (hai w a0_27 x5.toNatClampNeg))) → mW G mX11_compare 2 0 0 58 [(0, .ref a0), (1, .int x1), (2, .int x2), (3, .int x3), (4, .int (x4 + 0)), (5, .int (x5 + 1))] [] w Φ) (k10 : (¬ ((hfi w a0 26) < x5)) → (¬ ((hfi w a0 29) < x5)) → ((vX11_amount ((hai w a0_27 x5.toNatClampNeg) - (hai w a0_30 x5.toNatClampNeg))) ≤ x2) → (¬ (0 ≤ x3)) → ((vX11_amount ((hai w a0_27 x5.toNatClampNeg) - (hai w a0_30 x5.toNatClampNeg))) ≤ 0) → (¬ ((vX11_amount (hai w a0_30 x5.toNatClampNeg)) ≤ (vX11_amount (hai w a0_27 x5.toNatClampNeg)))) → mW G mX11_compare 2 0 0 58 [(0, .ref a0), (1, .int x1), (2, .int x2), (3, .int x3), (4, .int (x4 + 1)), (5, .int (x5 + 1))] [] w Φ) (k11 : (¬ ((hfi w a0 26) < x5)) → (¬ ((hfi w a0 29) < x5)) → ((vX11_amount ((hai w a0_27 x5.toNatClampNeg) - (hai w a0_30 x5.toNatClampNeg))) ≤ x2) → (¬ (0 ≤ x3)) → (¬ ((vX11_amount ((hai w a0_27 x5.toNatClampNeg) - (hai w a0_30 x5.toNatClampNeg))) ≤ 0)) → ((vX11_amount (hai w a0_30 x5.toNatClampNeg)) ≤ (vX11_amount (hai w a0_27 x5.toNatClampNeg))) → mW G mX11_compare 2 0 0 58 [(0, .ref a0), (1, .int x1), (2, .int x2), (3, .int x5), (4, .int (x4 + 0)), (5, .int (x5 + 1))] [] w Φ) (k12 : (¬ ((hfi w a0 26) < x5)) → (¬ ((hfi w a0 29) < x5)) → ((vX11_amount ((hai w a0_27 x5.toNatClampNeg) - (hai w a0_30 x5.toNatClampNeg))) ≤ x2) → (¬ (0 ≤ x3)) → (¬ ((vX11_amount ((hai w a0_27 x5.toNatClampNeg) - (hai w a0_30 x5.toNatClampNeg))) ≤ 0)) → (¬ ((vX11_amount (hai w a0_30 x5.toNatClampNeg)) ≤ (vX11_amount (hai w a0_27 x5.toNatClampNeg)))) → mW G mX11_compare 2 0 0 58 [(0, .ref a0), (1, .int x1), (2, .int x2), (3, .int x5), (4, .int (x4 + 1)), (5, .int (x5 + 1))] [] w Φ) (k13 : (¬ ((hfi w a0 26) < x5)) → (¬ ((hfi w a0 29) < x5)) → (¬ ((vX11_amount ((hai w a0_27 x5.toNatClampNeg) - (hai w a0_30 x5.toNatClampNeg))) ≤ x2)) → (0 ≤ x3) → ((vX11_amount (hai w a0_30 x5.toNatClampNeg)) ≤ (vX11_amount (hai w a0_27 x5.toNatClampNeg))) → mW G mX11_compare 2 0 0 58 [(0, .ref a0), (1, .int x1), (2, .int (vX11_amount ((hai w a0_27 x5.toNatClampNeg) - (hai w a0_30 x5.toNatClampNeg)))), (3, .int x3), (4, .int (x4 + 0)), (5, .int (x5 + 1))] [] w Φ) (k14 : (¬ ((hfi w a0 26) < x5)) → (¬ ((hfi w a0 29) < x5)) → (¬ ((vX11_amount ((hai w a0_27 x5.toNatClampNeg) - (hai w a0_30 x5.toNatClampNeg))) ≤ x2)) → (0 ≤ x3) → (¬ ((vX11_amount (hai w a0_30 x5.toNatClampNeg)) ≤ (vX11_amount (hai w a0_27 x5.toNatClampNeg)))) → mW G mX11_compare 2 0 0 58 [(0, .ref a0), (1, .int x1), (2, .int (vX11_amount ((hai w a0_27 x5.toNatClampNeg) - (hai w a0_30 x5.toNatClampNeg)))), (3, .int x3), (4, .int (x4 + 1)), (5, .int (x5 + 1))] [] w Φ) (k15 : (¬ ((hfi w a0 26) < x5)) → (¬ ((hfi w a0 29) < x5)) → (¬ ((vX11_amount ((hai w a0_27 x5.toNatClampNeg) - (hai w a0_30 x5.toNatClampNeg))) ≤ x2)) → (¬ (0 ≤ x3)) → ((vX11_amount ((hai w a0_27 x5.toNatClampNeg) - (hai w a0_30 x5.toNatClampNeg))) ≤ 0) → ((vX11_amount (hai w a0_30 x5.toNatClampNeg)) ≤ (vX11_amount (hai w a0_27 x5.toNatClampNeg))) → mW G mX11_compare 2 0 0 58 [(0, .ref a0), (1, .int x1), (2, .int (vX11_amount ((hai w a0_27 x5.toNatClampNeg) - (hai w a0_30 x5.toNatClampNeg)))), (3, .int x3), (4, .int (x4 + 0)), (5, .int (x5 + 1))] [] w Φ) (k16 : (¬ ((hfi w a0 26) < x5)) → (¬ ((hfi w a0 29) < x5)) → (¬ ((vX11_amount ((hai w a0_27 x5.toNatClampNeg) - (hai w a0_30 x5.toNatClampNeg))) ≤ x2)) → (¬ (0 ≤ x3)) → ((vX11_amount ((hai w a0_27 x5.toNatClampNeg) - (hai w a0_30 x5.toNatClampNeg))) ≤ 0) → (¬ ((vX11_amount (hai w a0_30 x5.toNatClampNeg)) ≤ (vX11_amount (hai w a0_27 x5.toNatClampNeg)))) → mW G mX11_compare 2 0 0 58 [(0, .ref a0), (1, .int x1), (2, .int (vX11_amount ((hai w a0_27 x5.toNatClampNeg) - (hai w a0_30 x5.toNatClampNeg)))), (3, .int x3), (4, .int (x4 + 1)), (5, .int (x5 + 1))] [] w Φ) (k17 : (¬ ((hfi w a0 26) < x5)) → (¬ ((hfi w a0 29) < x5)) → (¬ ((vX11_amount ((hai w a0_27 x5.toNatClampNeg) - (hai w a0_30 x5.toNatClampNeg))) ≤ x2)) → (¬ (0 ≤ x3)) → (¬ ((vX11_amount ((hai w a0_27 x5.toNatClampNeg) - (hai w a0_30 x5.toNatClampNeg))) ≤ 0)) → ((vX11_amount (hai w a0_30 x5.toNatClampNeg)) ≤ (vX11_amount (hai w a0_27 x5.toNatClampNeg))) → mW G mX11_compare 2 0 0 58 [(0, .ref a0), (1, .int x1), (2, .int (vX11_amount ((hai w a0_27 x5.toNatClampNeg) - (hai w a0_30 x5.toNatClampNeg)))), (3, .int x5), (4, .int (x4 + 0)), (5, .int (x5 + 1))] [] w Φ) (k18 : (¬ ((hfi w a0 26) < x5)) → (¬ ((hfi w a0 29) < x5)) → (¬ ((vX11_amount ((hai w a0_27 x5.toNatClampNeg) - (hai w a0_30 x5.toNatClampNeg))) ≤ x2)) → (¬ (0 ≤ x3)) → (¬ ((vX11_amount ((hai w a0_27 x5.toNatClampNeg) - (hai w a0_30 x5.toNatClampNeg))) ≤ 0)) → (¬ ((vX11_amount (hai w a0_30 x5.toNatClampNeg)) ≤ (vX11_amount (hai w a0_27 x5.toNatClampNeg)))) → mW G mX11_compare 2 0 0 58 [(0, .ref a0), (1, .int x1), (2, .int (vX11_amount ((hai w a0_27 x5.toNatClampNeg) - (hai w a0_30 x5.toNatClampNeg)))), (3, .int x5), (4, .int (x4 + 1)), (5, .int (x5 + 1))] [] w Φ) : mW G mX11_compare 2 0 0 58 [(0, .ref a0), (1, .int x1), (2, .int x2), (3, .int x3), (4, .int x4), (5, .int x5)] [] w Φ := by
  refine mW_iload (j := 5) dX11_compare_58 rfl ?_
  refine mW_aload_n (j := 0) dX11_compare_60 rfl rfl ?_
  refine mW_get dX11_compare_61 f_X11_239 h1 rfl ?_
  refine mW_icmp_gt (tgt := 164) dX11_compare_64 (by decide) (fun c1 => ?_) (fun c1 => ?_)
  · refine mW_iload_n (j := 1) dX11_compare_164 rfl rfl ?_
    refine mW_if_ne (tgt := 172) dX11_compare_165 (by decide) (fun c2 => ?_) (fun c2 => ?_)
    · refine mW_iload_n (j := 1) dX11_compare_172 rfl rfl ?_
      refine mW_iconst (v := 1) dX11_compare_173 (by decide) ?_
      refine mW_icmp_ne (tgt := 181) dX11_compare_174 (by decide) (fun c3 => ?_) (fun c3 => ?_)
      · refine mW_iload (j := 4) dX11_compare_181 rfl ?_
        exact mW_iret dX11_compare_183 rfl (k1 c1 c2 c3)
      · refine mW_iload_n (j := 3) dX11_compare_177 rfl rfl ?_
        refine mW_goto (tgt := 183) dX11_compare_178 (by decide) ?_
        exact mW_iret dX11_compare_183 rfl (k2 c1 c2 c3)
    · refine mW_iload_n (j := 2) dX11_compare_168 rfl rfl ?_
      refine mW_goto (tgt := 183) dX11_compare_169 (by decide) ?_
      exact mW_iret dX11_compare_183 rfl (k3 c1 c2)
  · refine mW_iload (j := 5) dX11_compare_67 rfl ?_
    refine mW_aload_n (j := 0) dX11_compare_69 rfl rfl ?_
    refine mW_get dX11_compare_70 f_X11_274 h1 rfl ?_
    refine mW_icmp_gt (tgt := 164) dX11_compare_73 (by decide) (fun c4 => ?_) (fun c4 => ?_)
    · refine mW_iload_n (j := 1) dX11_compare_164 rfl rfl ?_
      refine mW_if_ne (tgt := 172) dX11_compare_165 (by decide) (fun c5 => ?_) (fun c5 => ?_)
      · refine mW_iload_n (j := 1) dX11_compare_172 rfl rfl ?_
        refine mW_iconst (v := 1) dX11_compare_173 (by decide) ?_
        refine mW_icmp_ne (tgt := 181) dX11_compare_174 (by decide) (fun c6 => ?_) (fun c6 => ?_)
        · refine mW_iload (j := 4) dX11_compare_181 rfl ?_
          exact mW_iret dX11_compare_183 rfl (k4 c1 c4 c5 c6)
        · refine mW_iload_n (j := 3) dX11_compare_177 rfl rfl ?_
          refine mW_goto (tgt := 183) dX11_compare_178 (by decide) ?_
          exact mW_iret dX11_compare_183 rfl (k5 c1 c4 c5 c6)
      · refine mW_iload_n (j := 2) dX11_compare_168 rfl rfl ?_
        refine mW_goto (tgt := 183) dX11_compare_169 (by decide) ?_
        exact mW_iret dX11_compare_183 rfl (k6 c1 c4 c5)
    · refine mW_aload_n (j := 0) dX11_compare_76 rfl rfl ?_
      refine mW_getR dX11_compare_77 f_X11_60 h1 rfl h2 ?_
      refine mW_iload (j := 5) dX11_compare_80 rfl ?_
      refine mW_ialdJ dX11_compare_82 h3 (s1 c1 c4) rfl ?_
      refine mW_aload_n (j := 0) dX11_compare_83 rfl rfl ?_
      refine mW_getR dX11_compare_84 f_X11_63 h1 rfl h4 ?_
      refine mW_iload (j := 5) dX11_compare_87 rfl ?_
      refine mW_ialdJ dX11_compare_89 h5 (s2 c1 c4) rfl ?_
      refine mW_isub dX11_compare_90 ?_
      refine mW_callSe (As := [.int ((hai w a0_27 x5.toNatClampNeg) - (hai w a0_30 x5.toNatClampNeg))]) (rest := []) (kc2 := 0) (ks2 := 0) dX11_compare_91 l_X11_179 rfl (qX11_amount (w := w) (x0 := (hai w a0_27 x5.toNatClampNeg) - (hai w a0_30 x5.toNatClampNeg))) (Nat.le_of_ble_eq_true rfl) (by decide) rfl rfl ?_
      refine mW_istore (lv2 := [(6, .int (vX11_amount ((hai w a0_27 x5.toNatClampNeg) - (hai w a0_30 x5.toNatClampNeg)))), (0, .ref a0), (1, .int x1), (2, .int x2), (3, .int x3), (4, .int x4), (5, .int x5)]) dX11_compare_94 (by decide) rfl ?_
      refine mW_iload (j := 0) dX11_compare_96 rfl ?_
      refine mW_iload_n (j := 3) dX11_compare_98 rfl rfl ?_
      refine mW_icmp_le (tgt := 107) dX11_compare_99 (by decide) (fun c7 => ?_) (fun c7 => ?_)
      · refine mW_iload_n (j := 3) dX11_compare_107 rfl rfl ?_
        refine mW_istore_n (lv2 := [(2, .int x2), (6, .int (vX11_amount ((hai w a0_27 x5.toNatClampNeg) - (hai w a0_30 x5.toNatClampNeg)))), (0, .ref a0), (1, .int x1), (3, .int x3), (4, .int x4), (5, .int x5)]) dX11_compare_108 rfl (by decide) rfl ?_
        refine mW_iload_n (j := 4) dX11_compare_109 rfl rfl ?_
        refine mW_if_ge (tgt := 123) dX11_compare_110 (by decide) (fun c8 => ?_) (fun c8 => ?_)
        · refine mW_iload_n (j := 4) dX11_compare_123 rfl rfl ?_
          refine mW_istore_n (lv2 := [(3, .int x3), (2, .int x2), (6, .int (vX11_amount ((hai w a0_27 x5.toNatClampNeg) - (hai w a0_30 x5.toNatClampNeg)))), (0, .ref a0), (1, .int x1), (4, .int x4), (5, .int x5)]) dX11_compare_124 rfl (by decide) rfl ?_
          refine mW_iload (j := 5) dX11_compare_125 rfl ?_
          refine mW_aload_n (j := 3) dX11_compare_127 rfl rfl ?_
          refine mW_getR dX11_compare_128 f_X11_60 h1 rfl h2 ?_
          refine mW_iload (j := 6) dX11_compare_131 rfl ?_
          refine mW_ialdJ dX11_compare_133 h3 (s1 c1 c4) rfl ?_
          refine mW_callSe (As := [.int (hai w a0_27 x5.toNatClampNeg)]) (rest := [.int x4]) (kc2 := 0) (ks2 := 0) dX11_compare_134 l_X11_179 rfl (qX11_amount (w := w) (x0 := hai w a0_27 x5.toNatClampNeg)) (Nat.le_of_ble_eq_true rfl) (by decide) rfl rfl ?_
          refine mW_aload_n (j := 3) dX11_compare_137 rfl rfl ?_
          refine mW_getR dX11_compare_138 f_X11_63 h1 rfl h4 ?_
          refine mW_iload (j := 6) dX11_compare_141 rfl ?_
          refine mW_ialdJ dX11_compare_143 h5 (s2 c1 c4) rfl ?_
          refine mW_callSe (As := [.int (hai w a0_30 x5.toNatClampNeg)]) (rest := [.int (vX11_amount (hai w a0_27 x5.toNatClampNeg)), .int x4]) (kc2 := 0) (ks2 := 0) dX11_compare_144 l_X11_179 rfl (qX11_amount (w := w) (x0 := hai w a0_30 x5.toNatClampNeg)) (Nat.le_of_ble_eq_true rfl) (by decide) rfl rfl ?_
          refine mW_icmp_ge (tgt := 154) dX11_compare_147 (by decide) (fun c9 => ?_) (fun c9 => ?_)
          · refine mW_iconst (v := 0) dX11_compare_154 (by decide) ?_
            refine mW_iadd dX11_compare_155 ?_
            refine mW_istore (lv2 := [(4, .int (x4 + 0)), (3, .int x3), (2, .int x2), (6, .int (vX11_amount ((hai w a0_27 x5.toNatClampNeg) - (hai w a0_30 x5.toNatClampNeg)))), (0, .ref a0), (1, .int x1), (5, .int x5)]) dX11_compare_156 (by decide) rfl ?_
            refine mW_iinc (j := 6) (v := x5 + 1) (lv2 := [(5, .int (x5 + 1)), (4, .int (x4 + 0)), (3, .int x3), (2, .int x2), (6, .int (vX11_amount ((hai w a0_27 x5.toNatClampNeg) - (hai w a0_30 x5.toNatClampNeg)))), (0, .ref a0), (1, .int x1)]) dX11_compare_158 rfl rfl (by decide) rfl ?_
            refine mW_goto (tgt := 58) dX11_compare_161 (by decide) ?_
            refine mW_loc [5, 6, 3, 2, 1, 0] (lv2 := [(0, .ref a0), (1, .int x1), (2, .int x2), (3, .int x3), (4, .int (x4 + 0)), (5, .int (x5 + 1))]) rfl ?_
            exact k7 c1 c4 c7 c8 c9
          · refine mW_iconst (v := 1) dX11_compare_150 (by decide) ?_
            refine mW_goto (tgt := 155) dX11_compare_151 (by decide) ?_
            refine mW_iadd dX11_compare_155 ?_
            refine mW_istore (lv2 := [(4, .int (x4 + 1)), (3, .int x3), (2, .int x2), (6, .int (vX11_amount ((hai w a0_27 x5.toNatClampNeg) - (hai w a0_30 x5.toNatClampNeg)))), (0, .ref a0), (1, .int x1), (5, .int x5)]) dX11_compare_156 (by decide) rfl ?_
            refine mW_iinc (j := 6) (v := x5 + 1) (lv2 := [(5, .int (x5 + 1)), (4, .int (x4 + 1)), (3, .int x3), (2, .int x2), (6, .int (vX11_amount ((hai w a0_27 x5.toNatClampNeg) - (hai w a0_30 x5.toNatClampNeg)))), (0, .ref a0), (1, .int x1)]) dX11_compare_158 rfl rfl (by decide) rfl ?_
            refine mW_goto (tgt := 58) dX11_compare_161 (by decide) ?_
            refine mW_loc [5, 6, 3, 2, 1, 0] (lv2 := [(0, .ref a0), (1, .int x1), (2, .int x2), (3, .int x3), (4, .int (x4 + 1)), (5, .int (x5 + 1))]) rfl ?_
            exact k8 c1 c4 c7 c8 c9
        · refine mW_iload (j := 1) dX11_compare_113 rfl ?_
          refine mW_if_le (tgt := 123) dX11_compare_115 (by decide) (fun c10 => ?_) (fun c10 => ?_)
          · refine mW_iload_n (j := 4) dX11_compare_123 rfl rfl ?_
            refine mW_istore_n (lv2 := [(3, .int x3), (2, .int x2), (6, .int (vX11_amount ((hai w a0_27 x5.toNatClampNeg) - (hai w a0_30 x5.toNatClampNeg)))), (0, .ref a0), (1, .int x1), (4, .int x4), (5, .int x5)]) dX11_compare_124 rfl (by decide) rfl ?_
            refine mW_iload (j := 5) dX11_compare_125 rfl ?_
            refine mW_aload_n (j := 3) dX11_compare_127 rfl rfl ?_
            refine mW_getR dX11_compare_128 f_X11_60 h1 rfl h2 ?_
            refine mW_iload (j := 6) dX11_compare_131 rfl ?_
            refine mW_ialdJ dX11_compare_133 h3 (s1 c1 c4) rfl ?_
            refine mW_callSe (As := [.int (hai w a0_27 x5.toNatClampNeg)]) (rest := [.int x4]) (kc2 := 0) (ks2 := 0) dX11_compare_134 l_X11_179 rfl (qX11_amount (w := w) (x0 := hai w a0_27 x5.toNatClampNeg)) (Nat.le_of_ble_eq_true rfl) (by decide) rfl rfl ?_
            refine mW_aload_n (j := 3) dX11_compare_137 rfl rfl ?_
            refine mW_getR dX11_compare_138 f_X11_63 h1 rfl h4 ?_
            refine mW_iload (j := 6) dX11_compare_141 rfl ?_
            refine mW_ialdJ dX11_compare_143 h5 (s2 c1 c4) rfl ?_
            refine mW_callSe (As := [.int (hai w a0_30 x5.toNatClampNeg)]) (rest := [.int (vX11_amount (hai w a0_27 x5.toNatClampNeg)), .int x4]) (kc2 := 0) (ks2 := 0) dX11_compare_144 l_X11_179 rfl (qX11_amount (w := w) (x0 := hai w a0_30 x5.toNatClampNeg)) (Nat.le_of_ble_eq_true rfl) (by decide) rfl rfl ?_
            refine mW_icmp_ge (tgt := 154) dX11_compare_147 (by decide) (fun c11 => ?_) (fun c11 => ?_)
            · refine mW_iconst (v := 0) dX11_compare_154 (by decide) ?_
              refine mW_iadd dX11_compare_155 ?_
              refine mW_istore (lv2 := [(4, .int (x4 + 0)), (3, .int x3), (2, .int x2), (6, .int (vX11_amount ((hai w a0_27 x5.toNatClampNeg) - (hai w a0_30 x5.toNatClampNeg)))), (0, .ref a0), (1, .int x1), (5, .int x5)]) dX11_compare_156 (by decide) rfl ?_
              refine mW_iinc (j := 6) (v := x5 + 1) (lv2 := [(5, .int (x5 + 1)), (4, .int (x4 + 0)), (3, .int x3), (2, .int x2), (6, .int (vX11_amount ((hai w a0_27 x5.toNatClampNeg) - (hai w a0_30 x5.toNatClampNeg)))), (0, .ref a0), (1, .int x1)]) dX11_compare_158 rfl rfl (by decide) rfl ?_
              refine mW_goto (tgt := 58) dX11_compare_161 (by decide) ?_
              refine mW_loc [5, 6, 3, 2, 1, 0] (lv2 := [(0, .ref a0), (1, .int x1), (2, .int x2), (3, .int x3), (4, .int (x4 + 0)), (5, .int (x5 + 1))]) rfl ?_
              exact k9 c1 c4 c7 c8 c10 c11
            · refine mW_iconst (v := 1) dX11_compare_150 (by decide) ?_
              refine mW_goto (tgt := 155) dX11_compare_151 (by decide) ?_
              refine mW_iadd dX11_compare_155 ?_
              refine mW_istore (lv2 := [(4, .int (x4 + 1)), (3, .int x3), (2, .int x2), (6, .int (vX11_amount ((hai w a0_27 x5.toNatClampNeg) - (hai w a0_30 x5.toNatClampNeg)))), (0, .ref a0), (1, .int x1), (5, .int x5)]) dX11_compare_156 (by decide) rfl ?_
              refine mW_iinc (j := 6) (v := x5 + 1) (lv2 := [(5, .int (x5 + 1)), (4, .int (x4 + 1)), (3, .int x3), (2, .int x2), (6, .int (vX11_amount ((hai w a0_27 x5.toNatClampNeg) - (hai w a0_30 x5.toNatClampNeg)))), (0, .ref a0), (1, .int x1)]) dX11_compare_158 rfl rfl (by decide) rfl ?_
              refine mW_goto (tgt := 58) dX11_compare_161 (by decide) ?_
              refine mW_loc [5, 6, 3, 2, 1, 0] (lv2 := [(0, .ref a0), (1, .int x1), (2, .int x2), (3, .int x3), (4, .int (x4 + 1)), (5, .int (x5 + 1))]) rfl ?_
              exact k10 c1 c4 c7 c8 c10 c11
          · refine mW_iload (j := 6) dX11_compare_118 rfl ?_
            refine mW_goto (tgt := 124) dX11_compare_120 (by decide) ?_
            refine mW_istore_n (lv2 := [(3, .int x5), (2, .int x2), (6, .int (vX11_amount ((hai w a0_27 x5.toNatClampNeg) - (hai w a0_30 x5.toNatClampNeg)))), (0, .ref a0), (1, .int x1), (4, .int x4), (5, .int x5)]) dX11_compare_124 rfl (by decide) rfl ?_
            refine mW_iload (j := 5) dX11_compare_125 rfl ?_
            refine mW_aload_n (j := 3) dX11_compare_127 rfl rfl ?_
            refine mW_getR dX11_compare_128 f_X11_60 h1 rfl h2 ?_
            refine mW_iload (j := 6) dX11_compare_131 rfl ?_
            refine mW_ialdJ dX11_compare_133 h3 (s1 c1 c4) rfl ?_
            refine mW_callSe (As := [.int (hai w a0_27 x5.toNatClampNeg)]) (rest := [.int x4]) (kc2 := 0) (ks2 := 0) dX11_compare_134 l_X11_179 rfl (qX11_amount (w := w) (x0 := hai w a0_27 x5.toNatClampNeg)) (Nat.le_of_ble_eq_true rfl) (by decide) rfl rfl ?_
            refine mW_aload_n (j := 3) dX11_compare_137 rfl rfl ?_
            refine mW_getR dX11_compare_138 f_X11_63 h1 rfl h4 ?_
            refine mW_iload (j := 6) dX11_compare_141 rfl ?_
            refine mW_ialdJ dX11_compare_143 h5 (s2 c1 c4) rfl ?_
            refine mW_callSe (As := [.int (hai w a0_30 x5.toNatClampNeg)]) (rest := [.int (vX11_amount (hai w a0_27 x5.toNatClampNeg)), .int x4]) (kc2 := 0) (ks2 := 0) dX11_compare_144 l_X11_179 rfl (qX11_amount (w := w) (x0 := hai w a0_30 x5.toNatClampNeg)) (Nat.le_of_ble_eq_true rfl) (by decide) rfl rfl ?_
            refine mW_icmp_ge (tgt := 154) dX11_compare_147 (by decide) (fun c12 => ?_) (fun c12 => ?_)
            · refine mW_iconst (v := 0) dX11_compare_154 (by decide) ?_
              refine mW_iadd dX11_compare_155 ?_
              refine mW_istore (lv2 := [(4, .int (x4 + 0)), (3, .int x5), (2, .int x2), (6, .int (vX11_amount ((hai w a0_27 x5.toNatClampNeg) - (hai w a0_30 x5.toNatClampNeg)))), (0, .ref a0), (1, .int x1), (5, .int x5)]) dX11_compare_156 (by decide) rfl ?_
              refine mW_iinc (j := 6) (v := x5 + 1) (lv2 := [(5, .int (x5 + 1)), (4, .int (x4 + 0)), (3, .int x5), (2, .int x2), (6, .int (vX11_amount ((hai w a0_27 x5.toNatClampNeg) - (hai w a0_30 x5.toNatClampNeg)))), (0, .ref a0), (1, .int x1)]) dX11_compare_158 rfl rfl (by decide) rfl ?_
              refine mW_goto (tgt := 58) dX11_compare_161 (by decide) ?_
              refine mW_loc [5, 6, 3, 2, 1, 0] (lv2 := [(0, .ref a0), (1, .int x1), (2, .int x2), (3, .int x5), (4, .int (x4 + 0)), (5, .int (x5 + 1))]) rfl ?_
              exact k11 c1 c4 c7 c8 c10 c12
            · refine mW_iconst (v := 1) dX11_compare_150 (by decide) ?_
              refine mW_goto (tgt := 155) dX11_compare_151 (by decide) ?_
              refine mW_iadd dX11_compare_155 ?_
              refine mW_istore (lv2 := [(4, .int (x4 + 1)), (3, .int x5), (2, .int x2), (6, .int (vX11_amount ((hai w a0_27 x5.toNatClampNeg) - (hai w a0_30 x5.toNatClampNeg)))), (0, .ref a0), (1, .int x1), (5, .int x5)]) dX11_compare_156 (by decide) rfl ?_
              refine mW_iinc (j := 6) (v := x5 + 1) (lv2 := [(5, .int (x5 + 1)), (4, .int (x4 + 1)), (3, .int x5), (2, .int x2), (6, .int (vX11_amount ((hai w a0_27 x5.toNatClampNeg) - (hai w a0_30 x5.toNatClampNeg)))), (0, .ref a0), (1, .int x1)]) dX11_compare_158 rfl rfl (by decide) rfl ?_
              refine mW_goto (tgt := 58) dX11_compare_161 (by decide) ?_
              refine mW_loc [5, 6, 3, 2, 1, 0] (lv2 := [(0, .ref a0), (1, .int x1), (2, .int x2), (3, .int x5), (4, .int (x4 + 1)), (5, .int (x5 + 1))]) rfl ?_
              exact k12 c1 c4 c7 c8 c10 c12
      · refine mW_iload (j := 0) dX11_compare_102 rfl ?_
        refine mW_goto (tgt := 108) dX11_compare_104 (by decide) ?_
        refine mW_istore_n (lv2 := [(2, .int (vX11_amount ((hai w a0_27 x5.toNatClampNeg) - (hai w a0_30 x5.toNatClampNeg)))), (6, .int (vX11_amount ((hai w a0_27 x5.toNatClampNeg) - (hai w a0_30 x5.toNatClampNeg)))), (0, .ref a0), (1, .int x1), (3, .int x3), (4, .int x4), (5, .int x5)]) dX11_compare_108 rfl (by decide) rfl ?_
        refine mW_iload_n (j := 4) dX11_compare_109 rfl rfl ?_
        refine mW_if_ge (tgt := 123) dX11_compare_110 (by decide) (fun c13 => ?_) (fun c13 => ?_)
        · refine mW_iload_n (j := 4) dX11_compare_123 rfl rfl ?_
          refine mW_istore_n (lv2 := [(3, .int x3), (2, .int (vX11_amount ((hai w a0_27 x5.toNatClampNeg) - (hai w a0_30 x5.toNatClampNeg)))), (6, .int (vX11_amount ((hai w a0_27 x5.toNatClampNeg) - (hai w a0_30 x5.toNatClampNeg)))), (0, .ref a0), (1, .int x1), (4, .int x4), (5, .int x5)]) dX11_compare_124 rfl (by decide) rfl ?_
          refine mW_iload (j := 5) dX11_compare_125 rfl ?_
          refine mW_aload_n (j := 3) dX11_compare_127 rfl rfl ?_
          refine mW_getR dX11_compare_128 f_X11_60 h1 rfl h2 ?_
          refine mW_iload (j := 6) dX11_compare_131 rfl ?_
          refine mW_ialdJ dX11_compare_133 h3 (s1 c1 c4) rfl ?_
          refine mW_callSe (As := [.int (hai w a0_27 x5.toNatClampNeg)]) (rest := [.int x4]) (kc2 := 0) (ks2 := 0) dX11_compare_134 l_X11_179 rfl (qX11_amount (w := w) (x0 := hai w a0_27 x5.toNatClampNeg)) (Nat.le_of_ble_eq_true rfl) (by decide) rfl rfl ?_
          refine mW_aload_n (j := 3) dX11_compare_137 rfl rfl ?_
          refine mW_getR dX11_compare_138 f_X11_63 h1 rfl h4 ?_
          refine mW_iload (j := 6) dX11_compare_141 rfl ?_
          refine mW_ialdJ dX11_compare_143 h5 (s2 c1 c4) rfl ?_
          refine mW_callSe (As := [.int (hai w a0_30 x5.toNatClampNeg)]) (rest := [.int (vX11_amount (hai w a0_27 x5.toNatClampNeg)), .int x4]) (kc2 := 0) (ks2 := 0) dX11_compare_144 l_X11_179 rfl (qX11_amount (w := w) (x0 := hai w a0_30 x5.toNatClampNeg)) (Nat.le_of_ble_eq_true rfl) (by decide) rfl rfl ?_
          refine mW_icmp_ge (tgt := 154) dX11_compare_147 (by decide) (fun c14 => ?_) (fun c14 => ?_)
          · refine mW_iconst (v := 0) dX11_compare_154 (by decide) ?_
            refine mW_iadd dX11_compare_155 ?_
            refine mW_istore (lv2 := [(4, .int (x4 + 0)), (3, .int x3), (2, .int (vX11_amount ((hai w a0_27 x5.toNatClampNeg) - (hai w a0_30 x5.toNatClampNeg)))), (6, .int (vX11_amount ((hai w a0_27 x5.toNatClampNeg) - (hai w a0_30 x5.toNatClampNeg)))), (0, .ref a0), (1, .int x1), (5, .int x5)]) dX11_compare_156 (by decide) rfl ?_
            refine mW_iinc (j := 6) (v := x5 + 1) (lv2 := [(5, .int (x5 + 1)), (4, .int (x4 + 0)), (3, .int x3), (2, .int (vX11_amount ((hai w a0_27 x5.toNatClampNeg) - (hai w a0_30 x5.toNatClampNeg)))), (6, .int (vX11_amount ((hai w a0_27 x5.toNatClampNeg) - (hai w a0_30 x5.toNatClampNeg)))), (0, .ref a0), (1, .int x1)]) dX11_compare_158 rfl rfl (by decide) rfl ?_
            refine mW_goto (tgt := 58) dX11_compare_161 (by decide) ?_
            refine mW_loc [5, 6, 3, 2, 1, 0] (lv2 := [(0, .ref a0), (1, .int x1), (2, .int (vX11_amount ((hai w a0_27 x5.toNatClampNeg) - (hai w a0_30 x5.toNatClampNeg)))), (3, .int x3), (4, .int (x4 + 0)), (5, .int (x5 + 1))]) rfl ?_
            exact k13 c1 c4 c7 c13 c14
          · refine mW_iconst (v := 1) dX11_compare_150 (by decide) ?_
            refine mW_goto (tgt := 155) dX11_compare_151 (by decide) ?_
            refine mW_iadd dX11_compare_155 ?_
            refine mW_istore (lv2 := [(4, .int (x4 + 1)), (3, .int x3), (2, .int (vX11_amount ((hai w a0_27 x5.toNatClampNeg) - (hai w a0_30 x5.toNatClampNeg)))), (6, .int (vX11_amount ((hai w a0_27 x5.toNatClampNeg) - (hai w a0_30 x5.toNatClampNeg)))), (0, .ref a0), (1, .int x1), (5, .int x5)]) dX11_compare_156 (by decide) rfl ?_
            refine mW_iinc (j := 6) (v := x5 + 1) (lv2 := [(5, .int (x5 + 1)), (4, .int (x4 + 1)), (3, .int x3), (2, .int (vX11_amount ((hai w a0_27 x5.toNatClampNeg) - (hai w a0_30 x5.toNatClampNeg)))), (6, .int (vX11_amount ((hai w a0_27 x5.toNatClampNeg) - (hai w a0_30 x5.toNatClampNeg)))), (0, .ref a0), (1, .int x1)]) dX11_compare_158 rfl rfl (by decide) rfl ?_
            refine mW_goto (tgt := 58) dX11_compare_161 (by decide) ?_
            refine mW_loc [5, 6, 3, 2, 1, 0] (lv2 := [(0, .ref a0), (1, .int x1), (2, .int (vX11_amount ((hai w a0_27 x5.toNatClampNeg) - (hai w a0_30 x5.toNatClampNeg)))), (3, .int x3), (4, .int (x4 + 1)), (5, .int (x5 + 1))]) rfl ?_
            exact k14 c1 c4 c7 c13 c14
        · refine mW_iload (j := 1) dX11_compare_113 rfl ?_
          refine mW_if_le (tgt := 123) dX11_compare_115 (by decide) (fun c15 => ?_) (fun c15 => ?_)
          · refine mW_iload_n (j := 4) dX11_compare_123 rfl rfl ?_
            refine mW_istore_n (lv2 := [(3, .int x3), (2, .int (vX11_amount ((hai w a0_27 x5.toNatClampNeg) - (hai w a0_30 x5.toNatClampNeg)))), (6, .int (vX11_amount ((hai w a0_27 x5.toNatClampNeg) - (hai w a0_30 x5.toNatClampNeg)))), (0, .ref a0), (1, .int x1), (4, .int x4), (5, .int x5)]) dX11_compare_124 rfl (by decide) rfl ?_
            refine mW_iload (j := 5) dX11_compare_125 rfl ?_
            refine mW_aload_n (j := 3) dX11_compare_127 rfl rfl ?_
            refine mW_getR dX11_compare_128 f_X11_60 h1 rfl h2 ?_
            refine mW_iload (j := 6) dX11_compare_131 rfl ?_
            refine mW_ialdJ dX11_compare_133 h3 (s1 c1 c4) rfl ?_
            refine mW_callSe (As := [.int (hai w a0_27 x5.toNatClampNeg)]) (rest := [.int x4]) (kc2 := 0) (ks2 := 0) dX11_compare_134 l_X11_179 rfl (qX11_amount (w := w) (x0 := hai w a0_27 x5.toNatClampNeg)) (Nat.le_of_ble_eq_true rfl) (by decide) rfl rfl ?_
            refine mW_aload_n (j := 3) dX11_compare_137 rfl rfl ?_
            refine mW_getR dX11_compare_138 f_X11_63 h1 rfl h4 ?_
            refine mW_iload (j := 6) dX11_compare_141 rfl ?_
            refine mW_ialdJ dX11_compare_143 h5 (s2 c1 c4) rfl ?_
            refine mW_callSe (As := [.int (hai w a0_30 x5.toNatClampNeg)]) (rest := [.int (vX11_amount (hai w a0_27 x5.toNatClampNeg)), .int x4]) (kc2 := 0) (ks2 := 0) dX11_compare_144 l_X11_179 rfl (qX11_amount (w := w) (x0 := hai w a0_30 x5.toNatClampNeg)) (Nat.le_of_ble_eq_true rfl) (by decide) rfl rfl ?_
            refine mW_icmp_ge (tgt := 154) dX11_compare_147 (by decide) (fun c16 => ?_) (fun c16 => ?_)
            · refine mW_iconst (v := 0) dX11_compare_154 (by decide) ?_
              refine mW_iadd dX11_compare_155 ?_
              refine mW_istore (lv2 := [(4, .int (x4 + 0)), (3, .int x3), (2, .int (vX11_amount ((hai w a0_27 x5.toNatClampNeg) - (hai w a0_30 x5.toNatClampNeg)))), (6, .int (vX11_amount ((hai w a0_27 x5.toNatClampNeg) - (hai w a0_30 x5.toNatClampNeg)))), (0, .ref a0), (1, .int x1), (5, .int x5)]) dX11_compare_156 (by decide) rfl ?_
              refine mW_iinc (j := 6) (v := x5 + 1) (lv2 := [(5, .int (x5 + 1)), (4, .int (x4 + 0)), (3, .int x3), (2, .int (vX11_amount ((hai w a0_27 x5.toNatClampNeg) - (hai w a0_30 x5.toNatClampNeg)))), (6, .int (vX11_amount ((hai w a0_27 x5.toNatClampNeg) - (hai w a0_30 x5.toNatClampNeg)))), (0, .ref a0), (1, .int x1)]) dX11_compare_158 rfl rfl (by decide) rfl ?_
              refine mW_goto (tgt := 58) dX11_compare_161 (by decide) ?_
              refine mW_loc [5, 6, 3, 2, 1, 0] (lv2 := [(0, .ref a0), (1, .int x1), (2, .int (vX11_amount ((hai w a0_27 x5.toNatClampNeg) - (hai w a0_30 x5.toNatClampNeg)))), (3, .int x3), (4, .int (x4 + 0)), (5, .int (x5 + 1))]) rfl ?_
              exact k15 c1 c4 c7 c13 c15 c16
            · refine mW_iconst (v := 1) dX11_compare_150 (by decide) ?_
              refine mW_goto (tgt := 155) dX11_compare_151 (by decide) ?_
              refine mW_iadd dX11_compare_155 ?_
              refine mW_istore (lv2 := [(4, .int (x4 + 1)), (3, .int x3), (2, .int (vX11_amount ((hai w a0_27 x5.toNatClampNeg) - (hai w a0_30 x5.toNatClampNeg)))), (6, .int (vX11_amount ((hai w a0_27 x5.toNatClampNeg) - (hai w a0_30 x5.toNatClampNeg)))), (0, .ref a0), (1, .int x1), (5, .int x5)]) dX11_compare_156 (by decide) rfl ?_
              refine mW_iinc (j := 6) (v := x5 + 1) (lv2 := [(5, .int (x5 + 1)), (4, .int (x4 + 1)), (3, .int x3), (2, .int (vX11_amount ((hai w a0_27 x5.toNatClampNeg) - (hai w a0_30 x5.toNatClampNeg)))), (6, .int (vX11_amount ((hai w a0_27 x5.toNatClampNeg) - (hai w a0_30 x5.toNatClampNeg)))), (0, .ref a0), (1, .int x1)]) dX11_compare_158 rfl rfl (by decide) rfl ?_
              refine mW_goto (tgt := 58) dX11_compare_161 (by decide) ?_
              refine mW_loc [5, 6, 3, 2, 1, 0] (lv2 := [(0, .ref a0), (1, .int x1), (2, .int (vX11_amount ((hai w a0_27 x5.toNatClampNeg) - (hai w a0_30 x5.toNatClampNeg)))), (3, .int x3), (4, .int (x4 + 1)), (5, .int (x5 + 1))]) rfl ?_
              exact k16 c1 c4 c7 c13 c15 c16
          · refine mW_iload (j := 6) dX11_compare_118 rfl ?_
            refine mW_goto (tgt := 124) dX11_compare_120 (by decide) ?_
            refine mW_istore_n (lv2 := [(3, .int x5), (2, .int (vX11_amount ((hai w a0_27 x5.toNatClampNeg) - (hai w a0_30 x5.toNatClampNeg)))), (6, .int (vX11_amount ((hai w a0_27 x5.toNatClampNeg) - (hai w a0_30 x5.toNatClampNeg)))), (0, .ref a0), (1, .int x1), (4, .int x4), (5, .int x5)]) dX11_compare_124 rfl (by decide) rfl ?_
            refine mW_iload (j := 5) dX11_compare_125 rfl ?_
            refine mW_aload_n (j := 3) dX11_compare_127 rfl rfl ?_
            refine mW_getR dX11_compare_128 f_X11_60 h1 rfl h2 ?_
            refine mW_iload (j := 6) dX11_compare_131 rfl ?_
            refine mW_ialdJ dX11_compare_133 h3 (s1 c1 c4) rfl ?_
            refine mW_callSe (As := [.int (hai w a0_27 x5.toNatClampNeg)]) (rest := [.int x4]) (kc2 := 0) (ks2 := 0) dX11_compare_134 l_X11_179 rfl (qX11_amount (w := w) (x0 := hai w a0_27 x5.toNatClampNeg)) (Nat.le_of_ble_eq_true rfl) (by decide) rfl rfl ?_
            refine mW_aload_n (j := 3) dX11_compare_137 rfl rfl ?_
            refine mW_getR dX11_compare_138 f_X11_63 h1 rfl h4 ?_
            refine mW_iload (j := 6) dX11_compare_141 rfl ?_
            refine mW_ialdJ dX11_compare_143 h5 (s2 c1 c4) rfl ?_
            refine mW_callSe (As := [.int (hai w a0_30 x5.toNatClampNeg)]) (rest := [.int (vX11_amount (hai w a0_27 x5.toNatClampNeg)), .int x4]) (kc2 := 0) (ks2 := 0) dX11_compare_144 l_X11_179 rfl (qX11_amount (w := w) (x0 := hai w a0_30 x5.toNatClampNeg)) (Nat.le_of_ble_eq_true rfl) (by decide) rfl rfl ?_
            refine mW_icmp_ge (tgt := 154) dX11_compare_147 (by decide) (fun c17 => ?_) (fun c17 => ?_)
            · refine mW_iconst (v := 0) dX11_compare_154 (by decide) ?_
              refine mW_iadd dX11_compare_155 ?_
              refine mW_istore (lv2 := [(4, .int (x4 + 0)), (3, .int x5), (2, .int (vX11_amount ((hai w a0_27 x5.toNatClampNeg) - (hai w a0_30 x5.toNatClampNeg)))), (6, .int (vX11_amount ((hai w a0_27 x5.toNatClampNeg) - (hai w a0_30 x5.toNatClampNeg)))), (0, .ref a0), (1, .int x1), (5, .int x5)]) dX11_compare_156 (by decide) rfl ?_
              refine mW_iinc (j := 6) (v := x5 + 1) (lv2 := [(5, .int (x5 + 1)), (4, .int (x4 + 0)), (3, .int x5), (2, .int (vX11_amount ((hai w a0_27 x5.toNatClampNeg) - (hai w a0_30 x5.toNatClampNeg)))), (6, .int (vX11_amount ((hai w a0_27 x5.toNatClampNeg) - (hai w a0_30 x5.toNatClampNeg)))), (0, .ref a0), (1, .int x1)]) dX11_compare_158 rfl rfl (by decide) rfl ?_
              refine mW_goto (tgt := 58) dX11_compare_161 (by decide) ?_
              refine mW_loc [5, 6, 3, 2, 1, 0] (lv2 := [(0, .ref a0), (1, .int x1), (2, .int (vX11_amount ((hai w a0_27 x5.toNatClampNeg) - (hai w a0_30 x5.toNatClampNeg)))), (3, .int x5), (4, .int (x4 + 0)), (5, .int (x5 + 1))]) rfl ?_
              exact k17 c1 c4 c7 c13 c15 c17
            · refine mW_iconst (v := 1) dX11_compare_150 (by decide) ?_
              refine mW_goto (tgt := 155) dX11_compare_151 (by decide) ?_
              refine mW_iadd dX11_compare_155 ?_
              refine mW_istore (lv2 := [(4, .int (x4 + 1)), (3, .int x5), (2, .int (vX11_amount ((hai w a0_27 x5.toNatClampNeg) - (hai w a0_30 x5.toNatClampNeg)))), (6, .int (vX11_amount ((hai w a0_27 x5.toNatClampNeg) - (hai w a0_30 x5.toNatClampNeg)))), (0, .ref a0), (1, .int x1), (5, .int x5)]) dX11_compare_156 (by decide) rfl ?_
              refine mW_iinc (j := 6) (v := x5 + 1) (lv2 := [(5, .int (x5 + 1)), (4, .int (x4 + 1)), (3, .int x5), (2, .int (vX11_amount ((hai w a0_27 x5.toNatClampNeg) - (hai w a0_30 x5.toNatClampNeg)))), (6, .int (vX11_amount ((hai w a0_27 x5.toNatClampNeg) - (hai w a0_30 x5.toNatClampNeg)))), (0, .ref a0), (1, .int x1)]) dX11_compare_158 rfl rfl (by decide) rfl ?_
              refine mW_goto (tgt := 58) dX11_compare_161 (by decide) ?_
              refine mW_loc [5, 6, 3, 2, 1, 0] (lv2 := [(0, .ref a0), (1, .int x1), (2, .int (vX11_amount ((hai w a0_27 x5.toNatClampNeg) - (hai w a0_30 x5.toNatClampNeg)))), (3, .int x5), (4, .int (x4 + 1)), (5, .int (x5 + 1))]) rfl ?_
              exact k18 c1 c4 c7 c13 c15 c17
/-! the reference: compare -/
def rDif (E F : Nat → Int32) : Nat → Int32 | 0 => 0 | k + 1 => if vX11_amount (E k - F k) ≤ rDif E F k then rDif E F k else vX11_amount (E k - F k)
def rFst (E F : Nat → Int32) : Nat → Int32 | 0 => -1 | k + 1 => if 0 ≤ rFst E F k then rFst E F k else if vX11_amount (E k - F k) ≤ 0 then rFst E F k else nI k
def rLes (E F : Nat → Int32) : Nat → Int32 | 0 => 0 | k + 1 => if vX11_amount (F k) ≤ vX11_amount (E k) then rLes E F k + 0 else rLes E F k + 1
def cmV (E F : Nat → Int32) (k : Nat) (x : Int32) : Int32 := if x = 0 then rDif E F k else if x = 1 then rFst E F k else rLes E F k
theorem cmp_loop {G : mG} {w0 : mH} {a0 N M : Nat} {x1 : Int32} {Φ : mF} (z : zRef w0 a0) (hN : hfi w0 a0 26 = nI N) (h200 : N ≤ 200) (hM : hfi w0 a0 29 = nI M) (hM200 : M ≤ 200) : ∀ j k, k + j = min N M + 1 → Φ (.inl (some (.int (cmV (hai w0 (a0 + 15)) (hai w0 (a0 + 16)) (min N M + 1) x1)))) w0 → mW G mX11_compare 2 0 0 58 [(0, .ref a0), (1, .int x1), (2, .int (rDif (hai w0 (a0 + 15)) (hai w0 (a0 + 16)) k)), (3, .int (rFst (hai w0 (a0 + 15)) (hai w0 (a0 + 16)) k)), (4, .int (rLes (hai w0 (a0 + 15)) (hai w0 (a0 + 16)) k)), (5, .int (nI k))] [] w0 Φ := by
  intro j
  have hs : mS2 w0 w0 := ⟨rfl, rfl⟩
  induction j with
  | zero =>
    intro k hk hΦ
    have cn : hfi w0 a0 26 < nI k ↔ N < k := by rw [hN]; exact m_lt (by omega) (by omega)
    have cm : hfi w0 a0 29 < nI k ↔ M < k := by rw [hM]; exact m_lt (by omega) (by omega)
    have hk' : k = min N M + 1 := by omega
    subst hk'
    refine gX11_compare_58 (a0_27 := a0 + 15) (a0_30 := a0 + 16) ((zRef_s2 hs z).1) ((zRef_s2 hs z).2.2.2.2.2.2.2.2.2.2.2.2.2.2.2.1) ((zRef_s2 hs z).2.2.2.2.2.2.2.2.2.2.2.2.2.2.2.2.2.2.2.2.2.2.2.2.2.2.2.2.2.2.2.2.2.2.2.2.1) (by intro c1 c4; exact m_vp (by rw [cn] at c1; omega) (by decide)) ((zRef_s2 hs z).2.2.2.2.2.2.2.2.2.2.2.2.2.2.2.2.1) ((zRef_s2 hs z).2.2.2.2.2.2.2.2.2.2.2.2.2.2.2.2.2.2.2.2.2.2.2.2.2.2.2.2.2.2.2.2.2.2.2.2.2.1) (by intro c1 c4; exact m_vp (by rw [cn] at c1; omega) (by decide)) ?_ ?_ ?_ ?_ ?_ ?_ ?_ ?_ ?_ ?_ ?_ ?_ ?_ ?_ ?_ ?_ ?_ ?_
    · intro c1 c2 c3
      have e : cmV (hai w0 (a0 + 15)) (hai w0 (a0 + 16)) (min N M + 1) x1 = rLes (hai w0 (a0 + 15)) (hai w0 (a0 + 16)) (min N M + 1) := by unfold cmV; rw [if_neg c2, if_neg c3]
      rw [e] at hΦ
      exact hΦ
    · intro c1 c2 c3
      have e : cmV (hai w0 (a0 + 15)) (hai w0 (a0 + 16)) (min N M + 1) x1 = rFst (hai w0 (a0 + 15)) (hai w0 (a0 + 16)) (min N M + 1) := by unfold cmV; rw [if_neg c2, if_pos c3]
      rw [e] at hΦ
      exact hΦ
    · intro c1 c2
      have e : cmV (hai w0 (a0 + 15)) (hai w0 (a0 + 16)) (min N M + 1) x1 = rDif (hai w0 (a0 + 15)) (hai w0 (a0 + 16)) (min N M + 1) := by unfold cmV; rw [if_pos c2]
      rw [e] at hΦ
      exact hΦ
    · intro c1 c4 c5 c6
      have e : cmV (hai w0 (a0 + 15)) (hai w0 (a0 + 16)) (min N M + 1) x1 = rLes (hai w0 (a0 + 15)) (hai w0 (a0 + 16)) (min N M + 1) := by unfold cmV; rw [if_neg c5, if_neg c6]
      rw [e] at hΦ
      exact hΦ
    · intro c1 c4 c5 c6
      have e : cmV (hai w0 (a0 + 15)) (hai w0 (a0 + 16)) (min N M + 1) x1 = rFst (hai w0 (a0 + 15)) (hai w0 (a0 + 16)) (min N M + 1) := by unfold cmV; rw [if_neg c5, if_pos c6]
      rw [e] at hΦ
      exact hΦ
    · intro c1 c4 c5
      have e : cmV (hai w0 (a0 + 15)) (hai w0 (a0 + 16)) (min N M + 1) x1 = rDif (hai w0 (a0 + 15)) (hai w0 (a0 + 16)) (min N M + 1) := by unfold cmV; rw [if_pos c5]
      rw [e] at hΦ
      exact hΦ
    · intro c1 c4 c7 c8 c9
      exfalso; rw [cn] at c1; rw [cm] at c4; omega
    · intro c1 c4 c7 c8 c9
      exfalso; rw [cn] at c1; rw [cm] at c4; omega
    · intro c1 c4 c7 c8 c10 c11
      exfalso; rw [cn] at c1; rw [cm] at c4; omega
    · intro c1 c4 c7 c8 c10 c11
      exfalso; rw [cn] at c1; rw [cm] at c4; omega
    · intro c1 c4 c7 c8 c10 c12
      exfalso; rw [cn] at c1; rw [cm] at c4; omega
    · intro c1 c4 c7 c8 c10 c12
      exfalso; rw [cn] at c1; rw [cm] at c4; omega
    · intro c1 c4 c7 c13 c14
      exfalso; rw [cn] at c1; rw [cm] at c4; omega
    · intro c1 c4 c7 c13 c14
      exfalso; rw [cn] at c1; rw [cm] at c4; omega
    · intro c1 c4 c7 c13 c15 c16
      exfalso; rw [cn] at c1; rw [cm] at c4; omega
    · intro c1 c4 c7 c13 c15 c16
      exfalso; rw [cn] at c1; rw [cm] at c4; omega
    · intro c1 c4 c7 c13 c15 c17
      exfalso; rw [cn] at c1; rw [cm] at c4; omega
    · intro c1 c4 c7 c13 c15 c17
      exfalso; rw [cn] at c1; rw [cm] at c4; omega
  | succ j ih =>
    intro k hk hΦ
    have cn : hfi w0 a0 26 < nI k ↔ N < k := by rw [hN]; exact m_lt (by omega) (by omega)
    have cm : hfi w0 a0 29 < nI k ↔ M < k := by rw [hM]; exact m_lt (by omega) (by omega)
    refine gX11_compare_58 (a0_27 := a0 + 15) (a0_30 := a0 + 16) ((zRef_s2 hs z).1) ((zRef_s2 hs z).2.2.2.2.2.2.2.2.2.2.2.2.2.2.2.1) ((zRef_s2 hs z).2.2.2.2.2.2.2.2.2.2.2.2.2.2.2.2.2.2.2.2.2.2.2.2.2.2.2.2.2.2.2.2.2.2.2.2.1) (by intro c1 c4; exact m_vp (by rw [cn] at c1; omega) (by decide)) ((zRef_s2 hs z).2.2.2.2.2.2.2.2.2.2.2.2.2.2.2.2.1) ((zRef_s2 hs z).2.2.2.2.2.2.2.2.2.2.2.2.2.2.2.2.2.2.2.2.2.2.2.2.2.2.2.2.2.2.2.2.2.2.2.2.2.1) (by intro c1 c4; exact m_vp (by rw [cn] at c1; omega) (by decide)) ?_ ?_ ?_ ?_ ?_ ?_ ?_ ?_ ?_ ?_ ?_ ?_ ?_ ?_ ?_ ?_ ?_ ?_
    · intro c1 c2 c3
      rw [cn] at c1; omega
    · intro c1 c2 c3
      rw [cn] at c1; omega
    · intro c1 c2
      rw [cn] at c1; omega
    · intro c1 c4 c5 c6
      rw [cm] at c4; omega
    · intro c1 c4 c5 c6
      rw [cm] at c4; omega
    · intro c1 c4 c5
      rw [cm] at c4; omega
    · intro c1 c4 c7 c8 c9
      rw [m_cl (by omega)] at c7 c9
      skip
      rw [nI_1]
      have e1 : rDif (hai w0 (a0 + 15)) (hai w0 (a0 + 16)) (k + 1) = rDif (hai w0 (a0 + 15)) (hai w0 (a0 + 16)) k := by rw [rDif, if_pos c7]
      have e2 : rFst (hai w0 (a0 + 15)) (hai w0 (a0 + 16)) (k + 1) = rFst (hai w0 (a0 + 15)) (hai w0 (a0 + 16)) k := by rw [rFst, if_pos c8]
      have e3 : rLes (hai w0 (a0 + 15)) (hai w0 (a0 + 16)) (k + 1) = rLes (hai w0 (a0 + 15)) (hai w0 (a0 + 16)) k + 0 := by rw [rLes, if_pos c9]
      have := ih (k + 1) (by omega) hΦ
      rw [e1, e2, e3] at this
      exact this
    · intro c1 c4 c7 c8 c9
      rw [m_cl (by omega)] at c7 c9
      skip
      rw [nI_1]
      have e1 : rDif (hai w0 (a0 + 15)) (hai w0 (a0 + 16)) (k + 1) = rDif (hai w0 (a0 + 15)) (hai w0 (a0 + 16)) k := by rw [rDif, if_pos c7]
      have e2 : rFst (hai w0 (a0 + 15)) (hai w0 (a0 + 16)) (k + 1) = rFst (hai w0 (a0 + 15)) (hai w0 (a0 + 16)) k := by rw [rFst, if_pos c8]
      have e3 : rLes (hai w0 (a0 + 15)) (hai w0 (a0 + 16)) (k + 1) = rLes (hai w0 (a0 + 15)) (hai w0 (a0 + 16)) k + 1 := by rw [rLes, if_neg c9]
      have := ih (k + 1) (by omega) hΦ
      rw [e1, e2, e3] at this
      exact this
    · intro c1 c4 c7 c8 c10 c11
      rw [m_cl (by omega)] at c7 c10 c11
      skip
      rw [nI_1]
      have e1 : rDif (hai w0 (a0 + 15)) (hai w0 (a0 + 16)) (k + 1) = rDif (hai w0 (a0 + 15)) (hai w0 (a0 + 16)) k := by rw [rDif, if_pos c7]
      have e2 : rFst (hai w0 (a0 + 15)) (hai w0 (a0 + 16)) (k + 1) = rFst (hai w0 (a0 + 15)) (hai w0 (a0 + 16)) k := by rw [rFst, if_neg c8, if_pos c10]
      have e3 : rLes (hai w0 (a0 + 15)) (hai w0 (a0 + 16)) (k + 1) = rLes (hai w0 (a0 + 15)) (hai w0 (a0 + 16)) k + 0 := by rw [rLes, if_pos c11]
      have := ih (k + 1) (by omega) hΦ
      rw [e1, e2, e3] at this
      exact this
    · intro c1 c4 c7 c8 c10 c11
      rw [m_cl (by omega)] at c7 c10 c11
      skip
      rw [nI_1]
      have e1 : rDif (hai w0 (a0 + 15)) (hai w0 (a0 + 16)) (k + 1) = rDif (hai w0 (a0 + 15)) (hai w0 (a0 + 16)) k := by rw [rDif, if_pos c7]
      have e2 : rFst (hai w0 (a0 + 15)) (hai w0 (a0 + 16)) (k + 1) = rFst (hai w0 (a0 + 15)) (hai w0 (a0 + 16)) k := by rw [rFst, if_neg c8, if_pos c10]
      have e3 : rLes (hai w0 (a0 + 15)) (hai w0 (a0 + 16)) (k + 1) = rLes (hai w0 (a0 + 15)) (hai w0 (a0 + 16)) k + 1 := by rw [rLes, if_neg c11]
      have := ih (k + 1) (by omega) hΦ
      rw [e1, e2, e3] at this
      exact this
    · intro c1 c4 c7 c8 c10 c12
      rw [m_cl (by omega)] at c7 c10 c12
      skip
      rw [nI_1]
      have e1 : rDif (hai w0 (a0 + 15)) (hai w0 (a0 + 16)) (k + 1) = rDif (hai w0 (a0 + 15)) (hai w0 (a0 + 16)) k := by rw [rDif, if_pos c7]
      have e2 : rFst (hai w0 (a0 + 15)) (hai w0 (a0 + 16)) (k + 1) = nI k := by rw [rFst, if_neg c8, if_neg c10]
      have e3 : rLes (hai w0 (a0 + 15)) (hai w0 (a0 + 16)) (k + 1) = rLes (hai w0 (a0 + 15)) (hai w0 (a0 + 16)) k + 0 := by rw [rLes, if_pos c12]
      have := ih (k + 1) (by omega) hΦ
      rw [e1, e2, e3] at this
      exact this
    · intro c1 c4 c7 c8 c10 c12
      rw [m_cl (by omega)] at c7 c10 c12
      skip
      rw [nI_1]
      have e1 : rDif (hai w0 (a0 + 15)) (hai w0 (a0 + 16)) (k + 1) = rDif (hai w0 (a0 + 15)) (hai w0 (a0 + 16)) k := by rw [rDif, if_pos c7]
      have e2 : rFst (hai w0 (a0 + 15)) (hai w0 (a0 + 16)) (k + 1) = nI k := by rw [rFst, if_neg c8, if_neg c10]
      have e3 : rLes (hai w0 (a0 + 15)) (hai w0 (a0 + 16)) (k + 1) = rLes (hai w0 (a0 + 15)) (hai w0 (a0 + 16)) k + 1 := by rw [rLes, if_neg c12]
      have := ih (k + 1) (by omega) hΦ
      rw [e1, e2, e3] at this
      exact this
    · intro c1 c4 c7 c13 c14
      rw [m_cl (by omega)] at c7 c14
      rw [m_cl (by omega)]
      rw [nI_1]
      have e1 : rDif (hai w0 (a0 + 15)) (hai w0 (a0 + 16)) (k + 1) = vX11_amount ((hai w0 (a0 + 15)) k - (hai w0 (a0 + 16)) k) := by rw [rDif, if_neg c7]
      have e2 : rFst (hai w0 (a0 + 15)) (hai w0 (a0 + 16)) (k + 1) = rFst (hai w0 (a0 + 15)) (hai w0 (a0 + 16)) k := by rw [rFst, if_pos c13]
      have e3 : rLes (hai w0 (a0 + 15)) (hai w0 (a0 + 16)) (k + 1) = rLes (hai w0 (a0 + 15)) (hai w0 (a0 + 16)) k + 0 := by rw [rLes, if_pos c14]
      have := ih (k + 1) (by omega) hΦ
      rw [e1, e2, e3] at this
      exact this
    · intro c1 c4 c7 c13 c14
      rw [m_cl (by omega)] at c7 c14
      rw [m_cl (by omega)]
      rw [nI_1]
      have e1 : rDif (hai w0 (a0 + 15)) (hai w0 (a0 + 16)) (k + 1) = vX11_amount ((hai w0 (a0 + 15)) k - (hai w0 (a0 + 16)) k) := by rw [rDif, if_neg c7]
      have e2 : rFst (hai w0 (a0 + 15)) (hai w0 (a0 + 16)) (k + 1) = rFst (hai w0 (a0 + 15)) (hai w0 (a0 + 16)) k := by rw [rFst, if_pos c13]
      have e3 : rLes (hai w0 (a0 + 15)) (hai w0 (a0 + 16)) (k + 1) = rLes (hai w0 (a0 + 15)) (hai w0 (a0 + 16)) k + 1 := by rw [rLes, if_neg c14]
      have := ih (k + 1) (by omega) hΦ
      rw [e1, e2, e3] at this
      exact this
    · intro c1 c4 c7 c13 c15 c16
      rw [m_cl (by omega)] at c7 c15 c16
      rw [m_cl (by omega)]
      rw [nI_1]
      have e1 : rDif (hai w0 (a0 + 15)) (hai w0 (a0 + 16)) (k + 1) = vX11_amount ((hai w0 (a0 + 15)) k - (hai w0 (a0 + 16)) k) := by rw [rDif, if_neg c7]
      have e2 : rFst (hai w0 (a0 + 15)) (hai w0 (a0 + 16)) (k + 1) = rFst (hai w0 (a0 + 15)) (hai w0 (a0 + 16)) k := by rw [rFst, if_neg c13, if_pos c15]
      have e3 : rLes (hai w0 (a0 + 15)) (hai w0 (a0 + 16)) (k + 1) = rLes (hai w0 (a0 + 15)) (hai w0 (a0 + 16)) k + 0 := by rw [rLes, if_pos c16]
      have := ih (k + 1) (by omega) hΦ
      rw [e1, e2, e3] at this
      exact this
    · intro c1 c4 c7 c13 c15 c16
      rw [m_cl (by omega)] at c7 c15 c16
      rw [m_cl (by omega)]
      rw [nI_1]
      have e1 : rDif (hai w0 (a0 + 15)) (hai w0 (a0 + 16)) (k + 1) = vX11_amount ((hai w0 (a0 + 15)) k - (hai w0 (a0 + 16)) k) := by rw [rDif, if_neg c7]
      have e2 : rFst (hai w0 (a0 + 15)) (hai w0 (a0 + 16)) (k + 1) = rFst (hai w0 (a0 + 15)) (hai w0 (a0 + 16)) k := by rw [rFst, if_neg c13, if_pos c15]
      have e3 : rLes (hai w0 (a0 + 15)) (hai w0 (a0 + 16)) (k + 1) = rLes (hai w0 (a0 + 15)) (hai w0 (a0 + 16)) k + 1 := by rw [rLes, if_neg c16]
      have := ih (k + 1) (by omega) hΦ
      rw [e1, e2, e3] at this
      exact this
    · intro c1 c4 c7 c13 c15 c17
      rw [m_cl (by omega)] at c7 c15 c17
      rw [m_cl (by omega)]
      rw [nI_1]
      have e1 : rDif (hai w0 (a0 + 15)) (hai w0 (a0 + 16)) (k + 1) = vX11_amount ((hai w0 (a0 + 15)) k - (hai w0 (a0 + 16)) k) := by rw [rDif, if_neg c7]
      have e2 : rFst (hai w0 (a0 + 15)) (hai w0 (a0 + 16)) (k + 1) = nI k := by rw [rFst, if_neg c13, if_neg c15]
      have e3 : rLes (hai w0 (a0 + 15)) (hai w0 (a0 + 16)) (k + 1) = rLes (hai w0 (a0 + 15)) (hai w0 (a0 + 16)) k + 0 := by rw [rLes, if_pos c17]
      have := ih (k + 1) (by omega) hΦ
      rw [e1, e2, e3] at this
      exact this
    · intro c1 c4 c7 c13 c15 c17
      rw [m_cl (by omega)] at c7 c15 c17
      rw [m_cl (by omega)]
      rw [nI_1]
      have e1 : rDif (hai w0 (a0 + 15)) (hai w0 (a0 + 16)) (k + 1) = vX11_amount ((hai w0 (a0 + 15)) k - (hai w0 (a0 + 16)) k) := by rw [rDif, if_neg c7]
      have e2 : rFst (hai w0 (a0 + 15)) (hai w0 (a0 + 16)) (k + 1) = nI k := by rw [rFst, if_neg c13, if_neg c15]
      have e3 : rLes (hai w0 (a0 + 15)) (hai w0 (a0 + 16)) (k + 1) = rLes (hai w0 (a0 + 15)) (hai w0 (a0 + 16)) k + 1 := by rw [rLes, if_neg c17]
      have := ih (k + 1) (by omega) hΦ
      rw [e1, e2, e3] at this
      exact this
def tCmp (w : mH) (a0 : Nat) (x1 : Int32) : Int32 := if hfi w a0 25 = 0 then 1 else if hfi w a0 28 = 0 then 1 else if vX11_in x1.toInt64 0 2 = 0 then 2 else 0
theorem rX11_compare {G : mG} {w : mH} {a0 N M : Nat} {x1 : Int32} (z : zRef w a0) (hN : hfi w a0 26 = nI N) (h200 : N ≤ 200) (hM : hfi w a0 29 = nI M) (hM200 : M ≤ 200) : mC G mX11_compare 2 0 0 [.ref a0, .int x1] w (mEq (.inl (some (.int (if tCmp w a0 x1 = 0 then cmV (hai w (a0 + 15)) (hai w (a0 + 16)) (min N M + 1) x1 else 0)))) (sfi w a0 0 (tCmp w a0 x1))) := by
  refine mC_of (by decide +kernel) rfl (Nat.le_of_ble_eq_true rfl) rfl ?_
  refine gX11_compare_0 z.1 ?_ ?_ ?_ ?_
  · intro c1 w1 e1
    have et : tCmp w a0 x1 = 1 := by unfold tCmp; rw [if_pos c1]
    rw [et, if_neg (by decide), e1]
    exact ⟨rfl, rfl⟩
  · intro c1 c2 c3 w2 e2
    have et : tCmp w a0 x1 = 2 := by unfold tCmp; rw [if_neg c1, if_neg c2, if_pos c3]
    rw [et, if_neg (by decide), e2]
    exact ⟨rfl, rfl⟩
  · intro c1 c2 c3 w3 e3
    have et : tCmp w a0 x1 = 0 := by unfold tCmp; rw [if_neg c1, if_neg c2, if_neg c3]
    rw [et, if_pos rfl, ← e3]
    have z3 : zRef w3 a0 := by rw [e3]; exact z
    have g1 : hfi w3 a0 26 = nI N := by rw [e3, e_hfi_sfi, up2_k _ _ _ (by decide)]; exact hN
    have g2 : hfi w3 a0 29 = nI M := by rw [e3, e_hfi_sfi, up2_k _ _ _ (by decide)]; exact hM
    have q1 : hai w3 (a0 + 15) = hai w (a0 + 15) := by rw [e3]; rfl
    have q2 : hai w3 (a0 + 16) = hai w (a0 + 16) := by rw [e3]; rfl
    rw [← q1, ← q2]
    exact cmp_loop z3 g1 h200 g2 hM200 (min N M + 1) 0 (by omega) mEq_rf
  · intro c1 c2 w4 e4
    have et : tCmp w a0 x1 = 1 := by unfold tCmp; rw [if_neg c1, if_pos c2]
    rw [et, if_neg (by decide), e4]
    exact ⟨rfl, rfl⟩

