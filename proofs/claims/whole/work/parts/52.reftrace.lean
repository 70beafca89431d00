abbrev mX11_laysTrace : mM := (yX11_laysTrace, cX11_laysTrace, 2, none, [])
theorem p_X11_235 : mPut "LineFollowerBenchModel" 235 11 25 (.boolean) false := ⟨RX11, TX11, 36, "LineFollowerBenchModel", tyX11, rfl, by decide, in_X11, u1585, Or.inl rfl, by decide, tyX11_ok, nmX11, by decide +kernel, rfl, fun h => by cases h⟩
theorem ob_11_25 (w : mH) (a : Nat) (v : Int32) : mOb (sfi w a 25 v) a 11 = (mOb w a 11).set 25 (.int v) := by simp [mOb, hfi_sfi, hfl_sfi, hfr_sfi, up2]
theorem p_X11_239 : mPut "LineFollowerBenchModel" 239 11 26 (.int) false := ⟨RX11, TX11, 36, "LineFollowerBenchModel", tyX11, rfl, by decide, in_X11, u1586, Or.inl rfl, by decide, tyX11_ok, nmX11, by decide +kernel, rfl, fun h => by cases h⟩
theorem ob_11_26 (w : mH) (a : Nat) (v : Int32) : mOb (sfi w a 26 v) a 11 = (mOb w a 11).set 26 (.int v) := by simp [mOb, hfi_sfi, hfl_sfi, hfr_sfi, up2]
set_option maxHeartbeats 4000000 in
set_option maxRecDepth 100000 in
theorem gX11_laysTrace_0 {G : mG} {w : mH} {Φ : mF} {a0 : Nat} (h1 : hk w a0 = (11, 0)) (k1 : ∀ w1 : mH, (w1 = sfi w a0 25 1) → ∀ w2 : mH, (w2 = sfi w1 a0 26 (hfi w a0 22)) → mW G mX11_laysTrace 2 0 0 15 [(0, .ref a0), (1, .int 0)] [] w2 Φ) : mW G mX11_laysTrace 2 0 0 0 [(0, .ref a0)] [] w Φ := by
  refine mW_aload_n (j := 0) dX11_laysTrace_0 rfl rfl ?_
  refine mW_iconst (v := 1) dX11_laysTrace_1 (by decide) ?_
  refine mW_put (ty := .boolean) (w2 := sfi w a0 25 1) dX11_laysTrace_2 p_X11_235 h1 (Nat.le_of_ble_eq_true rfl) (by first | rfl | decide | (repeat' split) <;> rfl) rfl (hN_sfi _ _ _ _) (hk_sfi _ _ _ _) (mE_sfi h1 (by decide) (ob_11_25 _ _ _)) ?_
  refine mW_nm (fun w1 e1 => ?_)
  refine mW_aload_n (j := 0) dX11_laysTrace_5 rfl rfl ?_
  refine mW_aload_n (j := 0) dX11_laysTrace_6 rfl rfl ?_
  refine mW_getL (v := hfi w a0 22) dX11_laysTrace_7 f_X11_218 (s2k (S2_sfi e1) h1) rfl (by rw [e1, e_hfi_sfi, up2_k _ _ _ (by decide)]) ?_
  refine mW_put (ty := .int) (w2 := sfi w1 a0 26 (hfi w a0 22)) dX11_laysTrace_10 p_X11_239 (s2k (S2_sfi e1) h1) (Nat.le_of_ble_eq_true rfl) (by first | rfl | decide | (repeat' split) <;> rfl) rfl (hN_sfi _ _ _ _) (hk_sfi _ _ _ _) (mE_sfi (s2k (S2_sfi e1) h1) (by decide) (ob_11_26 _ _ _)) ?_
  refine mW_nm (fun w2 e2 => ?_)
  refine mW_iconst (v := 0) dX11_laysTrace_13 (by decide) ?_
  refine mW_istore_n (lv2 := [(1, .int 0), (0, .ref a0)]) dX11_laysTrace_14 rfl (by decide) rfl ?_
  refine mW_loc [1, 0] (lv2 := [(0, .ref a0), (1, .int 0)]) rfl ?_
  exact k1 w1 e1 w2 e2
set_option maxHeartbeats 4000000 in
set_option maxRecDepth 100000 in
theorem gX11_laysTrace_15 {G : mG} {w : mH} {Φ : mF} {a0 : Nat} {x1 : Int32} {a0_27 a0_15 n_a0_15 n_a0_27 a0_17 n_a0_17 a0_18 n_a0_18 a0_19 n_a0_19 a0_20 n_a0_20 a0_21 n_a0_21 : Nat} (h1 : hk w a0 = (11, 0)) (h2 : hfr w a0 27 = some a0_27) (h3 : hfr w a0 15 = some a0_15) (h4 : hk w a0_15 = (16, n_a0_15)) (s1 : (¬ ((hfi w a0 22) < x1)) → vp_in x1 n_a0_15) (h5 : hk w a0_27 = (16, n_a0_27)) (s2 : (¬ ((hfi w a0 22) < x1)) → vp_in x1 n_a0_27) (h6 : hfr w a0 17 = some a0_17) (h7 : hk w a0_17 = (16, n_a0_17)) (s3 : (¬ ((hfi w a0 22) < x1)) → ∀ w1 : mH, (w1 = sai w a0_27 x1.toNatClampNeg (hai w a0_15 x1.toNatClampNeg)) → (¬ (x1 = (hfi w a0 22))) → vp_in x1 n_a0_17) (s4 : (¬ ((hfi w a0 22) < x1)) → ∀ w1 : mH, (w1 = sai w a0_27 x1.toNatClampNeg (hai w a0_15 x1.toNatClampNeg)) → (¬ (x1 = (hfi w a0 22))) → vp_in (201 + x1) n_a0_27) (h8 : hfr w a0 18 = some a0_18) (h9 : hk w a0_18 = (16, n_a0_18)) (s5 : (¬ ((hfi w a0 22) < x1)) → ∀ w1 : mH, (w1 = sai w a0_27 x1.toNatClampNeg (hai w a0_15 x1.toNatClampNeg)) → (¬ (x1 = (hfi w a0 22))) → ∀ w2 : mH, (w2 = sai w1 a0_27 ((201 + x1).toNatClampNeg) (hai w1 a0_17 x1.toNatClampNeg)) → vp_in x1 n_a0_18) (s6 : (¬ ((hfi w a0 22) < x1)) → ∀ w1 : mH, (w1 = sai w a0_27 x1.toNatClampNeg (hai w a0_15 x1.toNatClampNeg)) → (¬ (x1 = (hfi w a0 22))) → ∀ w2 : mH, (w2 = sai w1 a0_27 ((201 + x1).toNatClampNeg) (hai w1 a0_17 x1.toNatClampNeg)) → vp_in (402 + x1) n_a0_27) (h10 : hfr w a0 19 = some a0_19) (h11 : hk w a0_19 = (16, n_a0_19)) (s7 : (¬ ((hfi w a0 22) < x1)) → ∀ w1 : mH, (w1 = sai w a0_27 x1.toNatClampNeg (hai w a0_15 x1.toNatClampNeg)) → (¬ (x1 = (hfi w a0 22))) → ∀ w2 : mH, (w2 = sai w1 a0_27 ((201 + x1).toNatClampNeg) (hai w1 a0_17 x1.toNatClampNeg)) → ∀ w3 : mH, (w3 = sai w2 a0_27 ((402 + x1).toNatClampNeg) (hai w2 a0_18 x1.toNatClampNeg)) → vp_in x1 n_a0_19) (s8 : (¬ ((hfi w a0 22) < x1)) → ∀ w1 : mH, (w1 = sai w a0_27 x1.toNatClampNeg (hai w a0_15 x1.toNatClampNeg)) → (¬ (x1 = (hfi w a0 22))) → ∀ w2 : mH, (w2 = sai w1 a0_27 ((201 + x1).toNatClampNeg) (hai w1 a0_17 x1.toNatClampNeg)) → ∀ w3 : mH, (w3 = sai w2 a0_27 ((402 + x1).toNatClampNeg) (hai w2 a0_18 x1.toNatClampNeg)) → vp_in (603 + x1) n_a0_27) (h12 : hfr w a0 20 = some a0_20) (h13 : hk w a0_20 = (16, n_a0_20)) (s9 : (¬ ((hfi w a0 22) < x1)) → ∀ w1 : mH, (w1 = sai w a0_27 x1.toNatClampNeg (hai w a0_15 x1.toNatClampNeg)) → (¬ (x1 = (hfi w a0 22))) → ∀ w2 : mH, (w2 = sai w1 a0_27 ((201 + x1).toNatClampNeg) (hai w1 a0_17 x1.toNatClampNeg)) → ∀ w3 : mH, (w3 = sai w2 a0_27 ((402 + x1).toNatClampNeg) (hai w2 a0_18 x1.toNatClampNeg)) → ∀ w4 : mH, (w4 = sai w3 a0_27 ((603 + x1).toNatClampNeg) (hai w3 a0_19 x1.toNatClampNeg)) → vp_in x1 n_a0_20) (s10 : (¬ ((hfi w a0 22) < x1)) → ∀ w1 : mH, (w1 = sai w a0_27 x1.toNatClampNeg (hai w a0_15 x1.toNatClampNeg)) → (¬ (x1 = (hfi w a0 22))) → ∀ w2 : mH, (w2 = sai w1 a0_27 ((201 + x1).toNatClampNeg) (hai w1 a0_17 x1.toNatClampNeg)) → ∀ w3 : mH, (w3 = sai w2 a0_27 ((402 + x1).toNatClampNeg) (hai w2 a0_18 x1.toNatClampNeg)) → ∀ w4 : mH, (w4 = sai w3 a0_27 ((603 + x1).toNatClampNeg) (hai w3 a0_19 x1.toNatClampNeg)) → vp_in (804 + x1) n_a0_27) (h14 : hfr w a0 21 = some a0_21) (h15 : hk w a0_21 = (16, n_a0_21)) (s11 : (¬ ((hfi w a0 22) < x1)) → ∀ w1 : mH, (w1 = sai w a0_27 x1.toNatClampNeg (hai w a0_15 x1.toNatClampNeg)) → (¬ (x1 = (hfi w a0 22))) → ∀ w2 : mH, (w2 = sai w1 a0_27 ((201 + x1).toNatClampNeg) (hai w1 a0_17 x1.toNatClampNeg)) → ∀ w3 : mH, (w3 = sai w2 a0_27 ((402 + x1).toNatClampNeg) (hai w2 a0_18 x1.toNatClampNeg)) → ∀ w4 : mH, (w4 = sai w3 a0_27 ((603 + x1).toNatClampNeg) (hai w3 a0_19 x1.toNatClampNeg)) → ∀ w5 : mH, (w5 = sai w4 a0_27 ((804 + x1).toNatClampNeg) (hai w4 a0_20 x1.toNatClampNeg)) → vp_in x1 n_a0_21) (s12 : (¬ ((hfi w a0 22) < x1)) → ∀ w1 : mH, (w1 = sai w a0_27 x1.toNatClampNeg (hai w a0_15 x1.toNatClampNeg)) → (¬ (x1 = (hfi w a0 22))) → ∀ w2 : mH, (w2 = sai w1 a0_27 ((201 + x1).toNatClampNeg) (hai w1 a0_17 x1.toNatClampNeg)) → ∀ w3 : mH, (w3 = sai w2 a0_27 ((402 + x1).toNatClampNeg) (hai w2 a0_18 x1.toNatClampNeg)) → ∀ w4 : mH, (w4 = sai w3 a0_27 ((603 + x1).toNatClampNeg) (hai w3 a0_19 x1.toNatClampNeg)) → ∀ w5 : mH, (w5 = sai w4 a0_27 ((804 + x1).toNatClampNeg) (hai w4 a0_20 x1.toNatClampNeg)) → vp_in (1005 + x1) n_a0_27) (k1 : ((hfi w a0 22) < x1) → Φ (.inl none) w) (k2 : (¬ ((hfi w a0 22) < x1)) → ∀ w1 : mH, (w1 = sai w a0_27 x1.toNatClampNeg (hai w a0_15 x1.toNatClampNeg)) → (¬ (x1 = (hfi w a0 22))) → ∀ w2 : mH, (w2 = sai w1 a0_27 ((201 + x1).toNatClampNeg) (hai w1 a0_17 x1.toNatClampNeg)) → ∀ w3 : mH, (w3 = sai w2 a0_27 ((402 + x1).toNatClampNeg) (hai w2 a0_18 x1.toNatClampNeg)) → ∀ w4 : mH, (w4 = sai w3 a0_27 ((603 + x1).toNatClampNeg) (hai w3 a0_19 x1.toNatClampNeg)) → ∀ w5 : mH, (w5 = sai w4 a0_27 ((804 + x1).toNatClampNeg) (hai w4 a0_20 x1.toNatClampNeg)) → ∀ w6 : mH, (w6 = sai w5 a0_27 ((1005 + x1).toNatClampNeg) (hai w5 a0_21 x1.toNatClampNeg)) → mW G mX11_laysTrace 2 0 0 15 [(0, .ref a0), (1, .int (x1 + 1))] [] w6 Φ) (k3 : (¬ ((hfi w a0 22) < x1)) → ∀ w1 : mH, (w1 = sai w a0_27 x1.toNatClampNeg (hai w a0_15 x1.toNatClampNeg)) → (x1 = (hfi w a0 22)) → mW G mX11_laysTrace 2 0 0 15 [(0, .ref a0), (1, .int (x1 + 1))] [] w1 Φ) : mW G mX11_laysTrace 2 0 0 15 [(0, .ref a0), (1, .int x1)] [] w Φ := by
  refine mW_iload_n (j := 1) dX11_laysTrace_15 rfl rfl ?_
  refine mW_aload_n (j := 0) dX11_laysTrace_16 rfl rfl ?_
  refine mW_get dX11_laysTrace_17 f_X11_218 h1 rfl ?_
  refine mW_icmp_gt (tgt := 132) dX11_laysTrace_20 (by decide) (fun c1 => ?_) (fun c1 => ?_)
  · exact mW_vret dX11_laysTrace_132 rfl (k1 c1)
  · refine mW_aload_n (j := 0) dX11_laysTrace_23 rfl rfl ?_
    refine mW_getR dX11_laysTrace_24 f_X11_60 h1 rfl h2 ?_
    refine mW_iload_n (j := 1) dX11_laysTrace_27 rfl rfl ?_
    refine mW_aload_n (j := 0) dX11_laysTrace_28 rfl rfl ?_
    refine mW_getR dX11_laysTrace_29 f_X11_39 h1 rfl h3 ?_
    refine mW_iload_n (j := 1) dX11_laysTrace_32 rfl rfl ?_
    refine mW_ialdJ dX11_laysTrace_33 h4 (s1 c1) rfl ?_
    refine mW_iastJ dX11_laysTrace_34 h5 (s2 c1) rfl ?_
    refine mW_nm (fun w1 e1 => ?_)
    refine mW_iload_n (j := 1) dX11_laysTrace_35 rfl rfl ?_
    refine mW_aload_n (j := 0) dX11_laysTrace_36 rfl rfl ?_
    refine mW_getL (v := hfi w a0 22) dX11_laysTrace_37 f_X11_218 (s2k (S2_sai e1) h1) rfl (by rw [e1, e_hfi_sai]) ?_
    refine mW_icmp_ne (tgt := 46) dX11_laysTrace_40 (by decide) (fun c2 => ?_) (fun c2 => ?_)
    · refine mW_aload_n (j := 0) dX11_laysTrace_46 rfl rfl ?_
      refine mW_getR dX11_laysTrace_47 f_X11_60 (s2k (S2_sai e1) h1) rfl (s2r (S2_sai e1) h2) ?_
      refine mW_sipush (v := 201) dX11_laysTrace_50 (by decide) ?_
      refine mW_iload_n (j := 1) dX11_laysTrace_53 rfl rfl ?_
      refine mW_iadd dX11_laysTrace_54 ?_
      refine mW_aload_n (j := 0) dX11_laysTrace_55 rfl rfl ?_
      refine mW_getR dX11_laysTrace_56 f_X11_45 (s2k (S2_sai e1) h1) rfl (s2r (S2_sai e1) h6) ?_
      refine mW_iload_n (j := 1) dX11_laysTrace_59 rfl rfl ?_
      refine mW_ialdJ dX11_laysTrace_60 (s2k (S2_sai e1) h7) (s3 c1 w1 e1 c2) rfl ?_
      refine mW_iastJ dX11_laysTrace_61 (s2k (S2_sai e1) h5) (s4 c1 w1 e1 c2) rfl ?_
      refine mW_nm (fun w2 e2 => ?_)
      refine mW_aload_n (j := 0) dX11_laysTrace_62 rfl rfl ?_
      refine mW_getR dX11_laysTrace_63 f_X11_60 (s2k (S2_sai e2) (s2k (S2_sai e1) h1)) rfl (s2r (S2_sai e2) (s2r (S2_sai e1) h2)) ?_
      refine mW_sipush (v := 402) dX11_laysTrace_66 (by decide) ?_
      refine mW_iload_n (j := 1) dX11_laysTrace_69 rfl rfl ?_
      refine mW_iadd dX11_laysTrace_70 ?_
      refine mW_aload_n (j := 0) dX11_laysTrace_71 rfl rfl ?_
      refine mW_getR dX11_laysTrace_72 f_X11_48 (s2k (S2_sai e2) (s2k (S2_sai e1) h1)) rfl (s2r (S2_sai e2) (s2r (S2_sai e1) h8)) ?_
      refine mW_iload_n (j := 1) dX11_laysTrace_75 rfl rfl ?_
      refine mW_ialdJ dX11_laysTrace_76 (s2k (S2_sai e2) (s2k (S2_sai e1) h9)) (s5 c1 w1 e1 c2 w2 e2) rfl ?_
      refine mW_iastJ dX11_laysTrace_77 (s2k (S2_sai e2) (s2k (S2_sai e1) h5)) (s6 c1 w1 e1 c2 w2 e2) rfl ?_
      refine mW_nm (fun w3 e3 => ?_)
      refine mW_aload_n (j := 0) dX11_laysTrace_78 rfl rfl ?_
      refine mW_getR dX11_laysTrace_79 f_X11_60 (s2k (S2_sai e3) (s2k (S2_sai e2) (s2k (S2_sai e1) h1))) rfl (s2r (S2_sai e3) (s2r (S2_sai e2) (s2r (S2_sai e1) h2))) ?_
      refine mW_sipush (v := 603) dX11_laysTrace_82 (by decide) ?_
      refine mW_iload_n (j := 1) dX11_laysTrace_85 rfl rfl ?_
      refine mW_iadd dX11_laysTrace_86 ?_
      refine mW_aload_n (j := 0) dX11_laysTrace_87 rfl rfl ?_
      refine mW_getR dX11_laysTrace_88 f_X11_51 (s2k (S2_sai e3) (s2k (S2_sai e2) (s2k (S2_sai e1) h1))) rfl (s2r (S2_sai e3) (s2r (S2_sai e2) (s2r (S2_sai e1) h10))) ?_
      refine mW_iload_n (j := 1) dX11_laysTrace_91 rfl rfl ?_
      refine mW_ialdJ dX11_laysTrace_92 (s2k (S2_sai e3) (s2k (S2_sai e2) (s2k (S2_sai e1) h11))) (s7 c1 w1 e1 c2 w2 e2 w3 e3) rfl ?_
      refine mW_iastJ dX11_laysTrace_93 (s2k (S2_sai e3) (s2k (S2_sai e2) (s2k (S2_sai e1) h5))) (s8 c1 w1 e1 c2 w2 e2 w3 e3) rfl ?_
      refine mW_nm (fun w4 e4 => ?_)
      refine mW_aload_n (j := 0) dX11_laysTrace_94 rfl rfl ?_
      refine mW_getR dX11_laysTrace_95 f_X11_60 (s2k (S2_sai e4) (s2k (S2_sai e3) (s2k (S2_sai e2) (s2k (S2_sai e1) h1)))) rfl (s2r (S2_sai e4) (s2r (S2_sai e3) (s2r (S2_sai e2) (s2r (S2_sai e1) h2)))) ?_
      refine mW_sipush (v := 804) dX11_laysTrace_98 (by decide) ?_
      refine mW_iload_n (j := 1) dX11_laysTrace_101 rfl rfl ?_
      refine mW_iadd dX11_laysTrace_102 ?_
      refine mW_aload_n (j := 0) dX11_laysTrace_103 rfl rfl ?_
      refine mW_getR dX11_laysTrace_104 f_X11_54 (s2k (S2_sai e4) (s2k (S2_sai e3) (s2k (S2_sai e2) (s2k (S2_sai e1) h1)))) rfl (s2r (S2_sai e4) (s2r (S2_sai e3) (s2r (S2_sai e2) (s2r (S2_sai e1) h12)))) ?_
      refine mW_iload_n (j := 1) dX11_laysTrace_107 rfl rfl ?_
      refine mW_ialdJ dX11_laysTrace_108 (s2k (S2_sai e4) (s2k (S2_sai e3) (s2k (S2_sai e2) (s2k (S2_sai e1) h13)))) (s9 c1 w1 e1 c2 w2 e2 w3 e3 w4 e4) rfl ?_
      refine mW_iastJ dX11_laysTrace_109 (s2k (S2_sai e4) (s2k (S2_sai e3) (s2k (S2_sai e2) (s2k (S2_sai e1) h5)))) (s10 c1 w1 e1 c2 w2 e2 w3 e3 w4 e4) rfl ?_
      refine mW_nm (fun w5 e5 => ?_)
      refine mW_aload_n (j := 0) dX11_laysTrace_110 rfl rfl ?_
      refine mW_getR dX11_laysTrace_111 f_X11_60 (s2k (S2_sai e5) (s2k (S2_sai e4) (s2k (S2_sai e3) (s2k (S2_sai e2) (s2k (S2_sai e1) h1))))) rfl (s2r (S2_sai e5) (s2r (S2_sai e4) (s2r (S2_sai e3) (s2r (S2_sai e2) (s2r (S2_sai e1) h2))))) ?_
      refine mW_sipush (v := 1005) dX11_laysTrace_114 (by decide) ?_
      refine mW_iload_n (j := 1) dX11_laysTrace_117 rfl rfl ?_
      refine mW_iadd dX11_laysTrace_118 ?_
      refine mW_aload_n (j := 0) dX11_laysTrace_119 rfl rfl ?_
      refine mW_getR dX11_laysTrace_120 f_X11_57 (s2k (S2_sai e5) (s2k (S2_sai e4) (s2k (S2_sai e3) (s2k (S2_sai e2) (s2k (S2_sai e1) h1))))) rfl (s2r (S2_sai e5) (s2r (S2_sai e4) (s2r (S2_sai e3) (s2r (S2_sai e2) (s2r (S2_sai e1) h14))))) ?_
      refine mW_iload_n (j := 1) dX11_laysTrace_123 rfl rfl ?_
      refine mW_ialdJ dX11_laysTrace_124 (s2k (S2_sai e5) (s2k (S2_sai e4) (s2k (S2_sai e3) (s2k (S2_sai e2) (s2k (S2_sai e1) h15))))) (s11 c1 w1 e1 c2 w2 e2 w3 e3 w4 e4 w5 e5) rfl ?_
      refine mW_iastJ dX11_laysTrace_125 (s2k (S2_sai e5) (s2k (S2_sai e4) (s2k (S2_sai e3) (s2k (S2_sai e2) (s2k (S2_sai e1) h5))))) (s12 c1 w1 e1 c2 w2 e2 w3 e3 w4 e4 w5 e5) rfl ?_
      refine mW_nm (fun w6 e6 => ?_)
      refine mW_iinc (j := 1) (v := x1 + 1) (lv2 := [(1, .int (x1 + 1)), (0, .ref a0)]) dX11_laysTrace_126 rfl rfl (by decide) rfl ?_
      refine mW_goto (tgt := 15) dX11_laysTrace_129 (by decide) ?_
      refine mW_loc [1, 0] (lv2 := [(0, .ref a0), (1, .int (x1 + 1))]) rfl ?_
      exact k2 c1 w1 e1 c2 w2 e2 w3 e3 w4 e4 w5 e5 w6 e6
    · refine mW_goto (tgt := 126) dX11_laysTrace_43 (by decide) ?_
      refine mW_iinc (j := 1) (v := x1 + 1) (lv2 := [(1, .int (x1 + 1)), (0, .ref a0)]) dX11_laysTrace_126 rfl rfl (by decide) rfl ?_
      refine mW_goto (tgt := 15) dX11_laysTrace_129 (by decide) ?_
      refine mW_loc [1, 0] (lv2 := [(0, .ref a0), (1, .int (x1 + 1))]) rfl ?_
      exact k3 c1 w1 e1 c2
abbrev mX11_takesTrace : mM := (yX11_takesTrace, cX11_takesTrace, 2, none, [])
set_option maxHeartbeats 4000000 in
set_option maxRecDepth 100000 in
theorem gX11_takesTrace_0 {G : mG} {w : mH} {Φ : mF} {a0 : Nat} (h1 : hk w a0 = (11, 0)) (k1 : ∀ w1 : mH, (w1 = sfi w a0 22 (hfi w a0 26)) → mW G mX11_takesTrace 2 0 0 10 [(0, .ref a0), (1, .int 0)] [] w1 Φ) : mW G mX11_takesTrace 2 0 0 0 [(0, .ref a0)] [] w Φ := by
  refine mW_aload_n (j := 0) dX11_takesTrace_0 rfl rfl ?_
  refine mW_aload_n (j := 0) dX11_takesTrace_1 rfl rfl ?_
  refine mW_get dX11_takesTrace_2 f_X11_239 h1 rfl ?_
  refine mW_put (ty := .int) (w2 := sfi w a0 22 (hfi w a0 26)) dX11_takesTrace_5 p_X11_218 h1 (Nat.le_of_ble_eq_true rfl) (by first | rfl | decide | (repeat' split) <;> rfl) rfl (hN_sfi _ _ _ _) (hk_sfi _ _ _ _) (mE_sfi h1 (by decide) (ob_11_22 _ _ _)) ?_
  refine mW_nm (fun w1 e1 => ?_)
  refine mW_iconst (v := 0) dX11_takesTrace_8 (by decide) ?_
  refine mW_istore_n (lv2 := [(1, .int 0), (0, .ref a0)]) dX11_takesTrace_9 rfl (by decide) rfl ?_
  refine mW_loc [1, 0] (lv2 := [(0, .ref a0), (1, .int 0)]) rfl ?_
  exact k1 w1 e1
set_option maxHeartbeats 4000000 in
set_option maxRecDepth 100000 in
theorem gX11_takesTrace_10 {G : mG} {w : mH} {Φ : mF} {a0 : Nat} {x1 : Int32} {a0_15 a0_27 n_a0_27 n_a0_15 a0_17 n_a0_17 a0_18 n_a0_18 a0_19 n_a0_19 a0_20 n_a0_20 a0_21 n_a0_21 : Nat} (h1 : hk w a0 = (11, 0)) (h2 : hfr w a0 15 = some a0_15) (h3 : hfr w a0 27 = some a0_27) (h4 : hk w a0_27 = (16, n_a0_27)) (s1 : (¬ ((hfi w a0 22) < x1)) → vp_in x1 n_a0_27) (h5 : hk w a0_15 = (16, n_a0_15)) (s2 : (¬ ((hfi w a0 22) < x1)) → vp_in x1 n_a0_15) (h6 : hfr w a0 17 = some a0_17) (s3 : (¬ ((hfi w a0 22) < x1)) → ∀ w1 : mH, (w1 = sai w a0_15 x1.toNatClampNeg (hai w a0_27 x1.toNatClampNeg)) → (¬ (x1 = (hfi w a0 22))) → vp_in (201 + x1) n_a0_27) (h7 : hk w a0_17 = (16, n_a0_17)) (s4 : (¬ ((hfi w a0 22) < x1)) → ∀ w1 : mH, (w1 = sai w a0_15 x1.toNatClampNeg (hai w a0_27 x1.toNatClampNeg)) → (¬ (x1 = (hfi w a0 22))) → vp_in x1 n_a0_17) (h8 : hfr w a0 18 = some a0_18) (s5 : (¬ ((hfi w a0 22) < x1)) → ∀ w1 : mH, (w1 = sai w a0_15 x1.toNatClampNeg (hai w a0_27 x1.toNatClampNeg)) → (¬ (x1 = (hfi w a0 22))) → ∀ w2 : mH, (w2 = sai w1 a0_17 x1.toNatClampNeg (hai w1 a0_27 ((201 + x1).toNatClampNeg))) → vp_in (402 + x1) n_a0_27) (h9 : hk w a0_18 = (16, n_a0_18)) (s6 : (¬ ((hfi w a0 22) < x1)) → ∀ w1 : mH, (w1 = sai w a0_15 x1.toNatClampNeg (hai w a0_27 x1.toNatClampNeg)) → (¬ (x1 = (hfi w a0 22))) → ∀ w2 : mH, (w2 = sai w1 a0_17 x1.toNatClampNeg (hai w1 a0_27 ((201 + x1).toNatClampNeg))) → vp_in x1 n_a0_18) (h10 : hfr w a0 19 = some a0_19) (s7 : (¬ ((hfi w a0 22) < x1)) → ∀ w1 : mH, (w1 = sai w a0_15 x1.toNatClampNeg (hai w a0_27 x1.toNatClampNeg)) → (¬ (x1 = (hfi w a0 22))) → ∀ w2 : mH, (w2 = sai w1 a0_17 x1.toNatClampNeg (hai w1 a0_27 ((201 + x1).toNatClampNeg))) → ∀ w3 : mH, (w3 = sai w2 a0_18 x1.toNatClampNeg (hai w2 a0_27 ((402 + x1).toNatClampNeg))) → vp_in (603 + x1) n_a0_27) (h11 : hk w a0_19 = (16, n_a0_19)) (s8 : (¬ ((hfi w a0 22) < x1)) → ∀ w1 : mH, (w1 = sai w a0_15 x1.toNatClampNeg (hai w a0_27 x1.toNatClampNeg)) → (¬ (x1 = (hfi w a0 22))) → ∀ w2 : mH, (w2 = sai w1 a0_17 x1.toNatClampNeg (hai w1 a0_27 ((201 + x1).toNatClampNeg))) → ∀ w3 : mH, (w3 = sai w2 a0_18 x1.toNatClampNeg (hai w2 a0_27 ((402 + x1).toNatClampNeg))) → vp_in x1 n_a0_19) (h12 : hfr w a0 20 = some a0_20) (s9 : (¬ ((hfi w a0 22) < x1)) → ∀ w1 : mH, (w1 = sai w a0_15 x1.toNatClampNeg (hai w a0_27 x1.toNatClampNeg)) → (¬ (x1 = (hfi w a0 22))) → ∀ w2 : mH, (w2 = sai w1 a0_17 x1.toNatClampNeg (hai w1 a0_27 ((201 + x1).toNatClampNeg))) → ∀ w3 : mH, (w3 = sai w2 a0_18 x1.toNatClampNeg (hai w2 a0_27 ((402 + x1).toNatClampNeg))) → ∀ w4 : mH, (w4 = sai w3 a0_19 x1.toNatClampNeg (hai w3 a0_27 ((603 + x1).toNatClampNeg))) → vp_in (804 + x1) n_a0_27) (h13 : hk w a0_20 = (16, n_a0_20)) (s10 : (¬ ((hfi w a0 22) < x1)) → ∀ w1 : mH, (w1 = sai w a0_15 x1.toNatClampNeg (hai w a0_27 x1.toNatClampNeg)) → (¬ (x1 = (hfi w a0 22))) → ∀ w2 : mH, (w2 = sai w1 a0_17 x1.toNatClampNeg (hai w1 a0_27 ((201 + x1).toNatClampNeg))) → ∀ w3 : mH, (w3 = sai w2 a0_18 x1.toNatClampNeg (hai w2 a0_27 ((402 + x1).toNatClampNeg))) → ∀ w4 : mH, (w4 = sai w3 a0_19 x1.toNatClampNeg (hai w3 a0_27 ((603 + x1).toNatClampNeg))) → vp_in x1 n_a0_20) (h14 : hfr w a0 21 = some a0_21) (s11 : (¬ ((hfi w a0 22) < x1)) → ∀ w1 : mH, (w1 = sai w a0_15 x1.toNatClampNeg (hai w a0_27 x1.toNatClampNeg)) → (¬ (x1 = (hfi w a0 22))) → ∀ w2 : mH, (w2 = sai w1 a0_17 x1.toNatClampNeg (hai w1 a0_27 ((201 + x1).toNatClampNeg))) → ∀ w3 : mH, (w3 = sai w2 a0_18 x1.toNatClampNeg (hai w2 a0_27 ((402 + x1).toNatClampNeg))) → ∀ w4 : mH, (w4 = sai w3 a0_19 x1.toNatClampNeg (hai w3 a0_27 ((603 + x1).toNatClampNeg))) → ∀ w5 : mH, (w5 = sai w4 a0_20 x1.toNatClampNeg (hai w4 a0_27 ((804 + x1).toNatClampNeg))) → vp_in (1005 + x1) n_a0_27) (h15 : hk w a0_21 = (16, n_a0_21)) (s12 : (¬ ((hfi w a0 22) < x1)) → ∀ w1 : mH, (w1 = sai w a0_15 x1.toNatClampNeg (hai w a0_27 x1.toNatClampNeg)) → (¬ (x1 = (hfi w a0 22))) → ∀ w2 : mH, (w2 = sai w1 a0_17 x1.toNatClampNeg (hai w1 a0_27 ((201 + x1).toNatClampNeg))) → ∀ w3 : mH, (w3 = sai w2 a0_18 x1.toNatClampNeg (hai w2 a0_27 ((402 + x1).toNatClampNeg))) → ∀ w4 : mH, (w4 = sai w3 a0_19 x1.toNatClampNeg (hai w3 a0_27 ((603 + x1).toNatClampNeg))) → ∀ w5 : mH, (w5 = sai w4 a0_20 x1.toNatClampNeg (hai w4 a0_27 ((804 + x1).toNatClampNeg))) → vp_in x1 n_a0_21) (k1 : ((hfi w a0 22) < x1) → Φ (.inl none) w) (k2 : (¬ ((hfi w a0 22) < x1)) → ∀ w1 : mH, (w1 = sai w a0_15 x1.toNatClampNeg (hai w a0_27 x1.toNatClampNeg)) → (¬ (x1 = (hfi w a0 22))) → ∀ w2 : mH, (w2 = sai w1 a0_17 x1.toNatClampNeg (hai w1 a0_27 ((201 + x1).toNatClampNeg))) → ∀ w3 : mH, (w3 = sai w2 a0_18 x1.toNatClampNeg (hai w2 a0_27 ((402 + x1).toNatClampNeg))) → ∀ w4 : mH, (w4 = sai w3 a0_19 x1.toNatClampNeg (hai w3 a0_27 ((603 + x1).toNatClampNeg))) → ∀ w5 : mH, (w5 = sai w4 a0_20 x1.toNatClampNeg (hai w4 a0_27 ((804 + x1).toNatClampNeg))) → ∀ w6 : mH, (w6 = sai w5 a0_21 x1.toNatClampNeg (hai w5 a0_27 ((1005 + x1).toNatClampNeg))) → mW G mX11_takesTrace 2 0 0 10 [(0, .ref a0), (1, .int (x1 + 1))] [] w6 Φ) (k3 : (¬ ((hfi w a0 22) < x1)) → ∀ w1 : mH, (w1 = sai w a0_15 x1.toNatClampNeg (hai w a0_27 x1.toNatClampNeg)) → (x1 = (hfi w a0 22)) → mW G mX11_takesTrace 2 0 0 10 [(0, .ref a0), (1, .int (x1 + 1))] [] w1 Φ) : mW G mX11_takesTrace 2 0 0 10 [(0, .ref a0), (1, .int x1)] [] w Φ := by
  refine mW_iload_n (j := 1) dX11_takesTrace_10 rfl rfl ?_
  refine mW_aload_n (j := 0) dX11_takesTrace_11 rfl rfl ?_
  refine mW_get dX11_takesTrace_12 f_X11_218 h1 rfl ?_
  refine mW_icmp_gt (tgt := 127) dX11_takesTrace_15 (by decide) (fun c1 => ?_) (fun c1 => ?_)
  · exact mW_vret dX11_takesTrace_127 rfl (k1 c1)
  · refine mW_aload_n (j := 0) dX11_takesTrace_18 rfl rfl ?_
    refine mW_getR dX11_takesTrace_19 f_X11_39 h1 rfl h2 ?_
    refine mW_iload_n (j := 1) dX11_takesTrace_22 rfl rfl ?_
    refine mW_aload_n (j := 0) dX11_takesTrace_23 rfl rfl ?_
    refine mW_getR dX11_takesTrace_24 f_X11_60 h1 rfl h3 ?_
    refine mW_iload_n (j := 1) dX11_takesTrace_27 rfl rfl ?_
    refine mW_ialdJ dX11_takesTrace_28 h4 (s1 c1) rfl ?_
    refine mW_iastJ dX11_takesTrace_29 h5 (s2 c1) rfl ?_
    refine mW_nm (fun w1 e1 => ?_)
    refine mW_iload_n (j := 1) dX11_takesTrace_30 rfl rfl ?_
    refine mW_aload_n (j := 0) dX11_takesTrace_31 rfl rfl ?_
    refine mW_getL (v := hfi w a0 22) dX11_takesTrace_32 f_X11_218 (s2k (S2_sai e1) h1) rfl (by rw [e1, e_hfi_sai]) ?_
    refine mW_icmp_ne (tgt := 41) dX11_takesTrace_35 (by decide) (fun c2 => ?_) (fun c2 => ?_)
    · refine mW_aload_n (j := 0) dX11_takesTrace_41 rfl rfl ?_
      refine mW_getR dX11_takesTrace_42 f_X11_45 (s2k (S2_sai e1) h1) rfl (s2r (S2_sai e1) h6) ?_
      refine mW_iload_n (j := 1) dX11_takesTrace_45 rfl rfl ?_
      refine mW_aload_n (j := 0) dX11_takesTrace_46 rfl rfl ?_
      refine mW_getR dX11_takesTrace_47 f_X11_60 (s2k (S2_sai e1) h1) rfl (s2r (S2_sai e1) h3) ?_
      refine mW_sipush (v := 201) dX11_takesTrace_50 (by decide) ?_
      refine mW_iload_n (j := 1) dX11_takesTrace_53 rfl rfl ?_
      refine mW_iadd dX11_takesTrace_54 ?_
      refine mW_ialdJ dX11_takesTrace_55 (s2k (S2_sai e1) h4) (s3 c1 w1 e1 c2) rfl ?_
      refine mW_iastJ dX11_takesTrace_56 (s2k (S2_sai e1) h7) (s4 c1 w1 e1 c2) rfl ?_
      refine mW_nm (fun w2 e2 => ?_)
      refine mW_aload_n (j := 0) dX11_takesTrace_57 rfl rfl ?_
      refine mW_getR dX11_takesTrace_58 f_X11_48 (s2k (S2_sai e2) (s2k (S2_sai e1) h1)) rfl (s2r (S2_sai e2) (s2r (S2_sai e1) h8)) ?_
      refine mW_iload_n (j := 1) dX11_takesTrace_61 rfl rfl ?_
      refine mW_aload_n (j := 0) dX11_takesTrace_62 rfl rfl ?_
      refine mW_getR dX11_takesTrace_63 f_X11_60 (s2k (S2_sai e2) (s2k (S2_sai e1) h1)) rfl (s2r (S2_sai e2) (s2r (S2_sai e1) h3)) ?_
      refine mW_sipush (v := 402) dX11_takesTrace_66 (by decide) ?_
      refine mW_iload_n (j := 1) dX11_takesTrace_69 rfl rfl ?_
      refine mW_iadd dX11_takesTrace_70 ?_
      refine mW_ialdJ dX11_takesTrace_71 (s2k (S2_sai e2) (s2k (S2_sai e1) h4)) (s5 c1 w1 e1 c2 w2 e2) rfl ?_
      refine mW_iastJ dX11_takesTrace_72 (s2k (S2_sai e2) (s2k (S2_sai e1) h9)) (s6 c1 w1 e1 c2 w2 e2) rfl ?_
      refine mW_nm (fun w3 e3 => ?_)
      refine mW_aload_n (j := 0) dX11_takesTrace_73 rfl rfl ?_
      refine mW_getR dX11_takesTrace_74 f_X11_51 (s2k (S2_sai e3) (s2k (S2_sai e2) (s2k (S2_sai e1) h1))) rfl (s2r (S2_sai e3) (s2r (S2_sai e2) (s2r (S2_sai e1) h10))) ?_
      refine mW_iload_n (j := 1) dX11_takesTrace_77 rfl rfl ?_
      refine mW_aload_n (j := 0) dX11_takesTrace_78 rfl rfl ?_
      refine mW_getR dX11_takesTrace_79 f_X11_60 (s2k (S2_sai e3) (s2k (S2_sai e2) (s2k (S2_sai e1) h1))) rfl (s2r (S2_sai e3) (s2r (S2_sai e2) (s2r (S2_sai e1) h3))) ?_
      refine mW_sipush (v := 603) dX11_takesTrace_82 (by decide) ?_
      refine mW_iload_n (j := 1) dX11_takesTrace_85 rfl rfl ?_
      refine mW_iadd dX11_takesTrace_86 ?_
      refine mW_ialdJ dX11_takesTrace_87 (s2k (S2_sai e3) (s2k (S2_sai e2) (s2k (S2_sai e1) h4))) (s7 c1 w1 e1 c2 w2 e2 w3 e3) rfl ?_
      refine mW_iastJ dX11_takesTrace_88 (s2k (S2_sai e3) (s2k (S2_sai e2) (s2k (S2_sai e1) h11))) (s8 c1 w1 e1 c2 w2 e2 w3 e3) rfl ?_
      refine mW_nm (fun w4 e4 => ?_)
      refine mW_aload_n (j := 0) dX11_takesTrace_89 rfl rfl ?_
      refine mW_getR dX11_takesTrace_90 f_X11_54 (s2k (S2_sai e4) (s2k (S2_sai e3) (s2k (S2_sai e2) (s2k (S2_sai e1) h1)))) rfl (s2r (S2_sai e4) (s2r (S2_sai e3) (s2r (S2_sai e2) (s2r (S2_sai e1) h12)))) ?_
      refine mW_iload_n (j := 1) dX11_takesTrace_93 rfl rfl ?_
      refine mW_aload_n (j := 0) dX11_takesTrace_94 rfl rfl ?_
      refine mW_getR dX11_takesTrace_95 f_X11_60 (s2k (S2_sai e4) (s2k (S2_sai e3) (s2k (S2_sai e2) (s2k (S2_sai e1) h1)))) rfl (s2r (S2_sai e4) (s2r (S2_sai e3) (s2r (S2_sai e2) (s2r (S2_sai e1) h3)))) ?_
      refine mW_sipush (v := 804) dX11_takesTrace_98 (by decide) ?_
      refine mW_iload_n (j := 1) dX11_takesTrace_101 rfl rfl ?_
      refine mW_iadd dX11_takesTrace_102 ?_
      refine mW_ialdJ dX11_takesTrace_103 (s2k (S2_sai e4) (s2k (S2_sai e3) (s2k (S2_sai e2) (s2k (S2_sai e1) h4)))) (s9 c1 w1 e1 c2 w2 e2 w3 e3 w4 e4) rfl ?_
      refine mW_iastJ dX11_takesTrace_104 (s2k (S2_sai e4) (s2k (S2_sai e3) (s2k (S2_sai e2) (s2k (S2_sai e1) h13)))) (s10 c1 w1 e1 c2 w2 e2 w3 e3 w4 e4) rfl ?_
      refine mW_nm (fun w5 e5 => ?_)
      refine mW_aload_n (j := 0) dX11_takesTrace_105 rfl rfl ?_
      refine mW_getR dX11_takesTrace_106 f_X11_57 (s2k (S2_sai e5) (s2k (S2_sai e4) (s2k (S2_sai e3) (s2k (S2_sai e2) (s2k (S2_sai e1) h1))))) rfl (s2r (S2_sai e5) (s2r (S2_sai e4) (s2r (S2_sai e3) (s2r (S2_sai e2) (s2r (S2_sai e1) h14))))) ?_
      refine mW_iload_n (j := 1) dX11_takesTrace_109 rfl rfl ?_
      refine mW_aload_n (j := 0) dX11_takesTrace_110 rfl rfl ?_
      refine mW_getR dX11_takesTrace_111 f_X11_60 (s2k (S2_sai e5) (s2k (S2_sai e4) (s2k (S2_sai e3) (s2k (S2_sai e2) (s2k (S2_sai e1) h1))))) rfl (s2r (S2_sai e5) (s2r (S2_sai e4) (s2r (S2_sai e3) (s2r (S2_sai e2) (s2r (S2_sai e1) h3))))) ?_
      refine mW_sipush (v := 1005) dX11_takesTrace_114 (by decide) ?_
      refine mW_iload_n (j := 1) dX11_takesTrace_117 rfl rfl ?_
      refine mW_iadd dX11_takesTrace_118 ?_
      refine mW_ialdJ dX11_takesTrace_119 (s2k (S2_sai e5) (s2k (S2_sai e4) (s2k (S2_sai e3) (s2k (S2_sai e2) (s2k (S2_sai e1) h4))))) (s11 c1 w1 e1 c2 w2 e2 w3 e3 w4 e4 w5 e5) rfl ?_
      refine mW_iastJ dX11_takesTrace_120 (s2k (S2_sai e5) (s2k (S2_sai e4) (s2k (S2_sai e3) (s2k (S2_sai e2) (s2k (S2_sai e1) h15))))) (s12 c1 w1 e1 c2 w2 e2 w3 e3 w4 e4 w5 e5) rfl ?_
      refine mW_nm (fun w6 e6 => ?_)
      refine mW_iinc (j := 1) (v := x1 + 1) (lv2 := [(1, .int (x1 + 1)), (0, .ref a0)]) dX11_takesTrace_121 rfl rfl (by decide) rfl ?_
      refine mW_goto (tgt := 10) dX11_takesTrace_124 (by decide) ?_
      refine mW_loc [1, 0] (lv2 := [(0, .ref a0), (1, .int (x1 + 1))]) rfl ?_
      exact k2 c1 w1 e1 c2 w2 e2 w3 e3 w4 e4 w5 e5 w6 e6
    · refine mW_goto (tgt := 121) dX11_takesTrace_38 (by decide) ?_
      refine mW_iinc (j := 1) (v := x1 + 1) (lv2 := [(1, .int (x1 + 1)), (0, .ref a0)]) dX11_takesTrace_121 rfl rfl (by decide) rfl ?_
      refine mW_goto (tgt := 10) dX11_takesTrace_124 (by decide) ?_
      refine mW_loc [1, 0] (lv2 := [(0, .ref a0), (1, .int (x1 + 1))]) rfl ?_
      exact k3 c1 w1 e1 c2
/-! the reference: laysTrace, takesTrace -/
/-- the rows of a run hold the trace T -/
def wT (w : mH) (a : Nat) (T : Nat → Nat → Int32) (t e : Nat) : Prop := (∀ j, j < e → hai w (a + 8) j = T 0 j) ∧ (∀ j, j < t → hai w (a + 10) j = T 1 j) ∧ (∀ j, j < t → hai w (a + 11) j = T 2 j) ∧ (∀ j, j < t → hai w (a + 12) j = T 3 j) ∧ (∀ j, j < t → hai w (a + 13) j = T 4 j) ∧ ∀ j, j < t → hai w (a + 14) j = T 5 j
/-- a row holds the trace T in lanes -/
def zL (R : Nat → Int32) (T : Nat → Nat → Int32) (t e : Nat) : Prop := (∀ j, j < e → R j = T 0 j) ∧ (∀ j, j < t → R (201 + j) = T 1 j) ∧ (∀ j, j < t → R (402 + j) = T 2 j) ∧ (∀ j, j < t → R (603 + j) = T 3 j) ∧ (∀ j, j < t → R (804 + j) = T 4 j) ∧ ∀ j, j < t → R (1005 + j) = T 5 j
theorem up6 (f : Nat → Int32) {t : Nat} (v0 v1 v2 v3 v4 v5 : Int32) (ht : t < 200) {j : Nat} (hj : j ≤ t) : (upd (upd (upd (upd (upd (upd f t v0) (201 + t) v1) (402 + t) v2) (603 + t) v3) (804 + t) v4) (1005 + t) v5) j = (if j = t then v0 else f j) ∧ (upd (upd (upd (upd (upd (upd f t v0) (201 + t) v1) (402 + t) v2) (603 + t) v3) (804 + t) v4) (1005 + t) v5) (201 + j) = (if j = t then v1 else f (201 + j)) ∧ (upd (upd (upd (upd (upd (upd f t v0) (201 + t) v1) (402 + t) v2) (603 + t) v3) (804 + t) v4) (1005 + t) v5) (402 + j) = (if j = t then v2 else f (402 + j)) ∧ (upd (upd (upd (upd (upd (upd f t v0) (201 + t) v1) (402 + t) v2) (603 + t) v3) (804 + t) v4) (1005 + t) v5) (603 + j) = (if j = t then v3 else f (603 + j)) ∧ (upd (upd (upd (upd (upd (upd f t v0) (201 + t) v1) (402 + t) v2) (603 + t) v3) (804 + t) v4) (1005 + t) v5) (804 + j) = (if j = t then v4 else f (804 + j)) ∧ (upd (upd (upd (upd (upd (upd f t v0) (201 + t) v1) (402 + t) v2) (603 + t) v3) (804 + t) v4) (1005 + t) v5) (1005 + j) = (if j = t then v5 else f (1005 + j)) := by
  unfold upd
  by_cases h : j = t
  · subst h
    refine ⟨?_, ?_, ?_, ?_, ?_, ?_⟩ <;> (repeat' split) <;> first | rfl | omega
  · refine ⟨?_, ?_, ?_, ?_, ?_, ?_⟩ <;> (repeat' split) <;> first | rfl | omega
theorem zL_s {R R' : Nat → Int32} {T : Nat → Nat → Int32} {t : Nat} (h : zL R T t t) (ht : t < 200) (e : R' = upd (upd (upd (upd (upd (upd R t (T 0 t)) (201 + t) (T 1 t)) (402 + t) (T 2 t)) (603 + t) (T 3 t)) (804 + t) (T 4 t)) (1005 + t) (T 5 t)) : zL R' T (t + 1) (t + 1) := by
  obtain ⟨h0, h1, h2, h3, h4, h5⟩ := h
  refine ⟨fun j hj => ?_, fun j hj => ?_, fun j hj => ?_, fun j hj => ?_, fun j hj => ?_, fun j hj => ?_⟩ <;> obtain ⟨q0, q1, q2, q3, q4, q5⟩ := up6 R (T 0 t) (T 1 t) (T 2 t) (T 3 t) (T 4 t) (T 5 t) ht (show j ≤ t by omega)
  · rw [e, q0]; split
    · rename_i q; rw [q]
    · exact h0 j (by omega)
  · rw [e, q1]; split
    · rename_i q; rw [q]
    · exact h1 j (by omega)
  · rw [e, q2]; split
    · rename_i q; rw [q]
    · exact h2 j (by omega)
  · rw [e, q3]; split
    · rename_i q; rw [q]
    · exact h3 j (by omega)
  · rw [e, q4]; split
    · rename_i q; rw [q]
    · exact h4 j (by omega)
  · rw [e, q5]; split
    · rename_i q; rw [q]
    · exact h5 j (by omega)
theorem zL_e {R R' : Nat → Int32} {T : Nat → Nat → Int32} {N : Nat} (h : zL R T N N) (hN : N ≤ 200) (e : R' = upd R N (T 0 N)) : zL R' T N (N + 1) := by
  obtain ⟨h0, h1, h2, h3, h4, h5⟩ := h
  refine ⟨upd_s e h0 rfl, fun j hj => ?_, fun j hj => ?_, fun j hj => ?_, fun j hj => ?_, fun j hj => ?_⟩
  · rw [e, upd_ne (by omega)]; exact h1 j hj
  · rw [e, upd_ne (by omega)]; exact h2 j hj
  · rw [e, upd_ne (by omega)]; exact h3 j hj
  · rw [e, upd_ne (by omega)]; exact h4 j hj
  · rw [e, upd_ne (by omega)]; exact h5 j hj
theorem lay_step {G : mG} {w : mH} {a0 N t : Nat} {Φ : mF} (z : zRef w a0) (hN : hfi w a0 22 = nI N) (h200 : N ≤ 200) (ht : t ≤ N + 1) (hE : t = N + 1 → Φ (.inl none) w)
    (hL : t = N → ∀ w', xF [] [15] a0 w w' → hai w' (a0 + 15) = upd (hai w (a0 + 15)) t (hai w (a0 + 8) t) → mW G mX11_laysTrace 2 0 0 15 [(0, .ref a0), (1, .int (nI (t + 1)))] [] w' Φ)
    (hC : t < N → ∀ w', xF [] [15] a0 w w' → hai w' (a0 + 15) = upd (upd (upd (upd (upd (upd (hai w (a0 + 15)) t (hai w (a0 + 8) t)) (201 + t) (hai w (a0 + 10) t)) (402 + t) (hai w (a0 + 11) t)) (603 + t) (hai w (a0 + 12) t)) (804 + t) (hai w (a0 + 13) t)) (1005 + t) (hai w (a0 + 14) t) → mW G mX11_laysTrace 2 0 0 15 [(0, .ref a0), (1, .int (nI (t + 1)))] [] w' Φ) : mW G mX11_laysTrace 2 0 0 15 [(0, .ref a0), (1, .int (nI t))] [] w Φ := by
  refine gX11_laysTrace_15 (a0_27 := a0 + 15) (a0_15 := a0 + 8) (a0_17 := a0 + 10) (a0_18 := a0 + 11) (a0_19 := a0 + 12) (a0_20 := a0 + 13) (a0_21 := a0 + 14) z.1 z.2.2.2.2.2.2.2.2.2.2.2.2.2.2.2.1 z.2.2.2.2.2.2.2.2.1 z.2.2.2.2.2.2.2.2.2.2.2.2.2.2.2.2.2.2.2.2.2.2.2.2.2.2.2.2.2.1 (by intro c1; rw [hN] at c1; rw [m_lt (by omega) (by omega)] at c1; exact m_vp (by omega) (by decide)) z.2.2.2.2.2.2.2.2.2.2.2.2.2.2.2.2.2.2.2.2.2.2.2.2.2.2.2.2.2.2.2.2.2.2.2.2.1 (by intro c1; rw [hN] at c1; rw [m_lt (by omega) (by omega)] at c1; exact m_vp (by omega) (by decide)) z.2.2.2.2.2.2.2.2.2.2.1 z.2.2.2.2.2.2.2.2.2.2.2.2.2.2.2.2.2.2.2.2.2.2.2.2.2.2.2.2.2.2.2.1 (by intro c1 w1 e1 c2; have c3 : t ≠ N := fun q => c2 (by rw [hN, q]); rw [hN] at c1; rw [m_lt (by omega) (by omega)] at c1; exact m_vp (by omega) (by decide)) (by intro c1 w1 e1 c2; have c3 : t ≠ N := fun q => c2 (by rw [hN, q]); rw [show (201 : Int32) = nI 201 from rfl, nI_add]; rw [hN] at c1; rw [m_lt (by omega) (by omega)] at c1; exact m_vp (by omega) (by decide)) z.2.2.2.2.2.2.2.2.2.2.2.1 z.2.2.2.2.2.2.2.2.2.2.2.2.2.2.2.2.2.2.2.2.2.2.2.2.2.2.2.2.2.2.2.2.1 (by intro c1 w1 e1 c2 w2 e2; have c3 : t ≠ N := fun q => c2 (by rw [hN, q]); rw [hN] at c1; rw [m_lt (by omega) (by omega)] at c1; exact m_vp (by omega) (by decide)) (by intro c1 w1 e1 c2 w2 e2; have c3 : t ≠ N := fun q => c2 (by rw [hN, q]); rw [show (402 : Int32) = nI 402 from rfl, nI_add]; rw [hN] at c1; rw [m_lt (by omega) (by omega)] at c1; exact m_vp (by omega) (by decide)) z.2.2.2.2.2.2.2.2.2.2.2.2.1 z.2.2.2.2.2.2.2.2.2.2.2.2.2.2.2.2.2.2.2.2.2.2.2.2.2.2.2.2.2.2.2.2.2.1 (by intro c1 w1 e1 c2 w2 e2 w3 e3; have c3 : t ≠ N := fun q => c2 (by rw [hN, q]); rw [hN] at c1; rw [m_lt (by omega) (by omega)] at c1; exact m_vp (by omega) (by decide)) (by intro c1 w1 e1 c2 w2 e2 w3 e3; have c3 : t ≠ N := fun q => c2 (by rw [hN, q]); rw [show (603 : Int32) = nI 603 from rfl, nI_add]; rw [hN] at c1; rw [m_lt (by omega) (by omega)] at c1; exact m_vp (by omega) (by decide)) z.2.2.2.2.2.2.2.2.2.2.2.2.2.1 z.2.2.2.2.2.2.2.2.2.2.2.2.2.2.2.2.2.2.2.2.2.2.2.2.2.2.2.2.2.2.2.2.2.2.1 (by intro c1 w1 e1 c2 w2 e2 w3 e3 w4 e4; have c3 : t ≠ N := fun q => c2 (by rw [hN, q]); rw [hN] at c1; rw [m_lt (by omega) (by omega)] at c1; exact m_vp (by omega) (by decide)) (by intro c1 w1 e1 c2 w2 e2 w3 e3 w4 e4; have c3 : t ≠ N := fun q => c2 (by rw [hN, q]); rw [show (804 : Int32) = nI 804 from rfl, nI_add]; rw [hN] at c1; rw [m_lt (by omega) (by omega)] at c1; exact m_vp (by omega) (by decide)) z.2.2.2.2.2.2.2.2.2.2.2.2.2.2.1 z.2.2.2.2.2.2.2.2.2.2.2.2.2.2.2.2.2.2.2.2.2.2.2.2.2.2.2.2.2.2.2.2.2.2.2.1 (by intro c1 w1 e1 c2 w2 e2 w3 e3 w4 e4 w5 e5; have c3 : t ≠ N := fun q => c2 (by rw [hN, q]); rw [hN] at c1; rw [m_lt (by omega) (by omega)] at c1; exact m_vp (by omega) (by decide)) (by intro c1 w1 e1 c2 w2 e2 w3 e3 w4 e4 w5 e5; have c3 : t ≠ N := fun q => c2 (by rw [hN, q]); rw [show (1005 : Int32) = nI 1005 from rfl, nI_add]; rw [hN] at c1; rw [m_lt (by omega) (by omega)] at c1; exact m_vp (by omega) (by decide)) ?_ ?_ ?_
  · intro c1
    rw [hN, m_lt (by omega) (by omega)] at c1
    exact hE (by omega)
  · intro c1 w1 e1 c2 w2 e2 w3 e3 w4 e4 w5 e5 w6 e6
    rw [hN, m_lt (by omega) (by omega)] at c1
    rw [hN] at c2
    have c3 : t ≠ N := fun q => c2 (by rw [q])
    have i201 : ((201 : Int32) + nI t).toNatClampNeg = 201 + t := by rw [show (201 : Int32) = nI 201 from rfl, nI_add]; exact m_cl (by omega)
    have i402 : ((402 : Int32) + nI t).toNatClampNeg = 402 + t := by rw [show (402 : Int32) = nI 402 from rfl, nI_add]; exact m_cl (by omega)
    have i603 : ((603 : Int32) + nI t).toNatClampNeg = 603 + t := by rw [show (603 : Int32) = nI 603 from rfl, nI_add]; exact m_cl (by omega)
    have i804 : ((804 : Int32) + nI t).toNatClampNeg = 804 + t := by rw [show (804 : Int32) = nI 804 from rfl, nI_add]; exact m_cl (by omega)
    have i1005 : ((1005 : Int32) + nI t).toNatClampNeg = 1005 + t := by rw [show (1005 : Int32) = nI 1005 from rfl, nI_add]; exact m_cl (by omega)
    rw [m_cl (by omega)] at e1
    rw [i201, m_cl (by omega)] at e2
    rw [i402, m_cl (by omega)] at e3
    rw [i603, m_cl (by omega)] at e4
    rw [i804, m_cl (by omega)] at e5
    rw [i1005, m_cl (by omega)] at e6
    have g1 : hai w1 (a0 + 10) = hai w (a0 + 10) := by rw [e1, e_hai_sai, up2_a _ _ _ (by omega)]
    have g2 : hai w2 (a0 + 11) = hai w (a0 + 11) := by rw [e2, e_hai_sai, up2_a _ _ _ (by omega), e1, e_hai_sai, up2_a _ _ _ (by omega)]
    have g3 : hai w3 (a0 + 12) = hai w (a0 + 12) := by rw [e3, e_hai_sai, up2_a _ _ _ (by omega), e2, e_hai_sai, up2_a _ _ _ (by omega), e1, e_hai_sai, up2_a _ _ _ (by omega)]
    have g4 : hai w4 (a0 + 13) = hai w (a0 + 13) := by rw [e4, e_hai_sai, up2_a _ _ _ (by omega), e3, e_hai_sai, up2_a _ _ _ (by omega), e2, e_hai_sai, up2_a _ _ _ (by omega), e1, e_hai_sai, up2_a _ _ _ (by omega)]
    have g5 : hai w5 (a0 + 14) = hai w (a0 + 14) := by rw [e5, e_hai_sai, up2_a _ _ _ (by omega), e4, e_hai_sai, up2_a _ _ _ (by omega), e3, e_hai_sai, up2_a _ _ _ (by omega), e2, e_hai_sai, up2_a _ _ _ (by omega), e1, e_hai_sai, up2_a _ _ _ (by omega)]
    rw [g1] at e2
    rw [g2] at e3
    rw [g3] at e4
    rw [g4] at e5
    rw [g5] at e6
    rw [nI_1]
    exact hC (by omega) w6 (by rw [e6, e5, e4, e3, e2, e1]; exact xF_sai (xF_sai (xF_sai (xF_sai (xF_sai (xF_sai xF.rf (by decide)) (by decide)) (by decide)) (by decide)) (by decide)) (by decide)) (by rw [e6, e_hai_sai, up2_row, e5, e_hai_sai, up2_row, e4, e_hai_sai, up2_row, e3, e_hai_sai, up2_row, e2, e_hai_sai, up2_row, e1, e_hai_sai, up2_row])
  · intro c1 w1 e1 c2
    rw [hN] at c2
    have c3 : t = N := by have := congrArg Int32.toNatClampNeg c2; rwa [m_cl (by omega), m_cl (by omega)] at this
    rw [m_cl (by omega)] at e1
    rw [nI_1]
    exact hL c3 w1 (by rw [e1]; exact xF_sai xF.rf (by decide)) (by rw [e1, e_hai_sai, up2_row])
theorem lay_loop {G : mG} {w0 : mH} {a0 N : Nat} {T : Nat → Nat → Int32} {Φ : mF} (z : zRef w0 a0) (hN : hfi w0 a0 22 = nI N) (h200 : N ≤ 200) (W : wT w0 a0 T N (N + 1)) (hΦ : ∀ w', xF [] [15] a0 w0 w' → zL (hai w' (a0 + 15)) T N (N + 1) → Φ (.inl none) w') :
    ∀ j t w, t + j = N + 1 → xF [] [15] a0 w0 w → (t ≤ N → zL (hai w (a0 + 15)) T t t) → (t = N + 1 → zL (hai w (a0 + 15)) T N (N + 1)) → mW G mX11_laysTrace 2 0 0 15 [(0, .ref a0), (1, .int (nI t))] [] w Φ := by
  intro j
  induction j with
  | zero =>
    intro t w ht F _ R
    exact lay_step (zRef_s2 (mS2.of F.1) z) ((F.fi (by decide)).trans hN) h200 (by omega) (fun _ => hΦ w F (R (by omega))) (fun q => absurd q (by omega)) (fun q => absurd q (by omega))
  | succ j ih =>
    intro t w ht F R _
    obtain ⟨W0, W1, W2, W3, W4, W5⟩ := W
    refine lay_step (zRef_s2 (mS2.of F.1) z) ((F.fi (by decide)).trans hN) h200 (by omega) (fun q => absurd q (by omega)) (fun q w' F' er => ?_) (fun q w' F' er => ?_)
    · rw [F.ai (i := 8) (by decide), W0 t (by omega)] at er
      subst q
      exact ih (t + 1) w' (by omega) (F.tr F') (fun q => absurd q (by omega)) (fun _ => zL_e (R (by omega)) h200 er)
    · rw [F.ai (i := 8) (by decide), F.ai (i := 10) (by decide), F.ai (i := 11) (by decide), F.ai (i := 12) (by decide), F.ai (i := 13) (by decide), F.ai (i := 14) (by decide), W0 t (by omega), W1 t (by omega), W2 t (by omega), W3 t (by omega), W4 t (by omega), W5 t (by omega)] at er
      exact ih (t + 1) w' (by omega) (F.tr F') (fun _ => zL_s (R (by omega)) (by omega) er) (fun q => absurd q (by omega))
theorem rX11_laysTrace {G : mG} {w : mH} {a0 N : Nat} {T : Nat → Nat → Int32} (z : zRef w a0) (hN : hfi w a0 22 = nI N) (h200 : N ≤ 200) (W : wT w a0 T N (N + 1)) : mC G mX11_laysTrace 2 0 0 [.ref a0] w (mP none (fun w' => xF [25, 26] [15] a0 w w' ∧ hfi w' a0 25 = 1 ∧ hfi w' a0 26 = nI N ∧ zL (hai w' (a0 + 15)) T N (N + 1))) := by
  refine mC_of (by decide +kernel) rfl (Nat.le_of_ble_eq_true rfl) rfl ?_
  refine gX11_laysTrace_0 z.1 ?_
  intro w1 e1 w2 e2
  have F : xF [25, 26] [15] a0 w w2 := by rw [e2, e1]; exact xF_sfi (xF_sfi xF.rf (by decide)) (by decide)
  have z2 : zRef w2 a0 := zRef_s2 (mS2.of F.1) z
  have g25 : hfi w2 a0 25 = 1 := by rw [e2, e_hfi_sfi, up2_k _ _ _ (by decide), e1, e_hfi_sfi, up2_at]
  have g26 : hfi w2 a0 26 = nI N := by rw [e2, e_hfi_sfi, up2_at]; exact hN
  refine lay_loop z2 ((F.fi (by decide)).trans hN) h200 (T := T) ?_ (fun w' F' q => mP_of ⟨F.tr (F'.wide (by decide) (by decide)), (F'.fi (by decide)).trans g25, (F'.fi (by decide)).trans g26, q⟩) (N + 1) 0 w2 (by omega) xF.rf (fun _ => ⟨fun j hj => absurd hj (by omega), fun j hj => absurd hj (by omega), fun j hj => absurd hj (by omega), fun j hj => absurd hj (by omega), fun j hj => absurd hj (by omega), fun j hj => absurd hj (by omega)⟩) (fun q => absurd q (by omega))
  unfold wT
  rw [F.ai (by decide), F.ai (by decide), F.ai (by decide), F.ai (by decide), F.ai (by decide), F.ai (by decide)]
  exact W
theorem take_step {G : mG} {w : mH} {a0 N t : Nat} {Φ : mF} (z : zRef w a0) (hN : hfi w a0 22 = nI N) (h200 : N ≤ 200) (ht : t ≤ N + 1) (hE : t = N + 1 → Φ (.inl none) w)
    (hL : t = N → ∀ w', xF [] [8] a0 w w' → hai w' (a0 + 8) = upd (hai w (a0 + 8)) t (hai w (a0 + 15) t) → mW G mX11_takesTrace 2 0 0 10 [(0, .ref a0), (1, .int (nI (t + 1)))] [] w' Φ)
    (hC : t < N → ∀ w', xF [] [8, 10, 11, 12, 13, 14] a0 w w' → hai w' (a0 + 8) = upd (hai w (a0 + 8)) t (hai w (a0 + 15) t) → hai w' (a0 + 10) = upd (hai w (a0 + 10)) t (hai w (a0 + 15) (201 + t)) → hai w' (a0 + 11) = upd (hai w (a0 + 11)) t (hai w (a0 + 15) (402 + t)) → hai w' (a0 + 12) = upd (hai w (a0 + 12)) t (hai w (a0 + 15) (603 + t)) → hai w' (a0 + 13) = upd (hai w (a0 + 13)) t (hai w (a0 + 15) (804 + t)) → hai w' (a0 + 14) = upd (hai w (a0 + 14)) t (hai w (a0 + 15) (1005 + t)) → mW G mX11_takesTrace 2 0 0 10 [(0, .ref a0), (1, .int (nI (t + 1)))] [] w' Φ) : mW G mX11_takesTrace 2 0 0 10 [(0, .ref a0), (1, .int (nI t))] [] w Φ := by
  refine gX11_takesTrace_10 (a0_15 := a0 + 8) (a0_27 := a0 + 15) (a0_17 := a0 + 10) (a0_18 := a0 + 11) (a0_19 := a0 + 12) (a0_20 := a0 + 13) (a0_21 := a0 + 14) z.1 z.2.2.2.2.2.2.2.2.1 z.2.2.2.2.2.2.2.2.2.2.2.2.2.2.2.1 z.2.2.2.2.2.2.2.2.2.2.2.2.2.2.2.2.2.2.2.2.2.2.2.2.2.2.2.2.2.2.2.2.2.2.2.2.1 (by intro c1; rw [hN] at c1; rw [m_lt (by omega) (by omega)] at c1; exact m_vp (by omega) (by decide)) z.2.2.2.2.2.2.2.2.2.2.2.2.2.2.2.2.2.2.2.2.2.2.2.2.2.2.2.2.2.1 (by intro c1; rw [hN] at c1; rw [m_lt (by omega) (by omega)] at c1; exact m_vp (by omega) (by decide)) z.2.2.2.2.2.2.2.2.2.2.1 (by intro c1 w1 e1 c2; have c3 : t ≠ N := fun q => c2 (by rw [hN, q]); rw [show (201 : Int32) = nI 201 from rfl, nI_add]; rw [hN] at c1; rw [m_lt (by omega) (by omega)] at c1; exact m_vp (by omega) (by decide)) z.2.2.2.2.2.2.2.2.2.2.2.2.2.2.2.2.2.2.2.2.2.2.2.2.2.2.2.2.2.2.2.1 (by intro c1 w1 e1 c2; have c3 : t ≠ N := fun q => c2 (by rw [hN, q]); rw [hN] at c1; rw [m_lt (by omega) (by omega)] at c1; exact m_vp (by omega) (by decide)) z.2.2.2.2.2.2.2.2.2.2.2.1 (by intro c1 w1 e1 c2 w2 e2; have c3 : t ≠ N := fun q => c2 (by rw [hN, q]); rw [show (402 : Int32) = nI 402 from rfl, nI_add]; rw [hN] at c1; rw [m_lt (by omega) (by omega)] at c1; exact m_vp (by omega) (by decide)) z.2.2.2.2.2.2.2.2.2.2.2.2.2.2.2.2.2.2.2.2.2.2.2.2.2.2.2.2.2.2.2.2.1 (by intro c1 w1 e1 c2 w2 e2; have c3 : t ≠ N := fun q => c2 (by rw [hN, q]); rw [hN] at c1; rw [m_lt (by omega) (by omega)] at c1; exact m_vp (by omega) (by decide)) z.2.2.2.2.2.2.2.2.2.2.2.2.1 (by intro c1 w1 e1 c2 w2 e2 w3 e3; have c3 : t ≠ N := fun q => c2 (by rw [hN, q]); rw [show (603 : Int32) = nI 603 from rfl, nI_add]; rw [hN] at c1; rw [m_lt (by omega) (by omega)] at c1; exact m_vp (by omega) (by decide)) z.2.2.2.2.2.2.2.2.2.2.2.2.2.2.2.2.2.2.2.2.2.2.2.2.2.2.2.2.2.2.2.2.2.1 (by intro c1 w1 e1 c2 w2 e2 w3 e3; have c3 : t ≠ N := fun q => c2 (by rw [hN, q]); rw [hN] at c1; rw [m_lt (by omega) (by omega)] at c1; exact m_vp (by omega) (by decide)) z.2.2.2.2.2.2.2.2.2.2.2.2.2.1 (by intro c1 w1 e1 c2 w2 e2 w3 e3 w4 e4; have c3 : t ≠ N := fun q => c2 (by rw [hN, q]); rw [show (804 : Int32) = nI 804 from rfl, nI_add]; rw [hN] at c1; rw [m_lt (by omega) (by omega)] at c1; exact m_vp (by omega) (by decide)) z.2.2.2.2.2.2.2.2.2.2.2.2.2.2.2.2.2.2.2.2.2.2.2.2.2.2.2.2.2.2.2.2.2.2.1 (by intro c1 w1 e1 c2 w2 e2 w3 e3 w4 e4; have c3 : t ≠ N := fun q => c2 (by rw [hN, q]); rw [hN] at c1; rw [m_lt (by omega) (by omega)] at c1; exact m_vp (by omega) (by decide)) z.2.2.2.2.2.2.2.2.2.2.2.2.2.2.1 (by intro c1 w1 e1 c2 w2 e2 w3 e3 w4 e4 w5 e5; have c3 : t ≠ N := fun q => c2 (by rw [hN, q]); rw [show (1005 : Int32) = nI 1005 from rfl, nI_add]; rw [hN] at c1; rw [m_lt (by omega) (by omega)] at c1; exact m_vp (by omega) (by decide)) z.2.2.2.2.2.2.2.2.2.2.2.2.2.2.2.2.2.2.2.2.2.2.2.2.2.2.2.2.2.2.2.2.2.2.2.1 (by intro c1 w1 e1 c2 w2 e2 w3 e3 w4 e4 w5 e5; have c3 : t ≠ N := fun q => c2 (by rw [hN, q]); rw [hN] at c1; rw [m_lt (by omega) (by omega)] at c1; exact m_vp (by omega) (by decide)) ?_ ?_ ?_
  · intro c1
    rw [hN, m_lt (by omega) (by omega)] at c1
    exact hE (by omega)
  · intro c1 w1 e1 c2 w2 e2 w3 e3 w4 e4 w5 e5 w6 e6
    rw [hN, m_lt (by omega) (by omega)] at c1
    rw [hN] at c2
    have c3 : t ≠ N := fun q => c2 (by rw [q])
    have i201 : ((201 : Int32) + nI t).toNatClampNeg = 201 + t := by rw [show (201 : Int32) = nI 201 from rfl, nI_add]; exact m_cl (by omega)
    have i402 : ((402 : Int32) + nI t).toNatClampNeg = 402 + t := by rw [show (402 : Int32) = nI 402 from rfl, nI_add]; exact m_cl (by omega)
    have i603 : ((603 : Int32) + nI t).toNatClampNeg = 603 + t := by rw [show (603 : Int32) = nI 603 from rfl, nI_add]; exact m_cl (by omega)
    have i804 : ((804 : Int32) + nI t).toNatClampNeg = 804 + t := by rw [show (804 : Int32) = nI 804 from rfl, nI_add]; exact m_cl (by omega)
    have i1005 : ((1005 : Int32) + nI t).toNatClampNeg = 1005 + t := by rw [show (1005 : Int32) = nI 1005 from rfl, nI_add]; exact m_cl (by omega)
    rw [m_cl (by omega)] at e1
    rw [i201, m_cl (by omega)] at e2
    rw [i402, m_cl (by omega)] at e3
    rw [i603, m_cl (by omega)] at e4
    rw [i804, m_cl (by omega)] at e5
    rw [i1005, m_cl (by omega)] at e6
    have g1 : hai w1 (a0 + 15) = hai w (a0 + 15) := by rw [e1, e_hai_sai, up2_a _ _ _ (by omega)]
    have g2 : hai w2 (a0 + 15) = hai w (a0 + 15) := by rw [e2, e_hai_sai, up2_a _ _ _ (by omega)]; exact g1
    have g3 : hai w3 (a0 + 15) = hai w (a0 + 15) := by rw [e3, e_hai_sai, up2_a _ _ _ (by omega)]; exact g2
    have g4 : hai w4 (a0 + 15) = hai w (a0 + 15) := by rw [e4, e_hai_sai, up2_a _ _ _ (by omega)]; exact g3
    have g5 : hai w5 (a0 + 15) = hai w (a0 + 15) := by rw [e5, e_hai_sai, up2_a _ _ _ (by omega)]; exact g4
    rw [g1] at e2
    rw [g2] at e3
    rw [g3] at e4
    rw [g4] at e5
    rw [g5] at e6
    rw [nI_1]
    refine hC (by omega) w6 (by rw [e6, e5, e4, e3, e2, e1]; exact xF_sai (xF_sai (xF_sai (xF_sai (xF_sai (xF_sai xF.rf (by decide)) (by decide)) (by decide)) (by decide)) (by decide)) (by decide)) ?_ ?_ ?_ ?_ ?_ ?_
    · rw [e6, e_hai_sai, up2_a _ _ _ (by omega), e5, e_hai_sai, up2_a _ _ _ (by omega), e4, e_hai_sai, up2_a _ _ _ (by omega), e3, e_hai_sai, up2_a _ _ _ (by omega), e2, e_hai_sai, up2_a _ _ _ (by omega), e1, e_hai_sai, up2_row]
    · rw [e6, e_hai_sai, up2_a _ _ _ (by omega), e5, e_hai_sai, up2_a _ _ _ (by omega), e4, e_hai_sai, up2_a _ _ _ (by omega), e3, e_hai_sai, up2_a _ _ _ (by omega), e2, e_hai_sai, up2_row, e1, e_hai_sai, up2_a _ _ _ (by omega)]
    · rw [e6, e_hai_sai, up2_a _ _ _ (by omega), e5, e_hai_sai, up2_a _ _ _ (by omega), e4, e_hai_sai, up2_a _ _ _ (by omega), e3, e_hai_sai, up2_row, e2, e_hai_sai, up2_a _ _ _ (by omega), e1, e_hai_sai, up2_a _ _ _ (by omega)]
    · rw [e6, e_hai_sai, up2_a _ _ _ (by omega), e5, e_hai_sai, up2_a _ _ _ (by omega), e4, e_hai_sai, up2_row, e3, e_hai_sai, up2_a _ _ _ (by omega), e2, e_hai_sai, up2_a _ _ _ (by omega), e1, e_hai_sai, up2_a _ _ _ (by omega)]
    · rw [e6, e_hai_sai, up2_a _ _ _ (by omega), e5, e_hai_sai, up2_row, e4, e_hai_sai, up2_a _ _ _ (by omega), e3, e_hai_sai, up2_a _ _ _ (by omega), e2, e_hai_sai, up2_a _ _ _ (by omega), e1, e_hai_sai, up2_a _ _ _ (by omega)]
    · rw [e6, e_hai_sai, up2_row, e5, e_hai_sai, up2_a _ _ _ (by omega), e4, e_hai_sai, up2_a _ _ _ (by omega), e3, e_hai_sai, up2_a _ _ _ (by omega), e2, e_hai_sai, up2_a _ _ _ (by omega), e1, e_hai_sai, up2_a _ _ _ (by omega)]
  · intro c1 w1 e1 c2
    rw [hN] at c2
    have c3 : t = N := by have := congrArg Int32.toNatClampNeg c2; rwa [m_cl (by omega), m_cl (by omega)] at this
    rw [m_cl (by omega)] at e1
    rw [nI_1]
    exact hL c3 w1 (by rw [e1]; exact xF_sai xF.rf (by decide)) (by rw [e1, e_hai_sai, up2_row])
theorem take_loop {G : mG} {w0 : mH} {a0 N : Nat} {T : Nat → Nat → Int32} {Φ : mF} (z : zRef w0 a0) (hN : hfi w0 a0 22 = nI N) (h200 : N ≤ 200) (W : zL (hai w0 (a0 + 15)) T N (N + 1)) (hΦ : ∀ w', xF [] [8, 10, 11, 12, 13, 14] a0 w0 w' → wT w' a0 T N (N + 1) → Φ (.inl none) w') :
    ∀ j t w, t + j = N + 1 → xF [] [8, 10, 11, 12, 13, 14] a0 w0 w → (t ≤ N → wT w a0 T t t) → (t = N + 1 → wT w a0 T N (N + 1)) → mW G mX11_takesTrace 2 0 0 10 [(0, .ref a0), (1, .int (nI t))] [] w Φ := by
  intro j
  induction j with
  | zero =>
    intro t w ht F _ R
    exact take_step (zRef_s2 (mS2.of F.1) z) ((F.fi (by decide)).trans hN) h200 (by omega) (fun _ => hΦ w F (R (by omega))) (fun q => absurd q (by omega)) (fun q => absurd q (by omega))
  | succ j ih =>
    intro t w ht F R _
    obtain ⟨W0, W1, W2, W3, W4, W5⟩ := W
    have r15 : hai w (a0 + 15) = hai w0 (a0 + 15) := F.ai (by decide)
    obtain ⟨R0, R1, R2, R3, R4, R5⟩ := R (by omega)
    refine take_step (zRef_s2 (mS2.of F.1) z) ((F.fi (by decide)).trans hN) h200 (by omega) (fun q => absurd q (by omega)) (fun q w' F' e8 => ?_) (fun q w' F' e8 e10 e11 e12 e13 e14 => ?_)
    · rw [r15, W0 t (by omega)] at e8
      subst q
      refine ih (t + 1) w' (by omega) (F.tr (F'.wide (by decide) (by decide))) (fun q => absurd q (by omega)) (fun _ => ⟨upd_s e8 R0 rfl, ?_, ?_, ?_, ?_, ?_⟩)
      · rw [F'.ai (by decide)]; exact R1
      · rw [F'.ai (by decide)]; exact R2
      · rw [F'.ai (by decide)]; exact R3
      · rw [F'.ai (by decide)]; exact R4
      · rw [F'.ai (by decide)]; exact R5
    · rw [r15, W0 t (by omega)] at e8
      rw [r15, W1 t (by omega)] at e10
      rw [r15, W2 t (by omega)] at e11
      rw [r15, W3 t (by omega)] at e12
      rw [r15, W4 t (by omega)] at e13
      rw [r15, W5 t (by omega)] at e14
      exact ih (t + 1) w' (by omega) (F.tr F') (fun _ => ⟨upd_s e8 R0 rfl, upd_s e10 R1 rfl, upd_s e11 R2 rfl, upd_s e12 R3 rfl, upd_s e13 R4 rfl, upd_s e14 R5 rfl⟩) (fun q => absurd q (by omega))

theorem rX11_takesTrace {G : mG} {w : mH} {a0 N : Nat} {T : Nat → Nat → Int32} (z : zRef w a0) (hN : hfi w a0 26 = nI N) (h200 : N ≤ 200) (W : zL (hai w (a0 + 15)) T N (N + 1)) : mC G mX11_takesTrace 2 0 0 [.ref a0] w (mP none (fun w' => xF [22] [8, 10, 11, 12, 13, 14] a0 w w' ∧ hfi w' a0 22 = nI N ∧ wT w' a0 T N (N + 1))) := by
  refine mC_of (by decide +kernel) rfl (Nat.le_of_ble_eq_true rfl) rfl ?_
  refine gX11_takesTrace_0 z.1 ?_
  intro w1 e1
  have F : xF [22] [8, 10, 11, 12, 13, 14] a0 w w1 := by rw [e1]; exact xF_sfi xF.rf (by decide)
  have z1 : zRef w1 a0 := zRef_s2 (mS2.of F.1) z
  have g22 : hfi w1 a0 22 = nI N := by rw [e1, e_hfi_sfi, up2_at]; exact hN
  have W1 : zL (hai w1 (a0 + 15)) T N (N + 1) := by rw [F.ai (by decide)]; exact W
  exact take_loop z1 g22 h200 W1 (fun w' F' q => mP_of ⟨F.tr (F'.wide (by decide) (by decide)), (F'.fi (by decide)).trans g22, q⟩) (N + 1) 0 w1 (by omega) xF.rf (fun _ => ⟨fun j hj => absurd hj (by omega), fun j hj => absurd hj (by omega), fun j hj => absurd hj (by omega), fun j hj => absurd hj (by omega), fun j hj => absurd hj (by omega), fun j hj => absurd hj (by omega)⟩) (fun q => absurd q (by omega))

