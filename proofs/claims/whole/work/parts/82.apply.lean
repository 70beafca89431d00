abbrev mX10_apply : mM := (yX10_apply, cX10_apply, 5, (some .int), [])
set_option maxHeartbeats 4000000 in
set_option maxRecDepth 100000 in
theorem gX10_apply_0 {G : mG} {w : mH} {Φ : mF} {a0 : Nat} {x1 : Int32} {c : Nat} {R : Nat → Nat → Int32} {A : Nat → Int32} {a0_10 a0_11 a0_3 a0_0 : Nat} (h1 : hk w a0 = (10, 0)) (h2 : hfr w a0 10 = some a0_10) (h3 : hfr w a0 11 = some a0_11) (h4 : hk w (vX10_foundBy x1 a0_10 a0_11) = (0, 0)) (h5 : hfr w a0 3 = some a0_3) (h6 : hfr w a0 0 = some a0_0) (h7 : hk w a0_3 = (2, 0)) (h8 : zHis w a0_3) (h9 : zSet w a0_0) (s1 : (¬ ((hfi w (vX10_foundBy x1 a0_10 a0_11) 0) = 0)) → a0_0 + 17 ≤ a0_3 ∨ a0_3 + 104 ≤ a0_0) (s2 : (¬ ((hfi w (vX10_foundBy x1 a0_10 a0_11) 0) = 0)) → hRep w a0_3 c R) (s3 : (¬ ((hfi w (vX10_foundBy x1 a0_10 a0_11) 0) = 0)) → sRep w a0_0 A) (k1 : (¬ ((hfi w (vX10_foundBy x1 a0_10 a0_11) 0) = 0)) → ∀ w1 : mH, (mFr a0_3 (a0_3 + 104) w w1 ∧ hRep w1 a0_3 (min (c + 1) 6) (hPush R c A)) → mW G mX10_apply 9 1 6 40 [(0, .ref a0), (1, .int x1), (2, .ref (vX10_foundBy x1 a0_10 a0_11)), (3, .int 0), (4, .int 0)] [] w1 Φ) (k2 : ((hfi w (vX10_foundBy x1 a0_10 a0_11) 0) = 0) → ∀ n, hN w ≤ n → Φ (.inr "java/lang/IllegalStateException") (snn w n)) : mW G mX10_apply 9 1 6 0 [(0, .ref a0), (1, .int x1)] [] w Φ := by
  refine mW_aload_n (j := 0) dX10_apply_0 rfl rfl ?_
  refine mW_iload_n (j := 1) dX10_apply_1 rfl rfl ?_
  refine mW_callVe (As := [.int x1]) (rest := []) (kc2 := 1) (ks2 := 6) dX10_apply_2 l_X10_351 rfl h1 rfl (by decide) (qX10_foundBy (w := w) (a0 := a0) (x1 := x1) h1 h2 h3) (Nat.le_of_ble_eq_true rfl) (by decide) rfl rfl ?_
  refine mW_astore_n (lv2 := [(2, .ref (vX10_foundBy x1 a0_10 a0_11)), (0, .ref a0), (1, .int x1)]) dX10_apply_5 rfl (by decide) rfl ?_
  refine mW_aload_n (j := 0) dX10_apply_6 rfl rfl ?_
  refine mW_get dX10_apply_7 f_X10_355 h4 rfl ?_
  refine mW_if_ne (tgt := 24) dX10_apply_10 (by decide) (fun c1 => ?_) (fun c1 => ?_)
  · refine mW_aload_n (j := 1) dX10_apply_24 rfl rfl ?_
    refine mW_getR dX10_apply_25 f_X10_26 h1 rfl h5 ?_
    refine mW_aload_n (j := 1) dX10_apply_28 rfl rfl ?_
    refine mW_getR dX10_apply_29 f_X10_12 h1 rfl h6 ?_
    refine mW_callV (As := [.ref a0_0]) (rest := []) (kc2 := 1) (ks2 := 6) dX10_apply_32 l_X10_101 rfl h7 rfl (by decide) (rX2_remember (w := w) (a0 := a0_3) (a1 := a0_0) h8 h9 (s1 c1) (s2 c1) (s3 c1)) (Nat.le_of_ble_eq_true rfl) (by decide) rfl rfl mP_x (mP_k (fun w1 q1 => ?_))
    refine mW_iconst (v := 0) dX10_apply_35 (by decide) ?_
    refine mW_istore_n (lv2 := [(3, .int 0), (2, .ref (vX10_foundBy x1 a0_10 a0_11)), (0, .ref a0), (1, .int x1)]) dX10_apply_36 rfl (by decide) rfl ?_
    refine mW_iconst (v := 0) dX10_apply_37 (by decide) ?_
    refine mW_istore (lv2 := [(4, .int 0), (3, .int 0), (2, .ref (vX10_foundBy x1 a0_10 a0_11)), (0, .ref a0), (1, .int x1)]) dX10_apply_38 (by decide) rfl ?_
    refine mW_loc [3, 4, 2, 1, 0] (lv2 := [(0, .ref a0), (1, .int x1), (2, .ref (vX10_foundBy x1 a0_10 a0_11)), (3, .int 0), (4, .int 0)]) rfl ?_
    exact k1 c1 w1 q1
  · exact mW_thrW (text := "nothing was found yet") (names := ["java/lang/RuntimeException", "java/lang/Exception"]) dX10_apply_13 dX10_apply_16 dX10_apply_17 dX10_apply_20 dX10_apply_23 th_120_124 (by decide +kernel) rfl (Nat.le_of_ble_eq_true rfl) (by decide) (by decide) (by decide) (k2 c1)
set_option maxHeartbeats 4000000 in
set_option maxRecDepth 100000 in
theorem gX10_apply_40 {G : mG} {w : mH} {Φ : mF} {a0 : Nat} {x1 : Int32} {a2 : Nat} {x3 x4 : Int32} {a0_0 a0_0_0 n_a0_0_0 a2_1 n_a2_1 : Nat} (h1 : hk w a0 = (10, 0)) (h2 : hfr w a0 0 = some a0_0) (h3 : hk w a0_0 = (3, 0)) (h4 : hfr w a0_0 0 = some a0_0_0) (h5 : hk w a0_0_0 = (16, n_a0_0_0)) (s1 : (¬ (3 ≤ x4)) → vp_in x4 n_a0_0_0) (h6 : hk w a2 = (0, 0)) (h7 : hfr w a2 1 = some a2_1) (h8 : hk w a2_1 = (16, n_a2_1)) (s2 : (¬ (3 ≤ x4)) → vp_in x4 n_a2_1) (k1 : (3 ≤ x4) → Φ (.inl (some (.int x3))) w) (k2 : (¬ (3 ≤ x4)) → ((hai w a0_0_0 x4.toNatClampNeg) = (hai w a2_1 x4.toNatClampNeg)) → ∀ w1 : mH, (w1 = sai w a0_0_0 x4.toNatClampNeg (hai w a2_1 x4.toNatClampNeg)) → mW G mX10_apply 9 1 6 40 [(0, .ref a0), (1, .int x1), (2, .ref a2), (3, .int x3), (4, .int (x4 + 1))] [] w1 Φ) (k3 : (¬ (3 ≤ x4)) → (¬ ((hai w a0_0_0 x4.toNatClampNeg) = (hai w a2_1 x4.toNatClampNeg))) → ∀ w2 : mH, (w2 = sai w a0_0_0 x4.toNatClampNeg (hai w a2_1 x4.toNatClampNeg)) → mW G mX10_apply 9 1 6 40 [(0, .ref a0), (1, .int x1), (2, .ref a2), (3, .int (x3 + 1)), (4, .int (x4 + 1))] [] w2 Φ) : mW G mX10_apply 9 1 6 40 [(0, .ref a0), (1, .int x1), (2, .ref a2), (3, .int x3), (4, .int x4)] [] w Φ := by
  refine mW_iload (j := 4) dX10_apply_40 rfl ?_
  refine mW_iconst (v := 3) dX10_apply_42 (by decide) ?_
  refine mW_icmp_ge (tgt := 92) dX10_apply_43 (by decide) (fun c1 => ?_) (fun c1 => ?_)
  · refine mW_iload_n (j := 3) dX10_apply_92 rfl rfl ?_
    exact mW_iret dX10_apply_93 rfl (k1 c1)
  · refine mW_aload_n (j := 0) dX10_apply_46 rfl rfl ?_
    refine mW_getR dX10_apply_47 f_X10_12 h1 rfl h2 ?_
    refine mW_getR dX10_apply_50 f_X10_105 h3 rfl h4 ?_
    refine mW_iload (j := 4) dX10_apply_53 rfl ?_
    refine mW_ialdJ dX10_apply_55 h5 (s1 c1) rfl ?_
    refine mW_aload_n (j := 2) dX10_apply_56 rfl rfl ?_
    refine mW_getR dX10_apply_57 f_X10_361 h6 rfl h7 ?_
    refine mW_iload (j := 4) dX10_apply_60 rfl ?_
    refine mW_ialdJ dX10_apply_62 h8 (s2 c1) rfl ?_
    refine mW_icmp_eq (tgt := 69) dX10_apply_63 (by decide) (fun c2 => ?_) (fun c2 => ?_)
    · refine mW_aload_n (j := 0) dX10_apply_69 rfl rfl ?_
      refine mW_getR dX10_apply_70 f_X10_12 h1 rfl h2 ?_
      refine mW_getR dX10_apply_73 f_X10_105 h3 rfl h4 ?_
      refine mW_iload (j := 4) dX10_apply_76 rfl ?_
      refine mW_aload_n (j := 2) dX10_apply_78 rfl rfl ?_
      refine mW_getR dX10_apply_79 f_X10_361 h6 rfl h7 ?_
      refine mW_iload (j := 4) dX10_apply_82 rfl ?_
      refine mW_ialdJ dX10_apply_84 h8 (s2 c1) rfl ?_
      refine mW_iastJ dX10_apply_85 h5 (s1 c1) rfl ?_
      refine mW_nm (fun w1 e1 => ?_)
      refine mW_iinc (j := 4) (v := x4 + 1) (lv2 := [(4, .int (x4 + 1)), (0, .ref a0), (1, .int x1), (2, .ref a2), (3, .int x3)]) dX10_apply_86 rfl rfl (by decide) rfl ?_
      refine mW_goto (tgt := 40) dX10_apply_89 (by decide) ?_
      refine mW_loc [1, 2, 3, 4, 0] (lv2 := [(0, .ref a0), (1, .int x1), (2, .ref a2), (3, .int x3), (4, .int (x4 + 1))]) rfl ?_
      exact k2 c1 c2 w1 e1
    · refine mW_iinc (j := 3) (v := x3 + 1) (lv2 := [(3, .int (x3 + 1)), (0, .ref a0), (1, .int x1), (2, .ref a2), (4, .int x4)]) dX10_apply_66 rfl rfl (by decide) rfl ?_
      refine mW_aload_n (j := 1) dX10_apply_69 rfl rfl ?_
      refine mW_getR dX10_apply_70 f_X10_12 h1 rfl h2 ?_
      refine mW_getR dX10_apply_73 f_X10_105 h3 rfl h4 ?_
      refine mW_iload (j := 4) dX10_apply_76 rfl ?_
      refine mW_aload_n (j := 3) dX10_apply_78 rfl rfl ?_
      refine mW_getR dX10_apply_79 f_X10_361 h6 rfl h7 ?_
      refine mW_iload (j := 4) dX10_apply_82 rfl ?_
      refine mW_ialdJ dX10_apply_84 h8 (s2 c1) rfl ?_
      refine mW_iastJ dX10_apply_85 h5 (s1 c1) rfl ?_
      refine mW_nm (fun w2 e2 => ?_)
      refine mW_iinc (j := 4) (v := x4 + 1) (lv2 := [(4, .int (x4 + 1)), (3, .int (x3 + 1)), (0, .ref a0), (1, .int x1), (2, .ref a2)]) dX10_apply_86 rfl rfl (by decide) rfl ?_
      refine mW_goto (tgt := 40) dX10_apply_89 (by decide) ?_
      refine mW_loc [2, 3, 4, 1, 0] (lv2 := [(0, .ref a0), (1, .int x1), (2, .ref a2), (3, .int (x3 + 1)), (4, .int (x4 + 1))]) rfl ?_
      exact k3 c1 c2 w2 e2
theorem apc_step {G : mG} {w : mH} {Φ : mF} {a0 o g : Nat} {x1 x3 : Int32} (z : zBen w a0) (zf : zFnd w o) (hg : g < 3) (k : mW G mX10_apply 9 1 6 40 [(0, .ref a0), (1, .int x1), (2, .ref o), (3, .int (x3 + dif (hai w (a0 + 2) g) (hai w (o + 1) g))), (4, .int (nI (g + 1)))] [] (sai w (a0 + 2) g (hai w (o + 1) g)) Φ) : mW G mX10_apply 9 1 6 40 [(0, .ref a0), (1, .int x1), (2, .ref o), (3, .int x3), (4, .int (nI g))] [] w Φ := by
  have hcl : (nI g).toNatClampNeg = g := m_cl (by omega)
  refine gX10_apply_40 (a0_0 := a0 + 1) (a0_0_0 := a0 + 2) z.1 z.2.1 z.2.2.2.2.2.2.2.2.2.2.2.1.1 z.2.2.2.2.2.2.2.2.2.2.2.1.2.1 z.2.2.2.2.2.2.2.2.2.2.2.1.2.2.2.2.2.2.1 (by intro c1; exact m_vp (by omega) (by decide)) zf.1 zf.2.1 zf.2.2 (by intro c1; exact m_vp (by omega) (by decide)) ?_ ?_ ?_
  · intro c1
    rw [show (3 : Int32) = nI 3 from rfl, m_le (by omega) (by omega)] at c1; omega
  · intro c1 c2 w1 e1
    rw [hcl] at c2 e1
    unfold dif at k
    rw [if_pos c2, Int32.add_zero, ← nI_1] at k
    rw [e1]
    exact k
  · intro c1 c2 w2 e2
    rw [hcl] at c2 e2
    unfold dif at k
    rw [if_neg c2, ← nI_1] at k
    rw [e2]
    exact k
theorem apc_end {G : mG} {w : mH} {Φ : mF} {a0 o : Nat} {x1 x3 : Int32} (z : zBen w a0) (zf : zFnd w o) (k : Φ (.inl (some (.int x3))) w) : mW G mX10_apply 9 1 6 40 [(0, .ref a0), (1, .int x1), (2, .ref o), (3, .int x3), (4, .int (nI 3))] [] w Φ := by
  refine gX10_apply_40 (a0_0 := a0 + 1) (a0_0_0 := a0 + 2) z.1 z.2.1 z.2.2.2.2.2.2.2.2.2.2.2.1.1 z.2.2.2.2.2.2.2.2.2.2.2.1.2.1 z.2.2.2.2.2.2.2.2.2.2.2.1.2.2.2.2.2.2.1 (by intro c1; exact absurd (by decide) c1) zf.1 zf.2.1 zf.2.2 (by intro c1; exact absurd (by decide) c1) ?_ ?_ ?_
  · intro c1
    exact k
  · intro c1 c2 w1 e1
    exact absurd (by decide) c1
  · intro c1 c2 w2 e2
    exact absurd (by decide) c1
theorem tX10_apply {G : mG} {w : mH} {a0 : Nat} {x1 : Int32} {c : Nat} {R : Nat → Nat → Int32} {A : Nat → Int32} (z : zBen w a0) (hH : hRep w (a0 + 35) c R) (hS : sRep w (a0 + 1) A) : mC G mX10_apply 9 1 6 [.ref a0, .int x1] w (tpO "java/lang/IllegalStateException" "" "" (if hfi w (vX10_foundBy x1 (a0 + 190) (a0 + 192)) 0 = 0 then 1 else 0) (.int (0 + dif (A 0) (hai w ((vX10_foundBy x1 (a0 + 190) (a0 + 192)) + 1) 0) + dif (A 1) (hai w ((vX10_foundBy x1 (a0 + 190) (a0 + 192)) + 1) 1) + dif (A 2) (hai w ((vX10_foundBy x1 (a0 + 190) (a0 + 192)) + 1) 2))) (fun u => u = w) (fun u => bnO w u a0 c R A (aGain A (hai w ((vX10_foundBy x1 (a0 + 190) (a0 + 192)) + 1) 0) (hai w ((vX10_foundBy x1 (a0 + 190) (a0 + 192)) + 1) 1) (hai w ((vX10_foundBy x1 (a0 + 190) (a0 + 192)) + 1) 2)))) := by
  refine mC_of (by decide +kernel) rfl (Nat.le_of_ble_eq_true rfl) rfl ?_
  refine gX10_apply_0 (c := c) (R := R) (A := A) (a0_10 := a0 + 190) (a0_11 := a0 + 192) (a0_3 := a0 + 35) (a0_0 := a0 + 1) z.1 z.2.2.2.2.2.2.2.2.2.1 z.2.2.2.2.2.2.2.2.2.2.1 (fo_z z).1 z.2.2.2.1 z.2.1 z.2.2.2.2.2.2.2.2.2.2.2.2.2.1.1 z.2.2.2.2.2.2.2.2.2.2.2.2.2.1 z.2.2.2.2.2.2.2.2.2.2.2.1 (by intro c1; omega) (by intro c1; exact hH) (by intro c1; exact hS) ?_ ?_
  · intro c1 w1 q1
    have zf := zFnd_sh q1.1.1 (fo_z (x := x1) z)
    have z1 := zBen_sh q1.1.1 z
    have ho : vX10_foundBy x1 (a0 + 190) (a0 + 192) = a0 + 190 ∨ vX10_foundBy x1 (a0 + 190) (a0 + 192) = a0 + 192 := by
      unfold vX10_foundBy
      by_cases q : x1 = 0
      · rw [if_pos q]; exact Or.inl rfl
      · rw [if_neg q]; exact Or.inr rfl
    generalize vX10_foundBy x1 (a0 + 190) (a0 + 192) = o at *
    have S1 : sRep w1 (a0 + 1) A := sRep_fr q1.1 (by omega) hS
    have er : hai w1 (o + 1) = hai w (o + 1) := q1.1.hai (by omega)
    rw [← er]
    have a0r : hai w1 (a0 + 2) 0 = A 0 := S1.1 0 (by decide)
    have a1r : hai w1 (a0 + 2) 1 = A 1 := S1.1 1 (by decide)
    have a2r : hai w1 (a0 + 2) 2 = A 2 := S1.1 2 (by decide)
    refine apc_step (g := 0) z1 zf (by decide) ?_
    have s1 : mSh w1 (sai w1 (a0 + 2) 0 (hai w1 (o + 1) 0)) := mSh.rf
    refine apc_step (g := 1) (zBen_sh s1 z1) (zFnd_sh s1 zf) (by decide) ?_
    have s2 : mSh w1 (sai (sai w1 (a0 + 2) 0 (hai w1 (o + 1) 0)) (a0 + 2) 1 (hai w1 (o + 1) 1)) := mSh.rf
    have o1 : hai (sai w1 (a0 + 2) 0 (hai w1 (o + 1) 0)) (o + 1) = hai w1 (o + 1) := by rw [e_hai_sai, up2_a _ _ _ (by omega)]
    have o2 : hai (sai w1 (a0 + 2) 0 (hai w1 (o + 1) 0)) (a0 + 2) 1 = A 1 := by rw [e_hai_sai, up2_k _ _ _ (by decide)]; exact a1r
    rw [o1, o2, a0r]
    refine apc_step (g := 2) (zBen_sh s2 z1) (zFnd_sh s2 zf) (by decide) ?_
    have s3 : mSh w1 (sai (sai (sai w1 (a0 + 2) 0 (hai w1 (o + 1) 0)) (a0 + 2) 1 (hai w1 (o + 1) 1)) (a0 + 2) 2 (hai w1 (o + 1) 2)) := mSh.rf
    have o3 : hai (sai (sai w1 (a0 + 2) 0 (hai w1 (o + 1) 0)) (a0 + 2) 1 (hai w1 (o + 1) 1)) (o + 1) = hai w1 (o + 1) := by rw [e_hai_sai, up2_a _ _ _ (by omega), o1]
    have o4 : hai (sai (sai w1 (a0 + 2) 0 (hai w1 (o + 1) 0)) (a0 + 2) 1 (hai w1 (o + 1) 1)) (a0 + 2) 2 = A 2 := by rw [e_hai_sai, up2_k _ _ _ (by decide), e_hai_sai, up2_k _ _ _ (by decide)]; exact a2r
    rw [o3, o4]
    refine apc_end (zBen_sh s3 z1) (zFnd_sh s3 zf) ?_
    have S2 := sRep_set (v := hai w1 (o + 1) 0) S1 (by decide : 0 < 15) rfl
    have S3 := sRep_set (v := hai w1 (o + 1) 1) S2 (by decide : 1 < 15) rfl
    have S4 := sRep_set (v := hai w1 (o + 1) 2) S3 (by decide : 2 < 15) rfl
    exact tp_ok (by rw [if_neg c1]) (bnO_of q1 (mFr_sai (mFr_sai (mFr_sai mFr.rf (by omega) (by omega)) (by omega) (by omega)) (by omega) (by omega)) S4)
  · intro c1
    exact tp_1 (by rw [if_pos c1]) rfl
