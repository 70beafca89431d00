abbrev mX6_meanSquare : mM := (yX6_meanSquare, cX6_meanSquare, 4, (some .double), [])
set_option maxHeartbeats 4000000 in
set_option maxRecDepth 100000 in
theorem gX6_meanSquare_0 {G : mG} {w : mH} {Φ : mF} {a0 : Nat}  (k1 : mW G mX6_meanSquare 2 0 0 4 [(0, .ref a0), (1, .double FP.dconst0), (3, .int 0)] [] w Φ) : mW G mX6_meanSquare 2 0 0 0 [(0, .ref a0)] [] w Φ := by
  refine mW_dconst0 dX6_meanSquare_0 ?_
  refine mW_dstore_n (lv2 := [(1, .double FP.dconst0), (0, .ref a0)]) dX6_meanSquare_1 rfl (by decide) rfl ?_
  refine mW_iconst (v := 0) dX6_meanSquare_2 (by decide) ?_
  refine mW_istore_n (lv2 := [(3, .int 0), (1, .double FP.dconst0), (0, .ref a0)]) dX6_meanSquare_3 rfl (by decide) rfl ?_
  refine mW_loc [2, 1, 0] (lv2 := [(0, .ref a0), (1, .double FP.dconst0), (3, .int 0)]) rfl ?_
  exact k1
set_option maxHeartbeats 4000000 in
set_option maxRecDepth 100000 in
theorem gX6_meanSquare_4 {G : mG} {w : mH} {Φ : mF} {a0 : Nat} {z1 : UInt64} {x3 : Int32} {a0_0 n_a0_0 : Nat} (h1 : hk w a0 = (6, 0)) (h2 : hfr w a0 0 = some a0_0) (h3 : hk w a0_0 = (16, n_a0_0)) (s1 : (¬ ((hfi w a0 6) < x3)) → (¬ (200 < x3)) → vp_in x3 n_a0_0) (s2 : (¬ ((hfi w a0 6) < x3)) → (¬ (200 < x3)) → vf_n64 (FP.dmul (FP.i2d (hai w a0_0 x3.toNatClampNeg)) (FP.i2d (hai w a0_0 x3.toNatClampNeg)))) (s3 : (¬ ((hfi w a0 6) < x3)) → (¬ (200 < x3)) → vf_n64 (FP.dadd z1 (FP.dmul (FP.i2d (hai w a0_0 x3.toNatClampNeg)) (FP.i2d (hai w a0_0 x3.toNatClampNeg))))) (k1 : ((hfi w a0 6) < x3) → mW G mX6_meanSquare 2 0 0 43 [(0, .ref a0), (1, .double z1), (3, .int x3)] [] w Φ) (k2 : (¬ ((hfi w a0 6) < x3)) → (200 < x3) → mW G mX6_meanSquare 2 0 0 43 [(0, .ref a0), (1, .double z1), (3, .int x3)] [] w Φ) (k3 : (¬ ((hfi w a0 6) < x3)) → (¬ (200 < x3)) → mW G mX6_meanSquare 2 0 0 4 [(0, .ref a0), (1, .double (FP.dadd z1 (FP.dmul (FP.i2d (hai w a0_0 x3.toNatClampNeg)) (FP.i2d (hai w a0_0 x3.toNatClampNeg))))), (3, .int (x3 + 1))] [] w Φ) : mW G mX6_meanSquare 2 0 0 4 [(0, .ref a0), (1, .double z1), (3, .int x3)] [] w Φ := by
  refine mW_iload_n (j := 2) dX6_meanSquare_4 rfl rfl ?_
  refine mW_aload_n (j := 0) dX6_meanSquare_5 rfl rfl ?_
  refine mW_get dX6_meanSquare_6 f_X6_30 h1 rfl ?_
  refine mW_icmp_gt (tgt := 43) dX6_meanSquare_9 (by decide) (fun c1 => ?_) (fun c1 => ?_)
  · exact k1 c1
  · refine mW_iload_n (j := 2) dX6_meanSquare_12 rfl rfl ?_
    refine mW_sipush (v := 200) dX6_meanSquare_13 (by decide) ?_
    refine mW_icmp_gt (tgt := 43) dX6_meanSquare_16 (by decide) (fun c2 => ?_) (fun c2 => ?_)
    · exact k2 c1 c2
    · refine mW_dload_n (j := 1) dX6_meanSquare_19 rfl rfl ?_
      refine mW_aload_n (j := 0) dX6_meanSquare_20 rfl rfl ?_
      refine mW_getR dX6_meanSquare_21 f_X6_9 h1 rfl h2 ?_
      refine mW_iload_n (j := 2) dX6_meanSquare_24 rfl rfl ?_
      refine mW_ialdJ dX6_meanSquare_25 h3 (s1 c1 c2) rfl ?_
      refine mW_i2d dX6_meanSquare_26 ?_
      refine mW_aload_n (j := 0) dX6_meanSquare_27 rfl rfl ?_
      refine mW_getR dX6_meanSquare_28 f_X6_9 h1 rfl h2 ?_
      refine mW_iload_n (j := 2) dX6_meanSquare_31 rfl rfl ?_
      refine mW_ialdJ dX6_meanSquare_32 h3 (s1 c1 c2) rfl ?_
      refine mW_i2d dX6_meanSquare_33 ?_
      refine mW_dmul dX6_meanSquare_34 (s2 c1 c2) ?_
      refine mW_dadd dX6_meanSquare_35 (s3 c1 c2) ?_
      refine mW_dstore_n (lv2 := [(1, .double (FP.dadd z1 (FP.dmul (FP.i2d (hai w a0_0 x3.toNatClampNeg)) (FP.i2d (hai w a0_0 x3.toNatClampNeg))))), (0, .ref a0), (3, .int x3)]) dX6_meanSquare_36 rfl (by decide) rfl ?_
      refine mW_iinc (j := 2) (v := x3 + 1) (lv2 := [(3, .int (x3 + 1)), (1, .double (FP.dadd z1 (FP.dmul (FP.i2d (hai w a0_0 x3.toNatClampNeg)) (FP.i2d (hai w a0_0 x3.toNatClampNeg))))), (0, .ref a0)]) dX6_meanSquare_37 rfl rfl (by decide) rfl ?_
      refine mW_goto (tgt := 4) dX6_meanSquare_40 (by decide) ?_
      refine mW_loc [2, 1, 0] (lv2 := [(0, .ref a0), (1, .double (FP.dadd z1 (FP.dmul (FP.i2d (hai w a0_0 x3.toNatClampNeg)) (FP.i2d (hai w a0_0 x3.toNatClampNeg))))), (3, .int (x3 + 1))]) rfl ?_
      exact k3 c1 c2
set_option maxHeartbeats 4000000 in
set_option maxRecDepth 100000 in
theorem gX6_meanSquare_43 {G : mG} {w : mH} {Φ : mF} {a0 : Nat} {z1 : UInt64} {x3 : Int32} (h1 : hk w a0 = (6, 0)) (s1 : (¬ ((vX6_isMade w a0) = 0)) → vf_n64 (FP.ddiv z1 (FP.i2d ((hfi w a0 6) + 1)))) (k1 : ((vX6_isMade w a0) = 0) → Φ (.inl (some (.double FP.dconst0))) w) (k2 : (¬ ((vX6_isMade w a0) = 0)) → Φ (.inl (some (.double (FP.ddiv z1 (FP.i2d ((hfi w a0 6) + 1)))))) w) : mW G mX6_meanSquare 2 0 0 43 [(0, .ref a0), (1, .double z1), (3, .int x3)] [] w Φ := by
  refine mW_aload_n (j := 0) dX6_meanSquare_43 rfl rfl ?_
  refine mW_callVe (As := []) (rest := []) (kc2 := 0) (ks2 := 0) dX6_meanSquare_44 l_X6_64 rfl h1 rfl (by decide) (qX6_isMade (w := w) (a0 := a0) h1) (Nat.le_of_ble_eq_true rfl) (by decide) rfl rfl ?_
  refine mW_if_eq (tgt := 62) dX6_meanSquare_47 (by decide) (fun c1 => ?_) (fun c1 => ?_)
  · refine mW_dconst0 dX6_meanSquare_62 ?_
    exact mW_dret dX6_meanSquare_63 rfl (k1 c1)
  · refine mW_dload_n (j := 1) dX6_meanSquare_50 rfl rfl ?_
    refine mW_aload_n (j := 0) dX6_meanSquare_51 rfl rfl ?_
    refine mW_get dX6_meanSquare_52 f_X6_30 h1 rfl ?_
    refine mW_iconst (v := 1) dX6_meanSquare_55 (by decide) ?_
    refine mW_iadd dX6_meanSquare_56 ?_
    refine mW_i2d dX6_meanSquare_57 ?_
    refine mW_ddiv dX6_meanSquare_58 (s1 c1) ?_
    refine mW_goto (tgt := 63) dX6_meanSquare_59 (by decide) ?_
    exact mW_dret dX6_meanSquare_63 rfl (k2 c1)
abbrev mX6_saturatedShare : mM := (yX6_saturatedShare, cX6_saturatedShare, 1, (some .float), [])
set_option maxHeartbeats 4000000 in
set_option maxRecDepth 100000 in
theorem gX6_saturatedShare_0 {G : mG} {w : mH} {Φ : mF} {a0 : Nat} {e_a0 : Nat → Nat} {N_a0 : Nat} (h1 : hk w a0 = (6, 0)) (h2 : tAt w a0 e_a0 N_a0) (s1 : (¬ ((vX6_isMade w a0) = 0)) → vf_n32 (FP.fdiv (FP.i2f (fSat (hai w (e_a0 5)) N_a0)) (FP.i2f (hfi w a0 6)))) (k1 : ((vX6_isMade w a0) = 0) → Φ (.inl (some (.float FP.fconst0))) w) (k2 : (¬ ((vX6_isMade w a0) = 0)) → Φ (.inl (some (.float (FP.fdiv (FP.i2f (fSat (hai w (e_a0 5)) N_a0)) (FP.i2f (hfi w a0 6)))))) w) : mW G mX6_saturatedShare 2 0 0 0 [(0, .ref a0)] [] w Φ := by
  refine mW_aload_n (j := 0) dX6_saturatedShare_0 rfl rfl ?_
  refine mW_callVe (As := []) (rest := []) (kc2 := 0) (ks2 := 0) dX6_saturatedShare_1 l_X6_64 rfl h1 rfl (by decide) (qX6_isMade (w := w) (a0 := a0) h1) (Nat.le_of_ble_eq_true rfl) (by decide) rfl rfl ?_
  refine mW_if_eq (tgt := 21) dX6_saturatedShare_4 (by decide) (fun c1 => ?_) (fun c1 => ?_)
  · refine mW_fconst0 dX6_saturatedShare_21 ?_
    exact mW_fret dX6_saturatedShare_22 rfl (k1 c1)
  · refine mW_aload_n (j := 0) dX6_saturatedShare_7 rfl rfl ?_
    refine mW_callVe (As := []) (rest := []) (kc2 := 0) (ks2 := 0) dX6_saturatedShare_8 l_X6_55 rfl h1 rfl (by decide) (qX6_saturatedSteps (w := w) (a0 := a0) h2) (Nat.le_of_ble_eq_true rfl) (by decide) rfl rfl ?_
    refine mW_i2f dX6_saturatedShare_11 ?_
    refine mW_aload_n (j := 0) dX6_saturatedShare_12 rfl rfl ?_
    refine mW_get dX6_saturatedShare_13 f_X6_30 h1 rfl ?_
    refine mW_i2f dX6_saturatedShare_16 ?_
    refine mW_fdiv dX6_saturatedShare_17 (s1 c1) ?_
    refine mW_goto (tgt := 22) dX6_saturatedShare_18 (by decide) ?_
    exact mW_fret dX6_saturatedShare_22 rfl (k2 c1)
/-! the class: the mean of the squares, the share of the saturated steps -/
theorem made_1 {w : mH} {a0 N : Nat} (hN : hfi w a0 6 = nI N) (h1 : 1 ≤ N) (h200 : N ≤ 200) : ¬ vX6_isMade w a0 = 0 := by
  unfold vX6_isMade
  rw [hN, if_neg (by rw [m_le0 (by omega)]; omega), if_neg (by rw [show (200 : Int32) = nI 200 from rfl, m_lt (by omega) (by omega)]; omega)]
  decide
theorem cm_loop {G : mG} {w : mH} {a0 N : Nat} {E : Nat → Int32} {Φ : mF} (z : zTra w a0) (hN : hfi w a0 6 = nI N) (h1 : 1 ≤ N) (h200 : N ≤ 200) (hE : ∀ t, t ≤ N → hai w (a0 + 1) t = E t) (h : eB E (N + 1)) (hΦ : Φ (.inl (some (.double (FP.ddiv (dSum E (N + 1)) (FP.i2d (nI (N + 1))))))) w) : ∀ j t, t + j = N + 1 → mW G mX6_meanSquare 2 0 0 4 [(0, .ref a0), (1, .double (dSum E t)), (3, .int (nI t))] [] w Φ := by
  have fin : mW G mX6_meanSquare 2 0 0 43 [(0, .ref a0), (1, .double (dSum E (N + 1))), (3, .int (nI (N + 1)))] [] w Φ := by
    refine gX6_meanSquare_43 z.1 (by intro c1; rw [hN, nI_1]; exact n64_of (dMean_nn h200 h)) ?_ ?_
    · intro c1
      exact absurd c1 (made_1 hN h1 h200)
    · intro _
      rw [hN, nI_1]
      exact hΦ
  intro j
  induction j with
  | zero =>
    intro t ht
    have ht' : t = N + 1 := by omega
    refine gX6_meanSquare_4 (a0_0 := a0 + 1) z.1 z.2.1 z.2.2.2.2.2.2.2.1 (by intro c1 c2; rw [hN, m_lt (by omega) (by omega)] at c1; exact m_vp (by omega) (by decide)) (by intro c1 c2; rw [hN, m_lt (by omega) (by omega)] at c1; rw [m_cl (by omega), hE t (by omega)]; exact n64_of (by show FP.Core.val64 (FP.Core.dmul (FP.Core.i2d _) (FP.Core.i2d _)) ≠ _; rw [(sq1 (h t (by omega)).1 (h t (by omega)).2).1]; exact l2d_nn _)) (by intro c1 c2; rw [hN, m_lt (by omega) (by omega)] at c1; rw [m_cl (by omega), hE t (by omega)]; exact n64_of (by rw [show FP.dadd (dSum E t) (FP.dmul (FP.i2d (E t)) (FP.i2d (E t))) = dSum E (t + 1) from rfl, ← (dSum_eq (t + 1) (by omega) (fun j hj => h j (by omega))).1]; exact l2d_nn _)) ?_ ?_ ?_
    · intro _
      rw [ht']
      exact fin
    · intro _ _
      rw [ht']
      exact fin
    · intro c1
      rw [hN, m_lt (by omega) (by omega)] at c1
      omega
  | succ j ih =>
    intro t ht
    refine gX6_meanSquare_4 (a0_0 := a0 + 1) z.1 z.2.1 z.2.2.2.2.2.2.2.1 (by intro c1 c2; rw [hN, m_lt (by omega) (by omega)] at c1; exact m_vp (by omega) (by decide)) (by intro c1 c2; rw [hN, m_lt (by omega) (by omega)] at c1; rw [m_cl (by omega), hE t (by omega)]; exact n64_of (by show FP.Core.val64 (FP.Core.dmul (FP.Core.i2d _) (FP.Core.i2d _)) ≠ _; rw [(sq1 (h t (by omega)).1 (h t (by omega)).2).1]; exact l2d_nn _)) (by intro c1 c2; rw [hN, m_lt (by omega) (by omega)] at c1; rw [m_cl (by omega), hE t (by omega)]; exact n64_of (by rw [show FP.dadd (dSum E t) (FP.dmul (FP.i2d (E t)) (FP.i2d (E t))) = dSum E (t + 1) from rfl, ← (dSum_eq (t + 1) (by omega) (fun j hj => h j (by omega))).1]; exact l2d_nn _)) ?_ ?_ ?_
    · intro c1
      rw [hN, m_lt (by omega) (by omega)] at c1
      omega
    · intro _ c2
      rw [show (200 : Int32) = nI 200 from rfl, m_lt (by omega) (by omega)] at c2
      omega
    · intro c1 c2
      rw [m_cl (by omega), nI_1, hE t (by omega)]
      exact ih (t + 1) (by omega)
theorem rX6_meanSquare {G : mG} {w : mH} {a0 N : Nat} {T : Nat → Nat → Int32} (z : zTra w a0) (hr : tRw w a0 T N) (h1 : 1 ≤ N) (h200 : N ≤ 200) (h : eB (T 0) (N + 1)) : mC G mX6_meanSquare 2 0 0 [.ref a0] w (mEq (.inl (some (.double (FP.ddiv (dSum (T 0) (N + 1)) (FP.i2d (nI (N + 1))))))) w) := by
  refine mC_of (by decide +kernel) rfl (Nat.le_of_ble_eq_true rfl) rfl ?_
  refine gX6_meanSquare_0 ?_
  exact cm_loop z hr.1 h1 h200 hr.2.1 h mEq_rf (N + 1) 0 (by omega)
theorem eS_n2 {X : Nat → Int32} {N : Nat} (h : ∀ t, t < N → X t = 0 ∨ X t = 1) : ∀ k, k ≤ N → ∃ n, n ≤ k ∧ fSat X k = nI n
  | 0, _ => ⟨0, Nat.le_refl _, rfl⟩
  | k + 1, hk => by
    obtain ⟨n, hn, e⟩ := eS_n2 h k (by omega)
    rcases h k (by omega) with q | q
    · exact ⟨n, by omega, by rw [fSat, e, q, Int32.add_zero]⟩
    · exact ⟨n + 1, by omega, by rw [fSat, e, q, nI_1]⟩
theorem rX6_saturatedShare {G : mG} {w : mH} {a0 N : Nat} {T : Nat → Nat → Int32} (z : zTra w a0) (hr : tRw w a0 T N) (h1 : 1 ≤ N) (h200 : N ≤ 200) (h : ∀ t, t < N → T 5 t = 0 ∨ T 5 t = 1) : mC G mX6_saturatedShare 2 0 0 [.ref a0] w (mEq (.inl (some (.float (FP.fdiv (FP.i2f (fSat (T 5) N)) (FP.i2f (nI N)))))) w) := by
  obtain ⟨n, hn1, hn⟩ := eS_n2 h N (Nat.le_refl _)
  have hn2 : n ≤ 200 := by omega
  have hS : fSat (hai w (a0 + 6)) N = fSat (T 5) N := fSat_congr N (fun j hj => (hr.2.2 j hj).2.2.2.2)
  have t := tRw_at z hr h200
  refine mC_of (by decide +kernel) rfl (Nat.le_of_ble_eq_true rfl) rfl ?_
  refine gX6_saturatedShare_0 (e_a0 := fun k => a0 + 1 + k) (N_a0 := N) z.1 t (by intro c1; show vf_n32 (FP.fdiv (FP.i2f (fSat (hai w (a0 + 6)) N)) (FP.i2f (hfi w a0 6))); rw [hS, hn, hr.1]; exact n32_of (fShare_nn hn2 h1 h200)) ?_ ?_
  · intro c1
    exact absurd c1 (made_1 hr.1 h1 h200)
  · intro _
    show mEq _ w (.inl (some (.float (FP.fdiv (FP.i2f (fSat (hai w (a0 + 6)) N)) (FP.i2f (hfi w a0 6)))))) w
    rw [hS, hr.1]
    exact mEq_rf

