abbrev mX11_undo : mM := (yX11_undo, cX11_undo, 1, (some .int), [])
set_option maxHeartbeats 4000000 in
set_option maxRecDepth 100000 in
theorem gX11_undo_0 {G : mG} {w : mH} {Φ : mF} {a0 c : Nat} {A : Nat → Int32} (h1 : hk w a0 = (11, 0)) (h2 : zRef w a0) (s1 : (¬ ((hfi w a0 5) = 0)) → ∀ w1 : mH, (w1 = sfi w a0 0 0) → (hfi w a0 5) = nI (nT (hfi w a0 5))) (s2 : (¬ ((hfi w a0 5) = 0)) → ∀ w1 : mH, (w1 = sfi w a0 0 0) → 0 = nI (nT 0)) (s3 : (¬ ((hfi w a0 5) = 0)) → ∀ w1 : mH, (w1 = sfi w a0 0 0) → nT (hfi w a0 5) ≤ 7) (s4 : (¬ ((hfi w a0 5) = 0)) → ∀ w1 : mH, (w1 = sfi w a0 0 0) → nT 0 ≤ 7) (k1 : (¬ ((hfi w a0 5) = 0)) → ∀ w1 : mH, (w1 = sfi w a0 0 0) → ∀ w2 : mH, (xF [] [1] a0 w1 w2 ∧ hai w2 (a0 + 1) = cpR (hai w1 (a0 + 1)) (nT (hfi w a0 5)) (nT 0)) → ∀ w3 : mH, (w3 = sfi w2 a0 5 ((hfi w2 a0 5) - 1)) → Φ (.inl (some (.int ((hfi w2 a0 5) - 1)))) w3) (k2 : ((hfi w a0 5) = 0) → ∀ w4 : mH, (w4 = sfi w a0 0 1) → Φ (.inl (some (.int 0))) w4) : mW G mX11_undo 4 0 0 0 [(0, .ref a0)] [] w Φ := by
  refine mW_aload_n (j := 0) dX11_undo_0 rfl rfl ?_
  refine mW_aload_n (j := 0) dX11_undo_1 rfl rfl ?_
  refine mW_get dX11_undo_2 f_X11_83 h1 rfl ?_
  refine mW_if_ne (tgt := 12) dX11_undo_5 (by decide) (fun c1 => ?_) (fun c1 => ?_)
  · refine mW_iconst (v := 0) dX11_undo_12 (by decide) ?_
    refine mW_put (ty := .int) (w2 := sfi w a0 0 0) dX11_undo_13 p_X11_3 h1 (Nat.le_of_ble_eq_true rfl) (by first | rfl | decide | (repeat' split) <;> rfl) rfl (hN_sfi _ _ _ _) (hk_sfi _ _ _ _) (mE_sfi h1 (by decide) (ob_11_0 _ _ _)) ?_
    refine mW_nm (fun w1 e1 => ?_)
    refine mW_aload_n (j := 0) dX11_undo_16 rfl rfl ?_
    refine mW_getL (v := 0) dX11_undo_17 f_X11_3 (s2k (S2_sfi e1) h1) rfl (by rw [e1, e_hfi_sfi, up2_at]) ?_
    refine mW_if_eq (tgt := 25) dX11_undo_20 (by decide) (fun _ => ?_) (fun c => absurd (by decide) c)
    refine mW_aload_n (j := 0) dX11_undo_25 rfl rfl ?_
    refine mW_aload_n (j := 0) dX11_undo_26 rfl rfl ?_
    refine mW_getL (v := hfi w a0 5) dX11_undo_27 f_X11_83 (s2k (S2_sfi e1) h1) rfl (by rw [e1, e_hfi_sfi, up2_k _ _ _ (by decide)]) ?_
    refine mW_iconst (v := 0) dX11_undo_30 (by decide) ?_
    refine mW_callV (As := [.int (hfi w a0 5), .int 0]) (rest := []) (kc2 := 0) (ks2 := 0) dX11_undo_31 l_X11_86 rfl (s2k (S2_sfi e1) h1) rfl (by decide) (rX11_copies (w := w1) (a0 := a0) (x1 := hfi w a0 5) (x2 := 0) (zRef_s2 (S2_sfi e1) h2) (s1 c1 w1 e1) (s2 c1 w1 e1) (s3 c1 w1 e1) (s4 c1 w1 e1)) (Nat.le_of_ble_eq_true rfl) (by decide) rfl rfl mP_x (mP_k (fun w2 q1 => ?_))
    refine mW_aload_n (j := 0) dX11_undo_34 rfl rfl ?_
    refine mW_dup dX11_undo_35 rfl ?_
    refine mW_get dX11_undo_36 f_X11_83 (s2k (mS2.of q1.1.1) (s2k (S2_sfi e1) h1)) rfl ?_
    refine mW_iconst (v := 1) dX11_undo_39 (by decide) ?_
    refine mW_isub dX11_undo_40 ?_
    refine mW_put (ty := .int) (w2 := sfi w2 a0 5 ((hfi w2 a0 5) - 1)) dX11_undo_41 p_X11_83 (s2k (mS2.of q1.1.1) (s2k (S2_sfi e1) h1)) (Nat.le_of_ble_eq_true rfl) (by first | rfl | decide | (repeat' split) <;> rfl) rfl (hN_sfi _ _ _ _) (hk_sfi _ _ _ _) (mE_sfi (s2k (mS2.of q1.1.1) (s2k (S2_sfi e1) h1)) (by decide) (ob_11_5 _ _ _)) ?_
    refine mW_nm (fun w3 e2 => ?_)
    refine mW_aload_n (j := 0) dX11_undo_44 rfl rfl ?_
    refine mW_getL (v := (hfi w2 a0 5) - 1) dX11_undo_45 f_X11_83 (s2k (S2_sfi e2) (s2k (mS2.of q1.1.1) (s2k (S2_sfi e1) h1))) rfl (by rw [e2, e_hfi_sfi, up2_at]) ?_
    exact mW_iret dX11_undo_48 rfl (k1 c1 w1 e1 w2 q1 w3 e2)
  · refine mW_iconst (v := 1) dX11_undo_8 (by decide) ?_
    refine mW_goto (tgt := 13) dX11_undo_9 (by decide) ?_
    refine mW_put (ty := .int) (w2 := sfi w a0 0 1) dX11_undo_13 p_X11_3 h1 (Nat.le_of_ble_eq_true rfl) (by first | rfl | decide | (repeat' split) <;> rfl) rfl (hN_sfi _ _ _ _) (hk_sfi _ _ _ _) (mE_sfi h1 (by decide) (ob_11_0 _ _ _)) ?_
    refine mW_nm (fun w4 e3 => ?_)
    refine mW_aload_n (j := 0) dX11_undo_16 rfl rfl ?_
    refine mW_getL (v := 1) dX11_undo_17 f_X11_3 (s2k (S2_sfi e3) h1) rfl (by rw [e3, e_hfi_sfi, up2_at]) ?_
    refine mW_if_eq (tgt := 25) dX11_undo_20 (by decide) (fun c => absurd c (by decide)) (fun _ => ?_)
    refine mW_iconst (v := 0) dX11_undo_23 (by decide) ?_
    exact mW_iret dX11_undo_24 rfl (k2 c1 w4 e3)
abbrev mX11_save : mM := (yX11_save, cX11_save, 1, (some .int), [])
theorem u1566 : (Cond.fieldLink "LineFollowerBenchModel" 299 "LineFollowerBenchModel" "isSaved" "Z" : Cond) ∈ mTs := mTs_in 1566 (by decide +kernel) (by decide +kernel)
theorem p_X11_299 : mPut "LineFollowerBenchModel" 299 11 6 (.boolean) false := ⟨RX11, TX11, 36, "LineFollowerBenchModel", tyX11, rfl, by decide, in_X11, u1566, Or.inl rfl, by decide, tyX11_ok, nmX11, by decide +kernel, rfl, fun h => by cases h⟩
theorem ob_11_6 (w : mH) (a : Nat) (v : Int32) : mOb (sfi w a 6 v) a 11 = (mOb w a 11).set 6 (.int v) := by simp [mOb, hfi_sfi, hfl_sfi, hfr_sfi, up2]
set_option maxHeartbeats 4000000 in
set_option maxRecDepth 100000 in
theorem gX11_save_0 {G : mG} {w : mH} {Φ : mF} {a0 c : Nat} {A : Nat → Int32} {a0_1 n_a0_1 : Nat} (h1 : hk w a0 = (11, 0)) (h2 : zRef w a0) (s1 : ∀ w1 : mH, (w1 = sfi w a0 0 0) → ∀ w2 : mH, (w2 = sfi w1 a0 6 1) → 0 = nI (nT 0)) (s2 : ∀ w1 : mH, (w1 = sfi w a0 0 0) → ∀ w2 : mH, (w2 = sfi w1 a0 6 1) → 7 = nI (nT 7)) (s3 : ∀ w1 : mH, (w1 = sfi w a0 0 0) → ∀ w2 : mH, (w2 = sfi w1 a0 6 1) → nT 0 ≤ 7) (s4 : ∀ w1 : mH, (w1 = sfi w a0 0 0) → ∀ w2 : mH, (w2 = sfi w1 a0 6 1) → nT 7 ≤ 7) (h3 : hfr w a0 1 = some a0_1) (h4 : hk w a0_1 = (16, n_a0_1)) (s5 : vp_in 40 n_a0_1) (k1 : ∀ w1 : mH, (w1 = sfi w a0 0 0) → ∀ w2 : mH, (w2 = sfi w1 a0 6 1) → ∀ w3 : mH, (xF [] [1] a0 w2 w3 ∧ hai w3 (a0 + 1) = cpR (hai w2 (a0 + 1)) (nT 0) (nT 7)) → Φ (.inl (some (.int (hai w3 a0_1 40)))) w3) : mW G mX11_save 4 0 0 0 [(0, .ref a0)] [] w Φ := by
  refine mW_aload_n (j := 0) dX11_save_0 rfl rfl ?_
  refine mW_iconst (v := 0) dX11_save_1 (by decide) ?_
  refine mW_put (ty := .int) (w2 := sfi w a0 0 0) dX11_save_2 p_X11_3 h1 (Nat.le_of_ble_eq_true rfl) (by first | rfl | decide | (repeat' split) <;> rfl) rfl (hN_sfi _ _ _ _) (hk_sfi _ _ _ _) (mE_sfi h1 (by decide) (ob_11_0 _ _ _)) ?_
  refine mW_nm (fun w1 e1 => ?_)
  refine mW_aload_n (j := 0) dX11_save_5 rfl rfl ?_
  refine mW_iconst (v := 1) dX11_save_6 (by decide) ?_
  refine mW_put (ty := .boolean) (w2 := sfi w1 a0 6 1) dX11_save_7 p_X11_299 (s2k (S2_sfi e1) h1) (Nat.le_of_ble_eq_true rfl) (by first | rfl | decide | (repeat' split) <;> rfl) rfl (hN_sfi _ _ _ _) (hk_sfi _ _ _ _) (mE_sfi (s2k (S2_sfi e1) h1) (by decide) (ob_11_6 _ _ _)) ?_
  refine mW_nm (fun w2 e2 => ?_)
  refine mW_aload_n (j := 0) dX11_save_10 rfl rfl ?_
  refine mW_iconst (v := 0) dX11_save_11 (by decide) ?_
  refine mW_bipush (v := 7) dX11_save_12 (by decide) ?_
  refine mW_callV (As := [.int 0, .int 7]) (rest := []) (kc2 := 0) (ks2 := 0) dX11_save_14 l_X11_86 rfl (s2k (S2_sfi e2) (s2k (S2_sfi e1) h1)) rfl (by decide) (rX11_copies (w := w2) (a0 := a0) (x1 := 0) (x2 := 7) (zRef_s2 (S2_sfi e2) (zRef_s2 (S2_sfi e1) h2)) (s1 w1 e1 w2 e2) (s2 w1 e1 w2 e2) (s3 w1 e1 w2 e2) (s4 w1 e1 w2 e2)) (Nat.le_of_ble_eq_true rfl) (by decide) rfl rfl mP_x (mP_k (fun w3 q1 => ?_))
  refine mW_aload_n (j := 0) dX11_save_17 rfl rfl ?_
  refine mW_getR dX11_save_18 f_X11_13 (s2k (mS2.of q1.1.1) (s2k (S2_sfi e2) (s2k (S2_sfi e1) h1))) rfl (s2r (mS2.of q1.1.1) (s2r (S2_sfi e2) (s2r (S2_sfi e1) h3))) ?_
  refine mW_bipush (v := 40) dX11_save_21 (by decide) ?_
  refine mW_ialdJ dX11_save_23 (s2k (mS2.of q1.1.1) (s2k (S2_sfi e2) (s2k (S2_sfi e1) h4))) s5 (j := 40) (by decide) ?_
  exact mW_iret dX11_save_24 rfl (k1 w1 e1 w2 e2 w3 q1)
abbrev mX11_restore : mM := (yX11_restore, cX11_restore, 1, (some .int), [])
theorem f_X11_299 : mFld "LineFollowerBenchModel" 299 11 6 := ⟨RX11, TX11, 36, "LineFollowerBenchModel", rfl, by decide, in_X11, u1566, Or.inl rfl, by decide⟩
set_option maxHeartbeats 4000000 in
set_option maxRecDepth 100000 in
theorem gX11_restore_0 {G : mG} {w : mH} {Φ : mF} {a0 c : Nat} {A : Nat → Int32} {a0_1 n_a0_1 : Nat} (h1 : hk w a0 = (11, 0)) (h2 : zRef w a0) (s1 : (¬ ((hfi w a0 6) = 0)) → ∀ w2 : mH, (w2 = sfi w a0 0 0) → hfi w2 a0 5 = nI c) (s2 : (¬ ((hfi w a0 6) = 0)) → ∀ w2 : mH, (w2 = sfi w a0 0 0) → c ≤ 6) (s3 : (¬ ((hfi w a0 6) = 0)) → ∀ w2 : mH, (w2 = sfi w a0 0 0) → ∀ w3 : mH, (kpO w2 w3 a0 c) → 7 = nI (nT 7)) (s4 : (¬ ((hfi w a0 6) = 0)) → ∀ w2 : mH, (w2 = sfi w a0 0 0) → ∀ w3 : mH, (kpO w2 w3 a0 c) → 0 = nI (nT 0)) (s5 : (¬ ((hfi w a0 6) = 0)) → ∀ w2 : mH, (w2 = sfi w a0 0 0) → ∀ w3 : mH, (kpO w2 w3 a0 c) → nT 7 ≤ 7) (s6 : (¬ ((hfi w a0 6) = 0)) → ∀ w2 : mH, (w2 = sfi w a0 0 0) → ∀ w3 : mH, (kpO w2 w3 a0 c) → nT 0 ≤ 7) (h3 : hfr w a0 1 = some a0_1) (h4 : hk w a0_1 = (16, n_a0_1)) (s7 : vp_in 40 n_a0_1) (k1 : ((hfi w a0 6) = 0) → ∀ w1 : mH, (w1 = sfi w a0 0 1) → Φ (.inl (some (.int 0))) w1) (k2 : (¬ ((hfi w a0 6) = 0)) → ∀ w2 : mH, (w2 = sfi w a0 0 0) → ∀ w3 : mH, (kpO w2 w3 a0 c) → ∀ w4 : mH, (xF [] [1] a0 w3 w4 ∧ hai w4 (a0 + 1) = cpR (hai w3 (a0 + 1)) (nT 7) (nT 0)) → Φ (.inl (some (.int (hai w4 a0_1 40)))) w4) : mW G mX11_restore 4 0 0 0 [(0, .ref a0)] [] w Φ := by
  refine mW_aload_n (j := 0) dX11_restore_0 rfl rfl ?_
  refine mW_aload_n (j := 0) dX11_restore_1 rfl rfl ?_
  refine mW_get dX11_restore_2 f_X11_299 h1 rfl ?_
  refine mW_if_eq (tgt := 12) dX11_restore_5 (by decide) (fun c1 => ?_) (fun c1 => ?_)
  · refine mW_iconst (v := 1) dX11_restore_12 (by decide) ?_
    refine mW_put (ty := .int) (w2 := sfi w a0 0 1) dX11_restore_13 p_X11_3 h1 (Nat.le_of_ble_eq_true rfl) (by first | rfl | decide | (repeat' split) <;> rfl) rfl (hN_sfi _ _ _ _) (hk_sfi _ _ _ _) (mE_sfi h1 (by decide) (ob_11_0 _ _ _)) ?_
    refine mW_nm (fun w1 e1 => ?_)
    refine mW_aload_n (j := 0) dX11_restore_16 rfl rfl ?_
    refine mW_getL (v := 1) dX11_restore_17 f_X11_3 (s2k (S2_sfi e1) h1) rfl (by rw [e1, e_hfi_sfi, up2_at]) ?_
    refine mW_if_eq (tgt := 25) dX11_restore_20 (by decide) (fun c => absurd c (by decide)) (fun _ => ?_)
    refine mW_iconst (v := 0) dX11_restore_23 (by decide) ?_
    exact mW_iret dX11_restore_24 rfl (k1 c1 w1 e1)
  · refine mW_iconst (v := 0) dX11_restore_8 (by decide) ?_
    refine mW_goto (tgt := 13) dX11_restore_9 (by decide) ?_
    refine mW_put (ty := .int) (w2 := sfi w a0 0 0) dX11_restore_13 p_X11_3 h1 (Nat.le_of_ble_eq_true rfl) (by first | rfl | decide | (repeat' split) <;> rfl) rfl (hN_sfi _ _ _ _) (hk_sfi _ _ _ _) (mE_sfi h1 (by decide) (ob_11_0 _ _ _)) ?_
    refine mW_nm (fun w2 e2 => ?_)
    refine mW_aload_n (j := 0) dX11_restore_16 rfl rfl ?_
    refine mW_getL (v := 0) dX11_restore_17 f_X11_3 (s2k (S2_sfi e2) h1) rfl (by rw [e2, e_hfi_sfi, up2_at]) ?_
    refine mW_if_eq (tgt := 25) dX11_restore_20 (by decide) (fun _ => ?_) (fun c => absurd (by decide) c)
    refine mW_aload_n (j := 0) dX11_restore_25 rfl rfl ?_
    refine mW_callV (As := []) (rest := []) (kc2 := 0) (ks2 := 0) dX11_restore_26 l_X11_96 rfl (s2k (S2_sfi e2) h1) rfl (by decide) (rX11_keeps (w := w2) (a0 := a0) (zRef_s2 (S2_sfi e2) h2) (s1 c1 w2 e2) (s2 c1 w2 e2)) (Nat.le_of_ble_eq_true rfl) (by decide) rfl rfl mP_x (mP_k (fun w3 q1 => ?_))
    refine mW_aload_n (j := 0) dX11_restore_29 rfl rfl ?_
    refine mW_bipush (v := 7) dX11_restore_30 (by decide) ?_
    refine mW_iconst (v := 0) dX11_restore_32 (by decide) ?_
    refine mW_callV (As := [.int 7, .int 0]) (rest := []) (kc2 := 0) (ks2 := 0) dX11_restore_33 l_X11_86 rfl (s2k (mS2.of q1.1.1) (s2k (S2_sfi e2) h1)) rfl (by decide) (rX11_copies (w := w3) (a0 := a0) (x1 := 7) (x2 := 0) (zRef_s2 (mS2.of q1.1.1) (zRef_s2 (S2_sfi e2) h2)) (s3 c1 w2 e2 w3 q1) (s4 c1 w2 e2 w3 q1) (s5 c1 w2 e2 w3 q1) (s6 c1 w2 e2 w3 q1)) (Nat.le_of_ble_eq_true rfl) (by decide) rfl rfl mP_x (mP_k (fun w4 q2 => ?_))
    refine mW_aload_n (j := 0) dX11_restore_36 rfl rfl ?_
    refine mW_getR dX11_restore_37 f_X11_13 (s2k (mS2.of q2.1.1) (s2k (mS2.of q1.1.1) (s2k (S2_sfi e2) h1))) rfl (s2r (mS2.of q2.1.1) (s2r (mS2.of q1.1.1) (s2r (S2_sfi e2) h3))) ?_
    refine mW_bipush (v := 40) dX11_restore_40 (by decide) ?_
    refine mW_ialdJ dX11_restore_42 (s2k (mS2.of q2.1.1) (s2k (mS2.of q1.1.1) (s2k (S2_sfi e2) h4))) s7 (j := 40) (by decide) ?_
    exact mW_iret dX11_restore_43 rfl (k2 c1 w2 e2 w3 q1 w4 q2)
/-- undo: with c changes kept -/
def unO (w w' : mH) (a c : Nat) : Prop := xF [0, 5] [1] a w w' ∧ hfi w' a 0 = (if c = 0 then 1 else 0) ∧ (c = 0 → xF [0] [] a w w' ∧ True) ∧ (¬ c = 0 → hfi w' a 5 = nI (c - 1) ∧ hai w' (a + 1) = cpR (hai w (a + 1)) c 0)
theorem rX11_undo {G : mG} {w : mH} {a0 c : Nat} (z : zRef w a0) (h5 : hfi w a0 5 = nI c) (hc : c ≤ 6) : mC G mX11_undo 4 0 0 [.ref a0] w (mP (some (.int (if c = 0 then 0 else nI (c - 1)))) (fun w' => xF [0, 5] [1] a0 w w' ∧ hfi w' a0 0 = (if c = 0 then 1 else 0) ∧ (c = 0 → xF [0] [] a0 w w' ∧ True) ∧ (¬ c = 0 → hfi w' a0 5 = nI (c - 1) ∧ hai w' (a0 + 1) = cpR (hai w (a0 + 1)) c 0))) := by
  refine mC_of (by decide +kernel) rfl (Nat.le_of_ble_eq_true rfl) rfl ?_
  refine gX11_undo_0 (c := c) (A := fun _ => 0) z.1 z (by intro c1 w1 e1; unfold nT; rw [h5, m_cl (by omega)]) (by intro c1 w1 e1; rfl) (by intro c1 w1 e1; unfold nT; rw [h5, m_cl (by omega)]; omega) (by intro c1 w1 e1; decide) ?_ ?_
  · intro c1 w1 e1 w2 q1 w3 e2
    have hc0 : ¬ c = 0 := fun q => c1 (by rw [h5, q]; rfl)
    rw [show nT (hfi w a0 5) = c by unfold nT; rw [h5, m_cl (by omega)], show nT 0 = 0 from rfl, show hai w1 (a0 + 1) = hai w (a0 + 1) by rw [e1]; rfl] at q1
    have F1 : xF [0, 5] [1] a0 w w1 := by rw [e1]; exact xF_sfi xF.rf (by decide)
    have F2 := F1.tr (q1.1.wide (by decide) (by decide))
    have g5 : hfi w2 a0 5 = nI c := by rw [q1.1.fi (by decide), e1, e_hfi_sfi, up2_k _ _ _ (by decide)]; exact h5
    have ev : hfi w2 a0 5 - 1 = nI (c - 1) := by rw [g5, show c = (c - 1) + 1 by omega, nI_pred]; congr 1
    rw [ev] at e2 ⊢
    rw [if_neg hc0, if_neg hc0]
    refine mP_of ⟨by rw [e2]; exact xF_sfi F2 (by decide), ?_, fun q => absurd q hc0, fun _ => ⟨by rw [e2, e_hfi_sfi, up2_at], ?_⟩⟩
    · rw [e2, e_hfi_sfi, up2_k _ _ _ (by decide), q1.1.fi (by decide), e1, e_hfi_sfi, up2_at]
    · rw [e2, e_hai_sfi]; exact q1.2
  · intro c1 w4 e3
    have hc0 : c = 0 := by rw [h5] at c1; exact (nI_eq (b := 0) (by omega) (by decide)).mp c1
    rw [if_pos hc0, if_pos hc0]
    exact mP_of ⟨by rw [e3]; exact xF_sfi xF.rf (by decide), by rw [e3, e_hfi_sfi, up2_at], fun _ => by rw [e3]; exact ⟨xF_sfi xF.rf (by decide), trivial⟩, fun q => absurd hc0 q⟩
theorem rX11_save {G : mG} {w : mH} {a0 : Nat} (z : zRef w a0) : mC G mX11_save 4 0 0 [.ref a0] w (mP (some (.int (hai w (a0 + 1) 40))) (fun w' => xF [0, 6] [1] a0 w w' ∧ hfi w' a0 0 = 0 ∧ hfi w' a0 6 = 1 ∧ hai w' (a0 + 1) = cpR (hai w (a0 + 1)) 0 7)) := by
  refine mC_of (by decide +kernel) rfl (Nat.le_of_ble_eq_true rfl) rfl ?_
  refine gX11_save_0 (c := 0) (A := fun _ => 0) (a0_1 := a0 + 1) z.1 z (by intro w1 e1 w2 e2; rfl) (by intro w1 e1 w2 e2; rfl) (by intro w1 e1 w2 e2; decide) (by intro w1 e1 w2 e2; decide) z.2.1 z.2.2.2.2.2.2.2.2.2.2.2.2.2.2.2.2.2.2.2.2.2.2.1 (by intros; unfold vp_in; decide) ?_
  · intro w1 e1 w2 e2 w3 q1
    rw [show nT 0 = 0 from rfl, show nT 7 = 7 from rfl, show hai w2 (a0 + 1) = hai w (a0 + 1) by rw [e2, e1]; rfl] at q1
    have F2 : xF [0, 6] [1] a0 w w2 := by rw [e2, e1]; exact xF_sfi (xF_sfi xF.rf (by decide)) (by decide)
    have e40 : hai w3 (a0 + 1) 40 = hai w (a0 + 1) 40 := by rw [q1.2]; exact (cpR_row (r := 0) (k := 40) (by decide)).trans (if_neg (by decide))
    rw [e40]
    exact mP_of ⟨F2.tr (q1.1.wide (by decide) (by decide)), by rw [q1.1.fi (by decide), e2, e_hfi_sfi, up2_k _ _ _ (by decide), e1, e_hfi_sfi, up2_at], by rw [q1.1.fi (by decide), e2, e_hfi_sfi, up2_at], q1.2⟩
theorem rX11_restore {G : mG} {w : mH} {a0 c : Nat} (z : zRef w a0) (h5 : hfi w a0 5 = nI c) (hc : c ≤ 6) : mC G mX11_restore 4 0 0 [.ref a0] w (mP (some (.int (if hfi w a0 6 = 0 then 0 else rwR w a0 7 40))) (fun w' => chO w w' a0 c (if hfi w a0 6 = 0 then 1 else 0) (rwR w a0 7))) := by
  refine mC_of (by decide +kernel) rfl (Nat.le_of_ble_eq_true rfl) rfl ?_
  refine gX11_restore_0 (c := c) (A := fun _ => 0) (a0_1 := a0 + 1) z.1 z (by intro c1 w2 e2; rw [e2, e_hfi_sfi, up2_k _ _ _ (by decide)]; exact h5) (by intro c1 w2 e2; exact hc) (by intro c1 w2 e2 w3 q1; rfl) (by intro c1 w2 e2 w3 q1; rfl) (by intro c1 w2 e2 w3 q1; decide) (by intro c1 w2 e2 w3 q1; decide) z.2.1 z.2.2.2.2.2.2.2.2.2.2.2.2.2.2.2.2.2.2.2.2.2.2.1 (by intros; unfold vp_in; decide) ?_ ?_
  · intro c1 w1 e1
    rw [if_pos c1, if_pos c1]
    exact mP_of (chO_bad (by decide) e1)
  · intro c1 w2 e2 w3 q1 w4 q2
    rw [if_neg c1, if_neg c1]
    rw [show nT 0 = 0 from rfl, show nT 7 = 7 from rfl] at q2
    have R0 : ∀ k, k < 78 → hai w4 (a0 + 1) k = rwR w a0 7 k := fun k hk => by
      have e := cpR_row (A := hai w3 (a0 + 1)) (f := 7) (t := 0) (r := 0) (k := k) hk
      rw [if_pos rfl, Nat.mul_zero, Nat.zero_add] at e
      rw [q2.2, e]
      have := q1.2.2.2.1 k hk
      unfold rwR at this
      rw [this, e2]
      rfl
    rw [R0 40 (by decide)]
    refine mP_of (chO_ok e2 q1 q2.1 R0 (fun j hj => ?_))
    rw [q2.2]
    unfold cpR cpK
    rw [if_neg (by omega)]

