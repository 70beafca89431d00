/-! a field read through what was written ahead -/
theorem mW_getL {G : mG} {M : mM} {d kc ks pc : Nat} {lv : List (Nat × Value)} {st : List Value} {w : mH} {Φ : mF} {a idx ci k : Nat} {v : Int32} (hd : decode M.2.1 pc = .ok (.getfield idx, 3)) (hF : mFld M.1.cls idx ci k) (hkd : hk w a = (ci, 0)) (hv : (mOb w a ci)[k]? = some (.int (hfi w a k))) (hq : hfi w a k = v) (kk : mW G M d kc ks (pc + 3) lv (.int v :: st) w Φ) : mW G M d kc ks pc lv (.ref a :: st) w Φ := by
  refine mW_get hd hF hkd hv ?_
  rw [hq]
  exact kk
theorem iw_N {x M : Int32} {n : Nat} (hn : n ≤ 70000) (hM : M = nI n) (h : ¬ vX10_isWithin x 0 M = 0) : ∃ i, i ≤ n ∧ x = nI i := by
  obtain ⟨h1, h2⟩ := iw_n h
  subst hM
  exact nI_of2 (nI_toInt (by omega)) (Int32.not_lt.mpr h1) h2
def cst (w : mH) (a : Nat) : Prop := (∀ i, i < 15 → hai w (a + 2) i = (mSv 1).getD i 0) ∧ ∀ i, i < 15 → hai w (a + 3) i = (mSv 2).getD i 0
def chO (w w' : mH) (a c : Nat) (t : Int32) (A' : Nat → Int32) : Prop := hfi w' a 0 = t ∧ (t = 0 → xF [0, 5] [1] a w w' ∧ hsO w w' a c A') ∧ (¬ t = 0 → xF [0] [] a w w')
theorem chO_bad {w w' : mH} {a c : Nat} {t : Int32} {A' : Nat → Int32} (ht : ¬ t = 0) (e : w' = sfi w a 0 t) : chO w w' a c t A' := ⟨by rw [e, e_hfi_sfi, up2_at], fun q => absurd q ht, fun _ => by rw [e]; exact xF_sfi xF.rf (by decide)⟩
theorem kp_0 {w1 w2 : mH} {a c k : Nat} (K : kpO w1 w2 a c) (hk : k < 78) : hai w2 (a + 1) k = hai w1 (a + 1) k := by
  have := K.2.2.1 k hk
  unfold rwR at this
  rw [Nat.mul_zero, Nat.zero_add] at this
  exact this
/-- a change: keeps, then the row is written -/
theorem chO_ok {w w1 w2 w' : mH} {a c : Nat} {A' : Nat → Int32} (e1 : w1 = sfi w a 0 0) (K : kpO w1 w2 a c) (F : xF [] [1] a w2 w') (h0 : ∀ k, k < 78 → hai w' (a + 1) k = A' k) (h1 : ∀ j, 78 ≤ j → hai w' (a + 1) j = hai w2 (a + 1) j) : chO w w' a c 0 A' := by
  have F1 : xF [0, 5] [1] a w w1 := by rw [e1]; exact xF_sfi xF.rf (by decide)
  refine ⟨?_, fun _ => ⟨(F1.tr (K.1.wide (by decide) (by decide))).tr (F.wide (by decide) (by decide)), ?_⟩, fun q => absurd rfl q⟩
  · rw [F.fi (by decide), K.1.fi (by decide), e1, e_hfi_sfi, up2_at]
  · exact hsO_of K (by rw [e1]; rfl) (F.fi (by decide)) h0 h1
def tSet (x1 x2 : Int32) : Int32 := if vX10_isWithin x1 0 14 = 0 then 1 else if vX10_isWithin x2 ((mSv 1).getD x1.toNatClampNeg 0) ((mSv 2).getD x1.toNatClampNeg 0) = 0 then 2 else 0
def tWei (x1 x2 : Int32) : Int32 := if vX10_isWithin x1 0 4 = 0 then 1 else if vX10_isWithin x2 0 99 = 0 then 2 else 0
def tGrd (x1 x2 x3 x4 : Int32) : Int32 := if vX10_isWithin x1 0 2 = 0 then 1 else if vX10_isWithin x2 0 999 = 0 then 2 else if vX10_isWithin x3 1 200 = 0 then 2 else if vX10_isWithin x4 1 6 = 0 then 2 else if x2 + x3 * (x4 - 1) ≤ 999 then 0 else 2
def upG (A : Nat → Int32) (g : Nat) (x2 x3 x4 : Int32) : Nat → Int32 := upd (upd (upd A (20 + 3 * g) x2) (20 + 3 * g + 1) x3) (20 + 3 * g + 2) x4
def trI (A : Nat → Int32) : Int32 := A 22 * A 25 * A 28
abbrev mX11_set : mM := (yX11_set, cX11_set, 4, (some .int), [])
theorem u1562 : (Cond.fieldLink "LineFollowerBenchModel" 17 "LineFollowerBenchModel" "leasts" "[I" : Cond) ∈ mTs := mTs_in 1562 (by decide +kernel) (by decide +kernel)
theorem f_X11_17 : mFld "LineFollowerBenchModel" 17 11 2 := ⟨RX11, TX11, 36, "LineFollowerBenchModel", rfl, by decide, in_X11, u1562, Or.inl rfl, by decide⟩
theorem u1563 : (Cond.fieldLink "LineFollowerBenchModel" 21 "LineFollowerBenchModel" "mosts" "[I" : Cond) ∈ mTs := mTs_in 1563 (by decide +kernel) (by decide +kernel)
theorem f_X11_21 : mFld "LineFollowerBenchModel" 21 11 3 := ⟨RX11, TX11, 36, "LineFollowerBenchModel", rfl, by decide, in_X11, u1563, Or.inl rfl, by decide⟩
set_option maxHeartbeats 4000000 in
set_option maxRecDepth 100000 in
theorem gX11_set_0 {G : mG} {w : mH} {Φ : mF} {a0 : Nat} {x1 x2 : Int32} {c : Nat} {A : Nat → Int32} {a0_2 n_a0_2 a0_3 n_a0_3 a0_1 n_a0_1 : Nat} (h1 : hk w a0 = (11, 0)) (h2 : hfr w a0 2 = some a0_2) (h3 : hk w a0_2 = (16, n_a0_2)) (s1 : (¬ ((vX11_in x1.toInt64 0 14) = 0)) → vp_in x1 n_a0_2) (h4 : hfr w a0 3 = some a0_3) (h5 : hk w a0_3 = (16, n_a0_3)) (s2 : (¬ ((vX11_in x1.toInt64 0 14) = 0)) → vp_in x1 n_a0_3) (h6 : zRef w a0) (s3 : (¬ ((vX11_in x1.toInt64 0 14) = 0)) → (¬ ((vX11_in x2.toInt64 ((hai w a0_2 x1.toNatClampNeg).toInt64) ((hai w a0_3 x1.toNatClampNeg).toInt64)) = 0)) → ∀ w1 : mH, (w1 = sfi w a0 0 0) → hfi w1 a0 5 = nI c) (s4 : (¬ ((vX11_in x1.toInt64 0 14) = 0)) → (¬ ((vX11_in x2.toInt64 ((hai w a0_2 x1.toNatClampNeg).toInt64) ((hai w a0_3 x1.toNatClampNeg).toInt64)) = 0)) → ∀ w1 : mH, (w1 = sfi w a0 0 0) → c ≤ 6) (h7 : hfr w a0 1 = some a0_1) (h8 : hk w a0_1 = (16, n_a0_1)) (s5 : (¬ ((vX11_in x1.toInt64 0 14) = 0)) → (¬ ((vX11_in x2.toInt64 ((hai w a0_2 x1.toNatClampNeg).toInt64) ((hai w a0_3 x1.toNatClampNeg).toInt64)) = 0)) → ∀ w1 : mH, (w1 = sfi w a0 0 0) → ∀ w2 : mH, (kpO w1 w2 a0 c) → vp_in x1 n_a0_1) (k1 : (¬ ((vX11_in x1.toInt64 0 14) = 0)) → (¬ ((vX11_in x2.toInt64 ((hai w a0_2 x1.toNatClampNeg).toInt64) ((hai w a0_3 x1.toNatClampNeg).toInt64)) = 0)) → ∀ w1 : mH, (w1 = sfi w a0 0 0) → ∀ w2 : mH, (kpO w1 w2 a0 c) → ∀ w3 : mH, (w3 = sai w2 a0_1 x1.toNatClampNeg x2) → Φ (.inl (some (.int (hai w2 a0_1 x1.toNatClampNeg)))) w3) (k2 : (¬ ((vX11_in x1.toInt64 0 14) = 0)) → ((vX11_in x2.toInt64 ((hai w a0_2 x1.toNatClampNeg).toInt64) ((hai w a0_3 x1.toNatClampNeg).toInt64)) = 0) → ∀ w4 : mH, (w4 = sfi w a0 0 2) → Φ (.inl (some (.int 0))) w4) (k3 : ((vX11_in x1.toInt64 0 14) = 0) → ∀ w5 : mH, (w5 = sfi w a0 0 1) → Φ (.inl (some (.int 0))) w5) : mW G mX11_set 4 0 0 0 [(0, .ref a0), (1, .int x1), (2, .int x2)] [] w Φ := by
  refine mW_aload_n (j := 0) dX11_set_0 rfl rfl ?_
  refine mW_iload_n (j := 1) dX11_set_1 rfl rfl ?_
  refine mW_i2l dX11_set_2 ?_
  refine mW_lconst (v := 0) dX11_set_3 (by decide) ?_
  refine mW_ldc2 (v := 14) dX11_set_4 u1674 ?_
  refine mW_callSe (As := [.long x1.toInt64, .long 0, .long 14]) (rest := [.ref a0]) (kc2 := 0) (ks2 := 0) dX11_set_7 l_X11_92 rfl (qX11_in (w := w) (y0 := x1.toInt64) (y2 := 0) (y4 := 14)) (Nat.le_of_ble_eq_true rfl) (by decide) rfl rfl ?_
  refine mW_if_ne (tgt := 17) dX11_set_10 (by decide) (fun c1 => ?_) (fun c1 => ?_)
  · refine mW_iload_n (j := 2) dX11_set_17 rfl rfl ?_
    refine mW_i2l dX11_set_18 ?_
    refine mW_aload_n (j := 0) dX11_set_19 rfl rfl ?_
    refine mW_getR dX11_set_20 f_X11_17 h1 rfl h2 ?_
    refine mW_iload_n (j := 1) dX11_set_23 rfl rfl ?_
    refine mW_ialdJ dX11_set_24 h3 (s1 c1) rfl ?_
    refine mW_i2l dX11_set_25 ?_
    refine mW_aload_n (j := 0) dX11_set_26 rfl rfl ?_
    refine mW_getR dX11_set_27 f_X11_21 h1 rfl h4 ?_
    refine mW_iload_n (j := 1) dX11_set_30 rfl rfl ?_
    refine mW_ialdJ dX11_set_31 h5 (s2 c1) rfl ?_
    refine mW_i2l dX11_set_32 ?_
    refine mW_callSe (As := [.long x2.toInt64, .long ((hai w a0_2 x1.toNatClampNeg).toInt64), .long ((hai w a0_3 x1.toNatClampNeg).toInt64)]) (rest := [.ref a0]) (kc2 := 0) (ks2 := 0) dX11_set_33 l_X11_92 rfl (qX11_in (w := w) (y0 := x2.toInt64) (y2 := (hai w a0_2 x1.toNatClampNeg).toInt64) (y4 := (hai w a0_3 x1.toNatClampNeg).toInt64)) (Nat.le_of_ble_eq_true rfl) (by decide) rfl rfl ?_
    refine mW_if_ne (tgt := 43) dX11_set_36 (by decide) (fun c2 => ?_) (fun c2 => ?_)
    · refine mW_iconst (v := 0) dX11_set_43 (by decide) ?_
      refine mW_put (ty := .int) (w2 := sfi w a0 0 0) dX11_set_44 p_X11_3 h1 (Nat.le_of_ble_eq_true rfl) (by first | rfl | decide | (repeat' split) <;> rfl) rfl (hN_sfi _ _ _ _) (hk_sfi _ _ _ _) (mE_sfi h1 (by decide) (ob_11_0 _ _ _)) ?_
      refine mW_nm (fun w1 e1 => ?_)
      refine mW_aload_n (j := 0) dX11_set_47 rfl rfl ?_
      refine mW_getL (v := 0) dX11_set_48 f_X11_3 (s2k (S2_sfi e1) h1) rfl (by rw [e1, e_hfi_sfi, up2_at]) ?_
      refine mW_if_eq (tgt := 56) dX11_set_51 (by decide) (fun _ => ?_) (fun c => absurd (by decide) c)
      refine mW_aload_n (j := 0) dX11_set_56 rfl rfl ?_
      refine mW_callV (As := []) (rest := []) (kc2 := 0) (ks2 := 0) dX11_set_57 l_X11_96 rfl (s2k (S2_sfi e1) h1) rfl (by decide) (rX11_keeps (w := w1) (a0 := a0) (zRef_s2 (S2_sfi e1) h6) (s3 c1 c2 w1 e1) (s4 c1 c2 w1 e1)) (Nat.le_of_ble_eq_true rfl) (by decide) rfl rfl mP_x (mP_k (fun w2 q1 => ?_))
      refine mW_aload_n (j := 0) dX11_set_60 rfl rfl ?_
      refine mW_getR dX11_set_61 f_X11_13 (s2k (mS2.of q1.1.1) (s2k (S2_sfi e1) h1)) rfl (s2r (mS2.of q1.1.1) (s2r (S2_sfi e1) h7)) ?_
      refine mW_iload_n (j := 1) dX11_set_64 rfl rfl ?_
      refine mW_ialdJ dX11_set_65 (s2k (mS2.of q1.1.1) (s2k (S2_sfi e1) h8)) (s5 c1 c2 w1 e1 w2 q1) rfl ?_
      refine mW_istore_n (lv2 := [(3, .int (hai w2 a0_1 x1.toNatClampNeg)), (0, .ref a0), (1, .int x1), (2, .int x2)]) dX11_set_66 rfl (by decide) rfl ?_
      refine mW_aload_n (j := 1) dX11_set_67 rfl rfl ?_
      refine mW_getR dX11_set_68 f_X11_13 (s2k (mS2.of q1.1.1) (s2k (S2_sfi e1) h1)) rfl (s2r (mS2.of q1.1.1) (s2r (S2_sfi e1) h7)) ?_
      refine mW_iload_n (j := 2) dX11_set_71 rfl rfl ?_
      refine mW_iload_n (j := 3) dX11_set_72 rfl rfl ?_
      refine mW_iastJ dX11_set_73 (s2k (mS2.of q1.1.1) (s2k (S2_sfi e1) h8)) (s5 c1 c2 w1 e1 w2 q1) rfl ?_
      refine mW_nm (fun w3 e2 => ?_)
      refine mW_iload_n (j := 0) dX11_set_74 rfl rfl ?_
      exact mW_iret dX11_set_75 rfl (k1 c1 c2 w1 e1 w2 q1 w3 e2)
    · refine mW_iconst (v := 2) dX11_set_39 (by decide) ?_
      refine mW_goto (tgt := 44) dX11_set_40 (by decide) ?_
      refine mW_put (ty := .int) (w2 := sfi w a0 0 2) dX11_set_44 p_X11_3 h1 (Nat.le_of_ble_eq_true rfl) (by first | rfl | decide | (repeat' split) <;> rfl) rfl (hN_sfi _ _ _ _) (hk_sfi _ _ _ _) (mE_sfi h1 (by decide) (ob_11_0 _ _ _)) ?_
      refine mW_nm (fun w4 e3 => ?_)
      refine mW_aload_n (j := 0) dX11_set_47 rfl rfl ?_
      refine mW_getL (v := 2) dX11_set_48 f_X11_3 (s2k (S2_sfi e3) h1) rfl (by rw [e3, e_hfi_sfi, up2_at]) ?_
      refine mW_if_eq (tgt := 56) dX11_set_51 (by decide) (fun c => absurd c (by decide)) (fun _ => ?_)
      refine mW_iconst (v := 0) dX11_set_54 (by decide) ?_
      exact mW_iret dX11_set_55 rfl (k2 c1 c2 w4 e3)
  · refine mW_iconst (v := 1) dX11_set_13 (by decide) ?_
    refine mW_goto (tgt := 44) dX11_set_14 (by decide) ?_
    refine mW_put (ty := .int) (w2 := sfi w a0 0 1) dX11_set_44 p_X11_3 h1 (Nat.le_of_ble_eq_true rfl) (by first | rfl | decide | (repeat' split) <;> rfl) rfl (hN_sfi _ _ _ _) (hk_sfi _ _ _ _) (mE_sfi h1 (by decide) (ob_11_0 _ _ _)) ?_
    refine mW_nm (fun w5 e4 => ?_)
    refine mW_aload_n (j := 0) dX11_set_47 rfl rfl ?_
    refine mW_getL (v := 1) dX11_set_48 f_X11_3 (s2k (S2_sfi e4) h1) rfl (by rw [e4, e_hfi_sfi, up2_at]) ?_
    refine mW_if_eq (tgt := 56) dX11_set_51 (by decide) (fun c => absurd c (by decide)) (fun _ => ?_)
    refine mW_iconst (v := 0) dX11_set_54 (by decide) ?_
    exact mW_iret dX11_set_55 rfl (k3 c1 w5 e4)
theorem rX11_set {G : mG} {w : mH} {a0 c : Nat} {x1 x2 : Int32} (z : zRef w a0) (h5 : hfi w a0 5 = nI c) (hc : c ≤ 6) (hk : cst w a0) : mC G mX11_set 4 0 0 [.ref a0, .int x1, .int x2] w (mP (some (.int (if tSet x1 x2 = 0 then hai w (a0 + 1) x1.toNatClampNeg else 0))) (fun w' => chO w w' a0 c (tSet x1 x2) (upd (hai w (a0 + 1)) x1.toNatClampNeg x2))) := by
  refine mC_of (by decide +kernel) rfl (Nat.le_of_ble_eq_true rfl) rfl ?_
  refine gX11_set_0 (c := c) (A := fun _ => 0) (a0_2 := a0 + 2) (a0_3 := a0 + 3) (a0_1 := a0 + 1) z.1 z.2.2.1 z.2.2.2.2.2.2.2.2.2.2.2.2.2.2.2.2.2.2.2.2.2.2.2.1 (by intro c1; obtain ⟨i, hi, hx⟩ := iw_N (n := 14) (by decide) rfl (show ¬ vX10_isWithin x1 0 14 = 0 by rw [← in_eq (A := 0) (B := 14) rfl rfl]; exact c1); rw [hx]; exact m_vp (by omega) (by decide)) z.2.2.2.1 z.2.2.2.2.2.2.2.2.2.2.2.2.2.2.2.2.2.2.2.2.2.2.2.2.1 (by intro c1; obtain ⟨i, hi, hx⟩ := iw_N (n := 14) (by decide) rfl (show ¬ vX10_isWithin x1 0 14 = 0 by rw [← in_eq (A := 0) (B := 14) rfl rfl]; exact c1); rw [hx]; exact m_vp (by omega) (by decide)) z (by intro c1 c2 w1 e1; obtain ⟨i, hi, hx⟩ := iw_N (n := 14) (by decide) rfl (show ¬ vX10_isWithin x1 0 14 = 0 by rw [← in_eq (A := 0) (B := 14) rfl rfl]; exact c1); rw [e1, e_hfi_sfi, up2_k _ _ _ (by decide)]; exact h5) (by intro c1 c2 w1 e1; obtain ⟨i, hi, hx⟩ := iw_N (n := 14) (by decide) rfl (show ¬ vX10_isWithin x1 0 14 = 0 by rw [← in_eq (A := 0) (B := 14) rfl rfl]; exact c1); exact hc) z.2.1 z.2.2.2.2.2.2.2.2.2.2.2.2.2.2.2.2.2.2.2.2.2.2.1 (by intro c1 c2 w1 e1 w2 q1; obtain ⟨i, hi, hx⟩ := iw_N (n := 14) (by decide) rfl (show ¬ vX10_isWithin x1 0 14 = 0 by rw [← in_eq (A := 0) (B := 14) rfl rfl]; exact c1); rw [hx]; exact m_vp (by omega) (by decide)) ?_ ?_ ?_
  · intro c1 c2 w1 e1 w2 q1 w3 e2
    obtain ⟨i, hi, hx⟩ := iw_N (n := 14) (by decide) rfl (show ¬ vX10_isWithin x1 0 14 = 0 by rw [← in_eq (A := 0) (B := 14) rfl rfl]; exact c1)
    have c1e : ¬ vX10_isWithin x1 0 14 = 0 := (by rw [← in_eq (A := 0) (B := 14) rfl rfl]; exact c1)
    have ei : x1.toNatClampNeg = i := by rw [hx]; exact m_cl (by omega)
    rw [ei, hk.1 i (by omega), hk.2 i (by omega), in_eq rfl rfl] at c2
    have e2' : x1.toNatClampNeg = i := ei
    have et : tSet x1 x2 = 0 := by unfold tSet; rw [if_neg c1e, ei, if_neg c2]
    rw [ei] at e2
    rw [et, if_pos rfl, ei]
    rw [kp_0 q1 (by omega), show hai w1 (a0 + 1) = hai w (a0 + 1) by rw [e1]; rfl]
    refine mP_of (chO_ok e1 q1 (by rw [e2]; exact xF_sai xF.rf (by decide)) (fun k hk => ?_) (fun j hj => ?_))
    · rw [e2, e_hai_sai, up2_row]
      unfold upd
      by_cases h : k = i
      · rw [if_pos h, if_pos h]
      · rw [if_neg h, if_neg h, kp_0 q1 hk, e1]; rfl
    · rw [e2, e_hai_sai, up2_row, upd_ne (by omega)]
  · intro c1 c2 w4 e3
    obtain ⟨i, hi, hx⟩ := iw_N (n := 14) (by decide) rfl (show ¬ vX10_isWithin x1 0 14 = 0 by rw [← in_eq (A := 0) (B := 14) rfl rfl]; exact c1)
    have c1e : ¬ vX10_isWithin x1 0 14 = 0 := (by rw [← in_eq (A := 0) (B := 14) rfl rfl]; exact c1)
    have ei : x1.toNatClampNeg = i := by rw [hx]; exact m_cl (by omega)
    rw [ei, hk.1 i (by omega), hk.2 i (by omega), in_eq rfl rfl] at c2
    have e2' : x1.toNatClampNeg = i := ei
    have et : tSet x1 x2 = 2 := by unfold tSet; rw [if_neg c1e, ei, if_pos c2]
    rw [et, if_neg (by decide)]
    exact mP_of (chO_bad (by decide) e3)
  · intro c1 w5 e4
    have c1e : vX10_isWithin x1 0 14 = 0 := (by rw [← in_eq (A := 0) (B := 14) rfl rfl]; exact c1)
    have et : tSet x1 x2 = 1 := by unfold tSet; rw [if_pos c1e]
    rw [et, if_neg (by decide)]
    exact mP_of (chO_bad (by decide) e4)

abbrev mX11_setWeight : mM := (yX11_setWeight, cX11_setWeight, 4, (some .int), [])
theorem u1734 : (Cond.constantLong "LineFollowerBenchModel" 124 4 : Cond) ∈ mTs := mTs_in 1734 (by decide +kernel) (by decide +kernel)
theorem u1735 : (Cond.constantLong "LineFollowerBenchModel" 126 99 : Cond) ∈ mTs := mTs_in 1735 (by decide +kernel) (by decide +kernel)
set_option maxHeartbeats 4000000 in
set_option maxRecDepth 100000 in
theorem gX11_setWeight_0 {G : mG} {w : mH} {Φ : mF} {a0 : Nat} {x1 x2 : Int32} {c : Nat} {A : Nat → Int32} {a0_1 n_a0_1 : Nat} (h1 : hk w a0 = (11, 0)) (h2 : zRef w a0) (s1 : (¬ ((vX11_in x1.toInt64 0 4) = 0)) → (¬ ((vX11_in x2.toInt64 0 99) = 0)) → ∀ w2 : mH, (w2 = sfi w a0 0 0) → hfi w2 a0 5 = nI c) (s2 : (¬ ((vX11_in x1.toInt64 0 4) = 0)) → (¬ ((vX11_in x2.toInt64 0 99) = 0)) → ∀ w2 : mH, (w2 = sfi w a0 0 0) → c ≤ 6) (h3 : hfr w a0 1 = some a0_1) (h4 : hk w a0_1 = (16, n_a0_1)) (s3 : (¬ ((vX11_in x1.toInt64 0 4) = 0)) → (¬ ((vX11_in x2.toInt64 0 99) = 0)) → ∀ w2 : mH, (w2 = sfi w a0 0 0) → ∀ w3 : mH, (kpO w2 w3 a0 c) → vp_in (15 + x1) n_a0_1) (k1 : (¬ ((vX11_in x1.toInt64 0 4) = 0)) → ((vX11_in x2.toInt64 0 99) = 0) → ∀ w1 : mH, (w1 = sfi w a0 0 2) → Φ (.inl (some (.int 0))) w1) (k2 : (¬ ((vX11_in x1.toInt64 0 4) = 0)) → (¬ ((vX11_in x2.toInt64 0 99) = 0)) → ∀ w2 : mH, (w2 = sfi w a0 0 0) → ∀ w3 : mH, (kpO w2 w3 a0 c) → ∀ w4 : mH, (w4 = sai w3 a0_1 ((15 + x1).toNatClampNeg) x2) → Φ (.inl (some (.int (hai w3 a0_1 ((15 + x1).toNatClampNeg))))) w4) (k3 : ((vX11_in x1.toInt64 0 4) = 0) → ∀ w5 : mH, (w5 = sfi w a0 0 1) → Φ (.inl (some (.int 0))) w5) : mW G mX11_setWeight 4 0 0 0 [(0, .ref a0), (1, .int x1), (2, .int x2)] [] w Φ := by
  refine mW_aload_n (j := 0) dX11_setWeight_0 rfl rfl ?_
  refine mW_iload_n (j := 1) dX11_setWeight_1 rfl rfl ?_
  refine mW_i2l dX11_setWeight_2 ?_
  refine mW_lconst (v := 0) dX11_setWeight_3 (by decide) ?_
  refine mW_ldc2 (v := 4) dX11_setWeight_4 u1734 ?_
  refine mW_callSe (As := [.long x1.toInt64, .long 0, .long 4]) (rest := [.ref a0]) (kc2 := 0) (ks2 := 0) dX11_setWeight_7 l_X11_92 rfl (qX11_in (w := w) (y0 := x1.toInt64) (y2 := 0) (y4 := 4)) (Nat.le_of_ble_eq_true rfl) (by decide) rfl rfl ?_
  refine mW_if_ne (tgt := 17) dX11_setWeight_10 (by decide) (fun c1 => ?_) (fun c1 => ?_)
  · refine mW_iload_n (j := 2) dX11_setWeight_17 rfl rfl ?_
    refine mW_i2l dX11_setWeight_18 ?_
    refine mW_lconst (v := 0) dX11_setWeight_19 (by decide) ?_
    refine mW_ldc2 (v := 99) dX11_setWeight_20 u1735 ?_
    refine mW_callSe (As := [.long x2.toInt64, .long 0, .long 99]) (rest := [.ref a0]) (kc2 := 0) (ks2 := 0) dX11_setWeight_23 l_X11_92 rfl (qX11_in (w := w) (y0 := x2.toInt64) (y2 := 0) (y4 := 99)) (Nat.le_of_ble_eq_true rfl) (by decide) rfl rfl ?_
    refine mW_if_eq (tgt := 33) dX11_setWeight_26 (by decide) (fun c2 => ?_) (fun c2 => ?_)
    · refine mW_iconst (v := 2) dX11_setWeight_33 (by decide) ?_
      refine mW_put (ty := .int) (w2 := sfi w a0 0 2) dX11_setWeight_34 p_X11_3 h1 (Nat.le_of_ble_eq_true rfl) (by first | rfl | decide | (repeat' split) <;> rfl) rfl (hN_sfi _ _ _ _) (hk_sfi _ _ _ _) (mE_sfi h1 (by decide) (ob_11_0 _ _ _)) ?_
      refine mW_nm (fun w1 e1 => ?_)
      refine mW_aload_n (j := 0) dX11_setWeight_37 rfl rfl ?_
      refine mW_getL (v := 2) dX11_setWeight_38 f_X11_3 (s2k (S2_sfi e1) h1) rfl (by rw [e1, e_hfi_sfi, up2_at]) ?_
      refine mW_if_eq (tgt := 46) dX11_setWeight_41 (by decide) (fun c => absurd c (by decide)) (fun _ => ?_)
      refine mW_iconst (v := 0) dX11_setWeight_44 (by decide) ?_
      exact mW_iret dX11_setWeight_45 rfl (k1 c1 c2 w1 e1)
    · refine mW_iconst (v := 0) dX11_setWeight_29 (by decide) ?_
      refine mW_goto (tgt := 34) dX11_setWeight_30 (by decide) ?_
      refine mW_put (ty := .int) (w2 := sfi w a0 0 0) dX11_setWeight_34 p_X11_3 h1 (Nat.le_of_ble_eq_true rfl) (by first | rfl | decide | (repeat' split) <;> rfl) rfl (hN_sfi _ _ _ _) (hk_sfi _ _ _ _) (mE_sfi h1 (by decide) (ob_11_0 _ _ _)) ?_
      refine mW_nm (fun w2 e2 => ?_)
      refine mW_aload_n (j := 0) dX11_setWeight_37 rfl rfl ?_
      refine mW_getL (v := 0) dX11_setWeight_38 f_X11_3 (s2k (S2_sfi e2) h1) rfl (by rw [e2, e_hfi_sfi, up2_at]) ?_
      refine mW_if_eq (tgt := 46) dX11_setWeight_41 (by decide) (fun _ => ?_) (fun c => absurd (by decide) c)
      refine mW_aload_n (j := 0) dX11_setWeight_46 rfl rfl ?_
      refine mW_callV (As := []) (rest := []) (kc2 := 0) (ks2 := 0) dX11_setWeight_47 l_X11_96 rfl (s2k (S2_sfi e2) h1) rfl (by decide) (rX11_keeps (w := w2) (a0 := a0) (zRef_s2 (S2_sfi e2) h2) (s1 c1 c2 w2 e2) (s2 c1 c2 w2 e2)) (Nat.le_of_ble_eq_true rfl) (by decide) rfl rfl mP_x (mP_k (fun w3 q1 => ?_))
      refine mW_aload_n (j := 0) dX11_setWeight_50 rfl rfl ?_
      refine mW_getR dX11_setWeight_51 f_X11_13 (s2k (mS2.of q1.1.1) (s2k (S2_sfi e2) h1)) rfl (s2r (mS2.of q1.1.1) (s2r (S2_sfi e2) h3)) ?_
      refine mW_bipush (v := 15) dX11_setWeight_54 (by decide) ?_
      refine mW_iload_n (j := 1) dX11_setWeight_56 rfl rfl ?_
      refine mW_iadd dX11_setWeight_57 ?_
      refine mW_ialdJ dX11_setWeight_58 (s2k (mS2.of q1.1.1) (s2k (S2_sfi e2) h4)) (s3 c1 c2 w2 e2 w3 q1) rfl ?_
      refine mW_istore_n (lv2 := [(3, .int (hai w3 a0_1 ((15 + x1).toNatClampNeg))), (0, .ref a0), (1, .int x1), (2, .int x2)]) dX11_setWeight_59 rfl (by decide) rfl ?_
      refine mW_aload_n (j := 1) dX11_setWeight_60 rfl rfl ?_
      refine mW_getR dX11_setWeight_61 f_X11_13 (s2k (mS2.of q1.1.1) (s2k (S2_sfi e2) h1)) rfl (s2r (mS2.of q1.1.1) (s2r (S2_sfi e2) h3)) ?_
      refine mW_bipush (v := 15) dX11_setWeight_64 (by decide) ?_
      refine mW_iload_n (j := 2) dX11_setWeight_66 rfl rfl ?_
      refine mW_iadd dX11_setWeight_67 ?_
      refine mW_iload_n (j := 3) dX11_setWeight_68 rfl rfl ?_
      refine mW_iastJ dX11_setWeight_69 (s2k (mS2.of q1.1.1) (s2k (S2_sfi e2) h4)) (s3 c1 c2 w2 e2 w3 q1) rfl ?_
      refine mW_nm (fun w4 e3 => ?_)
      refine mW_iload_n (j := 0) dX11_setWeight_70 rfl rfl ?_
      exact mW_iret dX11_setWeight_71 rfl (k2 c1 c2 w2 e2 w3 q1 w4 e3)
  · refine mW_iconst (v := 1) dX11_setWeight_13 (by decide) ?_
    refine mW_goto (tgt := 34) dX11_setWeight_14 (by decide) ?_
    refine mW_put (ty := .int) (w2 := sfi w a0 0 1) dX11_setWeight_34 p_X11_3 h1 (Nat.le_of_ble_eq_true rfl) (by first | rfl | decide | (repeat' split) <;> rfl) rfl (hN_sfi _ _ _ _) (hk_sfi _ _ _ _) (mE_sfi h1 (by decide) (ob_11_0 _ _ _)) ?_
    refine mW_nm (fun w5 e4 => ?_)
    refine mW_aload_n (j := 0) dX11_setWeight_37 rfl rfl ?_
    refine mW_getL (v := 1) dX11_setWeight_38 f_X11_3 (s2k (S2_sfi e4) h1) rfl (by rw [e4, e_hfi_sfi, up2_at]) ?_
    refine mW_if_eq (tgt := 46) dX11_setWeight_41 (by decide) (fun c => absurd c (by decide)) (fun _ => ?_)
    refine mW_iconst (v := 0) dX11_setWeight_44 (by decide) ?_
    exact mW_iret dX11_setWeight_45 rfl (k3 c1 w5 e4)
theorem rX11_setWeight {G : mG} {w : mH} {a0 c : Nat} {x1 x2 : Int32} (z : zRef w a0) (h5 : hfi w a0 5 = nI c) (hc : c ≤ 6) : mC G mX11_setWeight 4 0 0 [.ref a0, .int x1, .int x2] w (mP (some (.int (if tWei x1 x2 = 0 then hai w (a0 + 1) (15 + x1.toNatClampNeg) else 0))) (fun w' => chO w w' a0 c (tWei x1 x2) (upd (hai w (a0 + 1)) (15 + x1.toNatClampNeg) x2))) := by
  refine mC_of (by decide +kernel) rfl (Nat.le_of_ble_eq_true rfl) rfl ?_
  refine gX11_setWeight_0 (c := c) (A := fun _ => 0) (a0_1 := a0 + 1) z.1 z (by intro c1 c2 w2 e2; obtain ⟨i, hi, hx⟩ := iw_N (n := 4) (by decide) rfl (show ¬ vX10_isWithin x1 0 4 = 0 by rw [← in_eq (A := 0) (B := 4) rfl rfl]; exact c1); have e15 : (15 : Int32) + x1 = nI (15 + i) := (by rw [hx, show (15 : Int32) = nI 15 from rfl, nI_add]); rw [e2, e_hfi_sfi, up2_k _ _ _ (by decide)]; exact h5) (by intro c1 c2 w2 e2; obtain ⟨i, hi, hx⟩ := iw_N (n := 4) (by decide) rfl (show ¬ vX10_isWithin x1 0 4 = 0 by rw [← in_eq (A := 0) (B := 4) rfl rfl]; exact c1); have e15 : (15 : Int32) + x1 = nI (15 + i) := (by rw [hx, show (15 : Int32) = nI 15 from rfl, nI_add]); exact hc) z.2.1 z.2.2.2.2.2.2.2.2.2.2.2.2.2.2.2.2.2.2.2.2.2.2.1 (by intro c1 c2 w2 e2 w3 q1; obtain ⟨i, hi, hx⟩ := iw_N (n := 4) (by decide) rfl (show ¬ vX10_isWithin x1 0 4 = 0 by rw [← in_eq (A := 0) (B := 4) rfl rfl]; exact c1); have e15 : (15 : Int32) + x1 = nI (15 + i) := (by rw [hx, show (15 : Int32) = nI 15 from rfl, nI_add]); rw [e15]; exact m_vp (by omega) (by decide)) ?_ ?_ ?_
  · intro c1 c2 w1 e1
    obtain ⟨i, hi, hx⟩ := iw_N (n := 4) (by decide) rfl (show ¬ vX10_isWithin x1 0 4 = 0 by rw [← in_eq (A := 0) (B := 4) rfl rfl]; exact c1)
    have e15 : (15 : Int32) + x1 = nI (15 + i) := (by rw [hx, show (15 : Int32) = nI 15 from rfl, nI_add])
    have c1e : ¬ vX10_isWithin x1 0 4 = 0 := (by rw [← in_eq (A := 0) (B := 4) rfl rfl]; exact c1)
    rw [in_eq (a := 0) (b := 99) (A := 0) (B := 99) rfl rfl] at c2
    have et : tWei x1 x2 = 2 := by unfold tWei; rw [if_neg c1e, if_pos c2]
    rw [et, if_neg (by decide)]
    exact mP_of (chO_bad (by decide) e1)
  · intro c1 c2 w2 e2 w3 q1 w4 e3
    obtain ⟨i, hi, hx⟩ := iw_N (n := 4) (by decide) rfl (show ¬ vX10_isWithin x1 0 4 = 0 by rw [← in_eq (A := 0) (B := 4) rfl rfl]; exact c1)
    have e15 : (15 : Int32) + x1 = nI (15 + i) := (by rw [hx, show (15 : Int32) = nI 15 from rfl, nI_add])
    have c1e : ¬ vX10_isWithin x1 0 4 = 0 := (by rw [← in_eq (A := 0) (B := 4) rfl rfl]; exact c1)
    rw [in_eq (a := 0) (b := 99) (A := 0) (B := 99) rfl rfl] at c2
    have ei : x1.toNatClampNeg = i := by rw [hx]; exact m_cl (by omega)
    have et : tWei x1 x2 = 0 := by unfold tWei; rw [if_neg c1e, if_neg c2]
    rw [e15, m_cl (by omega)] at e3
    rw [e15, m_cl (by omega), et, if_pos rfl, ei]
    rw [kp_0 q1 (by omega), show hai w2 (a0 + 1) = hai w (a0 + 1) by rw [e2]; rfl]
    refine mP_of (chO_ok e2 q1 (by rw [e3]; exact xF_sai xF.rf (by decide)) (fun k hk => ?_) (fun j hj => ?_))
    · rw [e3, e_hai_sai, up2_row]
      unfold upd
      by_cases h : k = 15 + i
      · rw [if_pos h, if_pos h]
      · rw [if_neg h, if_neg h, kp_0 q1 hk, e2]; rfl
    · rw [e3, e_hai_sai, up2_row, upd_ne (by omega)]
  · intro c1 w5 e4
    have c1e : vX10_isWithin x1 0 4 = 0 := (by rw [← in_eq (A := 0) (B := 4) rfl rfl]; exact c1)
    have et : tWei x1 x2 = 1 := by unfold tWei; rw [if_pos c1e]
    rw [et, if_neg (by decide)]
    exact mP_of (chO_bad (by decide) e4)

