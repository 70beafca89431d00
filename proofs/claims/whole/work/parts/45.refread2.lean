/-! the reference's readers: what is taken of a row -/
def srt (A : Nat → Int32) : Prop := ∀ i, i + 1 < nPt A → rX A i < rX A (i + 1)
def kL (A : Nat → Int32) : Prop := cntOK A ∧ ∀ i, i < nSg A → ¬ rL A i = 0
def rTab (A : Nat → Int32) (x : Int32) : Int32 := fTab (rX A) (rY A) (nPt A) x
def rCur (A : Nat → Int32) (x : Int32) : Int32 := fCuM (rK A) (rL A) (rC A) (nSg A) 0 x
def rPus (A : Nat → Int32) (x : Int32) : Int32 := fPuM (rF A) (rV A) (rW A) x (nPs A)
theorem sub_ne {x y : Int32} (h : x < y) : ¬ y - x = 0 := fun q => by
  have e : y = x := by
    have := congrArg (fun t => t + x) q
    simpa using this
  rw [e] at h
  exact absurd h (Int32.lt_irrefl)
theorem qX11_tabled' {G : mG} {w : mH} {a0 : Nat} {x1 : Int32} (z : zRef w a0) (h : ptOK (hai w (a0 + 1))) (hs : srt (hai w (a0 + 1))) : mC G mX11_tabled 2 0 0 [.ref a0, .int x1] w (mEq (.inl (some (.int (rTab (hai w (a0 + 1)) x1)))) w) := qX11_tabled ⟨z.1, z.2.1, z.2.2.2.2.2.2.2.2.2.2.2.2.2.2.2.2.2.2.2.2.2.2.1⟩ h.1 h.2 (fun i hi => sub_ne (hs i hi))
theorem qX11_curved' {G : mG} {w : mH} {a0 : Nat} {x1 : Int32} (z : zRef w a0) (h : kL (hai w (a0 + 1))) : mC G mX11_curved 1 0 0 [.ref a0, .int x1] w (mEq (.inl (some (.int (rCur (hai w (a0 + 1)) x1)))) w) := qX11_curved ⟨z.1, z.2.1, z.2.2.2.2.2.2.2.2.2.2.2.2.2.2.2.2.2.2.2.2.2.2.1⟩ h.1.1 h.1.2.1 h.2
theorem qX11_pushed' {G : mG} {w : mH} {a0 : Nat} {x1 : Int32} (z : zRef w a0) (h : cntOK (hai w (a0 + 1))) : mC G mX11_pushed 1 0 0 [.ref a0, .int x1] w (mEq (.inl (some (.int (rPus (hai w (a0 + 1)) x1)))) w) := qX11_pushed ⟨z.1, z.2.1, z.2.2.2.2.2.2.2.2.2.2.2.2.2.2.2.2.2.2.2.2.2.2.1⟩ h.2.2.1 h.2.2.2

set_option maxHeartbeats 4000000 in
set_option maxRecDepth 100000 in
theorem gX11_setting_0 {G : mG} {w : mH} {Φ : mF} {a0 : Nat} {x1 : Int32} {a0_1 n_a0_1 : Nat} (h1 : hk w a0 = (11, 0)) (h2 : hfr w a0 1 = some a0_1) (h3 : hk w a0_1 = (16, n_a0_1)) (s1 : (¬ ((vX11_in x1.toInt64 0 14) = 0)) → ∀ w2 : mH, (w2 = sfi w a0 0 0) → vp_in x1 n_a0_1) (k1 : ((vX11_in x1.toInt64 0 14) = 0) → ∀ w1 : mH, (w1 = sfi w a0 0 1) → Φ (.inl (some (.int 0))) w1) (k2 : (¬ ((vX11_in x1.toInt64 0 14) = 0)) → ∀ w2 : mH, (w2 = sfi w a0 0 0) → Φ (.inl (some (.int (hai w2 a0_1 x1.toNatClampNeg)))) w2) : mW G mX11_setting 2 0 0 0 [(0, .ref a0), (1, .int x1)] [] w Φ := by
  refine mW_aload_n (j := 0) dX11_setting_0 rfl rfl ?_
  refine mW_iload_n (j := 1) dX11_setting_1 rfl rfl ?_
  refine mW_i2l dX11_setting_2 ?_
  refine mW_lconst (v := 0) dX11_setting_3 (by decide) ?_
  refine mW_ldc2 (v := 14) dX11_setting_4 u1674 ?_
  refine mW_callSe (As := [.long x1.toInt64, .long 0, .long 14]) (rest := [.ref a0]) (kc2 := 0) (ks2 := 0) dX11_setting_7 l_X11_92 rfl (qX11_in (w := w) (y0 := x1.toInt64) (y2 := 0) (y4 := 14)) (Nat.le_of_ble_eq_true rfl) (by decide) rfl rfl ?_
  refine mW_if_eq (tgt := 17) dX11_setting_10 (by decide) (fun c1 => ?_) (fun c1 => ?_)
  · refine mW_iconst (v := 1) dX11_setting_17 (by decide) ?_
    refine mW_put (ty := .int) (w2 := sfi w a0 0 1) dX11_setting_18 p_X11_3 h1 (Nat.le_of_ble_eq_true rfl) (by first | rfl | decide | (repeat' split) <;> rfl) rfl (hN_sfi _ _ _ _) (hk_sfi _ _ _ _) (mE_sfi h1 (by decide) (ob_11_0 _ _ _)) ?_
    refine mW_nm (fun w1 e1 => ?_)
    refine mW_aload_n (j := 0) dX11_setting_21 rfl rfl ?_
    refine mW_getL (v := 1) dX11_setting_22 f_X11_3 (s2k (S2_sfi e1) h1) rfl (by rw [e1, e_hfi_sfi, up2_at]) ?_
    refine mW_if_ne (tgt := 37) dX11_setting_25 (by decide) (fun _ => ?_) (fun c => absurd c (by decide))
    refine mW_iconst (v := 0) dX11_setting_37 (by decide) ?_
    exact mW_iret dX11_setting_38 rfl (k1 c1 w1 e1)
  · refine mW_iconst (v := 0) dX11_setting_13 (by decide) ?_
    refine mW_goto (tgt := 18) dX11_setting_14 (by decide) ?_
    refine mW_put (ty := .int) (w2 := sfi w a0 0 0) dX11_setting_18 p_X11_3 h1 (Nat.le_of_ble_eq_true rfl) (by first | rfl | decide | (repeat' split) <;> rfl) rfl (hN_sfi _ _ _ _) (hk_sfi _ _ _ _) (mE_sfi h1 (by decide) (ob_11_0 _ _ _)) ?_
    refine mW_nm (fun w2 e2 => ?_)
    refine mW_aload_n (j := 0) dX11_setting_21 rfl rfl ?_
    refine mW_getL (v := 0) dX11_setting_22 f_X11_3 (s2k (S2_sfi e2) h1) rfl (by rw [e2, e_hfi_sfi, up2_at]) ?_
    refine mW_if_ne (tgt := 37) dX11_setting_25 (by decide) (fun c => absurd (by decide) c) (fun _ => ?_)
    refine mW_aload_n (j := 0) dX11_setting_28 rfl rfl ?_
    refine mW_getR dX11_setting_29 f_X11_13 (s2k (S2_sfi e2) h1) rfl (s2r (S2_sfi e2) h2) ?_
    refine mW_iload_n (j := 1) dX11_setting_32 rfl rfl ?_
    refine mW_ialdJ dX11_setting_33 (s2k (S2_sfi e2) h3) (s1 c1 w2 e2) rfl ?_
    refine mW_goto (tgt := 38) dX11_setting_34 (by decide) ?_
    exact mW_iret dX11_setting_38 rfl (k2 c1 w2 e2)
def vX11_setting_ (w : mH) (a0 : Nat) (x1 : Int32) : Int32 := (if (vX11_in x1.toInt64 0 14) = 0 then 0 else (hai w (a0 + 1) x1.toNatClampNeg))
def tX11_setting (w : mH) (a0 : Nat) (x1 : Int32) : Int32 := (if (vX11_in x1.toInt64 0 14) = 0 then 1 else 0)
theorem rX11_setting {G : mG} {w : mH} {a0 : Nat} {x1 : Int32} (z : zRef w a0) : mC G mX11_setting 2 0 0 [.ref a0, .int x1] w (mEq (.inl (some (.int (vX11_setting_ w a0 x1)))) (sfi w a0 0 (tX11_setting w a0 x1))) := by
  refine mC_of (by decide +kernel) rfl (Nat.le_of_ble_eq_true rfl) rfl ?_
  refine gX11_setting_0 (a0_1 := a0 + 1) z.1 z.2.1 z.2.2.2.2.2.2.2.2.2.2.2.2.2.2.2.2.2.2.2.2.2.2.1 (by intro c1 w2 e2; obtain ⟨i, hi, hx⟩ := iw_N (n := 14) (by decide) rfl (show ¬ vX10_isWithin x1 0 14 = 0 by rw [← in_eq (A := 0) (B := 14) rfl rfl]; exact c1); rw [hx]; exact m_vp (by omega) (by decide)) ?_ ?_
  · intro c1 w1 e1
    have ev : vX11_setting_ w a0 x1 = 0 := by unfold vX11_setting_; rw [if_pos c1]
    have et : tX11_setting w a0 x1 = 1 := by unfold tX11_setting; rw [if_pos c1]
    rw [ev, et]
    subst e1
    exact ⟨rfl, rfl⟩
  · intro c1 w2 e2
    have ev : vX11_setting_ w a0 x1 = (hai w (a0 + 1) x1.toNatClampNeg) := by unfold vX11_setting_; rw [if_neg c1]
    have et : tX11_setting w a0 x1 = 0 := by unfold tX11_setting; rw [if_neg c1]
    rw [ev, et]
    subst e2
    exact ⟨rfl, rfl⟩
abbrev mX11_table : mM := (yX11_table, cX11_table, 2, (some .int), [])
theorem u1729 : (Cond.code ⟨"LineFollowerBenchModel", "tabled", "(I)I"⟩ prog_13_method_18_code 4 (some .int) : Cond) ∈ mTs := mTs_in 1729 (by decide +kernel) (by decide +kernel)
theorem co_X11_tabled : mCode mX11_tabled := ⟨u1729, u85, by decide⟩
theorem u1726 : (Cond.methodLink "LineFollowerBenchModel" 121 ⟨"LineFollowerBenchModel", "tabled", "(I)I"⟩ : Cond) ∈ mTs := mTs_in 1726 (by decide +kernel) (by decide +kernel)
theorem u1728 : (Cond.instanceMethod ⟨"LineFollowerBenchModel", "tabled", "(I)I"⟩ : Cond) ∈ mTs := mTs_in 1728 (by decide +kernel) (by decide +kernel)
theorem u43 : (Cond.selects "LineFollowerBenchModel" ⟨"LineFollowerBenchModel", "tabled", "(I)I"⟩ ⟨"LineFollowerBenchModel", "tabled", "(I)I"⟩ : Cond) ∈ mTs := mTs_in 43 (by decide +kernel) (by decide +kernel)
theorem l_X11_121 : mLinkV "LineFollowerBenchModel" 121 1 mX11_tabled := ⟨⟨by decide, by decide, by decide +kernel⟩, co_X11_tabled, u1726, u1728, u43⟩
set_option maxHeartbeats 4000000 in
set_option maxRecDepth 100000 in
theorem gX11_table_0 {G : mG} {w : mH} {Φ : mF} {a0 : Nat} {x1 : Int32} (h1 : hk w a0 = (11, 0)) (h2 : zRef w a0) (s1 : (¬ ((vX11_in x1.toInt64 (-10000) 10000) = 0)) → ∀ w2 : mH, (w2 = sfi w a0 0 0) → ptOK (hai w2 (a0 + 1))) (s2 : (¬ ((vX11_in x1.toInt64 (-10000) 10000) = 0)) → ∀ w2 : mH, (w2 = sfi w a0 0 0) → srt (hai w2 (a0 + 1))) (k1 : ((vX11_in x1.toInt64 (-10000) 10000) = 0) → ∀ w1 : mH, (w1 = sfi w a0 0 1) → Φ (.inl (some (.int 0))) w1) (k2 : (¬ ((vX11_in x1.toInt64 (-10000) 10000) = 0)) → ∀ w2 : mH, (w2 = sfi w a0 0 0) → Φ (.inl (some (.int (rTab (hai w2 (a0 + 1)) x1)))) w2) : mW G mX11_table 3 0 0 0 [(0, .ref a0), (1, .int x1)] [] w Φ := by
  refine mW_aload_n (j := 0) dX11_table_0 rfl rfl ?_
  refine mW_iload_n (j := 1) dX11_table_1 rfl rfl ?_
  refine mW_i2l dX11_table_2 ?_
  refine mW_ldc2 (v := (-10000)) dX11_table_3 u1694 ?_
  refine mW_ldc2 (v := 10000) dX11_table_6 u1695 ?_
  refine mW_callSe (As := [.long x1.toInt64, .long (-10000), .long 10000]) (rest := [.ref a0]) (kc2 := 0) (ks2 := 0) dX11_table_9 l_X11_92 rfl (qX11_in (w := w) (y0 := x1.toInt64) (y2 := (-10000)) (y4 := 10000)) (Nat.le_of_ble_eq_true rfl) (by decide) rfl rfl ?_
  refine mW_if_eq (tgt := 19) dX11_table_12 (by decide) (fun c1 => ?_) (fun c1 => ?_)
  · refine mW_iconst (v := 1) dX11_table_19 (by decide) ?_
    refine mW_put (ty := .int) (w2 := sfi w a0 0 1) dX11_table_20 p_X11_3 h1 (Nat.le_of_ble_eq_true rfl) (by first | rfl | decide | (repeat' split) <;> rfl) rfl (hN_sfi _ _ _ _) (hk_sfi _ _ _ _) (mE_sfi h1 (by decide) (ob_11_0 _ _ _)) ?_
    refine mW_nm (fun w1 e1 => ?_)
    refine mW_aload_n (j := 0) dX11_table_23 rfl rfl ?_
    refine mW_getL (v := 1) dX11_table_24 f_X11_3 (s2k (S2_sfi e1) h1) rfl (by rw [e1, e_hfi_sfi, up2_at]) ?_
    refine mW_if_ne (tgt := 38) dX11_table_27 (by decide) (fun _ => ?_) (fun c => absurd c (by decide))
    refine mW_iconst (v := 0) dX11_table_38 (by decide) ?_
    exact mW_iret dX11_table_39 rfl (k1 c1 w1 e1)
  · refine mW_iconst (v := 0) dX11_table_15 (by decide) ?_
    refine mW_goto (tgt := 20) dX11_table_16 (by decide) ?_
    refine mW_put (ty := .int) (w2 := sfi w a0 0 0) dX11_table_20 p_X11_3 h1 (Nat.le_of_ble_eq_true rfl) (by first | rfl | decide | (repeat' split) <;> rfl) rfl (hN_sfi _ _ _ _) (hk_sfi _ _ _ _) (mE_sfi h1 (by decide) (ob_11_0 _ _ _)) ?_
    refine mW_nm (fun w2 e2 => ?_)
    refine mW_aload_n (j := 0) dX11_table_23 rfl rfl ?_
    refine mW_getL (v := 0) dX11_table_24 f_X11_3 (s2k (S2_sfi e2) h1) rfl (by rw [e2, e_hfi_sfi, up2_at]) ?_
    refine mW_if_ne (tgt := 38) dX11_table_27 (by decide) (fun c => absurd (by decide) c) (fun _ => ?_)
    refine mW_aload_n (j := 0) dX11_table_30 rfl rfl ?_
    refine mW_iload_n (j := 1) dX11_table_31 rfl rfl ?_
    refine mW_callVe (As := [.int x1]) (rest := []) (kc2 := 0) (ks2 := 0) dX11_table_32 l_X11_121 rfl (s2k (S2_sfi e2) h1) rfl (by decide) (qX11_tabled' (w := w2) (a0 := a0) (x1 := x1) (zRef_s2 (S2_sfi e2) h2) (s1 c1 w2 e2) (s2 c1 w2 e2)) (Nat.le_of_ble_eq_true rfl) (by decide) rfl rfl ?_
    refine mW_goto (tgt := 39) dX11_table_35 (by decide) ?_
    exact mW_iret dX11_table_39 rfl (k2 c1 w2 e2)
def vX11_table_ (w : mH) (a0 : Nat) (x1 : Int32) : Int32 := (if (vX11_in x1.toInt64 (-10000) 10000) = 0 then 0 else (rTab (hai w (a0 + 1)) x1))
def tX11_table (w : mH) (a0 : Nat) (x1 : Int32) : Int32 := (if (vX11_in x1.toInt64 (-10000) 10000) = 0 then 1 else 0)
theorem rX11_table {G : mG} {w : mH} {a0 : Nat} {x1 : Int32} (z : zRef w a0) (hp : ptOK (hai w (a0 + 1))) (hs : srt (hai w (a0 + 1))) : mC G mX11_table 3 0 0 [.ref a0, .int x1] w (mEq (.inl (some (.int (vX11_table_ w a0 x1)))) (sfi w a0 0 (tX11_table w a0 x1))) := by
  refine mC_of (by decide +kernel) rfl (Nat.le_of_ble_eq_true rfl) rfl ?_
  refine gX11_table_0 z.1 z (by intro c1 w2 e2; subst e2; assumption) (by intro c1 w2 e2; subst e2; assumption) ?_ ?_
  · intro c1 w1 e1
    have ev : vX11_table_ w a0 x1 = 0 := by unfold vX11_table_; rw [if_pos c1]
    have et : tX11_table w a0 x1 = 1 := by unfold tX11_table; rw [if_pos c1]
    rw [ev, et]
    subst e1
    exact ⟨rfl, rfl⟩
  · intro c1 w2 e2
    have ev : vX11_table_ w a0 x1 = (rTab (hai w (a0 + 1)) x1) := by unfold vX11_table_; rw [if_neg c1]
    have et : tX11_table w a0 x1 = 0 := by unfold tX11_table; rw [if_neg c1]
    rw [ev, et]
    subst e2
    exact ⟨rfl, rfl⟩
abbrev mX11_curvature : mM := (yX11_curvature, cX11_curvature, 2, (some .int), [])
theorem u1808 : (Cond.constantLong "LineFollowerBenchModel" 190 199 : Cond) ∈ mTs := mTs_in 1808 (by decide +kernel) (by decide +kernel)
theorem u1812 : (Cond.code ⟨"LineFollowerBenchModel", "curved", "(I)I"⟩ prog_13_method_37_code 5 (some .int) : Cond) ∈ mTs := mTs_in 1812 (by decide +kernel) (by decide +kernel)
theorem co_X11_curved : mCode mX11_curved := ⟨u1812, u85, by decide⟩
theorem u1809 : (Cond.methodLink "LineFollowerBenchModel" 192 ⟨"LineFollowerBenchModel", "curved", "(I)I"⟩ : Cond) ∈ mTs := mTs_in 1809 (by decide +kernel) (by decide +kernel)
theorem u1811 : (Cond.instanceMethod ⟨"LineFollowerBenchModel", "curved", "(I)I"⟩ : Cond) ∈ mTs := mTs_in 1811 (by decide +kernel) (by decide +kernel)
theorem u53 : (Cond.selects "LineFollowerBenchModel" ⟨"LineFollowerBenchModel", "curved", "(I)I"⟩ ⟨"LineFollowerBenchModel", "curved", "(I)I"⟩ : Cond) ∈ mTs := mTs_in 53 (by decide +kernel) (by decide +kernel)
theorem l_X11_192 : mLinkV "LineFollowerBenchModel" 192 1 mX11_curved := ⟨⟨by decide, by decide, by decide +kernel⟩, co_X11_curved, u1809, u1811, u53⟩
set_option maxHeartbeats 4000000 in
set_option maxRecDepth 100000 in
theorem gX11_curvature_0 {G : mG} {w : mH} {Φ : mF} {a0 : Nat} {x1 : Int32} (h1 : hk w a0 = (11, 0)) (h2 : zRef w a0) (s1 : (¬ ((vX11_in x1.toInt64 0 199) = 0)) → ∀ w2 : mH, (w2 = sfi w a0 0 0) → kL (hai w2 (a0 + 1))) (k1 : ((vX11_in x1.toInt64 0 199) = 0) → ∀ w1 : mH, (w1 = sfi w a0 0 1) → Φ (.inl (some (.int 0))) w1) (k2 : (¬ ((vX11_in x1.toInt64 0 199) = 0)) → ∀ w2 : mH, (w2 = sfi w a0 0 0) → Φ (.inl (some (.int (rCur (hai w2 (a0 + 1)) x1)))) w2) : mW G mX11_curvature 2 0 0 0 [(0, .ref a0), (1, .int x1)] [] w Φ := by
  refine mW_aload_n (j := 0) dX11_curvature_0 rfl rfl ?_
  refine mW_iload_n (j := 1) dX11_curvature_1 rfl rfl ?_
  refine mW_i2l dX11_curvature_2 ?_
  refine mW_lconst (v := 0) dX11_curvature_3 (by decide) ?_
  refine mW_ldc2 (v := 199) dX11_curvature_4 u1808 ?_
  refine mW_callSe (As := [.long x1.toInt64, .long 0, .long 199]) (rest := [.ref a0]) (kc2 := 0) (ks2 := 0) dX11_curvature_7 l_X11_92 rfl (qX11_in (w := w) (y0 := x1.toInt64) (y2 := 0) (y4 := 199)) (Nat.le_of_ble_eq_true rfl) (by decide) rfl rfl ?_
  refine mW_if_eq (tgt := 17) dX11_curvature_10 (by decide) (fun c1 => ?_) (fun c1 => ?_)
  · refine mW_iconst (v := 1) dX11_curvature_17 (by decide) ?_
    refine mW_put (ty := .int) (w2 := sfi w a0 0 1) dX11_curvature_18 p_X11_3 h1 (Nat.le_of_ble_eq_true rfl) (by first | rfl | decide | (repeat' split) <;> rfl) rfl (hN_sfi _ _ _ _) (hk_sfi _ _ _ _) (mE_sfi h1 (by decide) (ob_11_0 _ _ _)) ?_
    refine mW_nm (fun w1 e1 => ?_)
    refine mW_aload_n (j := 0) dX11_curvature_21 rfl rfl ?_
    refine mW_getL (v := 1) dX11_curvature_22 f_X11_3 (s2k (S2_sfi e1) h1) rfl (by rw [e1, e_hfi_sfi, up2_at]) ?_
    refine mW_if_ne (tgt := 36) dX11_curvature_25 (by decide) (fun _ => ?_) (fun c => absurd c (by decide))
    refine mW_iconst (v := 0) dX11_curvature_36 (by decide) ?_
    exact mW_iret dX11_curvature_37 rfl (k1 c1 w1 e1)
  · refine mW_iconst (v := 0) dX11_curvature_13 (by decide) ?_
    refine mW_goto (tgt := 18) dX11_curvature_14 (by decide) ?_
    refine mW_put (ty := .int) (w2 := sfi w a0 0 0) dX11_curvature_18 p_X11_3 h1 (Nat.le_of_ble_eq_true rfl) (by first | rfl | decide | (repeat' split) <;> rfl) rfl (hN_sfi _ _ _ _) (hk_sfi _ _ _ _) (mE_sfi h1 (by decide) (ob_11_0 _ _ _)) ?_
    refine mW_nm (fun w2 e2 => ?_)
    refine mW_aload_n (j := 0) dX11_curvature_21 rfl rfl ?_
    refine mW_getL (v := 0) dX11_curvature_22 f_X11_3 (s2k (S2_sfi e2) h1) rfl (by rw [e2, e_hfi_sfi, up2_at]) ?_
    refine mW_if_ne (tgt := 36) dX11_curvature_25 (by decide) (fun c => absurd (by decide) c) (fun _ => ?_)
    refine mW_aload_n (j := 0) dX11_curvature_28 rfl rfl ?_
    refine mW_iload_n (j := 1) dX11_curvature_29 rfl rfl ?_
    refine mW_callVe (As := [.int x1]) (rest := []) (kc2 := 0) (ks2 := 0) dX11_curvature_30 l_X11_192 rfl (s2k (S2_sfi e2) h1) rfl (by decide) (qX11_curved' (w := w2) (a0 := a0) (x1 := x1) (zRef_s2 (S2_sfi e2) h2) (s1 c1 w2 e2)) (Nat.le_of_ble_eq_true rfl) (by decide) rfl rfl ?_
    refine mW_goto (tgt := 37) dX11_curvature_33 (by decide) ?_
    exact mW_iret dX11_curvature_37 rfl (k2 c1 w2 e2)
def vX11_curvature_ (w : mH) (a0 : Nat) (x1 : Int32) : Int32 := (if (vX11_in x1.toInt64 0 199) = 0 then 0 else (rCur (hai w (a0 + 1)) x1))
def tX11_curvature (w : mH) (a0 : Nat) (x1 : Int32) : Int32 := (if (vX11_in x1.toInt64 0 199) = 0 then 1 else 0)
theorem rX11_curvature {G : mG} {w : mH} {a0 : Nat} {x1 : Int32} (z : zRef w a0) (hp : kL (hai w (a0 + 1))) : mC G mX11_curvature 2 0 0 [.ref a0, .int x1] w (mEq (.inl (some (.int (vX11_curvature_ w a0 x1)))) (sfi w a0 0 (tX11_curvature w a0 x1))) := by
  refine mC_of (by decide +kernel) rfl (Nat.le_of_ble_eq_true rfl) rfl ?_
  refine gX11_curvature_0 z.1 z (by intro c1 w2 e2; subst e2; assumption) ?_ ?_
  · intro c1 w1 e1
    have ev : vX11_curvature_ w a0 x1 = 0 := by unfold vX11_curvature_; rw [if_pos c1]
    have et : tX11_curvature w a0 x1 = 1 := by unfold tX11_curvature; rw [if_pos c1]
    rw [ev, et]
    subst e1
    exact ⟨rfl, rfl⟩
  · intro c1 w2 e2
    have ev : vX11_curvature_ w a0 x1 = (rCur (hai w (a0 + 1)) x1) := by unfold vX11_curvature_; rw [if_neg c1]
    have et : tX11_curvature w a0 x1 = 0 := by unfold tX11_curvature; rw [if_neg c1]
    rw [ev, et]
    subst e2
    exact ⟨rfl, rfl⟩
abbrev mX11_push : mM := (yX11_push, cX11_push, 2, (some .int), [])
theorem u1820 : (Cond.code ⟨"LineFollowerBenchModel", "pushed", "(I)I"⟩ prog_13_method_38_code 5 (some .int) : Cond) ∈ mTs := mTs_in 1820 (by decide +kernel) (by decide +kernel)
theorem co_X11_pushed : mCode mX11_pushed := ⟨u1820, u85, by decide⟩
theorem u1817 : (Cond.methodLink "LineFollowerBenchModel" 195 ⟨"LineFollowerBenchModel", "pushed", "(I)I"⟩ : Cond) ∈ mTs := mTs_in 1817 (by decide +kernel) (by decide +kernel)
theorem u1819 : (Cond.instanceMethod ⟨"LineFollowerBenchModel", "pushed", "(I)I"⟩ : Cond) ∈ mTs := mTs_in 1819 (by decide +kernel) (by decide +kernel)
theorem u54 : (Cond.selects "LineFollowerBenchModel" ⟨"LineFollowerBenchModel", "pushed", "(I)I"⟩ ⟨"LineFollowerBenchModel", "pushed", "(I)I"⟩ : Cond) ∈ mTs := mTs_in 54 (by decide +kernel) (by decide +kernel)
theorem l_X11_195 : mLinkV "LineFollowerBenchModel" 195 1 mX11_pushed := ⟨⟨by decide, by decide, by decide +kernel⟩, co_X11_pushed, u1817, u1819, u54⟩
set_option maxHeartbeats 4000000 in
set_option maxRecDepth 100000 in
theorem gX11_push_0 {G : mG} {w : mH} {Φ : mF} {a0 : Nat} {x1 : Int32} (h1 : hk w a0 = (11, 0)) (h2 : zRef w a0) (s1 : (¬ ((vX11_in x1.toInt64 0 199) = 0)) → ∀ w2 : mH, (w2 = sfi w a0 0 0) → cntOK (hai w2 (a0 + 1))) (k1 : ((vX11_in x1.toInt64 0 199) = 0) → ∀ w1 : mH, (w1 = sfi w a0 0 1) → Φ (.inl (some (.int 0))) w1) (k2 : (¬ ((vX11_in x1.toInt64 0 199) = 0)) → ∀ w2 : mH, (w2 = sfi w a0 0 0) → Φ (.inl (some (.int (rPus (hai w2 (a0 + 1)) x1)))) w2) : mW G mX11_push 2 0 0 0 [(0, .ref a0), (1, .int x1)] [] w Φ := by
  refine mW_aload_n (j := 0) dX11_push_0 rfl rfl ?_
  refine mW_iload_n (j := 1) dX11_push_1 rfl rfl ?_
  refine mW_i2l dX11_push_2 ?_
  refine mW_lconst (v := 0) dX11_push_3 (by decide) ?_
  refine mW_ldc2 (v := 199) dX11_push_4 u1808 ?_
  refine mW_callSe (As := [.long x1.toInt64, .long 0, .long 199]) (rest := [.ref a0]) (kc2 := 0) (ks2 := 0) dX11_push_7 l_X11_92 rfl (qX11_in (w := w) (y0 := x1.toInt64) (y2 := 0) (y4 := 199)) (Nat.le_of_ble_eq_true rfl) (by decide) rfl rfl ?_
  refine mW_if_eq (tgt := 17) dX11_push_10 (by decide) (fun c1 => ?_) (fun c1 => ?_)
  · refine mW_iconst (v := 1) dX11_push_17 (by decide) ?_
    refine mW_put (ty := .int) (w2 := sfi w a0 0 1) dX11_push_18 p_X11_3 h1 (Nat.le_of_ble_eq_true rfl) (by first | rfl | decide | (repeat' split) <;> rfl) rfl (hN_sfi _ _ _ _) (hk_sfi _ _ _ _) (mE_sfi h1 (by decide) (ob_11_0 _ _ _)) ?_
    refine mW_nm (fun w1 e1 => ?_)
    refine mW_aload_n (j := 0) dX11_push_21 rfl rfl ?_
    refine mW_getL (v := 1) dX11_push_22 f_X11_3 (s2k (S2_sfi e1) h1) rfl (by rw [e1, e_hfi_sfi, up2_at]) ?_
    refine mW_if_ne (tgt := 36) dX11_push_25 (by decide) (fun _ => ?_) (fun c => absurd c (by decide))
    refine mW_iconst (v := 0) dX11_push_36 (by decide) ?_
    exact mW_iret dX11_push_37 rfl (k1 c1 w1 e1)
  · refine mW_iconst (v := 0) dX11_push_13 (by decide) ?_
    refine mW_goto (tgt := 18) dX11_push_14 (by decide) ?_
    refine mW_put (ty := .int) (w2 := sfi w a0 0 0) dX11_push_18 p_X11_3 h1 (Nat.le_of_ble_eq_true rfl) (by first | rfl | decide | (repeat' split) <;> rfl) rfl (hN_sfi _ _ _ _) (hk_sfi _ _ _ _) (mE_sfi h1 (by decide) (ob_11_0 _ _ _)) ?_
    refine mW_nm (fun w2 e2 => ?_)
    refine mW_aload_n (j := 0) dX11_push_21 rfl rfl ?_
    refine mW_getL (v := 0) dX11_push_22 f_X11_3 (s2k (S2_sfi e2) h1) rfl (by rw [e2, e_hfi_sfi, up2_at]) ?_
    refine mW_if_ne (tgt := 36) dX11_push_25 (by decide) (fun c => absurd (by decide) c) (fun _ => ?_)
    refine mW_aload_n (j := 0) dX11_push_28 rfl rfl ?_
    refine mW_iload_n (j := 1) dX11_push_29 rfl rfl ?_
    refine mW_callVe (As := [.int x1]) (rest := []) (kc2 := 0) (ks2 := 0) dX11_push_30 l_X11_195 rfl (s2k (S2_sfi e2) h1) rfl (by decide) (qX11_pushed' (w := w2) (a0 := a0) (x1 := x1) (zRef_s2 (S2_sfi e2) h2) (s1 c1 w2 e2)) (Nat.le_of_ble_eq_true rfl) (by decide) rfl rfl ?_
    refine mW_goto (tgt := 37) dX11_push_33 (by decide) ?_
    exact mW_iret dX11_push_37 rfl (k2 c1 w2 e2)
def vX11_push_ (w : mH) (a0 : Nat) (x1 : Int32) : Int32 := (if (vX11_in x1.toInt64 0 199) = 0 then 0 else (rPus (hai w (a0 + 1)) x1))
def tX11_push (w : mH) (a0 : Nat) (x1 : Int32) : Int32 := (if (vX11_in x1.toInt64 0 199) = 0 then 1 else 0)
theorem rX11_push {G : mG} {w : mH} {a0 : Nat} {x1 : Int32} (z : zRef w a0) (hp : cntOK (hai w (a0 + 1))) : mC G mX11_push 2 0 0 [.ref a0, .int x1] w (mEq (.inl (some (.int (vX11_push_ w a0 x1)))) (sfi w a0 0 (tX11_push w a0 x1))) := by
  refine mC_of (by decide +kernel) rfl (Nat.le_of_ble_eq_true rfl) rfl ?_
  refine gX11_push_0 z.1 z (by intro c1 w2 e2; subst e2; assumption) ?_ ?_
  · intro c1 w1 e1
    have ev : vX11_push_ w a0 x1 = 0 := by unfold vX11_push_; rw [if_pos c1]
    have et : tX11_push w a0 x1 = 1 := by unfold tX11_push; rw [if_pos c1]
    rw [ev, et]
    subst e1
    exact ⟨rfl, rfl⟩
  · intro c1 w2 e2
    have ev : vX11_push_ w a0 x1 = (rPus (hai w (a0 + 1)) x1) := by unfold vX11_push_; rw [if_neg c1]
    have et : tX11_push w a0 x1 = 0 := by unfold tX11_push; rw [if_neg c1]
    rw [ev, et]
    subst e2
    exact ⟨rfl, rfl⟩
set_option maxHeartbeats 4000000 in
set_option maxRecDepth 100000 in
theorem gX11_foundCost_0 {G : mG} {w : mH} {Φ : mF} {a0 : Nat} {x1 : Int32} {a0_31 n_a0_31 a0_33 n_a0_33 : Nat} (h1 : hk w a0 = (11, 0)) (h2 : hfr w a0 31 = some a0_31) (h3 : hk w a0_31 = (20, n_a0_31)) (s1 : vp_in 0 n_a0_31) (h4 : hfr w a0 33 = some a0_33) (h5 : hk w a0_33 = (17, n_a0_33)) (s2 : vp_in 0 n_a0_33) (s3 : vp_in 1 n_a0_31) (s4 : vp_in 1 n_a0_33) (k1 : (x1 = 0) → ((hai w a0_31 0) = 0) → ∀ w1 : mH, (w1 = sfi w a0 0 1) → Φ (.inl (some (.long 0))) w1) (k2 : (x1 = 0) → (¬ ((hai w a0_31 0) = 0)) → ∀ w2 : mH, (w2 = sfi w a0 0 0) → Φ (.inl (some (.long (hal w2 a0_33 0)))) w2) (k3 : (¬ (x1 = 0)) → ((hai w a0_31 1) = 0) → ∀ w3 : mH, (w3 = sfi w a0 0 1) → Φ (.inl (some (.long 0))) w3) (k4 : (¬ (x1 = 0)) → (¬ ((hai w a0_31 1) = 0)) → ∀ w4 : mH, (w4 = sfi w a0 0 0) → Φ (.inl (some (.long (hal w4 a0_33 1)))) w4) : mW G mX11_foundCost 2 0 0 0 [(0, .ref a0), (1, .int x1)] [] w Φ := by
  refine mW_iload_n (j := 1) dX11_foundCost_0 rfl rfl ?_
  refine mW_if_eq (tgt := 8) dX11_foundCost_1 (by decide) (fun c1 => ?_) (fun c1 => ?_)
  · refine mW_iconst (v := 0) dX11_foundCost_8 (by decide) ?_
    refine mW_istore_n (lv2 := [(2, .int 0), (0, .ref a0), (1, .int x1)]) dX11_foundCost_9 rfl (by decide) rfl ?_
    refine mW_aload_n (j := 1) dX11_foundCost_10 rfl rfl ?_
    refine mW_aload_n (j := 1) dX11_foundCost_11 rfl rfl ?_
    refine mW_getR dX11_foundCost_12 f_X11_66 h1 rfl h2 ?_
    refine mW_iload_n (j := 0) dX11_foundCost_15 rfl rfl ?_
    refine mW_zaldJ dX11_foundCost_16 h3 s1 (j := 0) (by decide) ?_
    refine mW_if_eq (tgt := 24) dX11_foundCost_17 (by decide) (fun c2 => ?_) (fun c2 => ?_)
    · refine mW_iconst (v := 1) dX11_foundCost_24 (by decide) ?_
      refine mW_put (ty := .int) (w2 := sfi w a0 0 1) dX11_foundCost_25 p_X11_3 h1 (Nat.le_of_ble_eq_true rfl) (by first | rfl | decide | (repeat' split) <;> rfl) rfl (hN_sfi _ _ _ _) (hk_sfi _ _ _ _) (mE_sfi h1 (by decide) (ob_11_0 _ _ _)) ?_
      refine mW_nm (fun w1 e1 => ?_)
      refine mW_aload_n (j := 1) dX11_foundCost_28 rfl rfl ?_
      refine mW_getL (v := 1) dX11_foundCost_29 f_X11_3 (s2k (S2_sfi e1) h1) rfl (by rw [e1, e_hfi_sfi, up2_at]) ?_
      refine mW_if_ne (tgt := 44) dX11_foundCost_32 (by decide) (fun _ => ?_) (fun c => absurd c (by decide))
      refine mW_lconst (v := 0) dX11_foundCost_44 (by decide) ?_
      exact mW_lret dX11_foundCost_45 rfl (k1 c1 c2 w1 e1)
    · refine mW_iconst (v := 0) dX11_foundCost_20 (by decide) ?_
      refine mW_goto (tgt := 25) dX11_foundCost_21 (by decide) ?_
      refine mW_put (ty := .int) (w2 := sfi w a0 0 0) dX11_foundCost_25 p_X11_3 h1 (Nat.le_of_ble_eq_true rfl) (by first | rfl | decide | (repeat' split) <;> rfl) rfl (hN_sfi _ _ _ _) (hk_sfi _ _ _ _) (mE_sfi h1 (by decide) (ob_11_0 _ _ _)) ?_
      refine mW_nm (fun w2 e2 => ?_)
      refine mW_aload_n (j := 1) dX11_foundCost_28 rfl rfl ?_
      refine mW_getL (v := 0) dX11_foundCost_29 f_X11_3 (s2k (S2_sfi e2) h1) rfl (by rw [e2, e_hfi_sfi, up2_at]) ?_
      refine mW_if_ne (tgt := 44) dX11_foundCost_32 (by decide) (fun c => absurd (by decide) c) (fun _ => ?_)
      refine mW_aload_n (j := 1) dX11_foundCost_35 rfl rfl ?_
      refine mW_getR dX11_foundCost_36 f_X11_73 (s2k (S2_sfi e2) h1) rfl (s2r (S2_sfi e2) h4) ?_
      refine mW_iload_n (j := 0) dX11_foundCost_39 rfl rfl ?_
      refine mW_laldJ dX11_foundCost_40 (s2k (S2_sfi e2) h5) s2 (j := 0) (by decide) ?_
      refine mW_goto (tgt := 45) dX11_foundCost_41 (by decide) ?_
      exact mW_lret dX11_foundCost_45 rfl (k2 c1 c2 w2 e2)
  · refine mW_iconst (v := 1) dX11_foundCost_4 (by decide) ?_
    refine mW_goto (tgt := 9) dX11_foundCost_5 (by decide) ?_
    refine mW_istore_n (lv2 := [(2, .int 1), (0, .ref a0), (1, .int x1)]) dX11_foundCost_9 rfl (by decide) rfl ?_
    refine mW_aload_n (j := 1) dX11_foundCost_10 rfl rfl ?_
    refine mW_aload_n (j := 1) dX11_foundCost_11 rfl rfl ?_
    refine mW_getR dX11_foundCost_12 f_X11_66 h1 rfl h2 ?_
    refine mW_iload_n (j := 0) dX11_foundCost_15 rfl rfl ?_
    refine mW_zaldJ dX11_foundCost_16 h3 s3 (j := 1) (by decide) ?_
    refine mW_if_eq (tgt := 24) dX11_foundCost_17 (by decide) (fun c3 => ?_) (fun c3 => ?_)
    · refine mW_iconst (v := 1) dX11_foundCost_24 (by decide) ?_
      refine mW_put (ty := .int) (w2 := sfi w a0 0 1) dX11_foundCost_25 p_X11_3 h1 (Nat.le_of_ble_eq_true rfl) (by first | rfl | decide | (repeat' split) <;> rfl) rfl (hN_sfi _ _ _ _) (hk_sfi _ _ _ _) (mE_sfi h1 (by decide) (ob_11_0 _ _ _)) ?_
      refine mW_nm (fun w3 e3 => ?_)
      refine mW_aload_n (j := 1) dX11_foundCost_28 rfl rfl ?_
      refine mW_getL (v := 1) dX11_foundCost_29 f_X11_3 (s2k (S2_sfi e3) h1) rfl (by rw [e3, e_hfi_sfi, up2_at]) ?_
      refine mW_if_ne (tgt := 44) dX11_foundCost_32 (by decide) (fun _ => ?_) (fun c => absurd c (by decide))
      refine mW_lconst (v := 0) dX11_foundCost_44 (by decide) ?_
      exact mW_lret dX11_foundCost_45 rfl (k3 c1 c3 w3 e3)
    · refine mW_iconst (v := 0) dX11_foundCost_20 (by decide) ?_
      refine mW_goto (tgt := 25) dX11_foundCost_21 (by decide) ?_
      refine mW_put (ty := .int) (w2 := sfi w a0 0 0) dX11_foundCost_25 p_X11_3 h1 (Nat.le_of_ble_eq_true rfl) (by first | rfl | decide | (repeat' split) <;> rfl) rfl (hN_sfi _ _ _ _) (hk_sfi _ _ _ _) (mE_sfi h1 (by decide) (ob_11_0 _ _ _)) ?_
      refine mW_nm (fun w4 e4 => ?_)
      refine mW_aload_n (j := 1) dX11_foundCost_28 rfl rfl ?_
      refine mW_getL (v := 0) dX11_foundCost_29 f_X11_3 (s2k (S2_sfi e4) h1) rfl (by rw [e4, e_hfi_sfi, up2_at]) ?_
      refine mW_if_ne (tgt := 44) dX11_foundCost_32 (by decide) (fun c => absurd (by decide) c) (fun _ => ?_)
      refine mW_aload_n (j := 1) dX11_foundCost_35 rfl rfl ?_
      refine mW_getR dX11_foundCost_36 f_X11_73 (s2k (S2_sfi e4) h1) rfl (s2r (S2_sfi e4) h4) ?_
      refine mW_iload_n (j := 0) dX11_foundCost_39 rfl rfl ?_
      refine mW_laldJ dX11_foundCost_40 (s2k (S2_sfi e4) h5) s4 (j := 1) (by decide) ?_
      refine mW_goto (tgt := 45) dX11_foundCost_41 (by decide) ?_
      exact mW_lret dX11_foundCost_45 rfl (k4 c1 c3 w4 e4)
def vX11_foundCost_ (w : mH) (a0 : Nat) (x1 : Int32) : Int64 := (if x1 = 0 then (if (hai w (a0 + 17) 0) = 0 then 0 else (hal w (a0 + 19) 0)) else (if (hai w (a0 + 17) 1) = 0 then 0 else (hal w (a0 + 19) 1)))
def tX11_foundCost (w : mH) (a0 : Nat) (x1 : Int32) : Int32 := (if x1 = 0 then (if (hai w (a0 + 17) 0) = 0 then 1 else 0) else (if (hai w (a0 + 17) 1) = 0 then 1 else 0))
theorem rX11_foundCost {G : mG} {w : mH} {a0 : Nat} {x1 : Int32} (z : zRef w a0) : mC G mX11_foundCost 2 0 0 [.ref a0, .int x1] w (mEq (.inl (some (.long (vX11_foundCost_ w a0 x1)))) (sfi w a0 0 (tX11_foundCost w a0 x1))) := by
  refine mC_of (by decide +kernel) rfl (Nat.le_of_ble_eq_true rfl) rfl ?_
  refine gX11_foundCost_0 (a0_31 := a0 + 17) (a0_33 := a0 + 19) z.1 z.2.2.2.2.2.2.2.2.2.2.2.2.2.2.2.2.2.1 z.2.2.2.2.2.2.2.2.2.2.2.2.2.2.2.2.2.2.2.2.2.2.2.2.2.2.2.2.2.2.2.2.2.2.2.2.2.2.1 (by intros; unfold vp_in; decide) z.2.2.2.2.2.2.2.2.2.2.2.2.2.2.2.2.2.2.2.1 z.2.2.2.2.2.2.2.2.2.2.2.2.2.2.2.2.2.2.2.2.2.2.2.2.2.2.2.2.2.2.2.2.2.2.2.2.2.2.2.2.1 (by intros; unfold vp_in; decide) (by intros; unfold vp_in; decide) (by intros; unfold vp_in; decide) ?_ ?_ ?_ ?_
  · intro c1 c2 w1 e1
    have ev : vX11_foundCost_ w a0 x1 = 0 := by unfold vX11_foundCost_; rw [if_pos c1, if_pos c2]
    have et : tX11_foundCost w a0 x1 = 1 := by unfold tX11_foundCost; rw [if_pos c1, if_pos c2]
    rw [ev, et]
    subst e1
    exact ⟨rfl, rfl⟩
  · intro c1 c2 w2 e2
    have ev : vX11_foundCost_ w a0 x1 = (hal w (a0 + 19) 0) := by unfold vX11_foundCost_; rw [if_pos c1, if_neg c2]
    have et : tX11_foundCost w a0 x1 = 0 := by unfold tX11_foundCost; rw [if_pos c1, if_neg c2]
    rw [ev, et]
    subst e2
    exact ⟨rfl, rfl⟩
  · intro c1 c3 w3 e3
    have ev : vX11_foundCost_ w a0 x1 = 0 := by unfold vX11_foundCost_; rw [if_neg c1, if_pos c3]
    have et : tX11_foundCost w a0 x1 = 1 := by unfold tX11_foundCost; rw [if_neg c1, if_pos c3]
    rw [ev, et]
    subst e3
    exact ⟨rfl, rfl⟩
  · intro c1 c3 w4 e4
    have ev : vX11_foundCost_ w a0 x1 = (hal w (a0 + 19) 1) := by unfold vX11_foundCost_; rw [if_neg c1, if_neg c3]
    have et : tX11_foundCost w a0 x1 = 0 := by unfold tX11_foundCost; rw [if_neg c1, if_neg c3]
    rw [ev, et]
    subst e4
    exact ⟨rfl, rfl⟩
theorem pt_ix {A : Nat → Int32} {x : Int32} (hp : ptOK A) (c : ¬ vX11_in x.toInt64 0 ((A 29 - 1).toInt64) = 0) : ∃ i, i < 5 ∧ x = nI i := by
  rw [in_eq (a := 0) (b := A 29 - 1) (A := 0) rfl rfl] at c
  obtain ⟨h1, h2⟩ := iw_n c
  rw [hp.1] at h2
  have h5 := hp.2
  by_cases h0 : nPt A = 0
  · rw [h0] at h2
    exact absurd (Int32.le_trans h1 h2) (by decide)
  · obtain ⟨m, hm⟩ : ∃ m, nPt A = m + 1 := ⟨nPt A - 1, by omega⟩
    rw [hm, m_sub1] at h2
    obtain ⟨i, hi, hx⟩ := iw_N (x := x) (n := m) (by omega) rfl (by rw [iw_0]; exact fun q => q ⟨h1, h2⟩)
    exact ⟨i, by omega, hx⟩
theorem x03 {x : Int32} (c : ¬ vX11_in x.toInt64 0 3 = 0) (d : ¬ x = 3) : ∃ i, i < 3 ∧ x = nI i := by
  rw [in_eq (a := 0) (b := 3) (A := 0) (B := 3) rfl rfl] at c
  obtain ⟨i, hi, hx⟩ := iw_N (n := 3) (by decide) rfl c
  exact ⟨i, by have : i ≠ 3 := fun q => d (by rw [hx, q]; rfl)
               omega, hx⟩
set_option maxHeartbeats 4000000 in
set_option maxRecDepth 100000 in
theorem gX11_point_0 {G : mG} {w : mH} {Φ : mF} {a0 : Nat} {x1 x2 : Int32} {a0_1 n_a0_1 : Nat} (h1 : hk w a0 = (11, 0)) (h2 : hfr w a0 1 = some a0_1) (h3 : hk w a0_1 = (16, n_a0_1)) (s1 : vp_in 29 n_a0_1) (s2 : (¬ ((vX11_in x1.toInt64 0 (((hai w a0_1 29) - 1).toInt64)) = 0)) → (¬ ((vX11_in x2.toInt64 0 1) = 0)) → ∀ w2 : mH, (w2 = sfi w a0 0 0) → (¬ (x2 = 0)) → vp_in ((30 + (2 * x1)) + 1) n_a0_1) (s3 : (¬ ((vX11_in x1.toInt64 0 (((hai w a0_1 29) - 1).toInt64)) = 0)) → (¬ ((vX11_in x2.toInt64 0 1) = 0)) → ∀ w2 : mH, (w2 = sfi w a0 0 0) → (x2 = 0) → vp_in (30 + (2 * x1)) n_a0_1) (k1 : (¬ ((vX11_in x1.toInt64 0 (((hai w a0_1 29) - 1).toInt64)) = 0)) → ((vX11_in x2.toInt64 0 1) = 0) → ∀ w1 : mH, (w1 = sfi w a0 0 2) → Φ (.inl (some (.int 0))) w1) (k2 : (¬ ((vX11_in x1.toInt64 0 (((hai w a0_1 29) - 1).toInt64)) = 0)) → (¬ ((vX11_in x2.toInt64 0 1) = 0)) → ∀ w2 : mH, (w2 = sfi w a0 0 0) → (¬ (x2 = 0)) → Φ (.inl (some (.int (vX11_y w2 x1 a0_1)))) w2) (k3 : (¬ ((vX11_in x1.toInt64 0 (((hai w a0_1 29) - 1).toInt64)) = 0)) → (¬ ((vX11_in x2.toInt64 0 1) = 0)) → ∀ w2 : mH, (w2 = sfi w a0 0 0) → (x2 = 0) → Φ (.inl (some (.int (vX11_x w2 x1 a0_1)))) w2) (k4 : ((vX11_in x1.toInt64 0 (((hai w a0_1 29) - 1).toInt64)) = 0) → ∀ w3 : mH, (w3 = sfi w a0 0 1) → Φ (.inl (some (.int 0))) w3) : mW G mX11_point 3 0 0 0 [(0, .ref a0), (1, .int x1), (2, .int x2)] [] w Φ := by
  refine mW_aload_n (j := 0) dX11_point_0 rfl rfl ?_
  refine mW_iload_n (j := 1) dX11_point_1 rfl rfl ?_
  refine mW_i2l dX11_point_2 ?_
  refine mW_lconst (v := 0) dX11_point_3 (by decide) ?_
  refine mW_aload_n (j := 0) dX11_point_4 rfl rfl ?_
  refine mW_callVe (As := []) (rest := [.long 0, .long x1.toInt64, .ref a0]) (kc2 := 0) (ks2 := 0) dX11_point_5 l_X11_99 rfl h1 rfl (by decide) (qX11_points (w := w) (a0 := a0) h1 h2 h3 s1) (Nat.le_of_ble_eq_true rfl) (by decide) rfl rfl ?_
  refine mW_iconst (v := 1) dX11_point_8 (by decide) ?_
  refine mW_isub dX11_point_9 ?_
  refine mW_i2l dX11_point_10 ?_
  refine mW_callSe (As := [.long x1.toInt64, .long 0, .long (((hai w a0_1 29) - 1).toInt64)]) (rest := [.ref a0]) (kc2 := 0) (ks2 := 0) dX11_point_11 l_X11_92 rfl (qX11_in (w := w) (y0 := x1.toInt64) (y2 := 0) (y4 := ((hai w a0_1 29) - 1).toInt64)) (Nat.le_of_ble_eq_true rfl) (by decide) rfl rfl ?_
  refine mW_if_ne (tgt := 21) dX11_point_14 (by decide) (fun c1 => ?_) (fun c1 => ?_)
  · refine mW_iload_n (j := 2) dX11_point_21 rfl rfl ?_
    refine mW_i2l dX11_point_22 ?_
    refine mW_lconst (v := 0) dX11_point_23 (by decide) ?_
    refine mW_lconst (v := 1) dX11_point_24 (by decide) ?_
    refine mW_callSe (As := [.long x2.toInt64, .long 0, .long 1]) (rest := [.ref a0]) (kc2 := 0) (ks2 := 0) dX11_point_25 l_X11_92 rfl (qX11_in (w := w) (y0 := x2.toInt64) (y2 := 0) (y4 := 1)) (Nat.le_of_ble_eq_true rfl) (by decide) rfl rfl ?_
    refine mW_if_eq (tgt := 35) dX11_point_28 (by decide) (fun c2 => ?_) (fun c2 => ?_)
    · refine mW_iconst (v := 2) dX11_point_35 (by decide) ?_
      refine mW_put (ty := .int) (w2 := sfi w a0 0 2) dX11_point_36 p_X11_3 h1 (Nat.le_of_ble_eq_true rfl) (by first | rfl | decide | (repeat' split) <;> rfl) rfl (hN_sfi _ _ _ _) (hk_sfi _ _ _ _) (mE_sfi h1 (by decide) (ob_11_0 _ _ _)) ?_
      refine mW_nm (fun w1 e1 => ?_)
      refine mW_aload_n (j := 0) dX11_point_39 rfl rfl ?_
      refine mW_getL (v := 2) dX11_point_40 f_X11_3 (s2k (S2_sfi e1) h1) rfl (by rw [e1, e_hfi_sfi, up2_at]) ?_
      refine mW_if_eq (tgt := 50) dX11_point_43 (by decide) (fun c => absurd c (by decide)) (fun _ => ?_)
      refine mW_iconst (v := 0) dX11_point_46 (by decide) ?_
      refine mW_goto (tgt := 67) dX11_point_47 (by decide) ?_
      exact mW_iret dX11_point_67 rfl (k1 c1 c2 w1 e1)
    · refine mW_iconst (v := 0) dX11_point_31 (by decide) ?_
      refine mW_goto (tgt := 36) dX11_point_32 (by decide) ?_
      refine mW_put (ty := .int) (w2 := sfi w a0 0 0) dX11_point_36 p_X11_3 h1 (Nat.le_of_ble_eq_true rfl) (by first | rfl | decide | (repeat' split) <;> rfl) rfl (hN_sfi _ _ _ _) (hk_sfi _ _ _ _) (mE_sfi h1 (by decide) (ob_11_0 _ _ _)) ?_
      refine mW_nm (fun w2 e2 => ?_)
      refine mW_aload_n (j := 0) dX11_point_39 rfl rfl ?_
      refine mW_getL (v := 0) dX11_point_40 f_X11_3 (s2k (S2_sfi e2) h1) rfl (by rw [e2, e_hfi_sfi, up2_at]) ?_
      refine mW_if_eq (tgt := 50) dX11_point_43 (by decide) (fun _ => ?_) (fun c => absurd (by decide) c)
      refine mW_iload_n (j := 2) dX11_point_50 rfl rfl ?_
      refine mW_if_ne (tgt := 62) dX11_point_51 (by decide) (fun c3 => ?_) (fun c3 => ?_)
      · refine mW_aload_n (j := 0) dX11_point_62 rfl rfl ?_
        refine mW_iload_n (j := 1) dX11_point_63 rfl rfl ?_
        refine mW_callVe (As := [.int x1]) (rest := []) (kc2 := 0) (ks2 := 0) dX11_point_64 l_X11_118 rfl (s2k (S2_sfi e2) h1) rfl (by decide) (qX11_y (w := w2) (a0 := a0) (x1 := x1) (s2k (S2_sfi e2) h1) (s2r (S2_sfi e2) h2) (s2k (S2_sfi e2) h3) (s2 c1 c2 w2 e2 c3)) (Nat.le_of_ble_eq_true rfl) (by decide) rfl rfl ?_
        exact mW_iret dX11_point_67 rfl (k2 c1 c2 w2 e2 c3)
      · refine mW_aload_n (j := 0) dX11_point_54 rfl rfl ?_
        refine mW_iload_n (j := 1) dX11_point_55 rfl rfl ?_
        refine mW_callVe (As := [.int x1]) (rest := []) (kc2 := 0) (ks2 := 0) dX11_point_56 l_X11_103 rfl (s2k (S2_sfi e2) h1) rfl (by decide) (qX11_x (w := w2) (a0 := a0) (x1 := x1) (s2k (S2_sfi e2) h1) (s2r (S2_sfi e2) h2) (s2k (S2_sfi e2) h3) (s3 c1 c2 w2 e2 c3)) (Nat.le_of_ble_eq_true rfl) (by decide) rfl rfl ?_
        refine mW_goto (tgt := 67) dX11_point_59 (by decide) ?_
        exact mW_iret dX11_point_67 rfl (k3 c1 c2 w2 e2 c3)
  · refine mW_iconst (v := 1) dX11_point_17 (by decide) ?_
    refine mW_goto (tgt := 36) dX11_point_18 (by decide) ?_
    refine mW_put (ty := .int) (w2 := sfi w a0 0 1) dX11_point_36 p_X11_3 h1 (Nat.le_of_ble_eq_true rfl) (by first | rfl | decide | (repeat' split) <;> rfl) rfl (hN_sfi _ _ _ _) (hk_sfi _ _ _ _) (mE_sfi h1 (by decide) (ob_11_0 _ _ _)) ?_
    refine mW_nm (fun w3 e3 => ?_)
    refine mW_aload_n (j := 0) dX11_point_39 rfl rfl ?_
    refine mW_getL (v := 1) dX11_point_40 f_X11_3 (s2k (S2_sfi e3) h1) rfl (by rw [e3, e_hfi_sfi, up2_at]) ?_
    refine mW_if_eq (tgt := 50) dX11_point_43 (by decide) (fun c => absurd c (by decide)) (fun _ => ?_)
    refine mW_iconst (v := 0) dX11_point_46 (by decide) ?_
    refine mW_goto (tgt := 67) dX11_point_47 (by decide) ?_
    exact mW_iret dX11_point_67 rfl (k4 c1 w3 e3)
def vX11_point_ (w : mH) (a0 : Nat) (x1 : Int32) (x2 : Int32) : Int32 := (if (vX11_in x1.toInt64 0 (((hai w (a0 + 1) 29) - 1).toInt64)) = 0 then 0 else (if (vX11_in x2.toInt64 0 1) = 0 then 0 else (if x2 = 0 then (vX11_x w x1 (a0 + 1)) else (vX11_y w x1 (a0 + 1)))))
def tX11_point (w : mH) (a0 : Nat) (x1 : Int32) (x2 : Int32) : Int32 := (if (vX11_in x1.toInt64 0 (((hai w (a0 + 1) 29) - 1).toInt64)) = 0 then 1 else (if (vX11_in x2.toInt64 0 1) = 0 then 2 else (if x2 = 0 then 0 else 0)))
theorem rX11_point {G : mG} {w : mH} {a0 : Nat} {x1 : Int32} {x2 : Int32} (z : zRef w a0) (hp : ptOK (hai w (a0 + 1))) : mC G mX11_point 3 0 0 [.ref a0, .int x1, .int x2] w (mEq (.inl (some (.int (vX11_point_ w a0 x1 x2)))) (sfi w a0 0 (tX11_point w a0 x1 x2))) := by
  refine mC_of (by decide +kernel) rfl (Nat.le_of_ble_eq_true rfl) rfl ?_
  refine gX11_point_0 (a0_1 := a0 + 1) z.1 z.2.1 z.2.2.2.2.2.2.2.2.2.2.2.2.2.2.2.2.2.2.2.2.2.2.1 (by intros; unfold vp_in; decide) (by intro c1 c2 w2 e2 c3; obtain ⟨i, hi, hx⟩ := pt_ix hp c1; rw [hx, m_30, nI_1]; exact m_vp (by omega) (by decide)) (by intro c1 c2 w2 e2 c3; obtain ⟨i, hi, hx⟩ := pt_ix hp c1; rw [hx, m_30]; exact m_vp (by omega) (by decide)) ?_ ?_ ?_ ?_
  · intro c1 c2 w1 e1
    have ev : vX11_point_ w a0 x1 x2 = 0 := by unfold vX11_point_; rw [if_neg c1, if_pos c2]
    have et : tX11_point w a0 x1 x2 = 2 := by unfold tX11_point; rw [if_neg c1, if_pos c2]
    rw [ev, et]
    subst e1
    exact ⟨rfl, rfl⟩
  · intro c1 c2 w2 e2 c3
    have ev : vX11_point_ w a0 x1 x2 = (vX11_y w x1 (a0 + 1)) := by unfold vX11_point_; rw [if_neg c1, if_neg c2, if_neg c3]
    have et : tX11_point w a0 x1 x2 = 0 := by unfold tX11_point; rw [if_neg c1, if_neg c2, if_neg c3]
    rw [ev, et]
    subst e2
    exact ⟨rfl, rfl⟩
  · intro c1 c2 w2 e2 c3
    have ev : vX11_point_ w a0 x1 x2 = (vX11_x w x1 (a0 + 1)) := by unfold vX11_point_; rw [if_neg c1, if_neg c2, if_pos c3]
    have et : tX11_point w a0 x1 x2 = 0 := by unfold tX11_point; rw [if_neg c1, if_neg c2, if_pos c3]
    rw [ev, et]
    subst e2
    exact ⟨rfl, rfl⟩
  · intro c1 w3 e3
    have ev : vX11_point_ w a0 x1 x2 = 0 := by unfold vX11_point_; rw [if_pos c1]
    have et : tX11_point w a0 x1 x2 = 1 := by unfold tX11_point; rw [if_pos c1]
    rw [ev, et]
    subst e3
    exact ⟨rfl, rfl⟩
set_option maxHeartbeats 4000000 in
set_option maxRecDepth 100000 in
theorem gX11_found_0 {G : mG} {w : mH} {Φ : mF} {a0 : Nat} {x1 x2 : Int32} {a0_31 n_a0_31 a0_32 n_a0_32 a0_34 n_a0_34 : Nat} (h1 : hk w a0 = (11, 0)) (h2 : hfr w a0 31 = some a0_31) (h3 : hk w a0_31 = (20, n_a0_31)) (s1 : vp_in 0 n_a0_31) (h4 : hfr w a0 32 = some a0_32) (h5 : hk w a0_32 = (16, n_a0_32)) (s2 : (x1 = 0) → (¬ ((hai w a0_31 0) = 0)) → (¬ ((vX11_in x2.toInt64 0 3) = 0)) → ∀ w2 : mH, (w2 = sfi w a0 0 0) → (¬ (x2 = 3)) → vp_in (0 + x2) n_a0_32) (h6 : hfr w a0 34 = some a0_34) (h7 : hk w a0_34 = (16, n_a0_34)) (s3 : vp_in 0 n_a0_34) (s4 : vp_in 1 n_a0_31) (s5 : (¬ (x1 = 0)) → (¬ ((hai w a0_31 1) = 0)) → (¬ ((vX11_in x2.toInt64 0 3) = 0)) → ∀ w5 : mH, (w5 = sfi w a0 0 0) → (¬ (x2 = 3)) → vp_in (3 + x2) n_a0_32) (s6 : vp_in 1 n_a0_34) (k1 : (x1 = 0) → (¬ ((hai w a0_31 0) = 0)) → ((vX11_in x2.toInt64 0 3) = 0) → ∀ w1 : mH, (w1 = sfi w a0 0 2) → Φ (.inl (some (.int 0))) w1) (k2 : (x1 = 0) → (¬ ((hai w a0_31 0) = 0)) → (¬ ((vX11_in x2.toInt64 0 3) = 0)) → ∀ w2 : mH, (w2 = sfi w a0 0 0) → (¬ (x2 = 3)) → Φ (.inl (some (.int (hai w2 a0_32 ((0 + x2).toNatClampNeg))))) w2) (k3 : (x1 = 0) → (¬ ((hai w a0_31 0) = 0)) → (¬ ((vX11_in x2.toInt64 0 3) = 0)) → ∀ w2 : mH, (w2 = sfi w a0 0 0) → (x2 = 3) → Φ (.inl (some (.int (hai w2 a0_34 0)))) w2) (k4 : (x1 = 0) → ((hai w a0_31 0) = 0) → ∀ w3 : mH, (w3 = sfi w a0 0 1) → Φ (.inl (some (.int 0))) w3) (k5 : (¬ (x1 = 0)) → (¬ ((hai w a0_31 1) = 0)) → ((vX11_in x2.toInt64 0 3) = 0) → ∀ w4 : mH, (w4 = sfi w a0 0 2) → Φ (.inl (some (.int 0))) w4) (k6 : (¬ (x1 = 0)) → (¬ ((hai w a0_31 1) = 0)) → (¬ ((vX11_in x2.toInt64 0 3) = 0)) → ∀ w5 : mH, (w5 = sfi w a0 0 0) → (¬ (x2 = 3)) → Φ (.inl (some (.int (hai w5 a0_32 ((3 + x2).toNatClampNeg))))) w5) (k7 : (¬ (x1 = 0)) → (¬ ((hai w a0_31 1) = 0)) → (¬ ((vX11_in x2.toInt64 0 3) = 0)) → ∀ w5 : mH, (w5 = sfi w a0 0 0) → (x2 = 3) → Φ (.inl (some (.int (hai w5 a0_34 1)))) w5) (k8 : (¬ (x1 = 0)) → ((hai w a0_31 1) = 0) → ∀ w6 : mH, (w6 = sfi w a0 0 1) → Φ (.inl (some (.int 0))) w6) : mW G mX11_found 3 0 0 0 [(0, .ref a0), (1, .int x1), (2, .int x2)] [] w Φ := by
  refine mW_iload_n (j := 1) dX11_found_0 rfl rfl ?_
  refine mW_if_eq (tgt := 8) dX11_found_1 (by decide) (fun c1 => ?_) (fun c1 => ?_)
  · refine mW_iconst (v := 0) dX11_found_8 (by decide) ?_
    refine mW_istore_n (lv2 := [(3, .int 0), (0, .ref a0), (1, .int x1), (2, .int x2)]) dX11_found_9 rfl (by decide) rfl ?_
    refine mW_aload_n (j := 1) dX11_found_10 rfl rfl ?_
    refine mW_aload_n (j := 1) dX11_found_11 rfl rfl ?_
    refine mW_getR dX11_found_12 f_X11_66 h1 rfl h2 ?_
    refine mW_iload_n (j := 0) dX11_found_15 rfl rfl ?_
    refine mW_zaldJ dX11_found_16 h3 s1 (j := 0) (by decide) ?_
    refine mW_if_ne (tgt := 24) dX11_found_17 (by decide) (fun c2 => ?_) (fun c2 => ?_)
    · refine mW_iload_n (j := 3) dX11_found_24 rfl rfl ?_
      refine mW_i2l dX11_found_25 ?_
      refine mW_lconst (v := 0) dX11_found_26 (by decide) ?_
      refine mW_ldc2 (v := 3) dX11_found_27 u1957 ?_
      refine mW_callSe (As := [.long x2.toInt64, .long 0, .long 3]) (rest := [.ref a0]) (kc2 := 0) (ks2 := 0) dX11_found_30 l_X11_92 rfl (qX11_in (w := w) (y0 := x2.toInt64) (y2 := 0) (y4 := 3)) (Nat.le_of_ble_eq_true rfl) (by decide) rfl rfl ?_
      refine mW_if_eq (tgt := 40) dX11_found_33 (by decide) (fun c3 => ?_) (fun c3 => ?_)
      · refine mW_iconst (v := 2) dX11_found_40 (by decide) ?_
        refine mW_put (ty := .int) (w2 := sfi w a0 0 2) dX11_found_41 p_X11_3 h1 (Nat.le_of_ble_eq_true rfl) (by first | rfl | decide | (repeat' split) <;> rfl) rfl (hN_sfi _ _ _ _) (hk_sfi _ _ _ _) (mE_sfi h1 (by decide) (ob_11_0 _ _ _)) ?_
        refine mW_nm (fun w1 e1 => ?_)
        refine mW_aload_n (j := 1) dX11_found_44 rfl rfl ?_
        refine mW_getL (v := 2) dX11_found_45 f_X11_3 (s2k (S2_sfi e1) h1) rfl (by rw [e1, e_hfi_sfi, up2_at]) ?_
        refine mW_if_eq (tgt := 55) dX11_found_48 (by decide) (fun c => absurd c (by decide)) (fun _ => ?_)
        refine mW_iconst (v := 0) dX11_found_51 (by decide) ?_
        refine mW_goto (tgt := 79) dX11_found_52 (by decide) ?_
        exact mW_iret dX11_found_79 rfl (k1 c1 c2 c3 w1 e1)
      · refine mW_iconst (v := 0) dX11_found_36 (by decide) ?_
        refine mW_goto (tgt := 41) dX11_found_37 (by decide) ?_
        refine mW_put (ty := .int) (w2 := sfi w a0 0 0) dX11_found_41 p_X11_3 h1 (Nat.le_of_ble_eq_true rfl) (by first | rfl | decide | (repeat' split) <;> rfl) rfl (hN_sfi _ _ _ _) (hk_sfi _ _ _ _) (mE_sfi h1 (by decide) (ob_11_0 _ _ _)) ?_
        refine mW_nm (fun w2 e2 => ?_)
        refine mW_aload_n (j := 1) dX11_found_44 rfl rfl ?_
        refine mW_getL (v := 0) dX11_found_45 f_X11_3 (s2k (S2_sfi e2) h1) rfl (by rw [e2, e_hfi_sfi, up2_at]) ?_
        refine mW_if_eq (tgt := 55) dX11_found_48 (by decide) (fun _ => ?_) (fun c => absurd (by decide) c)
        refine mW_iload_n (j := 3) dX11_found_55 rfl rfl ?_
        refine mW_iconst (v := 3) dX11_found_56 (by decide) ?_
        refine mW_icmp_ne (tgt := 69) dX11_found_57 (by decide) (fun c4 => ?_) (fun c4 => ?_)
        · refine mW_aload_n (j := 1) dX11_found_69 rfl rfl ?_
          refine mW_getR dX11_found_70 f_X11_70 (s2k (S2_sfi e2) h1) rfl (s2r (S2_sfi e2) h4) ?_
          refine mW_iconst (v := 3) dX11_found_73 (by decide) ?_
          refine mW_iload_n (j := 0) dX11_found_74 rfl rfl ?_
          refine mW_imulL (v := 0) dX11_found_75 (by decide) ?_
          refine mW_iload_n (j := 3) dX11_found_76 rfl rfl ?_
          refine mW_iadd dX11_found_77 ?_
          refine mW_ialdJ dX11_found_78 (s2k (S2_sfi e2) h5) (s2 c1 c2 c3 w2 e2 c4) rfl ?_
          exact mW_iret dX11_found_79 rfl (k2 c1 c2 c3 w2 e2 c4)
        · refine mW_aload_n (j := 1) dX11_found_60 rfl rfl ?_
          refine mW_getR dX11_found_61 f_X11_77 (s2k (S2_sfi e2) h1) rfl (s2r (S2_sfi e2) h6) ?_
          refine mW_iload_n (j := 0) dX11_found_64 rfl rfl ?_
          refine mW_ialdJ dX11_found_65 (s2k (S2_sfi e2) h7) s3 (j := 0) (by decide) ?_
          refine mW_goto (tgt := 79) dX11_found_66 (by decide) ?_
          exact mW_iret dX11_found_79 rfl (k3 c1 c2 c3 w2 e2 c4)
    · refine mW_iconst (v := 1) dX11_found_20 (by decide) ?_
      refine mW_goto (tgt := 41) dX11_found_21 (by decide) ?_
      refine mW_put (ty := .int) (w2 := sfi w a0 0 1) dX11_found_41 p_X11_3 h1 (Nat.le_of_ble_eq_true rfl) (by first | rfl | decide | (repeat' split) <;> rfl) rfl (hN_sfi _ _ _ _) (hk_sfi _ _ _ _) (mE_sfi h1 (by decide) (ob_11_0 _ _ _)) ?_
      refine mW_nm (fun w3 e3 => ?_)
      refine mW_aload_n (j := 1) dX11_found_44 rfl rfl ?_
      refine mW_getL (v := 1) dX11_found_45 f_X11_3 (s2k (S2_sfi e3) h1) rfl (by rw [e3, e_hfi_sfi, up2_at]) ?_
      refine mW_if_eq (tgt := 55) dX11_found_48 (by decide) (fun c => absurd c (by decide)) (fun _ => ?_)
      refine mW_iconst (v := 0) dX11_found_51 (by decide) ?_
      refine mW_goto (tgt := 79) dX11_found_52 (by decide) ?_
      exact mW_iret dX11_found_79 rfl (k4 c1 c2 w3 e3)
  · refine mW_iconst (v := 1) dX11_found_4 (by decide) ?_
    refine mW_goto (tgt := 9) dX11_found_5 (by decide) ?_
    refine mW_istore_n (lv2 := [(3, .int 1), (0, .ref a0), (1, .int x1), (2, .int x2)]) dX11_found_9 rfl (by decide) rfl ?_
    refine mW_aload_n (j := 1) dX11_found_10 rfl rfl ?_
    refine mW_aload_n (j := 1) dX11_found_11 rfl rfl ?_
    refine mW_getR dX11_found_12 f_X11_66 h1 rfl h2 ?_
    refine mW_iload_n (j := 0) dX11_found_15 rfl rfl ?_
    refine mW_zaldJ dX11_found_16 h3 s4 (j := 1) (by decide) ?_
    refine mW_if_ne (tgt := 24) dX11_found_17 (by decide) (fun c5 => ?_) (fun c5 => ?_)
    · refine mW_iload_n (j := 3) dX11_found_24 rfl rfl ?_
      refine mW_i2l dX11_found_25 ?_
      refine mW_lconst (v := 0) dX11_found_26 (by decide) ?_
      refine mW_ldc2 (v := 3) dX11_found_27 u1957 ?_
      refine mW_callSe (As := [.long x2.toInt64, .long 0, .long 3]) (rest := [.ref a0]) (kc2 := 0) (ks2 := 0) dX11_found_30 l_X11_92 rfl (qX11_in (w := w) (y0 := x2.toInt64) (y2 := 0) (y4 := 3)) (Nat.le_of_ble_eq_true rfl) (by decide) rfl rfl ?_
      refine mW_if_eq (tgt := 40) dX11_found_33 (by decide) (fun c6 => ?_) (fun c6 => ?_)
      · refine mW_iconst (v := 2) dX11_found_40 (by decide) ?_
        refine mW_put (ty := .int) (w2 := sfi w a0 0 2) dX11_found_41 p_X11_3 h1 (Nat.le_of_ble_eq_true rfl) (by first | rfl | decide | (repeat' split) <;> rfl) rfl (hN_sfi _ _ _ _) (hk_sfi _ _ _ _) (mE_sfi h1 (by decide) (ob_11_0 _ _ _)) ?_
        refine mW_nm (fun w4 e4 => ?_)
        refine mW_aload_n (j := 1) dX11_found_44 rfl rfl ?_
        refine mW_getL (v := 2) dX11_found_45 f_X11_3 (s2k (S2_sfi e4) h1) rfl (by rw [e4, e_hfi_sfi, up2_at]) ?_
        refine mW_if_eq (tgt := 55) dX11_found_48 (by decide) (fun c => absurd c (by decide)) (fun _ => ?_)
        refine mW_iconst (v := 0) dX11_found_51 (by decide) ?_
        refine mW_goto (tgt := 79) dX11_found_52 (by decide) ?_
        exact mW_iret dX11_found_79 rfl (k5 c1 c5 c6 w4 e4)
      · refine mW_iconst (v := 0) dX11_found_36 (by decide) ?_
        refine mW_goto (tgt := 41) dX11_found_37 (by decide) ?_
        refine mW_put (ty := .int) (w2 := sfi w a0 0 0) dX11_found_41 p_X11_3 h1 (Nat.le_of_ble_eq_true rfl) (by first | rfl | decide | (repeat' split) <;> rfl) rfl (hN_sfi _ _ _ _) (hk_sfi _ _ _ _) (mE_sfi h1 (by decide) (ob_11_0 _ _ _)) ?_
        refine mW_nm (fun w5 e5 => ?_)
        refine mW_aload_n (j := 1) dX11_found_44 rfl rfl ?_
        refine mW_getL (v := 0) dX11_found_45 f_X11_3 (s2k (S2_sfi e5) h1) rfl (by rw [e5, e_hfi_sfi, up2_at]) ?_
        refine mW_if_eq (tgt := 55) dX11_found_48 (by decide) (fun _ => ?_) (fun c => absurd (by decide) c)
        refine mW_iload_n (j := 3) dX11_found_55 rfl rfl ?_
        refine mW_iconst (v := 3) dX11_found_56 (by decide) ?_
        refine mW_icmp_ne (tgt := 69) dX11_found_57 (by decide) (fun c7 => ?_) (fun c7 => ?_)
        · refine mW_aload_n (j := 1) dX11_found_69 rfl rfl ?_
          refine mW_getR dX11_found_70 f_X11_70 (s2k (S2_sfi e5) h1) rfl (s2r (S2_sfi e5) h4) ?_
          refine mW_iconst (v := 3) dX11_found_73 (by decide) ?_
          refine mW_iload_n (j := 0) dX11_found_74 rfl rfl ?_
          refine mW_imulL (v := 3) dX11_found_75 (by decide) ?_
          refine mW_iload_n (j := 3) dX11_found_76 rfl rfl ?_
          refine mW_iadd dX11_found_77 ?_
          refine mW_ialdJ dX11_found_78 (s2k (S2_sfi e5) h5) (s5 c1 c5 c6 w5 e5 c7) rfl ?_
          exact mW_iret dX11_found_79 rfl (k6 c1 c5 c6 w5 e5 c7)
        · refine mW_aload_n (j := 1) dX11_found_60 rfl rfl ?_
          refine mW_getR dX11_found_61 f_X11_77 (s2k (S2_sfi e5) h1) rfl (s2r (S2_sfi e5) h6) ?_
          refine mW_iload_n (j := 0) dX11_found_64 rfl rfl ?_
          refine mW_ialdJ dX11_found_65 (s2k (S2_sfi e5) h7) s6 (j := 1) (by decide) ?_
          refine mW_goto (tgt := 79) dX11_found_66 (by decide) ?_
          exact mW_iret dX11_found_79 rfl (k7 c1 c5 c6 w5 e5 c7)
    · refine mW_iconst (v := 1) dX11_found_20 (by decide) ?_
      refine mW_goto (tgt := 41) dX11_found_21 (by decide) ?_
      refine mW_put (ty := .int) (w2 := sfi w a0 0 1) dX11_found_41 p_X11_3 h1 (Nat.le_of_ble_eq_true rfl) (by first | rfl | decide | (repeat' split) <;> rfl) rfl (hN_sfi _ _ _ _) (hk_sfi _ _ _ _) (mE_sfi h1 (by decide) (ob_11_0 _ _ _)) ?_
      refine mW_nm (fun w6 e6 => ?_)
      refine mW_aload_n (j := 1) dX11_found_44 rfl rfl ?_
      refine mW_getL (v := 1) dX11_found_45 f_X11_3 (s2k (S2_sfi e6) h1) rfl (by rw [e6, e_hfi_sfi, up2_at]) ?_
      refine mW_if_eq (tgt := 55) dX11_found_48 (by decide) (fun c => absurd c (by decide)) (fun _ => ?_)
      refine mW_iconst (v := 0) dX11_found_51 (by decide) ?_
      refine mW_goto (tgt := 79) dX11_found_52 (by decide) ?_
      exact mW_iret dX11_found_79 rfl (k8 c1 c5 w6 e6)
def vX11_found_ (w : mH) (a0 : Nat) (x1 : Int32) (x2 : Int32) : Int32 := (if x1 = 0 then (if (hai w (a0 + 17) 0) = 0 then 0 else (if (vX11_in x2.toInt64 0 3) = 0 then 0 else (if x2 = 3 then (hai w (a0 + 20) 0) else (hai w (a0 + 18) ((0 + x2).toNatClampNeg))))) else (if (hai w (a0 + 17) 1) = 0 then 0 else (if (vX11_in x2.toInt64 0 3) = 0 then 0 else (if x2 = 3 then (hai w (a0 + 20) 1) else (hai w (a0 + 18) ((3 + x2).toNatClampNeg))))))
def tX11_found (w : mH) (a0 : Nat) (x1 : Int32) (x2 : Int32) : Int32 := (if x1 = 0 then (if (hai w (a0 + 17) 0) = 0 then 1 else (if (vX11_in x2.toInt64 0 3) = 0 then 2 else (if x2 = 3 then 0 else 0))) else (if (hai w (a0 + 17) 1) = 0 then 1 else (if (vX11_in x2.toInt64 0 3) = 0 then 2 else (if x2 = 3 then 0 else 0))))
theorem rX11_found {G : mG} {w : mH} {a0 : Nat} {x1 : Int32} {x2 : Int32} (z : zRef w a0) : mC G mX11_found 3 0 0 [.ref a0, .int x1, .int x2] w (mEq (.inl (some (.int (vX11_found_ w a0 x1 x2)))) (sfi w a0 0 (tX11_found w a0 x1 x2))) := by
  refine mC_of (by decide +kernel) rfl (Nat.le_of_ble_eq_true rfl) rfl ?_
  refine gX11_found_0 (a0_31 := a0 + 17) (a0_32 := a0 + 18) (a0_34 := a0 + 20) z.1 z.2.2.2.2.2.2.2.2.2.2.2.2.2.2.2.2.2.1 z.2.2.2.2.2.2.2.2.2.2.2.2.2.2.2.2.2.2.2.2.2.2.2.2.2.2.2.2.2.2.2.2.2.2.2.2.2.2.1 (by intros; unfold vp_in; decide) z.2.2.2.2.2.2.2.2.2.2.2.2.2.2.2.2.2.2.1 z.2.2.2.2.2.2.2.2.2.2.2.2.2.2.2.2.2.2.2.2.2.2.2.2.2.2.2.2.2.2.2.2.2.2.2.2.2.2.2.1 (by intro c1 c2 c3 w2 e2 c4; obtain ⟨i, hi, hx⟩ := x03 c3 c4; rw [hx, Int32.zero_add]; exact m_vp (by omega) (by decide)) z.2.2.2.2.2.2.2.2.2.2.2.2.2.2.2.2.2.2.2.2.1 z.2.2.2.2.2.2.2.2.2.2.2.2.2.2.2.2.2.2.2.2.2.2.2.2.2.2.2.2.2.2.2.2.2.2.2.2.2.2.2.2.2.1 (by intros; unfold vp_in; decide) (by intros; unfold vp_in; decide) (by intro c1 c5 c6 w5 e5 c7; obtain ⟨i, hi, hx⟩ := x03 c6 c7; rw [hx, show (3 : Int32) = nI 3 from rfl, nI_add]; exact m_vp (by omega) (by decide)) (by intros; unfold vp_in; decide) ?_ ?_ ?_ ?_ ?_ ?_ ?_ ?_
  · intro c1 c2 c3 w1 e1
    have ev : vX11_found_ w a0 x1 x2 = 0 := by unfold vX11_found_; rw [if_pos c1, if_neg c2, if_pos c3]
    have et : tX11_found w a0 x1 x2 = 2 := by unfold tX11_found; rw [if_pos c1, if_neg c2, if_pos c3]
    rw [ev, et]
    subst e1
    exact ⟨rfl, rfl⟩
  · intro c1 c2 c3 w2 e2 c4
    have ev : vX11_found_ w a0 x1 x2 = (hai w (a0 + 18) ((0 + x2).toNatClampNeg)) := by unfold vX11_found_; rw [if_pos c1, if_neg c2, if_neg c3, if_neg c4]
    have et : tX11_found w a0 x1 x2 = 0 := by unfold tX11_found; rw [if_pos c1, if_neg c2, if_neg c3, if_neg c4]
    rw [ev, et]
    subst e2
    exact ⟨rfl, rfl⟩
  · intro c1 c2 c3 w2 e2 c4
    have ev : vX11_found_ w a0 x1 x2 = (hai w (a0 + 20) 0) := by unfold vX11_found_; rw [if_pos c1, if_neg c2, if_neg c3, if_pos c4]
    have et : tX11_found w a0 x1 x2 = 0 := by unfold tX11_found; rw [if_pos c1, if_neg c2, if_neg c3, if_pos c4]
    rw [ev, et]
    subst e2
    exact ⟨rfl, rfl⟩
  · intro c1 c2 w3 e3
    have ev : vX11_found_ w a0 x1 x2 = 0 := by unfold vX11_found_; rw [if_pos c1, if_pos c2]
    have et : tX11_found w a0 x1 x2 = 1 := by unfold tX11_found; rw [if_pos c1, if_pos c2]
    rw [ev, et]
    subst e3
    exact ⟨rfl, rfl⟩
  · intro c1 c5 c6 w4 e4
    have ev : vX11_found_ w a0 x1 x2 = 0 := by unfold vX11_found_; rw [if_neg c1, if_neg c5, if_pos c6]
    have et : tX11_found w a0 x1 x2 = 2 := by unfold tX11_found; rw [if_neg c1, if_neg c5, if_pos c6]
    rw [ev, et]
    subst e4
    exact ⟨rfl, rfl⟩
  · intro c1 c5 c6 w5 e5 c7
    have ev : vX11_found_ w a0 x1 x2 = (hai w (a0 + 18) ((3 + x2).toNatClampNeg)) := by unfold vX11_found_; rw [if_neg c1, if_neg c5, if_neg c6, if_neg c7]
    have et : tX11_found w a0 x1 x2 = 0 := by unfold tX11_found; rw [if_neg c1, if_neg c5, if_neg c6, if_neg c7]
    rw [ev, et]
    subst e5
    exact ⟨rfl, rfl⟩
  · intro c1 c5 c6 w5 e5 c7
    have ev : vX11_found_ w a0 x1 x2 = (hai w (a0 + 20) 1) := by unfold vX11_found_; rw [if_neg c1, if_neg c5, if_neg c6, if_pos c7]
    have et : tX11_found w a0 x1 x2 = 0 := by unfold tX11_found; rw [if_neg c1, if_neg c5, if_neg c6, if_pos c7]
    rw [ev, et]
    subst e5
    exact ⟨rfl, rfl⟩
  · intro c1 c5 w6 e6
    have ev : vX11_found_ w a0 x1 x2 = 0 := by unfold vX11_found_; rw [if_neg c1, if_pos c5]
    have et : tX11_found w a0 x1 x2 = 1 := by unfold tX11_found; rw [if_neg c1, if_pos c5]
    rw [ev, et]
    subst e6
    exact ⟨rfl, rfl⟩
theorem tr_ix {x1 x2 M : Int32} {N : Nat} (hN : M = nI N ∧ N ≤ 200) (c2 : ¬ vX11_in x1.toInt64 0 M.toInt64 = 0) (c3 : ¬ vX11_in x2.toInt64 0 5 = 0) : vp_in (201 * x2 + x1) 1206 := by
  rw [in_eq (a := 0) (b := M) (A := 0) rfl rfl] at c2
  rw [in_eq (a := 0) (b := 5) (A := 0) (B := 5) rfl rfl] at c3
  obtain ⟨i, hi, hx⟩ := iw_N (n := N) (by omega) hN.1 c2
  obtain ⟨j, hj, hy⟩ := iw_N (n := 5) (by decide) rfl c3
  rw [hx, hy, show (201 : Int32) = nI 201 from rfl, pk_mul, nI_add]
  exact m_vp (by omega) (by decide)
set_option maxHeartbeats 4000000 in
set_option maxRecDepth 100000 in
theorem gX11_trace_0 {G : mG} {w : mH} {Φ : mF} {a0 : Nat} {x1 x2 : Int32} {a0_27 n_a0_27 : Nat} (h1 : hk w a0 = (11, 0)) (h2 : hfr w a0 27 = some a0_27) (h3 : hk w a0_27 = (16, n_a0_27)) (s1 : (¬ ((hfi w a0 25) = 0)) → (¬ ((vX11_in x1.toInt64 0 ((hfi w a0 26).toInt64)) = 0)) → (¬ ((vX11_in x2.toInt64 0 5) = 0)) → (¬ (x1 = (hfi w a0 26))) → ∀ w2 : mH, (w2 = sfi w a0 0 0) → vp_in ((201 * x2) + x1) n_a0_27) (s2 : (¬ ((hfi w a0 25) = 0)) → (¬ ((vX11_in x1.toInt64 0 ((hfi w a0 26).toInt64)) = 0)) → (¬ ((vX11_in x2.toInt64 0 5) = 0)) → (x1 = (hfi w a0 26)) → (x2 ≤ 0) → ∀ w3 : mH, (w3 = sfi w a0 0 0) → vp_in ((201 * x2) + x1) n_a0_27) (k1 : (¬ ((hfi w a0 25) = 0)) → (¬ ((vX11_in x1.toInt64 0 ((hfi w a0 26).toInt64)) = 0)) → ((vX11_in x2.toInt64 0 5) = 0) → ∀ w1 : mH, (w1 = sfi w a0 0 3) → Φ (.inl (some (.int 0))) w1) (k2 : (¬ ((hfi w a0 25) = 0)) → (¬ ((vX11_in x1.toInt64 0 ((hfi w a0 26).toInt64)) = 0)) → (¬ ((vX11_in x2.toInt64 0 5) = 0)) → (¬ (x1 = (hfi w a0 26))) → ∀ w2 : mH, (w2 = sfi w a0 0 0) → Φ (.inl (some (.int (hai w2 a0_27 (((201 * x2) + x1).toNatClampNeg))))) w2) (k3 : (¬ ((hfi w a0 25) = 0)) → (¬ ((vX11_in x1.toInt64 0 ((hfi w a0 26).toInt64)) = 0)) → (¬ ((vX11_in x2.toInt64 0 5) = 0)) → (x1 = (hfi w a0 26)) → (x2 ≤ 0) → ∀ w3 : mH, (w3 = sfi w a0 0 0) → Φ (.inl (some (.int (hai w3 a0_27 (((201 * x2) + x1).toNatClampNeg))))) w3) (k4 : (¬ ((hfi w a0 25) = 0)) → (¬ ((vX11_in x1.toInt64 0 ((hfi w a0 26).toInt64)) = 0)) → (¬ ((vX11_in x2.toInt64 0 5) = 0)) → (x1 = (hfi w a0 26)) → (¬ (x2 ≤ 0)) → ∀ w4 : mH, (w4 = sfi w a0 0 3) → Φ (.inl (some (.int 0))) w4) (k5 : (¬ ((hfi w a0 25) = 0)) → ((vX11_in x1.toInt64 0 ((hfi w a0 26).toInt64)) = 0) → ∀ w5 : mH, (w5 = sfi w a0 0 2) → Φ (.inl (some (.int 0))) w5) (k6 : ((hfi w a0 25) = 0) → ∀ w6 : mH, (w6 = sfi w a0 0 1) → Φ (.inl (some (.int 0))) w6) : mW G mX11_trace 3 0 0 0 [(0, .ref a0), (1, .int x1), (2, .int x2)] [] w Φ := by
  refine mW_aload_n (j := 0) dX11_trace_0 rfl rfl ?_
  refine mW_aload_n (j := 0) dX11_trace_1 rfl rfl ?_
  refine mW_get dX11_trace_2 f_X11_235 h1 rfl ?_
  refine mW_if_ne (tgt := 12) dX11_trace_5 (by decide) (fun c1 => ?_) (fun c1 => ?_)
  · refine mW_iload_n (j := 1) dX11_trace_12 rfl rfl ?_
    refine mW_i2l dX11_trace_13 ?_
    refine mW_lconst (v := 0) dX11_trace_14 (by decide) ?_
    refine mW_aload_n (j := 0) dX11_trace_15 rfl rfl ?_
    refine mW_get dX11_trace_16 f_X11_239 h1 rfl ?_
    refine mW_i2l dX11_trace_19 ?_
    refine mW_callSe (As := [.long x1.toInt64, .long 0, .long ((hfi w a0 26).toInt64)]) (rest := [.ref a0]) (kc2 := 0) (ks2 := 0) dX11_trace_20 l_X11_92 rfl (qX11_in (w := w) (y0 := x1.toInt64) (y2 := 0) (y4 := (hfi w a0 26).toInt64)) (Nat.le_of_ble_eq_true rfl) (by decide) rfl rfl ?_
    refine mW_if_ne (tgt := 30) dX11_trace_23 (by decide) (fun c2 => ?_) (fun c2 => ?_)
    · refine mW_iload_n (j := 2) dX11_trace_30 rfl rfl ?_
      refine mW_i2l dX11_trace_31 ?_
      refine mW_lconst (v := 0) dX11_trace_32 (by decide) ?_
      refine mW_ldc2 (v := 5) dX11_trace_33 u1855 ?_
      refine mW_callSe (As := [.long x2.toInt64, .long 0, .long 5]) (rest := [.ref a0]) (kc2 := 0) (ks2 := 0) dX11_trace_36 l_X11_92 rfl (qX11_in (w := w) (y0 := x2.toInt64) (y2 := 0) (y4 := 5)) (Nat.le_of_ble_eq_true rfl) (by decide) rfl rfl ?_
      refine mW_if_eq (tgt := 54) dX11_trace_39 (by decide) (fun c3 => ?_) (fun c3 => ?_)
      · refine mW_iconst (v := 3) dX11_trace_54 (by decide) ?_
        refine mW_goto (tgt := 59) dX11_trace_55 (by decide) ?_
        refine mW_put (ty := .int) (w2 := sfi w a0 0 3) dX11_trace_59 p_X11_3 h1 (Nat.le_of_ble_eq_true rfl) (by first | rfl | decide | (repeat' split) <;> rfl) rfl (hN_sfi _ _ _ _) (hk_sfi _ _ _ _) (mE_sfi h1 (by decide) (ob_11_0 _ _ _)) ?_
        refine mW_nm (fun w1 e1 => ?_)
        refine mW_aload_n (j := 0) dX11_trace_62 rfl rfl ?_
        refine mW_getL (v := 3) dX11_trace_63 f_X11_3 (s2k (S2_sfi e1) h1) rfl (by rw [e1, e_hfi_sfi, up2_at]) ?_
        refine mW_if_ne (tgt := 84) dX11_trace_66 (by decide) (fun _ => ?_) (fun c => absurd c (by decide))
        refine mW_iconst (v := 0) dX11_trace_84 (by decide) ?_
        exact mW_iret dX11_trace_85 rfl (k1 c1 c2 c3 w1 e1)
      · refine mW_iload_n (j := 1) dX11_trace_42 rfl rfl ?_
        refine mW_aload_n (j := 0) dX11_trace_43 rfl rfl ?_
        refine mW_get dX11_trace_44 f_X11_239 h1 rfl ?_
        refine mW_icmp_ne (tgt := 58) dX11_trace_47 (by decide) (fun c4 => ?_) (fun c4 => ?_)
        · refine mW_iconst (v := 0) dX11_trace_58 (by decide) ?_
          refine mW_put (ty := .int) (w2 := sfi w a0 0 0) dX11_trace_59 p_X11_3 h1 (Nat.le_of_ble_eq_true rfl) (by first | rfl | decide | (repeat' split) <;> rfl) rfl (hN_sfi _ _ _ _) (hk_sfi _ _ _ _) (mE_sfi h1 (by decide) (ob_11_0 _ _ _)) ?_
          refine mW_nm (fun w2 e2 => ?_)
          refine mW_aload_n (j := 0) dX11_trace_62 rfl rfl ?_
          refine mW_getL (v := 0) dX11_trace_63 f_X11_3 (s2k (S2_sfi e2) h1) rfl (by rw [e2, e_hfi_sfi, up2_at]) ?_
          refine mW_if_ne (tgt := 84) dX11_trace_66 (by decide) (fun c => absurd (by decide) c) (fun _ => ?_)
          refine mW_aload_n (j := 0) dX11_trace_69 rfl rfl ?_
          refine mW_getR dX11_trace_70 f_X11_60 (s2k (S2_sfi e2) h1) rfl (s2r (S2_sfi e2) h2) ?_
          refine mW_sipush (v := 201) dX11_trace_73 (by decide) ?_
          refine mW_iload_n (j := 2) dX11_trace_76 rfl rfl ?_
          refine mW_imul dX11_trace_77 ?_
          refine mW_iload_n (j := 1) dX11_trace_78 rfl rfl ?_
          refine mW_iadd dX11_trace_79 ?_
          refine mW_ialdJ dX11_trace_80 (s2k (S2_sfi e2) h3) (s1 c1 c2 c3 c4 w2 e2) rfl ?_
          refine mW_goto (tgt := 85) dX11_trace_81 (by decide) ?_
          exact mW_iret dX11_trace_85 rfl (k2 c1 c2 c3 c4 w2 e2)
        · refine mW_iload_n (j := 2) dX11_trace_50 rfl rfl ?_
          refine mW_if_le (tgt := 58) dX11_trace_51 (by decide) (fun c5 => ?_) (fun c5 => ?_)
          · refine mW_iconst (v := 0) dX11_trace_58 (by decide) ?_
            refine mW_put (ty := .int) (w2 := sfi w a0 0 0) dX11_trace_59 p_X11_3 h1 (Nat.le_of_ble_eq_true rfl) (by first | rfl | decide | (repeat' split) <;> rfl) rfl (hN_sfi _ _ _ _) (hk_sfi _ _ _ _) (mE_sfi h1 (by decide) (ob_11_0 _ _ _)) ?_
            refine mW_nm (fun w3 e3 => ?_)
            refine mW_aload_n (j := 0) dX11_trace_62 rfl rfl ?_
            refine mW_getL (v := 0) dX11_trace_63 f_X11_3 (s2k (S2_sfi e3) h1) rfl (by rw [e3, e_hfi_sfi, up2_at]) ?_
            refine mW_if_ne (tgt := 84) dX11_trace_66 (by decide) (fun c => absurd (by decide) c) (fun _ => ?_)
            refine mW_aload_n (j := 0) dX11_trace_69 rfl rfl ?_
            refine mW_getR dX11_trace_70 f_X11_60 (s2k (S2_sfi e3) h1) rfl (s2r (S2_sfi e3) h2) ?_
            refine mW_sipush (v := 201) dX11_trace_73 (by decide) ?_
            refine mW_iload_n (j := 2) dX11_trace_76 rfl rfl ?_
            refine mW_imul dX11_trace_77 ?_
            refine mW_iload_n (j := 1) dX11_trace_78 rfl rfl ?_
            refine mW_iadd dX11_trace_79 ?_
            refine mW_ialdJ dX11_trace_80 (s2k (S2_sfi e3) h3) (s2 c1 c2 c3 c4 c5 w3 e3) rfl ?_
            refine mW_goto (tgt := 85) dX11_trace_81 (by decide) ?_
            exact mW_iret dX11_trace_85 rfl (k3 c1 c2 c3 c4 c5 w3 e3)
          · refine mW_iconst (v := 3) dX11_trace_54 (by decide) ?_
            refine mW_goto (tgt := 59) dX11_trace_55 (by decide) ?_
            refine mW_put (ty := .int) (w2 := sfi w a0 0 3) dX11_trace_59 p_X11_3 h1 (Nat.le_of_ble_eq_true rfl) (by first | rfl | decide | (repeat' split) <;> rfl) rfl (hN_sfi _ _ _ _) (hk_sfi _ _ _ _) (mE_sfi h1 (by decide) (ob_11_0 _ _ _)) ?_
            refine mW_nm (fun w4 e4 => ?_)
            refine mW_aload_n (j := 0) dX11_trace_62 rfl rfl ?_
            refine mW_getL (v := 3) dX11_trace_63 f_X11_3 (s2k (S2_sfi e4) h1) rfl (by rw [e4, e_hfi_sfi, up2_at]) ?_
            refine mW_if_ne (tgt := 84) dX11_trace_66 (by decide) (fun _ => ?_) (fun c => absurd c (by decide))
            refine mW_iconst (v := 0) dX11_trace_84 (by decide) ?_
            exact mW_iret dX11_trace_85 rfl (k4 c1 c2 c3 c4 c5 w4 e4)
    · refine mW_iconst (v := 2) dX11_trace_26 (by decide) ?_
      refine mW_goto (tgt := 59) dX11_trace_27 (by decide) ?_
      refine mW_put (ty := .int) (w2 := sfi w a0 0 2) dX11_trace_59 p_X11_3 h1 (Nat.le_of_ble_eq_true rfl) (by first | rfl | decide | (repeat' split) <;> rfl) rfl (hN_sfi _ _ _ _) (hk_sfi _ _ _ _) (mE_sfi h1 (by decide) (ob_11_0 _ _ _)) ?_
      refine mW_nm (fun w5 e5 => ?_)
      refine mW_aload_n (j := 0) dX11_trace_62 rfl rfl ?_
      refine mW_getL (v := 2) dX11_trace_63 f_X11_3 (s2k (S2_sfi e5) h1) rfl (by rw [e5, e_hfi_sfi, up2_at]) ?_
      refine mW_if_ne (tgt := 84) dX11_trace_66 (by decide) (fun _ => ?_) (fun c => absurd c (by decide))
      refine mW_iconst (v := 0) dX11_trace_84 (by decide) ?_
      exact mW_iret dX11_trace_85 rfl (k5 c1 c2 w5 e5)
  · refine mW_iconst (v := 1) dX11_trace_8 (by decide) ?_
    refine mW_goto (tgt := 59) dX11_trace_9 (by decide) ?_
    refine mW_put (ty := .int) (w2 := sfi w a0 0 1) dX11_trace_59 p_X11_3 h1 (Nat.le_of_ble_eq_true rfl) (by first | rfl | decide | (repeat' split) <;> rfl) rfl (hN_sfi _ _ _ _) (hk_sfi _ _ _ _) (mE_sfi h1 (by decide) (ob_11_0 _ _ _)) ?_
    refine mW_nm (fun w6 e6 => ?_)
    refine mW_aload_n (j := 0) dX11_trace_62 rfl rfl ?_
    refine mW_getL (v := 1) dX11_trace_63 f_X11_3 (s2k (S2_sfi e6) h1) rfl (by rw [e6, e_hfi_sfi, up2_at]) ?_
    refine mW_if_ne (tgt := 84) dX11_trace_66 (by decide) (fun _ => ?_) (fun c => absurd c (by decide))
    refine mW_iconst (v := 0) dX11_trace_84 (by decide) ?_
    exact mW_iret dX11_trace_85 rfl (k6 c1 w6 e6)
def vX11_trace_ (w : mH) (a0 : Nat) (x1 : Int32) (x2 : Int32) : Int32 := (if (hfi w a0 25) = 0 then 0 else (if (vX11_in x1.toInt64 0 ((hfi w a0 26).toInt64)) = 0 then 0 else (if (vX11_in x2.toInt64 0 5) = 0 then 0 else (if x1 = (hfi w a0 26) then (if x2 ≤ 0 then (hai w (a0 + 15) (((201 * x2) + x1).toNatClampNeg)) else 0) else (hai w (a0 + 15) (((201 * x2) + x1).toNatClampNeg))))))
def tX11_trace (w : mH) (a0 : Nat) (x1 : Int32) (x2 : Int32) : Int32 := (if (hfi w a0 25) = 0 then 1 else (if (vX11_in x1.toInt64 0 ((hfi w a0 26).toInt64)) = 0 then 2 else (if (vX11_in x2.toInt64 0 5) = 0 then 3 else (if x1 = (hfi w a0 26) then (if x2 ≤ 0 then 0 else 3) else 0))))
theorem rX11_trace {G : mG} {w : mH} {a0 : Nat} {x1 : Int32} {x2 : Int32} (z : zRef w a0) (hN : hfi w a0 26 = nI (nT (hfi w a0 26)) ∧ nT (hfi w a0 26) ≤ 200) : mC G mX11_trace 3 0 0 [.ref a0, .int x1, .int x2] w (mEq (.inl (some (.int (vX11_trace_ w a0 x1 x2)))) (sfi w a0 0 (tX11_trace w a0 x1 x2))) := by
  refine mC_of (by decide +kernel) rfl (Nat.le_of_ble_eq_true rfl) rfl ?_
  refine gX11_trace_0 (a0_27 := a0 + 15) z.1 z.2.2.2.2.2.2.2.2.2.2.2.2.2.2.2.1 z.2.2.2.2.2.2.2.2.2.2.2.2.2.2.2.2.2.2.2.2.2.2.2.2.2.2.2.2.2.2.2.2.2.2.2.2.1 (by intro c1 c2 c3 c4 w2 e2; exact tr_ix hN c2 c3) (by intro c1 c2 c3 c4 c5 w3 e3; exact tr_ix hN c2 c3) ?_ ?_ ?_ ?_ ?_ ?_
  · intro c1 c2 c3 w1 e1
    have ev : vX11_trace_ w a0 x1 x2 = 0 := by unfold vX11_trace_; rw [if_neg c1, if_neg c2, if_pos c3]
    have et : tX11_trace w a0 x1 x2 = 3 := by unfold tX11_trace; rw [if_neg c1, if_neg c2, if_pos c3]
    rw [ev, et]
    subst e1
    exact ⟨rfl, rfl⟩
  · intro c1 c2 c3 c4 w2 e2
    have ev : vX11_trace_ w a0 x1 x2 = (hai w (a0 + 15) (((201 * x2) + x1).toNatClampNeg)) := by unfold vX11_trace_; rw [if_neg c1, if_neg c2, if_neg c3, if_neg c4]
    have et : tX11_trace w a0 x1 x2 = 0 := by unfold tX11_trace; rw [if_neg c1, if_neg c2, if_neg c3, if_neg c4]
    rw [ev, et]
    subst e2
    exact ⟨rfl, rfl⟩
  · intro c1 c2 c3 c4 c5 w3 e3
    have ev : vX11_trace_ w a0 x1 x2 = (hai w (a0 + 15) (((201 * x2) + x1).toNatClampNeg)) := by unfold vX11_trace_; rw [if_neg c1, if_neg c2, if_neg c3, if_pos c4, if_pos c5]
    have et : tX11_trace w a0 x1 x2 = 0 := by unfold tX11_trace; rw [if_neg c1, if_neg c2, if_neg c3, if_pos c4, if_pos c5]
    rw [ev, et]
    subst e3
    exact ⟨rfl, rfl⟩
  · intro c1 c2 c3 c4 c5 w4 e4
    have ev : vX11_trace_ w a0 x1 x2 = 0 := by unfold vX11_trace_; rw [if_neg c1, if_neg c2, if_neg c3, if_pos c4, if_neg c5]
    have et : tX11_trace w a0 x1 x2 = 3 := by unfold tX11_trace; rw [if_neg c1, if_neg c2, if_neg c3, if_pos c4, if_neg c5]
    rw [ev, et]
    subst e4
    exact ⟨rfl, rfl⟩
  · intro c1 c2 w5 e5
    have ev : vX11_trace_ w a0 x1 x2 = 0 := by unfold vX11_trace_; rw [if_neg c1, if_pos c2]
    have et : tX11_trace w a0 x1 x2 = 2 := by unfold tX11_trace; rw [if_neg c1, if_pos c2]
    rw [ev, et]
    subst e5
    exact ⟨rfl, rfl⟩
  · intro c1 w6 e6
    have ev : vX11_trace_ w a0 x1 x2 = 0 := by unfold vX11_trace_; rw [if_pos c1]
    have et : tX11_trace w a0 x1 x2 = 1 := by unfold tX11_trace; rw [if_pos c1]
    rw [ev, et]
    subst e6
    exact ⟨rfl, rfl⟩
