set_option maxHeartbeats 4000000 in
set_option maxRecDepth 100000 in
theorem gX11_wants_0 {G : mG} {w : mH} {Φ : mF} {a0 : Nat} {x1 : Int32} {lt : Nat → Nat} {n : Nat} (h1 : hk w a0 = (11, 0)) (h2 : zRef w a0) (s1 : (¬ (0 ≤ (hfi w a0 10))) → rS w a0 lt n) (k1 : (0 ≤ (hfi w a0 10)) → ∀ w1 : mH, (w1 = sfi w a0 9 ((hfi w a0 9) + 1)) → Φ (.inl none) w1) (k2 : (¬ (0 ≤ (hfi w a0 10))) → ((hI lt n (rP w a0)) = x1) → ∀ w2 : mH, (w2 = sfi w a0 9 ((hfi w a0 9) + 1)) → Φ (.inl none) w2) (k3 : (¬ (0 ≤ (hfi w a0 10))) → (¬ ((hI lt n (rP w a0)) = x1)) → ∀ w3 : mH, (w3 = sfi w a0 10 (hfi w a0 9)) → ∀ w4 : mH, (w4 = sfi w3 a0 9 ((hfi w3 a0 9) + 1)) → Φ (.inl none) w4) : mW G mX11_wants 2 0 0 0 [(0, .ref a0), (1, .int x1)] [] w Φ := by
  refine mW_aload_n (j := 0) dX11_wants_0 rfl rfl ?_
  refine mW_get dX11_wants_1 f_X11_30 h1 rfl ?_
  refine mW_if_ge (tgt := 23) dX11_wants_4 (by decide) (fun c1 => ?_) (fun c1 => ?_)
  · refine mW_aload_n (j := 0) dX11_wants_23 rfl rfl ?_
    refine mW_dup dX11_wants_24 rfl ?_
    refine mW_get dX11_wants_25 f_X11_149 h1 rfl ?_
    refine mW_iconst (v := 1) dX11_wants_28 (by decide) ?_
    refine mW_iadd dX11_wants_29 ?_
    refine mW_put (ty := .int) (w2 := sfi w a0 9 ((hfi w a0 9) + 1)) dX11_wants_30 p_X11_149 h1 (Nat.le_of_ble_eq_true rfl) (by first | rfl | decide | (repeat' split) <;> rfl) rfl (hN_sfi _ _ _ _) (hk_sfi _ _ _ _) (mE_sfi h1 (by decide) (ob_11_9 _ _ _)) ?_
    refine mW_nm (fun w1 e1 => ?_)
    exact mW_vret dX11_wants_33 rfl (k1 c1 w1 e1)
  · refine mW_aload_n (j := 0) dX11_wants_7 rfl rfl ?_
    refine mW_callVe (As := []) (rest := []) (kc2 := 0) (ks2 := 0) dX11_wants_8 l_X11_152 rfl h1 rfl (by decide) (qX11_here' (w := w) (a0 := a0) h2 (s1 c1)) (Nat.le_of_ble_eq_true rfl) (by decide) rfl rfl ?_
    refine mW_iload_n (j := 1) dX11_wants_11 rfl rfl ?_
    refine mW_icmp_eq (tgt := 23) dX11_wants_12 (by decide) (fun c2 => ?_) (fun c2 => ?_)
    · refine mW_aload_n (j := 0) dX11_wants_23 rfl rfl ?_
      refine mW_dup dX11_wants_24 rfl ?_
      refine mW_get dX11_wants_25 f_X11_149 h1 rfl ?_
      refine mW_iconst (v := 1) dX11_wants_28 (by decide) ?_
      refine mW_iadd dX11_wants_29 ?_
      refine mW_put (ty := .int) (w2 := sfi w a0 9 ((hfi w a0 9) + 1)) dX11_wants_30 p_X11_149 h1 (Nat.le_of_ble_eq_true rfl) (by first | rfl | decide | (repeat' split) <;> rfl) rfl (hN_sfi _ _ _ _) (hk_sfi _ _ _ _) (mE_sfi h1 (by decide) (ob_11_9 _ _ _)) ?_
      refine mW_nm (fun w2 e2 => ?_)
      exact mW_vret dX11_wants_33 rfl (k2 c1 c2 w2 e2)
    · refine mW_aload_n (j := 0) dX11_wants_15 rfl rfl ?_
      refine mW_aload_n (j := 0) dX11_wants_16 rfl rfl ?_
      refine mW_get dX11_wants_17 f_X11_149 h1 rfl ?_
      refine mW_put (ty := .int) (w2 := sfi w a0 10 (hfi w a0 9)) dX11_wants_20 p_X11_30 h1 (Nat.le_of_ble_eq_true rfl) (by first | rfl | decide | (repeat' split) <;> rfl) rfl (hN_sfi _ _ _ _) (hk_sfi _ _ _ _) (mE_sfi h1 (by decide) (ob_11_10 _ _ _)) ?_
      refine mW_nm (fun w3 e3 => ?_)
      refine mW_aload_n (j := 0) dX11_wants_23 rfl rfl ?_
      refine mW_dup dX11_wants_24 rfl ?_
      refine mW_get dX11_wants_25 f_X11_149 (s2k (S2_sfi e3) h1) rfl ?_
      refine mW_iconst (v := 1) dX11_wants_28 (by decide) ?_
      refine mW_iadd dX11_wants_29 ?_
      refine mW_put (ty := .int) (w2 := sfi w3 a0 9 ((hfi w3 a0 9) + 1)) dX11_wants_30 p_X11_149 (s2k (S2_sfi e3) h1) (Nat.le_of_ble_eq_true rfl) (by first | rfl | decide | (repeat' split) <;> rfl) rfl (hN_sfi _ _ _ _) (hk_sfi _ _ _ _) (mE_sfi (s2k (S2_sfi e3) h1) (by decide) (ob_11_9 _ _ _)) ?_
      refine mW_nm (fun w4 e4 => ?_)
      exact mW_vret dX11_wants_33 rfl (k3 c1 c2 w3 e3 w4 e4)
abbrev mX11_signed : mM := (yX11_signed, cX11_signed, 4, (some .int), [])
theorem u1773 : (Cond.code ⟨"LineFollowerBenchModel", "number", "(II)I"⟩ prog_13_method_29_code 6 (some .int) : Cond) ∈ mTs := mTs_in 1773 (by decide +kernel) (by decide +kernel)
theorem co_X11_number : mCode mX11_number := ⟨u1773, u85, by decide⟩
theorem u1770 : (Cond.methodLink "LineFollowerBenchModel" 159 ⟨"LineFollowerBenchModel", "number", "(II)I"⟩ : Cond) ∈ mTs := mTs_in 1770 (by decide +kernel) (by decide +kernel)
theorem u1772 : (Cond.instanceMethod ⟨"LineFollowerBenchModel", "number", "(II)I"⟩ : Cond) ∈ mTs := mTs_in 1772 (by decide +kernel) (by decide +kernel)
theorem u48 : (Cond.selects "LineFollowerBenchModel" ⟨"LineFollowerBenchModel", "number", "(II)I"⟩ ⟨"LineFollowerBenchModel", "number", "(II)I"⟩ : Cond) ∈ mTs := mTs_in 48 (by decide +kernel) (by decide +kernel)
theorem l_X11_159 : mLinkV "LineFollowerBenchModel" 159 2 mX11_number := ⟨⟨by decide, by decide, by decide +kernel⟩, co_X11_number, u1770, u1772, u48⟩
set_option maxHeartbeats 4000000 in
set_option maxRecDepth 100000 in
theorem gX11_signed_0 {G : mG} {w : mH} {Φ : mF} {a0 : Nat} {x1 : Int32} {lt : Nat → Nat} {n : Nat} (h1 : hk w a0 = (11, 0)) (h2 : zRef w a0) (s1 : (0 ≤ (hfi w a0 10)) → rS w a0 lt n) (s2 : (0 ≤ (hfi w a0 10)) → rP w a0 ≤ 900) (s3 : (¬ (0 ≤ (hfi w a0 10))) → rS w a0 lt n) (s4 : (¬ (0 ≤ (hfi w a0 10))) → (¬ ((hI lt n (rP w a0)) = 45)) → rP w a0 ≤ 900) (s5 : (¬ (0 ≤ (hfi w a0 10))) → ((hI lt n (rP w a0)) = 45) → ∀ w3 : mH, (w3 = sfi w a0 9 ((hfi w a0 9) + 1)) → rS w3 a0 lt n) (s6 : (¬ (0 ≤ (hfi w a0 10))) → ((hI lt n (rP w a0)) = 45) → ∀ w3 : mH, (w3 = sfi w a0 9 ((hfi w a0 9) + 1)) → rP w3 a0 ≤ 900) (k1 : (0 ≤ (hfi w a0 10)) → ∀ w1 : mH, (uEnd w w1 a0 (uNum 0 x1 lt n (rP w a0) (hfi w a0 10))) → Φ (.inl (some (.int ((uNum 0 x1 lt n (rP w a0) (hfi w a0 10)).1)))) w1) (k2 : (¬ (0 ≤ (hfi w a0 10))) → (¬ ((hI lt n (rP w a0)) = 45)) → ∀ w2 : mH, (uEnd w w2 a0 (uNum 0 x1 lt n (rP w a0) (hfi w a0 10))) → Φ (.inl (some (.int ((uNum 0 x1 lt n (rP w a0) (hfi w a0 10)).1)))) w2) (k3 : (¬ (0 ≤ (hfi w a0 10))) → ((hI lt n (rP w a0)) = 45) → ∀ w3 : mH, (w3 = sfi w a0 9 ((hfi w a0 9) + 1)) → ∀ w4 : mH, (uEnd w3 w4 a0 (uNum 0 x1 lt n (rP w3 a0) (hfi w3 a0 10))) → Φ (.inl (some (.int (-((uNum 0 x1 lt n (rP w3 a0) (hfi w3 a0 10)).1))))) w4) : mW G mX11_signed 4 0 0 0 [(0, .ref a0), (1, .int x1)] [] w Φ := by
  refine mW_aload_n (j := 0) dX11_signed_0 rfl rfl ?_
  refine mW_get dX11_signed_1 f_X11_30 h1 rfl ?_
  refine mW_if_ge (tgt := 20) dX11_signed_4 (by decide) (fun c1 => ?_) (fun c1 => ?_)
  · refine mW_iconst (v := 0) dX11_signed_20 (by decide) ?_
    refine mW_istore_n (lv2 := [(2, .int 0), (0, .ref a0), (1, .int x1)]) dX11_signed_21 rfl (by decide) rfl ?_
    refine mW_iload_n (j := 0) dX11_signed_22 rfl rfl ?_
    refine mW_if_eq (tgt := 36) dX11_signed_23 (by decide) (fun _ => ?_) (fun c => absurd (by decide) c)
    refine mW_aload_n (j := 1) dX11_signed_36 rfl rfl ?_
    refine mW_iconst (v := 0) dX11_signed_37 (by decide) ?_
    refine mW_iload_n (j := 2) dX11_signed_38 rfl rfl ?_
    refine mW_callV (As := [.int 0, .int x1]) (rest := []) (kc2 := 0) (ks2 := 0) dX11_signed_39 l_X11_159 rfl h1 rfl (by decide) (rX11_number (w := w) (a0 := a0) (x1 := 0) (x2 := x1) h2 (s1 c1) (s2 c1)) (Nat.le_of_ble_eq_true rfl) (by decide) rfl rfl mP_x (mP_k (fun w1 q1 => ?_))
    refine mW_istore_n (lv2 := [(3, .int ((uNum 0 x1 lt n (rP w a0) (hfi w a0 10)).1)), (2, .int 0), (0, .ref a0), (1, .int x1)]) dX11_signed_42 rfl (by decide) rfl ?_
    refine mW_iload_n (j := 1) dX11_signed_43 rfl rfl ?_
    refine mW_if_eq (tgt := 52) dX11_signed_44 (by decide) (fun _ => ?_) (fun c => absurd (by decide) c)
    refine mW_iload_n (j := 0) dX11_signed_52 rfl rfl ?_
    exact mW_iret dX11_signed_53 rfl (k1 c1 w1 q1)
  · refine mW_aload_n (j := 0) dX11_signed_7 rfl rfl ?_
    refine mW_callVe (As := []) (rest := []) (kc2 := 0) (ks2 := 0) dX11_signed_8 l_X11_152 rfl h1 rfl (by decide) (qX11_here' (w := w) (a0 := a0) h2 (s3 c1)) (Nat.le_of_ble_eq_true rfl) (by decide) rfl rfl ?_
    refine mW_bipush (v := 45) dX11_signed_11 (by decide) ?_
    refine mW_icmp_ne (tgt := 20) dX11_signed_13 (by decide) (fun c2 => ?_) (fun c2 => ?_)
    · refine mW_iconst (v := 0) dX11_signed_20 (by decide) ?_
      refine mW_istore_n (lv2 := [(2, .int 0), (0, .ref a0), (1, .int x1)]) dX11_signed_21 rfl (by decide) rfl ?_
      refine mW_iload_n (j := 0) dX11_signed_22 rfl rfl ?_
      refine mW_if_eq (tgt := 36) dX11_signed_23 (by decide) (fun _ => ?_) (fun c => absurd (by decide) c)
      refine mW_aload_n (j := 1) dX11_signed_36 rfl rfl ?_
      refine mW_iconst (v := 0) dX11_signed_37 (by decide) ?_
      refine mW_iload_n (j := 2) dX11_signed_38 rfl rfl ?_
      refine mW_callV (As := [.int 0, .int x1]) (rest := []) (kc2 := 0) (ks2 := 0) dX11_signed_39 l_X11_159 rfl h1 rfl (by decide) (rX11_number (w := w) (a0 := a0) (x1 := 0) (x2 := x1) h2 (s3 c1) (s4 c1 c2)) (Nat.le_of_ble_eq_true rfl) (by decide) rfl rfl mP_x (mP_k (fun w2 q2 => ?_))
      refine mW_istore_n (lv2 := [(3, .int ((uNum 0 x1 lt n (rP w a0) (hfi w a0 10)).1)), (2, .int 0), (0, .ref a0), (1, .int x1)]) dX11_signed_42 rfl (by decide) rfl ?_
      refine mW_iload_n (j := 1) dX11_signed_43 rfl rfl ?_
      refine mW_if_eq (tgt := 52) dX11_signed_44 (by decide) (fun _ => ?_) (fun c => absurd (by decide) c)
      refine mW_iload_n (j := 0) dX11_signed_52 rfl rfl ?_
      exact mW_iret dX11_signed_53 rfl (k2 c1 c2 w2 q2)
    · refine mW_iconst (v := 1) dX11_signed_16 (by decide) ?_
      refine mW_goto (tgt := 21) dX11_signed_17 (by decide) ?_
      refine mW_istore_n (lv2 := [(2, .int 1), (0, .ref a0), (1, .int x1)]) dX11_signed_21 rfl (by decide) rfl ?_
      refine mW_iload_n (j := 0) dX11_signed_22 rfl rfl ?_
      refine mW_if_eq (tgt := 36) dX11_signed_23 (by decide) (fun c => absurd c (by decide)) (fun _ => ?_)
      refine mW_aload_n (j := 1) dX11_signed_26 rfl rfl ?_
      refine mW_dup dX11_signed_27 rfl ?_
      refine mW_get dX11_signed_28 f_X11_149 h1 rfl ?_
      refine mW_iconst (v := 1) dX11_signed_31 (by decide) ?_
      refine mW_iadd dX11_signed_32 ?_
      refine mW_put (ty := .int) (w2 := sfi w a0 9 ((hfi w a0 9) + 1)) dX11_signed_33 p_X11_149 h1 (Nat.le_of_ble_eq_true rfl) (by first | rfl | decide | (repeat' split) <;> rfl) rfl (hN_sfi _ _ _ _) (hk_sfi _ _ _ _) (mE_sfi h1 (by decide) (ob_11_9 _ _ _)) ?_
      refine mW_nm (fun w3 e1 => ?_)
      refine mW_aload_n (j := 1) dX11_signed_36 rfl rfl ?_
      refine mW_iconst (v := 0) dX11_signed_37 (by decide) ?_
      refine mW_iload_n (j := 2) dX11_signed_38 rfl rfl ?_
      refine mW_callV (As := [.int 0, .int x1]) (rest := []) (kc2 := 0) (ks2 := 0) dX11_signed_39 l_X11_159 rfl (s2k (S2_sfi e1) h1) rfl (by decide) (rX11_number (w := w3) (a0 := a0) (x1 := 0) (x2 := x1) (zRef_s2 (S2_sfi e1) h2) (s5 c1 c2 w3 e1) (s6 c1 c2 w3 e1)) (Nat.le_of_ble_eq_true rfl) (by decide) rfl rfl mP_x (mP_k (fun w4 q3 => ?_))
      refine mW_istore_n (lv2 := [(3, .int ((uNum 0 x1 lt n (rP w3 a0) (hfi w3 a0 10)).1)), (2, .int 1), (0, .ref a0), (1, .int x1)]) dX11_signed_42 rfl (by decide) rfl ?_
      refine mW_iload_n (j := 1) dX11_signed_43 rfl rfl ?_
      refine mW_if_eq (tgt := 52) dX11_signed_44 (by decide) (fun c => absurd c (by decide)) (fun _ => ?_)
      refine mW_iload_n (j := 0) dX11_signed_47 rfl rfl ?_
      refine mW_ineg dX11_signed_48 ?_
      refine mW_goto (tgt := 53) dX11_signed_49 (by decide) ?_
      exact mW_iret dX11_signed_53 rfl (k3 c1 c2 w3 e1 w4 q3)
/-! the reference's reading: signs, signed numbers -/
def uWan (c : Int32) (lt : Nat → Nat) (n p : Nat) (fl : Int32) : Int32 × Nat × Int32 := (0, p + 1, if 0 ≤ fl then fl else if hI lt n p = c then fl else nI p)
def uSg (x : Int32) (lt : Nat → Nat) (n p : Nat) (fl : Int32) : Int32 × Nat × Int32 := if 0 ≤ fl then uNum 0 x lt n p fl else if hI lt n p = 45 then (-(uNum 0 x lt n (p + 1) fl).1, (uNum 0 x lt n (p + 1) fl).2) else uNum 0 x lt n p fl
theorem num_le3 (lt : Nat → Nat) (n p : Nat) : (num lt n p).1 ≤ 3 := (num_le lt n p).1
theorem uNum_le (lo hi : Int32) (lt : Nat → Nat) (n p : Nat) (fl : Int32) : (uNum lo hi lt n p fl).2.1 ≤ p + 3 := by
  have := num_le3 lt n p
  unfold uNum
  by_cases h : 0 ≤ fl
  · rw [if_pos h]; show p ≤ p + 3; omega
  · rw [if_neg h]
    by_cases h2 : (num lt n p).1 = 0
    · rw [if_pos h2]; show p ≤ p + 3; omega
    · rw [if_neg h2]; show p + (num lt n p).1 ≤ p + 3; omega
theorem uSg_le (x : Int32) (lt : Nat → Nat) (n p : Nat) (fl : Int32) : (uSg x lt n p fl).2.1 ≤ p + 4 := by
  have h1 := uNum_le 0 x lt n p fl
  have h2 := uNum_le 0 x lt n (p + 1) fl
  unfold uSg
  by_cases h : 0 ≤ fl
  · rw [if_pos h]; omega
  · rw [if_neg h]
    by_cases h3 : hI lt n p = 45
    · rw [if_pos h3]; show (uNum 0 x lt n (p + 1) fl).2.1 ≤ p + 4; omega
    · rw [if_neg h3]; omega
theorem u_mv {w w3 : mH} {a n : Nat} {lt : Nat → Nat} (h : rS w a lt n) (h9 : rP w a ≤ 990) (e : w3 = sfi w a 9 (hfi w a 9 + 1)) : xF [9, 10] [] a w w3 ∧ rS w3 a lt n ∧ rP w3 a = rP w a + 1 := by
  have g : hfi w3 a 9 = nI (rP w a + 1) := by rw [e, e_hfi_sfi, up2_at, h.2.2.2.1, nI_1]
  exact ⟨by rw [e]; exact xF_sfi xF.rf (by decide), rS_at h (by rw [e]; rfl) (by rw [e, e_hfi_sfi, up2_k _ _ _ (by decide)]) g (by omega), rP_v g (by omega)⟩
/-- behind a call: the letters stand, the place is good -/
theorem u_nx {w w3 : mH} {a n K : Nat} {lt : Nat → Nat} {r : Int32 × Nat × Int32} (h : rS w a lt n) (u : uEnd w w3 a r) (hr : r.2.1 ≤ K) (hK : K ≤ 1000) : rS w3 a lt n ∧ rP w3 a = r.2.1 ∧ hfi w3 a 10 = r.2.2 := ⟨rS_at h (u.1.ai (by decide)) (u.1.fi (by decide)) u.2.1 (by omega), rP_v u.2.1 (by omega), u.2.2⟩
theorem rX11_wants {G : mG} {w : mH} {a0 n : Nat} {x1 : Int32} {lt : Nat → Nat} (z : zRef w a0) (h : rS w a0 lt n) (h9 : rP w a0 ≤ 900) : mC G mX11_wants 2 0 0 [.ref a0, .int x1] w (mP none (fun w' => uEnd w w' a0 (uWan x1 lt n (rP w a0) (hfi w a0 10)))) := by
  have ep : hfi w a0 9 = nI (rP w a0) := h.2.2.2.1
  refine mC_of (by decide +kernel) rfl (Nat.le_of_ble_eq_true rfl) rfl ?_
  refine gX11_wants_0 (lt := lt) (n := n) z.1 z (fun _ => h) ?_ ?_ ?_
  · intro c1 w1 e1
    refine mP_of ⟨(u_mv h (by omega) e1).1, by rw [e1, e_hfi_sfi, up2_at, ep, nI_1]; rfl, ?_⟩
    rw [e1, e_hfi_sfi, up2_k _ _ _ (by decide)]
    unfold uWan
    rw [if_pos c1]
  · intro c1 c2 w1 e1
    refine mP_of ⟨(u_mv h (by omega) e1).1, by rw [e1, e_hfi_sfi, up2_at, ep, nI_1]; rfl, ?_⟩
    rw [e1, e_hfi_sfi, up2_k _ _ _ (by decide)]
    unfold uWan
    rw [if_neg c1, if_pos c2]
  · intro c1 c2 w3 e3 w4 e4
    refine mP_of ⟨?_, ?_, ?_⟩
    · rw [e4, e3]; exact xF_sfi (xF_sfi xF.rf (by decide)) (by decide)
    · rw [e4, e_hfi_sfi, up2_at, e3, e_hfi_sfi, up2_k _ _ _ (by decide), ep, nI_1]; rfl
    · rw [e4, e_hfi_sfi, up2_k _ _ _ (by decide), e3, e_hfi_sfi, up2_at, ep]
      unfold uWan
      rw [if_neg c1, if_neg c2]
theorem rX11_signed {G : mG} {w : mH} {a0 n : Nat} {x1 : Int32} {lt : Nat → Nat} (z : zRef w a0) (h : rS w a0 lt n) (h9 : rP w a0 ≤ 800) : mC G mX11_signed 4 0 0 [.ref a0, .int x1] w (mP (some (.int (uSg x1 lt n (rP w a0) (hfi w a0 10)).1)) (fun w' => uEnd w w' a0 (uSg x1 lt n (rP w a0) (hfi w a0 10)))) := by
  have W : ∀ w3, w3 = sfi w a0 9 (hfi w a0 9 + 1) → _ := fun w3 e1 => u_mv (w3 := w3) h (by omega) e1
  refine mC_of (by decide +kernel) rfl (Nat.le_of_ble_eq_true rfl) rfl ?_
  refine gX11_signed_0 (lt := lt) (n := n) z.1 z (fun _ => h) (fun _ => by omega) (fun _ => h) (fun _ _ => by omega) (fun _ _ w3 e1 => (W w3 e1).2.1) (fun _ _ w3 e1 => by have := (W w3 e1).2.2; omega) ?_ ?_ ?_
  · intro c1 w1 q1
    have e : uSg x1 lt n (rP w a0) (hfi w a0 10) = uNum 0 x1 lt n (rP w a0) (hfi w a0 10) := by unfold uSg; rw [if_pos c1]
    rw [e]
    exact mP_of q1
  · intro c1 c2 w1 q1
    have e : uSg x1 lt n (rP w a0) (hfi w a0 10) = uNum 0 x1 lt n (rP w a0) (hfi w a0 10) := by unfold uSg; rw [if_neg c1, if_neg c2]
    rw [e]
    exact mP_of q1
  · intro c1 c2 w3 e1 w4 q3
    obtain ⟨F, -, p3⟩ := W w3 e1
    have f3 : hfi w3 a0 10 = hfi w a0 10 := by rw [e1, e_hfi_sfi, up2_k _ _ _ (by decide)]
    rw [p3, f3] at q3 ⊢
    have e : uSg x1 lt n (rP w a0) (hfi w a0 10) = (-(uNum 0 x1 lt n (rP w a0 + 1) (hfi w a0 10)).1, (uNum 0 x1 lt n (rP w a0 + 1) (hfi w a0 10)).2) := by unfold uSg; rw [if_neg c1, if_pos c2]
    rw [e]
    exact mP_of ⟨F.tr q3.1, q3.2.1, q3.2.2⟩

