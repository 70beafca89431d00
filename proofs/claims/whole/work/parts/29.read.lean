/-! class TrackReader: signs and numbers -/
def hc (lt : Nat → Nat) (n p : Nat) : Nat := if p < n then lt p else 0
abbrev dg (c : Nat) : Prop := 48 ≤ c ∧ c ≤ 57
def rdX (w : mH) (a : Nat) (lt : Nat → Nat) (n : Nat) : Prop := hfi w a 1 = nI n ∧ n ≤ 50 ∧ (∀ i, i < n → hai w (a + 1) i = nI (lt i) ∧ 33 ≤ lt i ∧ lt i ≤ 126) ∧ hfi w a 4 = nI (hfi w a 4).toNatClampNeg ∧ (hfi w a 4).toNatClampNeg ≤ 1000
theorem rdX_at {w : mH} {a n p : Nat} {lt : Nat → Nat} (h1 : hfi w a 1 = nI n) (h2 : n ≤ 50) (h3 : ∀ i, i < n → hai w (a + 1) i = nI (lt i) ∧ 33 ≤ lt i ∧ lt i ≤ 126) (h4 : hfi w a 4 = nI p) (h5 : p ≤ 1000) : rdX w a lt n := by
  have e : (nI p).toNatClampNeg = p := m_cl (by omega)
  refine ⟨h1, h2, h3, ?_, ?_⟩ <;> rw [h4, e]
  exact h5
theorem hc_le {lt : Nat → Nat} {n p : Nat} {w : mH} {a : Nat} (h : rdX w a lt n) : hc lt n p ≤ 126 := by
  unfold hc
  split
  · rename_i hp; exact (h.2.2.1 p hp).2.2
  · omega
theorem nar_c : ∀ c, c ≤ 126 → narrow .char (.int (nI c)) = .int (nI c) := by decide +kernel
theorem qX8_sign' {G : mG} {w : mH} {a0 n : Nat} {lt : Nat → Nat} (z : zRea w a0) (h : rdX w a0 lt n) : mC G mX8_sign 1 0 0 [.ref a0] w (mEq (.inl (some (.int (nI (hc lt n (hfi w a0 4).toNatClampNeg))))) w) := by
  have hle := hc_le (p := (hfi w a0 4).toNatClampNeg) h
  obtain ⟨h1, h2, h3, h4, h5⟩ := h
  generalize (hfi w a0 4).toNatClampNeg = p at *
  have hp0 : ¬ hfi w a0 4 < 0 := by rw [h4]; exact m_0le (by omega)
  have e1 : hfi w a0 1 ≤ hfi w a0 4 ↔ n ≤ p := by rw [h1, h4]; exact m_le (by omega) (by omega)
  have e2 : (50 : Int32) ≤ hfi w a0 4 ↔ 50 ≤ p := by rw [h4, show (50 : Int32) = nI 50 from rfl]; exact m_le (by omega) (by omega)
  have q := qX8_sign (G := G) z.1 z.2.1 z.2.2.2.1 (fun _ _ c3 => by rw [h4]; rw [e2] at c3; exact m_vp (by omega) (by omega)) (fun _ c2 _ => by
    rw [h4, m_cl (by omega)]
    rw [e1] at c2
    obtain ⟨g1, g2, g3⟩ := h3 p (by omega)
    rw [g1]
    exact nar_c _ g3)
  have e : vX8_sign w a0 (a0 + 1) = nI (hc lt n p) := by
    unfold vX8_sign hc
    rw [if_neg hp0]
    by_cases hn : n ≤ p
    · rw [if_pos (e1.mpr hn), if_neg (by omega)]; rfl
    · rw [if_neg (fun h => hn (e1.mp h)), if_neg (fun h => by have := e2.mp h; omega), if_pos (by omega), h4, m_cl (by omega)]
      exact (h3 p (by omega)).1
  rw [← e]
  exact q
theorem isD_v {c : Nat} (h : c ≤ 126) : vX8_isDigit (nI c) = 0 ↔ ¬ dg c := by
  unfold vX8_isDigit
  rw [show (48 : Int32) = nI 48 from rfl, show (57 : Int32) = nI 57 from rfl]
  simp only [m_lt (show c ≤ 70000 by omega) (show 48 ≤ 70000 by omega), m_lt (show 57 ≤ 70000 by omega) (show c ≤ 70000 by omega)]
  by_cases h1 : c < 48
  · rw [if_pos h1]; simp; omega
  · rw [if_neg h1]
    by_cases h2 : 57 < c
    · rw [if_pos h2]; simp; omega
    · rw [if_neg h2]; simp; omega
abbrev mX8_readNumber : mM := (yX8_readNumber, cX8_readNumber, 7, (some .boolean), [])
theorem u1002 : (Cond.code ⟨"LineFollowerBench$TrackReader", "isDigit", "(C)Z"⟩ prog_10_method_14_code 1 (some .boolean) : Cond) ∈ mTs := mTs_in 1002 (by decide +kernel) (by decide +kernel)
theorem co_X8_isDigit : mCode mX8_isDigit := ⟨u1002, u76, by decide⟩
theorem u1000 : (Cond.methodLink "LineFollowerBench$TrackReader" 84 ⟨"LineFollowerBench$TrackReader", "isDigit", "(C)Z"⟩ : Cond) ∈ mTs := mTs_in 1000 (by decide +kernel) (by decide +kernel)
theorem u1001 : (Cond.static ⟨"LineFollowerBench$TrackReader", "isDigit", "(C)Z"⟩ : Cond) ∈ mTs := mTs_in 1001 (by decide +kernel) (by decide +kernel)
theorem l_X8_84 : mLinkS "LineFollowerBench$TrackReader" 84 1 mX8_isDigit := ⟨⟨by decide, by decide, by decide +kernel⟩, co_X8_isDigit, u1000, u1001⟩
set_option maxHeartbeats 4000000 in
set_option maxRecDepth 100000 in
theorem gX8_readNumber_0 {G : mG} {w : mH} {Φ : mF} {a0 : Nat} {x1 x2 x3 : Int32} {lt : Nat → Nat} {n : Nat} (h1 : hk w a0 = (8, 0)) (h2 : zRea w a0) (s1 : rdX w a0 lt n) (s2 : (¬ ((vX8_isDigit (nI (hc lt n (hfi w a0 4).toNatClampNeg))) = 0)) → ∀ w1 : mH, (w1 = sfi w a0 4 ((hfi w a0 4) + 1)) → rdX w1 a0 lt n) (s3 : (¬ ((vX8_isDigit (nI (hc lt n (hfi w a0 4).toNatClampNeg))) = 0)) → ∀ w1 : mH, (w1 = sfi w a0 4 ((hfi w a0 4) + 1)) → (¬ ((vX8_isDigit (nI (hc lt n (hfi w1 a0 4).toNatClampNeg))) = 0)) → (¬ ((0 + ((nI (hc lt n (hfi w a0 4).toNatClampNeg)) - 48)) = 0)) → ∀ w2 : mH, (w2 = sfi w1 a0 4 ((hfi w1 a0 4) + 1)) → rdX w2 a0 lt n) (k1 : ((vX8_isDigit (nI (hc lt n (hfi w a0 4).toNatClampNeg))) = 0) → mW G mX8_readNumber 2 0 0 72 [(0, .ref a0), (1, .int x1), (2, .int x2), (3, .int x3), (4, .int (hfi w a0 4)), (5, .int 0), (6, .int 0)] [] w Φ) (k2 : (¬ ((vX8_isDigit (nI (hc lt n (hfi w a0 4).toNatClampNeg))) = 0)) → ∀ w1 : mH, (w1 = sfi w a0 4 ((hfi w a0 4) + 1)) → ((vX8_isDigit (nI (hc lt n (hfi w1 a0 4).toNatClampNeg))) = 0) → mW G mX8_readNumber 2 0 0 72 [(0, .ref a0), (1, .int x1), (2, .int x2), (3, .int x3), (4, .int (hfi w a0 4)), (5, .int (0 + ((nI (hc lt n (hfi w a0 4).toNatClampNeg)) - 48))), (6, .int 1)] [] w1 Φ) (k3 : (¬ ((vX8_isDigit (nI (hc lt n (hfi w a0 4).toNatClampNeg))) = 0)) → ∀ w1 : mH, (w1 = sfi w a0 4 ((hfi w a0 4) + 1)) → (¬ ((vX8_isDigit (nI (hc lt n (hfi w1 a0 4).toNatClampNeg))) = 0)) → (¬ ((0 + ((nI (hc lt n (hfi w a0 4).toNatClampNeg)) - 48)) = 0)) → ∀ w2 : mH, (w2 = sfi w1 a0 4 ((hfi w1 a0 4) + 1)) → ((vX8_isDigit (nI (hc lt n (hfi w2 a0 4).toNatClampNeg))) = 0) → mW G mX8_readNumber 2 0 0 72 [(0, .ref a0), (1, .int x1), (2, .int x2), (3, .int x3), (4, .int (hfi w a0 4)), (5, .int (((0 + ((nI (hc lt n (hfi w a0 4).toNatClampNeg)) - 48)) * 10) + ((nI (hc lt n (hfi w1 a0 4).toNatClampNeg)) - 48))), (6, .int 2)] [] w2 Φ) (k4 : (¬ ((vX8_isDigit (nI (hc lt n (hfi w a0 4).toNatClampNeg))) = 0)) → ∀ w1 : mH, (w1 = sfi w a0 4 ((hfi w a0 4) + 1)) → (¬ ((vX8_isDigit (nI (hc lt n (hfi w1 a0 4).toNatClampNeg))) = 0)) → (¬ ((0 + ((nI (hc lt n (hfi w a0 4).toNatClampNeg)) - 48)) = 0)) → ∀ w2 : mH, (w2 = sfi w1 a0 4 ((hfi w1 a0 4) + 1)) → (¬ ((vX8_isDigit (nI (hc lt n (hfi w2 a0 4).toNatClampNeg))) = 0)) → (¬ ((((0 + ((nI (hc lt n (hfi w a0 4).toNatClampNeg)) - 48)) * 10) + ((nI (hc lt n (hfi w1 a0 4).toNatClampNeg)) - 48)) = 0)) → ∀ w3 : mH, (w3 = sfi w2 a0 4 ((hfi w2 a0 4) + 1)) → mW G mX8_readNumber 2 0 0 72 [(0, .ref a0), (1, .int x1), (2, .int x2), (3, .int x3), (4, .int (hfi w a0 4)), (5, .int (((((0 + ((nI (hc lt n (hfi w a0 4).toNatClampNeg)) - 48)) * 10) + ((nI (hc lt n (hfi w1 a0 4).toNatClampNeg)) - 48)) * 10) + ((nI (hc lt n (hfi w2 a0 4).toNatClampNeg)) - 48))), (6, .int 3)] [] w3 Φ) (k5 : (¬ ((vX8_isDigit (nI (hc lt n (hfi w a0 4).toNatClampNeg))) = 0)) → ∀ w1 : mH, (w1 = sfi w a0 4 ((hfi w a0 4) + 1)) → (¬ ((vX8_isDigit (nI (hc lt n (hfi w1 a0 4).toNatClampNeg))) = 0)) → (¬ ((0 + ((nI (hc lt n (hfi w a0 4).toNatClampNeg)) - 48)) = 0)) → ∀ w2 : mH, (w2 = sfi w1 a0 4 ((hfi w1 a0 4) + 1)) → (¬ ((vX8_isDigit (nI (hc lt n (hfi w2 a0 4).toNatClampNeg))) = 0)) → ((((0 + ((nI (hc lt n (hfi w a0 4).toNatClampNeg)) - 48)) * 10) + ((nI (hc lt n (hfi w1 a0 4).toNatClampNeg)) - 48)) = 0) → mW G mX8_readNumber 2 0 0 72 [(0, .ref a0), (1, .int x1), (2, .int x2), (3, .int x3), (4, .int (hfi w a0 4)), (5, .int (((0 + ((nI (hc lt n (hfi w a0 4).toNatClampNeg)) - 48)) * 10) + ((nI (hc lt n (hfi w1 a0 4).toNatClampNeg)) - 48))), (6, .int 2)] [] w2 Φ) (k6 : (¬ ((vX8_isDigit (nI (hc lt n (hfi w a0 4).toNatClampNeg))) = 0)) → ∀ w1 : mH, (w1 = sfi w a0 4 ((hfi w a0 4) + 1)) → (¬ ((vX8_isDigit (nI (hc lt n (hfi w1 a0 4).toNatClampNeg))) = 0)) → ((0 + ((nI (hc lt n (hfi w a0 4).toNatClampNeg)) - 48)) = 0) → mW G mX8_readNumber 2 0 0 72 [(0, .ref a0), (1, .int x1), (2, .int x2), (3, .int x3), (4, .int (hfi w a0 4)), (5, .int (0 + ((nI (hc lt n (hfi w a0 4).toNatClampNeg)) - 48))), (6, .int 1)] [] w1 Φ) : mW G mX8_readNumber 2 0 0 0 [(0, .ref a0), (1, .int x1), (2, .int x2), (3, .int x3)] [] w Φ := by
  refine mW_aload_n (j := 0) dX8_readNumber_0 rfl rfl ?_
  refine mW_get dX8_readNumber_1 f_X8_29 h1 rfl ?_
  refine mW_istore (lv2 := [(4, .int (hfi w a0 4)), (0, .ref a0), (1, .int x1), (2, .int x2), (3, .int x3)]) dX8_readNumber_4 (by decide) rfl ?_
  refine mW_iconst (v := 0) dX8_readNumber_6 (by decide) ?_
  refine mW_istore (lv2 := [(5, .int 0), (4, .int (hfi w a0 4)), (0, .ref a0), (1, .int x1), (2, .int x2), (3, .int x3)]) dX8_readNumber_7 (by decide) rfl ?_
  refine mW_iconst (v := 0) dX8_readNumber_9 (by decide) ?_
  refine mW_istore (lv2 := [(6, .int 0), (5, .int 0), (4, .int (hfi w a0 4)), (0, .ref a0), (1, .int x1), (2, .int x2), (3, .int x3)]) dX8_readNumber_10 (by decide) rfl ?_
  refine mW_iload (j := 0) dX8_readNumber_12 rfl ?_
  refine mW_iconst (v := 3) dX8_readNumber_14 (by decide) ?_
  refine mW_icmp_ge (tgt := 72) dX8_readNumber_15 (by decide) (fun c => absurd c (by decide)) (fun _ => ?_)
  refine mW_aload_n (j := 3) dX8_readNumber_18 rfl rfl ?_
  refine mW_callVe (As := []) (rest := []) (kc2 := 0) (ks2 := 0) dX8_readNumber_19 l_X8_54 rfl h1 rfl (by decide) (qX8_sign' (w := w) (a0 := a0) h2 s1) (Nat.le_of_ble_eq_true rfl) (by decide) rfl rfl ?_
  refine mW_callSe (As := [.int (nI (hc lt n (hfi w a0 4).toNatClampNeg))]) (rest := []) (kc2 := 0) (ks2 := 0) dX8_readNumber_22 l_X8_84 rfl (qX8_isDigit (w := w) (x0 := (nI (hc lt n (hfi w a0 4).toNatClampNeg)))) (Nat.le_of_ble_eq_true rfl) (by decide) rfl rfl ?_
  refine mW_if_eq (tgt := 72) dX8_readNumber_25 (by decide) (fun c1 => ?_) (fun c1 => ?_)
  · refine mW_loc [3, 4, 5, 6, 2, 1, 0] (lv2 := [(0, .ref a0), (1, .int x1), (2, .int x2), (3, .int x3), (4, .int (hfi w a0 4)), (5, .int 0), (6, .int 0)]) rfl ?_
    exact k1 c1
  · refine mW_iload (j := 0) dX8_readNumber_28 rfl ?_
    refine mW_if_le (tgt := 41) dX8_readNumber_30 (by decide) (fun _ => ?_) (fun c => absurd (by decide) c)
    refine mW_iload (j := 1) dX8_readNumber_41 rfl ?_
    refine mW_bipush (v := 10) dX8_readNumber_43 (by decide) ?_
    refine mW_imulL (v := 0) dX8_readNumber_45 (by decide) ?_
    refine mW_aload_n (j := 3) dX8_readNumber_46 rfl rfl ?_
    refine mW_callVe (As := []) (rest := [.int 0]) (kc2 := 0) (ks2 := 0) dX8_readNumber_47 l_X8_54 rfl h1 rfl (by decide) (qX8_sign' (w := w) (a0 := a0) h2 s1) (Nat.le_of_ble_eq_true rfl) (by decide) rfl rfl ?_
    refine mW_bipush (v := 48) dX8_readNumber_50 (by decide) ?_
    refine mW_isub dX8_readNumber_52 ?_
    refine mW_iadd dX8_readNumber_53 ?_
    refine mW_istore (lv2 := [(5, .int (0 + ((nI (hc lt n (hfi w a0 4).toNatClampNeg)) - 48))), (6, .int 0), (4, .int (hfi w a0 4)), (0, .ref a0), (1, .int x1), (2, .int x2), (3, .int x3)]) dX8_readNumber_54 (by decide) rfl ?_
    refine mW_aload_n (j := 3) dX8_readNumber_56 rfl rfl ?_
    refine mW_dup dX8_readNumber_57 rfl ?_
    refine mW_get dX8_readNumber_58 f_X8_29 h1 rfl ?_
    refine mW_iconst (v := 1) dX8_readNumber_61 (by decide) ?_
    refine mW_iadd dX8_readNumber_62 ?_
    refine mW_put (ty := .int) (w2 := sfi w a0 4 ((hfi w a0 4) + 1)) dX8_readNumber_63 p_X8_29 h1 (Nat.le_of_ble_eq_true rfl) (by first | rfl | decide | (repeat' split) <;> rfl) rfl (hN_sfi _ _ _ _) (hk_sfi _ _ _ _) (mE_sfi h1 (by decide) (ob_8_4 _ _ _)) ?_
    refine mW_nm (fun w1 e1 => ?_)
    refine mW_iinc (j := 1) (v := 1) (lv2 := [(6, .int 1), (5, .int (0 + ((nI (hc lt n (hfi w a0 4).toNatClampNeg)) - 48))), (4, .int (hfi w a0 4)), (0, .ref a0), (1, .int x1), (2, .int x2), (3, .int x3)]) dX8_readNumber_66 rfl (by decide) (by decide) rfl ?_
    refine mW_goto (tgt := 12) dX8_readNumber_69 (by decide) ?_
    refine mW_iload (j := 0) dX8_readNumber_12 rfl ?_
    refine mW_iconst (v := 3) dX8_readNumber_14 (by decide) ?_
    refine mW_icmp_ge (tgt := 72) dX8_readNumber_15 (by decide) (fun c => absurd c (by decide)) (fun _ => ?_)
    refine mW_aload_n (j := 3) dX8_readNumber_18 rfl rfl ?_
    refine mW_callVe (As := []) (rest := []) (kc2 := 0) (ks2 := 0) dX8_readNumber_19 l_X8_54 rfl (s2k (S2_sfi e1) h1) rfl (by decide) (qX8_sign' (w := w1) (a0 := a0) (zRea_s2 (S2_sfi e1) h2) (s2 c1 w1 e1)) (Nat.le_of_ble_eq_true rfl) (by decide) rfl rfl ?_
    refine mW_callSe (As := [.int (nI (hc lt n (hfi w1 a0 4).toNatClampNeg))]) (rest := []) (kc2 := 0) (ks2 := 0) dX8_readNumber_22 l_X8_84 rfl (qX8_isDigit (w := w1) (x0 := (nI (hc lt n (hfi w1 a0 4).toNatClampNeg)))) (Nat.le_of_ble_eq_true rfl) (by decide) rfl rfl ?_
    refine mW_if_eq (tgt := 72) dX8_readNumber_25 (by decide) (fun c2 => ?_) (fun c2 => ?_)
    · refine mW_loc [3, 4, 5, 6, 2, 1, 0] (lv2 := [(0, .ref a0), (1, .int x1), (2, .int x2), (3, .int x3), (4, .int (hfi w a0 4)), (5, .int (0 + ((nI (hc lt n (hfi w a0 4).toNatClampNeg)) - 48))), (6, .int 1)]) rfl ?_
      exact k2 c1 w1 e1 c2
    · refine mW_iload (j := 0) dX8_readNumber_28 rfl ?_
      refine mW_if_le (tgt := 41) dX8_readNumber_30 (by decide) (fun c => absurd c (by decide)) (fun _ => ?_)
      refine mW_iload (j := 1) dX8_readNumber_33 rfl ?_
      refine mW_if_ne (tgt := 41) dX8_readNumber_35 (by decide) (fun c3 => ?_) (fun c3 => ?_)
      · refine mW_iload (j := 1) dX8_readNumber_41 rfl ?_
        refine mW_bipush (v := 10) dX8_readNumber_43 (by decide) ?_
        refine mW_imul dX8_readNumber_45 ?_
        refine mW_aload_n (j := 3) dX8_readNumber_46 rfl rfl ?_
        refine mW_callVe (As := []) (rest := [.int ((0 + ((nI (hc lt n (hfi w a0 4).toNatClampNeg)) - 48)) * 10)]) (kc2 := 0) (ks2 := 0) dX8_readNumber_47 l_X8_54 rfl (s2k (S2_sfi e1) h1) rfl (by decide) (qX8_sign' (w := w1) (a0 := a0) (zRea_s2 (S2_sfi e1) h2) (s2 c1 w1 e1)) (Nat.le_of_ble_eq_true rfl) (by decide) rfl rfl ?_
        refine mW_bipush (v := 48) dX8_readNumber_50 (by decide) ?_
        refine mW_isub dX8_readNumber_52 ?_
        refine mW_iadd dX8_readNumber_53 ?_
        refine mW_istore (lv2 := [(5, .int (((0 + ((nI (hc lt n (hfi w a0 4).toNatClampNeg)) - 48)) * 10) + ((nI (hc lt n (hfi w1 a0 4).toNatClampNeg)) - 48))), (6, .int 1), (4, .int (hfi w a0 4)), (0, .ref a0), (1, .int x1), (2, .int x2), (3, .int x3)]) dX8_readNumber_54 (by decide) rfl ?_
        refine mW_aload_n (j := 3) dX8_readNumber_56 rfl rfl ?_
        refine mW_dup dX8_readNumber_57 rfl ?_
        refine mW_get dX8_readNumber_58 f_X8_29 (s2k (S2_sfi e1) h1) rfl ?_
        refine mW_iconst (v := 1) dX8_readNumber_61 (by decide) ?_
        refine mW_iadd dX8_readNumber_62 ?_
        refine mW_put (ty := .int) (w2 := sfi w1 a0 4 ((hfi w1 a0 4) + 1)) dX8_readNumber_63 p_X8_29 (s2k (S2_sfi e1) h1) (Nat.le_of_ble_eq_true rfl) (by first | rfl | decide | (repeat' split) <;> rfl) rfl (hN_sfi _ _ _ _) (hk_sfi _ _ _ _) (mE_sfi (s2k (S2_sfi e1) h1) (by decide) (ob_8_4 _ _ _)) ?_
        refine mW_nm (fun w2 e2 => ?_)
        refine mW_iinc (j := 1) (v := 2) (lv2 := [(6, .int 2), (5, .int (((0 + ((nI (hc lt n (hfi w a0 4).toNatClampNeg)) - 48)) * 10) + ((nI (hc lt n (hfi w1 a0 4).toNatClampNeg)) - 48))), (4, .int (hfi w a0 4)), (0, .ref a0), (1, .int x1), (2, .int x2), (3, .int x3)]) dX8_readNumber_66 rfl (by decide) (by decide) rfl ?_
        refine mW_goto (tgt := 12) dX8_readNumber_69 (by decide) ?_
        refine mW_iload (j := 0) dX8_readNumber_12 rfl ?_
        refine mW_iconst (v := 3) dX8_readNumber_14 (by decide) ?_
        refine mW_icmp_ge (tgt := 72) dX8_readNumber_15 (by decide) (fun c => absurd c (by decide)) (fun _ => ?_)
        refine mW_aload_n (j := 3) dX8_readNumber_18 rfl rfl ?_
        refine mW_callVe (As := []) (rest := []) (kc2 := 0) (ks2 := 0) dX8_readNumber_19 l_X8_54 rfl (s2k (S2_sfi e2) (s2k (S2_sfi e1) h1)) rfl (by decide) (qX8_sign' (w := w2) (a0 := a0) (zRea_s2 (S2_sfi e2) (zRea_s2 (S2_sfi e1) h2)) (s3 c1 w1 e1 c2 c3 w2 e2)) (Nat.le_of_ble_eq_true rfl) (by decide) rfl rfl ?_
        refine mW_callSe (As := [.int (nI (hc lt n (hfi w2 a0 4).toNatClampNeg))]) (rest := []) (kc2 := 0) (ks2 := 0) dX8_readNumber_22 l_X8_84 rfl (qX8_isDigit (w := w2) (x0 := (nI (hc lt n (hfi w2 a0 4).toNatClampNeg)))) (Nat.le_of_ble_eq_true rfl) (by decide) rfl rfl ?_
        refine mW_if_eq (tgt := 72) dX8_readNumber_25 (by decide) (fun c4 => ?_) (fun c4 => ?_)
        · refine mW_loc [3, 4, 5, 6, 2, 1, 0] (lv2 := [(0, .ref a0), (1, .int x1), (2, .int x2), (3, .int x3), (4, .int (hfi w a0 4)), (5, .int (((0 + ((nI (hc lt n (hfi w a0 4).toNatClampNeg)) - 48)) * 10) + ((nI (hc lt n (hfi w1 a0 4).toNatClampNeg)) - 48))), (6, .int 2)]) rfl ?_
          exact k3 c1 w1 e1 c2 c3 w2 e2 c4
        · refine mW_iload (j := 0) dX8_readNumber_28 rfl ?_
          refine mW_if_le (tgt := 41) dX8_readNumber_30 (by decide) (fun c => absurd c (by decide)) (fun _ => ?_)
          refine mW_iload (j := 1) dX8_readNumber_33 rfl ?_
          refine mW_if_ne (tgt := 41) dX8_readNumber_35 (by decide) (fun c5 => ?_) (fun c5 => ?_)
          · refine mW_iload (j := 1) dX8_readNumber_41 rfl ?_
            refine mW_bipush (v := 10) dX8_readNumber_43 (by decide) ?_
            refine mW_imul dX8_readNumber_45 ?_
            refine mW_aload_n (j := 3) dX8_readNumber_46 rfl rfl ?_
            refine mW_callVe (As := []) (rest := [.int ((((0 + ((nI (hc lt n (hfi w a0 4).toNatClampNeg)) - 48)) * 10) + ((nI (hc lt n (hfi w1 a0 4).toNatClampNeg)) - 48)) * 10)]) (kc2 := 0) (ks2 := 0) dX8_readNumber_47 l_X8_54 rfl (s2k (S2_sfi e2) (s2k (S2_sfi e1) h1)) rfl (by decide) (qX8_sign' (w := w2) (a0 := a0) (zRea_s2 (S2_sfi e2) (zRea_s2 (S2_sfi e1) h2)) (s3 c1 w1 e1 c2 c3 w2 e2)) (Nat.le_of_ble_eq_true rfl) (by decide) rfl rfl ?_
            refine mW_bipush (v := 48) dX8_readNumber_50 (by decide) ?_
            refine mW_isub dX8_readNumber_52 ?_
            refine mW_iadd dX8_readNumber_53 ?_
            refine mW_istore (lv2 := [(5, .int (((((0 + ((nI (hc lt n (hfi w a0 4).toNatClampNeg)) - 48)) * 10) + ((nI (hc lt n (hfi w1 a0 4).toNatClampNeg)) - 48)) * 10) + ((nI (hc lt n (hfi w2 a0 4).toNatClampNeg)) - 48))), (6, .int 2), (4, .int (hfi w a0 4)), (0, .ref a0), (1, .int x1), (2, .int x2), (3, .int x3)]) dX8_readNumber_54 (by decide) rfl ?_
            refine mW_aload_n (j := 3) dX8_readNumber_56 rfl rfl ?_
            refine mW_dup dX8_readNumber_57 rfl ?_
            refine mW_get dX8_readNumber_58 f_X8_29 (s2k (S2_sfi e2) (s2k (S2_sfi e1) h1)) rfl ?_
            refine mW_iconst (v := 1) dX8_readNumber_61 (by decide) ?_
            refine mW_iadd dX8_readNumber_62 ?_
            refine mW_put (ty := .int) (w2 := sfi w2 a0 4 ((hfi w2 a0 4) + 1)) dX8_readNumber_63 p_X8_29 (s2k (S2_sfi e2) (s2k (S2_sfi e1) h1)) (Nat.le_of_ble_eq_true rfl) (by first | rfl | decide | (repeat' split) <;> rfl) rfl (hN_sfi _ _ _ _) (hk_sfi _ _ _ _) (mE_sfi (s2k (S2_sfi e2) (s2k (S2_sfi e1) h1)) (by decide) (ob_8_4 _ _ _)) ?_
            refine mW_nm (fun w3 e3 => ?_)
            refine mW_iinc (j := 1) (v := 3) (lv2 := [(6, .int 3), (5, .int (((((0 + ((nI (hc lt n (hfi w a0 4).toNatClampNeg)) - 48)) * 10) + ((nI (hc lt n (hfi w1 a0 4).toNatClampNeg)) - 48)) * 10) + ((nI (hc lt n (hfi w2 a0 4).toNatClampNeg)) - 48))), (4, .int (hfi w a0 4)), (0, .ref a0), (1, .int x1), (2, .int x2), (3, .int x3)]) dX8_readNumber_66 rfl (by decide) (by decide) rfl ?_
            refine mW_goto (tgt := 12) dX8_readNumber_69 (by decide) ?_
            refine mW_iload (j := 0) dX8_readNumber_12 rfl ?_
            refine mW_iconst (v := 3) dX8_readNumber_14 (by decide) ?_
            refine mW_icmp_ge (tgt := 72) dX8_readNumber_15 (by decide) (fun _ => ?_) (fun c => absurd (by decide) c)
            refine mW_loc [3, 4, 5, 6, 2, 1, 0] (lv2 := [(0, .ref a0), (1, .int x1), (2, .int x2), (3, .int x3), (4, .int (hfi w a0 4)), (5, .int (((((0 + ((nI (hc lt n (hfi w a0 4).toNatClampNeg)) - 48)) * 10) + ((nI (hc lt n (hfi w1 a0 4).toNatClampNeg)) - 48)) * 10) + ((nI (hc lt n (hfi w2 a0 4).toNatClampNeg)) - 48))), (6, .int 3)]) rfl ?_
            exact k4 c1 w1 e1 c2 c3 w2 e2 c4 c5 w3 e3
          · refine mW_goto (tgt := 72) dX8_readNumber_38 (by decide) ?_
            refine mW_loc [3, 4, 5, 6, 2, 1, 0] (lv2 := [(0, .ref a0), (1, .int x1), (2, .int x2), (3, .int x3), (4, .int (hfi w a0 4)), (5, .int (((0 + ((nI (hc lt n (hfi w a0 4).toNatClampNeg)) - 48)) * 10) + ((nI (hc lt n (hfi w1 a0 4).toNatClampNeg)) - 48))), (6, .int 2)]) rfl ?_
            exact k5 c1 w1 e1 c2 c3 w2 e2 c4 c5
      · refine mW_goto (tgt := 72) dX8_readNumber_38 (by decide) ?_
        refine mW_loc [3, 4, 5, 6, 2, 1, 0] (lv2 := [(0, .ref a0), (1, .int x1), (2, .int x2), (3, .int x3), (4, .int (hfi w a0 4)), (5, .int (0 + ((nI (hc lt n (hfi w a0 4).toNatClampNeg)) - 48))), (6, .int 1)]) rfl ?_
        exact k6 c1 w1 e1 c2 c3
theorem u264 : (Cond.fieldLink "LineFollowerBench$TrackReader" 32 "LineFollowerBench$TrackReader" "number" "I" : Cond) ∈ mTs := mTs_in 264 (by decide +kernel) (by decide +kernel)
theorem p_X8_32 : mPut "LineFollowerBench$TrackReader" 32 8 5 (.int) false := ⟨RX8, TX8, 6, "LineFollowerBench$TrackReader", tyX8, rfl, by decide, in_X8, u264, Or.inl rfl, by decide, tyX8_ok, nmX8, by decide +kernel, rfl, fun h => by cases h⟩
theorem ob_8_5 (w : mH) (a : Nat) (v : Int32) : mOb (sfi w a 5 v) a 8 = (mOb w a 8).set 5 (.int v) := by simp [mOb, hfi_sfi, hfl_sfi, hfr_sfi, up2]
theorem f_X8_32 : mFld "LineFollowerBench$TrackReader" 32 8 5 := ⟨RX8, TX8, 6, "LineFollowerBench$TrackReader", rfl, by decide, in_X8, u264, Or.inl rfl, by decide⟩
theorem v947 : (Cond.methodLinkNest "LineFollowerBench$TrackReader" 35 ⟨"LineFollowerBench", "isWithin", "(III)Z"⟩ "LineFollowerBench" : Cond) ∈ lw_tbl := List.mem_of_getElem? (i := 947) (by decide +kernel)
theorem l_X8_35 : mLinkSN "LineFollowerBench$TrackReader" 35 3 mX10_isWithin "LineFollowerBench" := ⟨⟨by decide, by decide, by decide +kernel⟩, co_X10_isWithin, v947, u523⟩
set_option maxHeartbeats 4000000 in
set_option maxRecDepth 100000 in
theorem gX8_readNumber_72 {G : mG} {w : mH} {Φ : mF} {a0 : Nat} {x1 x2 x3 x4 x5 x6 : Int32} (h1 : hk w a0 = (8, 0)) (k1 : ∀ w1 : mH, (w1 = sfi w a0 5 (x1 * x5)) → ((hfi w1 a0 4) ≤ x4) → ∀ w2 : mH, (w2 = sX8_failAt w1 a0 x4) → Φ (.inl (some (.int 0))) w2) (k2 : ∀ w1 : mH, (w1 = sfi w a0 5 (x1 * x5)) → (¬ ((hfi w1 a0 4) ≤ x4)) → (¬ ((vX10_isWithin (hfi w1 a0 5) x2 x3) = 0)) → Φ (.inl (some (.int 1))) w1) (k3 : ∀ w1 : mH, (w1 = sfi w a0 5 (x1 * x5)) → (¬ ((hfi w1 a0 4) ≤ x4)) → ((vX10_isWithin (hfi w1 a0 5) x2 x3) = 0) → ∀ w3 : mH, (w3 = sX8_failAt w1 a0 x4) → Φ (.inl (some (.int 0))) w3) : mW G mX8_readNumber 2 0 0 72 [(0, .ref a0), (1, .int x1), (2, .int x2), (3, .int x3), (4, .int x4), (5, .int x5), (6, .int x6)] [] w Φ := by
  refine mW_aload_n (j := 0) dX8_readNumber_72 rfl rfl ?_
  refine mW_iload_n (j := 1) dX8_readNumber_73 rfl rfl ?_
  refine mW_iload (j := 5) dX8_readNumber_74 rfl ?_
  refine mW_imul dX8_readNumber_76 ?_
  refine mW_put (ty := .int) (w2 := sfi w a0 5 (x1 * x5)) dX8_readNumber_77 p_X8_32 h1 (Nat.le_of_ble_eq_true rfl) (by first | rfl | decide | (repeat' split) <;> rfl) rfl (hN_sfi _ _ _ _) (hk_sfi _ _ _ _) (mE_sfi h1 (by decide) (ob_8_5 _ _ _)) ?_
  refine mW_nm (fun w1 e1 => ?_)
  refine mW_aload_n (j := 0) dX8_readNumber_80 rfl rfl ?_
  refine mW_get dX8_readNumber_81 f_X8_29 (s2k (S2_sfi e1) h1) rfl ?_
  refine mW_iload (j := 4) dX8_readNumber_84 rfl ?_
  refine mW_icmp_le (tgt := 101) dX8_readNumber_86 (by decide) (fun c1 => ?_) (fun c1 => ?_)
  · refine mW_aload_n (j := 0) dX8_readNumber_101 rfl rfl ?_
    refine mW_iload (j := 4) dX8_readNumber_102 rfl ?_
    refine mW_callVe (As := [.int x4]) (rest := []) (kc2 := 0) (ks2 := 0) dX8_readNumber_104 l_X8_50 rfl (s2k (S2_sfi e1) h1) rfl (by decide) (qX8_failAt (w := w1) (a0 := a0) (x1 := x4) (s2k (S2_sfi e1) h1)) (Nat.le_of_ble_eq_true rfl) (by decide) rfl rfl ?_
    refine mW_nm (fun w2 e2 => ?_)
    refine mW_if_eq (tgt := 114) dX8_readNumber_107 (by decide) (fun _ => ?_) (fun c => absurd (by decide) c)
    refine mW_iconst (v := 0) dX8_readNumber_114 (by decide) ?_
    exact mW_zret (ty := .boolean) dX8_readNumber_115 rfl (by first | rfl | decide) (k1 w1 e1 c1 w2 e2)
  · refine mW_aload_n (j := 0) dX8_readNumber_89 rfl rfl ?_
    refine mW_get dX8_readNumber_90 f_X8_32 (s2k (S2_sfi e1) h1) rfl ?_
    refine mW_iload_n (j := 2) dX8_readNumber_93 rfl rfl ?_
    refine mW_iload_n (j := 3) dX8_readNumber_94 rfl rfl ?_
    refine mW_callSNe (As := [.int (hfi w1 a0 5), .int x2, .int x3]) (rest := []) (kc2 := 0) (ks2 := 0) dX8_readNumber_95 l_X8_35 rfl (qX10_isWithin (w := w1) (x0 := hfi w1 a0 5) (x1 := x2) (x2 := x3)) (Nat.le_of_ble_eq_true rfl) (by decide) rfl rfl ?_
    refine mW_if_ne (tgt := 110) dX8_readNumber_98 (by decide) (fun c2 => ?_) (fun c2 => ?_)
    · refine mW_iconst (v := 1) dX8_readNumber_110 (by decide) ?_
      refine mW_goto (tgt := 115) dX8_readNumber_111 (by decide) ?_
      exact mW_zret (ty := .boolean) dX8_readNumber_115 rfl (by first | rfl | decide) (k2 w1 e1 c1 c2)
    · refine mW_aload_n (j := 0) dX8_readNumber_101 rfl rfl ?_
      refine mW_iload (j := 4) dX8_readNumber_102 rfl ?_
      refine mW_callVe (As := [.int x4]) (rest := []) (kc2 := 0) (ks2 := 0) dX8_readNumber_104 l_X8_50 rfl (s2k (S2_sfi e1) h1) rfl (by decide) (qX8_failAt (w := w1) (a0 := a0) (x1 := x4) (s2k (S2_sfi e1) h1)) (Nat.le_of_ble_eq_true rfl) (by decide) rfl rfl ?_
      refine mW_nm (fun w3 e3 => ?_)
      refine mW_if_eq (tgt := 114) dX8_readNumber_107 (by decide) (fun _ => ?_) (fun c => absurd (by decide) c)
      refine mW_iconst (v := 0) dX8_readNumber_114 (by decide) ?_
      exact mW_zret (ty := .boolean) dX8_readNumber_115 rfl (by first | rfl | decide) (k3 w1 e1 c1 c2 w3 e3)
def num (lt : Nat → Nat) (n p : Nat) : Nat × Nat := if dg (hc lt n p) then (if hc lt n p = 48 then (1, 0) else if dg (hc lt n (p + 1)) then (if dg (hc lt n (p + 2)) then (3, ((hc lt n p - 48) * 10 + (hc lt n (p + 1) - 48)) * 10 + (hc lt n (p + 2) - 48)) else (2, (hc lt n p - 48) * 10 + (hc lt n (p + 1) - 48))) else (1, hc lt n p - 48)) else (0, 0)
theorem num_le (lt : Nat → Nat) (n p : Nat) : (num lt n p).1 ≤ 3 ∧ (num lt n p).2 ≤ 999 := by
  unfold num
  by_cases h0 : dg (hc lt n p)
  · rw [if_pos h0]
    obtain ⟨a1, a2⟩ := h0
    by_cases h1 : hc lt n p = 48
    · rw [if_pos h1]; exact ⟨by decide, by decide⟩
    · rw [if_neg h1]
      by_cases h2 : dg (hc lt n (p + 1))
      · rw [if_pos h2]
        obtain ⟨b1, b2⟩ := h2
        by_cases h3 : dg (hc lt n (p + 2))
        · rw [if_pos h3]
          obtain ⟨c1, c2⟩ := h3
          exact ⟨by show 3 ≤ 3; decide, by show _ ≤ 999; omega⟩
        · rw [if_neg h3]; exact ⟨by show 2 ≤ 3; decide, by show _ ≤ 999; omega⟩
      · rw [if_neg h2]; exact ⟨by show 1 ≤ 3; decide, by show _ ≤ 999; omega⟩
  · rw [if_neg h0]; exact ⟨by decide, by decide⟩
theorem hc_lt {lt : Nat → Nat} {n p : Nat} (h : hc lt n p ≠ 0) : p < n := by
  unfold hc at h
  by_cases hp : p < n
  · exact hp
  · rw [if_neg hp] at h; exact absurd rfl h
theorem num_pos {lt : Nat → Nat} {n p : Nat} (hp : p ≤ n) : p + (num lt n p).1 ≤ n := by
  unfold num
  by_cases h0 : dg (hc lt n p)
  · have l0 := hc_lt (lt := lt) (n := n) (p := p) (by obtain ⟨a1, a2⟩ := h0; omega)
    rw [if_pos h0]
    by_cases h1 : hc lt n p = 48
    · rw [if_pos h1]; exact l0
    · rw [if_neg h1]
      by_cases h2 : dg (hc lt n (p + 1))
      · have l1 := hc_lt (lt := lt) (n := n) (p := p + 1) (by obtain ⟨a1, a2⟩ := h2; omega)
        rw [if_pos h2]
        by_cases h3 : dg (hc lt n (p + 2))
        · have l2 := hc_lt (lt := lt) (n := n) (p := p + 2) (by obtain ⟨a1, a2⟩ := h3; omega)
          rw [if_pos h3]; exact l2
        · rw [if_neg h3]; exact l1
      · rw [if_neg h2]; exact l0
  · rw [if_neg h0]; exact hp
/-- does a number of c digits, f times v, stand the bounds? -/
def nOK (f least most : Int32) (cv : Nat × Nat) : Int32 := if 0 < cv.1 then (if vX10_isWithin (f * nI cv.2) least most = 0 then 0 else 1) else 0
def nEnd (w w' : mH) (a p c : Nat) (x ok : Int32) : Prop := mFr a (a + 1) w w' ∧ hfi w' a 1 = hfi w a 1 ∧ hfi w' a 2 = (if ok = 0 then nI p else hfi w a 2) ∧ hfi w' a 4 = nI (p + c) ∧ hfi w' a 5 = x
theorem rn_tail {G : mG} {w0 w : mH} {a p c v : Nat} {f least most x6 : Int32} (z0 : zRea w0 a) (hp : p ≤ 900) (hc : c ≤ 3) (F : mFr a (a + 1) w0 w) (h1 : hfi w a 1 = hfi w0 a 1) (h2 : hfi w a 2 = hfi w0 a 2) (h4 : hfi w a 4 = nI (p + c)) : mW G mX8_readNumber 2 0 0 72 [(0, .ref a), (1, .int f), (2, .int least), (3, .int most), (4, .int (nI p)), (5, .int (nI v)), (6, .int x6)] [] w (mP (some (.int (nOK f least most (c, v)))) (fun w' => nEnd w0 w' a p c (f * nI v) (nOK f least most (c, v)))) := by
  have hs := mS2.of F.1
  refine gX8_readNumber_72 ((zRea_s2 hs z0).1) ?_ ?_ ?_
  · intro w1 e1 c1 w2 e2
    rw [e1, e_hfi_sfi, up2_k _ _ _ (by decide), h4, m_le (by omega) (by omega)] at c1
    have e : nOK f least most (c, v) = 0 := by unfold nOK; rw [if_neg (by show ¬ 0 < c; omega)]
    rw [e]
    have e2' : w2 = sfi w1 a 2 (nI p) := e2
    refine mP_of ⟨?_, ?_, ?_, ?_, ?_⟩
    · rw [e2', e1]; exact mFr_sfi (mFr_sfi F (by omega) (by omega)) (by omega) (by omega)
    · rw [e2', e_hfi_sfi, up2_k _ _ _ (by decide), e1, e_hfi_sfi, up2_k _ _ _ (by decide)]; exact h1
    · rw [e2', e_hfi_sfi, up2_at, if_pos rfl]
    · rw [e2', e_hfi_sfi, up2_k _ _ _ (by decide), e1, e_hfi_sfi, up2_k _ _ _ (by decide)]; exact h4
    · rw [e2', e_hfi_sfi, up2_k _ _ _ (by decide), e1, e_hfi_sfi, up2_at]
  · intro w1 e1 c1 c2
    rw [e1, e_hfi_sfi, up2_k _ _ _ (by decide), h4, m_le (by omega) (by omega)] at c1
    rw [e1, e_hfi_sfi, up2_at] at c2
    have e : nOK f least most (c, v) = 1 := by unfold nOK; rw [if_pos (by show 0 < c; omega), if_neg c2]
    rw [e]
    refine mP_of ⟨?_, ?_, ?_, ?_, ?_⟩
    · rw [e1]; exact mFr_sfi F (by omega) (by omega)
    · rw [e1, e_hfi_sfi, up2_k _ _ _ (by decide)]; exact h1
    · rw [e1, e_hfi_sfi, up2_k _ _ _ (by decide), if_neg (by decide)]; exact h2
    · rw [e1, e_hfi_sfi, up2_k _ _ _ (by decide)]; exact h4
    · rw [e1, e_hfi_sfi, up2_at]
  · intro w1 e1 c1 c2 w2 e2
    rw [e1, e_hfi_sfi, up2_k _ _ _ (by decide), h4, m_le (by omega) (by omega)] at c1
    rw [e1, e_hfi_sfi, up2_at] at c2
    have e : nOK f least most (c, v) = 0 := by unfold nOK; rw [if_pos (by show 0 < c; omega), if_pos c2]
    rw [e]
    have e2' : w2 = sfi w1 a 2 (nI p) := e2
    refine mP_of ⟨?_, ?_, ?_, ?_, ?_⟩
    · rw [e2', e1]; exact mFr_sfi (mFr_sfi F (by omega) (by omega)) (by omega) (by omega)
    · rw [e2', e_hfi_sfi, up2_k _ _ _ (by decide), e1, e_hfi_sfi, up2_k _ _ _ (by decide)]; exact h1
    · rw [e2', e_hfi_sfi, up2_at, if_pos rfl]
    · rw [e2', e_hfi_sfi, up2_k _ _ _ (by decide), e1, e_hfi_sfi, up2_k _ _ _ (by decide)]; exact h4
    · rw [e2', e_hfi_sfi, up2_k _ _ _ (by decide), e1, e_hfi_sfi, up2_at]
theorem d48 {c : Nat} (h : dg c) : nI c - 48 = nI (c - 48) := by rw [show (48 : Int32) = nI 48 from rfl]; exact pk_sub h.1
theorem rX8_readNumber {G : mG} {w : mH} {a0 n p : Nat} {x1 x2 x3 : Int32} {lt : Nat → Nat} (z0 : zRea w a0) (h : rdX w a0 lt n) (hp : hfi w a0 4 = nI p) (hp9 : p ≤ 900) : mC G mX8_readNumber 2 0 0 [.ref a0, .int x1, .int x2, .int x3] w (mP (some (.int (nOK x1 x2 x3 (num lt n p)))) (fun w' => nEnd w w' a0 p (num lt n p).1 (x1 * nI (num lt n p).2) (nOK x1 x2 x3 (num lt n p)))) := by
  have ep : (hfi w a0 4).toNatClampNeg = p := by rw [hp]; exact m_cl (by omega)
  have hle : ∀ q, hc lt n q ≤ 126 := fun q => hc_le h
  obtain ⟨r1, r2, r3, -, -⟩ := id h
  have W1 : ∀ w1 : mH, w1 = sfi w a0 4 (hfi w a0 4 + 1) → mFr a0 (a0 + 1) w w1 ∧ hfi w1 a0 4 = nI (p + 1) ∧ hfi w1 a0 1 = hfi w a0 1 ∧ hfi w1 a0 2 = hfi w a0 2 := fun w1 e1 => by
    rw [hp, nI_1] at e1
    exact ⟨by rw [e1]; exact mFr_sfi mFr.rf (by omega) (by omega), by rw [e1, e_hfi_sfi, up2_at], by rw [e1, e_hfi_sfi, up2_k _ _ _ (by decide)], by rw [e1, e_hfi_sfi, up2_k _ _ _ (by decide)]⟩
  have W2 : ∀ w1 w2 : mH, w1 = sfi w a0 4 (hfi w a0 4 + 1) → w2 = sfi w1 a0 4 (hfi w1 a0 4 + 1) → mFr a0 (a0 + 1) w w2 ∧ hfi w2 a0 4 = nI (p + 2) ∧ hfi w2 a0 1 = hfi w a0 1 ∧ hfi w2 a0 2 = hfi w a0 2 := fun w1 w2 e1 e2 => by
    obtain ⟨f1, g1, g2, g3⟩ := W1 w1 e1
    rw [g1, nI_1] at e2
    exact ⟨by rw [e2]; exact mFr_sfi f1 (by omega) (by omega), by rw [e2, e_hfi_sfi, up2_at], by rw [e2, e_hfi_sfi, up2_k _ _ _ (by decide)]; exact g2, by rw [e2, e_hfi_sfi, up2_k _ _ _ (by decide)]; exact g3⟩
  have K1 : ∀ w1 : mH, w1 = sfi w a0 4 (hfi w a0 4 + 1) → rdX w1 a0 lt n := fun w1 e1 => by
    obtain ⟨f1, g1, g2, g3⟩ := W1 w1 e1
    exact rdX_at (g2.trans r1) r2 (fun i hi => by rw [f1.hai (by omega)]; exact r3 i hi) g1 (by omega)
  have K2 : ∀ w1 w2 : mH, w1 = sfi w a0 4 (hfi w a0 4 + 1) → w2 = sfi w1 a0 4 (hfi w1 a0 4 + 1) → rdX w2 a0 lt n := fun w1 w2 e1 e2 => by
    obtain ⟨f1, g1, g2, g3⟩ := W2 w1 w2 e1 e2
    exact rdX_at (g2.trans r1) r2 (fun i hi => by rw [f1.hai (by omega)]; exact r3 i hi) g1 (by omega)
  refine mC_of (by decide +kernel) rfl (Nat.le_of_ble_eq_true rfl) rfl ?_
  refine gX8_readNumber_0 z0.1 z0 h (by intro c1 w1 e1; exact K1 w1 e1) (by intro c1 w1 e1; intros; rename_i e2; exact K2 w1 _ e1 e2) ?_ ?_ ?_ ?_ ?_ ?_
  · intro c1
    rw [ep, isD_v (hle p)] at c1
    have e : num lt n p = (0, 0) := by unfold num; rw [if_neg c1]
    rw [e, hp]
    exact rn_tail z0 hp9 (by decide) mFr.rf rfl rfl hp
  · intro c1 w1 e1 c2
    obtain ⟨f1, g1, g2, g3⟩ := W1 w1 e1
    rw [ep, isD_v (hle p), Decidable.not_not] at c1
    rw [g1, m_cl (by omega), isD_v (hle _)] at c2
    have e : num lt n p = (1, hc lt n p - 48) := by
      unfold num
      rw [if_pos c1, if_neg c2]
      by_cases h48 : hc lt n p = 48
      · rw [if_pos h48, h48]
      · rw [if_neg h48]
    rw [e, hp, ← hp, ep, hp, Int32.zero_add, d48 c1]
    exact rn_tail z0 hp9 (by decide) f1 g2 g3 g1
  · intro c1 w1 e1 c2 c3 w2 e2 c4
    obtain ⟨f1, g1, g2, g3⟩ := W1 w1 e1
    obtain ⟨f2, y1, y2, y3⟩ := W2 w1 w2 e1 e2
    rw [ep, isD_v (hle p), Decidable.not_not] at c1
    rw [g1, m_cl (by omega), isD_v (hle _), Decidable.not_not] at c2
    rw [ep, Int32.zero_add, d48 c1] at c3
    rw [y1, m_cl (by omega), isD_v (hle _)] at c4
    have h48 : ¬ hc lt n p = 48 := fun q => c3 (by rw [q]; rfl)
    have e : num lt n p = (2, (hc lt n p - 48) * 10 + (hc lt n (p + 1) - 48)) := by
      unfold num
      rw [if_pos c1, if_neg h48, if_pos c2, if_neg c4]
    rw [e, ep, hp, g1, m_cl (by omega), Int32.zero_add, d48 c1, d48 c2, show (10 : Int32) = nI 10 from rfl, pk_mul, nI_add]
    exact rn_tail z0 hp9 (by decide) f2 y2 y3 y1
  · intro c1 w1 e1 c2 c3 w2 e2 c4 c5 w3 e3
    obtain ⟨f1, g1, g2, g3⟩ := W1 w1 e1
    obtain ⟨f2, y1, y2, y3⟩ := W2 w1 w2 e1 e2
    rw [ep, isD_v (hle p), Decidable.not_not] at c1
    rw [g1, m_cl (by omega), isD_v (hle _), Decidable.not_not] at c2
    rw [ep, Int32.zero_add, d48 c1] at c3
    rw [y1, m_cl (by omega), isD_v (hle _), Decidable.not_not] at c4
    have h48 : ¬ hc lt n p = 48 := fun q => c3 (by rw [q]; rfl)
    have e : num lt n p = (3, ((hc lt n p - 48) * 10 + (hc lt n (p + 1) - 48)) * 10 + (hc lt n (p + 2) - 48)) := by
      unfold num
      rw [if_pos c1, if_neg h48, if_pos c2, if_pos c4]
    rw [e, ep, hp, g1, y1, m_cl (by omega), m_cl (by omega), Int32.zero_add, d48 c1, d48 c2, d48 c4, show (10 : Int32) = nI 10 from rfl, pk_mul, nI_add, pk_mul, nI_add]
    rw [y1, nI_1] at e3
    exact rn_tail z0 hp9 (by decide) (by rw [e3]; exact mFr_sfi f2 (by omega) (by omega)) (by rw [e3, e_hfi_sfi, up2_k _ _ _ (by decide)]; exact y2) (by rw [e3, e_hfi_sfi, up2_k _ _ _ (by decide)]; exact y3) (by rw [e3, e_hfi_sfi, up2_at])
  · intro c1 w1 e1 c2 c3 w2 e2 c4 c5
    exfalso
    obtain ⟨f1, g1, g2, g3⟩ := W1 w1 e1
    rw [ep, isD_v (hle p), Decidable.not_not] at c1
    rw [g1, m_cl (by omega), isD_v (hle _), Decidable.not_not] at c2
    rw [ep, Int32.zero_add, d48 c1] at c3
    rw [ep, g1, m_cl (by omega), Int32.zero_add, d48 c1, d48 c2, show (10 : Int32) = nI 10 from rfl, pk_mul, nI_add] at c5
    have l1 := hle p
    have l2 := hle (p + 1)
    have z := (nI_eq (b := 0) (by omega) (by omega)).mp c5
    have z2 : hc lt n p - 48 = 0 := by omega
    exact c3 (by rw [z2]; rfl)
  · intro c1 w1 e1 c2 c3
    obtain ⟨f1, g1, g2, g3⟩ := W1 w1 e1
    have l1 := hle p
    rw [ep, isD_v (hle p), Decidable.not_not] at c1
    rw [ep, Int32.zero_add, d48 c1] at c3
    have z := (nI_eq (b := 0) (by omega) (by omega)).mp c3
    have h48 : hc lt n p = 48 := by obtain ⟨a1, a2⟩ := c1; omega
    have e : num lt n p = (1, 0) := by
      unfold num
      rw [if_pos c1, if_pos h48]
    rw [e, ep, hp, Int32.zero_add, d48 c1, z]
    exact rn_tail z0 hp9 (by decide) f1 g2 g3 g1
