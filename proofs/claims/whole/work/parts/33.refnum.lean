/-! the reference's reading: numbers -/
abbrev rP (w : mH) (a : Nat) : Nat := (hfi w a 9).toNatClampNeg
def hI (lt : Nat → Nat) (n p : Nat) : Int32 := if p < n then nI (lt p) else -1
def rS (w : mH) (b : Nat) (lt : Nat → Nat) (n : Nat) : Prop := hfi w b 8 = nI n ∧ n ≤ 50 ∧ (∀ i, i < n → hai w (b + 5) i = nI (lt i) ∧ 33 ≤ lt i ∧ lt i ≤ 126) ∧ hfi w b 9 = nI (hfi w b 9).toNatClampNeg ∧ (hfi w b 9).toNatClampNeg ≤ 1000
theorem rS_at {w w' : mH} {a n p : Nat} {lt : Nat → Nat} (h : rS w a lt n) (e : hai w' (a + 5) = hai w (a + 5)) (h1 : hfi w' a 8 = hfi w a 8) (h4 : hfi w' a 9 = nI p) (hp : p ≤ 1000) : rS w' a lt n := by
  have ep : (nI p).toNatClampNeg = p := m_cl (by omega)
  refine ⟨by rw [h1]; exact h.1, h.2.1, by rw [e]; exact h.2.2.1, ?_, ?_⟩ <;> rw [h4, ep]
  exact hp
theorem rP_v {w : mH} {a p : Nat} (h4 : hfi w a 9 = nI p) (hp : p ≤ 1000) : rP w a = p := by unfold rP; rw [h4]; exact m_cl (by omega)
theorem hI_c {lt : Nat → Nat} {n p c : Nat} (hl : ∀ i, i < n → 33 ≤ lt i ∧ lt i ≤ 126) (h0 : c ≠ 0) (h1 : c ≤ 126) : hI lt n p = nI c ↔ hc lt n p = c := by
  unfold hI hc
  by_cases hp : p < n
  · rw [if_pos hp, if_pos hp]; exact nI_eq (by have := hl p hp; omega) (by omega)
  · rw [if_neg hp, if_neg hp]
    refine ⟨fun q => ?_, fun q => absurd q.symm h0⟩
    have : (-1 : Int32) < 0 := by decide
    rw [q] at this
    exact absurd this (m_0le (by omega))
theorem hI_d {lt : Nat → Nat} {n p : Nat} (hl : ∀ i, i < n → 33 ≤ lt i ∧ lt i ≤ 126) : vX11_in (hI lt n p).toInt64 48 57 = 0 ↔ ¬ dg (hc lt n p) := by
  rw [in_eq (a := 48) (b := 57) (A := 48) (B := 57) rfl rfl, iw_0]
  unfold hI hc dg
  by_cases hp : p < n
  · rw [if_pos hp, if_pos hp]
    have := hl p hp
    rw [show (48 : Int32) = nI 48 from rfl, show (57 : Int32) = nI 57 from rfl, m_le (by omega) (by omega), m_le (by omega) (by omega)]
  · rw [if_neg hp, if_neg hp]
    exact ⟨fun _ q => by omega, fun _ q => absurd q.1 (by decide)⟩
theorem qX11_here' {G : mG} {w : mH} {a0 n : Nat} {lt : Nat → Nat} (z : zRef w a0) (h : rS w a0 lt n) : mC G mX11_here 1 0 0 [.ref a0] w (mEq (.inl (some (.int (hI lt n (rP w a0))))) w) := by
  have hn := h.2.1
  have h1000 := h.2.2.2.2
  have e1 : hfi w a0 8 ≤ hfi w a0 9 ↔ n ≤ rP w a0 := by rw [h.1, h.2.2.2.1]; exact m_le (by omega) (by omega)
  have q := qX11_here (G := G) (z.1) (z.2.2.2.2.2.1) (z.2.2.2.2.2.2.2.2.2.2.2.2.2.2.2.2.2.2.2.2.2.2.2.2.2.2.1) (fun c => by rw [e1] at c; rw [h.2.2.2.1]; exact m_vp (show rP w a0 < 50 by omega) (by omega))
  have e : vX11_here w a0 (a0 + 5) = hI lt n (rP w a0) := by
    unfold vX11_here hI
    by_cases hp : rP w a0 < n
    · rw [if_pos hp, if_neg (fun c => by have := e1.mp c; omega)]
      exact (h.2.2.1 _ hp).1
    · rw [if_neg hp, if_pos (e1.mpr (by omega))]
  rw [← e]
  exact q

abbrev mX11_number : mM := (yX11_number, cX11_number, 6, (some .int), [])
theorem u1774 : (Cond.constantLong "LineFollowerBenchModel" 155 48 : Cond) ∈ mTs := mTs_in 1774 (by decide +kernel) (by decide +kernel)
theorem u1775 : (Cond.constantLong "LineFollowerBenchModel" 157 57 : Cond) ∈ mTs := mTs_in 1775 (by decide +kernel) (by decide +kernel)
set_option maxHeartbeats 4000000 in
set_option maxRecDepth 100000 in
theorem gX11_number_0 {G : mG} {w : mH} {Φ : mF} {a0 : Nat} {x1 x2 : Int32} {lt : Nat → Nat} {n : Nat} (h1 : hk w a0 = (11, 0)) (h2 : zRef w a0) (s1 : (¬ (0 ≤ (hfi w a0 10))) → rS w a0 lt n) (k1 : (0 ≤ (hfi w a0 10)) → ((hfi w a0 10) < 0) → mW G mX11_number 3 0 0 46 [(0, .ref a0), (1, .int x1), (2, .int x2), (3, .int (hfi w a0 9))] [] w Φ) (k2 : (0 ≤ (hfi w a0 10)) → (¬ ((hfi w a0 10) < 0)) → Φ (.inl (some (.int 0))) w) (k3 : (¬ (0 ≤ (hfi w a0 10))) → (¬ ((vX11_in ((hI lt n (rP w a0)).toInt64) 48 57) = 0)) → ((hfi w a0 10) < 0) → mW G mX11_number 3 0 0 46 [(0, .ref a0), (1, .int x1), (2, .int x2), (3, .int (hfi w a0 9))] [] w Φ) (k4 : (¬ (0 ≤ (hfi w a0 10))) → (¬ ((vX11_in ((hI lt n (rP w a0)).toInt64) 48 57) = 0)) → (¬ ((hfi w a0 10) < 0)) → Φ (.inl (some (.int 0))) w) (k5 : (¬ (0 ≤ (hfi w a0 10))) → ((vX11_in ((hI lt n (rP w a0)).toInt64) 48 57) = 0) → ∀ w1 : mH, (w1 = sfi w a0 10 (hfi w a0 9)) → ((hfi w1 a0 10) < 0) → mW G mX11_number 3 0 0 46 [(0, .ref a0), (1, .int x1), (2, .int x2), (3, .int (hfi w a0 9))] [] w1 Φ) (k6 : (¬ (0 ≤ (hfi w a0 10))) → ((vX11_in ((hI lt n (rP w a0)).toInt64) 48 57) = 0) → ∀ w1 : mH, (w1 = sfi w a0 10 (hfi w a0 9)) → (¬ ((hfi w1 a0 10) < 0)) → Φ (.inl (some (.int 0))) w1) : mW G mX11_number 3 0 0 0 [(0, .ref a0), (1, .int x1), (2, .int x2)] [] w Φ := by
  refine mW_aload_n (j := 0) dX11_number_0 rfl rfl ?_
  refine mW_get dX11_number_1 f_X11_149 h1 rfl ?_
  refine mW_istore_n (lv2 := [(3, .int (hfi w a0 9)), (0, .ref a0), (1, .int x1), (2, .int x2)]) dX11_number_4 rfl (by decide) rfl ?_
  refine mW_aload_n (j := 1) dX11_number_5 rfl rfl ?_
  refine mW_get dX11_number_6 f_X11_30 h1 rfl ?_
  refine mW_if_ge (tgt := 37) dX11_number_9 (by decide) (fun c1 => ?_) (fun c1 => ?_)
  · refine mW_aload_n (j := 1) dX11_number_37 rfl rfl ?_
    refine mW_get dX11_number_38 f_X11_30 h1 rfl ?_
    refine mW_if_lt (tgt := 46) dX11_number_41 (by decide) (fun c2 => ?_) (fun c2 => ?_)
    · refine mW_loc [1, 2, 3, 0] (lv2 := [(0, .ref a0), (1, .int x1), (2, .int x2), (3, .int (hfi w a0 9))]) rfl ?_
      exact k1 c1 c2
    · refine mW_iconst (v := 0) dX11_number_44 (by decide) ?_
      exact mW_iret dX11_number_45 rfl (k2 c1 c2)
  · refine mW_aload_n (j := 1) dX11_number_12 rfl rfl ?_
    refine mW_callVe (As := []) (rest := []) (kc2 := 0) (ks2 := 0) dX11_number_13 l_X11_152 rfl h1 rfl (by decide) (qX11_here' (w := w) (a0 := a0) h2 (s1 c1)) (Nat.le_of_ble_eq_true rfl) (by decide) rfl rfl ?_
    refine mW_i2l dX11_number_16 ?_
    refine mW_ldc2 (v := 48) dX11_number_17 u1774 ?_
    refine mW_ldc2 (v := 57) dX11_number_20 u1775 ?_
    refine mW_callSe (As := [.long ((hI lt n (rP w a0)).toInt64), .long 48, .long 57]) (rest := []) (kc2 := 0) (ks2 := 0) dX11_number_23 l_X11_92 rfl (qX11_in (w := w) (y0 := (hI lt n (rP w a0)).toInt64) (y2 := 48) (y4 := 57)) (Nat.le_of_ble_eq_true rfl) (by decide) rfl rfl ?_
    refine mW_if_ne (tgt := 37) dX11_number_26 (by decide) (fun c3 => ?_) (fun c3 => ?_)
    · refine mW_aload_n (j := 1) dX11_number_37 rfl rfl ?_
      refine mW_get dX11_number_38 f_X11_30 h1 rfl ?_
      refine mW_if_lt (tgt := 46) dX11_number_41 (by decide) (fun c4 => ?_) (fun c4 => ?_)
      · refine mW_loc [1, 2, 3, 0] (lv2 := [(0, .ref a0), (1, .int x1), (2, .int x2), (3, .int (hfi w a0 9))]) rfl ?_
        exact k3 c1 c3 c4
      · refine mW_iconst (v := 0) dX11_number_44 (by decide) ?_
        exact mW_iret dX11_number_45 rfl (k4 c1 c3 c4)
    · refine mW_aload_n (j := 1) dX11_number_29 rfl rfl ?_
      refine mW_aload_n (j := 1) dX11_number_30 rfl rfl ?_
      refine mW_get dX11_number_31 f_X11_149 h1 rfl ?_
      refine mW_put (ty := .int) (w2 := sfi w a0 10 (hfi w a0 9)) dX11_number_34 p_X11_30 h1 (Nat.le_of_ble_eq_true rfl) (by first | rfl | decide | (repeat' split) <;> rfl) rfl (hN_sfi _ _ _ _) (hk_sfi _ _ _ _) (mE_sfi h1 (by decide) (ob_11_10 _ _ _)) ?_
      refine mW_nm (fun w1 e1 => ?_)
      refine mW_aload_n (j := 1) dX11_number_37 rfl rfl ?_
      refine mW_get dX11_number_38 f_X11_30 (s2k (S2_sfi e1) h1) rfl ?_
      refine mW_if_lt (tgt := 46) dX11_number_41 (by decide) (fun c5 => ?_) (fun c5 => ?_)
      · refine mW_loc [1, 2, 3, 0] (lv2 := [(0, .ref a0), (1, .int x1), (2, .int x2), (3, .int (hfi w a0 9))]) rfl ?_
        exact k5 c1 c3 w1 e1 c5
      · refine mW_iconst (v := 0) dX11_number_44 (by decide) ?_
        exact mW_iret dX11_number_45 rfl (k6 c1 c3 w1 e1 c5)
set_option maxHeartbeats 4000000 in
set_option maxRecDepth 100000 in
theorem gX11_number_46 {G : mG} {w : mH} {Φ : mF} {a0 : Nat} {x1 x2 x3 : Int32} {lt : Nat → Nat} {n : Nat} (h1 : hk w a0 = (11, 0)) (h2 : zRef w a0) (s1 : rS w a0 lt n) (k1 : ∀ w1 : mH, (w1 = sfi w a0 9 ((hfi w a0 9) + 1)) → mW G mX11_number 3 0 0 68 [(0, .ref a0), (1, .int x1), (2, .int x2), (3, .int x3), (4, .int ((hI lt n (rP w a0)) - 48)), (5, .int 1)] [] w1 Φ) : mW G mX11_number 3 0 0 46 [(0, .ref a0), (1, .int x1), (2, .int x2), (3, .int x3)] [] w Φ := by
  refine mW_aload_n (j := 0) dX11_number_46 rfl rfl ?_
  refine mW_callVe (As := []) (rest := []) (kc2 := 0) (ks2 := 0) dX11_number_47 l_X11_152 rfl h1 rfl (by decide) (qX11_here' (w := w) (a0 := a0) h2 s1) (Nat.le_of_ble_eq_true rfl) (by decide) rfl rfl ?_
  refine mW_bipush (v := 48) dX11_number_50 (by decide) ?_
  refine mW_isub dX11_number_52 ?_
  refine mW_istore (lv2 := [(4, .int ((hI lt n (rP w a0)) - 48)), (0, .ref a0), (1, .int x1), (2, .int x2), (3, .int x3)]) dX11_number_53 (by decide) rfl ?_
  refine mW_aload_n (j := 1) dX11_number_55 rfl rfl ?_
  refine mW_dup dX11_number_56 rfl ?_
  refine mW_get dX11_number_57 f_X11_149 h1 rfl ?_
  refine mW_iconst (v := 1) dX11_number_60 (by decide) ?_
  refine mW_iadd dX11_number_61 ?_
  refine mW_put (ty := .int) (w2 := sfi w a0 9 ((hfi w a0 9) + 1)) dX11_number_62 p_X11_149 h1 (Nat.le_of_ble_eq_true rfl) (by first | rfl | decide | (repeat' split) <;> rfl) rfl (hN_sfi _ _ _ _) (hk_sfi _ _ _ _) (mE_sfi h1 (by decide) (ob_11_9 _ _ _)) ?_
  refine mW_nm (fun w1 e1 => ?_)
  refine mW_iconst (v := 1) dX11_number_65 (by decide) ?_
  refine mW_istore (lv2 := [(5, .int 1), (4, .int ((hI lt n (rP w a0)) - 48)), (0, .ref a0), (1, .int x1), (2, .int x2), (3, .int x3)]) dX11_number_66 (by decide) rfl ?_
  refine mW_loc [2, 3, 4, 5, 1, 0] (lv2 := [(0, .ref a0), (1, .int x1), (2, .int x2), (3, .int x3), (4, .int ((hI lt n (rP w a0)) - 48)), (5, .int 1)]) rfl ?_
  exact k1 w1 e1
set_option maxHeartbeats 4000000 in
set_option maxRecDepth 100000 in
theorem gX11_number_68 {G : mG} {w : mH} {Φ : mF} {a0 : Nat} {x1 x2 x3 x4 x5 : Int32} {lt : Nat → Nat} {n : Nat} (h1 : hk w a0 = (11, 0)) (h2 : zRef w a0) (s1 : (¬ (3 ≤ x5)) → (¬ (x4 = 0)) → rS w a0 lt n) (k1 : (3 ≤ x5) → mW G mX11_number 3 0 0 127 [(0, .ref a0), (1, .int x1), (2, .int x2), (3, .int x3), (4, .int x4), (5, .int x5)] [] w Φ) (k2 : (¬ (3 ≤ x5)) → (x4 = 0) → mW G mX11_number 3 0 0 127 [(0, .ref a0), (1, .int x1), (2, .int x2), (3, .int x3), (4, .int x4), (5, .int x5)] [] w Φ) (k3 : (¬ (3 ≤ x5)) → (¬ (x4 = 0)) → ((vX11_in ((hI lt n (rP w a0)).toInt64) 48 57) = 0) → mW G mX11_number 3 0 0 127 [(0, .ref a0), (1, .int x1), (2, .int x2), (3, .int x3), (4, .int x4), (5, .int x5)] [] w Φ) (k4 : (¬ (3 ≤ x5)) → (¬ (x4 = 0)) → (¬ ((vX11_in ((hI lt n (rP w a0)).toInt64) 48 57) = 0)) → ∀ w1 : mH, (w1 = sfi w a0 9 ((hfi w a0 9) + 1)) → mW G mX11_number 3 0 0 68 [(0, .ref a0), (1, .int x1), (2, .int x2), (3, .int x3), (4, .int (((10 * x4) + (hI lt n (rP w a0))) - 48)), (5, .int (x5 + 1))] [] w1 Φ) : mW G mX11_number 3 0 0 68 [(0, .ref a0), (1, .int x1), (2, .int x2), (3, .int x3), (4, .int x4), (5, .int x5)] [] w Φ := by
  refine mW_iload (j := 5) dX11_number_68 rfl ?_
  refine mW_iconst (v := 3) dX11_number_70 (by decide) ?_
  refine mW_icmp_ge (tgt := 127) dX11_number_71 (by decide) (fun c1 => ?_) (fun c1 => ?_)
  · exact k1 c1
  · refine mW_iload (j := 4) dX11_number_74 rfl ?_
    refine mW_if_eq (tgt := 127) dX11_number_76 (by decide) (fun c2 => ?_) (fun c2 => ?_)
    · exact k2 c1 c2
    · refine mW_aload_n (j := 0) dX11_number_79 rfl rfl ?_
      refine mW_callVe (As := []) (rest := []) (kc2 := 0) (ks2 := 0) dX11_number_80 l_X11_152 rfl h1 rfl (by decide) (qX11_here' (w := w) (a0 := a0) h2 (s1 c1 c2)) (Nat.le_of_ble_eq_true rfl) (by decide) rfl rfl ?_
      refine mW_i2l dX11_number_83 ?_
      refine mW_ldc2 (v := 48) dX11_number_84 u1774 ?_
      refine mW_ldc2 (v := 57) dX11_number_87 u1775 ?_
      refine mW_callSe (As := [.long ((hI lt n (rP w a0)).toInt64), .long 48, .long 57]) (rest := []) (kc2 := 0) (ks2 := 0) dX11_number_90 l_X11_92 rfl (qX11_in (w := w) (y0 := (hI lt n (rP w a0)).toInt64) (y2 := 48) (y4 := 57)) (Nat.le_of_ble_eq_true rfl) (by decide) rfl rfl ?_
      refine mW_if_eq (tgt := 127) dX11_number_93 (by decide) (fun c3 => ?_) (fun c3 => ?_)
      · exact k3 c1 c2 c3
      · refine mW_bipush (v := 10) dX11_number_96 (by decide) ?_
        refine mW_iload (j := 4) dX11_number_98 rfl ?_
        refine mW_imul dX11_number_100 ?_
        refine mW_aload_n (j := 0) dX11_number_101 rfl rfl ?_
        refine mW_callVe (As := []) (rest := [.int (10 * x4)]) (kc2 := 0) (ks2 := 0) dX11_number_102 l_X11_152 rfl h1 rfl (by decide) (qX11_here' (w := w) (a0 := a0) h2 (s1 c1 c2)) (Nat.le_of_ble_eq_true rfl) (by decide) rfl rfl ?_
        refine mW_iadd dX11_number_105 ?_
        refine mW_bipush (v := 48) dX11_number_106 (by decide) ?_
        refine mW_isub dX11_number_108 ?_
        refine mW_istore (lv2 := [(4, .int (((10 * x4) + (hI lt n (rP w a0))) - 48)), (0, .ref a0), (1, .int x1), (2, .int x2), (3, .int x3), (5, .int x5)]) dX11_number_109 (by decide) rfl ?_
        refine mW_aload_n (j := 1) dX11_number_111 rfl rfl ?_
        refine mW_dup dX11_number_112 rfl ?_
        refine mW_get dX11_number_113 f_X11_149 h1 rfl ?_
        refine mW_iconst (v := 1) dX11_number_116 (by decide) ?_
        refine mW_iadd dX11_number_117 ?_
        refine mW_put (ty := .int) (w2 := sfi w a0 9 ((hfi w a0 9) + 1)) dX11_number_118 p_X11_149 h1 (Nat.le_of_ble_eq_true rfl) (by first | rfl | decide | (repeat' split) <;> rfl) rfl (hN_sfi _ _ _ _) (hk_sfi _ _ _ _) (mE_sfi h1 (by decide) (ob_11_9 _ _ _)) ?_
        refine mW_nm (fun w1 e1 => ?_)
        refine mW_iinc (j := 5) (v := x5 + 1) (lv2 := [(5, .int (x5 + 1)), (4, .int (((10 * x4) + (hI lt n (rP w a0))) - 48)), (0, .ref a0), (1, .int x1), (2, .int x2), (3, .int x3)]) dX11_number_121 rfl rfl (by decide) rfl ?_
        refine mW_goto (tgt := 68) dX11_number_124 (by decide) ?_
        refine mW_loc [2, 3, 4, 5, 1, 0] (lv2 := [(0, .ref a0), (1, .int x1), (2, .int x2), (3, .int x3), (4, .int (((10 * x4) + (hI lt n (rP w a0))) - 48)), (5, .int (x5 + 1))]) rfl ?_
        exact k4 c1 c2 c3 w1 e1
set_option maxHeartbeats 4000000 in
set_option maxRecDepth 100000 in
theorem gX11_number_127 {G : mG} {w : mH} {Φ : mF} {a0 : Nat} {x1 x2 x3 x4 x5 : Int32} {lt : Nat → Nat} {n : Nat} (h1 : hk w a0 = (11, 0)) (k1 : (¬ ((vX11_in x4.toInt64 x1.toInt64 x2.toInt64) = 0)) → Φ (.inl (some (.int x4))) w) (k2 : ((vX11_in x4.toInt64 x1.toInt64 x2.toInt64) = 0) → ∀ w1 : mH, (w1 = sfi w a0 10 x3) → Φ (.inl (some (.int x4))) w1) : mW G mX11_number 3 0 0 127 [(0, .ref a0), (1, .int x1), (2, .int x2), (3, .int x3), (4, .int x4), (5, .int x5)] [] w Φ := by
  refine mW_iload (j := 4) dX11_number_127 rfl ?_
  refine mW_i2l dX11_number_129 ?_
  refine mW_iload_n (j := 1) dX11_number_130 rfl rfl ?_
  refine mW_i2l dX11_number_131 ?_
  refine mW_iload_n (j := 2) dX11_number_132 rfl rfl ?_
  refine mW_i2l dX11_number_133 ?_
  refine mW_callSe (As := [.long x4.toInt64, .long x1.toInt64, .long x2.toInt64]) (rest := []) (kc2 := 0) (ks2 := 0) dX11_number_134 l_X11_92 rfl (qX11_in (w := w) (y0 := x4.toInt64) (y2 := x1.toInt64) (y4 := x2.toInt64)) (Nat.le_of_ble_eq_true rfl) (by decide) rfl rfl ?_
  refine mW_if_ne (tgt := 145) dX11_number_137 (by decide) (fun c1 => ?_) (fun c1 => ?_)
  · refine mW_iload (j := 4) dX11_number_145 rfl ?_
    exact mW_iret dX11_number_147 rfl (k1 c1)
  · refine mW_aload_n (j := 0) dX11_number_140 rfl rfl ?_
    refine mW_iload_n (j := 3) dX11_number_141 rfl rfl ?_
    refine mW_put (ty := .int) (w2 := sfi w a0 10 x3) dX11_number_142 p_X11_30 h1 (Nat.le_of_ble_eq_true rfl) (by first | rfl | decide | (repeat' split) <;> rfl) rfl (hN_sfi _ _ _ _) (hk_sfi _ _ _ _) (mE_sfi h1 (by decide) (ob_11_10 _ _ _)) ?_
    refine mW_nm (fun w1 e1 => ?_)
    refine mW_iload (j := 4) dX11_number_145 rfl ?_
    exact mW_iret dX11_number_147 rfl (k2 c1 w1 e1)
theorem hI_n {lt : Nat → Nat} {n p : Nat} (h : hc lt n p ≠ 0) : hI lt n p = nI (hc lt n p) := by
  have hp := hc_lt h
  unfold hI hc
  rw [if_pos hp, if_pos hp]
/-- number: the answer, the place, the fault -/
def uNum (lo hi : Int32) (lt : Nat → Nat) (n p : Nat) (fl : Int32) : Int32 × Nat × Int32 := if 0 ≤ fl then (0, p, fl) else if (num lt n p).1 = 0 then (0, p, nI p) else (nI (num lt n p).2, p + (num lt n p).1, if vX10_isWithin (nI (num lt n p).2) lo hi = 0 then nI p else fl)
def uEnd (w w' : mH) (a : Nat) (r : Int32 × Nat × Int32) : Prop := xF [9, 10] [] a w w' ∧ hfi w' a 9 = nI r.2.1 ∧ hfi w' a 10 = r.2.2
theorem number_tail {G : mG} {w w1 : mH} {a0 p c v : Nat} {lo hi : Int32} {x5 : Int32} (z : zRef w a0) (F : xF [9, 10] [] a0 w w1) (h9 : hfi w1 a0 9 = nI (p + c)) : mW G mX11_number 3 0 0 127 [(0, .ref a0), (1, .int lo), (2, .int hi), (3, .int (nI p)), (4, .int (nI v)), (5, .int x5)] [] w1 (mP (some (.int (nI v))) (fun w' => uEnd w w' a0 (nI v, p + c, if vX10_isWithin (nI v) lo hi = 0 then nI p else hfi w1 a0 10))) := by
  have hs := mS2.of F.1
  refine gX11_number_127 (lt := fun _ => 0) (n := 0) ((zRef_s2 hs z).1) ?_ ?_
  · intro c1
    rw [in_eq rfl rfl] at c1
    exact mP_of ⟨F, h9, by rw [if_neg c1]⟩
  · intro c1 w2 e2
    rw [in_eq rfl rfl] at c1
    refine mP_of ⟨by rw [e2]; exact xF_sfi F (by decide), by rw [e2, e_hfi_sfi, up2_k _ _ _ (by decide)]; exact h9, by rw [e2, e_hfi_sfi, up2_at, if_pos c1]⟩
theorem rX11_number {G : mG} {w : mH} {a0 n : Nat} {x1 x2 : Int32} {lt : Nat → Nat} (z : zRef w a0) (h : rS w a0 lt n) (h9 : rP w a0 ≤ 900) : mC G mX11_number 3 0 0 [.ref a0, .int x1, .int x2] w (mP (some (.int (uNum x1 x2 lt n (rP w a0) (hfi w a0 10)).1)) (fun w' => uEnd w w' a0 (uNum x1 x2 lt n (rP w a0) (hfi w a0 10)))) := by
  have hl : ∀ i, i < n → 33 ≤ lt i ∧ lt i ≤ 126 := fun i hi => (h.2.2.1 i hi).2
  have hle : ∀ p, hc lt n p ≤ 126 := fun p => by
    unfold hc
    by_cases hp : p < n
    · rw [if_pos hp]; exact (hl p hp).2
    · rw [if_neg hp]; omega
  have ep : hfi w a0 9 = nI (rP w a0) := h.2.2.2.1
  refine mC_of (by decide +kernel) rfl (Nat.le_of_ble_eq_true rfl) rfl ?_
  refine gX11_number_0 (lt := lt) (n := n) z.1 z (fun _ => h) ?_ ?_ ?_ ?_ ?_ ?_
  · intro c1 c2
    exact absurd c2 (Int32.not_lt.mpr c1)
  · intro c1 _
    have e : uNum x1 x2 lt n (rP w a0) (hfi w a0 10) = (0, rP w a0, hfi w a0 10) := by unfold uNum; rw [if_pos c1]
    rw [e]
    exact mP_of ⟨xF.rf, ep, rfl⟩
  · intro c1 c3 _
    rw [hI_d hl, Decidable.not_not] at c3
    have c3' : hc lt n (rP w a0) ≠ 0 := by obtain ⟨q1, q2⟩ := c3; omega
    have l0 := hle (rP w a0)
    have hp0 := hc_lt c3'
    refine gX11_number_46 (lt := lt) (n := n) z.1 z h ?_
    intro w1 e1
    rw [hI_n c3', d48 c3, ep]
    rw [ep, nI_1] at e1
    have F1 : xF [9, 10] [] a0 w w1 := by rw [e1]; exact xF_sfi xF.rf (by decide)
    have g9 : hfi w1 a0 9 = nI (rP w a0 + 1) := by rw [e1, e_hfi_sfi, up2_at]
    have g10 : hfi w1 a0 10 = hfi w a0 10 := by rw [e1, e_hfi_sfi, up2_k _ _ _ (by decide)]
    have h1 : rS w1 a0 lt n := rS_at h (by rw [e1]; rfl) (by rw [e1, e_hfi_sfi, up2_k _ _ _ (by decide)]) g9 (by omega)
    have p1 := rP_v g9 (by omega)
    have hs := mS2.of F1.1
    have B : ∀ c v, num lt n (rP w a0) = (c, v) → c ≠ 0 → uNum x1 x2 lt n (rP w a0) (hfi w a0 10) = (nI v, rP w a0 + c, if vX10_isWithin (nI v) x1 x2 = 0 then nI (rP w a0) else hfi w a0 10) := fun c v q q0 => by unfold uNum; rw [if_neg c1, q, if_neg q0]
    refine gX11_number_68 (lt := lt) (n := n) ((zRef_s2 hs z).1) ((zRef_s2 hs z)) (fun _ _ => h1) ?_ ?_ ?_ ?_
    · intro d1
      exact absurd d1 (by decide)
    · intro d1 d2
      have h48 : hc lt n (rP w a0) = 48 := by
        have := (nI_eq (b := 0) (by omega) (by omega)).mp d2
        obtain ⟨q1, q2⟩ := c3
        omega
      have e : num lt n (rP w a0) = (1, 0) := by unfold num; rw [if_pos c3, if_pos h48]
      rw [B _ _ e (by decide), h48]
      have := number_tail (G := G) (lo := x1) (hi := x2) (x5 := 1) (v := 0) z F1 g9
      rw [g10] at this
      exact this
    · intro d1 d2 d3
      rw [hI_d hl, p1] at d3
      have h48 : ¬ hc lt n (rP w a0) = 48 := fun q => d2 (by rw [q]; rfl)
      have e : num lt n (rP w a0) = (1, hc lt n (rP w a0) - 48) := by unfold num; rw [if_pos c3, if_neg h48, if_neg d3]
      rw [B _ _ e (by decide)]
      have := number_tail (G := G) (lo := x1) (hi := x2) (x5 := 1) (v := hc lt n (rP w a0) - 48) z F1 g9
      rw [g10] at this
      exact this
    · intro d1 d2 d3 w2 e2
      rw [hI_d hl, p1, Decidable.not_not] at d3
      have d3' : hc lt n (rP w a0 + 1) ≠ 0 := by obtain ⟨q1, q2⟩ := d3; omega
      have h48 : ¬ hc lt n (rP w a0) = 48 := fun q => d2 (by rw [q]; rfl)
      rw [p1, hI_n d3']
      rw [g9, nI_1] at e2
      have F2 : xF [9, 10] [] a0 w w2 := by rw [e2]; exact xF_sfi F1 (by decide)
      have k9 : hfi w2 a0 9 = nI (rP w a0 + 2) := by rw [e2, e_hfi_sfi, up2_at]
      have k10 : hfi w2 a0 10 = hfi w a0 10 := by rw [e2, e_hfi_sfi, up2_k _ _ _ (by decide)]; exact g10
      have h2 : rS w2 a0 lt n := rS_at h1 (by rw [e2]; rfl) (by rw [e2, e_hfi_sfi, up2_k _ _ _ (by decide)]) k9 (by omega)
      have p2 := rP_v k9 (by omega)
      have ev : 10 * nI (hc lt n (rP w a0) - 48) + nI (hc lt n (rP w a0 + 1)) - 48 = nI ((hc lt n (rP w a0) - 48) * 10 + (hc lt n (rP w a0 + 1) - 48)) := by
        rw [show (10 : Int32) = nI 10 from rfl, pk_mul, nI_add, show (48 : Int32) = nI 48 from rfl, pk_sub (by obtain ⟨q1, q2⟩ := d3; omega)]
        congr 1
        obtain ⟨q1, q2⟩ := d3
        omega
      rw [ev]
      have l1 := hle (rP w a0 + 1)
      clear h1 hs
      have h1 := h2
      have hs := mS2.of F2.1
      refine gX11_number_68 (lt := lt) (n := n) ((zRef_s2 hs z).1) ((zRef_s2 hs z)) (fun _ _ => h1) ?_ ?_ ?_ ?_
      · intro d4
        exact absurd d4 (by decide)
      · intro d4 d5
        exfalso
        have := (nI_eq (b := 0) (by omega) (by omega)).mp d5
        obtain ⟨q1, q2⟩ := c3
        omega
      · intro d4 d5 d6
        rw [hI_d hl, p2] at d6
        have e : num lt n (rP w a0) = (2, (hc lt n (rP w a0) - 48) * 10 + (hc lt n (rP w a0 + 1) - 48)) := by unfold num; rw [if_pos c3, if_neg h48, if_pos d3, if_neg d6]
        rw [B _ _ e (by decide)]
        have := number_tail (G := G) (lo := x1) (hi := x2) (x5 := 1 + 1) (v := (hc lt n (rP w a0) - 48) * 10 + (hc lt n (rP w a0 + 1) - 48)) z F2 k9
        rw [k10] at this
        exact this
      · intro d4 d5 d6 w3 e3
        rw [hI_d hl, p2, Decidable.not_not] at d6
        have d6' : hc lt n (rP w a0 + 2) ≠ 0 := by obtain ⟨q1, q2⟩ := d6; omega
        rw [p2, hI_n d6']
        rw [k9, nI_1] at e3
        have F3 : xF [9, 10] [] a0 w w3 := by rw [e3]; exact xF_sfi F2 (by decide)
        have m9 : hfi w3 a0 9 = nI (rP w a0 + 3) := by rw [e3, e_hfi_sfi, up2_at]
        have m10 : hfi w3 a0 10 = hfi w a0 10 := by rw [e3, e_hfi_sfi, up2_k _ _ _ (by decide)]; exact k10
        have l2 := hle (rP w a0 + 2)
        have ev : 10 * nI ((hc lt n (rP w a0) - 48) * 10 + (hc lt n (rP w a0 + 1) - 48)) + nI (hc lt n (rP w a0 + 2)) - 48 = nI (((hc lt n (rP w a0) - 48) * 10 + (hc lt n (rP w a0 + 1) - 48)) * 10 + (hc lt n (rP w a0 + 2) - 48)) := by
          rw [show (10 : Int32) = nI 10 from rfl, pk_mul, nI_add, show (48 : Int32) = nI 48 from rfl, pk_sub (by obtain ⟨q1, q2⟩ := d6; omega)]
          congr 1
          obtain ⟨q1, q2⟩ := d6
          omega
        rw [ev]
        have e : num lt n (rP w a0) = (3, ((hc lt n (rP w a0) - 48) * 10 + (hc lt n (rP w a0 + 1) - 48)) * 10 + (hc lt n (rP w a0 + 2) - 48)) := by unfold num; rw [if_pos c3, if_neg h48, if_pos d3, if_pos d6]
        rw [B _ _ e (by decide)]
        have T := number_tail (G := G) (lo := x1) (hi := x2) (x5 := 1 + 1 + 1) (v := ((hc lt n (rP w a0) - 48) * 10 + (hc lt n (rP w a0 + 1) - 48)) * 10 + (hc lt n (rP w a0 + 2) - 48)) z F3 m9
        rw [m10] at T
        clear h1 hs
        have h1 : rS w3 a0 lt n := rS_at h2 (by rw [e3]; rfl) (by rw [e3, e_hfi_sfi, up2_k _ _ _ (by decide)]) m9 (by omega)
        have hs := mS2.of F3.1
        refine gX11_number_68 (lt := lt) (n := n) ((zRef_s2 hs z).1) ((zRef_s2 hs z)) (fun _ _ => h1) ?_ ?_ ?_ ?_
        · intro _
          exact T
        · intro d7
          exact absurd (by decide) d7
        · intro d7
          exact absurd (by decide) d7
        · intro d7
          exact absurd (by decide) d7
  · intro c1 _ c4
    exact absurd (Int32.not_le.mp c1) c4
  · intro c1 _ w1 e1 c5
    rw [e1, e_hfi_sfi, up2_at, ep] at c5
    exact absurd c5 (m_0le (by omega))
  · intro c1 c3 w1 e1 _
    rw [hI_d hl] at c3
    have e : num lt n (rP w a0) = (0, 0) := by unfold num; rw [if_neg c3]
    have e2 : uNum x1 x2 lt n (rP w a0) (hfi w a0 10) = (0, rP w a0, nI (rP w a0)) := by unfold uNum; rw [if_neg c1, e]; rfl
    rw [e2]
    exact mP_of ⟨by rw [e1]; exact xF_sfi xF.rf (by decide), by rw [e1, e_hfi_sfi, up2_k _ _ _ (by decide)]; exact ep, by rw [e1, e_hfi_sfi, up2_at]; exact ep⟩

