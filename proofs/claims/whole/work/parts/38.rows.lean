abbrev mX11_copies : mM := (yX11_copies, cX11_copies, 4, none, [])
set_option maxHeartbeats 4000000 in
set_option maxRecDepth 100000 in
theorem gX11_copies_0 {G : mG} {w : mH} {Φ : mF} {a0 : Nat} {x1 x2 : Int32}  (k1 : mW G mX11_copies 1 0 0 2 [(0, .ref a0), (1, .int x1), (2, .int x2), (3, .int 0)] [] w Φ) : mW G mX11_copies 1 0 0 0 [(0, .ref a0), (1, .int x1), (2, .int x2)] [] w Φ := by
  refine mW_iconst (v := 0) dX11_copies_0 (by decide) ?_
  refine mW_istore_n (lv2 := [(3, .int 0), (0, .ref a0), (1, .int x1), (2, .int x2)]) dX11_copies_1 rfl (by decide) rfl ?_
  refine mW_loc [1, 2, 3, 0] (lv2 := [(0, .ref a0), (1, .int x1), (2, .int x2), (3, .int 0)]) rfl ?_
  exact k1
set_option maxHeartbeats 4000000 in
set_option maxRecDepth 100000 in
theorem gX11_copies_2 {G : mG} {w : mH} {Φ : mF} {a0 : Nat} {x1 x2 x3 : Int32} {a0_1 n_a0_1 : Nat} (h1 : hk w a0 = (11, 0)) (h2 : hfr w a0 1 = some a0_1) (h3 : hk w a0_1 = (16, n_a0_1)) (s1 : (¬ (78 ≤ x3)) → vp_in ((78 * x1) + x3) n_a0_1) (s2 : (¬ (78 ≤ x3)) → vp_in ((78 * x2) + x3) n_a0_1) (k1 : (78 ≤ x3) → Φ (.inl none) w) (k2 : (¬ (78 ≤ x3)) → ∀ w1 : mH, (w1 = sai w a0_1 (((78 * x2) + x3).toNatClampNeg) (hai w a0_1 (((78 * x1) + x3).toNatClampNeg))) → mW G mX11_copies 1 0 0 2 [(0, .ref a0), (1, .int x1), (2, .int x2), (3, .int (x3 + 1))] [] w1 Φ) : mW G mX11_copies 1 0 0 2 [(0, .ref a0), (1, .int x1), (2, .int x2), (3, .int x3)] [] w Φ := by
  refine mW_iload_n (j := 3) dX11_copies_2 rfl rfl ?_
  refine mW_bipush (v := 78) dX11_copies_3 (by decide) ?_
  refine mW_icmp_ge (tgt := 36) dX11_copies_5 (by decide) (fun c1 => ?_) (fun c1 => ?_)
  · exact mW_vret dX11_copies_36 rfl (k1 c1)
  · refine mW_aload_n (j := 0) dX11_copies_8 rfl rfl ?_
    refine mW_getR dX11_copies_9 f_X11_13 h1 rfl h2 ?_
    refine mW_bipush (v := 78) dX11_copies_12 (by decide) ?_
    refine mW_iload_n (j := 2) dX11_copies_14 rfl rfl ?_
    refine mW_imul dX11_copies_15 ?_
    refine mW_iload_n (j := 3) dX11_copies_16 rfl rfl ?_
    refine mW_iadd dX11_copies_17 ?_
    refine mW_aload_n (j := 0) dX11_copies_18 rfl rfl ?_
    refine mW_getR dX11_copies_19 f_X11_13 h1 rfl h2 ?_
    refine mW_bipush (v := 78) dX11_copies_22 (by decide) ?_
    refine mW_iload_n (j := 1) dX11_copies_24 rfl rfl ?_
    refine mW_imul dX11_copies_25 ?_
    refine mW_iload_n (j := 3) dX11_copies_26 rfl rfl ?_
    refine mW_iadd dX11_copies_27 ?_
    refine mW_ialdJ dX11_copies_28 h3 (s1 c1) rfl ?_
    refine mW_iastJ dX11_copies_29 h3 (s2 c1) rfl ?_
    refine mW_nm (fun w1 e1 => ?_)
    refine mW_iinc (j := 3) (v := x3 + 1) (lv2 := [(3, .int (x3 + 1)), (0, .ref a0), (1, .int x1), (2, .int x2)]) dX11_copies_30 rfl rfl (by decide) rfl ?_
    refine mW_goto (tgt := 2) dX11_copies_33 (by decide) ?_
    refine mW_loc [1, 2, 3, 0] (lv2 := [(0, .ref a0), (1, .int x1), (2, .int x2), (3, .int (x3 + 1))]) rfl ?_
    exact k2 c1 w1 e1
/-! the rows of the reference -/
def cpK (A : Nat → Int32) (f t k : Nat) : Nat → Int32 := fun j => if 78 * t ≤ j ∧ j < 78 * t + k then A (78 * f + (j - 78 * t)) else A j
def cpR (A : Nat → Int32) (f t : Nat) : Nat → Int32 := cpK A f t 78
theorem cpK_s {A : Nat → Int32} {f t k : Nat} (hf : f ≤ 7) (ht : t ≤ 7) (hk : k < 78) : upd (cpK A f t k) (78 * t + k) (cpK A f t k (78 * f + k)) = cpK A f t (k + 1) := by
  funext j
  unfold upd
  by_cases h : j = 78 * t + k
  · rw [if_pos h]
    subst h
    have L : cpK A f t k (78 * f + k) = A (78 * f + k) := by
      unfold cpK
      by_cases e : f = t
      · subst e; rw [if_neg (by omega)]
      · rw [if_neg (by omega)]
    have R : cpK A f t (k + 1) (78 * t + k) = A (78 * f + k) := by
      unfold cpK
      rw [if_pos ⟨by omega, by omega⟩, show 78 * t + k - 78 * t = k by omega]
    rw [L, R]
  · rw [if_neg h]
    unfold cpK
    by_cases q : 78 * t ≤ j ∧ j < 78 * t + k
    · rw [if_pos q, if_pos ⟨q.1, by omega⟩]
    · rw [if_neg q, if_neg (by omega)]
theorem cpR_row {A : Nat → Int32} {f t r k : Nat} (hk : k < 78) : cpR A f t (78 * r + k) = if r = t then A (78 * f + k) else A (78 * r + k) := by
  unfold cpR cpK
  by_cases h : r = t
  · subst h
    rw [if_pos ⟨by omega, by omega⟩, if_pos rfl, show 78 * r + k - 78 * r = k by omega]
  · rw [if_neg (by omega), if_neg h]
theorem copies_loop {G : mG} {w0 : mH} {a0 f t : Nat} {Φ : mF} (z : zRef w0 a0) (hf : f ≤ 7) (ht : t ≤ 7) : ∀ j k w, k + j = 78 → xF [] [1] a0 w0 w → hai w (a0 + 1) = cpK (hai w0 (a0 + 1)) f t k →
    (∀ w', xF [] [1] a0 w0 w' → hai w' (a0 + 1) = cpR (hai w0 (a0 + 1)) f t → Φ (.inl none) w') → mW G mX11_copies 1 0 0 2 [(0, .ref a0), (1, .int (nI f)), (2, .int (nI t)), (3, .int (nI k))] [] w Φ := by
  intro j
  induction j with
  | zero =>
    intro k w hk F hA hΦ
    have hk' : k = 78 := by omega
    subst hk'
    have hs := mS2.of F.1
    refine gX11_copies_2 (a0_1 := a0 + 1) ((zRef_s2 hs z).1) ((zRef_s2 hs z).2.1) ((zRef_s2 hs z).2.2.2.2.2.2.2.2.2.2.2.2.2.2.2.2.2.2.2.2.2.2.1) (fun c1 => absurd (by decide) c1) (fun c1 => absurd (by decide) c1) ?_ ?_
    · intro _
      exact hΦ w F hA
    · intro c1
      exact absurd (by decide) c1
  | succ j ih =>
    intro k w hk F hA hΦ
    have hs := mS2.of F.1
    have e1 : (78 : Int32) * nI f + nI k = nI (78 * f + k) := by rw [show (78 : Int32) = nI 78 from rfl, pk_mul, nI_add]
    have e2 : (78 : Int32) * nI t + nI k = nI (78 * t + k) := by rw [show (78 : Int32) = nI 78 from rfl, pk_mul, nI_add]
    have c78 : (78 : Int32) ≤ nI k ↔ 78 ≤ k := m_le (a := 78) (by omega) (by omega)
    refine gX11_copies_2 (a0_1 := a0 + 1) ((zRef_s2 hs z).1) ((zRef_s2 hs z).2.1) ((zRef_s2 hs z).2.2.2.2.2.2.2.2.2.2.2.2.2.2.2.2.2.2.2.2.2.2.1) (fun c1 => by rw [e1]; exact m_vp (by rw [c78] at c1; omega) (by omega)) (fun c1 => by rw [e2]; exact m_vp (by rw [c78] at c1; omega) (by omega)) ?_ ?_
    · intro c1
      rw [c78] at c1
      omega
    · intro c1 w1 e
      rw [e1, e2, m_cl (by omega), m_cl (by omega)] at e
      rw [nI_1]
      refine ih (k + 1) w1 (by omega) (by rw [e]; exact xF_sai F (by decide)) ?_ hΦ
      rw [e, e_hai_sai, up2_row, hA]
      exact cpK_s hf ht (by omega)
theorem rX11_copies {G : mG} {w : mH} {a0 : Nat} {x1 x2 : Int32} (z : zRef w a0) (h1 : x1 = nI (nT x1)) (h2 : x2 = nI (nT x2)) (b1 : nT x1 ≤ 7) (b2 : nT x2 ≤ 7) : mC G mX11_copies 1 0 0 [.ref a0, .int x1, .int x2] w (mP none (fun w' => xF [] [1] a0 w w' ∧ hai w' (a0 + 1) = cpR (hai w (a0 + 1)) (nT x1) (nT x2))) := by
  refine mC_of (by decide +kernel) rfl (Nat.le_of_ble_eq_true rfl) rfl ?_
  refine gX11_copies_0 ?_
  generalize hf : nT x1 = f at *
  generalize ht : nT x2 = t at *
  subst h1
  subst h2
  refine copies_loop z b1 b2 78 0 w (by omega) xF.rf ?_ (fun w' F e => mP_of ⟨F, e⟩)
  funext j
  unfold cpK
  rw [if_neg (by omega)]

abbrev mX11_keeps : mM := (yX11_keeps, cX11_keeps, 2, none, [])
theorem u1565 : (Cond.fieldLink "LineFollowerBenchModel" 83 "LineFollowerBenchModel" "changes" "I" : Cond) ∈ mTs := mTs_in 1565 (by decide +kernel) (by decide +kernel)
theorem f_X11_83 : mFld "LineFollowerBenchModel" 83 11 5 := ⟨RX11, TX11, 36, "LineFollowerBenchModel", rfl, by decide, in_X11, u1565, Or.inl rfl, by decide⟩
theorem p_X11_83 : mPut "LineFollowerBenchModel" 83 11 5 (.int) false := ⟨RX11, TX11, 36, "LineFollowerBenchModel", tyX11, rfl, by decide, in_X11, u1565, Or.inl rfl, by decide, tyX11_ok, nmX11, by decide +kernel, rfl, fun h => by cases h⟩
theorem ob_11_5 (w : mH) (a : Nat) (v : Int32) : mOb (sfi w a 5 v) a 11 = (mOb w a 11).set 5 (.int v) := by simp [mOb, hfi_sfi, hfl_sfi, hfr_sfi, up2]
theorem u1685 : (Cond.code ⟨"LineFollowerBenchModel", "copies", "(II)V"⟩ prog_13_method_7_code 4 (none : Option ClassFile.FieldType) : Cond) ∈ mTs := mTs_in 1685 (by decide +kernel) (by decide +kernel)
theorem co_X11_copies : mCode mX11_copies := ⟨u1685, u85, by decide⟩
theorem u1682 : (Cond.methodLink "LineFollowerBenchModel" 86 ⟨"LineFollowerBenchModel", "copies", "(II)V"⟩ : Cond) ∈ mTs := mTs_in 1682 (by decide +kernel) (by decide +kernel)
theorem u1684 : (Cond.instanceMethod ⟨"LineFollowerBenchModel", "copies", "(II)V"⟩ : Cond) ∈ mTs := mTs_in 1684 (by decide +kernel) (by decide +kernel)
theorem u38 : (Cond.selects "LineFollowerBenchModel" ⟨"LineFollowerBenchModel", "copies", "(II)V"⟩ ⟨"LineFollowerBenchModel", "copies", "(II)V"⟩ : Cond) ∈ mTs := mTs_in 38 (by decide +kernel) (by decide +kernel)
theorem l_X11_86 : mLinkV "LineFollowerBenchModel" 86 2 mX11_copies := ⟨⟨by decide, by decide, by decide +kernel⟩, co_X11_copies, u1682, u1684, u38⟩
set_option maxHeartbeats 4000000 in
set_option maxRecDepth 100000 in
theorem gX11_keeps_0 {G : mG} {w : mH} {Φ : mF} {a0 : Nat} (h1 : hk w a0 = (11, 0)) (h2 : zRef w a0) (s1 : (¬ ((hfi w a0 5) = 6)) → ∀ w1 : mH, (w1 = sfi w a0 5 ((hfi w a0 5) + 1)) → 0 = nI (nT 0)) (s2 : (¬ ((hfi w a0 5) = 6)) → ∀ w1 : mH, (w1 = sfi w a0 5 ((hfi w a0 5) + 1)) → (hfi w1 a0 5) = nI (nT (hfi w1 a0 5))) (s3 : (¬ ((hfi w a0 5) = 6)) → ∀ w1 : mH, (w1 = sfi w a0 5 ((hfi w a0 5) + 1)) → nT 0 ≤ 7) (s4 : (¬ ((hfi w a0 5) = 6)) → ∀ w1 : mH, (w1 = sfi w a0 5 ((hfi w a0 5) + 1)) → nT (hfi w1 a0 5) ≤ 7) (s5 : ((hfi w a0 5) = 6) → 2 = nI (nT 2)) (s6 : ((hfi w a0 5) = 6) → 1 = nI (nT 1)) (s7 : ((hfi w a0 5) = 6) → nT 2 ≤ 7) (s8 : ((hfi w a0 5) = 6) → nT 1 ≤ 7) (s9 : ((hfi w a0 5) = 6) → ∀ w3 : mH, (xF [] [1] a0 w w3 ∧ hai w3 (a0 + 1) = cpR (hai w (a0 + 1)) (nT 2) (nT 1)) → 3 = nI (nT 3)) (s10 : ((hfi w a0 5) = 6) → ∀ w3 : mH, (xF [] [1] a0 w w3 ∧ hai w3 (a0 + 1) = cpR (hai w (a0 + 1)) (nT 2) (nT 1)) → nT 3 ≤ 7) (s11 : ((hfi w a0 5) = 6) → ∀ w3 : mH, (xF [] [1] a0 w w3 ∧ hai w3 (a0 + 1) = cpR (hai w (a0 + 1)) (nT 2) (nT 1)) → ∀ w4 : mH, (xF [] [1] a0 w3 w4 ∧ hai w4 (a0 + 1) = cpR (hai w3 (a0 + 1)) (nT 3) (nT 2)) → 4 = nI (nT 4)) (s12 : ((hfi w a0 5) = 6) → ∀ w3 : mH, (xF [] [1] a0 w w3 ∧ hai w3 (a0 + 1) = cpR (hai w (a0 + 1)) (nT 2) (nT 1)) → ∀ w4 : mH, (xF [] [1] a0 w3 w4 ∧ hai w4 (a0 + 1) = cpR (hai w3 (a0 + 1)) (nT 3) (nT 2)) → nT 4 ≤ 7) (s13 : ((hfi w a0 5) = 6) → ∀ w3 : mH, (xF [] [1] a0 w w3 ∧ hai w3 (a0 + 1) = cpR (hai w (a0 + 1)) (nT 2) (nT 1)) → ∀ w4 : mH, (xF [] [1] a0 w3 w4 ∧ hai w4 (a0 + 1) = cpR (hai w3 (a0 + 1)) (nT 3) (nT 2)) → ∀ w5 : mH, (xF [] [1] a0 w4 w5 ∧ hai w5 (a0 + 1) = cpR (hai w4 (a0 + 1)) (nT 4) (nT 3)) → 5 = nI (nT 5)) (s14 : ((hfi w a0 5) = 6) → ∀ w3 : mH, (xF [] [1] a0 w w3 ∧ hai w3 (a0 + 1) = cpR (hai w (a0 + 1)) (nT 2) (nT 1)) → ∀ w4 : mH, (xF [] [1] a0 w3 w4 ∧ hai w4 (a0 + 1) = cpR (hai w3 (a0 + 1)) (nT 3) (nT 2)) → ∀ w5 : mH, (xF [] [1] a0 w4 w5 ∧ hai w5 (a0 + 1) = cpR (hai w4 (a0 + 1)) (nT 4) (nT 3)) → nT 5 ≤ 7) (s15 : ((hfi w a0 5) = 6) → ∀ w3 : mH, (xF [] [1] a0 w w3 ∧ hai w3 (a0 + 1) = cpR (hai w (a0 + 1)) (nT 2) (nT 1)) → ∀ w4 : mH, (xF [] [1] a0 w3 w4 ∧ hai w4 (a0 + 1) = cpR (hai w3 (a0 + 1)) (nT 3) (nT 2)) → ∀ w5 : mH, (xF [] [1] a0 w4 w5 ∧ hai w5 (a0 + 1) = cpR (hai w4 (a0 + 1)) (nT 4) (nT 3)) → ∀ w6 : mH, (xF [] [1] a0 w5 w6 ∧ hai w6 (a0 + 1) = cpR (hai w5 (a0 + 1)) (nT 5) (nT 4)) → 6 = nI (nT 6)) (s16 : ((hfi w a0 5) = 6) → ∀ w3 : mH, (xF [] [1] a0 w w3 ∧ hai w3 (a0 + 1) = cpR (hai w (a0 + 1)) (nT 2) (nT 1)) → ∀ w4 : mH, (xF [] [1] a0 w3 w4 ∧ hai w4 (a0 + 1) = cpR (hai w3 (a0 + 1)) (nT 3) (nT 2)) → ∀ w5 : mH, (xF [] [1] a0 w4 w5 ∧ hai w5 (a0 + 1) = cpR (hai w4 (a0 + 1)) (nT 4) (nT 3)) → ∀ w6 : mH, (xF [] [1] a0 w5 w6 ∧ hai w6 (a0 + 1) = cpR (hai w5 (a0 + 1)) (nT 5) (nT 4)) → nT 6 ≤ 7) (s17 : ((hfi w a0 5) = 6) → ∀ w3 : mH, (xF [] [1] a0 w w3 ∧ hai w3 (a0 + 1) = cpR (hai w (a0 + 1)) (nT 2) (nT 1)) → ∀ w4 : mH, (xF [] [1] a0 w3 w4 ∧ hai w4 (a0 + 1) = cpR (hai w3 (a0 + 1)) (nT 3) (nT 2)) → ∀ w5 : mH, (xF [] [1] a0 w4 w5 ∧ hai w5 (a0 + 1) = cpR (hai w4 (a0 + 1)) (nT 4) (nT 3)) → ∀ w6 : mH, (xF [] [1] a0 w5 w6 ∧ hai w6 (a0 + 1) = cpR (hai w5 (a0 + 1)) (nT 5) (nT 4)) → ∀ w7 : mH, (xF [] [1] a0 w6 w7 ∧ hai w7 (a0 + 1) = cpR (hai w6 (a0 + 1)) (nT 6) (nT 5)) → ∀ w8 : mH, (w8 = sfi w7 a0 5 ((hfi w7 a0 5) - 1)) → ∀ w9 : mH, (w9 = sfi w8 a0 5 ((hfi w8 a0 5) + 1)) → 0 = nI (nT 0)) (s18 : ((hfi w a0 5) = 6) → ∀ w3 : mH, (xF [] [1] a0 w w3 ∧ hai w3 (a0 + 1) = cpR (hai w (a0 + 1)) (nT 2) (nT 1)) → ∀ w4 : mH, (xF [] [1] a0 w3 w4 ∧ hai w4 (a0 + 1) = cpR (hai w3 (a0 + 1)) (nT 3) (nT 2)) → ∀ w5 : mH, (xF [] [1] a0 w4 w5 ∧ hai w5 (a0 + 1) = cpR (hai w4 (a0 + 1)) (nT 4) (nT 3)) → ∀ w6 : mH, (xF [] [1] a0 w5 w6 ∧ hai w6 (a0 + 1) = cpR (hai w5 (a0 + 1)) (nT 5) (nT 4)) → ∀ w7 : mH, (xF [] [1] a0 w6 w7 ∧ hai w7 (a0 + 1) = cpR (hai w6 (a0 + 1)) (nT 6) (nT 5)) → ∀ w8 : mH, (w8 = sfi w7 a0 5 ((hfi w7 a0 5) - 1)) → ∀ w9 : mH, (w9 = sfi w8 a0 5 ((hfi w8 a0 5) + 1)) → (hfi w9 a0 5) = nI (nT (hfi w9 a0 5))) (s19 : ((hfi w a0 5) = 6) → ∀ w3 : mH, (xF [] [1] a0 w w3 ∧ hai w3 (a0 + 1) = cpR (hai w (a0 + 1)) (nT 2) (nT 1)) → ∀ w4 : mH, (xF [] [1] a0 w3 w4 ∧ hai w4 (a0 + 1) = cpR (hai w3 (a0 + 1)) (nT 3) (nT 2)) → ∀ w5 : mH, (xF [] [1] a0 w4 w5 ∧ hai w5 (a0 + 1) = cpR (hai w4 (a0 + 1)) (nT 4) (nT 3)) → ∀ w6 : mH, (xF [] [1] a0 w5 w6 ∧ hai w6 (a0 + 1) = cpR (hai w5 (a0 + 1)) (nT 5) (nT 4)) → ∀ w7 : mH, (xF [] [1] a0 w6 w7 ∧ hai w7 (a0 + 1) = cpR (hai w6 (a0 + 1)) (nT 6) (nT 5)) → ∀ w8 : mH, (w8 = sfi w7 a0 5 ((hfi w7 a0 5) - 1)) → ∀ w9 : mH, (w9 = sfi w8 a0 5 ((hfi w8 a0 5) + 1)) → nT 0 ≤ 7) (s20 : ((hfi w a0 5) = 6) → ∀ w3 : mH, (xF [] [1] a0 w w3 ∧ hai w3 (a0 + 1) = cpR (hai w (a0 + 1)) (nT 2) (nT 1)) → ∀ w4 : mH, (xF [] [1] a0 w3 w4 ∧ hai w4 (a0 + 1) = cpR (hai w3 (a0 + 1)) (nT 3) (nT 2)) → ∀ w5 : mH, (xF [] [1] a0 w4 w5 ∧ hai w5 (a0 + 1) = cpR (hai w4 (a0 + 1)) (nT 4) (nT 3)) → ∀ w6 : mH, (xF [] [1] a0 w5 w6 ∧ hai w6 (a0 + 1) = cpR (hai w5 (a0 + 1)) (nT 5) (nT 4)) → ∀ w7 : mH, (xF [] [1] a0 w6 w7 ∧ hai w7 (a0 + 1) = cpR (hai w6 (a0 + 1)) (nT 6) (nT 5)) → ∀ w8 : mH, (w8 = sfi w7 a0 5 ((hfi w7 a0 5) - 1)) → ∀ w9 : mH, (w9 = sfi w8 a0 5 ((hfi w8 a0 5) + 1)) → nT (hfi w9 a0 5) ≤ 7) (k1 : (¬ ((hfi w a0 5) = 6)) → ∀ w1 : mH, (w1 = sfi w a0 5 ((hfi w a0 5) + 1)) → ∀ w2 : mH, (xF [] [1] a0 w1 w2 ∧ hai w2 (a0 + 1) = cpR (hai w1 (a0 + 1)) (nT 0) (nT (hfi w1 a0 5))) → Φ (.inl none) w2) (k2 : ((hfi w a0 5) = 6) → ∀ w3 : mH, (xF [] [1] a0 w w3 ∧ hai w3 (a0 + 1) = cpR (hai w (a0 + 1)) (nT 2) (nT 1)) → ∀ w4 : mH, (xF [] [1] a0 w3 w4 ∧ hai w4 (a0 + 1) = cpR (hai w3 (a0 + 1)) (nT 3) (nT 2)) → ∀ w5 : mH, (xF [] [1] a0 w4 w5 ∧ hai w5 (a0 + 1) = cpR (hai w4 (a0 + 1)) (nT 4) (nT 3)) → ∀ w6 : mH, (xF [] [1] a0 w5 w6 ∧ hai w6 (a0 + 1) = cpR (hai w5 (a0 + 1)) (nT 5) (nT 4)) → ∀ w7 : mH, (xF [] [1] a0 w6 w7 ∧ hai w7 (a0 + 1) = cpR (hai w6 (a0 + 1)) (nT 6) (nT 5)) → ∀ w8 : mH, (w8 = sfi w7 a0 5 ((hfi w7 a0 5) - 1)) → ∀ w9 : mH, (w9 = sfi w8 a0 5 ((hfi w8 a0 5) + 1)) → ∀ w10 : mH, (xF [] [1] a0 w9 w10 ∧ hai w10 (a0 + 1) = cpR (hai w9 (a0 + 1)) (nT 0) (nT (hfi w9 a0 5))) → Φ (.inl none) w10) : mW G mX11_keeps 2 0 0 0 [(0, .ref a0)] [] w Φ := by
  refine mW_aload_n (j := 0) dX11_keeps_0 rfl rfl ?_
  refine mW_get dX11_keeps_1 f_X11_83 h1 rfl ?_
  refine mW_bipush (v := 6) dX11_keeps_4 (by decide) ?_
  refine mW_icmp_ne (tgt := 41) dX11_keeps_6 (by decide) (fun c1 => ?_) (fun c1 => ?_)
  · refine mW_aload_n (j := 0) dX11_keeps_41 rfl rfl ?_
    refine mW_dup dX11_keeps_42 rfl ?_
    refine mW_get dX11_keeps_43 f_X11_83 h1 rfl ?_
    refine mW_iconst (v := 1) dX11_keeps_46 (by decide) ?_
    refine mW_iadd dX11_keeps_47 ?_
    refine mW_put (ty := .int) (w2 := sfi w a0 5 ((hfi w a0 5) + 1)) dX11_keeps_48 p_X11_83 h1 (Nat.le_of_ble_eq_true rfl) (by first | rfl | decide | (repeat' split) <;> rfl) rfl (hN_sfi _ _ _ _) (hk_sfi _ _ _ _) (mE_sfi h1 (by decide) (ob_11_5 _ _ _)) ?_
    refine mW_nm (fun w1 e1 => ?_)
    refine mW_aload_n (j := 0) dX11_keeps_51 rfl rfl ?_
    refine mW_iconst (v := 0) dX11_keeps_52 (by decide) ?_
    refine mW_aload_n (j := 0) dX11_keeps_53 rfl rfl ?_
    refine mW_get dX11_keeps_54 f_X11_83 (s2k (S2_sfi e1) h1) rfl ?_
    refine mW_callV (As := [.int 0, .int (hfi w1 a0 5)]) (rest := []) (kc2 := 0) (ks2 := 0) dX11_keeps_57 l_X11_86 rfl (s2k (S2_sfi e1) h1) rfl (by decide) (rX11_copies (w := w1) (a0 := a0) (x1 := 0) (x2 := hfi w1 a0 5) (zRef_s2 (S2_sfi e1) h2) (s1 c1 w1 e1) (s2 c1 w1 e1) (s3 c1 w1 e1) (s4 c1 w1 e1)) (Nat.le_of_ble_eq_true rfl) (by decide) rfl rfl mP_x (mP_k (fun w2 q1 => ?_))
    exact mW_vret dX11_keeps_60 rfl (k1 c1 w1 e1 w2 q1)
  · refine mW_iconst (v := 1) dX11_keeps_9 (by decide) ?_
    refine mW_istore_n (lv2 := [(1, .int 1), (0, .ref a0)]) dX11_keeps_10 rfl (by decide) rfl ?_
    refine mW_iload_n (j := 0) dX11_keeps_11 rfl rfl ?_
    refine mW_bipush (v := 6) dX11_keeps_12 (by decide) ?_
    refine mW_icmp_ge (tgt := 31) dX11_keeps_14 (by decide) (fun c => absurd c (by decide)) (fun _ => ?_)
    refine mW_aload_n (j := 1) dX11_keeps_17 rfl rfl ?_
    refine mW_iload_n (j := 0) dX11_keeps_18 rfl rfl ?_
    refine mW_iconst (v := 1) dX11_keeps_19 (by decide) ?_
    refine mW_iaddL (v := 2) dX11_keeps_20 (by decide) ?_
    refine mW_iload_n (j := 0) dX11_keeps_21 rfl rfl ?_
    refine mW_callV (As := [.int 2, .int 1]) (rest := []) (kc2 := 0) (ks2 := 0) dX11_keeps_22 l_X11_86 rfl h1 rfl (by decide) (rX11_copies (w := w) (a0 := a0) (x1 := 2) (x2 := 1) h2 (s5 c1) (s6 c1) (s7 c1) (s8 c1)) (Nat.le_of_ble_eq_true rfl) (by decide) rfl rfl mP_x (mP_k (fun w3 q2 => ?_))
    refine mW_iinc (j := 0) (v := 2) (lv2 := [(1, .int 2), (0, .ref a0)]) dX11_keeps_25 rfl (by decide) (by decide) rfl ?_
    refine mW_goto (tgt := 11) dX11_keeps_28 (by decide) ?_
    refine mW_iload_n (j := 0) dX11_keeps_11 rfl rfl ?_
    refine mW_bipush (v := 6) dX11_keeps_12 (by decide) ?_
    refine mW_icmp_ge (tgt := 31) dX11_keeps_14 (by decide) (fun c => absurd c (by decide)) (fun _ => ?_)
    refine mW_aload_n (j := 1) dX11_keeps_17 rfl rfl ?_
    refine mW_iload_n (j := 0) dX11_keeps_18 rfl rfl ?_
    refine mW_iconst (v := 1) dX11_keeps_19 (by decide) ?_
    refine mW_iaddL (v := 3) dX11_keeps_20 (by decide) ?_
    refine mW_iload_n (j := 0) dX11_keeps_21 rfl rfl ?_
    refine mW_callV (As := [.int 3, .int 2]) (rest := []) (kc2 := 0) (ks2 := 0) dX11_keeps_22 l_X11_86 rfl (s2k (mS2.of q2.1.1) h1) rfl (by decide) (rX11_copies (w := w3) (a0 := a0) (x1 := 3) (x2 := 2) (zRef_s2 (mS2.of q2.1.1) h2) (s9 c1 w3 q2) (s5 c1) (s10 c1 w3 q2) (s7 c1)) (Nat.le_of_ble_eq_true rfl) (by decide) rfl rfl mP_x (mP_k (fun w4 q3 => ?_))
    refine mW_iinc (j := 0) (v := 3) (lv2 := [(1, .int 3), (0, .ref a0)]) dX11_keeps_25 rfl (by decide) (by decide) rfl ?_
    refine mW_goto (tgt := 11) dX11_keeps_28 (by decide) ?_
    refine mW_iload_n (j := 0) dX11_keeps_11 rfl rfl ?_
    refine mW_bipush (v := 6) dX11_keeps_12 (by decide) ?_
    refine mW_icmp_ge (tgt := 31) dX11_keeps_14 (by decide) (fun c => absurd c (by decide)) (fun _ => ?_)
    refine mW_aload_n (j := 1) dX11_keeps_17 rfl rfl ?_
    refine mW_iload_n (j := 0) dX11_keeps_18 rfl rfl ?_
    refine mW_iconst (v := 1) dX11_keeps_19 (by decide) ?_
    refine mW_iaddL (v := 4) dX11_keeps_20 (by decide) ?_
    refine mW_iload_n (j := 0) dX11_keeps_21 rfl rfl ?_
    refine mW_callV (As := [.int 4, .int 3]) (rest := []) (kc2 := 0) (ks2 := 0) dX11_keeps_22 l_X11_86 rfl (s2k (mS2.of q3.1.1) (s2k (mS2.of q2.1.1) h1)) rfl (by decide) (rX11_copies (w := w4) (a0 := a0) (x1 := 4) (x2 := 3) (zRef_s2 (mS2.of q3.1.1) (zRef_s2 (mS2.of q2.1.1) h2)) (s11 c1 w3 q2 w4 q3) (s9 c1 w3 q2) (s12 c1 w3 q2 w4 q3) (s10 c1 w3 q2)) (Nat.le_of_ble_eq_true rfl) (by decide) rfl rfl mP_x (mP_k (fun w5 q4 => ?_))
    refine mW_iinc (j := 0) (v := 4) (lv2 := [(1, .int 4), (0, .ref a0)]) dX11_keeps_25 rfl (by decide) (by decide) rfl ?_
    refine mW_goto (tgt := 11) dX11_keeps_28 (by decide) ?_
    refine mW_iload_n (j := 0) dX11_keeps_11 rfl rfl ?_
    refine mW_bipush (v := 6) dX11_keeps_12 (by decide) ?_
    refine mW_icmp_ge (tgt := 31) dX11_keeps_14 (by decide) (fun c => absurd c (by decide)) (fun _ => ?_)
    refine mW_aload_n (j := 1) dX11_keeps_17 rfl rfl ?_
    refine mW_iload_n (j := 0) dX11_keeps_18 rfl rfl ?_
    refine mW_iconst (v := 1) dX11_keeps_19 (by decide) ?_
    refine mW_iaddL (v := 5) dX11_keeps_20 (by decide) ?_
    refine mW_iload_n (j := 0) dX11_keeps_21 rfl rfl ?_
    refine mW_callV (As := [.int 5, .int 4]) (rest := []) (kc2 := 0) (ks2 := 0) dX11_keeps_22 l_X11_86 rfl (s2k (mS2.of q4.1.1) (s2k (mS2.of q3.1.1) (s2k (mS2.of q2.1.1) h1))) rfl (by decide) (rX11_copies (w := w5) (a0 := a0) (x1 := 5) (x2 := 4) (zRef_s2 (mS2.of q4.1.1) (zRef_s2 (mS2.of q3.1.1) (zRef_s2 (mS2.of q2.1.1) h2))) (s13 c1 w3 q2 w4 q3 w5 q4) (s11 c1 w3 q2 w4 q3) (s14 c1 w3 q2 w4 q3 w5 q4) (s12 c1 w3 q2 w4 q3)) (Nat.le_of_ble_eq_true rfl) (by decide) rfl rfl mP_x (mP_k (fun w6 q5 => ?_))
    refine mW_iinc (j := 0) (v := 5) (lv2 := [(1, .int 5), (0, .ref a0)]) dX11_keeps_25 rfl (by decide) (by decide) rfl ?_
    refine mW_goto (tgt := 11) dX11_keeps_28 (by decide) ?_
    refine mW_iload_n (j := 0) dX11_keeps_11 rfl rfl ?_
    refine mW_bipush (v := 6) dX11_keeps_12 (by decide) ?_
    refine mW_icmp_ge (tgt := 31) dX11_keeps_14 (by decide) (fun c => absurd c (by decide)) (fun _ => ?_)
    refine mW_aload_n (j := 1) dX11_keeps_17 rfl rfl ?_
    refine mW_iload_n (j := 0) dX11_keeps_18 rfl rfl ?_
    refine mW_iconst (v := 1) dX11_keeps_19 (by decide) ?_
    refine mW_iaddL (v := 6) dX11_keeps_20 (by decide) ?_
    refine mW_iload_n (j := 0) dX11_keeps_21 rfl rfl ?_
    refine mW_callV (As := [.int 6, .int 5]) (rest := []) (kc2 := 0) (ks2 := 0) dX11_keeps_22 l_X11_86 rfl (s2k (mS2.of q5.1.1) (s2k (mS2.of q4.1.1) (s2k (mS2.of q3.1.1) (s2k (mS2.of q2.1.1) h1)))) rfl (by decide) (rX11_copies (w := w6) (a0 := a0) (x1 := 6) (x2 := 5) (zRef_s2 (mS2.of q5.1.1) (zRef_s2 (mS2.of q4.1.1) (zRef_s2 (mS2.of q3.1.1) (zRef_s2 (mS2.of q2.1.1) h2)))) (s15 c1 w3 q2 w4 q3 w5 q4 w6 q5) (s13 c1 w3 q2 w4 q3 w5 q4) (s16 c1 w3 q2 w4 q3 w5 q4 w6 q5) (s14 c1 w3 q2 w4 q3 w5 q4)) (Nat.le_of_ble_eq_true rfl) (by decide) rfl rfl mP_x (mP_k (fun w7 q6 => ?_))
    refine mW_iinc (j := 0) (v := 6) (lv2 := [(1, .int 6), (0, .ref a0)]) dX11_keeps_25 rfl (by decide) (by decide) rfl ?_
    refine mW_goto (tgt := 11) dX11_keeps_28 (by decide) ?_
    refine mW_iload_n (j := 0) dX11_keeps_11 rfl rfl ?_
    refine mW_bipush (v := 6) dX11_keeps_12 (by decide) ?_
    refine mW_icmp_ge (tgt := 31) dX11_keeps_14 (by decide) (fun _ => ?_) (fun c => absurd (by decide) c)
    refine mW_aload_n (j := 1) dX11_keeps_31 rfl rfl ?_
    refine mW_dup dX11_keeps_32 rfl ?_
    refine mW_get dX11_keeps_33 f_X11_83 (s2k (mS2.of q6.1.1) (s2k (mS2.of q5.1.1) (s2k (mS2.of q4.1.1) (s2k (mS2.of q3.1.1) (s2k (mS2.of q2.1.1) h1))))) rfl ?_
    refine mW_iconst (v := 1) dX11_keeps_36 (by decide) ?_
    refine mW_isub dX11_keeps_37 ?_
    refine mW_put (ty := .int) (w2 := sfi w7 a0 5 ((hfi w7 a0 5) - 1)) dX11_keeps_38 p_X11_83 (s2k (mS2.of q6.1.1) (s2k (mS2.of q5.1.1) (s2k (mS2.of q4.1.1) (s2k (mS2.of q3.1.1) (s2k (mS2.of q2.1.1) h1))))) (Nat.le_of_ble_eq_true rfl) (by first | rfl | decide | (repeat' split) <;> rfl) rfl (hN_sfi _ _ _ _) (hk_sfi _ _ _ _) (mE_sfi (s2k (mS2.of q6.1.1) (s2k (mS2.of q5.1.1) (s2k (mS2.of q4.1.1) (s2k (mS2.of q3.1.1) (s2k (mS2.of q2.1.1) h1))))) (by decide) (ob_11_5 _ _ _)) ?_
    refine mW_nm (fun w8 e2 => ?_)
    refine mW_aload_n (j := 1) dX11_keeps_41 rfl rfl ?_
    refine mW_dup dX11_keeps_42 rfl ?_
    refine mW_get dX11_keeps_43 f_X11_83 (s2k (S2_sfi e2) (s2k (mS2.of q6.1.1) (s2k (mS2.of q5.1.1) (s2k (mS2.of q4.1.1) (s2k (mS2.of q3.1.1) (s2k (mS2.of q2.1.1) h1)))))) rfl ?_
    refine mW_iconst (v := 1) dX11_keeps_46 (by decide) ?_
    refine mW_iadd dX11_keeps_47 ?_
    refine mW_put (ty := .int) (w2 := sfi w8 a0 5 ((hfi w8 a0 5) + 1)) dX11_keeps_48 p_X11_83 (s2k (S2_sfi e2) (s2k (mS2.of q6.1.1) (s2k (mS2.of q5.1.1) (s2k (mS2.of q4.1.1) (s2k (mS2.of q3.1.1) (s2k (mS2.of q2.1.1) h1)))))) (Nat.le_of_ble_eq_true rfl) (by first | rfl | decide | (repeat' split) <;> rfl) rfl (hN_sfi _ _ _ _) (hk_sfi _ _ _ _) (mE_sfi (s2k (S2_sfi e2) (s2k (mS2.of q6.1.1) (s2k (mS2.of q5.1.1) (s2k (mS2.of q4.1.1) (s2k (mS2.of q3.1.1) (s2k (mS2.of q2.1.1) h1)))))) (by decide) (ob_11_5 _ _ _)) ?_
    refine mW_nm (fun w9 e3 => ?_)
    refine mW_aload_n (j := 1) dX11_keeps_51 rfl rfl ?_
    refine mW_iconst (v := 0) dX11_keeps_52 (by decide) ?_
    refine mW_aload_n (j := 1) dX11_keeps_53 rfl rfl ?_
    refine mW_get dX11_keeps_54 f_X11_83 (s2k (S2_sfi e3) (s2k (S2_sfi e2) (s2k (mS2.of q6.1.1) (s2k (mS2.of q5.1.1) (s2k (mS2.of q4.1.1) (s2k (mS2.of q3.1.1) (s2k (mS2.of q2.1.1) h1))))))) rfl ?_
    refine mW_callV (As := [.int 0, .int (hfi w9 a0 5)]) (rest := []) (kc2 := 0) (ks2 := 0) dX11_keeps_57 l_X11_86 rfl (s2k (S2_sfi e3) (s2k (S2_sfi e2) (s2k (mS2.of q6.1.1) (s2k (mS2.of q5.1.1) (s2k (mS2.of q4.1.1) (s2k (mS2.of q3.1.1) (s2k (mS2.of q2.1.1) h1))))))) rfl (by decide) (rX11_copies (w := w9) (a0 := a0) (x1 := 0) (x2 := hfi w9 a0 5) (zRef_s2 (S2_sfi e3) (zRef_s2 (S2_sfi e2) (zRef_s2 (mS2.of q6.1.1) (zRef_s2 (mS2.of q5.1.1) (zRef_s2 (mS2.of q4.1.1) (zRef_s2 (mS2.of q3.1.1) (zRef_s2 (mS2.of q2.1.1) h2))))))) (s17 c1 w3 q2 w4 q3 w5 q4 w6 q5 w7 q6 w8 e2 w9 e3) (s18 c1 w3 q2 w4 q3 w5 q4 w6 q5 w7 q6 w8 e2 w9 e3) (s19 c1 w3 q2 w4 q3 w5 q4 w6 q5 w7 q6 w8 e2 w9 e3) (s20 c1 w3 q2 w4 q3 w5 q4 w6 q5 w7 q6 w8 e2 w9 e3)) (Nat.le_of_ble_eq_true rfl) (by decide) rfl rfl mP_x (mP_k (fun w10 q7 => ?_))
    exact mW_vret dX11_keeps_60 rfl (k2 c1 w3 q2 w4 q3 w5 q4 w6 q5 w7 q6 w8 e2 w9 e3 w10 q7)
/-- row r of the reference's table -/
def rwR (w : mH) (a r : Nat) : Nat → Int32 := fun k => hai w (a + 1) (78 * r + k)
/-- what keeps leaves: c changes were kept ahead -/
def kpO (w w' : mH) (a c : Nat) : Prop := xF [5] [1] a w w' ∧ hfi w' a 5 = nI (min (c + 1) 6) ∧ (∀ k, k < 78 → rwR w' a 0 k = rwR w a 0 k) ∧ (∀ k, k < 78 → rwR w' a 7 k = rwR w a 7 k) ∧ ∀ i, i < min (c + 1) 6 → ∀ k, k < 78 → rwR w' a (i + 1) k = hPush (fun i => rwR w a (i + 1)) c (rwR w a 0) i k
theorem rX11_keeps {G : mG} {w : mH} {a0 c : Nat} (z : zRef w a0) (h5 : hfi w a0 5 = nI c) (hc : c ≤ 6) : mC G mX11_keeps 2 0 0 [.ref a0] w (mP none (fun w' => kpO w w' a0 c)) := by
  have h6 : hfi w a0 5 = 6 ↔ c = 6 := by rw [h5]; exact nI_eq (b := 6) (by omega) (by decide)
  refine mC_of (by decide +kernel) rfl (Nat.le_of_ble_eq_true rfl) rfl ?_
  refine gX11_keeps_0 z.1 z (by intro c1 w1 e1; have g5 : hfi w1 a0 5 = nI (c + 1) := (by rw [e1, e_hfi_sfi, up2_at, h5, nI_1]); have b_w1 : nT (hfi w1 a0 5) ≤ 7 := (by unfold nT; rw [g5, m_cl (by omega)]; omega); have g_w1 : hfi w1 a0 5 = nI (nT (hfi w1 a0 5)) := (by unfold nT; rw [g5, m_cl (by omega)]); rfl) (by intro c1 w1 e1; have g5 : hfi w1 a0 5 = nI (c + 1) := (by rw [e1, e_hfi_sfi, up2_at, h5, nI_1]); have b_w1 : nT (hfi w1 a0 5) ≤ 7 := (by unfold nT; rw [g5, m_cl (by omega)]; omega); have g_w1 : hfi w1 a0 5 = nI (nT (hfi w1 a0 5)) := (by unfold nT; rw [g5, m_cl (by omega)]); exact g_w1) (by intro c1 w1 e1; have g5 : hfi w1 a0 5 = nI (c + 1) := (by rw [e1, e_hfi_sfi, up2_at, h5, nI_1]); have b_w1 : nT (hfi w1 a0 5) ≤ 7 := (by unfold nT; rw [g5, m_cl (by omega)]; omega); have g_w1 : hfi w1 a0 5 = nI (nT (hfi w1 a0 5)) := (by unfold nT; rw [g5, m_cl (by omega)]); decide) (by intro c1 w1 e1; have g5 : hfi w1 a0 5 = nI (c + 1) := (by rw [e1, e_hfi_sfi, up2_at, h5, nI_1]); have b_w1 : nT (hfi w1 a0 5) ≤ 7 := (by unfold nT; rw [g5, m_cl (by omega)]; omega); have g_w1 : hfi w1 a0 5 = nI (nT (hfi w1 a0 5)) := (by unfold nT; rw [g5, m_cl (by omega)]); exact b_w1) (by intro c1; rfl) (by intro c1; rfl) (by intro c1; decide) (by intro c1; decide) (by intro c1 w3 q2; rfl) (by intro c1 w3 q2; decide) (by intro c1 w3 q2 w4 q3; rfl) (by intro c1 w3 q2 w4 q3; decide) (by intro c1 w3 q2 w4 q3 w5 q4; rfl) (by intro c1 w3 q2 w4 q3 w5 q4; decide) (by intro c1 w3 q2 w4 q3 w5 q4 w6 q5; rfl) (by intro c1 w3 q2 w4 q3 w5 q4 w6 q5; decide) (by intro c1 w3 q2 w4 q3 w5 q4 w6 q5 w7 q6 w8 e2 w9 e3; have g7 : hfi w7 a0 5 = 6 := (by rw [q6.1.fi (by decide), q5.1.fi (by decide), q4.1.fi (by decide), q3.1.fi (by decide), q2.1.fi (by decide), c1]); have g5 : hfi w9 a0 5 = 6 := (by rw [e3, e_hfi_sfi, up2_at, e2, e_hfi_sfi, up2_at, g7]; rfl); have b_w9 : nT (hfi w9 a0 5) ≤ 7 := (by unfold nT; rw [g5]; decide); have g_w9 : hfi w9 a0 5 = nI (nT (hfi w9 a0 5)) := (by unfold nT; rw [g5]; rfl); rfl) (by intro c1 w3 q2 w4 q3 w5 q4 w6 q5 w7 q6 w8 e2 w9 e3; have g7 : hfi w7 a0 5 = 6 := (by rw [q6.1.fi (by decide), q5.1.fi (by decide), q4.1.fi (by decide), q3.1.fi (by decide), q2.1.fi (by decide), c1]); have g5 : hfi w9 a0 5 = 6 := (by rw [e3, e_hfi_sfi, up2_at, e2, e_hfi_sfi, up2_at, g7]; rfl); have b_w9 : nT (hfi w9 a0 5) ≤ 7 := (by unfold nT; rw [g5]; decide); have g_w9 : hfi w9 a0 5 = nI (nT (hfi w9 a0 5)) := (by unfold nT; rw [g5]; rfl); exact g_w9) (by intro c1 w3 q2 w4 q3 w5 q4 w6 q5 w7 q6 w8 e2 w9 e3; have g7 : hfi w7 a0 5 = 6 := (by rw [q6.1.fi (by decide), q5.1.fi (by decide), q4.1.fi (by decide), q3.1.fi (by decide), q2.1.fi (by decide), c1]); have g5 : hfi w9 a0 5 = 6 := (by rw [e3, e_hfi_sfi, up2_at, e2, e_hfi_sfi, up2_at, g7]; rfl); have b_w9 : nT (hfi w9 a0 5) ≤ 7 := (by unfold nT; rw [g5]; decide); have g_w9 : hfi w9 a0 5 = nI (nT (hfi w9 a0 5)) := (by unfold nT; rw [g5]; rfl); decide) (by intro c1 w3 q2 w4 q3 w5 q4 w6 q5 w7 q6 w8 e2 w9 e3; have g7 : hfi w7 a0 5 = 6 := (by rw [q6.1.fi (by decide), q5.1.fi (by decide), q4.1.fi (by decide), q3.1.fi (by decide), q2.1.fi (by decide), c1]); have g5 : hfi w9 a0 5 = 6 := (by rw [e3, e_hfi_sfi, up2_at, e2, e_hfi_sfi, up2_at, g7]; rfl); have b_w9 : nT (hfi w9 a0 5) ≤ 7 := (by unfold nT; rw [g5]; decide); have g_w9 : hfi w9 a0 5 = nI (nT (hfi w9 a0 5)) := (by unfold nT; rw [g5]; rfl); exact b_w9) ?_ ?_
  · intro c1 w1 e1 w2 q1
    rw [h6] at c1
    have g5 : hfi w1 a0 5 = nI (c + 1) := by rw [e1, e_hfi_sfi, up2_at, h5, nI_1]
    have n5 : nT (hfi w1 a0 5) = c + 1 := by unfold nT; rw [g5, m_cl (by omega)]
    have e0 : hai w1 (a0 + 1) = hai w (a0 + 1) := by rw [e1]; rfl
    have R : ∀ r k, k < 78 → rwR w2 a0 r k = if r = c + 1 then rwR w a0 0 k else rwR w a0 r k := fun r k hk => by
      unfold rwR
      rw [q1.2, n5, cpR_row hk, e0]
      rfl
    refine mP_of ⟨(show xF [5] [1] a0 w w1 by rw [e1]; exact xF_sfi xF.rf (by decide)).tr (q1.1.wide (by decide) (by decide)), ?_, fun k hk => ?_, fun k hk => ?_, fun i hi k hk => ?_⟩
    · rw [q1.1.fi (by decide), g5, Nat.min_eq_left (by omega)]
    · rw [R 0 k hk, if_neg (by omega)]
    · rw [R 7 k hk, if_neg (by omega)]
    · rw [Nat.min_eq_left (by omega)] at hi
      have hv : hPush (fun i => rwR w a0 (i + 1)) c (rwR w a0 0) i = if i < c then rwR w a0 (i + 1) else rwR w a0 0 := by
        unfold hPush
        rw [if_pos (show c < 6 by omega)]
      rw [R (i + 1) k hk, hv]
      by_cases hic : i = c
      · subst hic
        rw [if_pos rfl, if_neg (by omega)]
      · rw [if_neg (by omega), if_pos (by omega)]
  · intro c1 w3 q2 w4 q3 w5 q4 w6 q5 w7 q6 w8 e2 w9 e3 w10 q7
    have hc6 := h6.mp c1
    subst hc6
    have g7 : hfi w7 a0 5 = 6 := by rw [q6.1.fi (by decide), q5.1.fi (by decide), q4.1.fi (by decide), q3.1.fi (by decide), q2.1.fi (by decide), c1]
    have g5 : hfi w9 a0 5 = 6 := by rw [e3, e_hfi_sfi, up2_at, e2, e_hfi_sfi, up2_at, g7]; rfl
    have n5 : nT (hfi w9 a0 5) = 6 := by unfold nT; rw [g5]; rfl
    have e0 : hai w9 (a0 + 1) = hai w7 (a0 + 1) := by rw [e3, e2]; rfl
    have R : ∀ r k, k < 78 → rwR w10 a0 r k = if r = 6 then rwR w a0 0 k else if r = 5 then rwR w a0 6 k else if r = 4 then rwR w a0 5 k else if r = 3 then rwR w a0 4 k else if r = 2 then rwR w a0 3 k else if r = 1 then rwR w a0 2 k else rwR w a0 r k := fun r k hk => by
      have e7 : ∀ r, hai w7 (a0 + 1) (78 * r + k) = if r = 5 then rwR w a0 6 k else if r = 4 then rwR w a0 5 k else if r = 3 then rwR w a0 4 k else if r = 2 then rwR w a0 3 k else if r = 1 then rwR w a0 2 k else rwR w a0 r k := fun r => by
        rw [q6.2, q5.2, q4.2, q3.2, q2.2]
        simp only [cpR_row hk, show nT 1 = 1 from rfl, show nT 2 = 2 from rfl, show nT 3 = 3 from rfl, show nT 4 = 4 from rfl, show nT 5 = 5 from rfl, show nT 6 = 6 from rfl]
        rfl
      unfold rwR
      rw [q7.2, n5, cpR_row hk, e0]
      by_cases h : r = 6
      · rw [if_pos h, if_pos h, show nT 0 = 0 from rfl, e7]; rfl
      · rw [if_neg h, if_neg h, e7]; rfl
    refine mP_of ⟨?_, ?_, fun k hk => ?_, fun k hk => ?_, fun i hi k hk => ?_⟩
    · have F1 : xF [5] [1] a0 w w7 := ((((q2.1.wide (by decide) (by decide)).tr (q3.1.wide (by decide) (by decide))).tr (q4.1.wide (by decide) (by decide))).tr (q5.1.wide (by decide) (by decide))).tr (q6.1.wide (by decide) (by decide))
      exact (show xF [5] [1] a0 w w9 by rw [e3, e2]; exact xF_sfi (xF_sfi F1 (by decide)) (by decide)).tr (q7.1.wide (by decide) (by decide))
    · rw [q7.1.fi (by decide), g5]; rfl
    · rw [R 0 k hk]; rfl
    · rw [R 7 k hk]; rfl
    · have hi6 : i < 6 := hi
      have hv : hPush (fun i => rwR w a0 (i + 1)) 6 (rwR w a0 0) i = if i < 5 then rwR w a0 (i + 1 + 1) else rwR w a0 0 := by
        unfold hPush
        rw [if_neg (show ¬ 6 < 6 by decide)]
      rw [R (i + 1) k hk, hv]
      rcases (show i = 0 ∨ i = 1 ∨ i = 2 ∨ i = 3 ∨ i = 4 ∨ i = 5 by omega) with h | h | h | h | h | h <;> subst h <;> rfl

