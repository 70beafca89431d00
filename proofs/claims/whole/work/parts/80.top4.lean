theorem iw_2 {x y : Int32} {n : Nat} (h1n : 1 ≤ n) (hn : n ≤ 70000) (hy : y = nI n - 1) (h : ¬ vX10_isWithin x 0 y = 0) : ∃ i, i < n ∧ x = nI i := by
  obtain ⟨m, e⟩ : ∃ m, n = m + 1 := ⟨n - 1, by omega⟩
  subst e
  rw [m_sub1] at hy
  obtain ⟨i, hi, e⟩ := iw_N (n := m) (by omega) hy h
  exact ⟨i, by omega, e⟩
theorem sch_v {w : mH} {a N t : Nat} {T : Nat → Nat → Int32} (h : tRw w a T N) (h200 : N ≤ 200) (ht : t < N) : vX6_seenChange w (nI t) (a + 2) = if t = 0 then 0 else T 1 t - T 1 (t - 1) := by
  unfold vX6_seenChange
  rw [m_wi (by omega)]
  by_cases q : t = 0
  · rw [if_pos q, if_pos q, if_pos rfl]
  · rw [if_neg q, if_neg q, if_neg (by decide), m_cl (by omega), (h.2.2 t ht).1]
    obtain ⟨m, e⟩ : ∃ m, t = m + 1 := ⟨t - 1, by omega⟩
    subst e
    rw [m_sub1, m_cl (by omega), (h.2.2 m (by omega)).1, Nat.add_sub_cancel]
theorem iw_le {x : Int32} (h : vX10_isWithin x 0 199 = 0) : vX10_isWithin x 1 199 = 0 := by
  unfold vX10_isWithin at h ⊢
  by_cases q : x < 0
  · rw [if_pos (by rw [Int32.lt_iff_toInt_lt] at q ⊢; rw [show (0 : Int32).toInt = 0 from rfl] at q; rw [show (1 : Int32).toInt = 1 from rfl]; omega)]
  · rw [if_neg q] at h
    by_cases q1 : x < 1
    · rw [if_pos q1]
    · rw [if_neg q1]; exact h
abbrev mX10_reason : mM := (yX10_reason, cX10_reason, 5, (some .int), [])
theorem u368 : (Cond.fieldLink "LineFollowerBench" 293 "LineFollowerBench$Trace" "seen" "[I" : Cond) ∈ mTs := mTs_in 368 (by decide +kernel) (by decide +kernel)
theorem f_X10_293 : mFld "LineFollowerBench" 293 6 1 := ⟨RX6, TX6, 7, "LineFollowerBench$Trace", rfl, by decide, in_X6, u368, Or.inl rfl, by decide⟩
theorem u1409 : (Cond.methodLink "LineFollowerBench" 296 ⟨"java/lang/Math", "abs", "(I)I"⟩ : Cond) ∈ mTs := mTs_in 1409 (by decide +kernel) (by decide +kernel)
theorem u375 : (Cond.fieldLink "LineFollowerBench" 301 "LineFollowerBench$Trace" "integrals" "[I" : Cond) ∈ mTs := mTs_in 375 (by decide +kernel) (by decide +kernel)
theorem f_X10_301 : mFld "LineFollowerBench" 301 6 4 := ⟨RX6, TX6, 7, "LineFollowerBench$Trace", rfl, by decide, in_X6, u375, Or.inl rfl, by decide⟩
theorem u1410 : (Cond.methodLink "LineFollowerBench" 304 ⟨"LineFollowerBench$Trace", "seenChange", "(I)I"⟩ : Cond) ∈ mTs := mTs_in 1410 (by decide +kernel) (by decide +kernel)
theorem l_X10_304 : mLinkV "LineFollowerBench" 304 1 mX6_seenChange := ⟨⟨by decide, by decide, by decide +kernel⟩, co_X6_seenChange, u1410, u546, u547⟩
set_option maxHeartbeats 4000000 in
set_option maxRecDepth 100000 in
theorem gX10_reason_0 {G : mG} {w : mH} {Φ : mF} {a0 : Nat} {x1 : Int32} {a0_7 a0_0 a0_0_0 n_a0_0_0 a0_7_1 n_a0_7_1 a0_7_4 n_a0_7_4 : Nat} (h1 : hk w a0 = (10, 0)) (h2 : hfr w a0 7 = some a0_7) (h3 : hk w a0_7 = (6, 0)) (h4 : hfr w a0 0 = some a0_0) (h5 : hk w a0_0 = (3, 0)) (h6 : hfr w a0_0 0 = some a0_0_0) (h7 : hk w a0_0_0 = (16, n_a0_0_0)) (s1 : vp_in 0 n_a0_0_0) (h8 : hfr w a0_7 1 = some a0_7_1) (h9 : hk w a0_7_1 = (16, n_a0_7_1)) (s2 : (¬ ((vX6_isMade w a0_7) = 0)) → (¬ ((vX10_isWithin x1 0 ((hfi w a0_7 6) - 1)) = 0)) → vp_in x1 n_a0_7_1) (s3 : vp_in 1 n_a0_0_0) (h10 : hfr w a0_7 4 = some a0_7_4) (h11 : hk w a0_7_4 = (16, n_a0_7_4)) (s4 : (¬ ((vX6_isMade w a0_7) = 0)) → (¬ ((vX10_isWithin x1 0 ((hfi w a0_7 6) - 1)) = 0)) → vp_in x1 n_a0_7_4) (s5 : vp_in 2 n_a0_0_0) (s6 : (¬ ((vX6_isMade w a0_7) = 0)) → (¬ ((vX10_isWithin x1 0 ((hfi w a0_7 6) - 1)) = 0)) → (¬ ((vX10_isWithin x1 1 199) = 0)) → vp_in x1 n_a0_7_1) (s7 : (¬ ((vX6_isMade w a0_7) = 0)) → (¬ ((vX10_isWithin x1 0 ((hfi w a0_7 6) - 1)) = 0)) → (¬ ((vX10_isWithin x1 1 199) = 0)) → vp_in (x1 - 1) n_a0_7_1) (k1 : (¬ ((vX6_isMade w a0_7) = 0)) → (¬ ((vX10_isWithin x1 0 ((hfi w a0_7 6) - 1)) = 0)) → (¬ ((aAbs ((hai w a0_0_0 0) * (hai w a0_7_1 x1.toNatClampNeg))) = 0)) → ((aAbs ((hai w a0_0_0 0) * (hai w a0_7_1 x1.toNatClampNeg))) < (aAbs ((hai w a0_0_0 1) * (hai w a0_7_4 x1.toNatClampNeg)))) → ((aAbs ((hai w a0_0_0 1) * (hai w a0_7_4 x1.toNatClampNeg))) < (aAbs ((hai w a0_0_0 2) * (vX6_seenChange w x1 a0_7_1)))) → Φ (.inl (some (.int 2))) w) (k2 : (¬ ((vX6_isMade w a0_7) = 0)) → (¬ ((vX10_isWithin x1 0 ((hfi w a0_7 6) - 1)) = 0)) → (¬ ((aAbs ((hai w a0_0_0 0) * (hai w a0_7_1 x1.toNatClampNeg))) = 0)) → ((aAbs ((hai w a0_0_0 0) * (hai w a0_7_1 x1.toNatClampNeg))) < (aAbs ((hai w a0_0_0 1) * (hai w a0_7_4 x1.toNatClampNeg)))) → (¬ ((aAbs ((hai w a0_0_0 1) * (hai w a0_7_4 x1.toNatClampNeg))) < (aAbs ((hai w a0_0_0 2) * (vX6_seenChange w x1 a0_7_1))))) → Φ (.inl (some (.int 1))) w) (k3 : (¬ ((vX6_isMade w a0_7) = 0)) → (¬ ((vX10_isWithin x1 0 ((hfi w a0_7 6) - 1)) = 0)) → (¬ ((aAbs ((hai w a0_0_0 0) * (hai w a0_7_1 x1.toNatClampNeg))) = 0)) → (¬ ((aAbs ((hai w a0_0_0 0) * (hai w a0_7_1 x1.toNatClampNeg))) < (aAbs ((hai w a0_0_0 1) * (hai w a0_7_4 x1.toNatClampNeg))))) → ((aAbs ((hai w a0_0_0 0) * (hai w a0_7_1 x1.toNatClampNeg))) < (aAbs ((hai w a0_0_0 2) * (vX6_seenChange w x1 a0_7_1)))) → ((aAbs ((hai w a0_0_0 1) * (hai w a0_7_4 x1.toNatClampNeg))) < (aAbs ((hai w a0_0_0 2) * (vX6_seenChange w x1 a0_7_1)))) → Φ (.inl (some (.int 2))) w) (k4 : (¬ ((vX6_isMade w a0_7) = 0)) → (¬ ((vX10_isWithin x1 0 ((hfi w a0_7 6) - 1)) = 0)) → (¬ ((aAbs ((hai w a0_0_0 0) * (hai w a0_7_1 x1.toNatClampNeg))) = 0)) → (¬ ((aAbs ((hai w a0_0_0 0) * (hai w a0_7_1 x1.toNatClampNeg))) < (aAbs ((hai w a0_0_0 1) * (hai w a0_7_4 x1.toNatClampNeg))))) → ((aAbs ((hai w a0_0_0 0) * (hai w a0_7_1 x1.toNatClampNeg))) < (aAbs ((hai w a0_0_0 2) * (vX6_seenChange w x1 a0_7_1)))) → (¬ ((aAbs ((hai w a0_0_0 1) * (hai w a0_7_4 x1.toNatClampNeg))) < (aAbs ((hai w a0_0_0 2) * (vX6_seenChange w x1 a0_7_1))))) → Φ (.inl (some (.int 1))) w) (k5 : (¬ ((vX6_isMade w a0_7) = 0)) → (¬ ((vX10_isWithin x1 0 ((hfi w a0_7 6) - 1)) = 0)) → (¬ ((aAbs ((hai w a0_0_0 0) * (hai w a0_7_1 x1.toNatClampNeg))) = 0)) → (¬ ((aAbs ((hai w a0_0_0 0) * (hai w a0_7_1 x1.toNatClampNeg))) < (aAbs ((hai w a0_0_0 1) * (hai w a0_7_4 x1.toNatClampNeg))))) → (¬ ((aAbs ((hai w a0_0_0 0) * (hai w a0_7_1 x1.toNatClampNeg))) < (aAbs ((hai w a0_0_0 2) * (vX6_seenChange w x1 a0_7_1))))) → Φ (.inl (some (.int 0))) w) (k6 : (¬ ((vX6_isMade w a0_7) = 0)) → (¬ ((vX10_isWithin x1 0 ((hfi w a0_7 6) - 1)) = 0)) → ((aAbs ((hai w a0_0_0 0) * (hai w a0_7_1 x1.toNatClampNeg))) = 0) → (¬ ((aAbs ((hai w a0_0_0 1) * (hai w a0_7_4 x1.toNatClampNeg))) = 0)) → ((aAbs ((hai w a0_0_0 0) * (hai w a0_7_1 x1.toNatClampNeg))) < (aAbs ((hai w a0_0_0 1) * (hai w a0_7_4 x1.toNatClampNeg)))) → ((aAbs ((hai w a0_0_0 1) * (hai w a0_7_4 x1.toNatClampNeg))) < (aAbs ((hai w a0_0_0 2) * (vX6_seenChange w x1 a0_7_1)))) → Φ (.inl (some (.int 2))) w) (k7 : (¬ ((vX6_isMade w a0_7) = 0)) → (¬ ((vX10_isWithin x1 0 ((hfi w a0_7 6) - 1)) = 0)) → ((aAbs ((hai w a0_0_0 0) * (hai w a0_7_1 x1.toNatClampNeg))) = 0) → (¬ ((aAbs ((hai w a0_0_0 1) * (hai w a0_7_4 x1.toNatClampNeg))) = 0)) → ((aAbs ((hai w a0_0_0 0) * (hai w a0_7_1 x1.toNatClampNeg))) < (aAbs ((hai w a0_0_0 1) * (hai w a0_7_4 x1.toNatClampNeg)))) → (¬ ((aAbs ((hai w a0_0_0 1) * (hai w a0_7_4 x1.toNatClampNeg))) < (aAbs ((hai w a0_0_0 2) * (vX6_seenChange w x1 a0_7_1))))) → Φ (.inl (some (.int 1))) w) (k8 : (¬ ((vX6_isMade w a0_7) = 0)) → (¬ ((vX10_isWithin x1 0 ((hfi w a0_7 6) - 1)) = 0)) → ((aAbs ((hai w a0_0_0 0) * (hai w a0_7_1 x1.toNatClampNeg))) = 0) → (¬ ((aAbs ((hai w a0_0_0 1) * (hai w a0_7_4 x1.toNatClampNeg))) = 0)) → (¬ ((aAbs ((hai w a0_0_0 0) * (hai w a0_7_1 x1.toNatClampNeg))) < (aAbs ((hai w a0_0_0 1) * (hai w a0_7_4 x1.toNatClampNeg))))) → ((aAbs ((hai w a0_0_0 0) * (hai w a0_7_1 x1.toNatClampNeg))) < (aAbs ((hai w a0_0_0 2) * (vX6_seenChange w x1 a0_7_1)))) → ((aAbs ((hai w a0_0_0 1) * (hai w a0_7_4 x1.toNatClampNeg))) < (aAbs ((hai w a0_0_0 2) * (vX6_seenChange w x1 a0_7_1)))) → Φ (.inl (some (.int 2))) w) (k9 : (¬ ((vX6_isMade w a0_7) = 0)) → (¬ ((vX10_isWithin x1 0 ((hfi w a0_7 6) - 1)) = 0)) → ((aAbs ((hai w a0_0_0 0) * (hai w a0_7_1 x1.toNatClampNeg))) = 0) → (¬ ((aAbs ((hai w a0_0_0 1) * (hai w a0_7_4 x1.toNatClampNeg))) = 0)) → (¬ ((aAbs ((hai w a0_0_0 0) * (hai w a0_7_1 x1.toNatClampNeg))) < (aAbs ((hai w a0_0_0 1) * (hai w a0_7_4 x1.toNatClampNeg))))) → ((aAbs ((hai w a0_0_0 0) * (hai w a0_7_1 x1.toNatClampNeg))) < (aAbs ((hai w a0_0_0 2) * (vX6_seenChange w x1 a0_7_1)))) → (¬ ((aAbs ((hai w a0_0_0 1) * (hai w a0_7_4 x1.toNatClampNeg))) < (aAbs ((hai w a0_0_0 2) * (vX6_seenChange w x1 a0_7_1))))) → Φ (.inl (some (.int 1))) w) (k10 : (¬ ((vX6_isMade w a0_7) = 0)) → (¬ ((vX10_isWithin x1 0 ((hfi w a0_7 6) - 1)) = 0)) → ((aAbs ((hai w a0_0_0 0) * (hai w a0_7_1 x1.toNatClampNeg))) = 0) → (¬ ((aAbs ((hai w a0_0_0 1) * (hai w a0_7_4 x1.toNatClampNeg))) = 0)) → (¬ ((aAbs ((hai w a0_0_0 0) * (hai w a0_7_1 x1.toNatClampNeg))) < (aAbs ((hai w a0_0_0 1) * (hai w a0_7_4 x1.toNatClampNeg))))) → (¬ ((aAbs ((hai w a0_0_0 0) * (hai w a0_7_1 x1.toNatClampNeg))) < (aAbs ((hai w a0_0_0 2) * (vX6_seenChange w x1 a0_7_1))))) → Φ (.inl (some (.int 0))) w) (k11 : (¬ ((vX6_isMade w a0_7) = 0)) → (¬ ((vX10_isWithin x1 0 ((hfi w a0_7 6) - 1)) = 0)) → ((aAbs ((hai w a0_0_0 0) * (hai w a0_7_1 x1.toNatClampNeg))) = 0) → ((aAbs ((hai w a0_0_0 1) * (hai w a0_7_4 x1.toNatClampNeg))) = 0) → (¬ ((aAbs ((hai w a0_0_0 2) * (vX6_seenChange w x1 a0_7_1))) = 0)) → ((aAbs ((hai w a0_0_0 0) * (hai w a0_7_1 x1.toNatClampNeg))) < (aAbs ((hai w a0_0_0 1) * (hai w a0_7_4 x1.toNatClampNeg)))) → ((aAbs ((hai w a0_0_0 1) * (hai w a0_7_4 x1.toNatClampNeg))) < (aAbs ((hai w a0_0_0 2) * (vX6_seenChange w x1 a0_7_1)))) → Φ (.inl (some (.int 2))) w) (k12 : (¬ ((vX6_isMade w a0_7) = 0)) → (¬ ((vX10_isWithin x1 0 ((hfi w a0_7 6) - 1)) = 0)) → ((aAbs ((hai w a0_0_0 0) * (hai w a0_7_1 x1.toNatClampNeg))) = 0) → ((aAbs ((hai w a0_0_0 1) * (hai w a0_7_4 x1.toNatClampNeg))) = 0) → (¬ ((aAbs ((hai w a0_0_0 2) * (vX6_seenChange w x1 a0_7_1))) = 0)) → ((aAbs ((hai w a0_0_0 0) * (hai w a0_7_1 x1.toNatClampNeg))) < (aAbs ((hai w a0_0_0 1) * (hai w a0_7_4 x1.toNatClampNeg)))) → (¬ ((aAbs ((hai w a0_0_0 1) * (hai w a0_7_4 x1.toNatClampNeg))) < (aAbs ((hai w a0_0_0 2) * (vX6_seenChange w x1 a0_7_1))))) → Φ (.inl (some (.int 1))) w) (k13 : (¬ ((vX6_isMade w a0_7) = 0)) → (¬ ((vX10_isWithin x1 0 ((hfi w a0_7 6) - 1)) = 0)) → ((aAbs ((hai w a0_0_0 0) * (hai w a0_7_1 x1.toNatClampNeg))) = 0) → ((aAbs ((hai w a0_0_0 1) * (hai w a0_7_4 x1.toNatClampNeg))) = 0) → (¬ ((aAbs ((hai w a0_0_0 2) * (vX6_seenChange w x1 a0_7_1))) = 0)) → (¬ ((aAbs ((hai w a0_0_0 0) * (hai w a0_7_1 x1.toNatClampNeg))) < (aAbs ((hai w a0_0_0 1) * (hai w a0_7_4 x1.toNatClampNeg))))) → ((aAbs ((hai w a0_0_0 0) * (hai w a0_7_1 x1.toNatClampNeg))) < (aAbs ((hai w a0_0_0 2) * (vX6_seenChange w x1 a0_7_1)))) → ((aAbs ((hai w a0_0_0 1) * (hai w a0_7_4 x1.toNatClampNeg))) < (aAbs ((hai w a0_0_0 2) * (vX6_seenChange w x1 a0_7_1)))) → Φ (.inl (some (.int 2))) w) (k14 : (¬ ((vX6_isMade w a0_7) = 0)) → (¬ ((vX10_isWithin x1 0 ((hfi w a0_7 6) - 1)) = 0)) → ((aAbs ((hai w a0_0_0 0) * (hai w a0_7_1 x1.toNatClampNeg))) = 0) → ((aAbs ((hai w a0_0_0 1) * (hai w a0_7_4 x1.toNatClampNeg))) = 0) → (¬ ((aAbs ((hai w a0_0_0 2) * (vX6_seenChange w x1 a0_7_1))) = 0)) → (¬ ((aAbs ((hai w a0_0_0 0) * (hai w a0_7_1 x1.toNatClampNeg))) < (aAbs ((hai w a0_0_0 1) * (hai w a0_7_4 x1.toNatClampNeg))))) → ((aAbs ((hai w a0_0_0 0) * (hai w a0_7_1 x1.toNatClampNeg))) < (aAbs ((hai w a0_0_0 2) * (vX6_seenChange w x1 a0_7_1)))) → (¬ ((aAbs ((hai w a0_0_0 1) * (hai w a0_7_4 x1.toNatClampNeg))) < (aAbs ((hai w a0_0_0 2) * (vX6_seenChange w x1 a0_7_1))))) → Φ (.inl (some (.int 1))) w) (k15 : (¬ ((vX6_isMade w a0_7) = 0)) → (¬ ((vX10_isWithin x1 0 ((hfi w a0_7 6) - 1)) = 0)) → ((aAbs ((hai w a0_0_0 0) * (hai w a0_7_1 x1.toNatClampNeg))) = 0) → ((aAbs ((hai w a0_0_0 1) * (hai w a0_7_4 x1.toNatClampNeg))) = 0) → (¬ ((aAbs ((hai w a0_0_0 2) * (vX6_seenChange w x1 a0_7_1))) = 0)) → (¬ ((aAbs ((hai w a0_0_0 0) * (hai w a0_7_1 x1.toNatClampNeg))) < (aAbs ((hai w a0_0_0 1) * (hai w a0_7_4 x1.toNatClampNeg))))) → (¬ ((aAbs ((hai w a0_0_0 0) * (hai w a0_7_1 x1.toNatClampNeg))) < (aAbs ((hai w a0_0_0 2) * (vX6_seenChange w x1 a0_7_1))))) → Φ (.inl (some (.int 0))) w) (k16 : (¬ ((vX6_isMade w a0_7) = 0)) → (¬ ((vX10_isWithin x1 0 ((hfi w a0_7 6) - 1)) = 0)) → ((aAbs ((hai w a0_0_0 0) * (hai w a0_7_1 x1.toNatClampNeg))) = 0) → ((aAbs ((hai w a0_0_0 1) * (hai w a0_7_4 x1.toNatClampNeg))) = 0) → ((aAbs ((hai w a0_0_0 2) * (vX6_seenChange w x1 a0_7_1))) = 0) → Φ (.inl (some (.int (-1)))) w) (k17 : (¬ ((vX6_isMade w a0_7) = 0)) → ((vX10_isWithin x1 0 ((hfi w a0_7 6) - 1)) = 0) → ∀ n, hN w ≤ n → Φ (.inr "java/lang/IndexOutOfBoundsException") (snn w n)) (k18 : ((vX6_isMade w a0_7) = 0) → ∀ n, hN w ≤ n → Φ (.inr "java/lang/IllegalStateException") (snn w n)) : mW G mX10_reason 9 1 6 0 [(0, .ref a0), (1, .int x1)] [] w Φ := by
  refine mW_aload_n (j := 0) dX10_reason_0 rfl rfl ?_
  refine mW_getR dX10_reason_1 f_X10_54 h1 rfl h2 ?_
  refine mW_callVe (As := []) (rest := []) (kc2 := 1) (ks2 := 6) dX10_reason_4 l_X10_271 rfl h3 rfl (by decide) (qX6_isMade (w := w) (a0 := a0_7) h3) (Nat.le_of_ble_eq_true rfl) (by decide) rfl rfl ?_
  refine mW_if_ne (tgt := 21) dX10_reason_7 (by decide) (fun c1 => ?_) (fun c1 => ?_)
  · refine mW_iload_n (j := 1) dX10_reason_21 rfl rfl ?_
    refine mW_iconst (v := 0) dX10_reason_22 (by decide) ?_
    refine mW_aload_n (j := 0) dX10_reason_23 rfl rfl ?_
    refine mW_getR dX10_reason_24 f_X10_54 h1 rfl h2 ?_
    refine mW_get dX10_reason_27 f_X10_276 h3 rfl ?_
    refine mW_iconst (v := 1) dX10_reason_30 (by decide) ?_
    refine mW_isub dX10_reason_31 ?_
    refine mW_callSe (As := [.int x1, .int 0, .int ((hfi w a0_7 6) - 1)]) (rest := []) (kc2 := 1) (ks2 := 6) dX10_reason_32 l_X10_78 rfl (qX10_isWithin (w := w) (x0 := x1) (x1 := 0) (x2 := (hfi w a0_7 6) - 1)) (Nat.le_of_ble_eq_true rfl) (by decide) rfl rfl ?_
    refine mW_if_ne (tgt := 48) dX10_reason_35 (by decide) (fun c2 => ?_) (fun c2 => ?_)
    · refine mW_aload_n (j := 0) dX10_reason_48 rfl rfl ?_
      refine mW_getR dX10_reason_49 f_X10_12 h1 rfl h4 ?_
      refine mW_getR dX10_reason_52 f_X10_105 h5 rfl h6 ?_
      refine mW_iconst (v := 0) dX10_reason_55 (by decide) ?_
      refine mW_ialdJ dX10_reason_56 h7 s1 (j := 0) (by decide) ?_
      refine mW_aload_n (j := 0) dX10_reason_57 rfl rfl ?_
      refine mW_getR dX10_reason_58 f_X10_54 h1 rfl h2 ?_
      refine mW_getR dX10_reason_61 f_X10_293 h3 rfl h8 ?_
      refine mW_iload_n (j := 1) dX10_reason_64 rfl rfl ?_
      refine mW_ialdJ dX10_reason_65 h9 (s2 c1 c2) rfl ?_
      refine mW_imul dX10_reason_66 ?_
      refine mW_mabsA dX10_reason_67 u1409 u631 u91 u632 (Nat.le_of_ble_eq_true rfl) (by decide) ?_
      refine mW_istore_n (lv2 := [(2, .int (aAbs ((hai w a0_0_0 0) * (hai w a0_7_1 x1.toNatClampNeg)))), (0, .ref a0), (1, .int x1)]) dX10_reason_70 rfl (by decide) rfl ?_
      refine mW_aload_n (j := 1) dX10_reason_71 rfl rfl ?_
      refine mW_getR dX10_reason_72 f_X10_12 h1 rfl h4 ?_
      refine mW_getR dX10_reason_75 f_X10_105 h5 rfl h6 ?_
      refine mW_iconst (v := 1) dX10_reason_78 (by decide) ?_
      refine mW_ialdJ dX10_reason_79 h7 s3 (j := 1) (by decide) ?_
      refine mW_aload_n (j := 1) dX10_reason_80 rfl rfl ?_
      refine mW_getR dX10_reason_81 f_X10_54 h1 rfl h2 ?_
      refine mW_getR dX10_reason_84 f_X10_301 h3 rfl h10 ?_
      refine mW_iload_n (j := 2) dX10_reason_87 rfl rfl ?_
      refine mW_ialdJ dX10_reason_88 h11 (s4 c1 c2) rfl ?_
      refine mW_imul dX10_reason_89 ?_
      refine mW_mabsA dX10_reason_90 u1409 u631 u91 u632 (Nat.le_of_ble_eq_true rfl) (by decide) ?_
      refine mW_istore_n (lv2 := [(3, .int (aAbs ((hai w a0_0_0 1) * (hai w a0_7_4 x1.toNatClampNeg)))), (2, .int (aAbs ((hai w a0_0_0 0) * (hai w a0_7_1 x1.toNatClampNeg)))), (0, .ref a0), (1, .int x1)]) dX10_reason_93 rfl (by decide) rfl ?_
      refine mW_aload_n (j := 2) dX10_reason_94 rfl rfl ?_
      refine mW_getR dX10_reason_95 f_X10_12 h1 rfl h4 ?_
      refine mW_getR dX10_reason_98 f_X10_105 h5 rfl h6 ?_
      refine mW_iconst (v := 2) dX10_reason_101 (by decide) ?_
      refine mW_ialdJ dX10_reason_102 h7 s5 (j := 2) (by decide) ?_
      refine mW_aload_n (j := 2) dX10_reason_103 rfl rfl ?_
      refine mW_getR dX10_reason_104 f_X10_54 h1 rfl h2 ?_
      refine mW_iload_n (j := 3) dX10_reason_107 rfl rfl ?_
      refine mW_callVe (As := [.int x1]) (rest := [.int (hai w a0_0_0 2)]) (kc2 := 1) (ks2 := 6) dX10_reason_108 l_X10_304 rfl h3 rfl (by decide) (qX6_seenChange (w := w) (a0 := a0_7) (x1 := x1) h3 h8 h9 (s6 c1 c2) (s7 c1 c2)) (Nat.le_of_ble_eq_true rfl) (by decide) rfl rfl ?_
      refine mW_imul dX10_reason_111 ?_
      refine mW_mabsA dX10_reason_112 u1409 u631 u91 u632 (Nat.le_of_ble_eq_true rfl) (by decide) ?_
      refine mW_istore (lv2 := [(4, .int (aAbs ((hai w a0_0_0 2) * (vX6_seenChange w x1 a0_7_1)))), (3, .int (aAbs ((hai w a0_0_0 1) * (hai w a0_7_4 x1.toNatClampNeg)))), (2, .int (aAbs ((hai w a0_0_0 0) * (hai w a0_7_1 x1.toNatClampNeg)))), (0, .ref a0), (1, .int x1)]) dX10_reason_115 (by decide) rfl ?_
      refine mW_iload_n (j := 2) dX10_reason_117 rfl rfl ?_
      refine mW_if_ne (tgt := 132) dX10_reason_118 (by decide) (fun c3 => ?_) (fun c3 => ?_)
      · refine mW_iload_n (j := 2) dX10_reason_132 rfl rfl ?_
        refine mW_iload_n (j := 1) dX10_reason_133 rfl rfl ?_
        refine mW_icmp_lt (tgt := 145) dX10_reason_134 (by decide) (fun c4 => ?_) (fun c4 => ?_)
        · refine mW_iload_n (j := 1) dX10_reason_145 rfl rfl ?_
          refine mW_iload (j := 0) dX10_reason_146 rfl ?_
          refine mW_icmp_lt (tgt := 155) dX10_reason_148 (by decide) (fun c5 => ?_) (fun c5 => ?_)
          · refine mW_iconst (v := 2) dX10_reason_155 (by decide) ?_
            exact mW_iret dX10_reason_156 rfl (k1 c1 c2 c3 c4 c5)
          · refine mW_iconst (v := 1) dX10_reason_151 (by decide) ?_
            refine mW_goto (tgt := 156) dX10_reason_152 (by decide) ?_
            exact mW_iret dX10_reason_156 rfl (k2 c1 c2 c3 c4 c5)
        · refine mW_iload_n (j := 2) dX10_reason_137 rfl rfl ?_
          refine mW_iload (j := 0) dX10_reason_138 rfl ?_
          refine mW_icmp_lt (tgt := 145) dX10_reason_140 (by decide) (fun c6 => ?_) (fun c6 => ?_)
          · refine mW_iload_n (j := 1) dX10_reason_145 rfl rfl ?_
            refine mW_iload (j := 0) dX10_reason_146 rfl ?_
            refine mW_icmp_lt (tgt := 155) dX10_reason_148 (by decide) (fun c7 => ?_) (fun c7 => ?_)
            · refine mW_iconst (v := 2) dX10_reason_155 (by decide) ?_
              exact mW_iret dX10_reason_156 rfl (k3 c1 c2 c3 c4 c6 c7)
            · refine mW_iconst (v := 1) dX10_reason_151 (by decide) ?_
              refine mW_goto (tgt := 156) dX10_reason_152 (by decide) ?_
              exact mW_iret dX10_reason_156 rfl (k4 c1 c2 c3 c4 c6 c7)
          · refine mW_iconst (v := 0) dX10_reason_143 (by decide) ?_
            exact mW_iret dX10_reason_144 rfl (k5 c1 c2 c3 c4 c6)
      · refine mW_iload_n (j := 1) dX10_reason_121 rfl rfl ?_
        refine mW_if_ne (tgt := 132) dX10_reason_122 (by decide) (fun c8 => ?_) (fun c8 => ?_)
        · refine mW_iload_n (j := 2) dX10_reason_132 rfl rfl ?_
          refine mW_iload_n (j := 1) dX10_reason_133 rfl rfl ?_
          refine mW_icmp_lt (tgt := 145) dX10_reason_134 (by decide) (fun c9 => ?_) (fun c9 => ?_)
          · refine mW_iload_n (j := 1) dX10_reason_145 rfl rfl ?_
            refine mW_iload (j := 0) dX10_reason_146 rfl ?_
            refine mW_icmp_lt (tgt := 155) dX10_reason_148 (by decide) (fun c10 => ?_) (fun c10 => ?_)
            · refine mW_iconst (v := 2) dX10_reason_155 (by decide) ?_
              exact mW_iret dX10_reason_156 rfl (k6 c1 c2 c3 c8 c9 c10)
            · refine mW_iconst (v := 1) dX10_reason_151 (by decide) ?_
              refine mW_goto (tgt := 156) dX10_reason_152 (by decide) ?_
              exact mW_iret dX10_reason_156 rfl (k7 c1 c2 c3 c8 c9 c10)
          · refine mW_iload_n (j := 2) dX10_reason_137 rfl rfl ?_
            refine mW_iload (j := 0) dX10_reason_138 rfl ?_
            refine mW_icmp_lt (tgt := 145) dX10_reason_140 (by decide) (fun c11 => ?_) (fun c11 => ?_)
            · refine mW_iload_n (j := 1) dX10_reason_145 rfl rfl ?_
              refine mW_iload (j := 0) dX10_reason_146 rfl ?_
              refine mW_icmp_lt (tgt := 155) dX10_reason_148 (by decide) (fun c12 => ?_) (fun c12 => ?_)
              · refine mW_iconst (v := 2) dX10_reason_155 (by decide) ?_
                exact mW_iret dX10_reason_156 rfl (k8 c1 c2 c3 c8 c9 c11 c12)
              · refine mW_iconst (v := 1) dX10_reason_151 (by decide) ?_
                refine mW_goto (tgt := 156) dX10_reason_152 (by decide) ?_
                exact mW_iret dX10_reason_156 rfl (k9 c1 c2 c3 c8 c9 c11 c12)
            · refine mW_iconst (v := 0) dX10_reason_143 (by decide) ?_
              exact mW_iret dX10_reason_144 rfl (k10 c1 c2 c3 c8 c9 c11)
        · refine mW_iload (j := 0) dX10_reason_125 rfl ?_
          refine mW_if_ne (tgt := 132) dX10_reason_127 (by decide) (fun c13 => ?_) (fun c13 => ?_)
          · refine mW_iload_n (j := 2) dX10_reason_132 rfl rfl ?_
            refine mW_iload_n (j := 1) dX10_reason_133 rfl rfl ?_
            refine mW_icmp_lt (tgt := 145) dX10_reason_134 (by decide) (fun c14 => ?_) (fun c14 => ?_)
            · refine mW_iload_n (j := 1) dX10_reason_145 rfl rfl ?_
              refine mW_iload (j := 0) dX10_reason_146 rfl ?_
              refine mW_icmp_lt (tgt := 155) dX10_reason_148 (by decide) (fun c15 => ?_) (fun c15 => ?_)
              · refine mW_iconst (v := 2) dX10_reason_155 (by decide) ?_
                exact mW_iret dX10_reason_156 rfl (k11 c1 c2 c3 c8 c13 c14 c15)
              · refine mW_iconst (v := 1) dX10_reason_151 (by decide) ?_
                refine mW_goto (tgt := 156) dX10_reason_152 (by decide) ?_
                exact mW_iret dX10_reason_156 rfl (k12 c1 c2 c3 c8 c13 c14 c15)
            · refine mW_iload_n (j := 2) dX10_reason_137 rfl rfl ?_
              refine mW_iload (j := 0) dX10_reason_138 rfl ?_
              refine mW_icmp_lt (tgt := 145) dX10_reason_140 (by decide) (fun c16 => ?_) (fun c16 => ?_)
              · refine mW_iload_n (j := 1) dX10_reason_145 rfl rfl ?_
                refine mW_iload (j := 0) dX10_reason_146 rfl ?_
                refine mW_icmp_lt (tgt := 155) dX10_reason_148 (by decide) (fun c17 => ?_) (fun c17 => ?_)
                · refine mW_iconst (v := 2) dX10_reason_155 (by decide) ?_
                  exact mW_iret dX10_reason_156 rfl (k13 c1 c2 c3 c8 c13 c14 c16 c17)
                · refine mW_iconst (v := 1) dX10_reason_151 (by decide) ?_
                  refine mW_goto (tgt := 156) dX10_reason_152 (by decide) ?_
                  exact mW_iret dX10_reason_156 rfl (k14 c1 c2 c3 c8 c13 c14 c16 c17)
              · refine mW_iconst (v := 0) dX10_reason_143 (by decide) ?_
                exact mW_iret dX10_reason_144 rfl (k15 c1 c2 c3 c8 c13 c14 c16)
          · refine mW_iconst (v := (-1)) dX10_reason_130 (by decide) ?_
            exact mW_iret dX10_reason_131 rfl (k16 c1 c2 c3 c8 c13)
    · exact mW_thr (text := "no such step") (names := ["java/lang/RuntimeException", "java/lang/Exception"]) dX10_reason_38 dX10_reason_41 dX10_reason_42 dX10_reason_44 dX10_reason_47 th_82_86 (by decide +kernel) rfl (Nat.le_of_ble_eq_true rfl) (by decide) (by decide) (by decide) (k17 c1 c2)
  · exact mW_thrW (text := "there is no trace") (names := ["java/lang/RuntimeException", "java/lang/Exception"]) dX10_reason_10 dX10_reason_13 dX10_reason_14 dX10_reason_17 dX10_reason_20 th_120_124 (by decide +kernel) rfl (Nat.le_of_ble_eq_true rfl) (by decide) (by decide) (by decide) (k18 c1)
theorem tX10_reason {G : mG} {w : mH} {a0 : Nat} {x1 : Int32} {A : Nat → Int32} {N : Nat} {T : Nat → Nat → Int32} (z : zBen w a0) (hS : sRep w (a0 + 1) A) (hT : tRw w (a0 + 158) T N) (h200 : N ≤ 200) : mC G mX10_reason 9 1 6 [.ref a0, .int x1] w (tpO "java/lang/IllegalStateException" "java/lang/IndexOutOfBoundsException" "" (if N = 0 then 1 else if vX10_isWithin x1 0 (nI N - 1) = 0 then 2 else 0) (.int (vR32 (aAbs (A 0 * T 1 x1.toNatClampNeg)) (aAbs (A 1 * T 4 x1.toNatClampNeg)) (aAbs (A 2 * (if x1.toNatClampNeg = 0 then 0 else T 1 x1.toNatClampNeg - T 1 (x1.toNatClampNeg - 1)))))) (fun u => u = w) (fun u => u = w)) := by
  refine mC_of (by decide +kernel) rfl (Nat.le_of_ble_eq_true rfl) rfl ?_
  refine gX10_reason_0 (a0_7 := a0 + 158) (a0_0 := a0 + 1) (a0_0_0 := a0 + 2) (a0_7_1 := a0 + 160) (a0_7_4 := a0 + 163) z.1 z.2.2.2.2.2.2.1 z.2.2.2.2.2.2.2.2.2.2.2.2.2.2.2.2.1.1 z.2.1 z.2.2.2.2.2.2.2.2.2.2.2.1.1 z.2.2.2.2.2.2.2.2.2.2.2.1.2.1 z.2.2.2.2.2.2.2.2.2.2.2.1.2.2.2.2.2.2.1 (by intros; unfold vp_in; decide) z.2.2.2.2.2.2.2.2.2.2.2.2.2.2.2.2.1.2.2.1 z.2.2.2.2.2.2.2.2.2.2.2.2.2.2.2.2.1.2.2.2.2.2.2.2.2.1 (by intro c1 c2; have nz := made_y hT.1 h200 c1; rw [show hfi w (a0 + 158) 6 = nI N from hT.1] at c2; obtain ⟨s, hs, hx⟩ := iw_2 (by omega) (by omega) rfl c2; rw [hx]; exact m_vp (by omega) (by decide)) (by intros; unfold vp_in; decide) z.2.2.2.2.2.2.2.2.2.2.2.2.2.2.2.2.1.2.2.2.2.2.1 z.2.2.2.2.2.2.2.2.2.2.2.2.2.2.2.2.1.2.2.2.2.2.2.2.2.2.2.2.1 (by intro c1 c2; have nz := made_y hT.1 h200 c1; rw [show hfi w (a0 + 158) 6 = nI N from hT.1] at c2; obtain ⟨s, hs, hx⟩ := iw_2 (by omega) (by omega) rfl c2; rw [hx]; exact m_vp (by omega) (by decide)) (by intros; unfold vp_in; decide) (by intro c1 c2; intro g; obtain ⟨s, hs, hx⟩ := iw_N (n := 199) (by decide) rfl (show ¬ vX10_isWithin x1 0 199 = 0 from fun q => g (iw_le q)); rw [hx]; exact m_vp (by omega) (by decide)) (by intro c1 c2; intro g; obtain ⟨g1, g2⟩ := iw_n g; obtain ⟨s, hs, hx⟩ := iw_N (n := 199) (by decide) rfl (show ¬ vX10_isWithin x1 0 199 = 0 from fun q => g (iw_le q)); rw [hx, show (1 : Int32) = nI 1 from rfl, m_le (by omega) (by omega)] at g1; obtain ⟨m, e⟩ : ∃ m, s = m + 1 := ⟨s - 1, by omega⟩; subst e; rw [hx, m_sub1]; exact m_vp (by omega) (by decide)) ?_ ?_ ?_ ?_ ?_ ?_ ?_ ?_ ?_ ?_ ?_ ?_ ?_ ?_ ?_ ?_ ?_ ?_
  · intro c1 c2 c3 c4 c5
    have nz := made_y hT.1 h200 c1
    rw [show hfi w (a0 + 158) 6 = nI N from hT.1] at c2
    obtain ⟨s, hs, hx⟩ := iw_2 (by omega) (by omega) rfl c2
    have cl : x1.toNatClampNeg = s := by rw [hx]; exact m_cl (by omega)
    refine tp_okv (by rw [if_neg nz, if_neg c2]) ?_ rfl
    have r0 : hai w (a0 + 2) 0 = A 0 := hS.1 0 (by decide)
    have r1 : hai w (a0 + 2) 1 = A 1 := hS.1 1 (by decide)
    have r2 : hai w (a0 + 2) 2 = A 2 := hS.1 2 (by decide)
    have r3 : hai w (a0 + 160) s = T 1 s := (hT.2.2 s hs).1
    have r4 : hai w (a0 + 163) s = T 4 s := (hT.2.2 s hs).2.2.2.1
    have r5 : vX6_seenChange w x1 (a0 + 160) = (if s = 0 then 0 else T 1 s - T 1 (s - 1)) := by rw [hx]; exact sch_v hT h200 hs
    rw [cl, r0, r3] at c3
    first | rw [cl, r0, r1, r3, r4] at c4 | rw [cl, r0, r3, r2, r5] at c4 | rw [cl, r1, r4, r2, r5] at c4 | rw [cl, r1, r4] at c4 | rw [r2, r5] at c4
    first | rw [cl, r0, r1, r3, r4] at c5 | rw [cl, r0, r3, r2, r5] at c5 | rw [cl, r1, r4, r2, r5] at c5 | rw [cl, r1, r4] at c5 | rw [r2, r5] at c5
    rw [cl]
    unfold vR32
    rw [if_neg c3, if_pos c4, if_pos c5]
  · intro c1 c2 c3 c4 c5
    have nz := made_y hT.1 h200 c1
    rw [show hfi w (a0 + 158) 6 = nI N from hT.1] at c2
    obtain ⟨s, hs, hx⟩ := iw_2 (by omega) (by omega) rfl c2
    have cl : x1.toNatClampNeg = s := by rw [hx]; exact m_cl (by omega)
    refine tp_okv (by rw [if_neg nz, if_neg c2]) ?_ rfl
    have r0 : hai w (a0 + 2) 0 = A 0 := hS.1 0 (by decide)
    have r1 : hai w (a0 + 2) 1 = A 1 := hS.1 1 (by decide)
    have r2 : hai w (a0 + 2) 2 = A 2 := hS.1 2 (by decide)
    have r3 : hai w (a0 + 160) s = T 1 s := (hT.2.2 s hs).1
    have r4 : hai w (a0 + 163) s = T 4 s := (hT.2.2 s hs).2.2.2.1
    have r5 : vX6_seenChange w x1 (a0 + 160) = (if s = 0 then 0 else T 1 s - T 1 (s - 1)) := by rw [hx]; exact sch_v hT h200 hs
    rw [cl, r0, r3] at c3
    first | rw [cl, r0, r1, r3, r4] at c4 | rw [cl, r0, r3, r2, r5] at c4 | rw [cl, r1, r4, r2, r5] at c4 | rw [cl, r1, r4] at c4 | rw [r2, r5] at c4
    first | rw [cl, r0, r1, r3, r4] at c5 | rw [cl, r0, r3, r2, r5] at c5 | rw [cl, r1, r4, r2, r5] at c5 | rw [cl, r1, r4] at c5 | rw [r2, r5] at c5
    rw [cl]
    unfold vR32
    rw [if_neg c3, if_pos c4, if_neg c5]
  · intro c1 c2 c3 c4 c6 c7
    have nz := made_y hT.1 h200 c1
    rw [show hfi w (a0 + 158) 6 = nI N from hT.1] at c2
    obtain ⟨s, hs, hx⟩ := iw_2 (by omega) (by omega) rfl c2
    have cl : x1.toNatClampNeg = s := by rw [hx]; exact m_cl (by omega)
    refine tp_okv (by rw [if_neg nz, if_neg c2]) ?_ rfl
    have r0 : hai w (a0 + 2) 0 = A 0 := hS.1 0 (by decide)
    have r1 : hai w (a0 + 2) 1 = A 1 := hS.1 1 (by decide)
    have r2 : hai w (a0 + 2) 2 = A 2 := hS.1 2 (by decide)
    have r3 : hai w (a0 + 160) s = T 1 s := (hT.2.2 s hs).1
    have r4 : hai w (a0 + 163) s = T 4 s := (hT.2.2 s hs).2.2.2.1
    have r5 : vX6_seenChange w x1 (a0 + 160) = (if s = 0 then 0 else T 1 s - T 1 (s - 1)) := by rw [hx]; exact sch_v hT h200 hs
    rw [cl, r0, r3] at c3
    first | rw [cl, r0, r1, r3, r4] at c4 | rw [cl, r0, r3, r2, r5] at c4 | rw [cl, r1, r4, r2, r5] at c4 | rw [cl, r1, r4] at c4 | rw [r2, r5] at c4
    first | rw [cl, r0, r1, r3, r4] at c6 | rw [cl, r0, r3, r2, r5] at c6 | rw [cl, r1, r4, r2, r5] at c6 | rw [cl, r1, r4] at c6 | rw [r2, r5] at c6
    first | rw [cl, r0, r1, r3, r4] at c7 | rw [cl, r0, r3, r2, r5] at c7 | rw [cl, r1, r4, r2, r5] at c7 | rw [cl, r1, r4] at c7 | rw [r2, r5] at c7
    rw [cl]
    unfold vR32
    rw [if_neg c3, if_neg c4, if_pos c6, if_pos c7]
  · intro c1 c2 c3 c4 c6 c7
    have nz := made_y hT.1 h200 c1
    rw [show hfi w (a0 + 158) 6 = nI N from hT.1] at c2
    obtain ⟨s, hs, hx⟩ := iw_2 (by omega) (by omega) rfl c2
    have cl : x1.toNatClampNeg = s := by rw [hx]; exact m_cl (by omega)
    refine tp_okv (by rw [if_neg nz, if_neg c2]) ?_ rfl
    have r0 : hai w (a0 + 2) 0 = A 0 := hS.1 0 (by decide)
    have r1 : hai w (a0 + 2) 1 = A 1 := hS.1 1 (by decide)
    have r2 : hai w (a0 + 2) 2 = A 2 := hS.1 2 (by decide)
    have r3 : hai w (a0 + 160) s = T 1 s := (hT.2.2 s hs).1
    have r4 : hai w (a0 + 163) s = T 4 s := (hT.2.2 s hs).2.2.2.1
    have r5 : vX6_seenChange w x1 (a0 + 160) = (if s = 0 then 0 else T 1 s - T 1 (s - 1)) := by rw [hx]; exact sch_v hT h200 hs
    rw [cl, r0, r3] at c3
    first | rw [cl, r0, r1, r3, r4] at c4 | rw [cl, r0, r3, r2, r5] at c4 | rw [cl, r1, r4, r2, r5] at c4 | rw [cl, r1, r4] at c4 | rw [r2, r5] at c4
    first | rw [cl, r0, r1, r3, r4] at c6 | rw [cl, r0, r3, r2, r5] at c6 | rw [cl, r1, r4, r2, r5] at c6 | rw [cl, r1, r4] at c6 | rw [r2, r5] at c6
    first | rw [cl, r0, r1, r3, r4] at c7 | rw [cl, r0, r3, r2, r5] at c7 | rw [cl, r1, r4, r2, r5] at c7 | rw [cl, r1, r4] at c7 | rw [r2, r5] at c7
    rw [cl]
    unfold vR32
    rw [if_neg c3, if_neg c4, if_pos c6, if_neg c7]
  · intro c1 c2 c3 c4 c6
    have nz := made_y hT.1 h200 c1
    rw [show hfi w (a0 + 158) 6 = nI N from hT.1] at c2
    obtain ⟨s, hs, hx⟩ := iw_2 (by omega) (by omega) rfl c2
    have cl : x1.toNatClampNeg = s := by rw [hx]; exact m_cl (by omega)
    refine tp_okv (by rw [if_neg nz, if_neg c2]) ?_ rfl
    have r0 : hai w (a0 + 2) 0 = A 0 := hS.1 0 (by decide)
    have r1 : hai w (a0 + 2) 1 = A 1 := hS.1 1 (by decide)
    have r2 : hai w (a0 + 2) 2 = A 2 := hS.1 2 (by decide)
    have r3 : hai w (a0 + 160) s = T 1 s := (hT.2.2 s hs).1
    have r4 : hai w (a0 + 163) s = T 4 s := (hT.2.2 s hs).2.2.2.1
    have r5 : vX6_seenChange w x1 (a0 + 160) = (if s = 0 then 0 else T 1 s - T 1 (s - 1)) := by rw [hx]; exact sch_v hT h200 hs
    rw [cl, r0, r3] at c3
    first | rw [cl, r0, r1, r3, r4] at c4 | rw [cl, r0, r3, r2, r5] at c4 | rw [cl, r1, r4, r2, r5] at c4 | rw [cl, r1, r4] at c4 | rw [r2, r5] at c4
    first | rw [cl, r0, r1, r3, r4] at c6 | rw [cl, r0, r3, r2, r5] at c6 | rw [cl, r1, r4, r2, r5] at c6 | rw [cl, r1, r4] at c6 | rw [r2, r5] at c6
    rw [cl]
    unfold vR32
    rw [if_neg c3, if_neg c4, if_neg c6]
  · intro c1 c2 c3 c8 c9 c10
    have nz := made_y hT.1 h200 c1
    rw [show hfi w (a0 + 158) 6 = nI N from hT.1] at c2
    obtain ⟨s, hs, hx⟩ := iw_2 (by omega) (by omega) rfl c2
    have cl : x1.toNatClampNeg = s := by rw [hx]; exact m_cl (by omega)
    refine tp_okv (by rw [if_neg nz, if_neg c2]) ?_ rfl
    have r0 : hai w (a0 + 2) 0 = A 0 := hS.1 0 (by decide)
    have r1 : hai w (a0 + 2) 1 = A 1 := hS.1 1 (by decide)
    have r2 : hai w (a0 + 2) 2 = A 2 := hS.1 2 (by decide)
    have r3 : hai w (a0 + 160) s = T 1 s := (hT.2.2 s hs).1
    have r4 : hai w (a0 + 163) s = T 4 s := (hT.2.2 s hs).2.2.2.1
    have r5 : vX6_seenChange w x1 (a0 + 160) = (if s = 0 then 0 else T 1 s - T 1 (s - 1)) := by rw [hx]; exact sch_v hT h200 hs
    rw [cl, r0, r3] at c3
    first | rw [cl, r0, r1, r3, r4] at c8 | rw [cl, r0, r3, r2, r5] at c8 | rw [cl, r1, r4, r2, r5] at c8 | rw [cl, r1, r4] at c8 | rw [r2, r5] at c8
    first | rw [cl, r0, r1, r3, r4] at c9 | rw [cl, r0, r3, r2, r5] at c9 | rw [cl, r1, r4, r2, r5] at c9 | rw [cl, r1, r4] at c9 | rw [r2, r5] at c9
    first | rw [cl, r0, r1, r3, r4] at c10 | rw [cl, r0, r3, r2, r5] at c10 | rw [cl, r1, r4, r2, r5] at c10 | rw [cl, r1, r4] at c10 | rw [r2, r5] at c10
    rw [cl]
    unfold vR32
    rw [if_pos c3, if_neg c8, if_pos c9, if_pos c10]
  · intro c1 c2 c3 c8 c9 c10
    have nz := made_y hT.1 h200 c1
    rw [show hfi w (a0 + 158) 6 = nI N from hT.1] at c2
    obtain ⟨s, hs, hx⟩ := iw_2 (by omega) (by omega) rfl c2
    have cl : x1.toNatClampNeg = s := by rw [hx]; exact m_cl (by omega)
    refine tp_okv (by rw [if_neg nz, if_neg c2]) ?_ rfl
    have r0 : hai w (a0 + 2) 0 = A 0 := hS.1 0 (by decide)
    have r1 : hai w (a0 + 2) 1 = A 1 := hS.1 1 (by decide)
    have r2 : hai w (a0 + 2) 2 = A 2 := hS.1 2 (by decide)
    have r3 : hai w (a0 + 160) s = T 1 s := (hT.2.2 s hs).1
    have r4 : hai w (a0 + 163) s = T 4 s := (hT.2.2 s hs).2.2.2.1
    have r5 : vX6_seenChange w x1 (a0 + 160) = (if s = 0 then 0 else T 1 s - T 1 (s - 1)) := by rw [hx]; exact sch_v hT h200 hs
    rw [cl, r0, r3] at c3
    first | rw [cl, r0, r1, r3, r4] at c8 | rw [cl, r0, r3, r2, r5] at c8 | rw [cl, r1, r4, r2, r5] at c8 | rw [cl, r1, r4] at c8 | rw [r2, r5] at c8
    first | rw [cl, r0, r1, r3, r4] at c9 | rw [cl, r0, r3, r2, r5] at c9 | rw [cl, r1, r4, r2, r5] at c9 | rw [cl, r1, r4] at c9 | rw [r2, r5] at c9
    first | rw [cl, r0, r1, r3, r4] at c10 | rw [cl, r0, r3, r2, r5] at c10 | rw [cl, r1, r4, r2, r5] at c10 | rw [cl, r1, r4] at c10 | rw [r2, r5] at c10
    rw [cl]
    unfold vR32
    rw [if_pos c3, if_neg c8, if_pos c9, if_neg c10]
  · intro c1 c2 c3 c8 c9 c11 c12
    have nz := made_y hT.1 h200 c1
    rw [show hfi w (a0 + 158) 6 = nI N from hT.1] at c2
    obtain ⟨s, hs, hx⟩ := iw_2 (by omega) (by omega) rfl c2
    have cl : x1.toNatClampNeg = s := by rw [hx]; exact m_cl (by omega)
    refine tp_okv (by rw [if_neg nz, if_neg c2]) ?_ rfl
    have r0 : hai w (a0 + 2) 0 = A 0 := hS.1 0 (by decide)
    have r1 : hai w (a0 + 2) 1 = A 1 := hS.1 1 (by decide)
    have r2 : hai w (a0 + 2) 2 = A 2 := hS.1 2 (by decide)
    have r3 : hai w (a0 + 160) s = T 1 s := (hT.2.2 s hs).1
    have r4 : hai w (a0 + 163) s = T 4 s := (hT.2.2 s hs).2.2.2.1
    have r5 : vX6_seenChange w x1 (a0 + 160) = (if s = 0 then 0 else T 1 s - T 1 (s - 1)) := by rw [hx]; exact sch_v hT h200 hs
    rw [cl, r0, r3] at c3
    first | rw [cl, r0, r1, r3, r4] at c8 | rw [cl, r0, r3, r2, r5] at c8 | rw [cl, r1, r4, r2, r5] at c8 | rw [cl, r1, r4] at c8 | rw [r2, r5] at c8
    first | rw [cl, r0, r1, r3, r4] at c9 | rw [cl, r0, r3, r2, r5] at c9 | rw [cl, r1, r4, r2, r5] at c9 | rw [cl, r1, r4] at c9 | rw [r2, r5] at c9
    first | rw [cl, r0, r1, r3, r4] at c11 | rw [cl, r0, r3, r2, r5] at c11 | rw [cl, r1, r4, r2, r5] at c11 | rw [cl, r1, r4] at c11 | rw [r2, r5] at c11
    first | rw [cl, r0, r1, r3, r4] at c12 | rw [cl, r0, r3, r2, r5] at c12 | rw [cl, r1, r4, r2, r5] at c12 | rw [cl, r1, r4] at c12 | rw [r2, r5] at c12
    rw [cl]
    unfold vR32
    rw [if_pos c3, if_neg c8, if_neg c9, if_pos c11, if_pos c12]
  · intro c1 c2 c3 c8 c9 c11 c12
    have nz := made_y hT.1 h200 c1
    rw [show hfi w (a0 + 158) 6 = nI N from hT.1] at c2
    obtain ⟨s, hs, hx⟩ := iw_2 (by omega) (by omega) rfl c2
    have cl : x1.toNatClampNeg = s := by rw [hx]; exact m_cl (by omega)
    refine tp_okv (by rw [if_neg nz, if_neg c2]) ?_ rfl
    have r0 : hai w (a0 + 2) 0 = A 0 := hS.1 0 (by decide)
    have r1 : hai w (a0 + 2) 1 = A 1 := hS.1 1 (by decide)
    have r2 : hai w (a0 + 2) 2 = A 2 := hS.1 2 (by decide)
    have r3 : hai w (a0 + 160) s = T 1 s := (hT.2.2 s hs).1
    have r4 : hai w (a0 + 163) s = T 4 s := (hT.2.2 s hs).2.2.2.1
    have r5 : vX6_seenChange w x1 (a0 + 160) = (if s = 0 then 0 else T 1 s - T 1 (s - 1)) := by rw [hx]; exact sch_v hT h200 hs
    rw [cl, r0, r3] at c3
    first | rw [cl, r0, r1, r3, r4] at c8 | rw [cl, r0, r3, r2, r5] at c8 | rw [cl, r1, r4, r2, r5] at c8 | rw [cl, r1, r4] at c8 | rw [r2, r5] at c8
    first | rw [cl, r0, r1, r3, r4] at c9 | rw [cl, r0, r3, r2, r5] at c9 | rw [cl, r1, r4, r2, r5] at c9 | rw [cl, r1, r4] at c9 | rw [r2, r5] at c9
    first | rw [cl, r0, r1, r3, r4] at c11 | rw [cl, r0, r3, r2, r5] at c11 | rw [cl, r1, r4, r2, r5] at c11 | rw [cl, r1, r4] at c11 | rw [r2, r5] at c11
    first | rw [cl, r0, r1, r3, r4] at c12 | rw [cl, r0, r3, r2, r5] at c12 | rw [cl, r1, r4, r2, r5] at c12 | rw [cl, r1, r4] at c12 | rw [r2, r5] at c12
    rw [cl]
    unfold vR32
    rw [if_pos c3, if_neg c8, if_neg c9, if_pos c11, if_neg c12]
  · intro c1 c2 c3 c8 c9 c11
    have nz := made_y hT.1 h200 c1
    rw [show hfi w (a0 + 158) 6 = nI N from hT.1] at c2
    obtain ⟨s, hs, hx⟩ := iw_2 (by omega) (by omega) rfl c2
    have cl : x1.toNatClampNeg = s := by rw [hx]; exact m_cl (by omega)
    refine tp_okv (by rw [if_neg nz, if_neg c2]) ?_ rfl
    have r0 : hai w (a0 + 2) 0 = A 0 := hS.1 0 (by decide)
    have r1 : hai w (a0 + 2) 1 = A 1 := hS.1 1 (by decide)
    have r2 : hai w (a0 + 2) 2 = A 2 := hS.1 2 (by decide)
    have r3 : hai w (a0 + 160) s = T 1 s := (hT.2.2 s hs).1
    have r4 : hai w (a0 + 163) s = T 4 s := (hT.2.2 s hs).2.2.2.1
    have r5 : vX6_seenChange w x1 (a0 + 160) = (if s = 0 then 0 else T 1 s - T 1 (s - 1)) := by rw [hx]; exact sch_v hT h200 hs
    rw [cl, r0, r3] at c3
    first | rw [cl, r0, r1, r3, r4] at c8 | rw [cl, r0, r3, r2, r5] at c8 | rw [cl, r1, r4, r2, r5] at c8 | rw [cl, r1, r4] at c8 | rw [r2, r5] at c8
    first | rw [cl, r0, r1, r3, r4] at c9 | rw [cl, r0, r3, r2, r5] at c9 | rw [cl, r1, r4, r2, r5] at c9 | rw [cl, r1, r4] at c9 | rw [r2, r5] at c9
    first | rw [cl, r0, r1, r3, r4] at c11 | rw [cl, r0, r3, r2, r5] at c11 | rw [cl, r1, r4, r2, r5] at c11 | rw [cl, r1, r4] at c11 | rw [r2, r5] at c11
    rw [cl]
    unfold vR32
    rw [if_pos c3, if_neg c8, if_neg c9, if_neg c11]
  · intro c1 c2 c3 c8 c13 c14 c15
    have nz := made_y hT.1 h200 c1
    rw [show hfi w (a0 + 158) 6 = nI N from hT.1] at c2
    obtain ⟨s, hs, hx⟩ := iw_2 (by omega) (by omega) rfl c2
    have cl : x1.toNatClampNeg = s := by rw [hx]; exact m_cl (by omega)
    refine tp_okv (by rw [if_neg nz, if_neg c2]) ?_ rfl
    have r0 : hai w (a0 + 2) 0 = A 0 := hS.1 0 (by decide)
    have r1 : hai w (a0 + 2) 1 = A 1 := hS.1 1 (by decide)
    have r2 : hai w (a0 + 2) 2 = A 2 := hS.1 2 (by decide)
    have r3 : hai w (a0 + 160) s = T 1 s := (hT.2.2 s hs).1
    have r4 : hai w (a0 + 163) s = T 4 s := (hT.2.2 s hs).2.2.2.1
    have r5 : vX6_seenChange w x1 (a0 + 160) = (if s = 0 then 0 else T 1 s - T 1 (s - 1)) := by rw [hx]; exact sch_v hT h200 hs
    rw [cl, r0, r3] at c3
    first | rw [cl, r0, r1, r3, r4] at c8 | rw [cl, r0, r3, r2, r5] at c8 | rw [cl, r1, r4, r2, r5] at c8 | rw [cl, r1, r4] at c8 | rw [r2, r5] at c8
    first | rw [cl, r0, r1, r3, r4] at c13 | rw [cl, r0, r3, r2, r5] at c13 | rw [cl, r1, r4, r2, r5] at c13 | rw [cl, r1, r4] at c13 | rw [r2, r5] at c13
    first | rw [cl, r0, r1, r3, r4] at c14 | rw [cl, r0, r3, r2, r5] at c14 | rw [cl, r1, r4, r2, r5] at c14 | rw [cl, r1, r4] at c14 | rw [r2, r5] at c14
    first | rw [cl, r0, r1, r3, r4] at c15 | rw [cl, r0, r3, r2, r5] at c15 | rw [cl, r1, r4, r2, r5] at c15 | rw [cl, r1, r4] at c15 | rw [r2, r5] at c15
    rw [cl]
    unfold vR32
    rw [if_pos c3, if_pos c8, if_neg c13, if_pos c14, if_pos c15]
  · intro c1 c2 c3 c8 c13 c14 c15
    have nz := made_y hT.1 h200 c1
    rw [show hfi w (a0 + 158) 6 = nI N from hT.1] at c2
    obtain ⟨s, hs, hx⟩ := iw_2 (by omega) (by omega) rfl c2
    have cl : x1.toNatClampNeg = s := by rw [hx]; exact m_cl (by omega)
    refine tp_okv (by rw [if_neg nz, if_neg c2]) ?_ rfl
    have r0 : hai w (a0 + 2) 0 = A 0 := hS.1 0 (by decide)
    have r1 : hai w (a0 + 2) 1 = A 1 := hS.1 1 (by decide)
    have r2 : hai w (a0 + 2) 2 = A 2 := hS.1 2 (by decide)
    have r3 : hai w (a0 + 160) s = T 1 s := (hT.2.2 s hs).1
    have r4 : hai w (a0 + 163) s = T 4 s := (hT.2.2 s hs).2.2.2.1
    have r5 : vX6_seenChange w x1 (a0 + 160) = (if s = 0 then 0 else T 1 s - T 1 (s - 1)) := by rw [hx]; exact sch_v hT h200 hs
    rw [cl, r0, r3] at c3
    first | rw [cl, r0, r1, r3, r4] at c8 | rw [cl, r0, r3, r2, r5] at c8 | rw [cl, r1, r4, r2, r5] at c8 | rw [cl, r1, r4] at c8 | rw [r2, r5] at c8
    first | rw [cl, r0, r1, r3, r4] at c13 | rw [cl, r0, r3, r2, r5] at c13 | rw [cl, r1, r4, r2, r5] at c13 | rw [cl, r1, r4] at c13 | rw [r2, r5] at c13
    first | rw [cl, r0, r1, r3, r4] at c14 | rw [cl, r0, r3, r2, r5] at c14 | rw [cl, r1, r4, r2, r5] at c14 | rw [cl, r1, r4] at c14 | rw [r2, r5] at c14
    first | rw [cl, r0, r1, r3, r4] at c15 | rw [cl, r0, r3, r2, r5] at c15 | rw [cl, r1, r4, r2, r5] at c15 | rw [cl, r1, r4] at c15 | rw [r2, r5] at c15
    rw [cl]
    unfold vR32
    rw [if_pos c3, if_pos c8, if_neg c13, if_pos c14, if_neg c15]
  · intro c1 c2 c3 c8 c13 c14 c16 c17
    have nz := made_y hT.1 h200 c1
    rw [show hfi w (a0 + 158) 6 = nI N from hT.1] at c2
    obtain ⟨s, hs, hx⟩ := iw_2 (by omega) (by omega) rfl c2
    have cl : x1.toNatClampNeg = s := by rw [hx]; exact m_cl (by omega)
    refine tp_okv (by rw [if_neg nz, if_neg c2]) ?_ rfl
    have r0 : hai w (a0 + 2) 0 = A 0 := hS.1 0 (by decide)
    have r1 : hai w (a0 + 2) 1 = A 1 := hS.1 1 (by decide)
    have r2 : hai w (a0 + 2) 2 = A 2 := hS.1 2 (by decide)
    have r3 : hai w (a0 + 160) s = T 1 s := (hT.2.2 s hs).1
    have r4 : hai w (a0 + 163) s = T 4 s := (hT.2.2 s hs).2.2.2.1
    have r5 : vX6_seenChange w x1 (a0 + 160) = (if s = 0 then 0 else T 1 s - T 1 (s - 1)) := by rw [hx]; exact sch_v hT h200 hs
    rw [cl, r0, r3] at c3
    first | rw [cl, r0, r1, r3, r4] at c8 | rw [cl, r0, r3, r2, r5] at c8 | rw [cl, r1, r4, r2, r5] at c8 | rw [cl, r1, r4] at c8 | rw [r2, r5] at c8
    first | rw [cl, r0, r1, r3, r4] at c13 | rw [cl, r0, r3, r2, r5] at c13 | rw [cl, r1, r4, r2, r5] at c13 | rw [cl, r1, r4] at c13 | rw [r2, r5] at c13
    first | rw [cl, r0, r1, r3, r4] at c14 | rw [cl, r0, r3, r2, r5] at c14 | rw [cl, r1, r4, r2, r5] at c14 | rw [cl, r1, r4] at c14 | rw [r2, r5] at c14
    first | rw [cl, r0, r1, r3, r4] at c16 | rw [cl, r0, r3, r2, r5] at c16 | rw [cl, r1, r4, r2, r5] at c16 | rw [cl, r1, r4] at c16 | rw [r2, r5] at c16
    first | rw [cl, r0, r1, r3, r4] at c17 | rw [cl, r0, r3, r2, r5] at c17 | rw [cl, r1, r4, r2, r5] at c17 | rw [cl, r1, r4] at c17 | rw [r2, r5] at c17
    rw [cl]
    unfold vR32
    rw [if_pos c3, if_pos c8, if_neg c13, if_neg c14, if_pos c16, if_pos c17]
  · intro c1 c2 c3 c8 c13 c14 c16 c17
    have nz := made_y hT.1 h200 c1
    rw [show hfi w (a0 + 158) 6 = nI N from hT.1] at c2
    obtain ⟨s, hs, hx⟩ := iw_2 (by omega) (by omega) rfl c2
    have cl : x1.toNatClampNeg = s := by rw [hx]; exact m_cl (by omega)
    refine tp_okv (by rw [if_neg nz, if_neg c2]) ?_ rfl
    have r0 : hai w (a0 + 2) 0 = A 0 := hS.1 0 (by decide)
    have r1 : hai w (a0 + 2) 1 = A 1 := hS.1 1 (by decide)
    have r2 : hai w (a0 + 2) 2 = A 2 := hS.1 2 (by decide)
    have r3 : hai w (a0 + 160) s = T 1 s := (hT.2.2 s hs).1
    have r4 : hai w (a0 + 163) s = T 4 s := (hT.2.2 s hs).2.2.2.1
    have r5 : vX6_seenChange w x1 (a0 + 160) = (if s = 0 then 0 else T 1 s - T 1 (s - 1)) := by rw [hx]; exact sch_v hT h200 hs
    rw [cl, r0, r3] at c3
    first | rw [cl, r0, r1, r3, r4] at c8 | rw [cl, r0, r3, r2, r5] at c8 | rw [cl, r1, r4, r2, r5] at c8 | rw [cl, r1, r4] at c8 | rw [r2, r5] at c8
    first | rw [cl, r0, r1, r3, r4] at c13 | rw [cl, r0, r3, r2, r5] at c13 | rw [cl, r1, r4, r2, r5] at c13 | rw [cl, r1, r4] at c13 | rw [r2, r5] at c13
    first | rw [cl, r0, r1, r3, r4] at c14 | rw [cl, r0, r3, r2, r5] at c14 | rw [cl, r1, r4, r2, r5] at c14 | rw [cl, r1, r4] at c14 | rw [r2, r5] at c14
    first | rw [cl, r0, r1, r3, r4] at c16 | rw [cl, r0, r3, r2, r5] at c16 | rw [cl, r1, r4, r2, r5] at c16 | rw [cl, r1, r4] at c16 | rw [r2, r5] at c16
    first | rw [cl, r0, r1, r3, r4] at c17 | rw [cl, r0, r3, r2, r5] at c17 | rw [cl, r1, r4, r2, r5] at c17 | rw [cl, r1, r4] at c17 | rw [r2, r5] at c17
    rw [cl]
    unfold vR32
    rw [if_pos c3, if_pos c8, if_neg c13, if_neg c14, if_pos c16, if_neg c17]
  · intro c1 c2 c3 c8 c13 c14 c16
    have nz := made_y hT.1 h200 c1
    rw [show hfi w (a0 + 158) 6 = nI N from hT.1] at c2
    obtain ⟨s, hs, hx⟩ := iw_2 (by omega) (by omega) rfl c2
    have cl : x1.toNatClampNeg = s := by rw [hx]; exact m_cl (by omega)
    refine tp_okv (by rw [if_neg nz, if_neg c2]) ?_ rfl
    have r0 : hai w (a0 + 2) 0 = A 0 := hS.1 0 (by decide)
    have r1 : hai w (a0 + 2) 1 = A 1 := hS.1 1 (by decide)
    have r2 : hai w (a0 + 2) 2 = A 2 := hS.1 2 (by decide)
    have r3 : hai w (a0 + 160) s = T 1 s := (hT.2.2 s hs).1
    have r4 : hai w (a0 + 163) s = T 4 s := (hT.2.2 s hs).2.2.2.1
    have r5 : vX6_seenChange w x1 (a0 + 160) = (if s = 0 then 0 else T 1 s - T 1 (s - 1)) := by rw [hx]; exact sch_v hT h200 hs
    rw [cl, r0, r3] at c3
    first | rw [cl, r0, r1, r3, r4] at c8 | rw [cl, r0, r3, r2, r5] at c8 | rw [cl, r1, r4, r2, r5] at c8 | rw [cl, r1, r4] at c8 | rw [r2, r5] at c8
    first | rw [cl, r0, r1, r3, r4] at c13 | rw [cl, r0, r3, r2, r5] at c13 | rw [cl, r1, r4, r2, r5] at c13 | rw [cl, r1, r4] at c13 | rw [r2, r5] at c13
    first | rw [cl, r0, r1, r3, r4] at c14 | rw [cl, r0, r3, r2, r5] at c14 | rw [cl, r1, r4, r2, r5] at c14 | rw [cl, r1, r4] at c14 | rw [r2, r5] at c14
    first | rw [cl, r0, r1, r3, r4] at c16 | rw [cl, r0, r3, r2, r5] at c16 | rw [cl, r1, r4, r2, r5] at c16 | rw [cl, r1, r4] at c16 | rw [r2, r5] at c16
    rw [cl]
    unfold vR32
    rw [if_pos c3, if_pos c8, if_neg c13, if_neg c14, if_neg c16]
  · intro c1 c2 c3 c8 c13
    have nz := made_y hT.1 h200 c1
    rw [show hfi w (a0 + 158) 6 = nI N from hT.1] at c2
    obtain ⟨s, hs, hx⟩ := iw_2 (by omega) (by omega) rfl c2
    have cl : x1.toNatClampNeg = s := by rw [hx]; exact m_cl (by omega)
    refine tp_okv (by rw [if_neg nz, if_neg c2]) ?_ rfl
    have r0 : hai w (a0 + 2) 0 = A 0 := hS.1 0 (by decide)
    have r1 : hai w (a0 + 2) 1 = A 1 := hS.1 1 (by decide)
    have r2 : hai w (a0 + 2) 2 = A 2 := hS.1 2 (by decide)
    have r3 : hai w (a0 + 160) s = T 1 s := (hT.2.2 s hs).1
    have r4 : hai w (a0 + 163) s = T 4 s := (hT.2.2 s hs).2.2.2.1
    have r5 : vX6_seenChange w x1 (a0 + 160) = (if s = 0 then 0 else T 1 s - T 1 (s - 1)) := by rw [hx]; exact sch_v hT h200 hs
    rw [cl, r0, r3] at c3
    first | rw [cl, r0, r1, r3, r4] at c8 | rw [cl, r0, r3, r2, r5] at c8 | rw [cl, r1, r4, r2, r5] at c8 | rw [cl, r1, r4] at c8 | rw [r2, r5] at c8
    first | rw [cl, r0, r1, r3, r4] at c13 | rw [cl, r0, r3, r2, r5] at c13 | rw [cl, r1, r4, r2, r5] at c13 | rw [cl, r1, r4] at c13 | rw [r2, r5] at c13
    rw [cl]
    unfold vR32
    rw [if_pos c3, if_pos c8, if_pos c13]
  · intro c1 c2
    have nz := made_y hT.1 h200 c1
    rw [show hfi w (a0 + 158) 6 = nI N from hT.1] at c2
    exact tp_2 (by rw [if_neg nz, if_pos c2]) rfl
  · intro c1
    exact tp_1 (by rw [if_pos (made_n hT.1 h200 c1)]) rfl
set_option maxHeartbeats 4000000 in
set_option maxRecDepth 100000 in
theorem gX6_takeErrors_0 {G : mG} {w : mH} {Φ : mF} {a0 a1 a1_0 a0_0 n_a1_0 n_a0_0 : Nat} (h1 : hk w a1 = (6, 0)) (h2 : hfr w a1 0 = some a1_0) (h3 : hk w a0 = (6, 0)) (h4 : hfr w a0 0 = some a0_0) (h5 : hk w a1_0 = (16, n_a1_0)) (h6 : hk w a0_0 = (16, n_a0_0)) (s1 : n_a0_0 = n_a1_0) (s2 : n_a1_0 ≤ 70000) (k1 : ∀ w1 : mH, (mFr a0_0 (a0_0 + 1) w w1 ∧ ∀ j, j < n_a1_0 → hai w1 a0_0 j = hai w a1_0 j) → ∀ w2 : mH, (w2 = sfi w1 a0 6 (hfi w1 a1 6)) → Φ (.inl none) w2) : mW G mX6_takeErrors 3 0 0 0 [(0, .ref a0), (1, .ref a1)] [] w Φ := by
  refine mW_aload_n (j := 1) dX6_takeErrors_0 rfl rfl ?_
  refine mW_getR dX6_takeErrors_1 f_X6_9 h1 rfl h2 ?_
  refine mW_aload_n (j := 0) dX6_takeErrors_4 rfl rfl ?_
  refine mW_getR dX6_takeErrors_5 f_X6_9 h3 rfl h4 ?_
  refine mW_callSN (As := [.ref a1_0, .ref a0_0]) (rest := []) (kc2 := 0) (ks2 := 0) dX6_takeErrors_8 l_X6_84 rfl (rX10_copyRow (w := w) (a0 := a1_0) (a1 := a0_0) h5 h6 s1 s2) (Nat.le_of_ble_eq_true rfl) (by decide) rfl rfl mP_x (mP_k (fun w1 q1 => ?_))
  refine mW_aload_n (j := 0) dX6_takeErrors_11 rfl rfl ?_
  refine mW_aload_n (j := 1) dX6_takeErrors_12 rfl rfl ?_
  refine mW_get dX6_takeErrors_13 f_X6_30 (s2k (mS2.of q1.1.1) h1) rfl ?_
  refine mW_put (ty := .int) (w2 := sfi w1 a0 6 (hfi w1 a1 6)) dX6_takeErrors_16 p_X6_30 (s2k (mS2.of q1.1.1) h3) (Nat.le_of_ble_eq_true rfl) (by first | rfl | decide | (repeat' split) <;> rfl) rfl (hN_sfi _ _ _ _) (hk_sfi _ _ _ _) (mE_sfi (s2k (mS2.of q1.1.1) h3) (by decide) (ob_6_6 _ _ _)) ?_
  refine mW_nm (fun w2 e1 => ?_)
  exact mW_vret dX6_takeErrors_19 rfl (k1 w1 q1 w2 e1)
theorem rX6_takeErrors {G : mG} {w : mH} {a0 a1 : Nat} (z0 : zTra w a0) (z1 : zTra w a1) (s : a0 + 7 ≤ a1 ∨ a1 + 7 ≤ a0) : mC G mX6_takeErrors 3 0 0 [.ref a0, .ref a1] w (mP none (fun w' => mFr a0 (a0 + 2) w w' ∧ hfi w' a0 6 = hfi w a1 6 ∧ ∀ j, j < 201 → hai w' (a0 + 1) j = hai w (a1 + 1) j)) := by
  refine mC_of (by decide +kernel) rfl (Nat.le_of_ble_eq_true rfl) rfl ?_
  refine gX6_takeErrors_0 (a1_0 := a1 + 1) (a0_0 := a0 + 1) z1.1 z1.2.1 z0.1 z0.2.1 z1.2.2.2.2.2.2.2.1 z0.2.2.2.2.2.2.2.1 (by rfl) (by decide) ?_
  · intro w1 q1 w2 e1
    refine mP_of ⟨?_, ?_, fun j hj => ?_⟩
    · rw [e1]; exact mFr_sfi (q1.1.wide (by omega) (by omega)) (by omega) (by omega)
    · rw [e1, e_hfi_sfi, up2_at, q1.1.hfi (by omega)]
    · rw [e1, e_hai_sfi]; exact q1.2 j hj
abbrev mX10_hold : mM := (yX10_hold, cX10_hold, 1, (some .int), [])
theorem u455 : (Cond.fieldLink "LineFollowerBench" 58 "LineFollowerBench" "held" "LLineFollowerBench$Trace;" : Cond) ∈ mTs := mTs_in 455 (by decide +kernel) (by decide +kernel)
theorem f_X10_58 : mFld "LineFollowerBench" 58 10 8 := ⟨RX10, TX10, 12, "LineFollowerBench", rfl, by decide, in_X10, u455, Or.inl rfl, by decide⟩
theorem u1453 : (Cond.code ⟨"LineFollowerBench$Trace", "takeErrors", "(LLineFollowerBench$Trace;)V"⟩ prog_8_method_18_code 2 (none : Option ClassFile.FieldType) : Cond) ∈ mTs := mTs_in 1453 (by decide +kernel) (by decide +kernel)
theorem co_X6_takeErrors : mCode mX6_takeErrors := ⟨u1453, u82, by decide⟩
theorem u1450 : (Cond.methodLink "LineFollowerBench" 323 ⟨"LineFollowerBench$Trace", "takeErrors", "(LLineFollowerBench$Trace;)V"⟩ : Cond) ∈ mTs := mTs_in 1450 (by decide +kernel) (by decide +kernel)
theorem u1451 : (Cond.instanceMethod ⟨"LineFollowerBench$Trace", "takeErrors", "(LLineFollowerBench$Trace;)V"⟩ : Cond) ∈ mTs := mTs_in 1451 (by decide +kernel) (by decide +kernel)
theorem u1452 : (Cond.selects "LineFollowerBench$Trace" ⟨"LineFollowerBench$Trace", "takeErrors", "(LLineFollowerBench$Trace;)V"⟩ ⟨"LineFollowerBench$Trace", "takeErrors", "(LLineFollowerBench$Trace;)V"⟩ : Cond) ∈ mTs := mTs_in 1452 (by decide +kernel) (by decide +kernel)
theorem l_X10_323 : mLinkV "LineFollowerBench" 323 1 mX6_takeErrors := ⟨⟨by decide, by decide, by decide +kernel⟩, co_X6_takeErrors, u1450, u1451, u1452⟩
set_option maxHeartbeats 4000000 in
set_option maxRecDepth 100000 in
theorem gX10_hold_0 {G : mG} {w : mH} {Φ : mF} {a0 a0_7 a0_8 : Nat} (h1 : hk w a0 = (10, 0)) (h2 : hfr w a0 7 = some a0_7) (h3 : hk w a0_7 = (6, 0)) (h4 : hfr w a0 8 = some a0_8) (h5 : hk w a0_8 = (6, 0)) (h6 : zTra w a0_8) (h7 : zTra w a0_7) (s1 : (¬ ((vX6_isMade w a0_7) = 0)) → a0_8 + 7 ≤ a0_7 ∨ a0_7 + 7 ≤ a0_8) (k1 : (¬ ((vX6_isMade w a0_7) = 0)) → ∀ w1 : mH, (mFr a0_8 (a0_8 + 2) w w1 ∧ hfi w1 a0_8 6 = hfi w a0_7 6 ∧ ∀ j, j < 201 → hai w1 (a0_8 + 1) j = hai w (a0_7 + 1) j) → Φ (.inl (some (.int (hfi w1 a0_8 6)))) w1) (k2 : ((vX6_isMade w a0_7) = 0) → ∀ n, hN w ≤ n → Φ (.inr "java/lang/IllegalStateException") (snn w n)) : mW G mX10_hold 9 1 6 0 [(0, .ref a0)] [] w Φ := by
  refine mW_aload_n (j := 0) dX10_hold_0 rfl rfl ?_
  refine mW_getR dX10_hold_1 f_X10_54 h1 rfl h2 ?_
  refine mW_callVe (As := []) (rest := []) (kc2 := 1) (ks2 := 6) dX10_hold_4 l_X10_271 rfl h3 rfl (by decide) (qX6_isMade (w := w) (a0 := a0_7) h3) (Nat.le_of_ble_eq_true rfl) (by decide) rfl rfl ?_
  refine mW_if_ne (tgt := 21) dX10_hold_7 (by decide) (fun c1 => ?_) (fun c1 => ?_)
  · refine mW_aload_n (j := 0) dX10_hold_21 rfl rfl ?_
    refine mW_getR dX10_hold_22 f_X10_58 h1 rfl h4 ?_
    refine mW_aload_n (j := 0) dX10_hold_25 rfl rfl ?_
    refine mW_getR dX10_hold_26 f_X10_54 h1 rfl h2 ?_
    refine mW_callV (As := [.ref a0_7]) (rest := []) (kc2 := 1) (ks2 := 6) dX10_hold_29 l_X10_323 rfl h5 rfl (by decide) (rX6_takeErrors (w := w) (a0 := a0_8) (a1 := a0_7) h6 h7 (s1 c1)) (Nat.le_of_ble_eq_true rfl) (by decide) rfl rfl mP_x (mP_k (fun w1 q1 => ?_))
    refine mW_aload_n (j := 0) dX10_hold_32 rfl rfl ?_
    refine mW_getR dX10_hold_33 f_X10_58 (s2k (mS2.of q1.1.1) h1) rfl (s2r (mS2.of q1.1.1) h4) ?_
    refine mW_get dX10_hold_36 f_X10_276 (s2k (mS2.of q1.1.1) h5) rfl ?_
    exact mW_iret dX10_hold_39 rfl (k1 c1 w1 q1)
  · exact mW_thrW (text := "there is no trace") (names := ["java/lang/RuntimeException", "java/lang/Exception"]) dX10_hold_10 dX10_hold_13 dX10_hold_14 dX10_hold_17 dX10_hold_20 th_120_124 (by decide +kernel) rfl (Nat.le_of_ble_eq_true rfl) (by decide) (by decide) (by decide) (k2 c1)
theorem tX10_hold {G : mG} {w : mH} {a0 : Nat} {N : Nat} {T : Nat → Nat → Int32} (z : zBen w a0) (hT : tRw w (a0 + 158) T N) (h200 : N ≤ 200) : mC G mX10_hold 9 1 6 [.ref a0] w (tpO "java/lang/IllegalStateException" "" "" (if N = 0 then 1 else 0) (.int (nI N)) (fun u => u = w) (fun u => mFr (a0 + 165) (a0 + 167) w u ∧ hfi u (a0 + 165) 6 = nI N ∧ ∀ j, j ≤ N → hai u (a0 + 166) j = T 0 j)) := by
  refine mC_of (by decide +kernel) rfl (Nat.le_of_ble_eq_true rfl) rfl ?_
  refine gX10_hold_0 (a0_7 := a0 + 158) (a0_8 := a0 + 165) z.1 z.2.2.2.2.2.2.1 z.2.2.2.2.2.2.2.2.2.2.2.2.2.2.2.2.1.1 z.2.2.2.2.2.2.2.1 z.2.2.2.2.2.2.2.2.2.2.2.2.2.2.2.2.2.1.1 z.2.2.2.2.2.2.2.2.2.2.2.2.2.2.2.2.2.1 z.2.2.2.2.2.2.2.2.2.2.2.2.2.2.2.2.1 (by intro c1; omega) ?_ ?_
  · intro c1 w1 q1
    have nz := made_y hT.1 h200 c1
    have e6 : hfi w1 (a0 + 165) 6 = nI N := by rw [q1.2.1]; exact hT.1
    refine tp_okv (by rw [if_neg nz]) (by rw [e6]) ⟨q1.1.wide (by omega) (by omega), e6, fun j hj => ?_⟩
    rw [q1.2.2 j (by omega)]
    exact hT.2.1 j hj
  · intro c1
    exact tp_1 (by rw [if_pos (made_n hT.1 h200 c1)]) rfl
abbrev mX10_compare : mM := (yX10_compare, cX10_compare, 2, (some .int), [])
theorem u1475 : (Cond.code ⟨"LineFollowerBench$Trace", "lesserErrors", "(LLineFollowerBench$Trace;)I"⟩ prog_8_method_21_code 4 (some .int) : Cond) ∈ mTs := mTs_in 1475 (by decide +kernel) (by decide +kernel)
theorem co_X6_lesserErrors : mCode mX6_lesserErrors := ⟨u1475, u82, by decide⟩
theorem u1472 : (Cond.methodLink "LineFollowerBench" 337 ⟨"LineFollowerBench$Trace", "lesserErrors", "(LLineFollowerBench$Trace;)I"⟩ : Cond) ∈ mTs := mTs_in 1472 (by decide +kernel) (by decide +kernel)
theorem u1473 : (Cond.instanceMethod ⟨"LineFollowerBench$Trace", "lesserErrors", "(LLineFollowerBench$Trace;)I"⟩ : Cond) ∈ mTs := mTs_in 1473 (by decide +kernel) (by decide +kernel)
theorem u1474 : (Cond.selects "LineFollowerBench$Trace" ⟨"LineFollowerBench$Trace", "lesserErrors", "(LLineFollowerBench$Trace;)I"⟩ ⟨"LineFollowerBench$Trace", "lesserErrors", "(LLineFollowerBench$Trace;)I"⟩ : Cond) ∈ mTs := mTs_in 1474 (by decide +kernel) (by decide +kernel)
theorem l_X10_337 : mLinkV "LineFollowerBench" 337 1 mX6_lesserErrors := ⟨⟨by decide, by decide, by decide +kernel⟩, co_X6_lesserErrors, u1472, u1473, u1474⟩
theorem u1471 : (Cond.code ⟨"LineFollowerBench$Trace", "firstDifference", "(LLineFollowerBench$Trace;)I"⟩ prog_8_method_20_code 3 (some .int) : Cond) ∈ mTs := mTs_in 1471 (by decide +kernel) (by decide +kernel)
theorem co_X6_firstDifference : mCode mX6_firstDifference := ⟨u1471, u82, by decide⟩
theorem u1468 : (Cond.methodLink "LineFollowerBench" 334 ⟨"LineFollowerBench$Trace", "firstDifference", "(LLineFollowerBench$Trace;)I"⟩ : Cond) ∈ mTs := mTs_in 1468 (by decide +kernel) (by decide +kernel)
theorem u1469 : (Cond.instanceMethod ⟨"LineFollowerBench$Trace", "firstDifference", "(LLineFollowerBench$Trace;)I"⟩ : Cond) ∈ mTs := mTs_in 1469 (by decide +kernel) (by decide +kernel)
theorem u1470 : (Cond.selects "LineFollowerBench$Trace" ⟨"LineFollowerBench$Trace", "firstDifference", "(LLineFollowerBench$Trace;)I"⟩ ⟨"LineFollowerBench$Trace", "firstDifference", "(LLineFollowerBench$Trace;)I"⟩ : Cond) ∈ mTs := mTs_in 1470 (by decide +kernel) (by decide +kernel)
theorem l_X10_334 : mLinkV "LineFollowerBench" 334 1 mX6_firstDifference := ⟨⟨by decide, by decide, by decide +kernel⟩, co_X6_firstDifference, u1468, u1469, u1470⟩
theorem u1467 : (Cond.code ⟨"LineFollowerBench$Trace", "greatestDifference", "(LLineFollowerBench$Trace;)I"⟩ prog_8_method_19_code 4 (some .int) : Cond) ∈ mTs := mTs_in 1467 (by decide +kernel) (by decide +kernel)
theorem co_X6_greatestDifference : mCode mX6_greatestDifference := ⟨u1467, u82, by decide⟩
theorem u1464 : (Cond.methodLink "LineFollowerBench" 330 ⟨"LineFollowerBench$Trace", "greatestDifference", "(LLineFollowerBench$Trace;)I"⟩ : Cond) ∈ mTs := mTs_in 1464 (by decide +kernel) (by decide +kernel)
theorem u1465 : (Cond.instanceMethod ⟨"LineFollowerBench$Trace", "greatestDifference", "(LLineFollowerBench$Trace;)I"⟩ : Cond) ∈ mTs := mTs_in 1465 (by decide +kernel) (by decide +kernel)
theorem u1466 : (Cond.selects "LineFollowerBench$Trace" ⟨"LineFollowerBench$Trace", "greatestDifference", "(LLineFollowerBench$Trace;)I"⟩ ⟨"LineFollowerBench$Trace", "greatestDifference", "(LLineFollowerBench$Trace;)I"⟩ : Cond) ∈ mTs := mTs_in 1466 (by decide +kernel) (by decide +kernel)
theorem l_X10_330 : mLinkV "LineFollowerBench" 330 1 mX6_greatestDifference := ⟨⟨by decide, by decide, by decide +kernel⟩, co_X6_greatestDifference, u1464, u1465, u1466⟩
set_option maxHeartbeats 4000000 in
set_option maxRecDepth 100000 in
theorem gX10_compare_0 {G : mG} {w : mH} {Φ : mF} {a0 : Nat} {x1 : Int32} {a0_7 a0_8 : Nat} {e_a0_7 : Nat → Nat} {N_a0_7 : Nat} {e'_a0_8 : Nat → Nat} {N'_a0_8 : Nat} (h1 : hk w a0 = (10, 0)) (h2 : hfr w a0 7 = some a0_7) (h3 : hk w a0_7 = (6, 0)) (h4 : hfr w a0 8 = some a0_8) (h5 : hk w a0_8 = (6, 0)) (h6 : tAt w a0_7 e_a0_7 N_a0_7) (h7 : tAt w a0_8 e'_a0_8 N'_a0_8) (k1 : ((vX6_isMade w a0_7) = 0) → ∀ n, hN w ≤ n → Φ (.inr "java/lang/IllegalStateException") (snn w n)) (k2 : (¬ ((vX6_isMade w a0_7) = 0)) → (¬ ((vX6_isMade w a0_8) = 0)) → (¬ ((vX10_isWithin x1 0 2) = 0)) → (¬ (x1 = 0)) → (¬ (x1 = 1)) → Φ (.inl (some (.int (fLes (hai w (e_a0_7 0)) (hai w (e'_a0_8 0)) (min N_a0_7 N'_a0_8 + 1))))) w) (k3 : (¬ ((vX6_isMade w a0_7) = 0)) → (¬ ((vX6_isMade w a0_8) = 0)) → (¬ ((vX10_isWithin x1 0 2) = 0)) → (¬ (x1 = 0)) → (x1 = 1) → Φ (.inl (some (.int (fFst (hai w (e_a0_7 0)) (hai w (e'_a0_8 0)) 0 (min N_a0_7 N'_a0_8 + 1))))) w) (k4 : (¬ ((vX6_isMade w a0_7) = 0)) → (¬ ((vX6_isMade w a0_8) = 0)) → (¬ ((vX10_isWithin x1 0 2) = 0)) → (x1 = 0) → Φ (.inl (some (.int (fDif (hai w (e_a0_7 0)) (hai w (e'_a0_8 0)) (min N_a0_7 N'_a0_8 + 1))))) w) (k5 : (¬ ((vX6_isMade w a0_7) = 0)) → (¬ ((vX6_isMade w a0_8) = 0)) → ((vX10_isWithin x1 0 2) = 0) → ∀ n, hN w ≤ n → Φ (.inr "java/lang/IllegalArgumentException") (snn w n)) (k6 : (¬ ((vX6_isMade w a0_7) = 0)) → ((vX6_isMade w a0_8) = 0) → ∀ n, hN w ≤ n → Φ (.inr "java/lang/IllegalStateException") (snn w n)) : mW G mX10_compare 9 1 6 0 [(0, .ref a0), (1, .int x1)] [] w Φ := by
  refine mW_aload_n (j := 0) dX10_compare_0 rfl rfl ?_
  refine mW_getR dX10_compare_1 f_X10_54 h1 rfl h2 ?_
  refine mW_callVe (As := []) (rest := []) (kc2 := 1) (ks2 := 6) dX10_compare_4 l_X10_271 rfl h3 rfl (by decide) (qX6_isMade (w := w) (a0 := a0_7) h3) (Nat.le_of_ble_eq_true rfl) (by decide) rfl rfl ?_
  refine mW_if_eq (tgt := 20) dX10_compare_7 (by decide) (fun c1 => ?_) (fun c1 => ?_)
  · exact mW_thrW (text := "there is no trace, or none is held") (names := ["java/lang/RuntimeException", "java/lang/Exception"]) dX10_compare_20 dX10_compare_23 dX10_compare_24 dX10_compare_27 dX10_compare_30 th_120_124 (by decide +kernel) rfl (Nat.le_of_ble_eq_true rfl) (by decide) (by decide) (by decide) (k1 c1)
  · refine mW_aload_n (j := 0) dX10_compare_10 rfl rfl ?_
    refine mW_getR dX10_compare_11 f_X10_58 h1 rfl h4 ?_
    refine mW_callVe (As := []) (rest := []) (kc2 := 1) (ks2 := 6) dX10_compare_14 l_X10_271 rfl h5 rfl (by decide) (qX6_isMade (w := w) (a0 := a0_8) h5) (Nat.le_of_ble_eq_true rfl) (by decide) rfl rfl ?_
    refine mW_if_ne (tgt := 31) dX10_compare_17 (by decide) (fun c2 => ?_) (fun c2 => ?_)
    · refine mW_iload_n (j := 1) dX10_compare_31 rfl rfl ?_
      refine mW_iconst (v := 0) dX10_compare_32 (by decide) ?_
      refine mW_iconst (v := 2) dX10_compare_33 (by decide) ?_
      refine mW_callSe (As := [.int x1, .int 0, .int 2]) (rest := []) (kc2 := 1) (ks2 := 6) dX10_compare_34 l_X10_78 rfl (qX10_isWithin (w := w) (x0 := x1) (x1 := 0) (x2 := 2)) (Nat.le_of_ble_eq_true rfl) (by decide) rfl rfl ?_
      refine mW_if_ne (tgt := 51) dX10_compare_37 (by decide) (fun c3 => ?_) (fun c3 => ?_)
      · refine mW_iload_n (j := 1) dX10_compare_51 rfl rfl ?_
        refine mW_if_ne (tgt := 67) dX10_compare_52 (by decide) (fun c4 => ?_) (fun c4 => ?_)
        · refine mW_iload_n (j := 1) dX10_compare_67 rfl rfl ?_
          refine mW_iconst (v := 1) dX10_compare_68 (by decide) ?_
          refine mW_icmp_ne (tgt := 86) dX10_compare_69 (by decide) (fun c5 => ?_) (fun c5 => ?_)
          · refine mW_aload_n (j := 0) dX10_compare_86 rfl rfl ?_
            refine mW_getR dX10_compare_87 f_X10_54 h1 rfl h2 ?_
            refine mW_aload_n (j := 0) dX10_compare_90 rfl rfl ?_
            refine mW_getR dX10_compare_91 f_X10_58 h1 rfl h4 ?_
            refine mW_callVe (As := [.ref a0_8]) (rest := []) (kc2 := 1) (ks2 := 6) dX10_compare_94 l_X10_337 rfl h3 rfl (by decide) (qX6_lesserErrors (w := w) (a0 := a0_7) (a1 := a0_8) h6 h7) (Nat.le_of_ble_eq_true rfl) (by decide) rfl rfl ?_
            exact mW_iret dX10_compare_97 rfl (k2 c1 c2 c3 c4 c5)
          · refine mW_aload_n (j := 0) dX10_compare_72 rfl rfl ?_
            refine mW_getR dX10_compare_73 f_X10_54 h1 rfl h2 ?_
            refine mW_aload_n (j := 0) dX10_compare_76 rfl rfl ?_
            refine mW_getR dX10_compare_77 f_X10_58 h1 rfl h4 ?_
            refine mW_callVe (As := [.ref a0_8]) (rest := []) (kc2 := 1) (ks2 := 6) dX10_compare_80 l_X10_334 rfl h3 rfl (by decide) (qX6_firstDifference (w := w) (a0 := a0_7) (a1 := a0_8) h6 h7) (Nat.le_of_ble_eq_true rfl) (by decide) rfl rfl ?_
            refine mW_goto (tgt := 97) dX10_compare_83 (by decide) ?_
            exact mW_iret dX10_compare_97 rfl (k3 c1 c2 c3 c4 c5)
        · refine mW_aload_n (j := 0) dX10_compare_55 rfl rfl ?_
          refine mW_getR dX10_compare_56 f_X10_54 h1 rfl h2 ?_
          refine mW_aload_n (j := 0) dX10_compare_59 rfl rfl ?_
          refine mW_getR dX10_compare_60 f_X10_58 h1 rfl h4 ?_
          refine mW_callVe (As := [.ref a0_8]) (rest := []) (kc2 := 1) (ks2 := 6) dX10_compare_63 l_X10_330 rfl h3 rfl (by decide) (qX6_greatestDifference (w := w) (a0 := a0_7) (a1 := a0_8) h6 h7) (Nat.le_of_ble_eq_true rfl) (by decide) rfl rfl ?_
          exact mW_iret dX10_compare_66 rfl (k4 c1 c2 c3 c4)
      · exact mW_thrW (text := "no such comparison") (names := ["java/lang/RuntimeException", "java/lang/Exception"]) dX10_compare_40 dX10_compare_43 dX10_compare_44 dX10_compare_47 dX10_compare_50 th_96_100 (by decide +kernel) rfl (Nat.le_of_ble_eq_true rfl) (by decide) (by decide) (by decide) (k5 c1 c2 c3)
    · exact mW_thrW (text := "there is no trace, or none is held") (names := ["java/lang/RuntimeException", "java/lang/Exception"]) dX10_compare_20 dX10_compare_23 dX10_compare_24 dX10_compare_27 dX10_compare_30 th_120_124 (by decide +kernel) rfl (Nat.le_of_ble_eq_true rfl) (by decide) (by decide) (by decide) (k6 c1 c2)
theorem tX10_compare {G : mG} {w : mH} {a0 : Nat} {x1 : Int32} {N : Nat} {T : Nat → Nat → Int32} {M : Nat} (z : zBen w a0) (hT : tRw w (a0 + 158) T N) (h200 : N ≤ 200) (hM : hfi w (a0 + 165) 6 = nI M) (hM200 : M ≤ 200) : mC G mX10_compare 9 1 6 [.ref a0, .int x1] w (tpO "java/lang/IllegalStateException" "java/lang/IllegalArgumentException" "" (if N = 0 then 1 else if M = 0 then 1 else if vX10_isWithin x1 0 2 = 0 then 2 else 0) (.int (vCmp (hai w (a0 + 159)) (hai w (a0 + 166)) (min N M + 1) x1)) (fun u => u = w) (fun u => u = w)) := by
  refine mC_of (by decide +kernel) rfl (Nat.le_of_ble_eq_true rfl) rfl ?_
  refine gX10_compare_0 (a0_7 := a0 + 158) (a0_8 := a0 + 165) z.1 z.2.2.2.2.2.2.1 z.2.2.2.2.2.2.2.2.2.2.2.2.2.2.2.2.1.1 z.2.2.2.2.2.2.2.1 z.2.2.2.2.2.2.2.2.2.2.2.2.2.2.2.2.2.1.1 (tAt_of (z.2.2.2.2.2.2.2.2.2.2.2.2.2.2.2.2.1) hT.1 h200) (tAt_of (z.2.2.2.2.2.2.2.2.2.2.2.2.2.2.2.2.2.1) hM hM200) ?_ ?_ ?_ ?_ ?_ ?_
  · intro c1
    exact tp_1 (by rw [if_pos (made_n hT.1 h200 c1)]) rfl
  · intro c1 c2 c3 c4 c5
    have nz := made_y hT.1 h200 c1
    have nm := made_y hM hM200 c2
    exact tp_okv (by rw [if_neg nz, if_neg nm, if_neg c3]) (by unfold vCmp; rw [if_neg c4, if_neg c5]) rfl
  · intro c1 c2 c3 c4 c5
    have nz := made_y hT.1 h200 c1
    have nm := made_y hM hM200 c2
    exact tp_okv (by rw [if_neg nz, if_neg nm, if_neg c3]) (by unfold vCmp; rw [if_neg c4, if_pos c5]) rfl
  · intro c1 c2 c3 c4
    have nz := made_y hT.1 h200 c1
    have nm := made_y hM hM200 c2
    exact tp_okv (by rw [if_neg nz, if_neg nm, if_neg c3]) (by unfold vCmp; rw [if_pos c4]) rfl
  · intro c1 c2 c3
    have nz := made_y hT.1 h200 c1
    have nm := made_y hM hM200 c2
    exact tp_2 (by rw [if_neg nz, if_neg nm, if_pos c3]) rfl
  · intro c1 c2
    have nz := made_y hT.1 h200 c1
    exact tp_1 (by rw [if_neg nz, if_pos (made_n hM hM200 c2)]) rfl
abbrev mX10_found : mM := (yX10_found, cX10_found, 4, (some .int), [])
theorem u1486 : (Cond.code ⟨"LineFollowerBench", "foundBy", "(Z)LLineFollowerBench$Found;"⟩ prog_1_method_35_code 2 (some (.object "LineFollowerBench$Found")) : Cond) ∈ mTs := mTs_in 1486 (by decide +kernel) (by decide +kernel)
theorem co_X10_foundBy : mCode mX10_foundBy := ⟨u1486, u70, by decide⟩
theorem u1483 : (Cond.methodLink "LineFollowerBench" 351 ⟨"LineFollowerBench", "foundBy", "(Z)LLineFollowerBench$Found;"⟩ : Cond) ∈ mTs := mTs_in 1483 (by decide +kernel) (by decide +kernel)
theorem u1485 : (Cond.instanceMethod ⟨"LineFollowerBench", "foundBy", "(Z)LLineFollowerBench$Found;"⟩ : Cond) ∈ mTs := mTs_in 1485 (by decide +kernel) (by decide +kernel)
theorem u36 : (Cond.selects "LineFollowerBench" ⟨"LineFollowerBench", "foundBy", "(Z)LLineFollowerBench$Found;"⟩ ⟨"LineFollowerBench", "foundBy", "(Z)LLineFollowerBench$Found;"⟩ : Cond) ∈ mTs := mTs_in 36 (by decide +kernel) (by decide +kernel)
theorem l_X10_351 : mLinkV "LineFollowerBench" 351 1 mX10_foundBy := ⟨⟨by decide, by decide, by decide +kernel⟩, co_X10_foundBy, u1483, u1485, u36⟩
theorem u428 : (Cond.fieldLink "LineFollowerBench" 355 "LineFollowerBench$Found" "isMade" "Z" : Cond) ∈ mTs := mTs_in 428 (by decide +kernel) (by decide +kernel)
theorem f_X10_355 : mFld "LineFollowerBench" 355 0 0 := ⟨RX0, TX0, 4, "LineFollowerBench$Found", rfl, by decide, in_X0, u428, Or.inl rfl, by decide⟩
theorem u437 : (Cond.fieldLink "LineFollowerBench" 364 "LineFollowerBench$Found" "greater" "I" : Cond) ∈ mTs := mTs_in 437 (by decide +kernel) (by decide +kernel)
theorem f_X10_364 : mFld "LineFollowerBench" 364 0 3 := ⟨RX0, TX0, 4, "LineFollowerBench$Found", rfl, by decide, in_X0, u437, Or.inl rfl, by decide⟩
theorem u431 : (Cond.fieldLink "LineFollowerBench" 361 "LineFollowerBench$Found" "gains" "[I" : Cond) ∈ mTs := mTs_in 431 (by decide +kernel) (by decide +kernel)
theorem f_X10_361 : mFld "LineFollowerBench" 361 0 1 := ⟨RX0, TX0, 4, "LineFollowerBench$Found", rfl, by decide, in_X0, u431, Or.inl rfl, by decide⟩
set_option maxHeartbeats 4000000 in
set_option maxRecDepth 100000 in
theorem gX10_found_0 {G : mG} {w : mH} {Φ : mF} {a0 : Nat} {x1 x2 : Int32} {a0_10 a0_11 vX10_foundByx1a0_10a0_11_1 n_vX10_foundByx1a0_10a0_11_1 : Nat} (h1 : hk w a0 = (10, 0)) (h2 : hfr w a0 10 = some a0_10) (h3 : hfr w a0 11 = some a0_11) (h4 : hk w (vX10_foundBy x1 a0_10 a0_11) = (0, 0)) (h5 : hfr w (vX10_foundBy x1 a0_10 a0_11) 1 = some vX10_foundByx1a0_10a0_11_1) (h6 : hk w vX10_foundByx1a0_10a0_11_1 = (16, n_vX10_foundByx1a0_10a0_11_1)) (s1 : (¬ ((hfi w (vX10_foundBy x1 a0_10 a0_11) 0) = 0)) → (¬ ((vX10_isWithin x2 0 3) = 0)) → (¬ (3 ≤ x2)) → vp_in x2 n_vX10_foundByx1a0_10a0_11_1) (k1 : (¬ ((hfi w (vX10_foundBy x1 a0_10 a0_11) 0) = 0)) → (¬ ((vX10_isWithin x2 0 3) = 0)) → (3 ≤ x2) → Φ (.inl (some (.int (hfi w (vX10_foundBy x1 a0_10 a0_11) 3)))) w) (k2 : (¬ ((hfi w (vX10_foundBy x1 a0_10 a0_11) 0) = 0)) → (¬ ((vX10_isWithin x2 0 3) = 0)) → (¬ (3 ≤ x2)) → Φ (.inl (some (.int (hai w vX10_foundByx1a0_10a0_11_1 x2.toNatClampNeg)))) w) (k3 : (¬ ((hfi w (vX10_foundBy x1 a0_10 a0_11) 0) = 0)) → ((vX10_isWithin x2 0 3) = 0) → ∀ n, hN w ≤ n → Φ (.inr "java/lang/IllegalArgumentException") (snn w n)) (k4 : ((hfi w (vX10_foundBy x1 a0_10 a0_11) 0) = 0) → ∀ n, hN w ≤ n → Φ (.inr "java/lang/IllegalStateException") (snn w n)) : mW G mX10_found 9 1 6 0 [(0, .ref a0), (1, .int x1), (2, .int x2)] [] w Φ := by
  refine mW_aload_n (j := 0) dX10_found_0 rfl rfl ?_
  refine mW_iload_n (j := 1) dX10_found_1 rfl rfl ?_
  refine mW_callVe (As := [.int x1]) (rest := []) (kc2 := 1) (ks2 := 6) dX10_found_2 l_X10_351 rfl h1 rfl (by decide) (qX10_foundBy (w := w) (a0 := a0) (x1 := x1) h1 h2 h3) (Nat.le_of_ble_eq_true rfl) (by decide) rfl rfl ?_
  refine mW_astore_n (lv2 := [(3, .ref (vX10_foundBy x1 a0_10 a0_11)), (0, .ref a0), (1, .int x1), (2, .int x2)]) dX10_found_5 rfl (by decide) rfl ?_
  refine mW_aload_n (j := 0) dX10_found_6 rfl rfl ?_
  refine mW_get dX10_found_7 f_X10_355 h4 rfl ?_
  refine mW_if_ne (tgt := 24) dX10_found_10 (by decide) (fun c1 => ?_) (fun c1 => ?_)
  · refine mW_iload_n (j := 3) dX10_found_24 rfl rfl ?_
    refine mW_iconst (v := 0) dX10_found_25 (by decide) ?_
    refine mW_iconst (v := 3) dX10_found_26 (by decide) ?_
    refine mW_callSe (As := [.int x2, .int 0, .int 3]) (rest := []) (kc2 := 1) (ks2 := 6) dX10_found_27 l_X10_78 rfl (qX10_isWithin (w := w) (x0 := x2) (x1 := 0) (x2 := 3)) (Nat.le_of_ble_eq_true rfl) (by decide) rfl rfl ?_
    refine mW_if_ne (tgt := 44) dX10_found_30 (by decide) (fun c2 => ?_) (fun c2 => ?_)
    · refine mW_iload_n (j := 3) dX10_found_44 rfl rfl ?_
      refine mW_iconst (v := 3) dX10_found_45 (by decide) ?_
      refine mW_icmp_ge (tgt := 58) dX10_found_46 (by decide) (fun c3 => ?_) (fun c3 => ?_)
      · refine mW_aload_n (j := 0) dX10_found_58 rfl rfl ?_
        refine mW_get dX10_found_59 f_X10_364 h4 rfl ?_
        exact mW_iret dX10_found_62 rfl (k1 c1 c2 c3)
      · refine mW_aload_n (j := 0) dX10_found_49 rfl rfl ?_
        refine mW_getR dX10_found_50 f_X10_361 h4 rfl h5 ?_
        refine mW_iload_n (j := 3) dX10_found_53 rfl rfl ?_
        refine mW_ialdJ dX10_found_54 h6 (s1 c1 c2 c3) rfl ?_
        refine mW_goto (tgt := 62) dX10_found_55 (by decide) ?_
        exact mW_iret dX10_found_62 rfl (k2 c1 c2 c3)
    · exact mW_thrW (text := "no such part of what was found") (names := ["java/lang/RuntimeException", "java/lang/Exception"]) dX10_found_33 dX10_found_36 dX10_found_37 dX10_found_40 dX10_found_43 th_96_100 (by decide +kernel) rfl (Nat.le_of_ble_eq_true rfl) (by decide) (by decide) (by decide) (k3 c1 c2)
  · exact mW_thrW (text := "nothing was found yet") (names := ["java/lang/RuntimeException", "java/lang/Exception"]) dX10_found_13 dX10_found_16 dX10_found_17 dX10_found_20 dX10_found_23 th_120_124 (by decide +kernel) rfl (Nat.le_of_ble_eq_true rfl) (by decide) (by decide) (by decide) (k4 c1)
theorem tX10_found {G : mG} {w : mH} {a0 : Nat} {x1 : Int32} {x2 : Int32}  (z : zBen w a0) : mC G mX10_found 9 1 6 [.ref a0, .int x1, .int x2] w (tpO "java/lang/IllegalStateException" "java/lang/IllegalArgumentException" "" (if hfi w (vX10_foundBy x1 (a0 + 190) (a0 + 192)) 0 = 0 then 1 else if vX10_isWithin x2 0 3 = 0 then 2 else 0) (.int (if x2 = 3 then hfi w (vX10_foundBy x1 (a0 + 190) (a0 + 192)) 3 else hai w ((vX10_foundBy x1 (a0 + 190) (a0 + 192)) + 1) x2.toNatClampNeg)) (fun u => u = w) (fun u => u = w)) := by
  refine mC_of (by decide +kernel) rfl (Nat.le_of_ble_eq_true rfl) rfl ?_
  refine gX10_found_0 (a0_10 := a0 + 190) (a0_11 := a0 + 192) z.1 z.2.2.2.2.2.2.2.2.2.1 z.2.2.2.2.2.2.2.2.2.2.1 (fo_z z).1 (fo_z z).2.1 (fo_z z).2.2 (by intro c1 c2 c3; obtain ⟨s, hs, hx⟩ := iw_N (n := 3) (by decide) rfl c2; rw [hx, show (3 : Int32) = nI 3 from rfl, m_le (by omega) (by omega)] at c3; rw [hx]; exact m_vp (by omega) (by decide)) ?_ ?_ ?_ ?_
  · intro c1 c2 c3
    obtain ⟨s, hs, hx⟩ := iw_N (n := 3) (by decide) rfl c2
    rw [hx, show (3 : Int32) = nI 3 from rfl, m_le (by omega) (by omega)] at c3
    exact tp_okv (by rw [if_neg c1, if_neg c2]) (by rw [if_pos (by rw [hx, show s = 3 by omega]; rfl)]) rfl
  · intro c1 c2 c3
    exact tp_okv (by rw [if_neg c1, if_neg c2]) (by rw [if_neg (fun q => c3 (by rw [q]; decide))]) rfl
  · intro c1 c2
    exact tp_2 (by rw [if_neg c1, if_pos c2]) rfl
  · intro c1
    exact tp_1 (by rw [if_pos c1]) rfl
abbrev mX10_foundCost : mM := (yX10_foundCost, cX10_foundCost, 3, (some .long), [])
theorem u434 : (Cond.fieldLink "LineFollowerBench" 367 "LineFollowerBench$Found" "cost" "J" : Cond) ∈ mTs := mTs_in 434 (by decide +kernel) (by decide +kernel)
theorem f_X10_367 : mFld "LineFollowerBench" 367 0 2 := ⟨RX0, TX0, 4, "LineFollowerBench$Found", rfl, by decide, in_X0, u434, Or.inl rfl, by decide⟩
set_option maxHeartbeats 4000000 in
set_option maxRecDepth 100000 in
theorem gX10_foundCost_0 {G : mG} {w : mH} {Φ : mF} {a0 : Nat} {x1 : Int32} {a0_10 a0_11 : Nat} (h1 : hk w a0 = (10, 0)) (h2 : hfr w a0 10 = some a0_10) (h3 : hfr w a0 11 = some a0_11) (h4 : hk w (vX10_foundBy x1 a0_10 a0_11) = (0, 0)) (k1 : (¬ ((hfi w (vX10_foundBy x1 a0_10 a0_11) 0) = 0)) → Φ (.inl (some (.long (hfl w (vX10_foundBy x1 a0_10 a0_11) 2)))) w) (k2 : ((hfi w (vX10_foundBy x1 a0_10 a0_11) 0) = 0) → ∀ n, hN w ≤ n → Φ (.inr "java/lang/IllegalStateException") (snn w n)) : mW G mX10_foundCost 9 1 6 0 [(0, .ref a0), (1, .int x1)] [] w Φ := by
  refine mW_aload_n (j := 0) dX10_foundCost_0 rfl rfl ?_
  refine mW_iload_n (j := 1) dX10_foundCost_1 rfl rfl ?_
  refine mW_callVe (As := [.int x1]) (rest := []) (kc2 := 1) (ks2 := 6) dX10_foundCost_2 l_X10_351 rfl h1 rfl (by decide) (qX10_foundBy (w := w) (a0 := a0) (x1 := x1) h1 h2 h3) (Nat.le_of_ble_eq_true rfl) (by decide) rfl rfl ?_
  refine mW_astore_n (lv2 := [(2, .ref (vX10_foundBy x1 a0_10 a0_11)), (0, .ref a0), (1, .int x1)]) dX10_foundCost_5 rfl (by decide) rfl ?_
  refine mW_aload_n (j := 0) dX10_foundCost_6 rfl rfl ?_
  refine mW_get dX10_foundCost_7 f_X10_355 h4 rfl ?_
  refine mW_if_ne (tgt := 24) dX10_foundCost_10 (by decide) (fun c1 => ?_) (fun c1 => ?_)
  · refine mW_aload_n (j := 0) dX10_foundCost_24 rfl rfl ?_
    refine mW_get dX10_foundCost_25 f_X10_367 h4 rfl ?_
    exact mW_lret dX10_foundCost_28 rfl (k1 c1)
  · exact mW_thrW (text := "nothing was found yet") (names := ["java/lang/RuntimeException", "java/lang/Exception"]) dX10_foundCost_13 dX10_foundCost_16 dX10_foundCost_17 dX10_foundCost_20 dX10_foundCost_23 th_120_124 (by decide +kernel) rfl (Nat.le_of_ble_eq_true rfl) (by decide) (by decide) (by decide) (k2 c1)
theorem tX10_foundCost {G : mG} {w : mH} {a0 : Nat} {x1 : Int32}  (z : zBen w a0) : mC G mX10_foundCost 9 1 6 [.ref a0, .int x1] w (tpO "java/lang/IllegalStateException" "" "" (if hfi w (vX10_foundBy x1 (a0 + 190) (a0 + 192)) 0 = 0 then 1 else 0) (.long (hfl w (vX10_foundBy x1 (a0 + 190) (a0 + 192)) 2)) (fun u => u = w) (fun u => u = w)) := by
  refine mC_of (by decide +kernel) rfl (Nat.le_of_ble_eq_true rfl) rfl ?_
  refine gX10_foundCost_0 (a0_10 := a0 + 190) (a0_11 := a0 + 192) z.1 z.2.2.2.2.2.2.2.2.2.1 z.2.2.2.2.2.2.2.2.2.2.1 (fo_z z).1 ?_ ?_
  · intro c1
    exact tp_ok (by rw [if_neg c1]) rfl
  · intro c1
    exact tp_1 (by rw [if_pos c1]) rfl
abbrev mX10_count : mM := (yX10_count, cX10_count, 2, (some .int), [])
theorem u1527 : (Cond.code ⟨"LineFollowerBench$Track", "totalLength", "()I"⟩ prog_9_method_6_code 3 (some .int) : Cond) ∈ mTs := mTs_in 1527 (by decide +kernel) (by decide +kernel)
theorem co_X7_totalLength : mCode mX7_totalLength := ⟨u1527, u74, by decide⟩
theorem u1524 : (Cond.methodLink "LineFollowerBench" 379 ⟨"LineFollowerBench$Track", "totalLength", "()I"⟩ : Cond) ∈ mTs := mTs_in 1524 (by decide +kernel) (by decide +kernel)
theorem u1525 : (Cond.instanceMethod ⟨"LineFollowerBench$Track", "totalLength", "()I"⟩ : Cond) ∈ mTs := mTs_in 1525 (by decide +kernel) (by decide +kernel)
theorem u1526 : (Cond.selects "LineFollowerBench$Track" ⟨"LineFollowerBench$Track", "totalLength", "()I"⟩ ⟨"LineFollowerBench$Track", "totalLength", "()I"⟩ : Cond) ∈ mTs := mTs_in 1526 (by decide +kernel) (by decide +kernel)
theorem l_X10_379 : mLinkV "LineFollowerBench" 379 0 mX7_totalLength := ⟨⟨by decide, by decide, by decide +kernel⟩, co_X7_totalLength, u1524, u1525, u1526⟩
set_option maxHeartbeats 4000000 in
set_option maxRecDepth 100000 in
theorem gX10_count_0 {G : mG} {w : mH} {Φ : mF} {a0 : Nat} {x1 : Int32} {A : Nat → Int32} {a0_0 a0_0_4 a0_0_3 a0_0_2 a0_0_2_2 n_a0_0_2_2 a0_4 a0_3 a0_7 : Nat} (h1 : hk w a0 = (10, 0)) (h2 : hfr w a0 0 = some a0_0) (h3 : hk w a0_0 = (3, 0)) (h4 : hfr w a0_0 4 = some a0_0_4) (h5 : hk w a0_0_4 = (7, 0)) (h6 : hfr w a0_0 3 = some a0_0_3) (h7 : hk w a0_0_3 = (5, 0)) (h8 : hfr w a0_0 2 = some a0_0_2) (h9 : hk w a0_0_2 = (1, 0)) (h10 : hfr w a0_0_2 2 = some a0_0_2_2) (h11 : hk w a0_0_2_2 = (16, n_a0_0_2_2)) (s1 : vp_in 0 n_a0_0_2_2) (s2 : vp_in 1 n_a0_0_2_2) (s3 : vp_in 2 n_a0_0_2_2) (h12 : zTrk w a0_0_4) (s4 : (¬ x1 = 0) → (¬ x1 = 1) → (¬ x1 = 2) → (¬ x1 = 3) → (x1 = 4) → kRep w a0_0_4 A) (h13 : hfr w a0 4 = some a0_4) (h14 : hk w a0_4 = (8, 0)) (h15 : hfr w a0 3 = some a0_3) (h16 : hk w a0_3 = (2, 0)) (h17 : hfr w a0 7 = some a0_7) (h18 : hk w a0_7 = (6, 0)) (k1 : (x1 = 0) → Φ (.inl (some (.int (hfi w a0_0_4 3)))) w) (k2 : (¬ x1 = 0) → (x1 = 1) → Φ (.inl (some (.int (hfi w a0_0_4 7)))) w) (k3 : (¬ x1 = 0) → (¬ x1 = 1) → (x1 = 2) → Φ (.inl (some (.int (hfi w a0_0_3 2)))) w) (k4 : (¬ x1 = 0) → (¬ x1 = 1) → (¬ x1 = 2) → (x1 = 3) → Φ (.inl (some (.int (vX1_triples w a0_0_2_2)))) w) (k5 : (¬ x1 = 0) → (¬ x1 = 1) → (¬ x1 = 2) → (¬ x1 = 3) → (x1 = 4) → Φ (.inl (some (.int (aLen A)))) w) (k6 : (¬ x1 = 0) → (¬ x1 = 1) → (¬ x1 = 2) → (¬ x1 = 3) → (¬ x1 = 4) → (x1 = 5) → Φ (.inl (some (.int (hfi w a0_4 1)))) w) (k7 : (¬ x1 = 0) → (¬ x1 = 1) → (¬ x1 = 2) → (¬ x1 = 3) → (¬ x1 = 4) → (¬ x1 = 5) → (x1 = 6) → Φ (.inl (some (.int (hfi w a0_3 2)))) w) (k8 : (¬ x1 = 0) → (¬ x1 = 1) → (¬ x1 = 2) → (¬ x1 = 3) → (¬ x1 = 4) → (¬ x1 = 5) → (¬ x1 = 6) → (x1 = 7) → Φ (.inl (some (.int (hfi w a0_7 6)))) w) (k9 : (¬ x1 = 0) → (¬ x1 = 1) → (¬ x1 = 2) → (¬ x1 = 3) → (¬ x1 = 4) → (¬ x1 = 5) → (¬ x1 = 6) → (¬ x1 = 7) → ∀ n, hN w ≤ n → Φ (.inr "java/lang/IllegalArgumentException") (snn w n)) : mW G mX10_count 9 1 6 0 [(0, .ref a0), (1, .int x1)] [] w Φ := by
  refine mW_iload_n (j := 1) dX10_count_0 rfl rfl ?_
  by_cases c1 : x1 = 0
  · refine mW_tabIn (off := 47) (tgt := 48) dX10_count_1 (by rw [c1]; decide) (by rw [c1]; decide) (by rw [c1]; rfl) (by decide) ?_
    refine mW_aload_n (j := 0) dX10_count_48 rfl rfl ?_
    refine mW_getR dX10_count_49 f_X10_12 h1 rfl h2 ?_
    refine mW_getR dX10_count_52 f_X10_218 h3 rfl h4 ?_
    refine mW_get dX10_count_55 f_X10_229 h5 rfl ?_
    exact mW_iret dX10_count_58 rfl (k1 c1)
  by_cases c2 : x1 = 1
  · refine mW_tabIn (off := 58) (tgt := 59) dX10_count_1 (by rw [c2]; decide) (by rw [c2]; decide) (by rw [c2]; rfl) (by decide) ?_
    refine mW_aload_n (j := 0) dX10_count_59 rfl rfl ?_
    refine mW_getR dX10_count_60 f_X10_12 h1 rfl h2 ?_
    refine mW_getR dX10_count_63 f_X10_218 h3 rfl h4 ?_
    refine mW_get dX10_count_66 f_X10_232 h5 rfl ?_
    exact mW_iret dX10_count_69 rfl (k2 c1 c2)
  by_cases c3 : x1 = 2
  · refine mW_tabIn (off := 69) (tgt := 70) dX10_count_1 (by rw [c3]; decide) (by rw [c3]; decide) (by rw [c3]; rfl) (by decide) ?_
    refine mW_aload_n (j := 0) dX10_count_70 rfl rfl ?_
    refine mW_getR dX10_count_71 f_X10_12 h1 rfl h2 ?_
    refine mW_getR dX10_count_74 f_X10_110 h3 rfl h6 ?_
    refine mW_get dX10_count_77 f_X10_129 h7 rfl ?_
    exact mW_iret dX10_count_80 rfl (k3 c1 c2 c3)
  by_cases c4 : x1 = 3
  · refine mW_tabIn (off := 80) (tgt := 81) dX10_count_1 (by rw [c4]; decide) (by rw [c4]; decide) (by rw [c4]; rfl) (by decide) ?_
    refine mW_aload_n (j := 0) dX10_count_81 rfl rfl ?_
    refine mW_getR dX10_count_82 f_X10_12 h1 rfl h2 ?_
    refine mW_getR dX10_count_85 f_X10_177 h3 rfl h8 ?_
    refine mW_callVe (As := []) (rest := []) (kc2 := 1) (ks2 := 6) dX10_count_88 l_X10_192 rfl h9 rfl (by decide) (qX1_triples (w := w) (a0 := a0_0_2) h9 h10 h11 s1 s2 s3) (Nat.le_of_ble_eq_true rfl) (by decide) rfl rfl ?_
    exact mW_iret dX10_count_91 rfl (k4 c1 c2 c3 c4)
  by_cases c5 : x1 = 4
  · refine mW_tabIn (off := 91) (tgt := 92) dX10_count_1 (by rw [c5]; decide) (by rw [c5]; decide) (by rw [c5]; rfl) (by decide) ?_
    refine mW_aload_n (j := 0) dX10_count_92 rfl rfl ?_
    refine mW_getR dX10_count_93 f_X10_12 h1 rfl h2 ?_
    refine mW_getR dX10_count_96 f_X10_218 h3 rfl h4 ?_
    refine mW_callVe (As := []) (rest := []) (kc2 := 1) (ks2 := 6) dX10_count_99 l_X10_379 rfl h5 rfl (by decide) (qX7_totalLength' (w := w) (a0 := a0_0_4) h12 (s4 c1 c2 c3 c4 c5)) (Nat.le_of_ble_eq_true rfl) (by decide) rfl rfl ?_
    exact mW_iret dX10_count_102 rfl (k5 c1 c2 c3 c4 c5)
  by_cases c6 : x1 = 5
  · refine mW_tabIn (off := 102) (tgt := 103) dX10_count_1 (by rw [c6]; decide) (by rw [c6]; decide) (by rw [c6]; rfl) (by decide) ?_
    refine mW_aload_n (j := 0) dX10_count_103 rfl rfl ?_
    refine mW_getR dX10_count_104 f_X10_33 h1 rfl h13 ?_
    refine mW_get dX10_count_107 f_X10_209 h14 rfl ?_
    exact mW_iret dX10_count_110 rfl (k6 c1 c2 c3 c4 c5 c6)
  by_cases c7 : x1 = 6
  · refine mW_tabIn (off := 110) (tgt := 111) dX10_count_1 (by rw [c7]; decide) (by rw [c7]; decide) (by rw [c7]; rfl) (by decide) ?_
    refine mW_aload_n (j := 0) dX10_count_111 rfl rfl ?_
    refine mW_getR dX10_count_112 f_X10_26 h1 rfl h15 ?_
    refine mW_get dX10_count_115 f_X10_382 h16 rfl ?_
    exact mW_iret dX10_count_118 rfl (k7 c1 c2 c3 c4 c5 c6 c7)
  by_cases c8 : x1 = 7
  · refine mW_tabIn (off := 118) (tgt := 119) dX10_count_1 (by rw [c8]; decide) (by rw [c8]; decide) (by rw [c8]; rfl) (by decide) ?_
    refine mW_aload_n (j := 0) dX10_count_119 rfl rfl ?_
    refine mW_getR dX10_count_120 f_X10_54 h1 rfl h17 ?_
    refine mW_get dX10_count_123 f_X10_276 h18 rfl ?_
    exact mW_iret dX10_count_126 rfl (k8 c1 c2 c3 c4 c5 c6 c7 c8)
  refine mW_tabOut (tgt := 127) dX10_count_1 (m_out (lo := 0) (n := 8) (x := x1) (by decide) (by decide) (fun v q1 q2 => (fun z => z.elim (fun e1 e2 => c1 (m_ti (k := 0) (by decide) (e2.trans e1))) (fun z => z.elim (fun e1 e2 => c2 (m_ti (k := 1) (by decide) (e2.trans e1))) (fun z => z.elim (fun e1 e2 => c3 (m_ti (k := 2) (by decide) (e2.trans e1))) (fun z => z.elim (fun e1 e2 => c4 (m_ti (k := 3) (by decide) (e2.trans e1))) (fun z => z.elim (fun e1 e2 => c5 (m_ti (k := 4) (by decide) (e2.trans e1))) (fun z => z.elim (fun e1 e2 => c6 (m_ti (k := 5) (by decide) (e2.trans e1))) (fun z => z.elim (fun e1 e2 => c7 (m_ti (k := 6) (by decide) (e2.trans e1))) (fun e1 e2 => c8 (m_ti (k := 7) (by decide) (e2.trans e1)))))))))) (show v = 0 ∨ v = 1 ∨ v = 2 ∨ v = 3 ∨ v = 4 ∨ v = 5 ∨ v = 6 ∨ v = 7 by omega))) (by decide) ?_
  exact mW_thrW (text := "no such count") (names := ["java/lang/RuntimeException", "java/lang/Exception"]) dX10_count_127 dX10_count_130 dX10_count_131 dX10_count_134 dX10_count_137 th_96_100 (by decide +kernel) rfl (Nat.le_of_ble_eq_true rfl) (by decide) (by decide) (by decide) (k9 c1 c2 c3 c4 c5 c6 c7 c8)
theorem tX10_count {G : mG} {w : mH} {a0 : Nat} {x1 : Int32} {A : Nat → Int32} (z : zBen w a0) (hS : sRep w (a0 + 1) A) : mC G mX10_count 9 1 6 [.ref a0, .int x1] w (tpO "java/lang/IllegalArgumentException" "" "" (wi01 x1 0 7) (.int (vCnt w a0 A x1)) (fun u => u = w) (fun u => u = w)) := by
  refine mC_of (by decide +kernel) rfl (Nat.le_of_ble_eq_true rfl) rfl ?_
  refine gX10_count_0 (A := A) (a0_0 := a0 + 1) (a0_0_4 := a0 + 11) (a0_0_3 := a0 + 8) (a0_0_2 := a0 + 4) (a0_0_2_2 := a0 + 7) (a0_4 := a0 + 139) (a0_3 := a0 + 35) (a0_7 := a0 + 158) z.1 z.2.1 z.2.2.2.2.2.2.2.2.2.2.2.1.1 z.2.2.2.2.2.2.2.2.2.2.2.1.2.2.2.2.2.1 z.2.2.2.2.2.2.2.2.2.2.2.1.2.2.2.2.2.2.2.2.2.2.1 z.2.2.2.2.2.2.2.2.2.2.2.1.2.2.2.2.1 z.2.2.2.2.2.2.2.2.2.2.2.1.2.2.2.2.2.2.2.2.2.1.1 z.2.2.2.2.2.2.2.2.2.2.2.1.2.2.2.1 z.2.2.2.2.2.2.2.2.2.2.2.1.2.2.2.2.2.2.2.2.1.1 z.2.2.2.2.2.2.2.2.2.2.2.1.2.2.2.2.2.2.2.2.1.2.2.2.1 z.2.2.2.2.2.2.2.2.2.2.2.1.2.2.2.2.2.2.2.2.1.2.2.2.2.2.2 (by intros; unfold vp_in; decide) (by intros; unfold vp_in; decide) (by intros; unfold vp_in; decide) z.2.2.2.2.2.2.2.2.2.2.2.1.2.2.2.2.2.2.2.2.2.2 (by intro c1 c2 c3 c4 c5; exact hS.2.2.2.2) z.2.2.2.2.1 z.2.2.2.2.2.2.2.2.2.2.2.2.2.2.1.1 z.2.2.2.1 z.2.2.2.2.2.2.2.2.2.2.2.2.2.1.1 z.2.2.2.2.2.2.1 z.2.2.2.2.2.2.2.2.2.2.2.2.2.2.2.2.1.1 ?_ ?_ ?_ ?_ ?_ ?_ ?_ ?_ ?_
  · intro c1
    exact tp_okv (by unfold wi01; rw [c1]; rfl) (by unfold vCnt; rw [if_pos c1]; rw [show hfi w (a0 + 11) 3 = A 40 by obtain ⟨n, m, _, _, g1, g2, _⟩ := hS.2.2.2.2; rw [g1]; exact g2]) rfl
  · intro c1 c2
    exact tp_okv (by unfold wi01; rw [c2]; rfl) (by unfold vCnt; rw [if_neg c1, if_pos c2]; rw [show hfi w (a0 + 11) 7 = A 65 by obtain ⟨n, m, _, _, _, _, g1, g2, _⟩ := hS.2.2.2.2; rw [g1]; exact g2]) rfl
  · intro c1 c2 c3
    exact tp_okv (by unfold wi01; rw [c3]; rfl) (by unfold vCnt; rw [if_neg c1, if_neg c2, if_pos c3]; rw [show hfi w (a0 + 8) 2 = A 29 by obtain ⟨n, _, g1, g2, _⟩ := hS.2.2.2.1; rw [g1]; exact g2]) rfl
  · intro c1 c2 c3 c4
    exact tp_okv (by unfold wi01; rw [c4]; rfl) (by unfold vCnt; rw [if_neg c1, if_neg c2, if_neg c3, if_pos c4]; unfold vX1_triples trI; rw [show hai w (a0 + 7) 0 = A 22 from (hS.2.2.1 0 (by decide)).2.2, show hai w (a0 + 7) 1 = A 25 from (hS.2.2.1 1 (by decide)).2.2, show hai w (a0 + 7) 2 = A 28 from (hS.2.2.1 2 (by decide)).2.2]) rfl
  · intro c1 c2 c3 c4 c5
    exact tp_okv (by unfold wi01; rw [c5]; rfl) (by unfold vCnt; rw [if_neg c1, if_neg c2, if_neg c3, if_neg c4, if_pos c5]) rfl
  · intro c1 c2 c3 c4 c5 c6
    exact tp_okv (by unfold wi01; rw [c6]; rfl) (by unfold vCnt; rw [if_neg c1, if_neg c2, if_neg c3, if_neg c4, if_neg c5, if_pos c6]) rfl
  · intro c1 c2 c3 c4 c5 c6 c7
    exact tp_okv (by unfold wi01; rw [c7]; rfl) (by unfold vCnt; rw [if_neg c1, if_neg c2, if_neg c3, if_neg c4, if_neg c5, if_neg c6, if_pos c7]) rfl
  · intro c1 c2 c3 c4 c5 c6 c7 c8
    exact tp_okv (by unfold wi01; rw [c8]; rfl) (by unfold vCnt; rw [if_neg c1, if_neg c2, if_neg c3, if_neg c4, if_neg c5, if_neg c6, if_neg c7]) rfl
  · intro c1 c2 c3 c4 c5 c6 c7 c8
    exact tp_1 (by unfold wi01; rw [wi_7 c1 c2 c3 c4 c5 c6 c7 c8]; rfl) rfl
