abbrev mX11_costs : mM := (yX11_costs, cX11_costs, 4, (some .long), [])
theorem u1868 : (Cond.code ⟨"LineFollowerBenchModel", "measures", "(I)I"⟩ prog_13_method_45_code 7 (some .int) : Cond) ∈ mTs := mTs_in 1868 (by decide +kernel) (by decide +kernel)
theorem co_X11_measures : mCode mX11_measures := ⟨u1868, u85, by decide⟩
theorem u1865 : (Cond.methodLink "LineFollowerBenchModel" 232 ⟨"LineFollowerBenchModel", "measures", "(I)I"⟩ : Cond) ∈ mTs := mTs_in 1865 (by decide +kernel) (by decide +kernel)
theorem u1867 : (Cond.instanceMethod ⟨"LineFollowerBenchModel", "measures", "(I)I"⟩ : Cond) ∈ mTs := mTs_in 1867 (by decide +kernel) (by decide +kernel)
theorem u60 : (Cond.selects "LineFollowerBenchModel" ⟨"LineFollowerBenchModel", "measures", "(I)I"⟩ ⟨"LineFollowerBenchModel", "measures", "(I)I"⟩ : Cond) ∈ mTs := mTs_in 60 (by decide +kernel) (by decide +kernel)
theorem l_X11_232 : mLinkV "LineFollowerBenchModel" 232 1 mX11_measures := ⟨⟨by decide, by decide, by decide +kernel⟩, co_X11_measures, u1865, u1867, u60⟩
set_option maxHeartbeats 4000000 in
set_option maxRecDepth 100000 in
theorem gX11_costs_0 {G : mG} {w : mH} {Φ : mF} {a0 N a0_1 n_a0_1 : Nat} (h1 : hk w a0 = (11, 0)) (h2 : hfr w a0 1 = some a0_1) (h3 : hk w a0_1 = (16, n_a0_1)) (s1 : vp_in 15 n_a0_1) (h4 : zRef w a0) (s2 : hfi w a0 22 = nI N) (s3 : N ≤ 200) (s4 : 1 ≤ N) (s5 : vp_in 16 n_a0_1) (s6 : vp_in 17 n_a0_1) (s7 : vp_in 18 n_a0_1) (s8 : vp_in 19 n_a0_1) (k1 : (0 ≤ (fSet (hai w (a0 + 8)) (hai w (a0 + 1) 14) N)) → Φ (.inl (some (.long (((((((hai w a0_1 15).toInt64) * ((rMe 0 (hai w (a0 + 8)) (hai w (a0 + 12)) (hai w (a0 + 14)) (hai w (a0 + 1) 14) N).toInt64)) + (((hai w a0_1 16).toInt64) * ((rMe 2 (hai w (a0 + 8)) (hai w (a0 + 12)) (hai w (a0 + 14)) (hai w (a0 + 1) 14) N).toInt64))) + (((hai w a0_1 17).toInt64) * ((rMe 5 (hai w (a0 + 8)) (hai w (a0 + 12)) (hai w (a0 + 14)) (hai w (a0 + 1) 14) N).toInt64))) + (((hai w a0_1 18).toInt64) * ((rMe 6 (hai w (a0 + 8)) (hai w (a0 + 12)) (hai w (a0 + 14)) (hai w (a0 + 1) 14) N).toInt64))) + (((hai w a0_1 19).toInt64) * ((fSet (hai w (a0 + 8)) (hai w (a0 + 1) 14) N).toInt64)))))) w) (k2 : (¬ (0 ≤ (fSet (hai w (a0 + 8)) (hai w (a0 + 1) 14) N))) → Φ (.inl (some (.long (((((((hai w a0_1 15).toInt64) * ((rMe 0 (hai w (a0 + 8)) (hai w (a0 + 12)) (hai w (a0 + 14)) (hai w (a0 + 1) 14) N).toInt64)) + (((hai w a0_1 16).toInt64) * ((rMe 2 (hai w (a0 + 8)) (hai w (a0 + 12)) (hai w (a0 + 14)) (hai w (a0 + 1) 14) N).toInt64))) + (((hai w a0_1 17).toInt64) * ((rMe 5 (hai w (a0 + 8)) (hai w (a0 + 12)) (hai w (a0 + 14)) (hai w (a0 + 1) 14) N).toInt64))) + (((hai w a0_1 18).toInt64) * ((rMe 6 (hai w (a0 + 8)) (hai w (a0 + 12)) (hai w (a0 + 14)) (hai w (a0 + 1) 14) N).toInt64))) + (((hai w a0_1 19).toInt64) * ((1000 : Int32).toInt64)))))) w) : mW G mX11_costs 4 0 0 0 [(0, .ref a0)] [] w Φ := by
  refine mW_aload_n (j := 0) dX11_costs_0 rfl rfl ?_
  refine mW_getR dX11_costs_1 f_X11_13 h1 rfl h2 ?_
  refine mW_bipush (v := 15) dX11_costs_4 (by decide) ?_
  refine mW_ialdJ dX11_costs_6 h3 s1 (j := 15) (by decide) ?_
  refine mW_i2l dX11_costs_7 ?_
  refine mW_aload_n (j := 0) dX11_costs_8 rfl rfl ?_
  refine mW_iconst (v := 0) dX11_costs_9 (by decide) ?_
  refine mW_callVe (As := [.int 0]) (rest := [.long ((hai w a0_1 15).toInt64)]) (kc2 := 0) (ks2 := 0) dX11_costs_10 l_X11_232 rfl h1 rfl (by decide) (rX11_measures (w := w) (a0 := a0) (x1 := 0) h4 s2 s3 s4) (Nat.le_of_ble_eq_true rfl) (by decide) rfl rfl ?_
  refine mW_i2l dX11_costs_13 ?_
  refine mW_lmul dX11_costs_14 ?_
  refine mW_aload_n (j := 0) dX11_costs_15 rfl rfl ?_
  refine mW_getR dX11_costs_16 f_X11_13 h1 rfl h2 ?_
  refine mW_bipush (v := 16) dX11_costs_19 (by decide) ?_
  refine mW_ialdJ dX11_costs_21 h3 s5 (j := 16) (by decide) ?_
  refine mW_i2l dX11_costs_22 ?_
  refine mW_aload_n (j := 0) dX11_costs_23 rfl rfl ?_
  refine mW_iconst (v := 2) dX11_costs_24 (by decide) ?_
  refine mW_callVe (As := [.int 2]) (rest := [.long ((hai w a0_1 16).toInt64), .long (((hai w a0_1 15).toInt64) * ((rMe 0 (hai w (a0 + 8)) (hai w (a0 + 12)) (hai w (a0 + 14)) (hai w (a0 + 1) 14) N).toInt64))]) (kc2 := 0) (ks2 := 0) dX11_costs_25 l_X11_232 rfl h1 rfl (by decide) (rX11_measures (w := w) (a0 := a0) (x1 := 2) h4 s2 s3 s4) (Nat.le_of_ble_eq_true rfl) (by decide) rfl rfl ?_
  refine mW_i2l dX11_costs_28 ?_
  refine mW_lmul dX11_costs_29 ?_
  refine mW_ladd dX11_costs_30 ?_
  refine mW_aload_n (j := 0) dX11_costs_31 rfl rfl ?_
  refine mW_getR dX11_costs_32 f_X11_13 h1 rfl h2 ?_
  refine mW_bipush (v := 17) dX11_costs_35 (by decide) ?_
  refine mW_ialdJ dX11_costs_37 h3 s6 (j := 17) (by decide) ?_
  refine mW_i2l dX11_costs_38 ?_
  refine mW_aload_n (j := 0) dX11_costs_39 rfl rfl ?_
  refine mW_iconst (v := 5) dX11_costs_40 (by decide) ?_
  refine mW_callVe (As := [.int 5]) (rest := [.long ((hai w a0_1 17).toInt64), .long ((((hai w a0_1 15).toInt64) * ((rMe 0 (hai w (a0 + 8)) (hai w (a0 + 12)) (hai w (a0 + 14)) (hai w (a0 + 1) 14) N).toInt64)) + (((hai w a0_1 16).toInt64) * ((rMe 2 (hai w (a0 + 8)) (hai w (a0 + 12)) (hai w (a0 + 14)) (hai w (a0 + 1) 14) N).toInt64)))]) (kc2 := 0) (ks2 := 0) dX11_costs_41 l_X11_232 rfl h1 rfl (by decide) (rX11_measures (w := w) (a0 := a0) (x1 := 5) h4 s2 s3 s4) (Nat.le_of_ble_eq_true rfl) (by decide) rfl rfl ?_
  refine mW_i2l dX11_costs_44 ?_
  refine mW_lmul dX11_costs_45 ?_
  refine mW_ladd dX11_costs_46 ?_
  refine mW_aload_n (j := 0) dX11_costs_47 rfl rfl ?_
  refine mW_getR dX11_costs_48 f_X11_13 h1 rfl h2 ?_
  refine mW_bipush (v := 18) dX11_costs_51 (by decide) ?_
  refine mW_ialdJ dX11_costs_53 h3 s7 (j := 18) (by decide) ?_
  refine mW_i2l dX11_costs_54 ?_
  refine mW_aload_n (j := 0) dX11_costs_55 rfl rfl ?_
  refine mW_bipush (v := 6) dX11_costs_56 (by decide) ?_
  refine mW_callVe (As := [.int 6]) (rest := [.long ((hai w a0_1 18).toInt64), .long (((((hai w a0_1 15).toInt64) * ((rMe 0 (hai w (a0 + 8)) (hai w (a0 + 12)) (hai w (a0 + 14)) (hai w (a0 + 1) 14) N).toInt64)) + (((hai w a0_1 16).toInt64) * ((rMe 2 (hai w (a0 + 8)) (hai w (a0 + 12)) (hai w (a0 + 14)) (hai w (a0 + 1) 14) N).toInt64))) + (((hai w a0_1 17).toInt64) * ((rMe 5 (hai w (a0 + 8)) (hai w (a0 + 12)) (hai w (a0 + 14)) (hai w (a0 + 1) 14) N).toInt64)))]) (kc2 := 0) (ks2 := 0) dX11_costs_58 l_X11_232 rfl h1 rfl (by decide) (rX11_measures (w := w) (a0 := a0) (x1 := 6) h4 s2 s3 s4) (Nat.le_of_ble_eq_true rfl) (by decide) rfl rfl ?_
  refine mW_i2l dX11_costs_61 ?_
  refine mW_lmul dX11_costs_62 ?_
  refine mW_ladd dX11_costs_63 ?_
  refine mW_lstore_n (lv2 := [(1, .long ((((((hai w a0_1 15).toInt64) * ((rMe 0 (hai w (a0 + 8)) (hai w (a0 + 12)) (hai w (a0 + 14)) (hai w (a0 + 1) 14) N).toInt64)) + (((hai w a0_1 16).toInt64) * ((rMe 2 (hai w (a0 + 8)) (hai w (a0 + 12)) (hai w (a0 + 14)) (hai w (a0 + 1) 14) N).toInt64))) + (((hai w a0_1 17).toInt64) * ((rMe 5 (hai w (a0 + 8)) (hai w (a0 + 12)) (hai w (a0 + 14)) (hai w (a0 + 1) 14) N).toInt64))) + (((hai w a0_1 18).toInt64) * ((rMe 6 (hai w (a0 + 8)) (hai w (a0 + 12)) (hai w (a0 + 14)) (hai w (a0 + 1) 14) N).toInt64)))), (0, .ref a0)]) dX11_costs_64 rfl (by decide) rfl ?_
  refine mW_aload_n (j := 1) dX11_costs_65 rfl rfl ?_
  refine mW_callVe (As := []) (rest := []) (kc2 := 0) (ks2 := 0) dX11_costs_66 l_X11_229 rfl h1 rfl (by decide) (qX11_settles' (w := w) (a0 := a0) h4 s2 s3) (Nat.le_of_ble_eq_true rfl) (by decide) rfl rfl ?_
  refine mW_istore_n (lv2 := [(3, .int (fSet (hai w (a0 + 8)) (hai w (a0 + 1) 14) N)), (1, .long ((((((hai w a0_1 15).toInt64) * ((rMe 0 (hai w (a0 + 8)) (hai w (a0 + 12)) (hai w (a0 + 14)) (hai w (a0 + 1) 14) N).toInt64)) + (((hai w a0_1 16).toInt64) * ((rMe 2 (hai w (a0 + 8)) (hai w (a0 + 12)) (hai w (a0 + 14)) (hai w (a0 + 1) 14) N).toInt64))) + (((hai w a0_1 17).toInt64) * ((rMe 5 (hai w (a0 + 8)) (hai w (a0 + 12)) (hai w (a0 + 14)) (hai w (a0 + 1) 14) N).toInt64))) + (((hai w a0_1 18).toInt64) * ((rMe 6 (hai w (a0 + 8)) (hai w (a0 + 12)) (hai w (a0 + 14)) (hai w (a0 + 1) 14) N).toInt64)))), (0, .ref a0)]) dX11_costs_69 rfl (by decide) rfl ?_
  refine mW_lload_n (j := 1) dX11_costs_70 rfl rfl ?_
  refine mW_aload_n (j := 2) dX11_costs_71 rfl rfl ?_
  refine mW_getR dX11_costs_72 f_X11_13 h1 rfl h2 ?_
  refine mW_bipush (v := 19) dX11_costs_75 (by decide) ?_
  refine mW_ialdJ dX11_costs_77 h3 s8 (j := 19) (by decide) ?_
  refine mW_i2l dX11_costs_78 ?_
  refine mW_iload_n (j := 0) dX11_costs_79 rfl rfl ?_
  refine mW_if_ge (tgt := 89) dX11_costs_80 (by decide) (fun c1 => ?_) (fun c1 => ?_)
  · refine mW_iload_n (j := 0) dX11_costs_89 rfl rfl ?_
    refine mW_i2l dX11_costs_90 ?_
    refine mW_lmul dX11_costs_91 ?_
    refine mW_ladd dX11_costs_92 ?_
    exact mW_lret dX11_costs_93 rfl (k1 c1)
  · refine mW_sipush (v := 1000) dX11_costs_83 (by decide) ?_
    refine mW_goto (tgt := 90) dX11_costs_86 (by decide) ?_
    refine mW_i2l dX11_costs_90 ?_
    refine mW_lmul dX11_costs_91 ?_
    refine mW_ladd dX11_costs_92 ?_
    exact mW_lret dX11_costs_93 rfl (k2 c1)
/-! the reference: costs, measure, cost, run -/
theorem rMe_T {w : mH} {a0 N i : Nat} {x1 b : Int32} {T : Nat → Nat → Int32} (W : wT w a0 T N (N + 1)) (h1 : 1 ≤ N) (hi : i ≤ 7) (hx : x1 = nI i) : rMe x1 (hai w (a0 + 8)) (hai w (a0 + 12)) (hai w (a0 + 14)) b N = tMeas T N x1 b := by
  obtain ⟨W0, _, _, W3, _, W5⟩ := W
  have m1 : min (N + 1) N = N := by omega
  have r0 := fSum_congr (N + 1) W0
  have r1 := fMax_congr N (fun j hj => W0 j (by omega))
  have r2 := fOver_congr N (fun j hj => W0 j (by omega))
  have r3 : fSet (hai w (a0 + 8)) b N = fSet (T 0) b N := fSet_congr (fun j hj => W0 j (by omega))
  have r4 := fCross_congr N (fun j hj => W0 j (by omega))
  have r5 := fSat_congr N W5
  have r6 := fAct_congr N W3
  have d : i = 0 ∨ i = 1 ∨ i = 2 ∨ i = 3 ∨ i = 4 ∨ i = 5 ∨ i = 6 ∨ i = 7 := by omega
  unfold rMe mN tMeas
  rw [m1, Nat.add_sub_cancel, r0, r1, r2, r3, r4, r5, r6, W0 N (by omega)]
  rcases d with h | h | h | h | h | h | h | h <;> subst h
  · have hx' : x1 = 0 := hx
    subst hx'
    simp only [eq_false (show ¬ (0 : Int32) = 1 by decide), eq_false (show ¬ (0 : Int32) = 2 by decide), eq_false (show ¬ (0 : Int32) = 3 by decide), eq_false (show ¬ (0 : Int32) = 4 by decide), eq_false (show ¬ (0 : Int32) = 5 by decide), eq_false (show ¬ (0 : Int32) = 6 by decide), eq_false (show ¬ (0 : Int32) = 7 by decide), if_true, if_false]
  · have hx' : x1 = 1 := hx
    subst hx'
    simp only [eq_false (show ¬ (1 : Int32) = 0 by decide), eq_false (show ¬ (1 : Int32) = 2 by decide), eq_false (show ¬ (1 : Int32) = 3 by decide), eq_false (show ¬ (1 : Int32) = 4 by decide), eq_false (show ¬ (1 : Int32) = 5 by decide), eq_false (show ¬ (1 : Int32) = 6 by decide), eq_false (show ¬ (1 : Int32) = 7 by decide), if_true, if_false]
  · have hx' : x1 = 2 := hx
    subst hx'
    simp only [eq_false (show ¬ (2 : Int32) = 0 by decide), eq_false (show ¬ (2 : Int32) = 1 by decide), eq_false (show ¬ (2 : Int32) = 3 by decide), eq_false (show ¬ (2 : Int32) = 4 by decide), eq_false (show ¬ (2 : Int32) = 5 by decide), eq_false (show ¬ (2 : Int32) = 6 by decide), eq_false (show ¬ (2 : Int32) = 7 by decide), if_true, if_false]
  · have hx' : x1 = 3 := hx
    subst hx'
    simp only [eq_false (show ¬ (3 : Int32) = 0 by decide), eq_false (show ¬ (3 : Int32) = 1 by decide), eq_false (show ¬ (3 : Int32) = 2 by decide), eq_false (show ¬ (3 : Int32) = 4 by decide), eq_false (show ¬ (3 : Int32) = 5 by decide), eq_false (show ¬ (3 : Int32) = 6 by decide), eq_false (show ¬ (3 : Int32) = 7 by decide), if_true, if_false]
  · have hx' : x1 = 4 := hx
    subst hx'
    simp only [eq_false (show ¬ (4 : Int32) = 0 by decide), eq_false (show ¬ (4 : Int32) = 1 by decide), eq_false (show ¬ (4 : Int32) = 2 by decide), eq_false (show ¬ (4 : Int32) = 3 by decide), eq_false (show ¬ (4 : Int32) = 5 by decide), eq_false (show ¬ (4 : Int32) = 6 by decide), eq_false (show ¬ (4 : Int32) = 7 by decide), if_true, if_false]
  · have hx' : x1 = 5 := hx
    subst hx'
    simp only [eq_false (show ¬ (5 : Int32) = 0 by decide), eq_false (show ¬ (5 : Int32) = 1 by decide), eq_false (show ¬ (5 : Int32) = 2 by decide), eq_false (show ¬ (5 : Int32) = 3 by decide), eq_false (show ¬ (5 : Int32) = 4 by decide), eq_false (show ¬ (5 : Int32) = 6 by decide), eq_false (show ¬ (5 : Int32) = 7 by decide), if_true, if_false]
  · have hx' : x1 = 6 := hx
    subst hx'
    simp only [eq_false (show ¬ (6 : Int32) = 0 by decide), eq_false (show ¬ (6 : Int32) = 1 by decide), eq_false (show ¬ (6 : Int32) = 2 by decide), eq_false (show ¬ (6 : Int32) = 3 by decide), eq_false (show ¬ (6 : Int32) = 4 by decide), eq_false (show ¬ (6 : Int32) = 5 by decide), eq_false (show ¬ (6 : Int32) = 7 by decide), if_true, if_false]
  · have hx' : x1 = 7 := hx
    subst hx'
    simp only [eq_false (show ¬ (7 : Int32) = 0 by decide), eq_false (show ¬ (7 : Int32) = 1 by decide), eq_false (show ¬ (7 : Int32) = 2 by decide), eq_false (show ¬ (7 : Int32) = 3 by decide), eq_false (show ¬ (7 : Int32) = 4 by decide), eq_false (show ¬ (7 : Int32) = 5 by decide), eq_false (show ¬ (7 : Int32) = 6 by decide), if_true, if_false]
theorem tM_0 {T : Nat → Nat → Int32} {N : Nat} {b : Int32} : tMeas T N 0 b = fSum (T 0) (N + 1) := rfl
theorem tM_2 {T : Nat → Nat → Int32} {N : Nat} {b : Int32} : tMeas T N 2 b = fOver (T 0) N := rfl
theorem tM_5 {T : Nat → Nat → Int32} {N : Nat} {b : Int32} : tMeas T N 5 b = fSat (T 5) N := rfl
theorem tM_6 {T : Nat → Nat → Int32} {N : Nat} {b : Int32} : tMeas T N 6 b = fAct (T 3) N := rfl
theorem fT_le (E : Nat → Int32) (b : Int32) : ∀ k, fT E b k ≤ k := by
  intro k
  induction k with
  | zero => exact Nat.le_refl _
  | succ k ih => unfold fT; split <;> omega
theorem fSet_sg {E : Nat → Int32} {b : Int32} {N : Nat} (h : N ≤ 200) : 0 ≤ fSet E b N ↔ ¬ fSet E b N = -1 := by
  have hl := fT_le E b (N + 1)
  unfold fSet
  by_cases q : fT E b (N + 1) = N + 1
  · rw [if_pos q]; decide
  · rw [if_neg q]
    have g : ¬ nI (fT E b (N + 1)) < 0 := m_0le (by omega)
    exact ⟨fun _ e => g (by rw [e]; decide), fun _ => Int32.not_lt.mp g⟩
theorem rX11_costs {G : mG} {w : mH} {a0 N : Nat} {T : Nat → Nat → Int32} (z : zRef w a0) (hN : hfi w a0 22 = nI N) (h200 : N ≤ 200) (h1 : 1 ≤ N) (W : wT w a0 T N (N + 1)) : mC G mX11_costs 4 0 0 [.ref a0] w (mEq (.inl (some (.long (tCost T N (fun k => hai w (a0 + 1) (15 + k)) (hai w (a0 + 1) 14))))) w) := by
  refine mC_of (by decide +kernel) rfl (Nat.le_of_ble_eq_true rfl) rfl ?_
  refine gX11_costs_0 (N := N) (a0_1 := a0 + 1) z.1 z.2.1 z.2.2.2.2.2.2.2.2.2.2.2.2.2.2.2.2.2.2.2.2.2.2.1 (by intros; unfold vp_in; decide) z (by exact hN) (by exact h200) (by exact h1) (by intros; unfold vp_in; decide) (by intros; unfold vp_in; decide) (by intros; unfold vp_in; decide) (by intros; unfold vp_in; decide) ?_ ?_
  · intro c1
    have R0 := rMe_T W h1 (i := 0) (x1 := 0) (b := hai w (a0 + 1) 14) (by decide) rfl
    have R2 := rMe_T W h1 (i := 2) (x1 := 2) (b := hai w (a0 + 1) 14) (by decide) rfl
    have R5 := rMe_T W h1 (i := 5) (x1 := 5) (b := hai w (a0 + 1) 14) (by decide) rfl
    have R6 := rMe_T W h1 (i := 6) (x1 := 6) (b := hai w (a0 + 1) 14) (by decide) rfl
    have S := fSet_congr (b := hai w (a0 + 1) 14) (N := N) (fun j hj => W.1 j (by omega))
    rw [S] at c1
    rw [R0, R2, R5, R6, S, tM_0, tM_2, tM_5, tM_6]
    unfold tCost
    rw [if_neg ((fSet_sg h200).mp c1)]
    exact mEq_rf
  · intro c1
    have R0 := rMe_T W h1 (i := 0) (x1 := 0) (b := hai w (a0 + 1) 14) (by decide) rfl
    have R2 := rMe_T W h1 (i := 2) (x1 := 2) (b := hai w (a0 + 1) 14) (by decide) rfl
    have R5 := rMe_T W h1 (i := 5) (x1 := 5) (b := hai w (a0 + 1) 14) (by decide) rfl
    have R6 := rMe_T W h1 (i := 6) (x1 := 6) (b := hai w (a0 + 1) 14) (by decide) rfl
    have S := fSet_congr (b := hai w (a0 + 1) 14) (N := N) (fun j hj => W.1 j (by omega))
    rw [S] at c1
    rw [R0, R2, R5, R6, tM_0, tM_2, tM_5, tM_6]
    unfold tCost
    rw [if_pos (Classical.byContradiction (fun q => c1 ((fSet_sg h200).mpr q)))]
    exact mEq_rf

abbrev mX11_measure : mM := (yX11_measure, cX11_measure, 2, (some .int), [])
theorem u1864 : (Cond.code ⟨"LineFollowerBenchModel", "takesTrace", "()V"⟩ prog_13_method_48_code 2 (none : Option ClassFile.FieldType) : Cond) ∈ mTs := mTs_in 1864 (by decide +kernel) (by decide +kernel)
theorem co_X11_takesTrace : mCode mX11_takesTrace := ⟨u1864, u85, by decide⟩
theorem u1861 : (Cond.methodLink "LineFollowerBenchModel" 252 ⟨"LineFollowerBenchModel", "takesTrace", "()V"⟩ : Cond) ∈ mTs := mTs_in 1861 (by decide +kernel) (by decide +kernel)
theorem u1863 : (Cond.instanceMethod ⟨"LineFollowerBenchModel", "takesTrace", "()V"⟩ : Cond) ∈ mTs := mTs_in 1863 (by decide +kernel) (by decide +kernel)
theorem u59 : (Cond.selects "LineFollowerBenchModel" ⟨"LineFollowerBenchModel", "takesTrace", "()V"⟩ ⟨"LineFollowerBenchModel", "takesTrace", "()V"⟩ : Cond) ∈ mTs := mTs_in 59 (by decide +kernel) (by decide +kernel)
theorem l_X11_252 : mLinkV "LineFollowerBenchModel" 252 0 mX11_takesTrace := ⟨⟨by decide, by decide, by decide +kernel⟩, co_X11_takesTrace, u1861, u1863, u59⟩
set_option maxHeartbeats 4000000 in
set_option maxRecDepth 100000 in
theorem gX11_measure_0 {G : mG} {w : mH} {Φ : mF} {a0 : Nat} {x1 : Int32} {N : Nat} {T : Nat → Nat → Int32} (h1 : hk w a0 = (11, 0)) (h2 : zRef w a0) (s1 : (¬ ((hfi w a0 25) = 0)) → (¬ ((vX11_in x1.toInt64 0 7) = 0)) → ∀ w2 : mH, (w2 = sfi w a0 0 0) → hfi w2 a0 26 = nI N) (s2 : (¬ ((hfi w a0 25) = 0)) → (¬ ((vX11_in x1.toInt64 0 7) = 0)) → ∀ w2 : mH, (w2 = sfi w a0 0 0) → N ≤ 200) (s3 : (¬ ((hfi w a0 25) = 0)) → (¬ ((vX11_in x1.toInt64 0 7) = 0)) → ∀ w2 : mH, (w2 = sfi w a0 0 0) → zL (hai w2 (a0 + 15)) T N (N + 1)) (s4 : (¬ ((hfi w a0 25) = 0)) → (¬ ((vX11_in x1.toInt64 0 7) = 0)) → ∀ w2 : mH, (w2 = sfi w a0 0 0) → ∀ w3 : mH, ((xF [22] [8, 10, 11, 12, 13, 14] a0 w2 w3 ∧ hfi w3 a0 22 = nI N ∧ wT w3 a0 T N (N + 1))) → hfi w3 a0 22 = nI N) (s5 : (¬ ((hfi w a0 25) = 0)) → (¬ ((vX11_in x1.toInt64 0 7) = 0)) → ∀ w2 : mH, (w2 = sfi w a0 0 0) → ∀ w3 : mH, ((xF [22] [8, 10, 11, 12, 13, 14] a0 w2 w3 ∧ hfi w3 a0 22 = nI N ∧ wT w3 a0 T N (N + 1))) → 1 ≤ N) (k1 : (¬ ((hfi w a0 25) = 0)) → ((vX11_in x1.toInt64 0 7) = 0) → ∀ w1 : mH, (w1 = sfi w a0 0 2) → Φ (.inl (some (.int 0))) w1) (k2 : (¬ ((hfi w a0 25) = 0)) → (¬ ((vX11_in x1.toInt64 0 7) = 0)) → ∀ w2 : mH, (w2 = sfi w a0 0 0) → ∀ w3 : mH, ((xF [22] [8, 10, 11, 12, 13, 14] a0 w2 w3 ∧ hfi w3 a0 22 = nI N ∧ wT w3 a0 T N (N + 1))) → Φ (.inl (some (.int (rMe x1 (hai w3 (a0 + 8)) (hai w3 (a0 + 12)) (hai w3 (a0 + 14)) (hai w3 (a0 + 1) 14) N)))) w3) (k3 : ((hfi w a0 25) = 0) → ∀ w4 : mH, (w4 = sfi w a0 0 1) → Φ (.inl (some (.int 0))) w4) : mW G mX11_measure 4 0 0 0 [(0, .ref a0), (1, .int x1)] [] w Φ := by
  refine mW_aload_n (j := 0) dX11_measure_0 rfl rfl ?_
  refine mW_aload_n (j := 0) dX11_measure_1 rfl rfl ?_
  refine mW_get dX11_measure_2 f_X11_235 h1 rfl ?_
  refine mW_if_ne (tgt := 12) dX11_measure_5 (by decide) (fun c1 => ?_) (fun c1 => ?_)
  · refine mW_iload_n (j := 1) dX11_measure_12 rfl rfl ?_
    refine mW_i2l dX11_measure_13 ?_
    refine mW_lconst (v := 0) dX11_measure_14 (by decide) ?_
    refine mW_ldc2 (v := 7) dX11_measure_15 u1860 ?_
    refine mW_callSe (As := [.long x1.toInt64, .long 0, .long 7]) (rest := [.ref a0]) (kc2 := 0) (ks2 := 0) dX11_measure_18 l_X11_92 rfl (qX11_in (w := w) (y0 := x1.toInt64) (y2 := 0) (y4 := 7)) (Nat.le_of_ble_eq_true rfl) (by decide) rfl rfl ?_
    refine mW_if_eq (tgt := 28) dX11_measure_21 (by decide) (fun c2 => ?_) (fun c2 => ?_)
    · refine mW_iconst (v := 2) dX11_measure_28 (by decide) ?_
      refine mW_put (ty := .int) (w2 := sfi w a0 0 2) dX11_measure_29 p_X11_3 h1 (Nat.le_of_ble_eq_true rfl) (by first | rfl | decide | (repeat' split) <;> rfl) rfl (hN_sfi _ _ _ _) (hk_sfi _ _ _ _) (mE_sfi h1 (by decide) (ob_11_0 _ _ _)) ?_
      refine mW_nm (fun w1 e1 => ?_)
      refine mW_aload_n (j := 0) dX11_measure_32 rfl rfl ?_
      refine mW_getL (v := 2) dX11_measure_33 f_X11_3 (s2k (S2_sfi e1) h1) rfl (by rw [e1, e_hfi_sfi, up2_at]) ?_
      refine mW_if_eq (tgt := 41) dX11_measure_36 (by decide) (fun c => absurd c (by decide)) (fun _ => ?_)
      refine mW_iconst (v := 0) dX11_measure_39 (by decide) ?_
      exact mW_iret dX11_measure_40 rfl (k1 c1 c2 w1 e1)
    · refine mW_iconst (v := 0) dX11_measure_24 (by decide) ?_
      refine mW_goto (tgt := 29) dX11_measure_25 (by decide) ?_
      refine mW_put (ty := .int) (w2 := sfi w a0 0 0) dX11_measure_29 p_X11_3 h1 (Nat.le_of_ble_eq_true rfl) (by first | rfl | decide | (repeat' split) <;> rfl) rfl (hN_sfi _ _ _ _) (hk_sfi _ _ _ _) (mE_sfi h1 (by decide) (ob_11_0 _ _ _)) ?_
      refine mW_nm (fun w2 e2 => ?_)
      refine mW_aload_n (j := 0) dX11_measure_32 rfl rfl ?_
      refine mW_getL (v := 0) dX11_measure_33 f_X11_3 (s2k (S2_sfi e2) h1) rfl (by rw [e2, e_hfi_sfi, up2_at]) ?_
      refine mW_if_eq (tgt := 41) dX11_measure_36 (by decide) (fun _ => ?_) (fun c => absurd (by decide) c)
      refine mW_aload_n (j := 0) dX11_measure_41 rfl rfl ?_
      refine mW_callV (As := []) (rest := []) (kc2 := 0) (ks2 := 0) dX11_measure_42 l_X11_252 rfl (s2k (S2_sfi e2) h1) rfl (by decide) (rX11_takesTrace (w := w2) (a0 := a0) (zRef_s2 (S2_sfi e2) h2) (s1 c1 c2 w2 e2) (s2 c1 c2 w2 e2) (s3 c1 c2 w2 e2)) (Nat.le_of_ble_eq_true rfl) (by decide) rfl rfl mP_x (mP_k (fun w3 q1 => ?_))
      refine mW_aload_n (j := 0) dX11_measure_45 rfl rfl ?_
      refine mW_iload_n (j := 1) dX11_measure_46 rfl rfl ?_
      refine mW_callVe (As := [.int x1]) (rest := []) (kc2 := 0) (ks2 := 0) dX11_measure_47 l_X11_232 rfl (s2k (mS2.of q1.1.1) (s2k (S2_sfi e2) h1)) rfl (by decide) (rX11_measures (w := w3) (a0 := a0) (x1 := x1) (zRef_s2 (mS2.of q1.1.1) (zRef_s2 (S2_sfi e2) h2)) (s4 c1 c2 w2 e2 w3 q1) (s2 c1 c2 w2 e2) (s5 c1 c2 w2 e2 w3 q1)) (Nat.le_of_ble_eq_true rfl) (by decide) rfl rfl ?_
      exact mW_iret dX11_measure_50 rfl (k2 c1 c2 w2 e2 w3 q1)
  · refine mW_iconst (v := 1) dX11_measure_8 (by decide) ?_
    refine mW_goto (tgt := 29) dX11_measure_9 (by decide) ?_
    refine mW_put (ty := .int) (w2 := sfi w a0 0 1) dX11_measure_29 p_X11_3 h1 (Nat.le_of_ble_eq_true rfl) (by first | rfl | decide | (repeat' split) <;> rfl) rfl (hN_sfi _ _ _ _) (hk_sfi _ _ _ _) (mE_sfi h1 (by decide) (ob_11_0 _ _ _)) ?_
    refine mW_nm (fun w4 e3 => ?_)
    refine mW_aload_n (j := 0) dX11_measure_32 rfl rfl ?_
    refine mW_getL (v := 1) dX11_measure_33 f_X11_3 (s2k (S2_sfi e3) h1) rfl (by rw [e3, e_hfi_sfi, up2_at]) ?_
    refine mW_if_eq (tgt := 41) dX11_measure_36 (by decide) (fun c => absurd c (by decide)) (fun _ => ?_)
    refine mW_iconst (v := 0) dX11_measure_39 (by decide) ?_
    exact mW_iret dX11_measure_40 rfl (k3 c1 w4 e3)
abbrev mX11_cost : mM := (yX11_cost, cX11_cost, 1, (some .long), [])
theorem u1880 : (Cond.code ⟨"LineFollowerBenchModel", "costs", "()J"⟩ prog_13_method_46_code 4 (some .long) : Cond) ∈ mTs := mTs_in 1880 (by decide +kernel) (by decide +kernel)
theorem co_X11_costs : mCode mX11_costs := ⟨u1880, u85, by decide⟩
theorem u1877 : (Cond.methodLink "LineFollowerBenchModel" 255 ⟨"LineFollowerBenchModel", "costs", "()J"⟩ : Cond) ∈ mTs := mTs_in 1877 (by decide +kernel) (by decide +kernel)
theorem u1879 : (Cond.instanceMethod ⟨"LineFollowerBenchModel", "costs", "()J"⟩ : Cond) ∈ mTs := mTs_in 1879 (by decide +kernel) (by decide +kernel)
theorem u62 : (Cond.selects "LineFollowerBenchModel" ⟨"LineFollowerBenchModel", "costs", "()J"⟩ ⟨"LineFollowerBenchModel", "costs", "()J"⟩ : Cond) ∈ mTs := mTs_in 62 (by decide +kernel) (by decide +kernel)
theorem l_X11_255 : mLinkV "LineFollowerBenchModel" 255 0 mX11_costs := ⟨⟨by decide, by decide, by decide +kernel⟩, co_X11_costs, u1877, u1879, u62⟩
set_option maxHeartbeats 4000000 in
set_option maxRecDepth 100000 in
theorem gX11_cost_0 {G : mG} {w : mH} {Φ : mF} {a0 N : Nat} {T : Nat → Nat → Int32} (h1 : hk w a0 = (11, 0)) (h2 : zRef w a0) (s1 : (¬ ((hfi w a0 25) = 0)) → ∀ w2 : mH, (w2 = sfi w a0 0 0) → hfi w2 a0 26 = nI N) (s2 : (¬ ((hfi w a0 25) = 0)) → ∀ w2 : mH, (w2 = sfi w a0 0 0) → N ≤ 200) (s3 : (¬ ((hfi w a0 25) = 0)) → ∀ w2 : mH, (w2 = sfi w a0 0 0) → zL (hai w2 (a0 + 15)) T N (N + 1)) (s4 : (¬ ((hfi w a0 25) = 0)) → ∀ w2 : mH, (w2 = sfi w a0 0 0) → ∀ w3 : mH, ((xF [22] [8, 10, 11, 12, 13, 14] a0 w2 w3 ∧ hfi w3 a0 22 = nI N ∧ wT w3 a0 T N (N + 1))) → hfi w3 a0 22 = nI N) (s5 : (¬ ((hfi w a0 25) = 0)) → ∀ w2 : mH, (w2 = sfi w a0 0 0) → ∀ w3 : mH, ((xF [22] [8, 10, 11, 12, 13, 14] a0 w2 w3 ∧ hfi w3 a0 22 = nI N ∧ wT w3 a0 T N (N + 1))) → 1 ≤ N) (s6 : (¬ ((hfi w a0 25) = 0)) → ∀ w2 : mH, (w2 = sfi w a0 0 0) → ∀ w3 : mH, ((xF [22] [8, 10, 11, 12, 13, 14] a0 w2 w3 ∧ hfi w3 a0 22 = nI N ∧ wT w3 a0 T N (N + 1))) → wT w3 a0 T N (N + 1)) (k1 : ((hfi w a0 25) = 0) → ∀ w1 : mH, (w1 = sfi w a0 0 1) → Φ (.inl (some (.long 0))) w1) (k2 : (¬ ((hfi w a0 25) = 0)) → ∀ w2 : mH, (w2 = sfi w a0 0 0) → ∀ w3 : mH, ((xF [22] [8, 10, 11, 12, 13, 14] a0 w2 w3 ∧ hfi w3 a0 22 = nI N ∧ wT w3 a0 T N (N + 1))) → Φ (.inl (some (.long (tCost T N (fun k => hai w3 (a0 + 1) (15 + k)) (hai w3 (a0 + 1) 14))))) w3) : mW G mX11_cost 5 0 0 0 [(0, .ref a0)] [] w Φ := by
  refine mW_aload_n (j := 0) dX11_cost_0 rfl rfl ?_
  refine mW_aload_n (j := 0) dX11_cost_1 rfl rfl ?_
  refine mW_get dX11_cost_2 f_X11_235 h1 rfl ?_
  refine mW_if_eq (tgt := 12) dX11_cost_5 (by decide) (fun c1 => ?_) (fun c1 => ?_)
  · refine mW_iconst (v := 1) dX11_cost_12 (by decide) ?_
    refine mW_put (ty := .int) (w2 := sfi w a0 0 1) dX11_cost_13 p_X11_3 h1 (Nat.le_of_ble_eq_true rfl) (by first | rfl | decide | (repeat' split) <;> rfl) rfl (hN_sfi _ _ _ _) (hk_sfi _ _ _ _) (mE_sfi h1 (by decide) (ob_11_0 _ _ _)) ?_
    refine mW_nm (fun w1 e1 => ?_)
    refine mW_aload_n (j := 0) dX11_cost_16 rfl rfl ?_
    refine mW_getL (v := 1) dX11_cost_17 f_X11_3 (s2k (S2_sfi e1) h1) rfl (by rw [e1, e_hfi_sfi, up2_at]) ?_
    refine mW_if_eq (tgt := 25) dX11_cost_20 (by decide) (fun c => absurd c (by decide)) (fun _ => ?_)
    refine mW_lconst (v := 0) dX11_cost_23 (by decide) ?_
    exact mW_lret dX11_cost_24 rfl (k1 c1 w1 e1)
  · refine mW_iconst (v := 0) dX11_cost_8 (by decide) ?_
    refine mW_goto (tgt := 13) dX11_cost_9 (by decide) ?_
    refine mW_put (ty := .int) (w2 := sfi w a0 0 0) dX11_cost_13 p_X11_3 h1 (Nat.le_of_ble_eq_true rfl) (by first | rfl | decide | (repeat' split) <;> rfl) rfl (hN_sfi _ _ _ _) (hk_sfi _ _ _ _) (mE_sfi h1 (by decide) (ob_11_0 _ _ _)) ?_
    refine mW_nm (fun w2 e2 => ?_)
    refine mW_aload_n (j := 0) dX11_cost_16 rfl rfl ?_
    refine mW_getL (v := 0) dX11_cost_17 f_X11_3 (s2k (S2_sfi e2) h1) rfl (by rw [e2, e_hfi_sfi, up2_at]) ?_
    refine mW_if_eq (tgt := 25) dX11_cost_20 (by decide) (fun _ => ?_) (fun c => absurd (by decide) c)
    refine mW_aload_n (j := 0) dX11_cost_25 rfl rfl ?_
    refine mW_callV (As := []) (rest := []) (kc2 := 0) (ks2 := 0) dX11_cost_26 l_X11_252 rfl (s2k (S2_sfi e2) h1) rfl (by decide) (rX11_takesTrace (w := w2) (a0 := a0) (zRef_s2 (S2_sfi e2) h2) (s1 c1 w2 e2) (s2 c1 w2 e2) (s3 c1 w2 e2)) (Nat.le_of_ble_eq_true rfl) (by decide) rfl rfl mP_x (mP_k (fun w3 q1 => ?_))
    refine mW_aload_n (j := 0) dX11_cost_29 rfl rfl ?_
    refine mW_callVe (As := []) (rest := []) (kc2 := 0) (ks2 := 0) dX11_cost_30 l_X11_255 rfl (s2k (mS2.of q1.1.1) (s2k (S2_sfi e2) h1)) rfl (by decide) (rX11_costs (w := w3) (a0 := a0) (zRef_s2 (mS2.of q1.1.1) (zRef_s2 (S2_sfi e2) h2)) (s4 c1 w2 e2 w3 q1) (s2 c1 w2 e2) (s5 c1 w2 e2 w3 q1) (s6 c1 w2 e2 w3 q1)) (Nat.le_of_ble_eq_true rfl) (by decide) rfl rfl ?_
    exact mW_lret dX11_cost_33 rfl (k2 c1 w2 e2 w3 q1)
abbrev mX11_run : mM := (yX11_run, cX11_run, 1, (some .int), [])
theorem u1828 : (Cond.code ⟨"LineFollowerBenchModel", "runs", "()V"⟩ prog_13_method_43_code 7 (none : Option ClassFile.FieldType) : Cond) ∈ mTs := mTs_in 1828 (by decide +kernel) (by decide +kernel)
theorem co_X11_runs : mCode mX11_runs := ⟨u1828, u85, by decide⟩
theorem u1825 : (Cond.methodLink "LineFollowerBenchModel" 242 ⟨"LineFollowerBenchModel", "runs", "()V"⟩ : Cond) ∈ mTs := mTs_in 1825 (by decide +kernel) (by decide +kernel)
theorem u1827 : (Cond.instanceMethod ⟨"LineFollowerBenchModel", "runs", "()V"⟩ : Cond) ∈ mTs := mTs_in 1827 (by decide +kernel) (by decide +kernel)
theorem u55 : (Cond.selects "LineFollowerBenchModel" ⟨"LineFollowerBenchModel", "runs", "()V"⟩ ⟨"LineFollowerBenchModel", "runs", "()V"⟩ : Cond) ∈ mTs := mTs_in 55 (by decide +kernel) (by decide +kernel)
theorem l_X11_242 : mLinkV "LineFollowerBenchModel" 242 0 mX11_runs := ⟨⟨by decide, by decide, by decide +kernel⟩, co_X11_runs, u1825, u1827, u55⟩
theorem u1850 : (Cond.code ⟨"LineFollowerBenchModel", "laysTrace", "()V"⟩ prog_13_method_47_code 2 (none : Option ClassFile.FieldType) : Cond) ∈ mTs := mTs_in 1850 (by decide +kernel) (by decide +kernel)
theorem co_X11_laysTrace : mCode mX11_laysTrace := ⟨u1850, u85, by decide⟩
theorem u1847 : (Cond.methodLink "LineFollowerBenchModel" 245 ⟨"LineFollowerBenchModel", "laysTrace", "()V"⟩ : Cond) ∈ mTs := mTs_in 1847 (by decide +kernel) (by decide +kernel)
theorem u1849 : (Cond.instanceMethod ⟨"LineFollowerBenchModel", "laysTrace", "()V"⟩ : Cond) ∈ mTs := mTs_in 1849 (by decide +kernel) (by decide +kernel)
theorem u58 : (Cond.selects "LineFollowerBenchModel" ⟨"LineFollowerBenchModel", "laysTrace", "()V"⟩ ⟨"LineFollowerBenchModel", "laysTrace", "()V"⟩ : Cond) ∈ mTs := mTs_in 58 (by decide +kernel) (by decide +kernel)
theorem l_X11_245 : mLinkV "LineFollowerBenchModel" 245 0 mX11_laysTrace := ⟨⟨by decide, by decide, by decide +kernel⟩, co_X11_laysTrace, u1847, u1849, u58⟩
set_option maxHeartbeats 4000000 in
set_option maxRecDepth 100000 in
theorem gX11_run_0 {G : mG} {w : mH} {Φ : mF} {a0 N : Nat} {T : Nat → Nat → Int32} {a0_15 n_a0_15 : Nat} (h1 : hk w a0 = (11, 0)) (h2 : zRef w a0) (s1 : ∀ w1 : mH, (w1 = sfi w a0 0 0) → rOK (hai w1 (a0 + 1)) N) (s2 : ∀ w1 : mH, (w1 = sfi w a0 0 0) → ∀ w2 : mH, ((xF [22, 24] [8, 9, 10, 11, 12, 13, 14] a0 w1 w2 ∧ hfi w2 a0 22 = nI N ∧ yRep w2 a0 (hai w1 (a0 + 1)) N ∧ hai w2 (a0 + 8) N = (ySt (hai w1 (a0 + 1)) N).1)) → hfi w2 a0 22 = nI N) (s3 : ∀ w1 : mH, (w1 = sfi w a0 0 0) → ∀ w2 : mH, ((xF [22, 24] [8, 9, 10, 11, 12, 13, 14] a0 w1 w2 ∧ hfi w2 a0 22 = nI N ∧ yRep w2 a0 (hai w1 (a0 + 1)) N ∧ hai w2 (a0 + 8) N = (ySt (hai w1 (a0 + 1)) N).1)) → N ≤ 200) (s4 : ∀ w1 : mH, (w1 = sfi w a0 0 0) → ∀ w2 : mH, ((xF [22, 24] [8, 9, 10, 11, 12, 13, 14] a0 w1 w2 ∧ hfi w2 a0 22 = nI N ∧ yRep w2 a0 (hai w1 (a0 + 1)) N ∧ hai w2 (a0 + 8) N = (ySt (hai w1 (a0 + 1)) N).1)) → wT w2 a0 T N (N + 1)) (h3 : hfr w a0 15 = some a0_15) (h4 : hk w a0_15 = (16, n_a0_15)) (s5 : ∀ w1 : mH, (w1 = sfi w a0 0 0) → ∀ w2 : mH, ((xF [22, 24] [8, 9, 10, 11, 12, 13, 14] a0 w1 w2 ∧ hfi w2 a0 22 = nI N ∧ yRep w2 a0 (hai w1 (a0 + 1)) N ∧ hai w2 (a0 + 8) N = (ySt (hai w1 (a0 + 1)) N).1)) → ∀ w3 : mH, ((xF [25, 26] [15] a0 w2 w3 ∧ hfi w3 a0 25 = 1 ∧ hfi w3 a0 26 = nI N ∧ zL (hai w3 (a0 + 15)) T N (N + 1))) → vp_in (hfi w3 a0 22) n_a0_15) (k1 : ∀ w1 : mH, (w1 = sfi w a0 0 0) → ∀ w2 : mH, ((xF [22, 24] [8, 9, 10, 11, 12, 13, 14] a0 w1 w2 ∧ hfi w2 a0 22 = nI N ∧ yRep w2 a0 (hai w1 (a0 + 1)) N ∧ hai w2 (a0 + 8) N = (ySt (hai w1 (a0 + 1)) N).1)) → ∀ w3 : mH, ((xF [25, 26] [15] a0 w2 w3 ∧ hfi w3 a0 25 = 1 ∧ hfi w3 a0 26 = nI N ∧ zL (hai w3 (a0 + 15)) T N (N + 1))) → Φ (.inl (some (.int (hai w3 a0_15 ((hfi w3 a0 22).toNatClampNeg))))) w3) : mW G mX11_run 5 0 0 0 [(0, .ref a0)] [] w Φ := by
  refine mW_aload_n (j := 0) dX11_run_0 rfl rfl ?_
  refine mW_iconst (v := 0) dX11_run_1 (by decide) ?_
  refine mW_put (ty := .int) (w2 := sfi w a0 0 0) dX11_run_2 p_X11_3 h1 (Nat.le_of_ble_eq_true rfl) (by first | rfl | decide | (repeat' split) <;> rfl) rfl (hN_sfi _ _ _ _) (hk_sfi _ _ _ _) (mE_sfi h1 (by decide) (ob_11_0 _ _ _)) ?_
  refine mW_nm (fun w1 e1 => ?_)
  refine mW_aload_n (j := 0) dX11_run_5 rfl rfl ?_
  refine mW_callV (As := []) (rest := []) (kc2 := 0) (ks2 := 0) dX11_run_6 l_X11_242 rfl (s2k (S2_sfi e1) h1) rfl (by decide) (rX11_runs (w := w1) (a0 := a0) (zRef_s2 (S2_sfi e1) h2) (s1 w1 e1)) (Nat.le_of_ble_eq_true rfl) (by decide) rfl rfl mP_x (mP_k (fun w2 q1 => ?_))
  refine mW_aload_n (j := 0) dX11_run_9 rfl rfl ?_
  refine mW_callV (As := []) (rest := []) (kc2 := 0) (ks2 := 0) dX11_run_10 l_X11_245 rfl (s2k (mS2.of q1.1.1) (s2k (S2_sfi e1) h1)) rfl (by decide) (rX11_laysTrace (w := w2) (a0 := a0) (zRef_s2 (mS2.of q1.1.1) (zRef_s2 (S2_sfi e1) h2)) (s2 w1 e1 w2 q1) (s3 w1 e1 w2 q1) (s4 w1 e1 w2 q1)) (Nat.le_of_ble_eq_true rfl) (by decide) rfl rfl mP_x (mP_k (fun w3 q2 => ?_))
  refine mW_aload_n (j := 0) dX11_run_13 rfl rfl ?_
  refine mW_getR dX11_run_14 f_X11_39 (s2k (mS2.of q2.1.1) (s2k (mS2.of q1.1.1) (s2k (S2_sfi e1) h1))) rfl (s2r (mS2.of q2.1.1) (s2r (mS2.of q1.1.1) (s2r (S2_sfi e1) h3))) ?_
  refine mW_aload_n (j := 0) dX11_run_17 rfl rfl ?_
  refine mW_get dX11_run_18 f_X11_218 (s2k (mS2.of q2.1.1) (s2k (mS2.of q1.1.1) (s2k (S2_sfi e1) h1))) rfl ?_
  refine mW_ialdJ dX11_run_21 (s2k (mS2.of q2.1.1) (s2k (mS2.of q1.1.1) (s2k (S2_sfi e1) h4))) (s5 w1 e1 w2 q1 w3 q2) rfl ?_
  exact mW_iret dX11_run_22 rfl (k1 w1 e1 w2 q1 w3 q2)
def tMea (w : mH) (a0 : Nat) (x1 : Int32) : Int32 := if hfi w a0 25 = 0 then 1 else if vX11_in x1.toInt64 0 7 = 0 then 2 else 0
theorem rX11_measure {G : mG} {w : mH} {a0 N : Nat} {x1 : Int32} {T : Nat → Nat → Int32} (z : zRef w a0) (hT : ¬ hfi w a0 25 = 0 → hfi w a0 26 = nI N ∧ 1 ≤ N ∧ N ≤ 200 ∧ zL (hai w (a0 + 15)) T N (N + 1)) : mC G mX11_measure 4 0 0 [.ref a0, .int x1] w (mP (some (.int (if tMea w a0 x1 = 0 then tMeas T N x1 (hai w (a0 + 1) 14) else 0))) (fun w' => xF [0, 22] [8, 10, 11, 12, 13, 14] a0 w w' ∧ hfi w' a0 0 = tMea w a0 x1)) := by
  refine mC_of (by decide +kernel) rfl (Nat.le_of_ble_eq_true rfl) rfl ?_
  refine gX11_measure_0 (N := N) (T := T) z.1 z (by intro c1 c2 w2 e2; rw [e2, e_hfi_sfi, up2_k _ _ _ (by decide)]; exact (hT c1).1) (by intro c1 c2 w2 e2; exact (hT c1).2.2.1) (by intro c1 c2 w2 e2; subst e2; exact (hT c1).2.2.2) (by intro c1 c2 w2 e2 w3 q1; exact q1.2.1) (by intro c1 c2 w2 e2 w3 q1; exact (hT c1).2.1) ?_ ?_ ?_
  · intro c1 c2 w1 e1
    have et : tMea w a0 x1 = 2 := by unfold tMea; rw [if_neg c1, if_pos c2]
    have F : xF [0, 22] [8, 10, 11, 12, 13, 14] a0 w w1 := by rw [e1]; exact xF_sfi xF.rf (by decide)
    exact ⟨by rw [et, if_neg (by decide)], F, by rw [e1, e_hfi_sfi, up2_at, et]⟩
  · intro c1 c2 w2 e2 w3 q1
    have et : tMea w a0 x1 = 0 := by unfold tMea; rw [if_neg c1, if_neg c2]
    have F2 : xF [0, 22] [8, 10, 11, 12, 13, 14] a0 w w2 := by rw [e2]; exact xF_sfi xF.rf (by decide)
    have F3 := F2.tr (q1.1.wide (by decide) (by decide))
    have g0 : hfi w3 a0 0 = 0 := (q1.1.fi (by decide)).trans (by rw [e2, e_hfi_sfi, up2_at])
    have A1 : hai w3 (a0 + 1) = hai w (a0 + 1) := F3.ai (by decide)
    obtain ⟨i, hi, hx⟩ := iw_N (n := 7) (by decide) rfl (show ¬ vX10_isWithin x1 0 7 = 0 by rw [← in_eq (A := 0) (B := 7) rfl rfl]; exact c2)
    exact ⟨by rw [et, if_pos rfl, rMe_T q1.2.2 (hT c1).2.1 hi hx, A1], F3, by rw [g0, et]⟩
  · intro c1 w4 e3
    have et : tMea w a0 x1 = 1 := by unfold tMea; rw [if_pos c1]
    have F : xF [0, 22] [8, 10, 11, 12, 13, 14] a0 w w4 := by rw [e3]; exact xF_sfi xF.rf (by decide)
    exact ⟨by rw [et, if_neg (by decide)], F, by rw [e3, e_hfi_sfi, up2_at, et]⟩

theorem rX11_cost {G : mG} {w : mH} {a0 N : Nat} {T : Nat → Nat → Int32} (z : zRef w a0) (hT : ¬ hfi w a0 25 = 0 → hfi w a0 26 = nI N ∧ 1 ≤ N ∧ N ≤ 200 ∧ zL (hai w (a0 + 15)) T N (N + 1)) : mC G mX11_cost 5 0 0 [.ref a0] w (mP (some (.long (if hfi w a0 25 = 0 then 0 else tCost T N (fun k => hai w (a0 + 1) (15 + k)) (hai w (a0 + 1) 14)))) (fun w' => xF [0, 22] [8, 10, 11, 12, 13, 14] a0 w w' ∧ hfi w' a0 0 = if hfi w a0 25 = 0 then 1 else 0)) := by
  refine mC_of (by decide +kernel) rfl (Nat.le_of_ble_eq_true rfl) rfl ?_
  refine gX11_cost_0 (N := N) (T := T) z.1 z (by intro c1 w2 e2; rw [e2, e_hfi_sfi, up2_k _ _ _ (by decide)]; exact (hT c1).1) (by intro c1 w2 e2; exact (hT c1).2.2.1) (by intro c1 w2 e2; subst e2; exact (hT c1).2.2.2) (by intro c1 w2 e2 w3 q1; exact q1.2.1) (by intro c1 w2 e2 w3 q1; exact (hT c1).2.1) (by intro c1 w2 e2 w3 q1; exact q1.2.2) ?_ ?_
  · intro c1 w1 e1
    have F : xF [0, 22] [8, 10, 11, 12, 13, 14] a0 w w1 := by rw [e1]; exact xF_sfi xF.rf (by decide)
    exact ⟨by rw [if_pos c1], F, by rw [e1, e_hfi_sfi, up2_at, if_pos c1]⟩
  · intro c1 w2 e2 w3 q1
    have F2 : xF [0, 22] [8, 10, 11, 12, 13, 14] a0 w w2 := by rw [e2]; exact xF_sfi xF.rf (by decide)
    have F3 := F2.tr (q1.1.wide (by decide) (by decide))
    have g0 : hfi w3 a0 0 = 0 := (q1.1.fi (by decide)).trans (by rw [e2, e_hfi_sfi, up2_at])
    have A1 : hai w3 (a0 + 1) = hai w (a0 + 1) := F3.ai (by decide)
    exact ⟨by rw [if_neg c1, A1], F3, by rw [g0, if_neg c1]⟩

def rTr (A : Nat → Int32) : Nat → Nat → Int32
  | 0, j => (ySt A j).1
  | 1, j => ySn A j (ySt A j)
  | 2, j => (ySt A (j + 1)).2.2.2.2.1
  | 3, j => (ySt A (j + 1)).2.2.1
  | 4, j => (ySt A (j + 1)).2.2.2.1
  | _, j => yW A j (ySt A j)
theorem yRep_wT {w : mH} {a N : Nat} {A : Nat → Int32} (h : yRep w a A N) (e : hai w (a + 8) N = (ySt A N).1) : wT w a (rTr A) N (N + 1) := by
  obtain ⟨h0, h1, h2, h3, h4, h5⟩ := h
  refine ⟨fun j hj => ?_, h1, h2, h3, h4, h5⟩
  by_cases q : j = N
  · subst q; exact e
  · exact h0 j (by omega)
theorem rX11_run {G : mG} {w : mH} {a0 N : Nat} (z : zRef w a0) (ok : rOK (hai w (a0 + 1)) N) : mC G mX11_run 5 0 0 [.ref a0] w (mP (some (.int (ySt (hai w (a0 + 1)) N).1)) (fun w' => xF [0, 22, 24, 25, 26] [8, 9, 10, 11, 12, 13, 14, 15] a0 w w' ∧ hfi w' a0 0 = 0 ∧ hfi w' a0 25 = 1 ∧ hfi w' a0 26 = nI N ∧ zL (hai w' (a0 + 15)) (rTr (hai w (a0 + 1))) N (N + 1))) := by
  have h200 := ok.2.2.1
  refine mC_of (by decide +kernel) rfl (Nat.le_of_ble_eq_true rfl) rfl ?_
  refine gX11_run_0 (N := N) (T := rTr (hai w (a0 + 1))) (a0_15 := a0 + 8) z.1 z (by intro w1 e1; subst e1; exact ok) (by intro w1 e1 w2 q1; exact q1.2.1) (by intro w1 e1 w2 q1; exact ok.2.2.1) (by intro w1 e1 w2 q1; subst e1; exact yRep_wT q1.2.2.1 q1.2.2.2) z.2.2.2.2.2.2.2.2.1 z.2.2.2.2.2.2.2.2.2.2.2.2.2.2.2.2.2.2.2.2.2.2.2.2.2.2.2.2.2.1 (by intro w1 e1 w2 q1 w3 q2; have h200 := ok.2.2.1; rw [q2.1.fi (by decide), q1.2.1]; exact m_vp (by omega) (by decide)) ?_
  · intro w1 e1 w2 q1 w3 q2
    have F1 : xF [0, 22, 24, 25, 26] [8, 9, 10, 11, 12, 13, 14, 15] a0 w w1 := by rw [e1]; exact xF_sfi xF.rf (by decide)
    have F3 := (F1.tr (q1.1.wide (by decide) (by decide))).tr (q2.1.wide (by decide) (by decide))
    have A1 : hai w1 (a0 + 1) = hai w (a0 + 1) := by rw [e1]; rfl
    have g22 : hfi w3 a0 22 = nI N := (q2.1.fi (by decide)).trans q1.2.1
    rw [g22, m_cl (by omega), q2.1.ai (by decide), q1.2.2.2, A1]
    exact mP_of ⟨F3, by rw [q2.1.fi (by decide), q1.1.fi (by decide), e1, e_hfi_sfi, up2_at], q2.2.1, q2.2.2.1, q2.2.2.2⟩

