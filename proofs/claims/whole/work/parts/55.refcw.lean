/-! the reference: costWith -/
theorem rX11_runs' {G : mG} {w : mH} {a0 N : Nat} (z : zRef w a0) (ok : rOK (hai w (a0 + 1)) N) : mC G mX11_runs 4 0 0 [.ref a0] w (mP none (fun w' => xF [22, 24] [8, 9, 10, 11, 12, 13, 14] a0 w w' ∧ hfi w' a0 22 = nI N ∧ wT w' a0 (rTr (hai w (a0 + 1))) N (N + 1))) := mC_mono (fun o w' h => by
  obtain ⟨e, F, h1, h2, h3⟩ := h
  exact ⟨e, F, h1, yRep_wT h2 h3⟩) (rX11_runs z ok)
theorem rOK_c {A B : Nat → Int32} {N : Nat} (h : ∀ k, 4 ≤ k → B k = A k) (ok : rOK A N) : rOK B N := by
  obtain ⟨h13, h1, h200, ⟨hp1, hp2⟩, hs, ⟨⟨c1, c2, c3, c4⟩, hk⟩, h5, h6, hd⟩ := ok
  have e29 : nPt B = nPt A := by unfold nPt; rw [h 29 (by decide)]
  have e40 : nSg B = nSg A := by unfold nSg; rw [h 40 (by decide)]
  have e65 : nPs B = nPs A := by unfold nPs; rw [h 65 (by decide)]
  have e6 : yD B = yD A := by unfold yD; rw [h 6 (by decide)]
  have eX : ∀ i, rX B i = rX A i := fun i => h _ (by omega)
  have eL : ∀ i, rL B i = rL A i := fun i => h _ (by omega)
  refine ⟨by rw [h 13 (by decide)]; exact h13, h1, h200, ⟨?_, ?_⟩, fun i hi => ?_, ⟨⟨?_, ?_, ?_, ?_⟩, fun i hi => ?_⟩, by rw [h 5 (by decide)]; exact h5, by rw [h 6 (by decide), e6]; exact h6, by rw [e6]; exact hd⟩
  · rw [e29, h 29 (by decide)]; exact hp1
  · rw [e29]; exact hp2
  · rw [e29] at hi; rw [eX, eX]; exact hs i hi
  · rw [e40, h 40 (by decide)]; exact c1
  · rw [e40]; exact c2
  · rw [e65, h 65 (by decide)]; exact c3
  · rw [e65]; exact c4
  · rw [e40] at hi; rw [eL]; exact hk i hi
theorem rOK_g {A : Nat → Int32} {N : Nat} {p i d : Int32} (ok : rOK A N) : rOK (aGain A p i d) N := rOK_c (fun k hk => by unfold aGain; rw [upd_ne (by omega), upd_ne (by omega), upd_ne (by omega)]) ok
theorem cw_row {w w1 w2 w3 : mH} {b : Nat} {p i d : Int32} (e1 : w1 = sai w b 0 p) (e2 : w2 = sai w1 b 1 i) (e3 : w3 = sai w2 b 2 d) : hai w3 b = aGain (hai w b) p i d := by
  rw [e3, e_hai_sai, up2_row, e2, e_hai_sai, up2_row, e1, e_hai_sai, up2_row]
  rfl
theorem cw_back (A : Nat → Int32) (p i d : Int32) : aGain (aGain A p i d) (A 0) (A 1) (A 2) = A := by
  funext k
  unfold aGain upd
  by_cases h2 : k = 2
  · rw [if_pos h2, h2]
  · rw [if_neg h2]
    by_cases h1 : k = 1
    · rw [if_pos h1, h1]
    · rw [if_neg h1]
      by_cases h0 : k = 0
      · rw [if_pos h0, h0]
      · rw [if_neg h0, if_neg h2, if_neg h1, if_neg h0]
def rCW (A : Nat → Int32) (N : Nat) (p i d : Int32) : Int64 := tCost (rTr (aGain A p i d)) N (fun k => A (15 + k)) (A 14)
theorem xF_drop {F P Q : List Nat} {a0 i : Nat} {w w' : mH} (h : xF F Q a0 w w') (hQ : ∀ j, j ∈ Q → j = i ∨ j ∈ P) (e1 : hai w' (a0 + i) = hai w (a0 + i)) (e2 : hal w' (a0 + i) = hal w (a0 + i)) : xF F P a0 w w' := by
  refine ⟨h.1, h.2.1, h.2.2.1, fun a ha => ?_⟩
  by_cases q : a = a0 + i
  · rw [q]; exact ⟨e1, e2⟩
  · exact h.2.2.2 a (fun j hj => (hQ j hj).elim (fun s => by rw [s]; exact q) (fun s => ha j s))
abbrev mX11_costWith : mM := (yX11_costWith, cX11_costWith, 9, (some .long), [])
set_option maxHeartbeats 4000000 in
set_option maxRecDepth 100000 in
theorem gX11_costWith_0 {G : mG} {w : mH} {Φ : mF} {a0 : Nat} {x1 x2 x3 : Int32} {N : Nat} {T : Nat → Nat → Int32} {a0_1 n_a0_1 : Nat} (h1 : hk w a0 = (11, 0)) (h2 : hfr w a0 1 = some a0_1) (h3 : hk w a0_1 = (16, n_a0_1)) (s1 : vp_in 0 n_a0_1) (s2 : vp_in 1 n_a0_1) (s3 : vp_in 2 n_a0_1) (h4 : zRef w a0) (s4 : ∀ w1 : mH, (w1 = sai w a0_1 0 x1) → ∀ w2 : mH, (w2 = sai w1 a0_1 1 x2) → ∀ w3 : mH, (w3 = sai w2 a0_1 2 x3) → rOK (hai w3 (a0 + 1)) N) (s5 : ∀ w1 : mH, (w1 = sai w a0_1 0 x1) → ∀ w2 : mH, (w2 = sai w1 a0_1 1 x2) → ∀ w3 : mH, (w3 = sai w2 a0_1 2 x3) → ∀ w4 : mH, ((xF [22, 24] [8, 9, 10, 11, 12, 13, 14] a0 w3 w4 ∧ hfi w4 a0 22 = nI N ∧ wT w4 a0 (rTr (hai w3 (a0 + 1))) N (N + 1))) → hfi w4 a0 22 = nI N) (s6 : ∀ w1 : mH, (w1 = sai w a0_1 0 x1) → ∀ w2 : mH, (w2 = sai w1 a0_1 1 x2) → ∀ w3 : mH, (w3 = sai w2 a0_1 2 x3) → ∀ w4 : mH, ((xF [22, 24] [8, 9, 10, 11, 12, 13, 14] a0 w3 w4 ∧ hfi w4 a0 22 = nI N ∧ wT w4 a0 (rTr (hai w3 (a0 + 1))) N (N + 1))) → N ≤ 200) (s7 : ∀ w1 : mH, (w1 = sai w a0_1 0 x1) → ∀ w2 : mH, (w2 = sai w1 a0_1 1 x2) → ∀ w3 : mH, (w3 = sai w2 a0_1 2 x3) → ∀ w4 : mH, ((xF [22, 24] [8, 9, 10, 11, 12, 13, 14] a0 w3 w4 ∧ hfi w4 a0 22 = nI N ∧ wT w4 a0 (rTr (hai w3 (a0 + 1))) N (N + 1))) → 1 ≤ N) (s8 : ∀ w1 : mH, (w1 = sai w a0_1 0 x1) → ∀ w2 : mH, (w2 = sai w1 a0_1 1 x2) → ∀ w3 : mH, (w3 = sai w2 a0_1 2 x3) → ∀ w4 : mH, ((xF [22, 24] [8, 9, 10, 11, 12, 13, 14] a0 w3 w4 ∧ hfi w4 a0 22 = nI N ∧ wT w4 a0 (rTr (hai w3 (a0 + 1))) N (N + 1))) → wT w4 a0 T N (N + 1)) (k1 : ∀ w1 : mH, (w1 = sai w a0_1 0 x1) → ∀ w2 : mH, (w2 = sai w1 a0_1 1 x2) → ∀ w3 : mH, (w3 = sai w2 a0_1 2 x3) → ∀ w4 : mH, ((xF [22, 24] [8, 9, 10, 11, 12, 13, 14] a0 w3 w4 ∧ hfi w4 a0 22 = nI N ∧ wT w4 a0 (rTr (hai w3 (a0 + 1))) N (N + 1))) → ∀ w5 : mH, (w5 = sai w4 a0_1 0 (hai w a0_1 0)) → ∀ w6 : mH, (w6 = sai w5 a0_1 1 (hai w a0_1 1)) → ∀ w7 : mH, (w7 = sai w6 a0_1 2 (hai w a0_1 2)) → Φ (.inl (some (.long (tCost T N (fun k => hai w4 (a0 + 1) (15 + k)) (hai w4 (a0 + 1) 14))))) w7) : mW G mX11_costWith 6 0 0 0 [(0, .ref a0), (1, .int x1), (2, .int x2), (3, .int x3)] [] w Φ := by
  refine mW_aload_n (j := 0) dX11_costWith_0 rfl rfl ?_
  refine mW_getR dX11_costWith_1 f_X11_13 h1 rfl h2 ?_
  refine mW_iconst (v := 0) dX11_costWith_4 (by decide) ?_
  refine mW_ialdJ dX11_costWith_5 h3 s1 (j := 0) (by decide) ?_
  refine mW_istore (lv2 := [(4, .int (hai w a0_1 0)), (0, .ref a0), (1, .int x1), (2, .int x2), (3, .int x3)]) dX11_costWith_6 (by decide) rfl ?_
  refine mW_aload_n (j := 1) dX11_costWith_8 rfl rfl ?_
  refine mW_getR dX11_costWith_9 f_X11_13 h1 rfl h2 ?_
  refine mW_iconst (v := 1) dX11_costWith_12 (by decide) ?_
  refine mW_ialdJ dX11_costWith_13 h3 s2 (j := 1) (by decide) ?_
  refine mW_istore (lv2 := [(5, .int (hai w a0_1 1)), (4, .int (hai w a0_1 0)), (0, .ref a0), (1, .int x1), (2, .int x2), (3, .int x3)]) dX11_costWith_14 (by decide) rfl ?_
  refine mW_aload_n (j := 2) dX11_costWith_16 rfl rfl ?_
  refine mW_getR dX11_costWith_17 f_X11_13 h1 rfl h2 ?_
  refine mW_iconst (v := 2) dX11_costWith_20 (by decide) ?_
  refine mW_ialdJ dX11_costWith_21 h3 s3 (j := 2) (by decide) ?_
  refine mW_istore (lv2 := [(6, .int (hai w a0_1 2)), (5, .int (hai w a0_1 1)), (4, .int (hai w a0_1 0)), (0, .ref a0), (1, .int x1), (2, .int x2), (3, .int x3)]) dX11_costWith_22 (by decide) rfl ?_
  refine mW_aload_n (j := 3) dX11_costWith_24 rfl rfl ?_
  refine mW_getR dX11_costWith_25 f_X11_13 h1 rfl h2 ?_
  refine mW_iconst (v := 0) dX11_costWith_28 (by decide) ?_
  refine mW_iload_n (j := 4) dX11_costWith_29 rfl rfl ?_
  refine mW_iastJ dX11_costWith_30 h3 s1 (j := 0) (by decide) ?_
  refine mW_nm (fun w1 e1 => ?_)
  refine mW_aload_n (j := 3) dX11_costWith_31 rfl rfl ?_
  refine mW_getR dX11_costWith_32 f_X11_13 (s2k (S2_sai e1) h1) rfl (s2r (S2_sai e1) h2) ?_
  refine mW_iconst (v := 1) dX11_costWith_35 (by decide) ?_
  refine mW_iload_n (j := 5) dX11_costWith_36 rfl rfl ?_
  refine mW_iastJ dX11_costWith_37 (s2k (S2_sai e1) h3) s2 (j := 1) (by decide) ?_
  refine mW_nm (fun w2 e2 => ?_)
  refine mW_aload_n (j := 3) dX11_costWith_38 rfl rfl ?_
  refine mW_getR dX11_costWith_39 f_X11_13 (s2k (S2_sai e2) (s2k (S2_sai e1) h1)) rfl (s2r (S2_sai e2) (s2r (S2_sai e1) h2)) ?_
  refine mW_iconst (v := 2) dX11_costWith_42 (by decide) ?_
  refine mW_iload_n (j := 6) dX11_costWith_43 rfl rfl ?_
  refine mW_iastJ dX11_costWith_44 (s2k (S2_sai e2) (s2k (S2_sai e1) h3)) s3 (j := 2) (by decide) ?_
  refine mW_nm (fun w3 e3 => ?_)
  refine mW_aload_n (j := 3) dX11_costWith_45 rfl rfl ?_
  refine mW_callV (As := []) (rest := []) (kc2 := 0) (ks2 := 0) dX11_costWith_46 l_X11_242 rfl (s2k (S2_sai e3) (s2k (S2_sai e2) (s2k (S2_sai e1) h1))) rfl (by decide) (rX11_runs' (w := w3) (a0 := a0) (zRef_s2 (S2_sai e3) (zRef_s2 (S2_sai e2) (zRef_s2 (S2_sai e1) h4))) (s4 w1 e1 w2 e2 w3 e3)) (Nat.le_of_ble_eq_true rfl) (by decide) rfl rfl mP_x (mP_k (fun w4 q1 => ?_))
  refine mW_aload_n (j := 3) dX11_costWith_49 rfl rfl ?_
  refine mW_callVe (As := []) (rest := []) (kc2 := 0) (ks2 := 0) dX11_costWith_50 l_X11_255 rfl (s2k (mS2.of q1.1.1) (s2k (S2_sai e3) (s2k (S2_sai e2) (s2k (S2_sai e1) h1)))) rfl (by decide) (rX11_costs (w := w4) (a0 := a0) (zRef_s2 (mS2.of q1.1.1) (zRef_s2 (S2_sai e3) (zRef_s2 (S2_sai e2) (zRef_s2 (S2_sai e1) h4)))) (s5 w1 e1 w2 e2 w3 e3 w4 q1) (s6 w1 e1 w2 e2 w3 e3 w4 q1) (s7 w1 e1 w2 e2 w3 e3 w4 q1) (s8 w1 e1 w2 e2 w3 e3 w4 q1)) (Nat.le_of_ble_eq_true rfl) (by decide) rfl rfl ?_
  refine mW_lstore (lv2 := [(7, .long (tCost T N (fun k => hai w4 (a0 + 1) (15 + k)) (hai w4 (a0 + 1) 14))), (6, .int (hai w a0_1 2)), (5, .int (hai w a0_1 1)), (4, .int (hai w a0_1 0)), (0, .ref a0), (1, .int x1), (2, .int x2), (3, .int x3)]) dX11_costWith_53 (by decide) rfl ?_
  refine mW_aload_n (j := 4) dX11_costWith_55 rfl rfl ?_
  refine mW_getR dX11_costWith_56 f_X11_13 (s2k (mS2.of q1.1.1) (s2k (S2_sai e3) (s2k (S2_sai e2) (s2k (S2_sai e1) h1)))) rfl (s2r (mS2.of q1.1.1) (s2r (S2_sai e3) (s2r (S2_sai e2) (s2r (S2_sai e1) h2)))) ?_
  refine mW_iconst (v := 0) dX11_costWith_59 (by decide) ?_
  refine mW_iload (j := 3) dX11_costWith_60 rfl ?_
  refine mW_iastJ dX11_costWith_62 (s2k (mS2.of q1.1.1) (s2k (S2_sai e3) (s2k (S2_sai e2) (s2k (S2_sai e1) h3)))) s1 (j := 0) (by decide) ?_
  refine mW_nm (fun w5 e4 => ?_)
  refine mW_aload_n (j := 4) dX11_costWith_63 rfl rfl ?_
  refine mW_getR dX11_costWith_64 f_X11_13 (s2k (S2_sai e4) (s2k (mS2.of q1.1.1) (s2k (S2_sai e3) (s2k (S2_sai e2) (s2k (S2_sai e1) h1))))) rfl (s2r (S2_sai e4) (s2r (mS2.of q1.1.1) (s2r (S2_sai e3) (s2r (S2_sai e2) (s2r (S2_sai e1) h2))))) ?_
  refine mW_iconst (v := 1) dX11_costWith_67 (by decide) ?_
  refine mW_iload (j := 2) dX11_costWith_68 rfl ?_
  refine mW_iastJ dX11_costWith_70 (s2k (S2_sai e4) (s2k (mS2.of q1.1.1) (s2k (S2_sai e3) (s2k (S2_sai e2) (s2k (S2_sai e1) h3))))) s2 (j := 1) (by decide) ?_
  refine mW_nm (fun w6 e5 => ?_)
  refine mW_aload_n (j := 4) dX11_costWith_71 rfl rfl ?_
  refine mW_getR dX11_costWith_72 f_X11_13 (s2k (S2_sai e5) (s2k (S2_sai e4) (s2k (mS2.of q1.1.1) (s2k (S2_sai e3) (s2k (S2_sai e2) (s2k (S2_sai e1) h1)))))) rfl (s2r (S2_sai e5) (s2r (S2_sai e4) (s2r (mS2.of q1.1.1) (s2r (S2_sai e3) (s2r (S2_sai e2) (s2r (S2_sai e1) h2)))))) ?_
  refine mW_iconst (v := 2) dX11_costWith_75 (by decide) ?_
  refine mW_iload (j := 1) dX11_costWith_76 rfl ?_
  refine mW_iastJ dX11_costWith_78 (s2k (S2_sai e5) (s2k (S2_sai e4) (s2k (mS2.of q1.1.1) (s2k (S2_sai e3) (s2k (S2_sai e2) (s2k (S2_sai e1) h3)))))) s3 (j := 2) (by decide) ?_
  refine mW_nm (fun w7 e6 => ?_)
  refine mW_lload (j := 0) dX11_costWith_79 rfl ?_
  exact mW_lret dX11_costWith_81 rfl (k1 w1 e1 w2 e2 w3 e3 w4 q1 w5 e4 w6 e5 w7 e6)
theorem rX11_costWith {G : mG} {w : mH} {a0 N : Nat} {x1 x2 x3 : Int32} (z : zRef w a0) (ok : rOK (hai w (a0 + 1)) N) : mC G mX11_costWith 6 0 0 [.ref a0, .int x1, .int x2, .int x3] w (mP (some (.long (rCW (hai w (a0 + 1)) N x1 x2 x3))) (fun w' => xF [22, 24] [8, 9, 10, 11, 12, 13, 14] a0 w w')) := by
  refine mC_of (by decide +kernel) rfl (Nat.le_of_ble_eq_true rfl) rfl ?_
  refine gX11_costWith_0 (N := N) (T := rTr (aGain (hai w (a0 + 1)) x1 x2 x3)) (a0_1 := a0 + 1) z.1 z.2.1 z.2.2.2.2.2.2.2.2.2.2.2.2.2.2.2.2.2.2.2.2.2.2.1 (by intros; unfold vp_in; decide) (by intros; unfold vp_in; decide) (by intros; unfold vp_in; decide) z (by intro w1 e1 w2 e2 w3 e3; rw [cw_row e1 e2 e3]; exact rOK_g ok) (by intro w1 e1 w2 e2 w3 e3 w4 q1; exact q1.2.1) (by intro w1 e1 w2 e2 w3 e3 w4 q1; exact ok.2.2.1) (by intro w1 e1 w2 e2 w3 e3 w4 q1; exact ok.2.1) (by intro w1 e1 w2 e2 w3 e3 w4 q1; rw [← cw_row e1 e2 e3]; exact q1.2.2) ?_
  · intro w1 e1 w2 e2 w3 e3 w4 q1 w5 e4 w6 e5 w7 e6
    have r3 := cw_row e1 e2 e3
    have r4 : hai w4 (a0 + 1) = aGain (hai w (a0 + 1)) x1 x2 x3 := (q1.1.ai (by decide)).trans r3
    have r7 := cw_row e4 e5 e6
    rw [r4, cw_back] at r7
    have F3 : xF [22, 24] [1, 8, 9, 10, 11, 12, 13, 14] a0 w w3 := by rw [e3, e2, e1]; exact xF_sai (xF_sai (xF_sai xF.rf (by decide)) (by decide)) (by decide)
    have F4 := F3.tr (q1.1.wide (by decide) (by decide))
    have F7 : xF [22, 24] [1, 8, 9, 10, 11, 12, 13, 14] a0 w w7 := F4.tr (by rw [e6, e5, e4]; exact xF_sai (xF_sai (xF_sai xF.rf (by decide)) (by decide)) (by decide))
    have v : tCost (rTr (aGain (hai w (a0 + 1)) x1 x2 x3)) N (fun k => hai w4 (a0 + 1) (15 + k)) (hai w4 (a0 + 1) 14) = rCW (hai w (a0 + 1)) N x1 x2 x3 := by
      rw [r4]
      rfl
    rw [v]
    refine mP_of (xF_drop (i := 1) F7 (by decide) r7 ?_)
    rw [e6, e5, e4, e_hal_sai, e_hal_sai, e_hal_sai, q1.1.al (by decide), e3, e2, e1, e_hal_sai, e_hal_sai, e_hal_sai]

