abbrev mX9_lowered : mM := (yX9_lowered, cX9_lowered, 7, (some .int), [])
set_option maxHeartbeats 4000000 in
set_option maxRecDepth 100000 in
theorem gX9_lowered_0 {G : mG} {w : mH} {Φ : mF} {a0 a1 : Nat} {x2 : Int32} {y3 : Int64} {A S : Nat → Int32} {N a0_0 a1_0 n_a1_0 : Nat} (h1 : hk w a0 = (9, 0)) (h2 : hfr w a0 0 = some a0_0) (h3 : hk w a0_0 = (4, 0)) (h4 : zSim w a0_0) (h5 : zSet w a1) (s1 : (¬ ((vX10_isWithin x2 0 14) = 0)) → a0_0 + 8 ≤ a1 ∨ a1 + 17 ≤ a0_0) (s2 : (¬ ((vX10_isWithin x2 0 14) = 0)) → sRep w a1 A) (s3 : (¬ ((vX10_isWithin x2 0 14) = 0)) → A 13 = nI N) (s4 : (¬ ((vX10_isWithin x2 0 14) = 0)) → N ≤ 200) (h6 : hk w a1 = (3, 0)) (h7 : hfr w a1 0 = some a1_0) (h8 : hk w a1_0 = (16, n_a1_0)) (s5 : (¬ ((vX10_isWithin x2 0 14) = 0)) → ∀ w1 : mH, (mFr a0_0 (a0_0 + 8) w w1 ∧ pRep w1 a0_0 A N) → vp_in x2 n_a1_0) (k1 : (¬ ((vX10_isWithin x2 0 14) = 0)) → ∀ w1 : mH, (mFr a0_0 (a0_0 + 8) w w1 ∧ pRep w1 a0_0 A N) → mW G mX9_lowered 8 0 0 31 [(0, .ref a0), (1, .ref a1), (2, .int x2), (3, .long y3), (5, .int (-1)), (6, .int (hai w1 a1_0 x2.toNatClampNeg))] [] w1 Φ) (k2 : ((vX10_isWithin x2 0 14) = 0) → Φ (.inl (some (.int (-1)))) w) : mW G mX9_lowered 8 0 0 0 [(0, .ref a0), (1, .ref a1), (2, .int x2), (3, .long y3)] [] w Φ := by
  refine mW_iload_n (j := 2) dX9_lowered_0 rfl rfl ?_
  refine mW_iconst (v := 0) dX9_lowered_1 (by decide) ?_
  refine mW_bipush (v := 14) dX9_lowered_2 (by decide) ?_
  refine mW_callSNe (As := [.int x2, .int 0, .int 14]) (rest := []) (kc2 := 0) (ks2 := 0) dX9_lowered_4 l_X9_82 rfl (qX10_isWithin (w := w) (x0 := x2) (x1 := 0) (x2 := 14)) (Nat.le_of_ble_eq_true rfl) (by decide) rfl rfl ?_
  refine mW_if_ne (tgt := 12) dX9_lowered_7 (by decide) (fun c1 => ?_) (fun c1 => ?_)
  · refine mW_aload_n (j := 0) dX9_lowered_12 rfl rfl ?_
    refine mW_getR dX9_lowered_13 f_X9_12 h1 rfl h2 ?_
    refine mW_aload_n (j := 1) dX9_lowered_16 rfl rfl ?_
    refine mW_callV (As := [.ref a1]) (rest := []) (kc2 := 0) (ks2 := 0) dX9_lowered_17 l_X9_33 rfl h3 rfl (by decide) (rX4_prepare (w := w) (a0 := a0_0) (a1 := a1) h4 h5 (s1 c1) (s2 c1) (s3 c1) (s4 c1)) (Nat.le_of_ble_eq_true rfl) (by decide) rfl rfl mP_x (mP_k (fun w1 q1 => ?_))
    refine mW_iconst (v := (-1)) dX9_lowered_20 (by decide) ?_
    refine mW_istore (lv2 := [(5, .int (-1)), (0, .ref a0), (1, .ref a1), (2, .int x2), (3, .long y3)]) dX9_lowered_21 (by decide) rfl ?_
    refine mW_aload_n (j := 2) dX9_lowered_23 rfl rfl ?_
    refine mW_getR dX9_lowered_24 f_X9_77 (s2k (mS2.of q1.1.1) h6) rfl (s2r (mS2.of q1.1.1) h7) ?_
    refine mW_iload_n (j := 3) dX9_lowered_27 rfl rfl ?_
    refine mW_ialdJ dX9_lowered_28 (s2k (mS2.of q1.1.1) h8) (s5 c1 w1 q1) rfl ?_
    refine mW_istore (lv2 := [(6, .int (hai w1 a1_0 x2.toNatClampNeg)), (5, .int (-1)), (0, .ref a0), (1, .ref a1), (2, .int x2), (3, .long y3)]) dX9_lowered_29 (by decide) rfl ?_
    refine mW_loc [2, 3, 4, 5, 1, 0] (lv2 := [(0, .ref a0), (1, .ref a1), (2, .int x2), (3, .long y3), (5, .int (-1)), (6, .int (hai w1 a1_0 x2.toNatClampNeg))]) rfl ?_
    exact k1 c1 w1 q1
  · refine mW_iconst (v := (-1)) dX9_lowered_10 (by decide) ?_
    exact mW_iret dX9_lowered_11 rfl (k2 c1)
theorem v1515 : (Cond.fieldLinkNest "LineFollowerBench$Tuner" 119 "LineFollowerBench" "SETTING_LEAST" "[I" "LineFollowerBench" : Cond) ∈ lw_tbl := List.mem_of_getElem? (i := 1515) (by decide +kernel)
set_option maxHeartbeats 4000000 in
set_option maxRecDepth 100000 in
theorem gX9_lowered_31 {G : mG} {w : mH} {Φ : mF} {a0 a1 : Nat} {x2 : Int32} {y3 : Int64} {x5 x6 : Int32} {A S : Nat → Int32} {N a0_0 a0_0_0 n_a0_0_0 : Nat} (s1 : vp_in x2 15) (h1 : hk w a0 = (9, 0)) (h2 : hfr w a0 0 = some a0_0) (h3 : hk w a0_0 = (4, 0)) (h4 : hfr w a0_0 0 = some a0_0_0) (h5 : hk w a0_0_0 = (16, n_a0_0_0)) (s2 : (¬ (x6 < ((mSv 1).getD x2.toNatClampNeg 0))) → vp_in x2 n_a0_0_0) (h6 : zTun w a0) (h7 : zSet w a1) (s3 : (¬ (x6 < ((mSv 1).getD x2.toNatClampNeg 0))) → ∀ w1 : mH, (w1 = sai w a0_0_0 x2.toNatClampNeg x6) → a0 + 18 ≤ a1 ∨ a1 + 17 ≤ a0) (s4 : (¬ (x6 < ((mSv 1).getD x2.toNatClampNeg 0))) → ∀ w1 : mH, (w1 = sai w a0_0_0 x2.toNatClampNeg x6) → mRun w1 (a0 + 1) (a0 + 9) S A N) (s5 : (¬ (x6 < ((mSv 1).getD x2.toNatClampNeg 0))) → ∀ w1 : mH, (w1 = sai w a0_0_0 x2.toNatClampNeg x6) → sRep w1 a1 A) (k1 : (x6 < ((mSv 1).getD x2.toNatClampNeg 0)) → Φ (.inl (some (.int x5))) w) (k2 : (¬ (x6 < ((mSv 1).getD x2.toNatClampNeg 0))) → ∀ w1 : mH, (w1 = sai w a0_0_0 x2.toNatClampNeg x6) → ∀ w2 : mH, (mFr (a0 + 1) (a0 + 16) w1 w2 ∧ mRun w2 (a0 + 1) (a0 + 9) S A N) → ((lg_cmp (aCost S A N) y3) ≤ 0) → mW G mX9_lowered 8 0 0 31 [(0, .ref a0), (1, .ref a1), (2, .int x2), (3, .long y3), (5, .int x6), (6, .int (x6 + (-1)))] [] w2 Φ) (k3 : (¬ (x6 < ((mSv 1).getD x2.toNatClampNeg 0))) → ∀ w1 : mH, (w1 = sai w a0_0_0 x2.toNatClampNeg x6) → ∀ w2 : mH, (mFr (a0 + 1) (a0 + 16) w1 w2 ∧ mRun w2 (a0 + 1) (a0 + 9) S A N) → (¬ ((lg_cmp (aCost S A N) y3) ≤ 0)) → Φ (.inl (some (.int x5))) w2) : mW G mX9_lowered 8 0 0 31 [(0, .ref a0), (1, .ref a1), (2, .int x2), (3, .long y3), (5, .int x5), (6, .int x6)] [] w Φ := by
  refine mW_iload (j := 5) dX9_lowered_31 rfl ?_
  refine mW_getsN (i := 1) dX9_lowered_33 (by decide) v1515 ?_
  refine mW_iload_n (j := 2) dX9_lowered_36 rfl rfl ?_
  refine mW_saldJ (i := 1) dX9_lowered_37 (by decide) s1 rfl ?_
  refine mW_icmp_lt (tgt := 75) dX9_lowered_38 (by decide) (fun c1 => ?_) (fun c1 => ?_)
  · refine mW_iload (j := 4) dX9_lowered_75 rfl ?_
    exact mW_iret dX9_lowered_77 rfl (k1 c1)
  · refine mW_aload_n (j := 0) dX9_lowered_41 rfl rfl ?_
    refine mW_getR dX9_lowered_42 f_X9_12 h1 rfl h2 ?_
    refine mW_getR dX9_lowered_45 f_X9_52 h3 rfl h4 ?_
    refine mW_iload_n (j := 2) dX9_lowered_48 rfl rfl ?_
    refine mW_iload (j := 5) dX9_lowered_49 rfl ?_
    refine mW_iastJ dX9_lowered_51 h5 (s2 c1) rfl ?_
    refine mW_nm (fun w1 e1 => ?_)
    refine mW_aload_n (j := 0) dX9_lowered_52 rfl rfl ?_
    refine mW_aload_n (j := 1) dX9_lowered_53 rfl rfl ?_
    refine mW_callV (As := [.ref a1]) (rest := []) (kc2 := 0) (ks2 := 0) dX9_lowered_54 l_X9_59 rfl (s2k (S2_sai e1) h1) rfl (by decide) (rX9_trialCost (w := w1) (a0 := a0) (a1 := a1) (zTun_s2 (S2_sai e1) h6) (zSet_s2 (S2_sai e1) h7) (s3 c1 w1 e1) (s4 c1 w1 e1) (s5 c1 w1 e1)) (Nat.le_of_ble_eq_true rfl) (by decide) rfl rfl mP_x (mP_k (fun w2 q1 => ?_))
    refine mW_lload_n (j := 3) dX9_lowered_57 rfl rfl ?_
    refine mW_lcmp dX9_lowered_58 ?_
    refine mW_if_le (tgt := 65) dX9_lowered_59 (by decide) (fun c2 => ?_) (fun c2 => ?_)
    · refine mW_iload (j := 5) dX9_lowered_65 rfl ?_
      refine mW_istore (lv2 := [(5, .int x6), (0, .ref a0), (1, .ref a1), (2, .int x2), (3, .long y3), (6, .int x6)]) dX9_lowered_67 (by decide) rfl ?_
      refine mW_iinc (j := 5) (v := x6 + (-1)) (lv2 := [(6, .int (x6 + (-1))), (5, .int x6), (0, .ref a0), (1, .ref a1), (2, .int x2), (3, .long y3)]) dX9_lowered_69 rfl rfl (by decide) rfl ?_
      refine mW_goto (tgt := 31) dX9_lowered_72 (by decide) ?_
      refine mW_loc [2, 3, 4, 5, 1, 0] (lv2 := [(0, .ref a0), (1, .ref a1), (2, .int x2), (3, .long y3), (5, .int x6), (6, .int (x6 + (-1)))]) rfl ?_
      exact k2 c1 w1 e1 w2 q1 c2
    · refine mW_goto (tgt := 75) dX9_lowered_62 (by decide) ?_
      refine mW_iload (j := 4) dX9_lowered_75 rfl ?_
      exact mW_iret dX9_lowered_77 rfl (k3 c1 w1 e1 w2 q1 c2)
def fLowB (C : Nat → Int64) (al : Int64) (l : Nat) : Nat → Nat | 0 => 0 | b + 1 => if b < l then b + 1 else if al < C b then b + 1 else fLowB C al l b
def aLow (A : Nat → Int32) (N s : Nat) : Nat → Int64 := fun b => aCost (upd A s (nI b)) A N
theorem fLowB_le (C : Nat → Int64) (al : Int64) (l : Nat) : ∀ b, fLowB C al l b ≤ b
  | 0 => Nat.le_refl _
  | b + 1 => by
    have := fLowB_le C al l b
    rw [fLowB]
    split
    · omega
    · split <;> omega
def sLst (s : Nat) : Nat := if s = 3 then 1 else 0
theorem sLst_v : ∀ s, s < 4 → (mSv 1).getD s 0 = nI (sLst s) := by decide +kernel
def oLow (a b : Nat) : Int32 := if b = a + 1 then -1 else nI b
theorem low_loop {G : mG} {w0 : mH} {a0 a1 N s a : Nat} {y3 : Int64} {A : Nat → Int32} {Φ : mF} (z0 : zTun w0 a0) (z1 : zSet w0 a1) (hd : a0 + 18 ≤ a1 ∨ a1 + 17 ≤ a0) (h0 : sRep w0 a1 A) (hs4 : s < 4) (ha : a ≤ 1000) : ∀ b w, b ≤ a + 1 → mFr a0 (a0 + 18) w0 w → (∃ S, (∀ k, k < 15 → k ≠ s → S k = A k) ∧ mRun w (a0 + 1) (a0 + 9) S A N) →
    (∀ w', mFr a0 (a0 + 18) w0 w' → Φ (.inl (some (.int (oLow a (fLowB (aLow A N s) y3 (sLst s) b))))) w') → mW G mX9_lowered 8 0 0 31 [(0, .ref a0), (1, .ref a1), (2, .int (nI s)), (3, .long y3), (5, .int (oLow a b)), (6, .int (nI b + (-1)))] [] w Φ := by
  intro b
  induction b with
  | zero =>
    intro w hb F hR hΦ
    obtain ⟨S, hS, hR⟩ := hR
    have hs : mS2 w0 w := mS2.of F.1
    have hA : sRep w a1 A := sRep_fr F (by omega) h0
    have hl : (mSv 1).getD (nI s).toNatClampNeg 0 = nI (sLst s) := by rw [m_cl (by omega)]; exact sLst_v s hs4
    have hc : nI 0 + (-1) < (mSv 1).getD (nI s).toNatClampNeg 0 := by
      rw [hl]
      unfold sLst
      split <;> decide
    have K : ¬ (nI 0 + (-1) < (mSv 1).getD (nI s).toNatClampNeg 0) → ∀ w1 : mH, w1 = sai w (a0 + 2) (nI s).toNatClampNeg (nI 0 + (-1)) → mFr (a0 + 2) (a0 + 3) w w1 ∧ mRun w1 (a0 + 1) (a0 + 9) A A N := fun c => absurd hc c
    refine gX9_lowered_31 (A := A) (S := A) (N := N) (a0_0 := a0 + 1) (a0_0_0 := a0 + 2) (by intros; exact m_vp (by omega) (by omega)) ((zTun_s2 hs z0).1) ((zTun_s2 hs z0).2.1) ((zTun_s2 hs z0).2.2.2.2.2.1.1) ((zTun_s2 hs z0).2.2.2.2.2.1.2.1) ((zTun_s2 hs z0).2.2.2.2.2.1.2.2.2.2.2.2.1) (by intros; exact m_vp (by omega) (by omega)) ((zTun_s2 hs z0)) ((zSet_s2 hs z1)) (by intros; omega) (by intro c1 w1 e1; exact (K c1 w1 e1).2) (by intro c1 w1 e1; exact sRep_fr (K c1 w1 e1).1 (by omega) hA) ?_ ?_ ?_
    · intro c1
      exact hΦ w F
    all_goals (intro c1; exact absurd hc c1)
  | succ b ih =>
    intro w hb F hR hΦ
    obtain ⟨S, hS, hR⟩ := hR
    have hs : mS2 w0 w := mS2.of F.1
    have hA : sRep w a1 A := sRep_fr F (by omega) h0
    rw [pk_m1]
    have hl : (mSv 1).getD (nI s).toNatClampNeg 0 = nI (sLst s) := by rw [m_cl (by omega)]; exact sLst_v s hs4
    have hl1 : sLst s ≤ 1 := by unfold sLst; split <;> omega
    have hc : nI b < (mSv 1).getD (nI s).toNatClampNeg 0 ↔ b < sLst s := by rw [hl]; exact m_lt (by omega) (by omega)
    have hcs : (nI s).toNatClampNeg = s := m_cl (by omega)
    have K : ¬ (nI b < (mSv 1).getD (nI s).toNatClampNeg 0) → ∀ w1 : mH, w1 = sai w (a0 + 2) (nI s).toNatClampNeg (nI b) → mFr (a0 + 2) (a0 + 3) w w1 ∧ mRun w1 (a0 + 1) (a0 + 9) (upd A s (nI b)) A N := by
      intro _ w1 e1
      rw [hcs] at e1
      have f1 : mFr (a0 + 2) (a0 + 3) w w1 := by rw [e1]; exact mFr_sai mFr.rf (by omega) (by omega)
      obtain ⟨y0, y1, y2, y3, y4, y5, y6, y7, y8⟩ := hR
      refine ⟨f1, y0, zSim_s2 (mS2.of f1.1) y1, zTra_s2 (mS2.of f1.1) y2, fun k hk => ?_, tRep_fr f1 (by omega) y4, fun t ht => ?_, ?_, y7, y8⟩
      · rw [e1, e_hai_sai]
        by_cases hks : k = s
        · subst hks; rw [up2_at]; simp [upd]
        · rw [up2_k _ _ _ hks]
          simp only [upd, hks, if_false]
          rw [← hS k hk hks]
          exact y3 k hk
      · rw [f1.hai (by omega), f1.hai (by omega)]; exact y5 t ht
      · simp only [upd, show ¬ 13 = s by omega, if_false]
        rw [← hS 13 (by decide) (by omega)]; exact y6
    refine gX9_lowered_31 (A := A) (S := upd A s (nI b)) (N := N) (a0_0 := a0 + 1) (a0_0_0 := a0 + 2) (by intros; exact m_vp (by omega) (by omega)) ((zTun_s2 hs z0).1) ((zTun_s2 hs z0).2.1) ((zTun_s2 hs z0).2.2.2.2.2.1.1) ((zTun_s2 hs z0).2.2.2.2.2.1.2.1) ((zTun_s2 hs z0).2.2.2.2.2.1.2.2.2.2.2.2.1) (by intros; exact m_vp (by omega) (by omega)) ((zTun_s2 hs z0)) ((zSet_s2 hs z1)) (by intros; omega) (by intro c1 w1 e1; exact (K c1 w1 e1).2) (by intro c1 w1 e1; exact sRep_fr (K c1 w1 e1).1 (by omega) hA) ?_ ?_ ?_
    · intro c1
      rw [hc] at c1
      have e : fLowB (aLow A N s) y3 (sLst s) (b + 1) = b + 1 := by rw [fLowB, if_pos c1]
      rw [e] at hΦ
      exact hΦ w F
    · intro c1 w1 e1 w2 q1 c2
      obtain ⟨f1, r1⟩ := K c1 w1 e1
      rw [hc] at c1
      rw [lg_cmp_le] at c2
      change aLow A N s b ≤ y3 at c2
      have e : fLowB (aLow A N s) y3 (sLst s) (b + 1) = fLowB (aLow A N s) y3 (sLst s) b := by rw [fLowB, if_neg c1, if_neg (Int64.not_lt.mpr c2)]
      rw [e] at hΦ
      have hob : nI b = oLow a b := by unfold oLow; rw [if_neg (by omega)]
      have F2 : mFr a0 (a0 + 18) w0 w2 := (F.tr (f1.wide (by omega) (by omega))).tr (q1.1.wide (by omega) (by omega))
      have := ih w2 (by omega) F2 ⟨upd A s (nI b), fun k _ hk => by simp only [upd, hk, if_false], q1.2⟩ hΦ
      rw [← hob] at this
      exact this
    · intro c1 w1 e1 w2 q1 c2
      obtain ⟨f1, r1⟩ := K c1 w1 e1
      rw [hc] at c1
      rw [lg_cmp_le] at c2
      change ¬ aLow A N s b ≤ y3 at c2
      have e : fLowB (aLow A N s) y3 (sLst s) (b + 1) = b + 1 := by rw [fLowB, if_neg c1, if_pos (Int64.not_le.mp c2)]
      rw [e] at hΦ
      exact hΦ w2 ((F.tr (f1.wide (by omega) (by omega))).tr (q1.1.wide (by omega) (by omega)))
theorem rX9_lowered {G : mG} {w : mH} {a0 a1 N s a : Nat} {x2 : Int32} {y3 : Int64} {A : Nat → Int32} (z0 : zTun w a0) (z1 : zSet w a1) (hd : a0 + 18 ≤ a1 ∨ a1 + 17 ≤ a0) (hA : sRep w a1 A) (hx : x2 = nI s) (hs4 : s < 4) (ha : A s = nI a) (ha2 : a ≤ 1000) (hN : A 13 = nI N) (h1 : 1 ≤ N) (hN2 : N ≤ 200) : mC G mX9_lowered 8 0 0 [.ref a0, .ref a1, .int x2, .long y3] w (mP (some (.int (oLow a (fLowB (aLow A N s) y3 (sLst s) (a + 1))))) (fun w' => mFr a0 (a0 + 18) w w')) := by
  subst hx
  have hw : ¬ vX10_isWithin (nI s) 0 14 = 0 := by
    rw [show (0 : Int32) = nI 0 from rfl, show (14 : Int32) = nI 14 from rfl, m_in (by omega) (by omega) (by omega)]; decide
  refine mC_of (by decide +kernel) rfl (Nat.le_of_ble_eq_true rfl) rfl ?_
  refine gX9_lowered_0 (A := A) (S := A) (N := N) (a0_0 := a0 + 1) (a1_0 := a1 + 1) z0.1 z0.2.1 z0.2.2.2.2.2.1.1 z0.2.2.2.2.2.1 z1 (by intros; omega) (by intros; exact hA) (by intros; exact hN) (by intros; exact hN2) z1.1 z1.2.1 z1.2.2.2.2.2.2.1 (by intros; exact m_vp (by omega) (by omega)) ?_ ?_
  · intro c1 w1 q1
    have F1 : mFr a0 (a0 + 18) w w1 := q1.1.wide (by omega) (by omega)
    have e1 : hai w1 (a1 + 1) (nI s).toNatClampNeg = nI (a + 1) + (-1) := by
      rw [pk_m1, m_cl (by omega), F1.hai (by omega), hA.1 s (by omega)]; exact ha
    have e2 : (-1 : Int32) = oLow a (a + 1) := by unfold oLow; rw [if_pos rfl]
    rw [e2, e1]
    obtain ⟨p1, p2, p3⟩ := q1.2
    exact low_loop z0 z1 hd hA hs4 ha2 (a + 1) w1 (Nat.le_refl _) F1 ⟨A, fun _ _ _ => rfl, rfl, zSim_s2 (mS2.of F1.1) z0.2.2.2.2.2.1, zTra_s2 (mS2.of F1.1) z0.2.2.2.2.2.2.1, p1, p2, p3, hN, h1, hN2⟩ (fun w' F' => mP_of F')
  · intro c1; exact absurd c1 hw
