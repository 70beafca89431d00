theorem mRun_fr {lo hi : Nat} {w w' : mH} {a0 a1 N : Nat} {S A : Nat → Int32} (f : mSh w w') (k : ∀ b, a0 < b → b < a0 + 7 → hfi w' b = hfi w b ∧ hai w' b = hai w b) (h : mRun w a0 a1 S A N) : mRun w' a0 a1 S A N := by
  obtain ⟨h0, h1, h2, h3, h4, h5, h6⟩ := h
  refine ⟨h0, zSim_s2 (mS2.of f) h1, zTra_s2 (mS2.of f) h2, fun q hq => ?_, ?_, fun t ht => ?_, h6⟩
  · rw [(k (a0 + 1) (by omega) (by omega)).2]; exact h3 q hq
  · obtain ⟨n, g1, g2, g3, g4⟩ := h4
    refine ⟨n, g1, g2, ?_, fun i hi => ?_⟩
    · rw [(k (a0 + 2) (by omega) (by omega)).1]; exact g3
    · rw [(k (a0 + 2 + 1) (by omega) (by omega)).2, (k (a0 + 2 + 2) (by omega) (by omega)).2]; exact g4 i hi
  · rw [(k (a0 + 5) (by omega) (by omega)).2, (k (a0 + 6) (by omega) (by omega)).2]; exact h5 t ht
theorem rX9_trialCost {G : mG} {w : mH} {a0 a1 N : Nat} {S A : Nat → Int32} (z0 : zTun w a0) (z1 : zSet w a1) (hd : a0 + 18 ≤ a1 ∨ a1 + 17 ≤ a0) (h : mRun w (a0 + 1) (a0 + 9) S A N) (hA : sRep w a1 A) : mC G mX9_trialCost 7 0 0 [.ref a0, .ref a1] w (mP (some (.long (aCost S A N))) (fun w' => mFr (a0 + 1) (a0 + 16) w w' ∧ mRun w' (a0 + 1) (a0 + 9) S A N)) := by
  refine mC_of (by decide +kernel) rfl (Nat.le_of_ble_eq_true rfl) rfl ?_
  refine gX9_trialCost_0 (T := aT S A) (W := fun k => A (15 + k)) (a0_0 := a0 + 1) (a0_1 := a0 + 9) (a1_1 := a1 + 2) (a1_0 := a1 + 1) z0.1 z0.2.1 z0.2.2.1 z0.2.2.2.2.2.1.1 h z1.1 z1.2.2.1 z1.2.1 z1.2.2.2.2.2.2.1 (by intros; unfold vp_in; decide) z0.2.2.2.2.2.2.1.1 z0.2.2.2.2.2.2.1 (fun w1 q1 => q1.2.2) (fun _ _ => h.2.2.2.2.2.2.2.2) z1.2.2.2.2.2.2.2.1 (fun w1 q1 k hk => by rw [q1.1.hai (by omega)]; exact hA.2.1 k hk) ?_
  intro w1 q1
  have e14 : hai w1 (a1 + 1) 14 = A 14 := by rw [q1.1.hai (by omega)]; exact hA.1 14 (by decide)
  rw [e14]
  exact mP_of ⟨q1.1.wide (by omega) (by omega), mRun_fr (lo := 0) (hi := 0) q1.1.1 q1.2.1 h⟩
abbrev mX9_startIndexes : mM := (yX9_startIndexes, cX9_startIndexes, 2, none, [])
def sX9_startIndexes (w : mH) (a0_3 : Nat) : mH := (sai (sai (sai w a0_3 0 0) a0_3 1 0) a0_3 2 0)
theorem kkX9_startIndexes {w : mH} {a0_3 : Nat} : hk (sX9_startIndexes w a0_3) = hk w := by unfold sX9_startIndexes; simp only [apply_ite hk, e_hk_sfi, e_hk_sfl, e_hk_sai, e_hk_sal, e_hk_sax, ite_self]
theorem rrX9_startIndexes {w : mH} {a0_3 : Nat} : hfr (sX9_startIndexes w a0_3) = hfr w := by unfold sX9_startIndexes; simp only [apply_ite hfr, e_hfr_sfi, e_hfr_sfl, e_hfr_sai, e_hfr_sal, e_hfr_sax, ite_self]
set_option maxHeartbeats 4000000 in
set_option maxRecDepth 100000 in
theorem qX9_startIndexes {G : mG} {w : mH} {a0 a0_3 n_a0_3 : Nat} (h1 : hk w a0 = (9, 0)) (h2 : hfr w a0 3 = some a0_3) (h3 : hk w a0_3 = (16, n_a0_3)) (s1 : vp_in 0 n_a0_3) (s2 : vp_in 1 n_a0_3) (s3 : vp_in 2 n_a0_3) : mC G mX9_startIndexes 1 0 0 [.ref a0] w (mEq (.inl none) (sX9_startIndexes w a0_3)) := by
  refine mC_of (by decide +kernel) rfl (Nat.le_of_ble_eq_true rfl) rfl ?_
  refine mW_iconst (v := 0) dX9_startIndexes_0 (by decide) ?_
  refine mW_istore_n (lv2 := [(1, .int 0), (0, .ref a0)]) dX9_startIndexes_1 rfl (by decide) rfl ?_
  refine mW_iload_n (j := 0) dX9_startIndexes_2 rfl rfl ?_
  refine mW_iconst (v := 3) dX9_startIndexes_3 (by decide) ?_
  refine mW_icmp_ge (tgt := 20) dX9_startIndexes_4 (by decide) (fun c => absurd c (by decide)) (fun _ => ?_)
  refine mW_aload_n (j := 1) dX9_startIndexes_7 rfl rfl ?_
  refine mW_getR dX9_startIndexes_8 f_X9_29 h1 rfl h2 ?_
  refine mW_iload_n (j := 0) dX9_startIndexes_11 rfl rfl ?_
  refine mW_iconst (v := 0) dX9_startIndexes_12 (by decide) ?_
  refine mW_iastJ dX9_startIndexes_13 h3 s1 (j := 0) (by decide) ?_
  refine mW_iinc (j := 0) (v := 1) (lv2 := [(1, .int 1), (0, .ref a0)]) dX9_startIndexes_14 rfl (by decide) (by decide) rfl ?_
  refine mW_goto (tgt := 2) dX9_startIndexes_17 (by decide) ?_
  refine mW_iload_n (j := 0) dX9_startIndexes_2 rfl rfl ?_
  refine mW_iconst (v := 3) dX9_startIndexes_3 (by decide) ?_
  refine mW_icmp_ge (tgt := 20) dX9_startIndexes_4 (by decide) (fun c => absurd c (by decide)) (fun _ => ?_)
  refine mW_aload_n (j := 1) dX9_startIndexes_7 rfl rfl ?_
  refine mW_getR dX9_startIndexes_8 f_X9_29 (k_sai h1) rfl (r_sai h2) ?_
  refine mW_iload_n (j := 0) dX9_startIndexes_11 rfl rfl ?_
  refine mW_iconst (v := 0) dX9_startIndexes_12 (by decide) ?_
  refine mW_iastJ dX9_startIndexes_13 (k_sai h3) s2 (j := 1) (by decide) ?_
  refine mW_iinc (j := 0) (v := 2) (lv2 := [(1, .int 2), (0, .ref a0)]) dX9_startIndexes_14 rfl (by decide) (by decide) rfl ?_
  refine mW_goto (tgt := 2) dX9_startIndexes_17 (by decide) ?_
  refine mW_iload_n (j := 0) dX9_startIndexes_2 rfl rfl ?_
  refine mW_iconst (v := 3) dX9_startIndexes_3 (by decide) ?_
  refine mW_icmp_ge (tgt := 20) dX9_startIndexes_4 (by decide) (fun c => absurd c (by decide)) (fun _ => ?_)
  refine mW_aload_n (j := 1) dX9_startIndexes_7 rfl rfl ?_
  refine mW_getR dX9_startIndexes_8 f_X9_29 (k_sai (k_sai h1)) rfl (r_sai (r_sai h2)) ?_
  refine mW_iload_n (j := 0) dX9_startIndexes_11 rfl rfl ?_
  refine mW_iconst (v := 0) dX9_startIndexes_12 (by decide) ?_
  refine mW_iastJ dX9_startIndexes_13 (k_sai (k_sai h3)) s3 (j := 2) (by decide) ?_
  refine mW_iinc (j := 0) (v := 3) (lv2 := [(1, .int 3), (0, .ref a0)]) dX9_startIndexes_14 rfl (by decide) (by decide) rfl ?_
  refine mW_goto (tgt := 2) dX9_startIndexes_17 (by decide) ?_
  refine mW_iload_n (j := 0) dX9_startIndexes_2 rfl rfl ?_
  refine mW_iconst (v := 3) dX9_startIndexes_3 (by decide) ?_
  refine mW_icmp_ge (tgt := 20) dX9_startIndexes_4 (by decide) (fun _ => ?_) (fun c => absurd (by decide) c)
  exact mW_vret dX9_startIndexes_20 rfl (⟨by first | with_reducible rfl | (simp only [sX9_startIndexes]; done) | rfl, by first | with_reducible rfl | (simp only [sX9_startIndexes]; done) | rfl⟩)
/-! the grid: counts, index triples -/
def cG (A : Nat → Int32) (g : Nat) : Nat := (A (20 + 3 * g + 2)).toNatClampNeg
def gOK (A : Nat → Int32) : Prop := ∀ g, g < 3 → A (20 + 3 * g + 2) = nI (cG A g) ∧ 1 ≤ cG A g ∧ cG A g ≤ 6
def gT (A : Nat → Int32) : Nat := cG A 0 * cG A 1 * cG A 2
def gVal (A : Nat → Int32) (g x : Nat) : Int32 := A (20 + 3 * g) + A (20 + 3 * g + 1) * nI x
def iRep (w : mH) (a i j k : Nat) : Prop := hai w (a + 17) 0 = nI i ∧ hai w (a + 17) 1 = nI j ∧ hai w (a + 17) 2 = nI k
theorem gT_le {A : Nat → Int32} (h : gOK A) : 1 ≤ gT A ∧ gT A ≤ 216 := by
  obtain ⟨-, a1, a2⟩ := h 0 (by decide)
  obtain ⟨-, b1, b2⟩ := h 1 (by decide)
  obtain ⟨-, c1, c2⟩ := h 2 (by decide)
  unfold gT
  refine ⟨Nat.mul_pos (Nat.mul_pos a1 b1) c1, ?_⟩
  exact Nat.mul_le_mul (Nat.mul_le_mul a2 b2) c2
theorem gRep_c {w : mH} {b g : Nat} {A : Nat → Int32} (h : gRep w b A) (ok : gOK A) (hg : g < 3) : hai w (b + 3) g = nI (cG A g) := (h g hg).2.2.trans (ok g hg).1
theorem tri_v {w : mH} {b : Nat} {A : Nat → Int32} (h : gRep w b A) (ok : gOK A) : vX1_triples w (b + 3) = nI (gT A) := by
  unfold vX1_triples gT
  rw [gRep_c h ok (by decide), gRep_c h ok (by decide), gRep_c h ok (by decide), pk_mul, pk_mul]
theorem gain_v {w : mH} {b g x : Nat} {A : Nat → Int32} (h : gRep w b A) (hg : g < 3) : vX1_gainAt w (nI g) (nI x) (b + 1) (b + 2) = gVal A g x := by
  unfold vX1_gainAt gVal
  rw [show (0 : Int32) = nI 0 from rfl, show (2 : Int32) = nI 2 from rfl, m_in (by omega) (by omega) (by omega), if_neg (by decide), m_cl (by omega), (h g hg).1, (h g hg).2.1]
theorem st_v {w w1 : mH} {a : Nat} (e : w1 = sX9_startIndexes w (a + 17)) : mFr (a + 17) (a + 18) w w1 ∧ iRep w1 a 0 0 0 := by
  subst e
  unfold sX9_startIndexes
  refine ⟨mFr_sai (mFr_sai (mFr_sai mFr.rf (by omega) (by omega)) (by omega) (by omega)) (by omega) (by omega), ?_, ?_, ?_⟩
  · rw [e_hai_sai, up2_k _ _ _ (by decide), e_hai_sai, up2_k _ _ _ (by decide), e_hai_sai, up2_at]; rfl
  · rw [e_hai_sai, up2_k _ _ _ (by decide), e_hai_sai, up2_at]; rfl
  · rw [e_hai_sai, up2_at]; rfl
theorem iRep_fr {lo hi : Nat} {w w' : mH} {a i j k : Nat} (f : mFr lo hi w w') (h : a + 17 < lo ∨ hi ≤ a + 17) (z : iRep w a i j k) : iRep w' a i j k := by
  unfold iRep at z ⊢
  rw [f.hai (by omega)]
  exact z
abbrev mX9_moveIndexes : mM := (yX9_moveIndexes, cX9_moveIndexes, 3, none, [])
set_option maxHeartbeats 4000000 in
set_option maxRecDepth 100000 in
theorem gX9_moveIndexes_0 {G : mG} {w : mH} {Φ : mF} {a0 a1 a0_3 n_a0_3 a1_2 n_a1_2 : Nat} (h1 : hk w a0 = (9, 0)) (h2 : hfr w a0 3 = some a0_3) (h3 : hk w a0_3 = (16, n_a0_3)) (s1 : vp_in 2 n_a0_3) (h4 : hk w a1 = (1, 0)) (h5 : hfr w a1 2 = some a1_2) (h6 : hk w a1_2 = (16, n_a1_2)) (s2 : vp_in 2 n_a1_2) (s3 : vp_in 1 n_a0_3) (s4 : vp_in 1 n_a1_2) (s5 : vp_in 0 n_a0_3) (s6 : vp_in 0 n_a1_2) (k1 : ∀ w1 : mH, (w1 = sai w a0_3 2 ((hai w a0_3 2) + 1)) → ((hai w1 a1_2 2) ≤ (hai w1 a0_3 2)) → ∀ w2 : mH, (w2 = sai w1 a0_3 2 0) → ∀ w3 : mH, (w3 = sai w2 a0_3 1 ((hai w2 a0_3 1) + 1)) → ((hai w3 a1_2 1) ≤ (hai w3 a0_3 1)) → ∀ w4 : mH, (w4 = sai w3 a0_3 1 0) → ∀ w5 : mH, (w5 = sai w4 a0_3 0 ((hai w4 a0_3 0) + 1)) → ((hai w5 a1_2 0) ≤ (hai w5 a0_3 0)) → ∀ w6 : mH, (w6 = sai w5 a0_3 0 0) → Φ (.inl none) w6) (k2 : ∀ w1 : mH, (w1 = sai w a0_3 2 ((hai w a0_3 2) + 1)) → ((hai w1 a1_2 2) ≤ (hai w1 a0_3 2)) → ∀ w2 : mH, (w2 = sai w1 a0_3 2 0) → ∀ w3 : mH, (w3 = sai w2 a0_3 1 ((hai w2 a0_3 1) + 1)) → ((hai w3 a1_2 1) ≤ (hai w3 a0_3 1)) → ∀ w4 : mH, (w4 = sai w3 a0_3 1 0) → ∀ w5 : mH, (w5 = sai w4 a0_3 0 ((hai w4 a0_3 0) + 1)) → (¬ ((hai w5 a1_2 0) ≤ (hai w5 a0_3 0))) → Φ (.inl none) w5) (k3 : ∀ w1 : mH, (w1 = sai w a0_3 2 ((hai w a0_3 2) + 1)) → ((hai w1 a1_2 2) ≤ (hai w1 a0_3 2)) → ∀ w2 : mH, (w2 = sai w1 a0_3 2 0) → ∀ w3 : mH, (w3 = sai w2 a0_3 1 ((hai w2 a0_3 1) + 1)) → (¬ ((hai w3 a1_2 1) ≤ (hai w3 a0_3 1))) → Φ (.inl none) w3) (k4 : ∀ w1 : mH, (w1 = sai w a0_3 2 ((hai w a0_3 2) + 1)) → (¬ ((hai w1 a1_2 2) ≤ (hai w1 a0_3 2))) → Φ (.inl none) w1) : mW G mX9_moveIndexes 1 0 0 0 [(0, .ref a0), (1, .ref a1)] [] w Φ := by
  refine mW_iconst (v := 2) dX9_moveIndexes_0 (by decide) ?_
  refine mW_istore_n (lv2 := [(2, .int 2), (0, .ref a0), (1, .ref a1)]) dX9_moveIndexes_1 rfl (by decide) rfl ?_
  refine mW_iload_n (j := 0) dX9_moveIndexes_2 rfl rfl ?_
  refine mW_if_lt (tgt := 45) dX9_moveIndexes_3 (by decide) (fun c => absurd c (by decide)) (fun _ => ?_)
  refine mW_aload_n (j := 1) dX9_moveIndexes_6 rfl rfl ?_
  refine mW_getR dX9_moveIndexes_7 f_X9_29 h1 rfl h2 ?_
  refine mW_iload_n (j := 0) dX9_moveIndexes_10 rfl rfl ?_
  refine mW_dup2 dX9_moveIndexes_11 rfl rfl ?_
  refine mW_ialdJ dX9_moveIndexes_12 h3 s1 (j := 2) (by decide) ?_
  refine mW_iconst (v := 1) dX9_moveIndexes_13 (by decide) ?_
  refine mW_iadd dX9_moveIndexes_14 ?_
  refine mW_iastJ dX9_moveIndexes_15 h3 s1 (j := 2) (by decide) ?_
  refine mW_nm (fun w1 e1 => ?_)
  refine mW_aload_n (j := 1) dX9_moveIndexes_16 rfl rfl ?_
  refine mW_getR dX9_moveIndexes_17 f_X9_29 (s2k (S2_sai e1) h1) rfl (s2r (S2_sai e1) h2) ?_
  refine mW_iload_n (j := 0) dX9_moveIndexes_20 rfl rfl ?_
  refine mW_ialdJ dX9_moveIndexes_21 (s2k (S2_sai e1) h3) s1 (j := 2) (by decide) ?_
  refine mW_aload_n (j := 2) dX9_moveIndexes_22 rfl rfl ?_
  refine mW_getR dX9_moveIndexes_23 f_X9_67 (s2k (S2_sai e1) h4) rfl (s2r (S2_sai e1) h5) ?_
  refine mW_iload_n (j := 0) dX9_moveIndexes_26 rfl rfl ?_
  refine mW_ialdJ dX9_moveIndexes_27 (s2k (S2_sai e1) h6) s2 (j := 2) (by decide) ?_
  refine mW_icmp_ge (tgt := 32) dX9_moveIndexes_28 (by decide) (fun c1 => ?_) (fun c1 => ?_)
  · refine mW_aload_n (j := 1) dX9_moveIndexes_32 rfl rfl ?_
    refine mW_getR dX9_moveIndexes_33 f_X9_29 (s2k (S2_sai e1) h1) rfl (s2r (S2_sai e1) h2) ?_
    refine mW_iload_n (j := 0) dX9_moveIndexes_36 rfl rfl ?_
    refine mW_iconst (v := 0) dX9_moveIndexes_37 (by decide) ?_
    refine mW_iastJ dX9_moveIndexes_38 (s2k (S2_sai e1) h3) s1 (j := 2) (by decide) ?_
    refine mW_nm (fun w2 e2 => ?_)
    refine mW_iinc (j := 0) (v := 1) (lv2 := [(2, .int 1), (0, .ref a0), (1, .ref a1)]) dX9_moveIndexes_39 rfl (by decide) (by decide) rfl ?_
    refine mW_goto (tgt := 2) dX9_moveIndexes_42 (by decide) ?_
    refine mW_iload_n (j := 0) dX9_moveIndexes_2 rfl rfl ?_
    refine mW_if_lt (tgt := 45) dX9_moveIndexes_3 (by decide) (fun c => absurd c (by decide)) (fun _ => ?_)
    refine mW_aload_n (j := 1) dX9_moveIndexes_6 rfl rfl ?_
    refine mW_getR dX9_moveIndexes_7 f_X9_29 (s2k (S2_sai e2) (s2k (S2_sai e1) h1)) rfl (s2r (S2_sai e2) (s2r (S2_sai e1) h2)) ?_
    refine mW_iload_n (j := 0) dX9_moveIndexes_10 rfl rfl ?_
    refine mW_dup2 dX9_moveIndexes_11 rfl rfl ?_
    refine mW_ialdJ dX9_moveIndexes_12 (s2k (S2_sai e2) (s2k (S2_sai e1) h3)) s3 (j := 1) (by decide) ?_
    refine mW_iconst (v := 1) dX9_moveIndexes_13 (by decide) ?_
    refine mW_iadd dX9_moveIndexes_14 ?_
    refine mW_iastJ dX9_moveIndexes_15 (s2k (S2_sai e2) (s2k (S2_sai e1) h3)) s3 (j := 1) (by decide) ?_
    refine mW_nm (fun w3 e3 => ?_)
    refine mW_aload_n (j := 1) dX9_moveIndexes_16 rfl rfl ?_
    refine mW_getR dX9_moveIndexes_17 f_X9_29 (s2k (S2_sai e3) (s2k (S2_sai e2) (s2k (S2_sai e1) h1))) rfl (s2r (S2_sai e3) (s2r (S2_sai e2) (s2r (S2_sai e1) h2))) ?_
    refine mW_iload_n (j := 0) dX9_moveIndexes_20 rfl rfl ?_
    refine mW_ialdJ dX9_moveIndexes_21 (s2k (S2_sai e3) (s2k (S2_sai e2) (s2k (S2_sai e1) h3))) s3 (j := 1) (by decide) ?_
    refine mW_aload_n (j := 2) dX9_moveIndexes_22 rfl rfl ?_
    refine mW_getR dX9_moveIndexes_23 f_X9_67 (s2k (S2_sai e3) (s2k (S2_sai e2) (s2k (S2_sai e1) h4))) rfl (s2r (S2_sai e3) (s2r (S2_sai e2) (s2r (S2_sai e1) h5))) ?_
    refine mW_iload_n (j := 0) dX9_moveIndexes_26 rfl rfl ?_
    refine mW_ialdJ dX9_moveIndexes_27 (s2k (S2_sai e3) (s2k (S2_sai e2) (s2k (S2_sai e1) h6))) s4 (j := 1) (by decide) ?_
    refine mW_icmp_ge (tgt := 32) dX9_moveIndexes_28 (by decide) (fun c2 => ?_) (fun c2 => ?_)
    · refine mW_aload_n (j := 1) dX9_moveIndexes_32 rfl rfl ?_
      refine mW_getR dX9_moveIndexes_33 f_X9_29 (s2k (S2_sai e3) (s2k (S2_sai e2) (s2k (S2_sai e1) h1))) rfl (s2r (S2_sai e3) (s2r (S2_sai e2) (s2r (S2_sai e1) h2))) ?_
      refine mW_iload_n (j := 0) dX9_moveIndexes_36 rfl rfl ?_
      refine mW_iconst (v := 0) dX9_moveIndexes_37 (by decide) ?_
      refine mW_iastJ dX9_moveIndexes_38 (s2k (S2_sai e3) (s2k (S2_sai e2) (s2k (S2_sai e1) h3))) s3 (j := 1) (by decide) ?_
      refine mW_nm (fun w4 e4 => ?_)
      refine mW_iinc (j := 0) (v := 0) (lv2 := [(2, .int 0), (0, .ref a0), (1, .ref a1)]) dX9_moveIndexes_39 rfl (by decide) (by decide) rfl ?_
      refine mW_goto (tgt := 2) dX9_moveIndexes_42 (by decide) ?_
      refine mW_iload_n (j := 0) dX9_moveIndexes_2 rfl rfl ?_
      refine mW_if_lt (tgt := 45) dX9_moveIndexes_3 (by decide) (fun c => absurd c (by decide)) (fun _ => ?_)
      refine mW_aload_n (j := 1) dX9_moveIndexes_6 rfl rfl ?_
      refine mW_getR dX9_moveIndexes_7 f_X9_29 (s2k (S2_sai e4) (s2k (S2_sai e3) (s2k (S2_sai e2) (s2k (S2_sai e1) h1)))) rfl (s2r (S2_sai e4) (s2r (S2_sai e3) (s2r (S2_sai e2) (s2r (S2_sai e1) h2)))) ?_
      refine mW_iload_n (j := 0) dX9_moveIndexes_10 rfl rfl ?_
      refine mW_dup2 dX9_moveIndexes_11 rfl rfl ?_
      refine mW_ialdJ dX9_moveIndexes_12 (s2k (S2_sai e4) (s2k (S2_sai e3) (s2k (S2_sai e2) (s2k (S2_sai e1) h3)))) s5 (j := 0) (by decide) ?_
      refine mW_iconst (v := 1) dX9_moveIndexes_13 (by decide) ?_
      refine mW_iadd dX9_moveIndexes_14 ?_
      refine mW_iastJ dX9_moveIndexes_15 (s2k (S2_sai e4) (s2k (S2_sai e3) (s2k (S2_sai e2) (s2k (S2_sai e1) h3)))) s5 (j := 0) (by decide) ?_
      refine mW_nm (fun w5 e5 => ?_)
      refine mW_aload_n (j := 1) dX9_moveIndexes_16 rfl rfl ?_
      refine mW_getR dX9_moveIndexes_17 f_X9_29 (s2k (S2_sai e5) (s2k (S2_sai e4) (s2k (S2_sai e3) (s2k (S2_sai e2) (s2k (S2_sai e1) h1))))) rfl (s2r (S2_sai e5) (s2r (S2_sai e4) (s2r (S2_sai e3) (s2r (S2_sai e2) (s2r (S2_sai e1) h2))))) ?_
      refine mW_iload_n (j := 0) dX9_moveIndexes_20 rfl rfl ?_
      refine mW_ialdJ dX9_moveIndexes_21 (s2k (S2_sai e5) (s2k (S2_sai e4) (s2k (S2_sai e3) (s2k (S2_sai e2) (s2k (S2_sai e1) h3))))) s5 (j := 0) (by decide) ?_
      refine mW_aload_n (j := 2) dX9_moveIndexes_22 rfl rfl ?_
      refine mW_getR dX9_moveIndexes_23 f_X9_67 (s2k (S2_sai e5) (s2k (S2_sai e4) (s2k (S2_sai e3) (s2k (S2_sai e2) (s2k (S2_sai e1) h4))))) rfl (s2r (S2_sai e5) (s2r (S2_sai e4) (s2r (S2_sai e3) (s2r (S2_sai e2) (s2r (S2_sai e1) h5))))) ?_
      refine mW_iload_n (j := 0) dX9_moveIndexes_26 rfl rfl ?_
      refine mW_ialdJ dX9_moveIndexes_27 (s2k (S2_sai e5) (s2k (S2_sai e4) (s2k (S2_sai e3) (s2k (S2_sai e2) (s2k (S2_sai e1) h6))))) s6 (j := 0) (by decide) ?_
      refine mW_icmp_ge (tgt := 32) dX9_moveIndexes_28 (by decide) (fun c3 => ?_) (fun c3 => ?_)
      · refine mW_aload_n (j := 1) dX9_moveIndexes_32 rfl rfl ?_
        refine mW_getR dX9_moveIndexes_33 f_X9_29 (s2k (S2_sai e5) (s2k (S2_sai e4) (s2k (S2_sai e3) (s2k (S2_sai e2) (s2k (S2_sai e1) h1))))) rfl (s2r (S2_sai e5) (s2r (S2_sai e4) (s2r (S2_sai e3) (s2r (S2_sai e2) (s2r (S2_sai e1) h2))))) ?_
        refine mW_iload_n (j := 0) dX9_moveIndexes_36 rfl rfl ?_
        refine mW_iconst (v := 0) dX9_moveIndexes_37 (by decide) ?_
        refine mW_iastJ dX9_moveIndexes_38 (s2k (S2_sai e5) (s2k (S2_sai e4) (s2k (S2_sai e3) (s2k (S2_sai e2) (s2k (S2_sai e1) h3))))) s5 (j := 0) (by decide) ?_
        refine mW_nm (fun w6 e6 => ?_)
        refine mW_iinc (j := 0) (v := (-1)) (lv2 := [(2, .int (-1)), (0, .ref a0), (1, .ref a1)]) dX9_moveIndexes_39 rfl (by decide) (by decide) rfl ?_
        refine mW_goto (tgt := 2) dX9_moveIndexes_42 (by decide) ?_
        refine mW_iload_n (j := 0) dX9_moveIndexes_2 rfl rfl ?_
        refine mW_if_lt (tgt := 45) dX9_moveIndexes_3 (by decide) (fun _ => ?_) (fun c => absurd (by decide) c)
        exact mW_vret dX9_moveIndexes_45 rfl (k1 w1 e1 c1 w2 e2 w3 e3 c2 w4 e4 w5 e5 c3 w6 e6)
      · exact mW_vret dX9_moveIndexes_31 rfl (k2 w1 e1 c1 w2 e2 w3 e3 c2 w4 e4 w5 e5 c3)
    · exact mW_vret dX9_moveIndexes_31 rfl (k3 w1 e1 c1 w2 e2 w3 e3 c2)
  · exact mW_vret dX9_moveIndexes_31 rfl (k4 w1 e1 c1)
