theorem mRun_fr {lo hi : Nat} {w w' : mH} {a0 a1 N : Nat} {S A : Nat → Int32} (f : mSh w w') (k : ∀ b, a0 < b → b < a0 + 7 → hfi w' b = hfi w b ∧ hai w' b = hai w b) (h : mRun w a0 a1 S A N) : mRun w' a0 a1 S A N := by
  obtain ⟨h0, h1, h2, h3, h4, h5, h6⟩ := h
  refine ⟨h0, zSim_s2 (mS2.of f) h1, zTra_s2 (mS2.of f) h2, fun q hq => ?_, ?_, fun t ht => ?_, h6⟩
  · rw [(k (a0 + 1) (by omega) (by omega)).2]; exact h3 q hq
  · obtain ⟨n, g1, g2, g3, g4⟩ := h4
    refine ⟨n, g1, g2, ?_, fun i hi => ?_⟩
    · rw [(k (a0 + 2) (by omega) (by omega)).1]; exact g3
    · rw [(k (a0 + 2 + 1) (by omega) (by omega)).2, (k (a0 + 2 + 2) (by omega) (by omega)).2]; exact g4 i hi
  · rw [(k (a0 + 5) (by omega) (by omega)).2, (k (a0 + 6) (by omega) (by omega)).2]; exact h5 t ht
theorem rX9_trialCost {G : mG} {w : mH} {a0 a1 N : Nat} {S A : Nat → Int32} (z0 : zTun w a0) (z1 : zSet w a1) (hd : a0 + 18 ≤ a1 ∨ a1 + 17 ≤ a0) (h : mRun w (a0 + 1) (a0 + 9) S A N) (hA : sRep w a1 A) : mC G mX9_trialCost 7 0 0 [.ref a0, .ref a1] w (mP (some (.long (aCost S A N))) (fun w' => mFr (a0 + 1) (a0 + 16) w w' ∧ mRun w' (a0 + 1) (a0 + 9) S A N)) := by
  refine mC_of (by decide +kernel) rfl (Nat.le_of_ble_eq_true rfl) rfl ?_
  refine gX9_trialCost_0 (T := aT S A) (W := fun k => A (15 + k)) (a0_0 := a0 + 1) (a0_1 := a0 + 9) (a1_1 := a1 + 2) (a1_0 := a1 + 1) z0.1 z0.2.1 z0.2.2.1 z0.2.2.2.2.2.1.1 h z1.1 z1.2.2.1 z1.2.1 z1.2.2.2.2.2.2.1 (by intros; unfold vp_in; decide) z0.2.2.2.2.2.2.1.1 z0.2.2.2.2.2.2.1 (fun w1 q1 => q1.2.2) (fun _ _ => h.2.2.2.2.2.2.2.2) z1.2.2.2.2.2.2.2.1 (fun w1 q1 k hk => by rw [q1.1.hai (by omega)]; exact hA.2.1 k hk) ?_
  intro w1 q1
  have e14 : hai w1 (a1 + 1) 14 = A 14 := by rw [q1.1.hai (by omega)]; exact hA.1 14 (by decide)
  rw [e14]
  exact mP_of ⟨q1.1.wide (by omega) (by omega), mRun_fr (lo := 0) (hi := 0) q1.1.1 q1.2.1 h⟩
abbrev mX9_startIndexes : mM := (yX9_startIndexes, cX9_startIndexes, 2, none, [])
def sX9_startIndexes (w : mH) (a0_3 : Nat) : mH := (sai (sai (sai w a0_3 0 0) a0_3 1 0) a0_3 2 0)
theorem kkX9_startIndexes {w : mH} {a0_3 : Nat} : hk (sX9_startIndexes w a0_3) = hk w := by unfold sX9_startIndexes; simp only [apply_ite hk, e_hk_sfi, e_hk_sfl, e_hk_sai, e_hk_sal, e_hk_sax, ite_self]
theorem rrX9_startIndexes {w : mH} {a0_3 : Nat} : hfr (sX9_startIndexes w a0_3) = hfr w := by unfold sX9_startIndexes; simp only [apply_ite hfr, e_hfr_sfi, e_hfr_sfl, e_hfr_sai, e_hfr_sal, e_hfr_sax, ite_self]
set_option maxHeartbeats 4000000 in
set_option maxRecDepth 100000 in
theorem qX9_startIndexes {G : mG} {w : mH} {a0 a0_3 n_a0_3 : Nat} (h1 : hk w a0 = (9, 0)) (h2 : hfr w a0 3 = some a0_3) (h3 : hk w a0_3 = (16, n_a0_3)) (s1 : vp_in 0 n_a0_3) (s2 : vp_in 1 n_a0_3) (s3 : vp_in 2 n_a0_3) : mC G mX9_startIndexes 1 0 0 [.ref a0] w (mEq (.inl none) (sX9_startIndexes w a0_3)) := by
  refine mC_of (by decide +kernel) rfl (Nat.le_of_ble_eq_true rfl) rfl ?_
  refine mW_iconst (v := 0) dX9_startIndexes_0 (by decide) ?_
  refine mW_istore_n (lv2 := [(1, .int 0), (0, .ref a0)]) dX9_startIndexes_1 rfl (by decide) rfl ?_
  refine mW_iload_n (j := 0) dX9_startIndexes_2 rfl rfl ?_
  refine mW_iconst (v := 3) dX9_startIndexes_3 (by decide) ?_
  refine mW_icmp_ge (tgt := 20) dX9_startIndexes_4 (by decide) (fun c => absurd c (by decide)) (fun _ => ?_)
  refine mW_aload_n (j := 1) dX9_startIndexes_7 rfl rfl ?_
  refine mW_getR dX9_startIndexes_8 f_X9_29 h1 rfl h2 ?_
  refine mW_iload_n (j := 0) dX9_startIndexes_11 rfl rfl ?_
  refine mW_iconst (v := 0) dX9_startIndexes_12 (by decide) ?_
  refine mW_iastJ dX9_startIndexes_13 h3 s1 (j := 0) (by decide) ?_
  refine mW_iinc (j := 0) (v := 1) (lv2 := [(1, .int 1), (0, .ref a0)]) dX9_startIndexes_14 rfl (by decide) (by decide) rfl ?_
  refine mW_goto (tgt := 2) dX9_startIndexes_17 (by decide) ?_
  refine mW_iload_n (j := 0) dX9_startIndexes_2 rfl rfl ?_
  refine mW_iconst (v := 3) dX9_startIndexes_3 (by decide) ?_
  refine mW_icmp_ge (tgt := 20) dX9_startIndexes_4 (by decide) (fun c => absurd c (by decide)) (fun _ => ?_)
  refine mW_aload_n (j := 1) dX9_startIndexes_7 rfl rfl ?_
  refine mW_getR dX9_startIndexes_8 f_X9_29 (k_sai h1) rfl (r_sai h2) ?_
  refine mW_iload_n (j := 0) dX9_startIndexes_11 rfl rfl ?_
  refine mW_iconst (v := 0) dX9_startIndexes_12 (by decide) ?_
  refine mW_iastJ dX9_startIndexes_13 (k_sai h3) s2 (j := 1) (by decide) ?_
  refine mW_iinc (j := 0) (v := 2) (lv2 := [(1, .int 2), (0, .ref a0)]) dX9_startIndexes_14 rfl (by decide) (by decide) rfl ?_
  refine mW_goto (tgt := 2) dX9_startIndexes_17 (by decide) ?_
  refine mW_iload_n (j := 0) dX9_startIndexes_2 rfl rfl ?_
  refine mW_iconst (v := 3) dX9_startIndexes_3 (by decide) ?_
  refine mW_icmp_ge (tgt := 20) dX9_startIndexes_4 (by decide) (fun c => absurd c (by decide)) (fun _ => ?_)
  refine mW_aload_n (j := 1) dX9_startIndexes_7 rfl rfl ?_
  refine mW_getR dX9_startIndexes_8 f_X9_29 (k_sai (k_sai h1)) rfl (r_sai (r_sai h2)) ?_
  refine mW_iload_n (j := 0) dX9_startIndexes_11 rfl rfl ?_
  refine mW_iconst (v := 0) dX9_startIndexes_12 (by decide) ?_
  refine mW_iastJ dX9_startIndexes_13 (k_sai (k_sai h3)) s3 (j := 2) (by decide) ?_
  refine mW_iinc (j := 0) (v := 3) (lv2 := [(1, .int 3), (0, .ref a0)]) dX9_startIndexes_14 rfl (by decide) (by decide) rfl ?_
  refine mW_goto (tgt := 2) dX9_startIndexes_17 (by decide) ?_
  refine mW_iload_n (j := 0) dX9_startIndexes_2 rfl rfl ?_
  refine mW_iconst (v := 3) dX9_startIndexes_3 (by decide) ?_
  refine mW_icmp_ge (tgt := 20) dX9_startIndexes_4 (by decide) (fun _ => ?_) (fun c => absurd (by decide) c)
  exact mW_vret dX9_startIndexes_20 rfl (⟨by first | with_reducible rfl | (simp only [sX9_startIndexes]; done) | rfl, by first | with_reducible rfl | (simp only [sX9_startIndexes]; done) | rfl⟩)
/-! the grid: counts, index triples -/
def cG (A : Nat → Int32) (g : Nat) : Nat := (A (20 + 3 * g + 2)).toNatClampNeg
def gOK (A : Nat → Int32) : Prop := ∀ g, g < 3 → A (20 + 3 * g + 2) = nI (cG A g) ∧ 1 ≤ cG A g ∧ cG A g ≤ 6
def gT (A : Nat → Int32) : Nat := cG A 0 * cG A 1 * cG A 2
def gVal (A : Nat → Int32) (g x : Nat) : Int32 := A (20 + 3 * g) + A (20 + 3 * g + 1) * nI x
def iRep (w : mH) (a i j k : Nat) : Prop := hai w (a + 17) 0 = nI i ∧ hai w (a + 17) 1 = nI j ∧ hai w (a + 17) 2 = nI k
theorem gT_le {A : Nat → Int32} (h : gOK A) : 1 ≤ gT A ∧ gT A ≤ 216 := by
  obtain ⟨-, a1, a2⟩ := h 0 (by decide)
  obtain ⟨-, b1, b2⟩ := h 1 (by decide)
  obtain ⟨-, c1, c2⟩ := h 2 (by decide)
  unfold gT
  refine ⟨Nat.mul_pos (Nat.mul_pos a1 b1) c1, ?_⟩
  exact Nat.mul_le_mul (Nat.mul_le_mul a2 b2) c2
theorem gRep_c {w : mH} {b g : Nat} {A : Nat → Int32} (h : gRep w b A) (ok : gOK A) (hg : g < 3) : hai w (b + 3) g = nI (cG A g) := (h g hg).2.2.trans (ok g hg).1
theorem tri_v {w : mH} {b : Nat} {A : Nat → Int32} (h : gRep w b A) (ok : gOK A) : vX1_triples w (b + 3) = nI (gT A) := by
  unfold vX1_triples gT
  rw [gRep_c h ok (by decide), gRep_c h ok (by decide), gRep_c h ok (by decide), pk_mul, pk_mul]
theorem gain_v {w : mH} {b g x : Nat} {A : Nat → Int32} (h : gRep w b A) (hg : g < 3) : vX1_gainAt w (nI g) (nI x) (b + 1) (b + 2) = gVal A g x := by
  unfold vX1_gainAt gVal
  rw [show (0 : Int32) = nI 0 from rfl, show (2 : Int32) = nI 2 from rfl, m_in (by omega) (by omega) (by omega), if_neg (by decide), m_cl (by omega), (h g hg).1, (h g hg).2.1]
theorem st_v {w w1 : mH} {a : Nat} (e : w1 = sX9_startIndexes w (a + 17)) : mFr (a + 17) (a + 18) w w1 ∧ iRep w1 a 0 0 0 := by
  subst e
  unfold sX9_startIndexes
  refine ⟨mFr_sai (mFr_sai (mFr_sai mFr.rf (by omega) (by omega)) (by omega) (by omega)) (by omega) (by omega), ?_, ?_, ?_⟩
  · rw [e_hai_sai, up2_k _ _ _ (by decide), e_hai_sai, up2_k _ _ _ (by decide), e_hai_sai, up2_at]; rfl
  · rw [e_hai_sai, up2_k _ _ _ (by decide), e_hai_sai, up2_at]; rfl
  · rw [e_hai_sai, up2_at]; rfl
theorem iRep_fr {lo hi : Nat} {w w' : mH} {a i j k : Nat} (f : mFr lo hi w w') (h : a + 17 < lo ∨ hi ≤ a + 17) (z : iRep w a i j k) : iRep w' a i j k := by
  unfold iRep at z ⊢
  rw [f.hai (by omega)]
  exact z
abbrev mX9_moveIndexes : mM := (yX9_moveIndexes, cX9_moveIndexes, 3, none, [])
set_option maxHeartbeats 4000000 in
set_option maxRecDepth 100000 in
theorem gX9_moveIndexes_0 {G : mG} {w : mH} {Φ : mF} {a0 a1 a0_3 n_a0_3 a1_2 n_a1_2 : Nat} (h1 : hk w a0 = (9, 0)) (h2 : hfr w a0 3 = some a0_3) (h3 : hk w a0_3 = (16, n_a0_3)) (s1 : vp_in 2 n_a0_3) (h4 : hk w a1 = (1, 0)) (h5 : hfr w a1 2 = some a1_2) (h6 : hk w a1_2 = (16, n_a1_2)) (s2 : vp_in 2 n_a1_2) (s3 : vp_in 1 n_a0_3) (s4 : vp_in 1 n_a1_2) (s5 : vp_in 0 n_a0_3) (s6 : vp_in 0 n_a1_2) (k1 : ∀ w1 : mH, (w1 = sai w a0_3 2 ((hai w a0_3 2) + 1)) → ((hai w1 a1_2 2) ≤ (hai w1 a0_3 2)) → ∀ w2 : mH, (w2 = sai w1 a0_3 2 0) → ∀ w3 : mH, (w3 = sai w2 a0_3 1 ((hai w2 a0_3 1) + 1)) → ((hai w3 a1_2 1) ≤ (hai w3 a0_3 1)) → ∀ w4 : mH, (w4 = sai w3 a0_3 1 0) → ∀ w5 : mH, (w5 = sai w4 a0_3 0 ((hai w4 a0_3 0) + 1)) → ((hai w5 a1_2 0) ≤ (hai w5 a0_3 0)) → ∀ w6 : mH, (w6 = sai w5 a0_3 0 0) → Φ (.inl none) w6) (k2 : ∀ w1 : mH, (w1 = sai w a0_3 2 ((hai w a0_3 2) + 1)) → ((hai w1 a1_2 2) ≤ (hai w1 a0_3 2)) → ∀ w2 : mH, (w2 = sai w1 a0_3 2 0) → ∀ w3 : mH, (w3 = sai w2 a0_3 1 ((hai w2 a0_3 1) + 1)) → ((hai w3 a1_2 1) ≤ (hai w3 a0_3 1)) → ∀ w4 : mH, (w4 = sai w3 a0_3 1 0) → ∀ w5 : mH, (w5 = sai w4 a0_3 0 ((hai w4 a0_3 0) + 1)) → (¬ ((hai w5 a1_2 0) ≤ (hai w5 a0_3 0))) → Φ (.inl none) w5) (k3 : ∀ w1 : mH, (w1 = sai w a0_3 2 ((hai w a0_3 2) + 1)) → ((hai w1 a1_2 2) ≤ (hai w1 a0_3 2)) → ∀ w2 : mH, (w2 = sai w1 a0_3 2 0) → ∀ w3 : mH, (w3 = sai w2 a0_3 1 ((hai w2 a0_3 1) + 1)) → (¬ ((hai w3 a1_2 1) ≤ (hai w3 a0_3 1))) → Φ (.inl none) w3) (k4 : ∀ w1 : mH, (w1 = sai w a0_3 2 ((hai w a0_3 2) + 1)) → (¬ ((hai w1 a1_2 2) ≤ (hai w1 a0_3 2))) → Φ (.inl none) w1) : mW G mX9_moveIndexes 1 0 0 0 [(0, .ref a0), (1, .ref a1)] [] w Φ := by
  refine mW_iconst (v := 2) dX9_moveIndexes_0 (by decide) ?_
  refine mW_istore_n (lv2 := [(2, .int 2), (0, .ref a0), (1, .ref a1)]) dX9_moveIndexes_1 rfl (by decide) rfl ?_
  refine mW_iload_n (j := 0) dX9_moveIndexes_2 rfl rfl ?_
  refine mW_if_lt (tgt := 45) dX9_moveIndexes_3 (by decide) (fun c => absurd c (by decide)) (fun _ => ?_)
  refine mW_aload_n (j := 1) dX9_moveIndexes_6 rfl rfl ?_
  refine mW_getR dX9_moveIndexes_7 f_X9_29 h1 rfl h2 ?_
  refine mW_iload_n (j := 0) dX9_moveIndexes_10 rfl rfl ?_
  refine mW_dup2 dX9_moveIndexes_11 rfl rfl ?_
  refine mW_ialdJ dX9_moveIndexes_12 h3 s1 (j := 2) (by decide) ?_
  refine mW_iconst (v := 1) dX9_moveIndexes_13 (by decide) ?_
  refine mW_iadd dX9_moveIndexes_14 ?_
  refine mW_iastJ dX9_moveIndexes_15 h3 s1 (j := 2) (by decide) ?_
  refine mW_nm (fun w1 e1 => ?_)
  refine mW_aload_n (j := 1) dX9_moveIndexes_16 rfl rfl ?_
  refine mW_getR dX9_moveIndexes_17 f_X9_29 (s2k (S2_sai e1) h1) rfl (s2r (S2_sai e1) h2) ?_
  refine mW_iload_n (j := 0) dX9_moveIndexes_20 rfl rfl ?_
  refine mW_ialdJ dX9_moveIndexes_21 (s2k (S2_sai e1) h3) s1 (j := 2) (by decide) ?_
  refine mW_aload_n (j := 2) dX9_moveIndexes_22 rfl rfl ?_
  refine mW_getR dX9_moveIndexes_23 f_X9_67 (s2k (S2_sai e1) h4) rfl (s2r (S2_sai e1) h5) ?_
  refine mW_iload_n (j := 0) dX9_moveIndexes_26 rfl rfl ?_
  refine mW_ialdJ dX9_moveIndexes_27 (s2k (S2_sai e1) h6) s2 (j := 2) (by decide) ?_
  refine mW_icmp_ge (tgt := 32) dX9_moveIndexes_28 (by decide) (fun c1 => ?_) (fun c1 => ?_)
  · refine mW_aload_n (j := 1) dX9_moveIndexes_32 rfl rfl ?_
    refine mW_getR dX9_moveIndexes_33 f_X9_29 (s2k (S2_sai e1) h1) rfl (s2r (S2_sai e1) h2) ?_
    refine mW_iload_n (j := 0) dX9_moveIndexes_36 rfl rfl ?_
    refine mW_iconst (v := 0) dX9_moveIndexes_37 (by decide) ?_
    refine mW_iastJ dX9_moveIndexes_38 (s2k (S2_sai e1) h3) s1 (j := 2) (by decide) ?_
    refine mW_nm (fun w2 e2 => ?_)
    refine mW_iinc (j := 0) (v := 1) (lv2 := [(2, .int 1), (0, .ref a0), (1, .ref a1)]) dX9_moveIndexes_39 rfl (by decide) (by decide) rfl ?_
    refine mW_goto (tgt := 2) dX9_moveIndexes_42 (by decide) ?_
    refine mW_iload_n (j := 0) dX9_moveIndexes_2 rfl rfl ?_
    refine mW_if_lt (tgt := 45) dX9_moveIndexes_3 (by decide) (fun c => absurd c (by decide)) (fun _ => ?_)
    refine mW_aload_n (j := 1) dX9_moveIndexes_6 rfl rfl ?_
    refine mW_getR dX9_moveIndexes_7 f_X9_29 (s2k (S2_sai e2) (s2k (S2_sai e1) h1)) rfl (s2r (S2_sai e2) (s2r (S2_sai e1) h2)) ?_
    refine mW_iload_n (j := 0) dX9_moveIndexes_10 rfl rfl ?_
    refine mW_dup2 dX9_moveIndexes_11 rfl rfl ?_
    refine mW_ialdJ dX9_moveIndexes_12 (s2k (S2_sai e2) (s2k (S2_sai e1) h3)) s3 (j := 1) (by decide) ?_
    refine mW_iconst (v := 1) dX9_moveIndexes_13 (by decide) ?_
    refine mW_iadd dX9_moveIndexes_14 ?_
    refine mW_iastJ dX9_moveIndexes_15 (s2k (S2_sai e2) (s2k (S2_sai e1) h3)) s3 (j := 1) (by decide) ?_
    refine mW_nm (fun w3 e3 => ?_)
    refine mW_aload_n (j := 1) dX9_moveIndexes_16 rfl rfl ?_
    refine mW_getR dX9_moveIndexes_17 f_X9_29 (s2k (S2_sai e3) (s2k (S2_sai e2) (s2k (S2_sai e1) h1))) rfl (s2r (S2_sai e3) (s2r (S2_sai e2) (s2r (S2_sai e1) h2))) ?_
    refine mW_iload_n (j := 0) dX9_moveIndexes_20 rfl rfl ?_
    refine mW_ialdJ dX9_moveIndexes_21 (s2k (S2_sai e3) (s2k (S2_sai e2) (s2k (S2_sai e1) h3))) s3 (j := 1) (by decide) ?_
    refine mW_aload_n (j := 2) dX9_moveIndexes_22 rfl rfl ?_
    refine mW_getR dX9_moveIndexes_23 f_X9_67 (s2k (S2_sai e3) (s2k (S2_sai e2) (s2k (S2_sai e1) h4))) rfl (s2r (S2_sai e3) (s2r (S2_sai e2) (s2r (S2_sai e1) h5))) ?_
    refine mW_iload_n (j := 0) dX9_moveIndexes_26 rfl rfl ?_
    refine mW_ialdJ dX9_moveIndexes_27 (s2k (S2_sai e3) (s2k (S2_sai e2) (s2k (S2_sai e1) h6))) s4 (j := 1) (by decide) ?_
    refine mW_icmp_ge (tgt := 32) dX9_moveIndexes_28 (by decide) (fun c2 => ?_) (fun c2 => ?_)
    · refine mW_aload_n (j := 1) dX9_moveIndexes_32 rfl rfl ?_
      refine mW_getR dX9_moveIndexes_33 f_X9_29 (s2k (S2_sai e3) (s2k (S2_sai e2) (s2k (S2_sai e1) h1))) rfl (s2r (S2_sai e3) (s2r (S2_sai e2) (s2r (S2_sai e1) h2))) ?_
      refine mW_iload_n (j := 0) dX9_moveIndexes_36 rfl rfl ?_
      refine mW_iconst (v := 0) dX9_moveIndexes_37 (by decide) ?_
      refine mW_iastJ dX9_moveIndexes_38 (s2k (S2_sai e3) (s2k (S2_sai e2) (s2k (S2_sai e1) h3))) s3 (j := 1) (by decide) ?_
      refine mW_nm (fun w4 e4 => ?_)
      refine mW_iinc (j := 0) (v := 0) (lv2 := [(2, .int 0), (0, .ref a0), (1, .ref a1)]) dX9_moveIndexes_39 rfl (by decide) (by decide) rfl ?_
      refine mW_goto (tgt := 2) dX9_moveIndexes_42 (by decide) ?_
      refine mW_iload_n (j := 0) dX9_moveIndexes_2 rfl rfl ?_
      refine mW_if_lt (tgt := 45) dX9_moveIndexes_3 (by decide) (fun c => absurd c (by decide)) (fun _ => ?_)
      refine mW_aload_n (j := 1) dX9_moveIndexes_6 rfl rfl ?_
      refine mW_getR dX9_moveIndexes_7 f_X9_29 (s2k (S2_sai e4) (s2k (S2_sai e3) (s2k (S2_sai e2) (s2k (S2_sai e1) h1)))) rfl (s2r (S2_sai e4) (s2r (S2_sai e3) (s2r (S2_sai e2) (s2r (S2_sai e1) h2)))) ?_
      refine mW_iload_n (j := 0) dX9_moveIndexes_10 rfl rfl ?_
      refine mW_dup2 dX9_moveIndexes_11 rfl rfl ?_
      refine mW_ialdJ dX9_moveIndexes_12 (s2k (S2_sai e4) (s2k (S2_sai e3) (s2k (S2_sai e2) (s2k (S2_sai e1) h3)))) s5 (j := 0) (by decide) ?_
      refine mW_iconst (v := 1) dX9_moveIndexes_13 (by decide) ?_
      refine mW_iadd dX9_moveIndexes_14 ?_
      refine mW_iastJ dX9_moveIndexes_15 (s2k (S2_sai e4) (s2k (S2_sai e3) (s2k (S2_sai e2) (s2k (S2_sai e1) h3)))) s5 (j := 0) (by decide) ?_
      refine mW_nm (fun w5 e5 => ?_)
      refine mW_aload_n (j := 1) dX9_moveIndexes_16 rfl rfl ?_
      refine mW_getR dX9_moveIndexes_17 f_X9_29 (s2k (S2_sai e5) (s2k (S2_sai e4) (s2k (S2_sai e3) (s2k (S2_sai e2) (s2k (S2_sai e1) h1))))) rfl (s2r (S2_sai e5) (s2r (S2_sai e4) (s2r (S2_sai e3) (s2r (S2_sai e2) (s2r (S2_sai e1) h2))))) ?_
      refine mW_iload_n (j := 0) dX9_moveIndexes_20 rfl rfl ?_
      refine mW_ialdJ dX9_moveIndexes_21 (s2k (S2_sai e5) (s2k (S2_sai e4) (s2k (S2_sai e3) (s2k (S2_sai e2) (s2k (S2_sai e1) h3))))) s5 (j := 0) (by decide) ?_
      refine mW_aload_n (j := 2) dX9_moveIndexes_22 rfl rfl ?_
      refine mW_getR dX9_moveIndexes_23 f_X9_67 (s2k (S2_sai e5) (s2k (S2_sai e4) (s2k (S2_sai e3) (s2k (S2_sai e2) (s2k (S2_sai e1) h4))))) rfl (s2r (S2_sai e5) (s2r (S2_sai e4) (s2r (S2_sai e3) (s2r (S2_sai e2) (s2r (S2_sai e1) h5))))) ?_
      refine mW_iload_n (j := 0) dX9_moveIndexes_26 rfl rfl ?_
      refine mW_ialdJ dX9_moveIndexes_27 (s2k (S2_sai e5) (s2k (S2_sai e4) (s2k (S2_sai e3) (s2k (S2_sai e2) (s2k (S2_sai e1) h6))))) s6 (j := 0) (by decide) ?_
      refine mW_icmp_ge (tgt := 32) dX9_moveIndexes_28 (by decide) (fun c3 => ?_) (fun c3 => ?_)
      · refine mW_aload_n (j := 1) dX9_moveIndexes_32 rfl rfl ?_
        refine mW_getR dX9_moveIndexes_33 f_X9_29 (s2k (S2_sai e5) (s2k (S2_sai e4) (s2k (S2_sai e3) (s2k (S2_sai e2) (s2k (S2_sai e1) h1))))) rfl (s2r (S2_sai e5) (s2r (S2_sai e4) (s2r (S2_sai e3) (s2r (S2_sai e2) (s2r (S2_sai e1) h2))))) ?_
        refine mW_iload_n (j := 0) dX9_moveIndexes_36 rfl rfl ?_
        refine mW_iconst (v := 0) dX9_moveIndexes_37 (by decide) ?_
        refine mW_iastJ dX9_moveIndexes_38 (s2k (S2_sai e5) (s2k (S2_sai e4) (s2k (S2_sai e3) (s2k (S2_sai e2) (s2k (S2_sai e1) h3))))) s5 (j := 0) (by decide) ?_
        refine mW_nm (fun w6 e6 => ?_)
        refine mW_iinc (j := 0) (v := (-1)) (lv2 := [(2, .int (-1)), (0, .ref a0), (1, .ref a1)]) dX9_moveIndexes_39 rfl (by decide) (by decide) rfl ?_
        refine mW_goto (tgt := 2) dX9_moveIndexes_42 (by decide) ?_
        refine mW_iload_n (j := 0) dX9_moveIndexes_2 rfl rfl ?_
        refine mW_if_lt (tgt := 45) dX9_moveIndexes_3 (by decide) (fun _ => ?_) (fun c => absurd (by decide) c)
        exact mW_vret dX9_moveIndexes_45 rfl (k1 w1 e1 c1 w2 e2 w3 e3 c2 w4 e4 w5 e5 c3 w6 e6)
      · exact mW_vret dX9_moveIndexes_31 rfl (k2 w1 e1 c1 w2 e2 w3 e3 c2 w4 e4 w5 e5 c3)
    · exact mW_vret dX9_moveIndexes_31 rfl (k3 w1 e1 c1 w2 e2 w3 e3 c2)
  · exact mW_vret dX9_moveIndexes_31 rfl (k4 w1 e1 c1)
theorem m_dm {c m : Nat} (hc : 0 < c) : (m % c + 1 < c → (m + 1) % c = m % c + 1 ∧ (m + 1) / c = m / c) ∧ (¬ m % c + 1 < c → (m + 1) % c = 0 ∧ (m + 1) / c = m / c + 1) := by
  have h := Nat.div_add_mod m c
  have hr := Nat.mod_lt m hc
  generalize m / c = q at *
  generalize m % c = r at *
  subst h
  constructor
  · intro h1
    rw [Nat.add_assoc, Nat.mul_add_mod, Nat.mul_add_div hc, Nat.mod_eq_of_lt h1, Nat.div_eq_of_lt h1]
    exact ⟨rfl, rfl⟩
  · intro h1
    have e : r + 1 = c := by omega
    rw [Nat.add_assoc, e, Nat.mul_add_mod, Nat.mul_add_div hc, Nat.mod_self, Nat.div_self hc]
    exact ⟨rfl, rfl⟩
def fl (A : Nat → Int32) (i j k : Nat) : Nat := (i * cG A 1 + j) * cG A 2 + k
theorem fl_lt {A : Nat → Int32} {i j k : Nat} (hi : i < cG A 0) (hj : j < cG A 1) (hk : k < cG A 2) : fl A i j k < gT A := by
  have h1 : i * cG A 1 + j < (i + 1) * cG A 1 := by rw [Nat.succ_mul]; omega
  have h2 : (i + 1) * cG A 1 ≤ cG A 0 * cG A 1 := Nat.mul_le_mul_right _ (by omega)
  have h3 : (i * cG A 1 + j) * cG A 2 + k < (i * cG A 1 + j + 1) * cG A 2 := by rw [Nat.succ_mul]; omega
  have h4 : (i * cG A 1 + j + 1) * cG A 2 ≤ (cG A 0 * cG A 1) * cG A 2 := Nat.mul_le_mul_right _ (by omega)
  exact Nat.lt_of_lt_of_le h3 h4
def jRep (w : mH) (a : Nat) (A : Nat → Int32) (m : Nat) : Prop := iRep w a (m / cG A 2 / cG A 1) (m / cG A 2 % cG A 1) (m % cG A 2)
theorem j_lt {A : Nat → Int32} {m : Nat} (ok : gOK A) (h : m < gT A) : m / cG A 2 / cG A 1 < cG A 0 ∧ m / cG A 2 % cG A 1 < cG A 1 ∧ m % cG A 2 < cG A 2 := by
  obtain ⟨-, b1, b2⟩ := ok 1 (by decide)
  obtain ⟨-, c1, c2⟩ := ok 2 (by decide)
  refine ⟨?_, Nat.mod_lt _ (by omega), Nat.mod_lt _ (by omega)⟩
  rw [Nat.div_lt_iff_lt_mul (by omega), Nat.div_lt_iff_lt_mul (by omega)]
  exact h
theorem fl_j {A : Nat → Int32} {m : Nat} : fl A (m / cG A 2 / cG A 1) (m / cG A 2 % cG A 1) (m % cG A 2) = m := by
  unfold fl
  rw [Nat.mul_comm (m / cG A 2 / cG A 1), Nat.div_add_mod, Nat.mul_comm, Nat.div_add_mod]
theorem rX9_moveIndexes {G : mG} {w : mH} {a0 a1 m : Nat} {A : Nat → Int32} (z0 : zTun w a0) (z1 : zGrid w a1) (hd : a0 + 18 ≤ a1 ∨ a1 + 4 ≤ a0) (h : gRep w a1 A) (ok : gOK A) (hm : m < gT A) (hj : jRep w a0 A m) : mC G mX9_moveIndexes 1 0 0 [.ref a0, .ref a1] w (mP none (fun w' => mFr (a0 + 17) (a0 + 18) w w' ∧ (m + 1 < gT A → jRep w' a0 A (m + 1)))) := by
  obtain ⟨hi0, hj0, hk0⟩ := j_lt ok hm
  obtain ⟨-, a1', a2⟩ := ok 0 (by decide)
  obtain ⟨-, b1, b2⟩ := ok 1 (by decide)
  obtain ⟨-, c1', c2'⟩ := ok 2 (by decide)
  have D1 := m_dm (c := cG A 2) (m := m) (by omega)
  have D2 := m_dm (c := cG A 1) (m := m / cG A 2) (by omega)
  obtain ⟨r0, r1, r2⟩ := hj
  have g0 : ∀ w1 : mH, (∀ b, b ≠ a0 + 17 → hai w1 b = hai w b) → hai w1 (a1 + 3) 0 = nI (cG A 0) ∧ hai w1 (a1 + 3) 1 = nI (cG A 1) ∧ hai w1 (a1 + 3) 2 = nI (cG A 2) := fun w1 h1 => by
    rw [h1 _ (by omega)]
    exact ⟨gRep_c h ok (by decide), gRep_c h ok (by decide), gRep_c h ok (by decide)⟩
  refine mC_of (by decide +kernel) rfl (Nat.le_of_ble_eq_true rfl) rfl ?_
  refine gX9_moveIndexes_0 (a0_3 := a0 + 17) (a1_2 := a1 + 3) z0.1 z0.2.2.2.2.1 z0.2.2.2.2.2.2.2.2 (by intros; unfold vp_in; decide) z1.1 z1.2.2.2.1 z1.2.2.2.2.2.2 (by intros; unfold vp_in; decide) (by intros; unfold vp_in; decide) (by intros; unfold vp_in; decide) (by intros; unfold vp_in; decide) (by intros; unfold vp_in; decide) ?_ ?_ ?_ ?_
  · intro w1 e1 c1 w2 e2 w3 e3 c2 w4 e4 w5 e5 c3 w6 e6
    have F : mFr (a0 + 17) (a0 + 18) w w6 := by
      rw [e6, e5, e4, e3, e2, e1]
      exact mFr_sai (mFr_sai (mFr_sai (mFr_sai (mFr_sai (mFr_sai mFr.rf (by omega) (by omega)) (by omega) (by omega)) (by omega) (by omega)) (by omega) (by omega)) (by omega) (by omega)) (by omega) (by omega)
    refine mP_of ⟨F, fun hm1 => ?_⟩
    exfalso
    rw [(g0 w1 (fun b hb => by rw [e1, e_hai_sai, up2_a _ _ _ hb])).2.2] at c1
    rw [(g0 w3 (fun b hb => by rw [e3, e_hai_sai, up2_a _ _ _ hb, e2, e_hai_sai, up2_a _ _ _ hb, e1, e_hai_sai, up2_a _ _ _ hb])).2.1] at c2
    rw [(g0 w5 (fun b hb => by rw [e5, e_hai_sai, up2_a _ _ _ hb, e4, e_hai_sai, up2_a _ _ _ hb, e3, e_hai_sai, up2_a _ _ _ hb, e2, e_hai_sai, up2_a _ _ _ hb, e1, e_hai_sai, up2_a _ _ _ hb])).1] at c3
    have x1 : hai w1 (a0 + 17) 2 = nI (m % cG A 2 + 1) := by rw [e1, e_hai_sai, up2_at, r2, nI_1]
    have x3 : hai w3 (a0 + 17) 1 = nI (m / cG A 2 % cG A 1 + 1) := by
      rw [e3, e_hai_sai, up2_at, e2, e_hai_sai, up2_k _ _ _ (by decide), e1, e_hai_sai, up2_k _ _ _ (by decide), r1, nI_1]
    have x5 : hai w5 (a0 + 17) 0 = nI (m / cG A 2 / cG A 1 + 1) := by
      rw [e5, e_hai_sai, up2_at, e4, e_hai_sai, up2_k _ _ _ (by decide), e3, e_hai_sai, up2_k _ _ _ (by decide), e2, e_hai_sai, up2_k _ _ _ (by decide), e1, e_hai_sai, up2_k _ _ _ (by decide), r0, nI_1]
    rw [x1, m_le (by omega) (by omega)] at c1
    rw [x3, m_le (by omega) (by omega)] at c2
    rw [x5, m_le (by omega) (by omega)] at c3
    obtain ⟨y1, y2⟩ := D1.2 (by omega)
    obtain ⟨y3, y4⟩ := D2.2 (by omega)
    have := (j_lt ok hm1).1
    rw [y2, y4] at this
    omega
  · intro w1 e1 c1 w2 e2 w3 e3 c2 w4 e4 w5 e5 c3
    have F : mFr (a0 + 17) (a0 + 18) w w5 := by
      rw [e5, e4, e3, e2, e1]
      exact mFr_sai (mFr_sai (mFr_sai (mFr_sai (mFr_sai mFr.rf (by omega) (by omega)) (by omega) (by omega)) (by omega) (by omega)) (by omega) (by omega)) (by omega) (by omega)
    refine mP_of ⟨F, fun hm1 => ?_⟩
    rw [(g0 w1 (fun b hb => by rw [e1, e_hai_sai, up2_a _ _ _ hb])).2.2] at c1
    rw [(g0 w3 (fun b hb => by rw [e3, e_hai_sai, up2_a _ _ _ hb, e2, e_hai_sai, up2_a _ _ _ hb, e1, e_hai_sai, up2_a _ _ _ hb])).2.1] at c2
    have x1 : hai w1 (a0 + 17) 2 = nI (m % cG A 2 + 1) := by rw [e1, e_hai_sai, up2_at, r2, nI_1]
    have x3 : hai w3 (a0 + 17) 1 = nI (m / cG A 2 % cG A 1 + 1) := by
      rw [e3, e_hai_sai, up2_at, e2, e_hai_sai, up2_k _ _ _ (by decide), e1, e_hai_sai, up2_k _ _ _ (by decide), r1, nI_1]
    rw [x1, m_le (by omega) (by omega)] at c1
    rw [x3, m_le (by omega) (by omega)] at c2
    obtain ⟨y1, y2⟩ := D1.2 (by omega)
    obtain ⟨y3, y4⟩ := D2.2 (by omega)
    unfold jRep iRep
    rw [y1, y2, y3, y4]
    refine ⟨?_, ?_, ?_⟩
    · rw [e5, e_hai_sai, up2_at, e4, e_hai_sai, up2_k _ _ _ (by decide), e3, e_hai_sai, up2_k _ _ _ (by decide), e2, e_hai_sai, up2_k _ _ _ (by decide), e1, e_hai_sai, up2_k _ _ _ (by decide), r0, nI_1]
    · rw [e5, e_hai_sai, up2_k _ _ _ (by decide), e4, e_hai_sai, up2_at]; rfl
    · rw [e5, e_hai_sai, up2_k _ _ _ (by decide), e4, e_hai_sai, up2_k _ _ _ (by decide), e3, e_hai_sai, up2_k _ _ _ (by decide), e2, e_hai_sai, up2_at]; rfl
  · intro w1 e1 c1 w2 e2 w3 e3 c2
    have F : mFr (a0 + 17) (a0 + 18) w w3 := by
      rw [e3, e2, e1]
      exact mFr_sai (mFr_sai (mFr_sai mFr.rf (by omega) (by omega)) (by omega) (by omega)) (by omega) (by omega)
    refine mP_of ⟨F, fun hm1 => ?_⟩
    rw [(g0 w1 (fun b hb => by rw [e1, e_hai_sai, up2_a _ _ _ hb])).2.2] at c1
    rw [(g0 w3 (fun b hb => by rw [e3, e_hai_sai, up2_a _ _ _ hb, e2, e_hai_sai, up2_a _ _ _ hb, e1, e_hai_sai, up2_a _ _ _ hb])).2.1] at c2
    have x1 : hai w1 (a0 + 17) 2 = nI (m % cG A 2 + 1) := by rw [e1, e_hai_sai, up2_at, r2, nI_1]
    have x3 : hai w3 (a0 + 17) 1 = nI (m / cG A 2 % cG A 1 + 1) := by
      rw [e3, e_hai_sai, up2_at, e2, e_hai_sai, up2_k _ _ _ (by decide), e1, e_hai_sai, up2_k _ _ _ (by decide), r1, nI_1]
    rw [x1, m_le (by omega) (by omega)] at c1
    rw [x3, m_le (by omega) (by omega)] at c2
    obtain ⟨y1, y2⟩ := D1.2 (by omega)
    obtain ⟨y3, y4⟩ := D2.1 (by omega)
    unfold jRep iRep
    rw [y1, y2, y3, y4]
    refine ⟨?_, x3, ?_⟩
    · rw [e3, e_hai_sai, up2_k _ _ _ (by decide), e2, e_hai_sai, up2_k _ _ _ (by decide), e1, e_hai_sai, up2_k _ _ _ (by decide), r0]
    · rw [e3, e_hai_sai, up2_k _ _ _ (by decide), e2, e_hai_sai, up2_at]; rfl
  · intro w1 e1 c1
    have F : mFr (a0 + 17) (a0 + 18) w w1 := by
      rw [e1]
      exact mFr_sai mFr.rf (by omega) (by omega)
    refine mP_of ⟨F, fun hm1 => ?_⟩
    rw [(g0 w1 (fun b hb => by rw [e1, e_hai_sai, up2_a _ _ _ hb])).2.2] at c1
    have x1 : hai w1 (a0 + 17) 2 = nI (m % cG A 2 + 1) := by rw [e1, e_hai_sai, up2_at, r2, nI_1]
    rw [x1, m_le (by omega) (by omega)] at c1
    obtain ⟨y1, y2⟩ := D1.1 (by omega)
    unfold jRep iRep
    rw [y1, y2]
    refine ⟨?_, ?_, x1⟩
    · rw [e1, e_hai_sai, up2_k _ _ _ (by decide), r0]
    · rw [e1, e_hai_sai, up2_k _ _ _ (by decide), r1]
theorem cost_v {w : mH} {a b i j k : Nat} {A : Nat → Int32} (h : gRep w b A) (ok : gOK A) (hi : i < cG A 0) (hj : j < cG A 1) (hk : k < cG A 2) (r : iRep w a i j k) : vX9_costAtIndexes w (a + 17) (b + 3) (a + 16) = hal w (a + 16) (fl A i j k) := by
  obtain ⟨r0, r1, r2⟩ := r
  have hlt := fl_lt hi hj hk
  have h216 := (gT_le ok).2
  have e : ((((hai w (a + 17) 0) * (hai w (b + 3) 1)) + (hai w (a + 17) 1)) * (hai w (b + 3) 2)) + (hai w (a + 17) 2) = nI (fl A i j k) := by
    rw [r0, r1, r2, gRep_c h ok (by decide), gRep_c h ok (by decide), pk_mul, nI_add, pk_mul, nI_add]
    rfl
  unfold vX9_costAtIndexes
  rw [e, show (0 : Int32) = nI 0 from rfl, show (215 : Int32) = nI 215 from rfl, m_in (by omega) (by omega) (by omega), if_neg (by decide), m_cl (by omega)]
abbrev mX9_takeIndexes : mM := (yX9_takeIndexes, cX9_takeIndexes, 4, none, [])
theorem u430 : (Cond.fieldLink "LineFollowerBench$Tuner" 112 "LineFollowerBench$Found" "gains" "[I" : Cond) ∈ mTs := mTs_in 430 (by decide +kernel) (by decide +kernel)
theorem in_X0 : ∀ w ∈ u_ws RX0 TX0 4, w ∈ mTs := fun w h => mTs_of (L := u_ws RX0 TX0 4) (goodIn_r _ [438, 440, 442, 444] (by decide +kernel) (by decide +kernel)) (by decide +kernel) w h
theorem f_X9_112 : mFld "LineFollowerBench$Tuner" 112 0 1 := ⟨RX0, TX0, 4, "LineFollowerBench$Found", rfl, by decide, in_X0, u430, Or.inl rfl, by decide⟩
theorem u614 : (Cond.code ⟨"LineFollowerBench$Grid", "gainAt", "(II)I"⟩ prog_3_method_3_code 3 (some .int) : Cond) ∈ mTs := mTs_in 614 (by decide +kernel) (by decide +kernel)
theorem co_X1_gainAt : mCode mX1_gainAt := ⟨u614, u72, by decide⟩
theorem u611 : (Cond.methodLink "LineFollowerBench$Tuner" 55 ⟨"LineFollowerBench$Grid", "gainAt", "(II)I"⟩ : Cond) ∈ mTs := mTs_in 611 (by decide +kernel) (by decide +kernel)
theorem u612 : (Cond.instanceMethod ⟨"LineFollowerBench$Grid", "gainAt", "(II)I"⟩ : Cond) ∈ mTs := mTs_in 612 (by decide +kernel) (by decide +kernel)
theorem u613 : (Cond.selects "LineFollowerBench$Grid" ⟨"LineFollowerBench$Grid", "gainAt", "(II)I"⟩ ⟨"LineFollowerBench$Grid", "gainAt", "(II)I"⟩ : Cond) ∈ mTs := mTs_in 613 (by decide +kernel) (by decide +kernel)
theorem l_X9_55 : mLinkV "LineFollowerBench$Tuner" 55 2 mX1_gainAt := ⟨⟨by decide, by decide, by decide +kernel⟩, co_X1_gainAt, u611, u612, u613⟩
theorem u668 : (Cond.code ⟨"LineFollowerBench$Tuner", "costAtIndexes", "(LLineFollowerBench$Grid;)J"⟩ prog_11_method_6_code 3 (some .long) : Cond) ∈ mTs := mTs_in 668 (by decide +kernel) (by decide +kernel)
theorem u83 : (Cond.initialized "LineFollowerBench$Tuner" : Cond) ∈ mTs := mTs_in 83 (by decide +kernel) (by decide +kernel)
theorem co_X9_costAtIndexes : mCode mX9_costAtIndexes := ⟨u668, u83, by decide⟩
theorem u665 : (Cond.methodLink "LineFollowerBench$Tuner" 104 ⟨"LineFollowerBench$Tuner", "costAtIndexes", "(LLineFollowerBench$Grid;)J"⟩ : Cond) ∈ mTs := mTs_in 665 (by decide +kernel) (by decide +kernel)
theorem u667 : (Cond.instanceMethod ⟨"LineFollowerBench$Tuner", "costAtIndexes", "(LLineFollowerBench$Grid;)J"⟩ : Cond) ∈ mTs := mTs_in 667 (by decide +kernel) (by decide +kernel)
theorem u20 : (Cond.selects "LineFollowerBench$Tuner" ⟨"LineFollowerBench$Tuner", "costAtIndexes", "(LLineFollowerBench$Grid;)J"⟩ ⟨"LineFollowerBench$Tuner", "costAtIndexes", "(LLineFollowerBench$Grid;)J"⟩ : Cond) ∈ mTs := mTs_in 20 (by decide +kernel) (by decide +kernel)
theorem l_X9_104 : mLinkV "LineFollowerBench$Tuner" 104 1 mX9_costAtIndexes := ⟨⟨by decide, by decide, by decide +kernel⟩, co_X9_costAtIndexes, u665, u667, u20⟩
theorem u433 : (Cond.fieldLink "LineFollowerBench$Tuner" 86 "LineFollowerBench$Found" "cost" "J" : Cond) ∈ mTs := mTs_in 433 (by decide +kernel) (by decide +kernel)
theorem p_X9_86 : mPut "LineFollowerBench$Tuner" 86 0 2 (.long) false := ⟨RX0, TX0, 4, "LineFollowerBench$Found", tyX0, rfl, by decide, in_X0, u433, Or.inl rfl, by decide, tyX0_ok, nmX0, by decide +kernel, rfl, fun h => by cases h⟩
theorem ob_0_2 (w : mH) (a : Nat) (v : Int64) : mOb (sfl w a 2 v) a 0 = (mOb w a 0).set 2 (.long v) := by simp [mOb, hfi_sfl, hfl_sfl, hfr_sfl, up2]
theorem u427 : (Cond.fieldLink "LineFollowerBench$Tuner" 115 "LineFollowerBench$Found" "isMade" "Z" : Cond) ∈ mTs := mTs_in 427 (by decide +kernel) (by decide +kernel)
theorem p_X9_115 : mPut "LineFollowerBench$Tuner" 115 0 0 (.boolean) false := ⟨RX0, TX0, 4, "LineFollowerBench$Found", tyX0, rfl, by decide, in_X0, u427, Or.inl rfl, by decide, tyX0_ok, nmX0, by decide +kernel, rfl, fun h => by cases h⟩
theorem ob_0_0 (w : mH) (a : Nat) (v : Int32) : mOb (sfi w a 0 v) a 0 = (mOb w a 0).set 0 (.int v) := by simp [mOb, hfi_sfi, hfl_sfi, hfr_sfi, up2]
set_option maxHeartbeats 4000000 in
set_option maxRecDepth 100000 in
theorem gX9_takeIndexes_0 {G : mG} {w : mH} {Φ : mF} {a0 a1 a2 a2_1 a0_3 n_a0_3 a1_0 n_a1_0 a1_1 n_a1_1 n_a2_1 a1_2 n_a1_2 a0_2 n_a0_2 : Nat} (h1 : hk w a2 = (0, 0)) (h2 : hfr w a2 1 = some a2_1) (h3 : hk w a0 = (9, 0)) (h4 : hfr w a0 3 = some a0_3) (h5 : hk w a0_3 = (16, n_a0_3)) (s1 : vp_in 0 n_a0_3) (h6 : hk w a1 = (1, 0)) (h7 : hfr w a1 0 = some a1_0) (h8 : hk w a1_0 = (16, n_a1_0)) (s2 : (¬ ((vX10_isWithin 0 0 2) = 0)) → vp_in 0 n_a1_0) (h9 : hfr w a1 1 = some a1_1) (h10 : hk w a1_1 = (16, n_a1_1)) (s3 : (¬ ((vX10_isWithin 0 0 2) = 0)) → vp_in 0 n_a1_1) (h11 : hk w a2_1 = (16, n_a2_1)) (s4 : vp_in 0 n_a2_1) (s5 : vp_in 1 n_a0_3) (s6 : ∀ w1 : mH, (w1 = sai w a2_1 0 (vX1_gainAt w 0 (hai w a0_3 0) a1_0 a1_1)) → (¬ ((vX10_isWithin 1 0 2) = 0)) → vp_in 1 n_a1_0) (s7 : ∀ w1 : mH, (w1 = sai w a2_1 0 (vX1_gainAt w 0 (hai w a0_3 0) a1_0 a1_1)) → (¬ ((vX10_isWithin 1 0 2) = 0)) → vp_in 1 n_a1_1) (s8 : vp_in 1 n_a2_1) (s9 : vp_in 2 n_a0_3) (s10 : ∀ w1 : mH, (w1 = sai w a2_1 0 (vX1_gainAt w 0 (hai w a0_3 0) a1_0 a1_1)) → ∀ w2 : mH, (w2 = sai w1 a2_1 1 (vX1_gainAt w1 1 (hai w1 a0_3 1) a1_0 a1_1)) → (¬ ((vX10_isWithin 2 0 2) = 0)) → vp_in 2 n_a1_0) (s11 : ∀ w1 : mH, (w1 = sai w a2_1 0 (vX1_gainAt w 0 (hai w a0_3 0) a1_0 a1_1)) → ∀ w2 : mH, (w2 = sai w1 a2_1 1 (vX1_gainAt w1 1 (hai w1 a0_3 1) a1_0 a1_1)) → (¬ ((vX10_isWithin 2 0 2) = 0)) → vp_in 2 n_a1_1) (s12 : vp_in 2 n_a2_1) (h12 : hfr w a1 2 = some a1_2) (h13 : hk w a1_2 = (16, n_a1_2)) (s13 : vp_in 1 n_a1_2) (s14 : vp_in 2 n_a1_2) (h14 : hfr w a0 2 = some a0_2) (h15 : hk w a0_2 = (17, n_a0_2)) (s15 : ∀ w1 : mH, (w1 = sai w a2_1 0 (vX1_gainAt w 0 (hai w a0_3 0) a1_0 a1_1)) → ∀ w2 : mH, (w2 = sai w1 a2_1 1 (vX1_gainAt w1 1 (hai w1 a0_3 1) a1_0 a1_1)) → ∀ w3 : mH, (w3 = sai w2 a2_1 2 (vX1_gainAt w2 2 (hai w2 a0_3 2) a1_0 a1_1)) → (¬ ((vX10_isWithin (((((hai w3 a0_3 0) * (hai w3 a1_2 1)) + (hai w3 a0_3 1)) * (hai w3 a1_2 2)) + (hai w3 a0_3 2)) 0 215) = 0)) → vp_in (((((hai w3 a0_3 0) * (hai w3 a1_2 1)) + (hai w3 a0_3 1)) * (hai w3 a1_2 2)) + (hai w3 a0_3 2)) n_a0_2) (k1 : ∀ w1 : mH, (w1 = sai w a2_1 0 (vX1_gainAt w 0 (hai w a0_3 0) a1_0 a1_1)) → ∀ w2 : mH, (w2 = sai w1 a2_1 1 (vX1_gainAt w1 1 (hai w1 a0_3 1) a1_0 a1_1)) → ∀ w3 : mH, (w3 = sai w2 a2_1 2 (vX1_gainAt w2 2 (hai w2 a0_3 2) a1_0 a1_1)) → ∀ w4 : mH, (w4 = sfl w3 a2 2 (vX9_costAtIndexes w3 a0_3 a1_2 a0_2)) → ∀ w5 : mH, (w5 = sfi w4 a2 0 1) → Φ (.inl none) w5) : mW G mX9_takeIndexes 3 0 0 0 [(0, .ref a0), (1, .ref a1), (2, .ref a2)] [] w Φ := by
  refine mW_iconst (v := 0) dX9_takeIndexes_0 (by decide) ?_
  refine mW_istore_n (lv2 := [(3, .int 0), (0, .ref a0), (1, .ref a1), (2, .ref a2)]) dX9_takeIndexes_1 rfl (by decide) rfl ?_
  refine mW_iload_n (j := 0) dX9_takeIndexes_2 rfl rfl ?_
  refine mW_iconst (v := 3) dX9_takeIndexes_3 (by decide) ?_
  refine mW_icmp_ge (tgt := 30) dX9_takeIndexes_4 (by decide) (fun c => absurd c (by decide)) (fun _ => ?_)
  refine mW_aload_n (j := 3) dX9_takeIndexes_7 rfl rfl ?_
  refine mW_getR dX9_takeIndexes_8 f_X9_112 h1 rfl h2 ?_
  refine mW_iload_n (j := 0) dX9_takeIndexes_11 rfl rfl ?_
  refine mW_aload_n (j := 2) dX9_takeIndexes_12 rfl rfl ?_
  refine mW_iload_n (j := 0) dX9_takeIndexes_13 rfl rfl ?_
  refine mW_aload_n (j := 1) dX9_takeIndexes_14 rfl rfl ?_
  refine mW_getR dX9_takeIndexes_15 f_X9_29 h3 rfl h4 ?_
  refine mW_iload_n (j := 0) dX9_takeIndexes_18 rfl rfl ?_
  refine mW_ialdJ dX9_takeIndexes_19 h5 s1 (j := 0) (by decide) ?_
  refine mW_callVe (As := [.int 0, .int (hai w a0_3 0)]) (rest := [.int 0, .ref a2_1]) (kc2 := 0) (ks2 := 0) dX9_takeIndexes_20 l_X9_55 rfl h6 rfl (by decide) (qX1_gainAt (w := w) (a0 := a1) (x1 := 0) (x2 := hai w a0_3 0) h6 h7 h8 s2 h9 h10 s3) (Nat.le_of_ble_eq_true rfl) (by decide) rfl rfl ?_
  refine mW_iastJ dX9_takeIndexes_23 h11 s4 (j := 0) (by decide) ?_
  refine mW_nm (fun w1 e1 => ?_)
  refine mW_iinc (j := 0) (v := 1) (lv2 := [(3, .int 1), (0, .ref a0), (1, .ref a1), (2, .ref a2)]) dX9_takeIndexes_24 rfl (by decide) (by decide) rfl ?_
  refine mW_goto (tgt := 2) dX9_takeIndexes_27 (by decide) ?_
  refine mW_iload_n (j := 0) dX9_takeIndexes_2 rfl rfl ?_
  refine mW_iconst (v := 3) dX9_takeIndexes_3 (by decide) ?_
  refine mW_icmp_ge (tgt := 30) dX9_takeIndexes_4 (by decide) (fun c => absurd c (by decide)) (fun _ => ?_)
  refine mW_aload_n (j := 3) dX9_takeIndexes_7 rfl rfl ?_
  refine mW_getR dX9_takeIndexes_8 f_X9_112 (s2k (S2_sai e1) h1) rfl (s2r (S2_sai e1) h2) ?_
  refine mW_iload_n (j := 0) dX9_takeIndexes_11 rfl rfl ?_
  refine mW_aload_n (j := 2) dX9_takeIndexes_12 rfl rfl ?_
  refine mW_iload_n (j := 0) dX9_takeIndexes_13 rfl rfl ?_
  refine mW_aload_n (j := 1) dX9_takeIndexes_14 rfl rfl ?_
  refine mW_getR dX9_takeIndexes_15 f_X9_29 (s2k (S2_sai e1) h3) rfl (s2r (S2_sai e1) h4) ?_
  refine mW_iload_n (j := 0) dX9_takeIndexes_18 rfl rfl ?_
  refine mW_ialdJ dX9_takeIndexes_19 (s2k (S2_sai e1) h5) s5 (j := 1) (by decide) ?_
  refine mW_callVe (As := [.int 1, .int (hai w1 a0_3 1)]) (rest := [.int 1, .ref a2_1]) (kc2 := 0) (ks2 := 0) dX9_takeIndexes_20 l_X9_55 rfl (s2k (S2_sai e1) h6) rfl (by decide) (qX1_gainAt (w := w1) (a0 := a1) (x1 := 1) (x2 := hai w1 a0_3 1) (s2k (S2_sai e1) h6) (s2r (S2_sai e1) h7) (s2k (S2_sai e1) h8) (s6 w1 e1) (s2r (S2_sai e1) h9) (s2k (S2_sai e1) h10) (s7 w1 e1)) (Nat.le_of_ble_eq_true rfl) (by decide) rfl rfl ?_
  refine mW_iastJ dX9_takeIndexes_23 (s2k (S2_sai e1) h11) s8 (j := 1) (by decide) ?_
  refine mW_nm (fun w2 e2 => ?_)
  refine mW_iinc (j := 0) (v := 2) (lv2 := [(3, .int 2), (0, .ref a0), (1, .ref a1), (2, .ref a2)]) dX9_takeIndexes_24 rfl (by decide) (by decide) rfl ?_
  refine mW_goto (tgt := 2) dX9_takeIndexes_27 (by decide) ?_
  refine mW_iload_n (j := 0) dX9_takeIndexes_2 rfl rfl ?_
  refine mW_iconst (v := 3) dX9_takeIndexes_3 (by decide) ?_
  refine mW_icmp_ge (tgt := 30) dX9_takeIndexes_4 (by decide) (fun c => absurd c (by decide)) (fun _ => ?_)
  refine mW_aload_n (j := 3) dX9_takeIndexes_7 rfl rfl ?_
  refine mW_getR dX9_takeIndexes_8 f_X9_112 (s2k (S2_sai e2) (s2k (S2_sai e1) h1)) rfl (s2r (S2_sai e2) (s2r (S2_sai e1) h2)) ?_
  refine mW_iload_n (j := 0) dX9_takeIndexes_11 rfl rfl ?_
  refine mW_aload_n (j := 2) dX9_takeIndexes_12 rfl rfl ?_
  refine mW_iload_n (j := 0) dX9_takeIndexes_13 rfl rfl ?_
  refine mW_aload_n (j := 1) dX9_takeIndexes_14 rfl rfl ?_
  refine mW_getR dX9_takeIndexes_15 f_X9_29 (s2k (S2_sai e2) (s2k (S2_sai e1) h3)) rfl (s2r (S2_sai e2) (s2r (S2_sai e1) h4)) ?_
  refine mW_iload_n (j := 0) dX9_takeIndexes_18 rfl rfl ?_
  refine mW_ialdJ dX9_takeIndexes_19 (s2k (S2_sai e2) (s2k (S2_sai e1) h5)) s9 (j := 2) (by decide) ?_
  refine mW_callVe (As := [.int 2, .int (hai w2 a0_3 2)]) (rest := [.int 2, .ref a2_1]) (kc2 := 0) (ks2 := 0) dX9_takeIndexes_20 l_X9_55 rfl (s2k (S2_sai e2) (s2k (S2_sai e1) h6)) rfl (by decide) (qX1_gainAt (w := w2) (a0 := a1) (x1 := 2) (x2 := hai w2 a0_3 2) (s2k (S2_sai e2) (s2k (S2_sai e1) h6)) (s2r (S2_sai e2) (s2r (S2_sai e1) h7)) (s2k (S2_sai e2) (s2k (S2_sai e1) h8)) (s10 w1 e1 w2 e2) (s2r (S2_sai e2) (s2r (S2_sai e1) h9)) (s2k (S2_sai e2) (s2k (S2_sai e1) h10)) (s11 w1 e1 w2 e2)) (Nat.le_of_ble_eq_true rfl) (by decide) rfl rfl ?_
  refine mW_iastJ dX9_takeIndexes_23 (s2k (S2_sai e2) (s2k (S2_sai e1) h11)) s12 (j := 2) (by decide) ?_
  refine mW_nm (fun w3 e3 => ?_)
  refine mW_iinc (j := 0) (v := 3) (lv2 := [(3, .int 3), (0, .ref a0), (1, .ref a1), (2, .ref a2)]) dX9_takeIndexes_24 rfl (by decide) (by decide) rfl ?_
  refine mW_goto (tgt := 2) dX9_takeIndexes_27 (by decide) ?_
  refine mW_iload_n (j := 0) dX9_takeIndexes_2 rfl rfl ?_
  refine mW_iconst (v := 3) dX9_takeIndexes_3 (by decide) ?_
  refine mW_icmp_ge (tgt := 30) dX9_takeIndexes_4 (by decide) (fun _ => ?_) (fun c => absurd (by decide) c)
  refine mW_aload_n (j := 3) dX9_takeIndexes_30 rfl rfl ?_
  refine mW_aload_n (j := 1) dX9_takeIndexes_31 rfl rfl ?_
  refine mW_aload_n (j := 2) dX9_takeIndexes_32 rfl rfl ?_
  refine mW_callVe (As := [.ref a1]) (rest := [.ref a2]) (kc2 := 0) (ks2 := 0) dX9_takeIndexes_33 l_X9_104 rfl (s2k (S2_sai e3) (s2k (S2_sai e2) (s2k (S2_sai e1) h3))) rfl (by decide) (qX9_costAtIndexes (w := w3) (a0 := a0) (a1 := a1) (s2k (S2_sai e3) (s2k (S2_sai e2) (s2k (S2_sai e1) h3))) (s2r (S2_sai e3) (s2r (S2_sai e2) (s2r (S2_sai e1) h4))) (s2k (S2_sai e3) (s2k (S2_sai e2) (s2k (S2_sai e1) h5))) s1 (s2k (S2_sai e3) (s2k (S2_sai e2) (s2k (S2_sai e1) h6))) (s2r (S2_sai e3) (s2r (S2_sai e2) (s2r (S2_sai e1) h12))) (s2k (S2_sai e3) (s2k (S2_sai e2) (s2k (S2_sai e1) h13))) s13 s5 s14 s9 (s2r (S2_sai e3) (s2r (S2_sai e2) (s2r (S2_sai e1) h14))) (s2k (S2_sai e3) (s2k (S2_sai e2) (s2k (S2_sai e1) h15))) (s15 w1 e1 w2 e2 w3 e3)) (Nat.le_of_ble_eq_true rfl) (by decide) rfl rfl ?_
  refine mW_put (ty := .long) (w2 := sfl w3 a2 2 (vX9_costAtIndexes w3 a0_3 a1_2 a0_2)) dX9_takeIndexes_36 p_X9_86 (s2k (S2_sai e3) (s2k (S2_sai e2) (s2k (S2_sai e1) h1))) (Nat.le_of_ble_eq_true rfl) (by first | rfl | decide | (repeat' split) <;> rfl) rfl (hN_sfl _ _ _ _) (hk_sfl _ _ _ _) (mE_sfl (s2k (S2_sai e3) (s2k (S2_sai e2) (s2k (S2_sai e1) h1))) (by decide) (ob_0_2 _ _ _)) ?_
  refine mW_nm (fun w4 e4 => ?_)
  refine mW_aload_n (j := 3) dX9_takeIndexes_39 rfl rfl ?_
  refine mW_iconst (v := 1) dX9_takeIndexes_40 (by decide) ?_
  refine mW_put (ty := .boolean) (w2 := sfi w4 a2 0 1) dX9_takeIndexes_41 p_X9_115 (s2k (S2_sfl e4) (s2k (S2_sai e3) (s2k (S2_sai e2) (s2k (S2_sai e1) h1)))) (Nat.le_of_ble_eq_true rfl) (by first | rfl | decide | (repeat' split) <;> rfl) rfl (hN_sfi _ _ _ _) (hk_sfi _ _ _ _) (mE_sfi (s2k (S2_sfl e4) (s2k (S2_sai e3) (s2k (S2_sai e2) (s2k (S2_sai e1) h1)))) (by decide) (ob_0_0 _ _ _)) ?_
  refine mW_nm (fun w5 e5 => ?_)
  exact mW_vret dX9_takeIndexes_44 rfl (k1 w1 e1 w2 e2 w3 e3 w4 e4 w5 e5)
abbrev mX9_greaterCosts : mM := (yX9_greaterCosts, cX9_greaterCosts, 7, (some .int), [])
theorem u606 : (Cond.code ⟨"LineFollowerBench$Grid", "triples", "()I"⟩ prog_3_method_2_code 1 (some .int) : Cond) ∈ mTs := mTs_in 606 (by decide +kernel) (by decide +kernel)
theorem co_X1_triples : mCode mX1_triples := ⟨u606, u72, by decide⟩
theorem u603 : (Cond.methodLink "LineFollowerBench$Tuner" 43 ⟨"LineFollowerBench$Grid", "triples", "()I"⟩ : Cond) ∈ mTs := mTs_in 603 (by decide +kernel) (by decide +kernel)
theorem u604 : (Cond.instanceMethod ⟨"LineFollowerBench$Grid", "triples", "()I"⟩ : Cond) ∈ mTs := mTs_in 604 (by decide +kernel) (by decide +kernel)
theorem u605 : (Cond.selects "LineFollowerBench$Grid" ⟨"LineFollowerBench$Grid", "triples", "()I"⟩ ⟨"LineFollowerBench$Grid", "triples", "()I"⟩ : Cond) ∈ mTs := mTs_in 605 (by decide +kernel) (by decide +kernel)
theorem l_X9_43 : mLinkV "LineFollowerBench$Tuner" 43 0 mX1_triples := ⟨⟨by decide, by decide, by decide +kernel⟩, co_X1_triples, u603, u604, u605⟩
set_option maxHeartbeats 4000000 in
set_option maxRecDepth 100000 in
theorem gX9_greaterCosts_0 {G : mG} {w : mH} {Φ : mF} {a0 a1 : Nat} {y2 : Int64} {a1_2 n_a1_2 : Nat} (h1 : hk w a1 = (1, 0)) (h2 : hfr w a1 2 = some a1_2) (h3 : hk w a1_2 = (16, n_a1_2)) (s1 : vp_in 0 n_a1_2) (s2 : vp_in 1 n_a1_2) (s3 : vp_in 2 n_a1_2) (k1 : mW G mX9_greaterCosts 3 0 0 12 [(0, .ref a0), (1, .ref a1), (2, .long y2), (4, .int (vX1_triples w a1_2)), (5, .int 0), (6, .int 0)] [] w Φ) : mW G mX9_greaterCosts 3 0 0 0 [(0, .ref a0), (1, .ref a1), (2, .long y2)] [] w Φ := by
  refine mW_aload_n (j := 1) dX9_greaterCosts_0 rfl rfl ?_
  refine mW_callVe (As := []) (rest := []) (kc2 := 0) (ks2 := 0) dX9_greaterCosts_1 l_X9_43 rfl h1 rfl (by decide) (qX1_triples (w := w) (a0 := a1) h1 h2 h3 s1 s2 s3) (Nat.le_of_ble_eq_true rfl) (by decide) rfl rfl ?_
  refine mW_istore (lv2 := [(4, .int (vX1_triples w a1_2)), (0, .ref a0), (1, .ref a1), (2, .long y2)]) dX9_greaterCosts_4 (by decide) rfl ?_
  refine mW_iconst (v := 0) dX9_greaterCosts_6 (by decide) ?_
  refine mW_istore (lv2 := [(5, .int 0), (4, .int (vX1_triples w a1_2)), (0, .ref a0), (1, .ref a1), (2, .long y2)]) dX9_greaterCosts_7 (by decide) rfl ?_
  refine mW_iconst (v := 0) dX9_greaterCosts_9 (by decide) ?_
  refine mW_istore (lv2 := [(6, .int 0), (5, .int 0), (4, .int (vX1_triples w a1_2)), (0, .ref a0), (1, .ref a1), (2, .long y2)]) dX9_greaterCosts_10 (by decide) rfl ?_
  refine mW_loc [3, 4, 5, 2, 1, 0] (lv2 := [(0, .ref a0), (1, .ref a1), (2, .long y2), (4, .int (vX1_triples w a1_2)), (5, .int 0), (6, .int 0)]) rfl ?_
  exact k1
set_option maxHeartbeats 4000000 in
set_option maxRecDepth 100000 in
theorem gX9_greaterCosts_12 {G : mG} {w : mH} {Φ : mF} {a0 a1 : Nat} {y2 : Int64} {x4 x5 x6 : Int32} {a0_2 n_a0_2 : Nat} (h1 : hk w a0 = (9, 0)) (h2 : hfr w a0 2 = some a0_2) (h3 : hk w a0_2 = (17, n_a0_2)) (s1 : (¬ (x4 ≤ x6)) → (¬ (216 ≤ x6)) → vp_in x6 n_a0_2) (k1 : (x4 ≤ x6) → Φ (.inl (some (.int x5))) w) (k2 : (¬ (x4 ≤ x6)) → (216 ≤ x6) → Φ (.inl (some (.int x5))) w) (k3 : (¬ (x4 ≤ x6)) → (¬ (216 ≤ x6)) → ((lg_cmp (hal w a0_2 x6.toNatClampNeg) y2) ≤ 0) → mW G mX9_greaterCosts 3 0 0 12 [(0, .ref a0), (1, .ref a1), (2, .long y2), (4, .int x4), (5, .int x5), (6, .int (x6 + 1))] [] w Φ) (k4 : (¬ (x4 ≤ x6)) → (¬ (216 ≤ x6)) → (¬ ((lg_cmp (hal w a0_2 x6.toNatClampNeg) y2) ≤ 0)) → mW G mX9_greaterCosts 3 0 0 12 [(0, .ref a0), (1, .ref a1), (2, .long y2), (4, .int x4), (5, .int (x5 + 1)), (6, .int (x6 + 1))] [] w Φ) : mW G mX9_greaterCosts 3 0 0 12 [(0, .ref a0), (1, .ref a1), (2, .long y2), (4, .int x4), (5, .int x5), (6, .int x6)] [] w Φ := by
  refine mW_iload (j := 5) dX9_greaterCosts_12 rfl ?_
  refine mW_iload (j := 3) dX9_greaterCosts_14 rfl ?_
  refine mW_icmp_ge (tgt := 48) dX9_greaterCosts_16 (by decide) (fun c1 => ?_) (fun c1 => ?_)
  · refine mW_iload (j := 4) dX9_greaterCosts_48 rfl ?_
    exact mW_iret dX9_greaterCosts_50 rfl (k1 c1)
  · refine mW_iload (j := 5) dX9_greaterCosts_19 rfl ?_
    refine mW_sipush (v := 216) dX9_greaterCosts_21 (by decide) ?_
    refine mW_icmp_ge (tgt := 48) dX9_greaterCosts_24 (by decide) (fun c2 => ?_) (fun c2 => ?_)
    · refine mW_iload (j := 4) dX9_greaterCosts_48 rfl ?_
      exact mW_iret dX9_greaterCosts_50 rfl (k2 c1 c2)
    · refine mW_aload_n (j := 0) dX9_greaterCosts_27 rfl rfl ?_
      refine mW_getR dX9_greaterCosts_28 f_X9_25 h1 rfl h2 ?_
      refine mW_iload (j := 5) dX9_greaterCosts_31 rfl ?_
      refine mW_laldJ dX9_greaterCosts_33 h3 (s1 c1 c2) rfl ?_
      refine mW_lload_n (j := 2) dX9_greaterCosts_34 rfl rfl ?_
      refine mW_lcmp dX9_greaterCosts_35 ?_
      refine mW_if_le (tgt := 42) dX9_greaterCosts_36 (by decide) (fun c3 => ?_) (fun c3 => ?_)
      · refine mW_iinc (j := 5) (v := x6 + 1) (lv2 := [(6, .int (x6 + 1)), (0, .ref a0), (1, .ref a1), (2, .long y2), (4, .int x4), (5, .int x5)]) dX9_greaterCosts_42 rfl rfl (by decide) rfl ?_
        refine mW_goto (tgt := 12) dX9_greaterCosts_45 (by decide) ?_
        refine mW_loc [1, 2, 3, 4, 5, 0] (lv2 := [(0, .ref a0), (1, .ref a1), (2, .long y2), (4, .int x4), (5, .int x5), (6, .int (x6 + 1))]) rfl ?_
        exact k3 c1 c2 c3
      · refine mW_iinc (j := 4) (v := x5 + 1) (lv2 := [(5, .int (x5 + 1)), (0, .ref a0), (1, .ref a1), (2, .long y2), (4, .int x4), (6, .int x6)]) dX9_greaterCosts_39 rfl rfl (by decide) rfl ?_
        refine mW_iinc (j := 5) (v := x6 + 1) (lv2 := [(6, .int (x6 + 1)), (5, .int (x5 + 1)), (0, .ref a0), (1, .ref a1), (2, .long y2), (4, .int x4)]) dX9_greaterCosts_42 rfl rfl (by decide) rfl ?_
        refine mW_goto (tgt := 12) dX9_greaterCosts_45 (by decide) ?_
        refine mW_loc [2, 3, 4, 5, 1, 0] (lv2 := [(0, .ref a0), (1, .ref a1), (2, .long y2), (4, .int x4), (5, .int (x5 + 1)), (6, .int (x6 + 1))]) rfl ?_
        exact k4 c1 c2 c3
