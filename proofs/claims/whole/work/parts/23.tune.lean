theorem rX9_takeIndexes {G : mG} {w : mH} {a0 a1 a2 i j k : Nat} {A : Nat → Int32} (z0 : zTun w a0) (z1 : zGrid w a1) (z2 : zFnd w a2) (hd : a0 + 18 ≤ a2 ∨ a2 + 2 ≤ a0) (hd1 : a1 + 4 ≤ a2 ∨ a2 + 2 ≤ a1) (h : gRep w a1 A) (ok : gOK A) (hi : i < cG A 0) (hj : j < cG A 1) (hk : k < cG A 2) (r : iRep w a0 i j k) : mC G mX9_takeIndexes 3 0 0 [.ref a0, .ref a1, .ref a2] w (mP none (fun w' => mFr a2 (a2 + 2) w w' ∧ hfi w' a2 0 = 1 ∧ hai w' (a2 + 1) 0 = gVal A 0 i ∧ hai w' (a2 + 1) 1 = gVal A 1 j ∧ hai w' (a2 + 1) 2 = gVal A 2 k ∧ hfl w' a2 2 = hal w (a0 + 16) (fl A i j k) ∧ hfi w' a2 3 = hfi w a2 3)) := by
  have K : ∀ w1 w2 w3 : mH, w1 = sai w (a2 + 1) 0 (vX1_gainAt w 0 (hai w (a0 + 17) 0) (a1 + 1) (a1 + 2)) → w2 = sai w1 (a2 + 1) 1 (vX1_gainAt w1 1 (hai w1 (a0 + 17) 1) (a1 + 1) (a1 + 2)) → w3 = sai w2 (a2 + 1) 2 (vX1_gainAt w2 2 (hai w2 (a0 + 17) 2) (a1 + 1) (a1 + 2)) → mFr (a2 + 1) (a2 + 2) w w3 ∧ (hai w3 (a2 + 1) 0 = gVal A 0 i ∧ hai w3 (a2 + 1) 1 = gVal A 1 j ∧ hai w3 (a2 + 1) 2 = gVal A 2 k) ∧ vp_in (((((hai w3 (a0 + 17) 0) * (hai w3 (a1 + 3) 1)) + (hai w3 (a0 + 17) 1)) * (hai w3 (a1 + 3) 2)) + (hai w3 (a0 + 17) 2)) 216 := by
    intro w1 w2 w3 e1 e2 e3
    have f1 : mFr (a2 + 1) (a2 + 2) w w1 := by rw [e1]; exact mFr_sai mFr.rf (by omega) (by omega)
    have f2 : mFr (a2 + 1) (a2 + 2) w w2 := by rw [e2]; exact mFr_sai f1 (by omega) (by omega)
    have f3 : mFr (a2 + 1) (a2 + 2) w w3 := by rw [e3]; exact mFr_sai f2 (by omega) (by omega)
    have g1 : vX1_gainAt w 0 (hai w (a0 + 17) 0) (a1 + 1) (a1 + 2) = gVal A 0 i := by rw [r.1]; exact gain_v (g := 0) h (by decide)
    have g2 : vX1_gainAt w1 1 (hai w1 (a0 + 17) 1) (a1 + 1) (a1 + 2) = gVal A 1 j := by rw [f1.hai (by omega), r.2.1]; exact gain_v (g := 1) (gRep_fr f1 (by omega) h) (by decide)
    have g3 : vX1_gainAt w2 2 (hai w2 (a0 + 17) 2) (a1 + 1) (a1 + 2) = gVal A 2 k := by rw [f2.hai (by omega), r.2.2]; exact gain_v (g := 2) (gRep_fr f2 (by omega) h) (by decide)
    rw [g1] at e1
    rw [g2] at e2
    rw [g3] at e3
    refine ⟨f3, ⟨?_, ?_, ?_⟩, ?_⟩
    · rw [e3, e_hai_sai, up2_k _ _ _ (by decide), e2, e_hai_sai, up2_k _ _ _ (by decide), e1, e_hai_sai, up2_at]
    · rw [e3, e_hai_sai, up2_k _ _ _ (by decide), e2, e_hai_sai, up2_at]
    · rw [e3, e_hai_sai, up2_at]
    · have r3 := iRep_fr f3 (by omega) r
      have h3 := gRep_fr f3 (by omega) h
      have hlt := fl_lt hi hj hk
      have h216 := (gT_le ok).2
      have e : ((((hai w3 (a0 + 17) 0) * (hai w3 (a1 + 3) 1)) + (hai w3 (a0 + 17) 1)) * (hai w3 (a1 + 3) 2)) + (hai w3 (a0 + 17) 2) = nI (fl A i j k) := by
        rw [r3.1, r3.2.1, r3.2.2, gRep_c h3 ok (by decide), gRep_c h3 ok (by decide), pk_mul, nI_add, pk_mul, nI_add]
        rfl
      rw [e]
      exact m_vp (by omega) (by omega)
  refine mC_of (by decide +kernel) rfl (Nat.le_of_ble_eq_true rfl) rfl ?_
  refine gX9_takeIndexes_0 (a2_1 := a2 + 1) (a0_3 := a0 + 17) (a1_0 := a1 + 1) (a1_1 := a1 + 2) (a1_2 := a1 + 3) (a0_2 := a0 + 16) z2.1 z2.2.1 z0.1 z0.2.2.2.2.1 z0.2.2.2.2.2.2.2.2 (by intros; unfold vp_in; decide) z1.1 z1.2.1 z1.2.2.2.2.1 (by intros; unfold vp_in; decide) z1.2.2.1 z1.2.2.2.2.2.1 (by intros; unfold vp_in; decide) z2.2.2 (by intros; unfold vp_in; decide) (by intros; unfold vp_in; decide) (by intros; unfold vp_in; decide) (by intros; unfold vp_in; decide) (by intros; unfold vp_in; decide) (by intros; unfold vp_in; decide) (by intros; unfold vp_in; decide) (by intros; unfold vp_in; decide) (by intros; unfold vp_in; decide) z1.2.2.2.1 z1.2.2.2.2.2.2 (by intros; unfold vp_in; decide) (by intros; unfold vp_in; decide) z0.2.2.2.1 z0.2.2.2.2.2.2.2.1 (by intro w1 e1 w2 e2 w3 e3 _; exact (K w1 w2 w3 e1 e2 e3).2.2) ?_
  intro w1 e1 w2 e2 w3 e3 w4 e4 w5 e5
  obtain ⟨f3, ⟨g1, g2, g3⟩, -⟩ := K w1 w2 w3 e1 e2 e3
  rw [cost_v (gRep_fr f3 (by omega) h) ok hi hj hk (iRep_fr f3 (by omega) r), f3.hal (by omega)] at e4
  refine mP_of ⟨?_, ?_, ?_, ?_, ?_, ?_, ?_⟩
  · rw [e5, e4]
    exact mFr_sfi (mFr_sfl (f3.wide (by omega) (by omega)) (by omega) (by omega)) (by omega) (by omega)
  · rw [e5, e_hfi_sfi, up2_at]
  · rw [e5, e_hai_sfi, e4, e_hai_sfl]; exact g1
  · rw [e5, e_hai_sfi, e4, e_hai_sfl]; exact g2
  · rw [e5, e_hai_sfi, e4, e_hai_sfl]; exact g3
  · rw [e5, e_hfl_sfi, e4, e_hfl_sfl, up2_at]
  · rw [e5, e_hfi_sfi, up2_k _ _ _ (by decide), e4, e_hfi_sfl, f3.hfi (by omega)]
def fGt (q : Nat → Int64) (c : Int64) : Nat → Nat | 0 => 0 | k + 1 => if c < q k then fGt q c k + 1 else fGt q c k
theorem fGt_le (q : Nat → Int64) (c : Int64) : ∀ k, fGt q c k ≤ k
  | 0 => Nat.le_refl _
  | k + 1 => by
    have := fGt_le q c k
    rw [fGt]
    split <;> omega
theorem fGt_congr {q q' : Nat → Int64} {c : Int64} : ∀ k, (∀ j, j < k → q j = q' j) → fGt q c k = fGt q' c k
  | 0, _ => rfl
  | k + 1, h => by rw [fGt, fGt, fGt_congr k (fun j hj => h j (by omega)), h k (by omega)]
theorem qX9_greaterCosts {G : mG} {w : mH} {a0 a1 : Nat} {y2 : Int64} {A : Nat → Int32} (z0 : zTun w a0) (z1 : zGrid w a1) (h : gRep w a1 A) (ok : gOK A) : mC G mX9_greaterCosts 3 0 0 [.ref a0, .ref a1, .long y2] w (mEq (.inl (some (.int (nI (fGt (hal w (a0 + 16)) y2 (gT A)))))) w) := by
  obtain ⟨t1, t2⟩ := gT_le ok
  refine mC_of (by decide +kernel) rfl (Nat.le_of_ble_eq_true rfl) rfl ?_
  refine gX9_greaterCosts_0 (a1_2 := a1 + 3) z1.1 z1.2.2.2.1 z1.2.2.2.2.2.2 (by intros; unfold vp_in; decide) (by intros; unfold vp_in; decide) (by intros; unfold vp_in; decide) ?_
  rw [tri_v h ok]
  refine m_up0 (N := gT A) (P := fun i => mW G mX9_greaterCosts 3 0 0 12 [(0, .ref a0), (1, .ref a1), (2, .long y2), (4, .int (nI (gT A))), (5, .int (nI (fGt (hal w (a0 + 16)) y2 i))), (6, .int (nI i))] [] w _) ?_ ?_ 0 (by omega)
  · have hc : ¬ nI (gT A) ≤ nI (gT A) → gT A < gT A := fun c => absurd (Int32.le_refl _) c
    refine gX9_greaterCosts_12 (a0_2 := a0 + 16) z0.1 z0.2.2.2.1 z0.2.2.2.2.2.2.2.1 (by intro c1; intros; have := hc c1; exact m_vp (by omega) (by omega)) ?_ ?_ ?_ ?_
    · intro c1; exact mEq_rf
    · intro c1; exact absurd (Int32.le_refl _) c1
    · intro c1; exact absurd (Int32.le_refl _) c1
    · intro c1; exact absurd (Int32.le_refl _) c1
  · intro i hi ih
    have hc : ¬ nI (gT A) ≤ nI i → i < gT A := fun _ => hi
    have hcl : (nI i).toNatClampNeg = i := m_cl (by omega)
    refine gX9_greaterCosts_12 (a0_2 := a0 + 16) z0.1 z0.2.2.2.1 z0.2.2.2.2.2.2.2.1 (by intro c1; intros; have := hc c1; exact m_vp (by omega) (by omega)) ?_ ?_ ?_ ?_
    · intro c1; rw [m_le (by omega) (by omega)] at c1; omega
    · intro c1 c2; rw [show (216 : Int32) = nI 216 from rfl, m_le (by omega) (by omega)] at c2; omega
    · intro c1 c2 c3
      rw [hcl, lg_cmp_le] at c3
      have e : fGt (hal w (a0 + 16)) y2 (i + 1) = fGt (hal w (a0 + 16)) y2 i := by rw [fGt, if_neg (Int64.not_lt.mpr c3)]
      rw [nI_1, ← e]; exact ih
    · intro c1 c2 c3
      rw [hcl, lg_cmp_le] at c3
      have e : fGt (hal w (a0 + 16)) y2 (i + 1) = fGt (hal w (a0 + 16)) y2 i + 1 := by rw [fGt, if_pos (Int64.not_le.mp c3)]
      rw [nI_1, nI_1, ← e]; exact ih
