/-! the reference: removePoint -/
theorem fDel_c : ∀ j k (A B : Nat → Int32), k + j ≤ 5 → (∀ i, i < 78 → A i = B i) → ∀ i, i < 78 → fDel j k A i = fDel j k B i
  | 0, k, A, B, _, h => h
  | j + 1, k, A, B, hk, h => by
    rw [fDel, fDel]
    exact fDel_c j (k + 1) _ _ (by omega) (upd_c (upd_c h (h _ (by omega))) (h _ (by omega)))
theorem fDel_hi : ∀ j k (A : Nat → Int32), k + j ≤ 5 → ∀ i, 78 ≤ i → fDel j k A i = A i
  | 0, k, A, _ => fun _ _ => rfl
  | j + 1, k, A, hk => fun i hi => by
    rw [fDel, fDel_hi j (k + 1) _ (by omega) i hi, upd_ne (by omega), upd_ne (by omega)]
theorem fDel_29 : ∀ j k (A : Nat → Int32), fDel j k A 29 = A 29
  | 0, k, A => rfl
  | j + 1, k, A => by
    rw [fDel, fDel_29 j (k + 1), upd_ne (by omega), upd_ne (by omega)]
theorem rp_loop {G : mG} {w0 : mH} {a0 : Nat} {x1 x3 : Int32} {Φ : mF} (z : zRef w0 a0) : ∀ j k w R n, k + j + 1 = n → n ≤ 5 → R 29 = nI n → hai w (a0 + 1) = R → xF [] [1] a0 w0 w →
    (∀ w', xF [] [1] a0 w0 w' → hai w' (a0 + 1) = upd (fDel j k R) 29 (R 29 - 1) → Φ (.inl (some (.int x3))) w') → mW G mX11_removePoint 4 0 0 38 [(0, .ref a0), (1, .int x1), (2, .int (nI k)), (3, .int x3)] [] w Φ := by
  intro j
  induction j with
  | zero =>
    intro k w R n hn h5 h29 hR F hΦ
    have hs := mS2.of F.1
    have cn : hai w (a0 + 1) 29 ≤ nI k + 1 ↔ n ≤ k + 1 := by rw [hR, h29, nI_1]; exact m_le (by omega) (by omega)
    refine gX11_removePoint_38 (c := 0) (A := fun _ => 0) (a0_1 := a0 + 1) ((zRef_s2 hs z).1) ((zRef_s2 hs z).2.1) ((zRef_s2 hs z).2.2.2.2.2.2.2.2.2.2.2.2.2.2.2.2.2.2.2.2.2.2.1) (by intros; unfold vp_in; decide) (by intro c1; rw [nI_1, m_30]; exact m_vp (by omega) (by decide)) (by intro c1; rw [m_30]; exact m_vp (by omega) (by decide)) (by intro c1 w2 e2; rw [nI_1, m_30, nI_1]; exact m_vp (by omega) (by decide)) (by intro c1 w2 e2; rw [m_30, nI_1]; exact m_vp (by omega) (by decide)) ?_ ?_
    · intro _ w1 e1
      refine hΦ w1 (by rw [e1]; exact xF_sai F (by decide)) ?_
      rw [e1, e_hai_sai, up2_row, hR]
      rfl
    · intro c1
      rw [cn] at c1
      omega
  | succ j ih =>
    intro k w R n hn h5 h29 hR F hΦ
    have hs := mS2.of F.1
    have cn : hai w (a0 + 1) 29 ≤ nI k + 1 ↔ n ≤ k + 1 := by rw [hR, h29, nI_1]; exact m_le (by omega) (by omega)
    refine gX11_removePoint_38 (c := 0) (A := fun _ => 0) (a0_1 := a0 + 1) ((zRef_s2 hs z).1) ((zRef_s2 hs z).2.1) ((zRef_s2 hs z).2.2.2.2.2.2.2.2.2.2.2.2.2.2.2.2.2.2.2.2.2.2.1) (by intros; unfold vp_in; decide) (by intro c1; rw [nI_1, m_30]; exact m_vp (by omega) (by decide)) (by intro c1; rw [m_30]; exact m_vp (by omega) (by decide)) (by intro c1 w2 e2; rw [nI_1, m_30, nI_1]; exact m_vp (by omega) (by decide)) (by intro c1 w2 e2; rw [m_30, nI_1]; exact m_vp (by omega) (by decide)) ?_ ?_
    · intro c1
      rw [cn] at c1
      omega
    · intro c1 w2 e2 w3 e3
      rw [m_30, m_cl (by omega), nI_1, vX11_x_n (by omega), hR] at e2
      have r2 : hai w2 (a0 + 1) = upd R (30 + 2 * k) (R (30 + 2 * (k + 1))) := by rw [e2, e_hai_sai, up2_row, hR]; rfl
      rw [m_30, nI_1, m_cl (by omega), nI_1, vX11_y_n (by omega), r2, show rY (upd R (30 + 2 * k) (R (30 + 2 * (k + 1)))) (k + 1) = R (30 + 2 * (k + 1) + 1) from upd_ne (by omega)] at e3
      rw [fDel] at hΦ
      rw [nI_1]
      have h29' : upd (upd R (30 + 2 * k) (R (30 + 2 * (k + 1)))) (30 + 2 * k + 1) (R (30 + 2 * (k + 1) + 1)) 29 = R 29 := by rw [upd_ne (by omega), upd_ne (by omega)]
      exact ih (k + 1) w3 (upd (upd R (30 + 2 * k) (R (30 + 2 * (k + 1)))) (30 + 2 * k + 1) (R (30 + 2 * (k + 1) + 1))) n (by omega) h5 (h29'.trans h29) (by rw [e3, e_hai_sai, up2_row, r2]) (by rw [e3, e2]; exact xF_sai (xF_sai F (by decide)) (by decide)) (by rw [h29']; exact hΦ)
theorem rX11_removePoint {G : mG} {w : mH} {a0 c : Nat} {x1 : Int32} (z : zRef w a0) (h5 : hfi w a0 5 = nI c) (hc : c ≤ 6) (hA : ptOK (hai w (a0 + 1))) : mC G mX11_removePoint 4 0 0 [.ref a0, .int x1] w (mP (some (.int (if 0 ≤ fAt (hai w (a0 + 1)) x1 then rY (hai w (a0 + 1)) (fAt (hai w (a0 + 1)) x1).toNatClampNeg else 0))) (fun w' => chO w w' a0 c (if 0 ≤ fAt (hai w (a0 + 1)) x1 then 0 else 1) (fCut (hai w (a0 + 1)) (fAt (hai w (a0 + 1)) x1).toNatClampNeg))) := by
  refine mC_of (by decide +kernel) rfl (Nat.le_of_ble_eq_true rfl) rfl ?_
  refine gX11_removePoint_0 (c := c) (A := fun _ => 0) (a0_1 := a0 + 1) z.1 z (by exact hA) (by intro c1 w1 e1; rw [e1, e_hfi_sfi, up2_k _ _ _ (by decide)]; exact h5) (by intro c1 w1 e1; exact hc) z.2.1 z.2.2.2.2.2.2.2.2.2.2.2.2.2.2.2.2.2.2.2.2.2.2.1 (by intro c1 w1 e1 w2 q1; have K := kp_row hA e1 q1; have cx : (0 : Int32) ≤ fAt (hai w2 (a0 + 1)) x1 := (by rw [(K.1 x1).2.1]; exact c1); obtain ⟨q, hq, hqe⟩ := (K.1 x1).2.2 cx; rw [(K.1 x1).2.1] at hqe; rw [hqe, m_30, nI_1]; exact m_vp (by omega) (by decide)) ?_ ?_
  · intro c1 w1 e1 w2 q1
    have K := kp_row hA e1 q1
    have cx : (0 : Int32) ≤ fAt (hai w2 (a0 + 1)) x1 := (by rw [(K.1 x1).2.1]; exact c1)
    obtain ⟨q, hq, hqe⟩ := (K.1 x1).2.2 cx
    rw [(K.1 x1).2.1] at hqe
    have hqn : q < nPt (hai w (a0 + 1)) := by
      rcases fAt_v (hai w (a0 + 1)) x1 with e | ⟨i, hi, e⟩
      · rw [e] at c1; exact absurd c1 (by decide)
      · rw [e] at hqe
        have := (nI_eq (by have := hA.2; omega) (by omega)).mp hqe
        omega
    have hA5 := hA.2
    have e29 : hai w2 (a0 + 1) 29 = nI (nPt (hai w (a0 + 1))) := by rw [K.2 29 (by decide)]; exact hA.1
    have Z2 := zRef_s2 (mS2.of q1.1.1) (zRef_s2 (mS2.of (show xF [0] [] a0 w w1 by rw [e1]; exact xF_sfi xF.rf (by decide)).1) z)
    rw [if_pos c1, if_pos c1, hqe, m_cl (by omega), vX11_y_n (by omega), show rY (hai w2 (a0 + 1)) q = rY (hai w (a0 + 1)) q from K.2 _ (by omega)]
    refine rp_loop Z2 (nPt (hai w (a0 + 1)) - 1 - q) q w2 (hai w2 (a0 + 1)) (nPt (hai w (a0 + 1))) (by omega) hA5 e29 rfl xF.rf (fun w' F' er => ?_)
    have ek := fDel_c (nPt (hai w (a0 + 1)) - 1 - q) q _ _ (by omega) K.2
    have hi := fDel_hi (nPt (hai w (a0 + 1)) - 1 - q) q (hai w2 (a0 + 1)) (by omega)
    exact mP_of (chO_ok e1 q1 F' (fun k hk => by rw [er]; exact upd_c ek (by rw [K.2 29 (by decide)]) k hk) (fun j hj => by rw [er, upd_ne (by omega)]; exact hi j hj))
  · intro c1 w3 e2
    rw [if_neg c1, if_neg c1]
    exact mP_of (chO_bad (by decide) e2)

