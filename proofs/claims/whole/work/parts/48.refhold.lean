/-! the reference: hold, apply -/
def hdK (H T : Nat → Int32) (k : Nat) : Nat → Int32 := fun t => if t < k then T t else H t
theorem hold_loop {G : mG} {w0 : mH} {a0 N : Nat} {Φ : mF} (z : zRef w0 a0) (hN : hfi w0 a0 26 = nI N) (h200 : N ≤ 200) : ∀ j k w, k + j = N + 1 → xF [] [16] a0 w0 w → hai w (a0 + 16) = hdK (hai w0 (a0 + 16)) (hai w0 (a0 + 15)) k →
    (∀ w', xF [] [16] a0 w0 w' → hai w' (a0 + 16) = hdK (hai w0 (a0 + 16)) (hai w0 (a0 + 15)) (N + 1) → Φ (.inl (some (.int (hfi w' a0 29)))) w') → mW G mX11_hold 1 0 0 40 [(0, .ref a0), (1, .int (nI k))] [] w Φ := by
  intro j
  induction j with
  | zero =>
    intro k w hk F hA hΦ
    have hk' : k = N + 1 := by omega
    subst hk'
    have hs := mS2.of F.1
    have cn : hfi w a0 26 < nI (N + 1) ↔ N < N + 1 := by rw [F.fi (by decide), hN]; exact m_lt (by omega) (by omega)
    refine gX11_hold_40 (a0_30 := a0 + 16) (a0_27 := a0 + 15) ((zRef_s2 hs z).1) ((zRef_s2 hs z).2.2.2.2.2.2.2.2.2.2.2.2.2.2.2.2.1) ((zRef_s2 hs z).2.2.2.2.2.2.2.2.2.2.2.2.2.2.2.1) ((zRef_s2 hs z).2.2.2.2.2.2.2.2.2.2.2.2.2.2.2.2.2.2.2.2.2.2.2.2.2.2.2.2.2.2.2.2.2.2.2.2.1) (by intro c1; exact m_vp (by rw [cn] at c1; omega) (by decide)) ((zRef_s2 hs z).2.2.2.2.2.2.2.2.2.2.2.2.2.2.2.2.2.2.2.2.2.2.2.2.2.2.2.2.2.2.2.2.2.2.2.2.2.1) (by intro c1; exact m_vp (by rw [cn] at c1; omega) (by decide)) ?_ ?_
    · intro _
      exact hΦ w F hA
    · intro c1
      rw [cn] at c1
      omega
  | succ j ih =>
    intro k w hk F hA hΦ
    have hs := mS2.of F.1
    have cn : hfi w a0 26 < nI k ↔ N < k := by rw [F.fi (by decide), hN]; exact m_lt (by omega) (by omega)
    refine gX11_hold_40 (a0_30 := a0 + 16) (a0_27 := a0 + 15) ((zRef_s2 hs z).1) ((zRef_s2 hs z).2.2.2.2.2.2.2.2.2.2.2.2.2.2.2.2.1) ((zRef_s2 hs z).2.2.2.2.2.2.2.2.2.2.2.2.2.2.2.1) ((zRef_s2 hs z).2.2.2.2.2.2.2.2.2.2.2.2.2.2.2.2.2.2.2.2.2.2.2.2.2.2.2.2.2.2.2.2.2.2.2.2.1) (by intro c1; exact m_vp (by rw [cn] at c1; omega) (by decide)) ((zRef_s2 hs z).2.2.2.2.2.2.2.2.2.2.2.2.2.2.2.2.2.2.2.2.2.2.2.2.2.2.2.2.2.2.2.2.2.2.2.2.2.1) (by intro c1; exact m_vp (by rw [cn] at c1; omega) (by decide)) ?_ ?_
    · intro c1
      rw [cn] at c1
      omega
    · intro c1 w1 e
      rw [m_cl (by omega), F.ai (by decide)] at e
      rw [nI_1]
      refine ih (k + 1) w1 (by omega) (by rw [e]; exact xF_sai F (by decide)) ?_ hΦ
      rw [e, e_hai_sai, up2_row, hA]
      funext i
      unfold upd hdK
      by_cases h : i = k
      · rw [if_pos h, if_pos (by omega), h]
      · rw [if_neg h]
        by_cases q : i < k
        · rw [if_pos q, if_pos (by omega)]
        · rw [if_neg q, if_neg (by omega)]
theorem rX11_hold {G : mG} {w : mH} {a0 N : Nat} (z : zRef w a0) (hN : hfi w a0 26 = nI N) (h200 : N ≤ 200) : mC G mX11_hold 1 0 0 [.ref a0] w (mP (some (.int (if hfi w a0 25 = 0 then 0 else nI N))) (fun w' => hfi w' a0 0 = (if hfi w a0 25 = 0 then 1 else 0) ∧ (hfi w a0 25 = 0 → xF [0] [] a0 w w') ∧ (¬ hfi w a0 25 = 0 → xF [0, 28, 29] [16] a0 w w' ∧ hfi w' a0 28 = 1 ∧ hfi w' a0 29 = nI N ∧ ∀ t, t ≤ N → hai w' (a0 + 16) t = hai w (a0 + 15) t))) := by
  refine mC_of (by decide +kernel) rfl (Nat.le_of_ble_eq_true rfl) rfl ?_
  refine gX11_hold_0 z.1 ?_ ?_
  · intro c1 w1 e1
    rw [if_pos c1, if_pos c1]
    exact mP_of ⟨by rw [e1, e_hfi_sfi, up2_at], fun _ => by rw [e1]; exact xF_sfi xF.rf (by decide), fun q => absurd c1 q⟩
  · intro c1 w2 e2 w3 e3 w4 e4
    rw [if_neg c1, if_neg c1]
    have F4 : xF [0, 28, 29] [16] a0 w w4 := by rw [e4, e3, e2]; exact xF_sfi (xF_sfi (xF_sfi xF.rf (by decide)) (by decide)) (by decide)
    have g26 : hfi w4 a0 26 = nI N := (F4.fi (by decide)).trans hN
    have g29 : hfi w4 a0 29 = nI N := by rw [e4, e_hfi_sfi, up2_at]; exact hN
    have g28 : hfi w4 a0 28 = 1 := by rw [e4, e_hfi_sfi, up2_k _ _ _ (by decide), e3, e_hfi_sfi, up2_at]
    have g0 : hfi w4 a0 0 = 0 := by rw [e4, e_hfi_sfi, up2_k _ _ _ (by decide), e3, e_hfi_sfi, up2_k _ _ _ (by decide), e2, e_hfi_sfi, up2_at]
    have T15 : hai w4 (a0 + 15) = hai w (a0 + 15) := F4.ai (by decide)
    refine hold_loop (zRef_s2 (mS2.of F4.1) z) g26 h200 (N + 1) 0 w4 (by omega) xF.rf ?_ (fun w' F' er => ?_)
    · funext i
      unfold hdK
      rw [if_neg (by omega)]
    · rw [F'.fi (by decide), g29]
      refine mP_of ⟨by rw [F'.fi (by decide), g0], fun q => absurd q c1, fun _ => ⟨F4.tr (F'.wide (by decide) (by decide)), by rw [F'.fi (by decide), g28], by rw [F'.fi (by decide), g29], fun t ht => ?_⟩⟩
      rw [er, T15]
      unfold hdK
      rw [if_pos (by omega)]
def dif (x y : Int32) : Int32 := if x = y then 0 else 1
theorem ap_step {G : mG} {w : mH} {a0 g i : Nat} {x1 x3 : Int32} {Φ : mF} (z : zRef w a0) (hg : g < 3) (hi : i ≤ 1) (k : ∀ w', w' = sai w (a0 + 1) g (hai w (a0 + 18) (3 * i + g)) → mW G mX11_apply 4 0 0 46 [(0, .ref a0), (1, .int x1), (2, .int (nI i)), (3, .int (x3 + dif (hai w (a0 + 1) g) (hai w (a0 + 18) (3 * i + g)))), (4, .int (nI (g + 1)))] [] w' Φ) : mW G mX11_apply 4 0 0 46 [(0, .ref a0), (1, .int x1), (2, .int (nI i)), (3, .int x3), (4, .int (nI g))] [] w Φ := by
  have e3 : (3 : Int32) * nI i + nI g = nI (3 * i + g) := by rw [show (3 : Int32) = nI 3 from rfl, pk_mul, nI_add]
  have c3 : (3 : Int32) ≤ nI g ↔ 3 ≤ g := m_le (a := 3) (by omega) (by omega)
  refine gX11_apply_46 (c := 0) (A := fun _ => 0) (a0_1 := a0 + 1) (a0_32 := a0 + 18) z.1 z.2.1 z.2.2.2.2.2.2.2.2.2.2.2.2.2.2.2.2.2.2.2.2.2.2.1 (by intro c1; exact m_vp (by omega) (by decide)) z.2.2.2.2.2.2.2.2.2.2.2.2.2.2.2.2.2.2.1 z.2.2.2.2.2.2.2.2.2.2.2.2.2.2.2.2.2.2.2.2.2.2.2.2.2.2.2.2.2.2.2.2.2.2.2.2.2.2.2.1 (by intro c1; rw [e3]; exact m_vp (by omega) (by decide)) ?_ ?_ ?_
  · intro c1
    rw [c3] at c1
    omega
  · intro c1 c2 w1 e1
    rw [e3, m_cl (by omega), m_cl (by omega)] at c2 e1
    have := k w1 e1
    unfold dif at this
    rw [if_neg c2] at this
    rw [nI_1]
    exact this
  · intro c1 c2 w2 e2
    rw [e3, m_cl (by omega), m_cl (by omega)] at c2 e2
    have := k w2 e2
    unfold dif at this
    rw [if_pos c2] at this
    rw [nI_1]
    exact this
theorem ap_all {G : mG} {w : mH} {a0 i : Nat} {x1 : Int32} {Φ : mF} (z : zRef w a0) (hi : i ≤ 1) (k : ∀ w', xF [] [1] a0 w w' → hai w' (a0 + 1) = aGain (hai w (a0 + 1)) (hai w (a0 + 18) (3 * i)) (hai w (a0 + 18) (3 * i + 1)) (hai w (a0 + 18) (3 * i + 2)) → Φ (.inl (some (.int (0 + dif (hai w (a0 + 1) 0) (hai w (a0 + 18) (3 * i)) + dif (hai w (a0 + 1) 1) (hai w (a0 + 18) (3 * i + 1)) + dif (hai w (a0 + 1) 2) (hai w (a0 + 18) (3 * i + 2)))))) w') : mW G mX11_apply 4 0 0 46 [(0, .ref a0), (1, .int x1), (2, .int (nI i)), (3, .int 0), (4, .int 0)] [] w Φ := by
  have n18 : a0 + 18 ≠ a0 + 1 := by omega
  rw [show (0 : Int32) = nI 0 from rfl]
  refine ap_step z (by omega) hi (fun w1 e1 => ?_)
  have z1 : zRef w1 a0 := by rw [e1]; exact z
  refine ap_step z1 (by omega) hi (fun w2 e2 => ?_)
  have z2 : zRef w2 a0 := by rw [e2]; exact z1
  refine ap_step z2 (by omega) hi (fun w3 e3 => ?_)
  have z3 : zRef w3 a0 := by rw [e3]; exact z2
  have h18 : hai w1 (a0 + 18) = hai w (a0 + 18) := by rw [e1, e_hai_sai, up2_a _ _ _ n18]
  have h18' : hai w2 (a0 + 18) = hai w (a0 + 18) := by rw [e2, e_hai_sai, up2_a _ _ _ n18, h18]
  have r1 : hai w1 (a0 + 1) = upd (hai w (a0 + 1)) 0 (hai w (a0 + 18) (3 * i + 0)) := by rw [e1, e_hai_sai, up2_row]
  have r2 : hai w2 (a0 + 1) = upd (hai w1 (a0 + 1)) 1 (hai w (a0 + 18) (3 * i + 1)) := by rw [e2, e_hai_sai, up2_row, h18]
  have r3 : hai w3 (a0 + 1) = upd (hai w2 (a0 + 1)) 2 (hai w (a0 + 18) (3 * i + 2)) := by rw [e3, e_hai_sai, up2_row, h18']
  have v1 : hai w1 (a0 + 1) 1 = hai w (a0 + 1) 1 := by rw [r1]; exact upd_ne (by omega)
  have v2 : hai w2 (a0 + 1) 2 = hai w (a0 + 1) 2 := by rw [r2, r1]; exact (upd_ne (by omega)).trans (upd_ne (by omega))
  rw [h18, h18', v1, v2]
  have K := k w3 (by rw [e3, e2, e1]; exact xF_sai (xF_sai (xF_sai xF.rf (by decide)) (by decide)) (by decide)) (by rw [r3, r2, r1]; rfl)
  refine gX11_apply_46 (c := 0) (A := fun _ => 0) z3.1 (z3.2.1) (z3.2.2.2.2.2.2.2.2.2.2.2.2.2.2.2.2.2.2.2.2.2.2.1) (fun q => absurd (by decide) q) (z3.2.2.2.2.2.2.2.2.2.2.2.2.2.2.2.2.2.2.1) (z3.2.2.2.2.2.2.2.2.2.2.2.2.2.2.2.2.2.2.2.2.2.2.2.2.2.2.2.2.2.2.2.2.2.2.2.2.2.2.2.1) (fun q => absurd (by decide) q) (fun _ => K) (fun q => absurd (by decide) q) (fun q => absurd (by decide) q)
def wix (x : Int32) : Nat := if x = 0 then 0 else 1
theorem rX11_apply {G : mG} {w : mH} {a0 c : Nat} {x1 : Int32} (z : zRef w a0) (h5 : hfi w a0 5 = nI c) (hc : c ≤ 6) : mC G mX11_apply 4 0 0 [.ref a0, .int x1] w (mP (some (.int (if hai w (a0 + 17) (wix x1) = 0 then 0 else 0 + dif (hai w (a0 + 1) 0) (hai w (a0 + 18) (3 * wix x1)) + dif (hai w (a0 + 1) 1) (hai w (a0 + 18) (3 * wix x1 + 1)) + dif (hai w (a0 + 1) 2) (hai w (a0 + 18) (3 * wix x1 + 2))))) (fun w' => chO w w' a0 c (if hai w (a0 + 17) (wix x1) = 0 then 1 else 0) (aGain (hai w (a0 + 1)) (hai w (a0 + 18) (3 * wix x1)) (hai w (a0 + 18) (3 * wix x1 + 1)) (hai w (a0 + 18) (3 * wix x1 + 2))))) := by
  have fin : ∀ (w2 w3 : mH) (i : Nat), i ≤ 1 → w2 = sfi w a0 0 0 → kpO w2 w3 a0 c → mW G mX11_apply 4 0 0 46 [(0, .ref a0), (1, .int x1), (2, .int (nI i)), (3, .int 0), (4, .int 0)] [] w3 (mP (some (.int (0 + dif (hai w (a0 + 1) 0) (hai w (a0 + 18) (3 * i)) + dif (hai w (a0 + 1) 1) (hai w (a0 + 18) (3 * i + 1)) + dif (hai w (a0 + 1) 2) (hai w (a0 + 18) (3 * i + 2))))) (fun w' => chO w w' a0 c 0 (aGain (hai w (a0 + 1)) (hai w (a0 + 18) (3 * i)) (hai w (a0 + 18) (3 * i + 1)) (hai w (a0 + 18) (3 * i + 2))))) := fun w2 w3 i hi e2 K => by
    have z2 : zRef w2 a0 := by rw [e2]; exact z
    have h18 : hai w3 (a0 + 18) = hai w (a0 + 18) := by rw [K.1.ai (by decide), e2]; rfl
    have hr : ∀ k, k < 78 → hai w3 (a0 + 1) k = hai w (a0 + 1) k := fun k hk => by rw [kp_0 K hk, e2]; rfl
    refine ap_all (zRef_s2 (mS2.of K.1.1) z2) hi (fun w' F er => ?_)
    rw [h18] at er ⊢
    rw [hr 0 (by decide), hr 1 (by decide), hr 2 (by decide)]
    refine mP_of (chO_ok e2 K F (fun k hk => ?_) (fun j hj => ?_))
    · rw [er]
      unfold aGain
      exact upd_c (upd_c (upd_c hr rfl) rfl) rfl k hk
    · rw [er]
      unfold aGain
      rw [upd_ne (by omega), upd_ne (by omega), upd_ne (by omega)]
  refine mC_of (by decide +kernel) rfl (Nat.le_of_ble_eq_true rfl) rfl ?_
  refine gX11_apply_0 (c := c) (A := fun _ => 0) (a0_31 := a0 + 17) z.1 z.2.2.2.2.2.2.2.2.2.2.2.2.2.2.2.2.2.1 z.2.2.2.2.2.2.2.2.2.2.2.2.2.2.2.2.2.2.2.2.2.2.2.2.2.2.2.2.2.2.2.2.2.2.2.2.2.2.1 (by intros; unfold vp_in; decide) z (by intro c1 c2 w2 e2; rw [e2, e_hfi_sfi, up2_k _ _ _ (by decide)]; exact h5) (by intro c1 c2 w2 e2; exact hc) (by intros; unfold vp_in; decide) (by intro c1 c3 w5 e4; rw [e4, e_hfi_sfi, up2_k _ _ _ (by decide)]; exact h5) (by intro c1 c3 w5 e4; exact hc) ?_ ?_ ?_ ?_
  · intro c1 c2 w1 e1
    have ew : wix x1 = 0 := if_pos c1
    rw [ew, if_pos c2, if_pos c2]
    exact mP_of (chO_bad (by decide) e1)
  · intro c1 c2 w2 e2 w3 q1
    have ew : wix x1 = 0 := if_pos c1
    rw [ew, if_neg c2, if_neg c2]
    exact fin w2 w3 0 (by decide) e2 q1
  · intro c1 c3 w4 e3
    have ew : wix x1 = 1 := if_neg c1
    rw [ew, if_pos c3, if_pos c3]
    exact mP_of (chO_bad (by decide) e3)
  · intro c1 c3 w5 e4 w6 q2
    have ew : wix x1 = 1 := if_neg c1
    rw [ew, if_neg c3, if_neg c3]
    exact fin w5 w6 1 (by decide) e4 q2

